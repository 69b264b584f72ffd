set_option maxRecDepth 100000 in
/-- GatheredPoints.feed, pc 0 -/
theorem s_2817_e {L d : Nat} {K : Option gV → gH → Prop} {s : gH} (p0 : BitVec 64) (p1 : Int) (H : ((p1 < 1 → gs_E L (d + 1) 2817 11 [gp_r (some 1), gp_l p0, gp_n, gp_i p1, gp_n] [] s K) ∧ (¬ p1 < 1 → ((8 < p1 → gs_E L (d + 1) 2817 11 [gp_r (some 1), gp_l p0, gp_n, gp_i p1, gp_n] [] s K) ∧ (¬ 8 < p1 → ((100 < (gp_wr ((gp_I s 1 2) + p1)) → gs_C L d 2855 2 [gp_r (some 1), gp_i 4] s (fun r s1 => ∃ x2, r = some (gp_i x2) ∧ K (some (gp_i x2)) s1)) ∧ (¬ 100 < (gp_wr ((gp_I s 1 2) + p1)) → gs_E L (d + 1) 2817 37 [gp_r (some 1), gp_l p0, gp_n, gp_i p1, gp_i 0] [] s K))))))) : gs_C L (d + 1) 2817 5 [gp_r (some 1), gp_l p0, gp_i p1] s K := by
  show gs_E L (d + 1) 2817 0 [gp_r (some 1), gp_l p0, gp_n, gp_i p1, gp_n] [] s K
  refine gs_E.stp (pc' := 2) (ls' := [gp_r (some 1), gp_l p0, gp_n, gp_i p1, gp_n]) (st' := [gp_i 1, gp_i p1]) (s' := s) 2 rfl ?_
  refine gs_E.br (c := p1 < 1) (p1 := 11) (p2 := 5) (l1 := [gp_r (some 1), gp_l p0, gp_n, gp_i p1, gp_n]) (l2 := [gp_r (some 1), gp_l p0, gp_n, gp_i p1, gp_n]) (s1 := []) (s2 := []) rfl gs_b1 (fun hc => ?_) (fun hc => ?_)
  · replace H := H.1 hc
    exact H
  · replace H := H.2 hc
    refine gs_E.stp (pc' := 8) (ls' := [gp_r (some 1), gp_l p0, gp_n, gp_i p1, gp_n]) (st' := [gp_i 8, gp_i p1]) (s' := s) 2 rfl ?_
    refine gs_E.br (c := ¬ 8 < p1) (p1 := 17) (p2 := 11) (l1 := [gp_r (some 1), gp_l p0, gp_n, gp_i p1, gp_n]) (l2 := [gp_r (some 1), gp_l p0, gp_n, gp_i p1, gp_n]) (s1 := []) (s2 := []) rfl gs_b2 (fun hc => ?_) (fun hc => ?_)
    · replace H := H.2 hc
      refine gs_E.stp (pc' := 25) (ls' := [gp_r (some 1), gp_l p0, gp_n, gp_i p1, gp_n]) (st' := [gp_i 100, gp_i (gp_wr ((gp_I s 1 2) + p1))]) (s' := s) 5 rfl ?_
      refine gs_E.br (c := ¬ 100 < (gp_wr ((gp_I s 1 2) + p1))) (p1 := 34) (p2 := 28) (l1 := [gp_r (some 1), gp_l p0, gp_n, gp_i p1, gp_n]) (l2 := [gp_r (some 1), gp_l p0, gp_n, gp_i p1, gp_n]) (s1 := []) (s2 := []) rfl gs_b2 (fun hc => ?_) (fun hc => ?_)
      · replace H := H.2 hc
        refine gs_E.stp (pc' := 37) (ls' := [gp_r (some 1), gp_l p0, gp_n, gp_i p1, gp_i 0]) (st' := []) (s' := s) 2 rfl ?_
        exact H
      · replace H := H.1 (Decidable.byContradiction hc)
        refine gs_E.stp (pc' := 30) (ls' := [gp_r (some 1), gp_l p0, gp_n, gp_i p1, gp_n]) (st' := [gp_i 4, gp_r (some 1)]) (s' := s) 2 rfl ?_
        refine gs_E.call (args := [gp_r (some 1), gp_i 4]) (m := 2) (y' := 2855) (st' := []) rfl H (fun r s1 H => ?_)
        obtain ⟨x2, rfl, H⟩ := H
        show gs_E L (d + 1) 2817 33 [gp_r (some 1), gp_l p0, gp_n, gp_i p1, gp_n] [gp_i x2] s1 K
        exact gs_E.ret (r := (some (gp_i x2))) rfl H
    · replace H := H.1 (Decidable.byContradiction hc)
      exact H

set_option maxRecDepth 100000 in
/-- GatheredPoints.feed, pc 11 -/
theorem s_2817_11 {L d : Nat} {K : Option gV → gH → Prop} {s : gH} (v1 : BitVec 64) (v3 : Int) (v4 : gV) (H : gs_C L d 2855 2 [gp_r (some 1), gp_i 1] s (fun r s1 => ∃ x2, r = some (gp_i x2) ∧ K (some (gp_i x2)) s1)) : gs_E L (d + 1) 2817 11 [gp_r (some 1), gp_l v1, gp_n, gp_i v3, v4] [] s K := by
  refine gs_E.stp (pc' := 13) (ls' := [gp_r (some 1), gp_l v1, gp_n, gp_i v3, v4]) (st' := [gp_i 1, gp_r (some 1)]) (s' := s) 2 rfl ?_
  refine gs_E.call (args := [gp_r (some 1), gp_i 1]) (m := 2) (y' := 2855) (st' := []) rfl H (fun r s1 H => ?_)
  obtain ⟨x2, rfl, H⟩ := H
  show gs_E L (d + 1) 2817 16 [gp_r (some 1), gp_l v1, gp_n, gp_i v3, v4] [gp_i x2] s1 K
  exact gs_E.ret (r := (some (gp_i x2))) rfl H

set_option maxRecDepth 100000 in
/-- GatheredPoints.feed, pc 37 -/
theorem s_2817_37 {L d : Nat} {K : Option gV → gH → Prop} {s : gH} (v1 : BitVec 64) (v3 : Int) (v4 : Int) (H : ((v4 < v3 → ((0 ≤ (gp_wr ((gp_I s 1 2) + v4)) ∧ (gp_wr ((gp_I s 1 2) + v4)) < 100) ∧ (∀ s2, s2 = gp_wI s 3 (gp_wr ((gp_I s 1 2) + v4)).toNat (gp_b (gp_b (gp_wr (v1 >>> ((gp_wr (8 * v4)) % 64).toNat).toInt))) → gs_E L (d + 1) 2817 37 [gp_r (some 1), gp_l v1, gp_n, gp_i v3, gp_i (gp_wr (v4 + 1))] [] s2 K))) ∧ (¬ v4 < v3 → (∀ s1, s1 = gp_wI s 1 2 (gp_wr ((gp_I s 1 2) + v3)) → K (some (gp_i (gp_I s1 1 2))) s1)))) : gs_E L (d + 1) 2817 37 [gp_r (some 1), gp_l v1, gp_n, gp_i v3, gp_i v4] [] s K := by
  refine gs_E.stp (pc' := 40) (ls' := [gp_r (some 1), gp_l v1, gp_n, gp_i v3, gp_i v4]) (st' := [gp_i v3, gp_i v4]) (s' := s) 2 rfl ?_
  refine gs_E.br (c := ¬ v4 < v3) (p1 := 70) (p2 := 43) (l1 := [gp_r (some 1), gp_l v1, gp_n, gp_i v3, gp_i v4]) (l2 := [gp_r (some 1), gp_l v1, gp_n, gp_i v3, gp_i v4]) (s1 := []) (s2 := []) rfl gs_b2 (fun hc => ?_) (fun hc => ?_)
  · replace H := H.2 hc
    refine gs_E.stp (pc' := 80) (ls' := [gp_r (some 1), gp_l v1, gp_n, gp_i v3, gp_i v4]) (st' := []) (s' := gp_wI s 1 2 (gp_wr ((gp_I s 1 2) + v3))) 6 rfl ?_
    replace H := H _ rfl
    generalize gp_wI s 1 2 (gp_wr ((gp_I s 1 2) + v3)) = s1 at H ⊢
    refine gs_E.stp (pc' := 84) (ls' := [gp_r (some 1), gp_l v1, gp_n, gp_i v3, gp_i v4]) (st' := [gp_i (gp_I s1 1 2)]) (s' := s1) 2 rfl ?_
    exact gs_E.ret (r := (some (gp_i (gp_I s1 1 2)))) rfl H
  · replace H := H.1 (Decidable.byContradiction hc)
    refine gs_E.stp (pc' := 63) (ls' := [gp_r (some 1), gp_l v1, gp_n, gp_i v3, gp_i v4]) (st' := [gp_i (gp_b (gp_wr (v1 >>> ((gp_wr (8 * v4)) % 64).toNat).toInt)), gp_i (gp_wr ((gp_I s 1 2) + v4)), gp_r (some 3)]) (s' := s) 13 rfl ?_
    refine gs_E.ck (pc' := 64) (ls' := [gp_r (some 1), gp_l v1, gp_n, gp_i v3, gp_i v4]) (st' := []) (s' := gp_wI s 3 (gp_wr ((gp_I s 1 2) + v4)).toNat (gp_b (gp_b (gp_wr (v1 >>> ((gp_wr (8 * v4)) % 64).toNat).toInt)))) rfl ⟨rfl, H.1.1, H.1.2⟩ ?_
    replace H := H.2 _ rfl
    generalize gp_wI s 3 (gp_wr ((gp_I s 1 2) + v4)).toNat (gp_b (gp_b (gp_wr (v1 >>> ((gp_wr (8 * v4)) % 64).toNat).toInt))) = s2 at H ⊢
    refine gs_E.stp (pc' := 37) (ls' := [gp_r (some 1), gp_l v1, gp_n, gp_i v3, gp_i (gp_wr (v4 + 1))]) (st' := []) (s' := s2) 2 rfl ?_
    exact H

set_option maxRecDepth 100000 in
/-- GatheredPoints.game, pc 0 -/
theorem s_2818_e {L d : Nat} {K : Option gV → gH → Prop} {s : gH} (p0 : Int) (H : gs_C L d 2856 1 [gp_i p0] s (fun r s1 => ∃ x2, r = some (gp_i x2) ∧ ((x2 = 0 → gs_C L d 1281 4 [gp_r (some 46), gp_r (some 3), gp_i (gp_I s1 1 2)] s1 (fun r s3 => ∃ o4, r = some (gp_r o4) ∧ (∀ s5, s5 = gp_wI s3 1 2 0 → (((gp_I s5 46 7) < 0 → (((gp_I s5 46 8) = 0 → gs_C L d 2854 3 [gp_r (some 1), gp_i p0, gp_r o4] s5 (fun r s6 => ∃ x7, r = some (gp_i x7) ∧ K (some (gp_i x7)) s6)) ∧ (¬ (gp_I s5 46 8) = 0 → gs_C L d 2855 2 [gp_r (some 1), gp_i (gp_I s5 46 8)] s5 (fun r s8 => ∃ x9, r = some (gp_i x9) ∧ K (some (gp_i x9)) s8)))) ∧ (¬ (gp_I s5 46 7) < 0 → K (some (gp_i (gp_wr ((-10) - (gp_I s5 46 7))))) s5))))) ∧ (¬ x2 = 0 → gs_C L d 2855 2 [gp_r (some 1), gp_i 1] s1 (fun r s10 => ∃ x11, r = some (gp_i x11) ∧ K (some (gp_i x11)) s10))))) : gs_C L (d + 1) 2818 3 [gp_r (some 1), gp_i p0] s K := by
  show gs_E L (d + 1) 2818 0 [gp_r (some 1), gp_i p0, gp_n] [] s K
  refine gs_E.stp (pc' := 1) (ls' := [gp_r (some 1), gp_i p0, gp_n]) (st' := [gp_i p0]) (s' := s) 1 rfl ?_
  refine gs_E.call (args := [gp_i p0]) (m := 1) (y' := 2856) (st' := []) rfl H (fun r s1 H => ?_)
  obtain ⟨x2, rfl, H⟩ := H
  show gs_E L (d + 1) 2818 4 [gp_r (some 1), gp_i p0, gp_n] [gp_i x2] s1 K
  refine gs_E.br (c := x2 = 0) (p1 := 13) (p2 := 7) (l1 := [gp_r (some 1), gp_i p0, gp_n]) (l2 := [gp_r (some 1), gp_i p0, gp_n]) (s1 := []) (s2 := []) rfl gs_b1 (fun hc => ?_) (fun hc => ?_)
  · replace H := H.1 hc
    refine gs_E.stp (pc' := 25) (ls' := [gp_r (some 1), gp_i p0, gp_n]) (st' := [gp_i (gp_I s1 1 2), gp_r (some 3), gp_r (some 46)]) (s' := s1) 6 rfl ?_
    refine gs_E.call (args := [gp_r (some 46), gp_r (some 3), gp_i (gp_I s1 1 2)]) (m := 4) (y' := 1281) (st' := []) rfl H (fun r s3 H => ?_)
    obtain ⟨o4, rfl, H⟩ := H
    show gs_E L (d + 1) 2818 28 [gp_r (some 1), gp_i p0, gp_n] [gp_r o4] s3 K
    refine gs_E.stp (pc' := 34) (ls' := [gp_r (some 1), gp_i p0, gp_r o4]) (st' := []) (s' := gp_wI s3 1 2 0) 4 rfl ?_
    replace H := H _ rfl
    generalize gp_wI s3 1 2 0 = s5 at H ⊢
    refine gs_E.stp (pc' := 41) (ls' := [gp_r (some 1), gp_i p0, gp_r o4]) (st' := [gp_i (gp_I s5 46 7)]) (s' := s5) 3 rfl ?_
    refine gs_E.br (c := (gp_I s5 46 7) < 0) (p1 := 55) (p2 := 44) (l1 := [gp_r (some 1), gp_i p0, gp_r o4]) (l2 := [gp_r (some 1), gp_i p0, gp_r o4]) (s1 := []) (s2 := []) rfl gs_b1 (fun hc => ?_) (fun hc => ?_)
    · replace H := H.1 hc
      refine gs_E.stp (pc' := 62) (ls' := [gp_r (some 1), gp_i p0, gp_r o4]) (st' := [gp_i (gp_I s5 46 8)]) (s' := s5) 3 rfl ?_
      refine gs_E.br (c := (gp_I s5 46 8) = 0) (p1 := 77) (p2 := 65) (l1 := [gp_r (some 1), gp_i p0, gp_r o4]) (l2 := [gp_r (some 1), gp_i p0, gp_r o4]) (s1 := []) (s2 := []) rfl gs_b1 (fun hc => ?_) (fun hc => ?_)
      · replace H := H.1 hc
        refine gs_E.stp (pc' := 80) (ls' := [gp_r (some 1), gp_i p0, gp_r o4]) (st' := [gp_r o4, gp_i p0, gp_r (some 1)]) (s' := s5) 3 rfl ?_
        refine gs_E.call (args := [gp_r (some 1), gp_i p0, gp_r o4]) (m := 3) (y' := 2854) (st' := []) rfl H (fun r s6 H => ?_)
        obtain ⟨x7, rfl, H⟩ := H
        show gs_E L (d + 1) 2818 83 [gp_r (some 1), gp_i p0, gp_r o4] [gp_i x7] s6 K
        exact gs_E.ret (r := (some (gp_i x7))) rfl H
      · replace H := H.2 hc
        refine gs_E.stp (pc' := 73) (ls' := [gp_r (some 1), gp_i p0, gp_r o4]) (st' := [gp_i (gp_I s5 46 8), gp_r (some 1)]) (s' := s5) 4 rfl ?_
        refine gs_E.call (args := [gp_r (some 1), gp_i (gp_I s5 46 8)]) (m := 2) (y' := 2855) (st' := []) rfl H (fun r s8 H => ?_)
        obtain ⟨x9, rfl, H⟩ := H
        show gs_E L (d + 1) 2818 76 [gp_r (some 1), gp_i p0, gp_r o4] [gp_i x9] s8 K
        exact gs_E.ret (r := (some (gp_i x9))) rfl H
    · replace H := H.2 hc
      refine gs_E.stp (pc' := 54) (ls' := [gp_r (some 1), gp_i p0, gp_r o4]) (st' := [gp_i (gp_wr ((-10) - (gp_I s5 46 7)))]) (s' := s5) 5 rfl ?_
      exact gs_E.ret (r := (some (gp_i (gp_wr ((-10) - (gp_I s5 46 7)))))) rfl H
  · replace H := H.2 hc
    refine gs_E.stp (pc' := 9) (ls' := [gp_r (some 1), gp_i p0, gp_n]) (st' := [gp_i 1, gp_r (some 1)]) (s' := s1) 2 rfl ?_
    refine gs_E.call (args := [gp_r (some 1), gp_i 1]) (m := 2) (y' := 2855) (st' := []) rfl H (fun r s10 H => ?_)
    obtain ⟨x11, rfl, H⟩ := H
    show gs_E L (d + 1) 2818 12 [gp_r (some 1), gp_i p0, gp_n] [gp_i x11] s10 K
    exact gs_E.ret (r := (some (gp_i x11))) rfl H

set_option maxRecDepth 100000 in
/-- GatheredPoints.strip, pc 0 -/
theorem s_2819_e {L d : Nat} {K : Option gV → gH → Prop} {s : gH} (p0 : Int) (H : gs_C L d 2856 1 [gp_i p0] s (fun r s1 => ∃ x2, r = some (gp_i x2) ∧ ((x2 = 0 → gs_C L d 2561 6 [gp_r (some 48), gp_r (some 3), gp_i (gp_I s1 1 2)] s1 (fun r s3 => ∃ x4, r = some (gp_i x4) ∧ ((x4 < 0 → gs_C L d 2562 5 [gp_r (some 48), gp_r (some 3), gp_i (gp_I s3 1 2)] s3 (fun r s5 => ∃ o6, r = some (gp_r o6) ∧ gs_E L (d + 1) 2819 52 [gp_r (some 1), gp_i p0, gp_i x4, gp_n] [gp_r o6] s5 K)) ∧ (¬ x4 < 0 → gs_E L (d + 1) 2819 52 [gp_r (some 1), gp_i p0, gp_i x4, gp_n] [gp_r none] s3 K)))) ∧ (¬ x2 = 0 → gs_C L d 2855 2 [gp_r (some 1), gp_i 1] s1 (fun r s7 => ∃ x8, r = some (gp_i x8) ∧ K (some (gp_i x8)) s7))))) : gs_C L (d + 1) 2819 4 [gp_r (some 1), gp_i p0] s K := by
  show gs_E L (d + 1) 2819 0 [gp_r (some 1), gp_i p0, gp_n, gp_n] [] s K
  refine gs_E.stp (pc' := 1) (ls' := [gp_r (some 1), gp_i p0, gp_n, gp_n]) (st' := [gp_i p0]) (s' := s) 1 rfl ?_
  refine gs_E.call (args := [gp_i p0]) (m := 1) (y' := 2856) (st' := []) rfl H (fun r s1 H => ?_)
  obtain ⟨x2, rfl, H⟩ := H
  show gs_E L (d + 1) 2819 4 [gp_r (some 1), gp_i p0, gp_n, gp_n] [gp_i x2] s1 K
  refine gs_E.br (c := x2 = 0) (p1 := 13) (p2 := 7) (l1 := [gp_r (some 1), gp_i p0, gp_n, gp_n]) (l2 := [gp_r (some 1), gp_i p0, gp_n, gp_n]) (s1 := []) (s2 := []) rfl gs_b1 (fun hc => ?_) (fun hc => ?_)
  · replace H := H.1 hc
    refine gs_E.stp (pc' := 25) (ls' := [gp_r (some 1), gp_i p0, gp_n, gp_n]) (st' := [gp_i (gp_I s1 1 2), gp_r (some 3), gp_r (some 48)]) (s' := s1) 6 rfl ?_
    refine gs_E.call (args := [gp_r (some 48), gp_r (some 3), gp_i (gp_I s1 1 2)]) (m := 6) (y' := 2561) (st' := []) rfl H (fun r s3 H => ?_)
    obtain ⟨x4, rfl, H⟩ := H
    show gs_E L (d + 1) 2819 28 [gp_r (some 1), gp_i p0, gp_n, gp_n] [gp_i x4] s3 K
    refine gs_E.stp (pc' := 30) (ls' := [gp_r (some 1), gp_i p0, gp_i x4, gp_n]) (st' := [gp_i x4]) (s' := s3) 2 rfl ?_
    refine gs_E.br (c := ¬ x4 < 0) (p1 := 51) (p2 := 33) (l1 := [gp_r (some 1), gp_i p0, gp_i x4, gp_n]) (l2 := [gp_r (some 1), gp_i p0, gp_i x4, gp_n]) (s1 := []) (s2 := []) rfl gs_b2 (fun hc => ?_) (fun hc => ?_)
    · replace H := H.2 hc
      refine gs_E.stp (pc' := 52) (ls' := [gp_r (some 1), gp_i p0, gp_i x4, gp_n]) (st' := [gp_r none]) (s' := s3) 1 rfl ?_
      exact H
    · replace H := H.1 (Decidable.byContradiction hc)
      refine gs_E.stp (pc' := 45) (ls' := [gp_r (some 1), gp_i p0, gp_i x4, gp_n]) (st' := [gp_i (gp_I s3 1 2), gp_r (some 3), gp_r (some 48)]) (s' := s3) 6 rfl ?_
      refine gs_E.call (args := [gp_r (some 48), gp_r (some 3), gp_i (gp_I s3 1 2)]) (m := 5) (y' := 2562) (st' := []) rfl H (fun r s5 H => ?_)
      obtain ⟨o6, rfl, H⟩ := H
      show gs_E L (d + 1) 2819 48 [gp_r (some 1), gp_i p0, gp_i x4, gp_n] [gp_r o6] s5 K
      refine gs_E.stp (pc' := 52) (ls' := [gp_r (some 1), gp_i p0, gp_i x4, gp_n]) (st' := [gp_r o6]) (s' := s5) 1 rfl ?_
      exact H
  · replace H := H.2 hc
    refine gs_E.stp (pc' := 9) (ls' := [gp_r (some 1), gp_i p0, gp_n, gp_n]) (st' := [gp_i 1, gp_r (some 1)]) (s' := s1) 2 rfl ?_
    refine gs_E.call (args := [gp_r (some 1), gp_i 1]) (m := 2) (y' := 2855) (st' := []) rfl H (fun r s7 H => ?_)
    obtain ⟨x8, rfl, H⟩ := H
    show gs_E L (d + 1) 2819 12 [gp_r (some 1), gp_i p0, gp_n, gp_n] [gp_i x8] s7 K
    exact gs_E.ret (r := (some (gp_i x8))) rfl H

set_option maxRecDepth 100000 in
/-- GatheredPoints.strip, pc 52 -/
theorem s_2819_52 {L d : Nat} {K : Option gV → gH → Prop} {s : gH} (v1 : Int) (v2 : Int) (v3 : gV) (w0 : Option Nat) (H : (∀ s1, s1 = gp_wI s 1 2 0 → ((v2 < 0 → ((w0 = none → gs_C L d 2855 2 [gp_r (some 1), gp_i 4] s1 (fun r s3 => ∃ x4, r = some (gp_i x4) ∧ K (some (gp_i x4)) s3)) ∧ ∀ q2, w0 = some q2 → gs_C L d 2854 3 [gp_r (some 1), gp_i v1, gp_r (some q2)] s1 (fun r s5 => ∃ x6, r = some (gp_i x6) ∧ K (some (gp_i x6)) s5))) ∧ (¬ v2 < 0 → K (some (gp_i (gp_wr ((-10) - v2)))) s1)))) : gs_E L (d + 1) 2819 52 [gp_r (some 1), gp_i v1, gp_i v2, v3] [gp_r w0] s K := by
  refine gs_E.stp (pc' := 58) (ls' := [gp_r (some 1), gp_i v1, gp_i v2, gp_r w0]) (st' := []) (s' := gp_wI s 1 2 0) 4 rfl ?_
  replace H := H _ rfl
  generalize gp_wI s 1 2 0 = s1 at H ⊢
  refine gs_E.stp (pc' := 59) (ls' := [gp_r (some 1), gp_i v1, gp_i v2, gp_r w0]) (st' := [gp_i v2]) (s' := s1) 1 rfl ?_
  refine gs_E.br (c := v2 < 0) (p1 := 67) (p2 := 62) (l1 := [gp_r (some 1), gp_i v1, gp_i v2, gp_r w0]) (l2 := [gp_r (some 1), gp_i v1, gp_i v2, gp_r w0]) (s1 := []) (s2 := []) rfl gs_b1 (fun hc => ?_) (fun hc => ?_)
  · replace H := H.1 hc
    refine gs_E.stp (pc' := 68) (ls' := [gp_r (some 1), gp_i v1, gp_i v2, gp_r w0]) (st' := [gp_r w0]) (s' := s1) 1 rfl ?_
    cases hq : w0 with
    | none =>
      replace H := H.1 hq
      refine gs_E.stp (pc' := 71) (ls' := [gp_r (some 1), gp_i v1, gp_i v2, gp_r none]) (st' := []) (s' := s1) 1 rfl ?_
      refine gs_E.stp (pc' := 73) (ls' := [gp_r (some 1), gp_i v1, gp_i v2, gp_r none]) (st' := [gp_i 4, gp_r (some 1)]) (s' := s1) 2 rfl ?_
      refine gs_E.call (args := [gp_r (some 1), gp_i 4]) (m := 2) (y' := 2855) (st' := []) rfl H (fun r s3 H => ?_)
      obtain ⟨x4, rfl, H⟩ := H
      show gs_E L (d + 1) 2819 76 [gp_r (some 1), gp_i v1, gp_i v2, gp_r none] [gp_i x4] s3 K
      exact gs_E.ret (r := (some (gp_i x4))) rfl H
    | some q2 =>
      replace H := H.2 q2 hq
      refine gs_E.stp (pc' := 77) (ls' := [gp_r (some 1), gp_i v1, gp_i v2, gp_r (some q2)]) (st' := []) (s' := s1) 1 rfl ?_
      refine gs_E.stp (pc' := 80) (ls' := [gp_r (some 1), gp_i v1, gp_i v2, gp_r (some q2)]) (st' := [gp_r (some q2), gp_i v1, gp_r (some 1)]) (s' := s1) 3 rfl ?_
      refine gs_E.call (args := [gp_r (some 1), gp_i v1, gp_r (some q2)]) (m := 3) (y' := 2854) (st' := []) rfl H (fun r s5 H => ?_)
      obtain ⟨x6, rfl, H⟩ := H
      show gs_E L (d + 1) 2819 83 [gp_r (some 1), gp_i v1, gp_i v2, gp_r (some q2)] [gp_i x6] s5 K
      exact gs_E.ret (r := (some (gp_i x6))) rfl H
  · replace H := H.2 hc
    refine gs_E.stp (pc' := 66) (ls' := [gp_r (some 1), gp_i v1, gp_i v2, gp_r w0]) (st' := [gp_i (gp_wr ((-10) - v2))]) (s' := s1) 3 rfl ?_
    exact gs_E.ret (r := (some (gp_i (gp_wr ((-10) - v2))))) rfl H

set_option maxRecDepth 100000 in
/-- GatheredPoints.ladder, pc 0 -/
theorem s_2820_e {L d : Nat} {K : Option gV → gH → Prop} {s : gH} (p0 : Int) (p1 : Int) (H : gs_C L d 2856 1 [gp_i p0] s (fun r s1 => ∃ x2, r = some (gp_i x2) ∧ ((x2 = 0 → gs_C L d 1793 2 [gp_r (some 66), gp_i p1] s1 (fun r s3 => ∃ x4, r = some (gp_i x4) ∧ ((x4 = 0 → gs_C L d 1794 2 [gp_r (some 66), gp_i p1] s3 (fun r s5 => ∃ x6, r = some (gp_i x6) ∧ ((x6 = 0 → ((0 ≤ p1 ∧ p1 < 4) ∧ (((gp_I s5 73 p1.toNat) = 0 → gs_E L (d + 1) 2820 47 [gp_r (some 1), gp_i p0, gp_i p1] [] s5 K) ∧ (¬ (gp_I s5 73 p1.toNat) = 0 → gs_C L d 1798 3 [gp_r (some 66), gp_i p1] s5 (fun r s7 => ∃ x8, r = some (gp_i x8) ∧ ((x8 = 0 → ((0 ≤ p1 ∧ p1 < 4) ∧ ((0 ≤ p1 ∧ p1 < 4) ∧ gs_C L d 259 6 [gp_r (some 20), gp_r (gp_R (gp_mk L s7) 67 p1.toNat), gp_i (gp_I s7 73 p1.toNat)] s7 (fun r s9 => ∃ o10, r = some (gp_r o10) ∧ gs_C L d 2854 3 [gp_r (some 1), gp_i p0, gp_r o10] s9 (fun r s11 => ∃ x12, r = some (gp_i x12) ∧ K (some (gp_i x12)) s11))))) ∧ (¬ x8 = 0 → gs_C L d 2855 2 [gp_r (some 1), gp_i 6] s7 (fun r s13 => ∃ x14, r = some (gp_i x14) ∧ K (some (gp_i x14)) s13)))))))) ∧ (¬ x6 = 0 → gs_E L (d + 1) 2820 47 [gp_r (some 1), gp_i p0, gp_i p1] [] s5 K)))) ∧ (¬ x4 = 0 → gs_E L (d + 1) 2820 18 [gp_r (some 1), gp_i p0, gp_i p1] [] s3 K)))) ∧ (¬ x2 = 0 → gs_E L (d + 1) 2820 18 [gp_r (some 1), gp_i p0, gp_i p1] [] s1 K)))) : gs_C L (d + 1) 2820 3 [gp_r (some 1), gp_i p0, gp_i p1] s K := by
  show gs_E L (d + 1) 2820 0 [gp_r (some 1), gp_i p0, gp_i p1] [] s K
  refine gs_E.stp (pc' := 1) (ls' := [gp_r (some 1), gp_i p0, gp_i p1]) (st' := [gp_i p0]) (s' := s) 1 rfl ?_
  refine gs_E.call (args := [gp_i p0]) (m := 1) (y' := 2856) (st' := []) rfl H (fun r s1 H => ?_)
  obtain ⟨x2, rfl, H⟩ := H
  show gs_E L (d + 1) 2820 4 [gp_r (some 1), gp_i p0, gp_i p1] [gp_i x2] s1 K
  refine gs_E.br (c := ¬ x2 = 0) (p1 := 18) (p2 := 7) (l1 := [gp_r (some 1), gp_i p0, gp_i p1]) (l2 := [gp_r (some 1), gp_i p0, gp_i p1]) (s1 := []) (s2 := []) rfl gs_b2 (fun hc => ?_) (fun hc => ?_)
  · replace H := H.2 hc
    exact H
  · replace H := H.1 (Decidable.byContradiction hc)
    refine gs_E.stp (pc' := 12) (ls' := [gp_r (some 1), gp_i p0, gp_i p1]) (st' := [gp_i p1, gp_r (some 66)]) (s' := s1) 3 rfl ?_
    refine gs_E.call (args := [gp_r (some 66), gp_i p1]) (m := 2) (y' := 1793) (st' := []) rfl H (fun r s3 H => ?_)
    obtain ⟨x4, rfl, H⟩ := H
    show gs_E L (d + 1) 2820 15 [gp_r (some 1), gp_i p0, gp_i p1] [gp_i x4] s3 K
    refine gs_E.br (c := x4 = 0) (p1 := 24) (p2 := 18) (l1 := [gp_r (some 1), gp_i p0, gp_i p1]) (l2 := [gp_r (some 1), gp_i p0, gp_i p1]) (s1 := []) (s2 := []) rfl gs_b1 (fun hc => ?_) (fun hc => ?_)
    · replace H := H.1 hc
      refine gs_E.stp (pc' := 29) (ls' := [gp_r (some 1), gp_i p0, gp_i p1]) (st' := [gp_i p1, gp_r (some 66)]) (s' := s3) 3 rfl ?_
      refine gs_E.call (args := [gp_r (some 66), gp_i p1]) (m := 2) (y' := 1794) (st' := []) rfl H (fun r s5 H => ?_)
      obtain ⟨x6, rfl, H⟩ := H
      show gs_E L (d + 1) 2820 32 [gp_r (some 1), gp_i p0, gp_i p1] [gp_i x6] s5 K
      refine gs_E.br (c := ¬ x6 = 0) (p1 := 47) (p2 := 35) (l1 := [gp_r (some 1), gp_i p0, gp_i p1]) (l2 := [gp_r (some 1), gp_i p0, gp_i p1]) (s1 := []) (s2 := []) rfl gs_b2 (fun hc => ?_) (fun hc => ?_)
      · replace H := H.2 hc
        exact H
      · replace H := H.1 (Decidable.byContradiction hc)
        refine gs_E.stp (pc' := 43) (ls' := [gp_r (some 1), gp_i p0, gp_i p1]) (st' := [gp_i p1, gp_r (some 73)]) (s' := s5) 4 rfl ?_
        refine gs_E.ck (pc' := 44) (ls' := [gp_r (some 1), gp_i p0, gp_i p1]) (st' := [gp_i (gp_I s5 73 p1.toNat)]) (s' := s5) rfl (Or.inl ⟨rfl, H.1.1, H.1.2⟩) ?_
        replace H := H.2
        refine gs_E.br (c := ¬ (gp_I s5 73 p1.toNat) = 0) (p1 := 53) (p2 := 47) (l1 := [gp_r (some 1), gp_i p0, gp_i p1]) (l2 := [gp_r (some 1), gp_i p0, gp_i p1]) (s1 := []) (s2 := []) rfl gs_b2 (fun hc => ?_) (fun hc => ?_)
        · replace H := H.2 hc
          refine gs_E.stp (pc' := 58) (ls' := [gp_r (some 1), gp_i p0, gp_i p1]) (st' := [gp_i p1, gp_r (some 66)]) (s' := s5) 3 rfl ?_
          refine gs_E.call (args := [gp_r (some 66), gp_i p1]) (m := 3) (y' := 1798) (st' := []) rfl H (fun r s7 H => ?_)
          obtain ⟨x8, rfl, H⟩ := H
          show gs_E L (d + 1) 2820 61 [gp_r (some 1), gp_i p0, gp_i p1] [gp_i x8] s7 K
          refine gs_E.br (c := x8 = 0) (p1 := 71) (p2 := 64) (l1 := [gp_r (some 1), gp_i p0, gp_i p1]) (l2 := [gp_r (some 1), gp_i p0, gp_i p1]) (s1 := []) (s2 := []) rfl gs_b1 (fun hc => ?_) (fun hc => ?_)
          · replace H := H.1 hc
            refine gs_E.stp (pc' := 85) (ls' := [gp_r (some 1), gp_i p0, gp_i p1]) (st' := [gp_i p1, gp_r (some 67), gp_r (some 20), gp_i p0, gp_r (some 1)]) (s' := s7) 8 rfl ?_
            refine gs_E.ck (pc' := 86) (ls' := [gp_r (some 1), gp_i p0, gp_i p1]) (st' := [gp_r (gp_R (gp_mk L s7) 67 p1.toNat), gp_r (some 20), gp_i p0, gp_r (some 1)]) (s' := s7) rfl (Or.inr ⟨rfl, H.1.1, H.1.2⟩) ?_
            replace H := H.2
            refine gs_E.stp (pc' := 94) (ls' := [gp_r (some 1), gp_i p0, gp_i p1]) (st' := [gp_i p1, gp_r (some 73), gp_r (gp_R (gp_mk L s7) 67 p1.toNat), gp_r (some 20), gp_i p0, gp_r (some 1)]) (s' := s7) 4 rfl ?_
            refine gs_E.ck (pc' := 95) (ls' := [gp_r (some 1), gp_i p0, gp_i p1]) (st' := [gp_i (gp_I s7 73 p1.toNat), gp_r (gp_R (gp_mk L s7) 67 p1.toNat), gp_r (some 20), gp_i p0, gp_r (some 1)]) (s' := s7) rfl (Or.inl ⟨rfl, H.1.1, H.1.2⟩) ?_
            replace H := H.2
            refine gs_E.call (args := [gp_r (some 20), gp_r (gp_R (gp_mk L s7) 67 p1.toNat), gp_i (gp_I s7 73 p1.toNat)]) (m := 6) (y' := 259) (st' := [gp_i p0, gp_r (some 1)]) rfl H (fun r s9 H => ?_)
            obtain ⟨o10, rfl, H⟩ := H
            show gs_E L (d + 1) 2820 98 [gp_r (some 1), gp_i p0, gp_i p1] [gp_r o10, gp_i p0, gp_r (some 1)] s9 K
            refine gs_E.call (args := [gp_r (some 1), gp_i p0, gp_r o10]) (m := 3) (y' := 2854) (st' := []) rfl H (fun r s11 H => ?_)
            obtain ⟨x12, rfl, H⟩ := H
            show gs_E L (d + 1) 2820 101 [gp_r (some 1), gp_i p0, gp_i p1] [gp_i x12] s11 K
            exact gs_E.ret (r := (some (gp_i x12))) rfl H
          · replace H := H.2 hc
            refine gs_E.stp (pc' := 67) (ls' := [gp_r (some 1), gp_i p0, gp_i p1]) (st' := [gp_i 6, gp_r (some 1)]) (s' := s7) 2 rfl ?_
            refine gs_E.call (args := [gp_r (some 1), gp_i 6]) (m := 2) (y' := 2855) (st' := []) rfl H (fun r s13 H => ?_)
            obtain ⟨x14, rfl, H⟩ := H
            show gs_E L (d + 1) 2820 70 [gp_r (some 1), gp_i p0, gp_i p1] [gp_i x14] s13 K
            exact gs_E.ret (r := (some (gp_i x14))) rfl H
        · replace H := H.1 (Decidable.byContradiction hc)
          exact H
    · replace H := H.2 hc
      exact H

set_option maxRecDepth 100000 in
/-- GatheredPoints.ladder, pc 18 -/
theorem s_2820_18 {L d : Nat} {K : Option gV → gH → Prop} {s : gH} (v1 : Int) (v2 : Int) (H : gs_C L d 2855 2 [gp_r (some 1), gp_i 1] s (fun r s1 => ∃ x2, r = some (gp_i x2) ∧ K (some (gp_i x2)) s1)) : gs_E L (d + 1) 2820 18 [gp_r (some 1), gp_i v1, gp_i v2] [] s K := by
  refine gs_E.stp (pc' := 20) (ls' := [gp_r (some 1), gp_i v1, gp_i v2]) (st' := [gp_i 1, gp_r (some 1)]) (s' := s) 2 rfl ?_
  refine gs_E.call (args := [gp_r (some 1), gp_i 1]) (m := 2) (y' := 2855) (st' := []) rfl H (fun r s1 H => ?_)
  obtain ⟨x2, rfl, H⟩ := H
  show gs_E L (d + 1) 2820 23 [gp_r (some 1), gp_i v1, gp_i v2] [gp_i x2] s1 K
  exact gs_E.ret (r := (some (gp_i x2))) rfl H

set_option maxRecDepth 100000 in
/-- GatheredPoints.ladder, pc 47 -/
theorem s_2820_47 {L d : Nat} {K : Option gV → gH → Prop} {s : gH} (v1 : Int) (v2 : Int) (H : gs_C L d 2855 2 [gp_r (some 1), gp_i 2] s (fun r s1 => ∃ x2, r = some (gp_i x2) ∧ K (some (gp_i x2)) s1)) : gs_E L (d + 1) 2820 47 [gp_r (some 1), gp_i v1, gp_i v2] [] s K := by
  refine gs_E.stp (pc' := 49) (ls' := [gp_r (some 1), gp_i v1, gp_i v2]) (st' := [gp_i 2, gp_r (some 1)]) (s' := s) 2 rfl ?_
  refine gs_E.call (args := [gp_r (some 1), gp_i 2]) (m := 2) (y' := 2855) (st' := []) rfl H (fun r s1 H => ?_)
  obtain ⟨x2, rfl, H⟩ := H
  show gs_E L (d + 1) 2820 52 [gp_r (some 1), gp_i v1, gp_i v2] [gp_i x2] s1 K
  exact gs_E.ret (r := (some (gp_i x2))) rfl H

set_option maxRecDepth 100000 in
/-- GatheredPoints.waits, pc 0 -/
theorem s_2821_e {L d : Nat} {K : Option gV → gH → Prop} {s : gH} (p0 : Int) (p1 : Int) (H : gs_C L d 2856 1 [gp_i p0] s (fun r s1 => ∃ x2, r = some (gp_i x2) ∧ ((x2 = 0 → ((p1 < 0 → gs_E L (d + 1) 2821 17 [gp_r (some 1), gp_i p0, gp_i p1] [] s1 K) ∧ (¬ p1 < 0 → ((20 < p1 → gs_E L (d + 1) 2821 17 [gp_r (some 1), gp_i p0, gp_i p1] [] s1 K) ∧ (¬ 20 < p1 → gs_C L d 258 4 [gp_r (some 20), gp_i p1] s1 (fun r s3 => ∃ o4, r = some (gp_r o4) ∧ gs_C L d 2854 3 [gp_r (some 1), gp_i p0, gp_r o4] s3 (fun r s5 => ∃ x6, r = some (gp_i x6) ∧ K (some (gp_i x6)) s5))))))) ∧ (¬ x2 = 0 → gs_E L (d + 1) 2821 17 [gp_r (some 1), gp_i p0, gp_i p1] [] s1 K)))) : gs_C L (d + 1) 2821 3 [gp_r (some 1), gp_i p0, gp_i p1] s K := by
  show gs_E L (d + 1) 2821 0 [gp_r (some 1), gp_i p0, gp_i p1] [] s K
  refine gs_E.stp (pc' := 1) (ls' := [gp_r (some 1), gp_i p0, gp_i p1]) (st' := [gp_i p0]) (s' := s) 1 rfl ?_
  refine gs_E.call (args := [gp_i p0]) (m := 1) (y' := 2856) (st' := []) rfl H (fun r s1 H => ?_)
  obtain ⟨x2, rfl, H⟩ := H
  show gs_E L (d + 1) 2821 4 [gp_r (some 1), gp_i p0, gp_i p1] [gp_i x2] s1 K
  refine gs_E.br (c := ¬ x2 = 0) (p1 := 17) (p2 := 7) (l1 := [gp_r (some 1), gp_i p0, gp_i p1]) (l2 := [gp_r (some 1), gp_i p0, gp_i p1]) (s1 := []) (s2 := []) rfl gs_b2 (fun hc => ?_) (fun hc => ?_)
  · replace H := H.2 hc
    exact H
  · replace H := H.1 (Decidable.byContradiction hc)
    refine gs_E.stp (pc' := 8) (ls' := [gp_r (some 1), gp_i p0, gp_i p1]) (st' := [gp_i p1]) (s' := s1) 1 rfl ?_
    refine gs_E.br (c := p1 < 0) (p1 := 17) (p2 := 11) (l1 := [gp_r (some 1), gp_i p0, gp_i p1]) (l2 := [gp_r (some 1), gp_i p0, gp_i p1]) (s1 := []) (s2 := []) rfl gs_b1 (fun hc => ?_) (fun hc => ?_)
    · replace H := H.1 hc
      exact H
    · replace H := H.2 hc
      refine gs_E.stp (pc' := 14) (ls' := [gp_r (some 1), gp_i p0, gp_i p1]) (st' := [gp_i 20, gp_i p1]) (s' := s1) 2 rfl ?_
      refine gs_E.br (c := ¬ 20 < p1) (p1 := 23) (p2 := 17) (l1 := [gp_r (some 1), gp_i p0, gp_i p1]) (l2 := [gp_r (some 1), gp_i p0, gp_i p1]) (s1 := []) (s2 := []) rfl gs_b2 (fun hc => ?_) (fun hc => ?_)
      · replace H := H.2 hc
        refine gs_E.stp (pc' := 30) (ls' := [gp_r (some 1), gp_i p0, gp_i p1]) (st' := [gp_i p1, gp_r (some 20), gp_i p0, gp_r (some 1)]) (s' := s1) 5 rfl ?_
        refine gs_E.call (args := [gp_r (some 20), gp_i p1]) (m := 4) (y' := 258) (st' := [gp_i p0, gp_r (some 1)]) rfl H (fun r s3 H => ?_)
        obtain ⟨o4, rfl, H⟩ := H
        show gs_E L (d + 1) 2821 33 [gp_r (some 1), gp_i p0, gp_i p1] [gp_r o4, gp_i p0, gp_r (some 1)] s3 K
        refine gs_E.call (args := [gp_r (some 1), gp_i p0, gp_r o4]) (m := 3) (y' := 2854) (st' := []) rfl H (fun r s5 H => ?_)
        obtain ⟨x6, rfl, H⟩ := H
        show gs_E L (d + 1) 2821 36 [gp_r (some 1), gp_i p0, gp_i p1] [gp_i x6] s5 K
        exact gs_E.ret (r := (some (gp_i x6))) rfl H
      · replace H := H.1 (Decidable.byContradiction hc)
        exact H

set_option maxRecDepth 100000 in
/-- GatheredPoints.waits, pc 17 -/
theorem s_2821_17 {L d : Nat} {K : Option gV → gH → Prop} {s : gH} (v1 : Int) (v2 : Int) (H : gs_C L d 2855 2 [gp_r (some 1), gp_i 1] s (fun r s1 => ∃ x2, r = some (gp_i x2) ∧ K (some (gp_i x2)) s1)) : gs_E L (d + 1) 2821 17 [gp_r (some 1), gp_i v1, gp_i v2] [] s K := by
  refine gs_E.stp (pc' := 19) (ls' := [gp_r (some 1), gp_i v1, gp_i v2]) (st' := [gp_i 1, gp_r (some 1)]) (s' := s) 2 rfl ?_
  refine gs_E.call (args := [gp_r (some 1), gp_i 1]) (m := 2) (y' := 2855) (st' := []) rfl H (fun r s1 H => ?_)
  obtain ⟨x2, rfl, H⟩ := H
  show gs_E L (d + 1) 2821 22 [gp_r (some 1), gp_i v1, gp_i v2] [gp_i x2] s1 K
  exact gs_E.ret (r := (some (gp_i x2))) rfl H

set_option maxRecDepth 100000 in
/-- GatheredPoints.join, pc 0 -/
theorem s_2822_e {L d : Nat} {K : Option gV → gH → Prop} {s : gH} (p0 : Int) (p1 : Int) (p2 : Int) (H : gs_C L d 2856 1 [gp_i p0] s (fun r s1 => ∃ x2, r = some (gp_i x2) ∧ ((x2 = 0 → gs_C L d 2856 1 [gp_i p1] s1 (fun r s3 => ∃ x4, r = some (gp_i x4) ∧ ((x4 = 0 → gs_C L d 2856 1 [gp_i p2] s3 (fun r s5 => ∃ x6, r = some (gp_i x6) ∧ ((x6 = 0 → ((0 ≤ p0 ∧ p0 < 8) ∧ ((0 ≤ p1 ∧ p1 < 8) ∧ gs_C L d 262 6 [gp_r (some 20), gp_r (gp_R (gp_mk L s5) 4 p0.toNat), gp_r (gp_R (gp_mk L s5) 4 p1.toNat)] s5 (fun r s7 => ∃ o8, r = some (gp_r o8) ∧ ((o8 = none → gs_C L d 2855 2 [gp_r (some 1), gp_i 4] s7 (fun r s10 => ∃ x11, r = some (gp_i x11) ∧ K (some (gp_i x11)) s10)) ∧ ∀ q9, o8 = some q9 → ((gp_sh (gp_mk L s7) q9).1 = 9 ∧ gs_C L d 2310 2 [gp_r (some q9)] s7 (fun r s12 => ∃ x13, r = some (gp_i x13) ∧ ((x13 = 0 → gs_C L d 2854 3 [gp_r (some 1), gp_i p2, gp_r (some q9)] s12 (fun r s14 => ∃ x15, r = some (gp_i x15) ∧ K (some (gp_i x15)) s14)) ∧ (¬ x13 = 0 → gs_C L d 2855 2 [gp_r (some 1), gp_i 6] s12 (fun r s16 => ∃ x17, r = some (gp_i x17) ∧ K (some (gp_i x17)) s16)))))))))) ∧ (¬ x6 = 0 → gs_E L (d + 1) 2822 21 [gp_r (some 1), gp_i p0, gp_i p1, gp_i p2, gp_n] [] s5 K)))) ∧ (¬ x4 = 0 → gs_E L (d + 1) 2822 21 [gp_r (some 1), gp_i p0, gp_i p1, gp_i p2, gp_n] [] s3 K)))) ∧ (¬ x2 = 0 → gs_E L (d + 1) 2822 21 [gp_r (some 1), gp_i p0, gp_i p1, gp_i p2, gp_n] [] s1 K)))) : gs_C L (d + 1) 2822 5 [gp_r (some 1), gp_i p0, gp_i p1, gp_i p2] s K := by
  show gs_E L (d + 1) 2822 0 [gp_r (some 1), gp_i p0, gp_i p1, gp_i p2, gp_n] [] s K
  refine gs_E.stp (pc' := 1) (ls' := [gp_r (some 1), gp_i p0, gp_i p1, gp_i p2, gp_n]) (st' := [gp_i p0]) (s' := s) 1 rfl ?_
  refine gs_E.call (args := [gp_i p0]) (m := 1) (y' := 2856) (st' := []) rfl H (fun r s1 H => ?_)
  obtain ⟨x2, rfl, H⟩ := H
  show gs_E L (d + 1) 2822 4 [gp_r (some 1), gp_i p0, gp_i p1, gp_i p2, gp_n] [gp_i x2] s1 K
  refine gs_E.br (c := ¬ x2 = 0) (p1 := 21) (p2 := 7) (l1 := [gp_r (some 1), gp_i p0, gp_i p1, gp_i p2, gp_n]) (l2 := [gp_r (some 1), gp_i p0, gp_i p1, gp_i p2, gp_n]) (s1 := []) (s2 := []) rfl gs_b2 (fun hc => ?_) (fun hc => ?_)
  · replace H := H.2 hc
    exact H
  · replace H := H.1 (Decidable.byContradiction hc)
    refine gs_E.stp (pc' := 8) (ls' := [gp_r (some 1), gp_i p0, gp_i p1, gp_i p2, gp_n]) (st' := [gp_i p1]) (s' := s1) 1 rfl ?_
    refine gs_E.call (args := [gp_i p1]) (m := 1) (y' := 2856) (st' := []) rfl H (fun r s3 H => ?_)
    obtain ⟨x4, rfl, H⟩ := H
    show gs_E L (d + 1) 2822 11 [gp_r (some 1), gp_i p0, gp_i p1, gp_i p2, gp_n] [gp_i x4] s3 K
    refine gs_E.br (c := ¬ x4 = 0) (p1 := 21) (p2 := 14) (l1 := [gp_r (some 1), gp_i p0, gp_i p1, gp_i p2, gp_n]) (l2 := [gp_r (some 1), gp_i p0, gp_i p1, gp_i p2, gp_n]) (s1 := []) (s2 := []) rfl gs_b2 (fun hc => ?_) (fun hc => ?_)
    · replace H := H.2 hc
      exact H
    · replace H := H.1 (Decidable.byContradiction hc)
      refine gs_E.stp (pc' := 15) (ls' := [gp_r (some 1), gp_i p0, gp_i p1, gp_i p2, gp_n]) (st' := [gp_i p2]) (s' := s3) 1 rfl ?_
      refine gs_E.call (args := [gp_i p2]) (m := 1) (y' := 2856) (st' := []) rfl H (fun r s5 H => ?_)
      obtain ⟨x6, rfl, H⟩ := H
      show gs_E L (d + 1) 2822 18 [gp_r (some 1), gp_i p0, gp_i p1, gp_i p2, gp_n] [gp_i x6] s5 K
      refine gs_E.br (c := x6 = 0) (p1 := 27) (p2 := 21) (l1 := [gp_r (some 1), gp_i p0, gp_i p1, gp_i p2, gp_n]) (l2 := [gp_r (some 1), gp_i p0, gp_i p1, gp_i p2, gp_n]) (s1 := []) (s2 := []) rfl gs_b1 (fun hc => ?_) (fun hc => ?_)
      · replace H := H.1 hc
        refine gs_E.stp (pc' := 36) (ls' := [gp_r (some 1), gp_i p0, gp_i p1, gp_i p2, gp_n]) (st' := [gp_i p0, gp_r (some 4), gp_r (some 20)]) (s' := s5) 5 rfl ?_
        refine gs_E.ck (pc' := 37) (ls' := [gp_r (some 1), gp_i p0, gp_i p1, gp_i p2, gp_n]) (st' := [gp_r (gp_R (gp_mk L s5) 4 p0.toNat), gp_r (some 20)]) (s' := s5) rfl (Or.inl ⟨rfl, H.1.1, H.1.2⟩) ?_
        replace H := H.2
        refine gs_E.stp (pc' := 42) (ls' := [gp_r (some 1), gp_i p0, gp_i p1, gp_i p2, gp_n]) (st' := [gp_i p1, gp_r (some 4), gp_r (gp_R (gp_mk L s5) 4 p0.toNat), gp_r (some 20)]) (s' := s5) 3 rfl ?_
        refine gs_E.ck (pc' := 43) (ls' := [gp_r (some 1), gp_i p0, gp_i p1, gp_i p2, gp_n]) (st' := [gp_r (gp_R (gp_mk L s5) 4 p1.toNat), gp_r (gp_R (gp_mk L s5) 4 p0.toNat), gp_r (some 20)]) (s' := s5) rfl (Or.inl ⟨rfl, H.1.1, H.1.2⟩) ?_
        replace H := H.2
        refine gs_E.call (args := [gp_r (some 20), gp_r (gp_R (gp_mk L s5) 4 p0.toNat), gp_r (gp_R (gp_mk L s5) 4 p1.toNat)]) (m := 6) (y' := 262) (st' := []) rfl H (fun r s7 H => ?_)
        obtain ⟨o8, rfl, H⟩ := H
        show gs_E L (d + 1) 2822 46 [gp_r (some 1), gp_i p0, gp_i p1, gp_i p2, gp_n] [gp_r o8] s7 K
        refine gs_E.stp (pc' := 50) (ls' := [gp_r (some 1), gp_i p0, gp_i p1, gp_i p2, gp_r o8]) (st' := [gp_r o8]) (s' := s7) 2 rfl ?_
        cases hq : o8 with
        | none =>
          replace H := H.1 hq
          refine gs_E.stp (pc' := 53) (ls' := [gp_r (some 1), gp_i p0, gp_i p1, gp_i p2, gp_r none]) (st' := []) (s' := s7) 1 rfl ?_
          refine gs_E.stp (pc' := 55) (ls' := [gp_r (some 1), gp_i p0, gp_i p1, gp_i p2, gp_r none]) (st' := [gp_i 4, gp_r (some 1)]) (s' := s7) 2 rfl ?_
          refine gs_E.call (args := [gp_r (some 1), gp_i 4]) (m := 2) (y' := 2855) (st' := []) rfl H (fun r s10 H => ?_)
          obtain ⟨x11, rfl, H⟩ := H
          show gs_E L (d + 1) 2822 58 [gp_r (some 1), gp_i p0, gp_i p1, gp_i p2, gp_r none] [gp_i x11] s10 K
          exact gs_E.ret (r := (some (gp_i x11))) rfl H
        | some q9 =>
          replace H := H.2 q9 hq
          refine gs_E.stp (pc' := 59) (ls' := [gp_r (some 1), gp_i p0, gp_i p1, gp_i p2, gp_r (some q9)]) (st' := []) (s' := s7) 1 rfl ?_
          refine gs_E.stp (pc' := 61) (ls' := [gp_r (some 1), gp_i p0, gp_i p1, gp_i p2, gp_r (some q9)]) (st' := [gp_r (some q9)]) (s' := s7) 1 rfl ?_
          refine gs_E.callV (args := [gp_r (some q9)]) (m := 2) (y' := 2310) (st' := []) rfl H.1 H.2 (fun r s12 H => ?_)
          obtain ⟨x13, rfl, H⟩ := H
          show gs_E L (d + 1) 2822 64 [gp_r (some 1), gp_i p0, gp_i p1, gp_i p2, gp_r (some q9)] [gp_i x13] s12 K
          refine gs_E.br (c := x13 = 0) (p1 := 74) (p2 := 67) (l1 := [gp_r (some 1), gp_i p0, gp_i p1, gp_i p2, gp_r (some q9)]) (l2 := [gp_r (some 1), gp_i p0, gp_i p1, gp_i p2, gp_r (some q9)]) (s1 := []) (s2 := []) rfl gs_b1 (fun hc => ?_) (fun hc => ?_)
          · replace H := H.1 hc
            refine gs_E.stp (pc' := 78) (ls' := [gp_r (some 1), gp_i p0, gp_i p1, gp_i p2, gp_r (some q9)]) (st' := [gp_r (some q9), gp_i p2, gp_r (some 1)]) (s' := s12) 3 rfl ?_
            refine gs_E.call (args := [gp_r (some 1), gp_i p2, gp_r (some q9)]) (m := 3) (y' := 2854) (st' := []) rfl H (fun r s14 H => ?_)
            obtain ⟨x15, rfl, H⟩ := H
            show gs_E L (d + 1) 2822 81 [gp_r (some 1), gp_i p0, gp_i p1, gp_i p2, gp_r (some q9)] [gp_i x15] s14 K
            exact gs_E.ret (r := (some (gp_i x15))) rfl H
          · replace H := H.2 hc
            refine gs_E.stp (pc' := 70) (ls' := [gp_r (some 1), gp_i p0, gp_i p1, gp_i p2, gp_r (some q9)]) (st' := [gp_i 6, gp_r (some 1)]) (s' := s12) 2 rfl ?_
            refine gs_E.call (args := [gp_r (some 1), gp_i 6]) (m := 2) (y' := 2855) (st' := []) rfl H (fun r s16 H => ?_)
            obtain ⟨x17, rfl, H⟩ := H
            show gs_E L (d + 1) 2822 73 [gp_r (some 1), gp_i p0, gp_i p1, gp_i p2, gp_r (some q9)] [gp_i x17] s16 K
            exact gs_E.ret (r := (some (gp_i x17))) rfl H
      · replace H := H.2 hc
        exact H

set_option maxRecDepth 100000 in
/-- GatheredPoints.join, pc 21 -/
theorem s_2822_21 {L d : Nat} {K : Option gV → gH → Prop} {s : gH} (v1 : Int) (v2 : Int) (v3 : Int) (v4 : gV) (H : gs_C L d 2855 2 [gp_r (some 1), gp_i 1] s (fun r s1 => ∃ x2, r = some (gp_i x2) ∧ K (some (gp_i x2)) s1)) : gs_E L (d + 1) 2822 21 [gp_r (some 1), gp_i v1, gp_i v2, gp_i v3, v4] [] s K := by
  refine gs_E.stp (pc' := 23) (ls' := [gp_r (some 1), gp_i v1, gp_i v2, gp_i v3, v4]) (st' := [gp_i 1, gp_r (some 1)]) (s' := s) 2 rfl ?_
  refine gs_E.call (args := [gp_r (some 1), gp_i 1]) (m := 2) (y' := 2855) (st' := []) rfl H (fun r s1 H => ?_)
  obtain ⟨x2, rfl, H⟩ := H
  show gs_E L (d + 1) 2822 26 [gp_r (some 1), gp_i v1, gp_i v2, gp_i v3, v4] [gp_i x2] s1 K
  exact gs_E.ret (r := (some (gp_i x2))) rfl H

set_option maxRecDepth 100000 in
/-- GatheredPoints.negate, pc 0 -/
theorem s_2823_e {L d : Nat} {K : Option gV → gH → Prop} {s : gH} (p0 : Int) (p1 : Int) (H : gs_C L d 2856 1 [gp_i p0] s (fun r s1 => ∃ x2, r = some (gp_i x2) ∧ ((x2 = 0 → gs_C L d 2856 1 [gp_i p1] s1 (fun r s3 => ∃ x4, r = some (gp_i x4) ∧ ((x4 = 0 → ((0 ≤ p0 ∧ p0 < 8) ∧ gs_C L d 260 3 [gp_r (some 20), gp_r (gp_R (gp_mk L s3) 4 p0.toNat)] s3 (fun r s5 => ∃ o6, r = some (gp_r o6) ∧ gs_C L d 2854 3 [gp_r (some 1), gp_i p1, gp_r o6] s5 (fun r s7 => ∃ x8, r = some (gp_i x8) ∧ K (some (gp_i x8)) s7)))) ∧ (¬ x4 = 0 → gs_E L (d + 1) 2823 14 [gp_r (some 1), gp_i p0, gp_i p1] [] s3 K)))) ∧ (¬ x2 = 0 → gs_E L (d + 1) 2823 14 [gp_r (some 1), gp_i p0, gp_i p1] [] s1 K)))) : gs_C L (d + 1) 2823 3 [gp_r (some 1), gp_i p0, gp_i p1] s K := by
  show gs_E L (d + 1) 2823 0 [gp_r (some 1), gp_i p0, gp_i p1] [] s K
  refine gs_E.stp (pc' := 1) (ls' := [gp_r (some 1), gp_i p0, gp_i p1]) (st' := [gp_i p0]) (s' := s) 1 rfl ?_
  refine gs_E.call (args := [gp_i p0]) (m := 1) (y' := 2856) (st' := []) rfl H (fun r s1 H => ?_)
  obtain ⟨x2, rfl, H⟩ := H
  show gs_E L (d + 1) 2823 4 [gp_r (some 1), gp_i p0, gp_i p1] [gp_i x2] s1 K
  refine gs_E.br (c := ¬ x2 = 0) (p1 := 14) (p2 := 7) (l1 := [gp_r (some 1), gp_i p0, gp_i p1]) (l2 := [gp_r (some 1), gp_i p0, gp_i p1]) (s1 := []) (s2 := []) rfl gs_b2 (fun hc => ?_) (fun hc => ?_)
  · replace H := H.2 hc
    exact H
  · replace H := H.1 (Decidable.byContradiction hc)
    refine gs_E.stp (pc' := 8) (ls' := [gp_r (some 1), gp_i p0, gp_i p1]) (st' := [gp_i p1]) (s' := s1) 1 rfl ?_
    refine gs_E.call (args := [gp_i p1]) (m := 1) (y' := 2856) (st' := []) rfl H (fun r s3 H => ?_)
    obtain ⟨x4, rfl, H⟩ := H
    show gs_E L (d + 1) 2823 11 [gp_r (some 1), gp_i p0, gp_i p1] [gp_i x4] s3 K
    refine gs_E.br (c := x4 = 0) (p1 := 20) (p2 := 14) (l1 := [gp_r (some 1), gp_i p0, gp_i p1]) (l2 := [gp_r (some 1), gp_i p0, gp_i p1]) (s1 := []) (s2 := []) rfl gs_b1 (fun hc => ?_) (fun hc => ?_)
    · replace H := H.1 hc
      refine gs_E.stp (pc' := 31) (ls' := [gp_r (some 1), gp_i p0, gp_i p1]) (st' := [gp_i p0, gp_r (some 4), gp_r (some 20), gp_i p1, gp_r (some 1)]) (s' := s3) 7 rfl ?_
      refine gs_E.ck (pc' := 32) (ls' := [gp_r (some 1), gp_i p0, gp_i p1]) (st' := [gp_r (gp_R (gp_mk L s3) 4 p0.toNat), gp_r (some 20), gp_i p1, gp_r (some 1)]) (s' := s3) rfl (Or.inl ⟨rfl, H.1.1, H.1.2⟩) ?_
      replace H := H.2
      refine gs_E.call (args := [gp_r (some 20), gp_r (gp_R (gp_mk L s3) 4 p0.toNat)]) (m := 3) (y' := 260) (st' := [gp_i p1, gp_r (some 1)]) rfl H (fun r s5 H => ?_)
      obtain ⟨o6, rfl, H⟩ := H
      show gs_E L (d + 1) 2823 35 [gp_r (some 1), gp_i p0, gp_i p1] [gp_r o6, gp_i p1, gp_r (some 1)] s5 K
      refine gs_E.call (args := [gp_r (some 1), gp_i p1, gp_r o6]) (m := 3) (y' := 2854) (st' := []) rfl H (fun r s7 H => ?_)
      obtain ⟨x8, rfl, H⟩ := H
      show gs_E L (d + 1) 2823 38 [gp_r (some 1), gp_i p0, gp_i p1] [gp_i x8] s7 K
      exact gs_E.ret (r := (some (gp_i x8))) rfl H
    · replace H := H.2 hc
      exact H

set_option maxRecDepth 100000 in
/-- GatheredPoints.negate, pc 14 -/
theorem s_2823_14 {L d : Nat} {K : Option gV → gH → Prop} {s : gH} (v1 : Int) (v2 : Int) (H : gs_C L d 2855 2 [gp_r (some 1), gp_i 1] s (fun r s1 => ∃ x2, r = some (gp_i x2) ∧ K (some (gp_i x2)) s1)) : gs_E L (d + 1) 2823 14 [gp_r (some 1), gp_i v1, gp_i v2] [] s K := by
  refine gs_E.stp (pc' := 16) (ls' := [gp_r (some 1), gp_i v1, gp_i v2]) (st' := [gp_i 1, gp_r (some 1)]) (s' := s) 2 rfl ?_
  refine gs_E.call (args := [gp_r (some 1), gp_i 1]) (m := 2) (y' := 2855) (st' := []) rfl H (fun r s1 H => ?_)
  obtain ⟨x2, rfl, H⟩ := H
  show gs_E L (d + 1) 2823 19 [gp_r (some 1), gp_i v1, gp_i v2] [gp_i x2] s1 K
  exact gs_E.ret (r := (some (gp_i x2))) rfl H

set_option maxRecDepth 100000 in
/-- GatheredPoints.option, pc 0 -/
theorem s_2824_e {L d : Nat} {K : Option gV → gH → Prop} {s : gH} (p0 : Int) (p1 : Int) (p2 : Int) (p3 : Int) (H : gs_C L d 2856 1 [gp_i p0] s (fun r s1 => ∃ x2, r = some (gp_i x2) ∧ ((x2 = 0 → gs_C L d 2857 1 [gp_i p1] s1 (fun r s3 => ∃ x4, r = some (gp_i x4) ∧ ((x4 = 0 → gs_C L d 2856 1 [gp_i p3] s3 (fun r s5 => ∃ x6, r = some (gp_i x6) ∧ ((x6 = 0 → ((0 ≤ p0 ∧ p0 < 8) ∧ (∃ q7, gp_R (gp_mk L s5) 4 p0.toNat = some q7 ∧ ((gp_sh (gp_mk L s5) q7).1 = 9 ∧ gs_C L d 2306 1 [gp_r (some q7)] s5 (fun r s8 => ∃ x9, r = some (gp_i x9) ∧ ((gp_sh (gp_mk L s8) q7).1 = 9 ∧ gs_C L d 2307 3 [gp_r (some q7), gp_i x9, gp_i p1] s8 (fun r s10 => ∃ m11, r = some (gp_l m11) ∧ ((p2 < 0 → gs_E L (d + 1) 2824 62 [gp_r (some 1), gp_i p0, gp_i p1, gp_i p2, gp_i p3, gp_r (some q7), gp_l m11, gp_n] [] s10 K) ∧ (¬ p2 < 0 → gs_C L d 3585 2 [gp_l m11] s10 (fun r s12 => ∃ x13, r = some (gp_i x13) ∧ ((p2 < x13 → gs_C L d 2860 6 [gp_l m11, gp_i p2] s12 (fun r s14 => ∃ x15, r = some (gp_i x15) ∧ gs_C L d 261 3 [gp_r (some 20), gp_r (some q7), gp_i x15] s14 (fun r s16 => ∃ o17, r = some (gp_r o17) ∧ gs_C L d 2854 3 [gp_r (some 1), gp_i p3, gp_r o17] s16 (fun r s18 => ∃ x19, r = some (gp_i x19) ∧ K (some (gp_i x19)) s18)))) ∧ (¬ p2 < x13 → gs_E L (d + 1) 2824 62 [gp_r (some 1), gp_i p0, gp_i p1, gp_i p2, gp_i p3, gp_r (some q7), gp_l m11, gp_n] [] s12 K)))))))))))) ∧ (¬ x6 = 0 → gs_E L (d + 1) 2824 22 [gp_r (some 1), gp_i p0, gp_i p1, gp_i p2, gp_i p3, gp_n, gp_n, gp_n] [] s5 K)))) ∧ (¬ x4 = 0 → gs_E L (d + 1) 2824 22 [gp_r (some 1), gp_i p0, gp_i p1, gp_i p2, gp_i p3, gp_n, gp_n, gp_n] [] s3 K)))) ∧ (¬ x2 = 0 → gs_E L (d + 1) 2824 22 [gp_r (some 1), gp_i p0, gp_i p1, gp_i p2, gp_i p3, gp_n, gp_n, gp_n] [] s1 K)))) : gs_C L (d + 1) 2824 8 [gp_r (some 1), gp_i p0, gp_i p1, gp_i p2, gp_i p3] s K := by
  show gs_E L (d + 1) 2824 0 [gp_r (some 1), gp_i p0, gp_i p1, gp_i p2, gp_i p3, gp_n, gp_n, gp_n] [] s K
  refine gs_E.stp (pc' := 1) (ls' := [gp_r (some 1), gp_i p0, gp_i p1, gp_i p2, gp_i p3, gp_n, gp_n, gp_n]) (st' := [gp_i p0]) (s' := s) 1 rfl ?_
  refine gs_E.call (args := [gp_i p0]) (m := 1) (y' := 2856) (st' := []) rfl H (fun r s1 H => ?_)
  obtain ⟨x2, rfl, H⟩ := H
  show gs_E L (d + 1) 2824 4 [gp_r (some 1), gp_i p0, gp_i p1, gp_i p2, gp_i p3, gp_n, gp_n, gp_n] [gp_i x2] s1 K
  refine gs_E.br (c := ¬ x2 = 0) (p1 := 22) (p2 := 7) (l1 := [gp_r (some 1), gp_i p0, gp_i p1, gp_i p2, gp_i p3, gp_n, gp_n, gp_n]) (l2 := [gp_r (some 1), gp_i p0, gp_i p1, gp_i p2, gp_i p3, gp_n, gp_n, gp_n]) (s1 := []) (s2 := []) rfl gs_b2 (fun hc => ?_) (fun hc => ?_)
  · replace H := H.2 hc
    exact H
  · replace H := H.1 (Decidable.byContradiction hc)
    refine gs_E.stp (pc' := 8) (ls' := [gp_r (some 1), gp_i p0, gp_i p1, gp_i p2, gp_i p3, gp_n, gp_n, gp_n]) (st' := [gp_i p1]) (s' := s1) 1 rfl ?_
    refine gs_E.call (args := [gp_i p1]) (m := 1) (y' := 2857) (st' := []) rfl H (fun r s3 H => ?_)
    obtain ⟨x4, rfl, H⟩ := H
    show gs_E L (d + 1) 2824 11 [gp_r (some 1), gp_i p0, gp_i p1, gp_i p2, gp_i p3, gp_n, gp_n, gp_n] [gp_i x4] s3 K
    refine gs_E.br (c := ¬ x4 = 0) (p1 := 22) (p2 := 14) (l1 := [gp_r (some 1), gp_i p0, gp_i p1, gp_i p2, gp_i p3, gp_n, gp_n, gp_n]) (l2 := [gp_r (some 1), gp_i p0, gp_i p1, gp_i p2, gp_i p3, gp_n, gp_n, gp_n]) (s1 := []) (s2 := []) rfl gs_b2 (fun hc => ?_) (fun hc => ?_)
    · replace H := H.2 hc
      exact H
    · replace H := H.1 (Decidable.byContradiction hc)
      refine gs_E.stp (pc' := 16) (ls' := [gp_r (some 1), gp_i p0, gp_i p1, gp_i p2, gp_i p3, gp_n, gp_n, gp_n]) (st' := [gp_i p3]) (s' := s3) 1 rfl ?_
      refine gs_E.call (args := [gp_i p3]) (m := 1) (y' := 2856) (st' := []) rfl H (fun r s5 H => ?_)
      obtain ⟨x6, rfl, H⟩ := H
      show gs_E L (d + 1) 2824 19 [gp_r (some 1), gp_i p0, gp_i p1, gp_i p2, gp_i p3, gp_n, gp_n, gp_n] [gp_i x6] s5 K
      refine gs_E.br (c := x6 = 0) (p1 := 28) (p2 := 22) (l1 := [gp_r (some 1), gp_i p0, gp_i p1, gp_i p2, gp_i p3, gp_n, gp_n, gp_n]) (l2 := [gp_r (some 1), gp_i p0, gp_i p1, gp_i p2, gp_i p3, gp_n, gp_n, gp_n]) (s1 := []) (s2 := []) rfl gs_b1 (fun hc => ?_) (fun hc => ?_)
      · replace H := H.1 hc
        refine gs_E.stp (pc' := 33) (ls' := [gp_r (some 1), gp_i p0, gp_i p1, gp_i p2, gp_i p3, gp_n, gp_n, gp_n]) (st' := [gp_i p0, gp_r (some 4)]) (s' := s5) 3 rfl ?_
        refine gs_E.ck (pc' := 34) (ls' := [gp_r (some 1), gp_i p0, gp_i p1, gp_i p2, gp_i p3, gp_n, gp_n, gp_n]) (st' := [gp_r (gp_R (gp_mk L s5) 4 p0.toNat)]) (s' := s5) rfl (Or.inl ⟨rfl, H.1.1, H.1.2⟩) ?_
        replace H := H.2
        refine gs_E.stp (pc' := 40) (ls' := [gp_r (some 1), gp_i p0, gp_i p1, gp_i p2, gp_i p3, gp_r (gp_R (gp_mk L s5) 4 p0.toNat), gp_n, gp_n]) (st' := [gp_r (gp_R (gp_mk L s5) 4 p0.toNat), gp_r (gp_R (gp_mk L s5) 4 p0.toNat)]) (s' := s5) 3 rfl ?_
        obtain ⟨q7, hq, H⟩ := H
        rw [hq]
        refine gs_E.callV (args := [gp_r (some q7)]) (m := 1) (y' := 2306) (st' := [gp_r (some q7)]) rfl H.1 H.2 (fun r s8 H => ?_)
        obtain ⟨x9, rfl, H⟩ := H
        show gs_E L (d + 1) 2824 43 [gp_r (some 1), gp_i p0, gp_i p1, gp_i p2, gp_i p3, gp_r (some q7), gp_n, gp_n] [gp_i x9, gp_r (some q7)] s8 K
        refine gs_E.stp (pc' := 44) (ls' := [gp_r (some 1), gp_i p0, gp_i p1, gp_i p2, gp_i p3, gp_r (some q7), gp_n, gp_n]) (st' := [gp_i p1, gp_i x9, gp_r (some q7)]) (s' := s8) 1 rfl ?_
        refine gs_E.callV (args := [gp_r (some q7), gp_i x9, gp_i p1]) (m := 3) (y' := 2307) (st' := []) rfl H.1 H.2 (fun r s10 H => ?_)
        obtain ⟨m11, rfl, H⟩ := H
        show gs_E L (d + 1) 2824 47 [gp_r (some 1), gp_i p0, gp_i p1, gp_i p2, gp_i p3, gp_r (some q7), gp_n, gp_n] [gp_l m11] s10 K
        refine gs_E.stp (pc' := 50) (ls' := [gp_r (some 1), gp_i p0, gp_i p1, gp_i p2, gp_i p3, gp_r (some q7), gp_l m11, gp_n]) (st' := [gp_i p2]) (s' := s10) 2 rfl ?_
        refine gs_E.br (c := p2 < 0) (p1 := 62) (p2 := 53) (l1 := [gp_r (some 1), gp_i p0, gp_i p1, gp_i p2, gp_i p3, gp_r (some q7), gp_l m11, gp_n]) (l2 := [gp_r (some 1), gp_i p0, gp_i p1, gp_i p2, gp_i p3, gp_r (some q7), gp_l m11, gp_n]) (s1 := []) (s2 := []) rfl gs_b1 (fun hc => ?_) (fun hc => ?_)
        · replace H := H.1 hc
          exact H
        · replace H := H.2 hc
          refine gs_E.stp (pc' := 56) (ls' := [gp_r (some 1), gp_i p0, gp_i p1, gp_i p2, gp_i p3, gp_r (some q7), gp_l m11, gp_n]) (st' := [gp_l m11, gp_i p2]) (s' := s10) 2 rfl ?_
          refine gs_E.call (args := [gp_l m11]) (m := 2) (y' := 3585) (st' := [gp_i p2]) rfl H (fun r s12 H => ?_)
          obtain ⟨x13, rfl, H⟩ := H
          show gs_E L (d + 1) 2824 59 [gp_r (some 1), gp_i p0, gp_i p1, gp_i p2, gp_i p3, gp_r (some q7), gp_l m11, gp_n] [gp_i x13, gp_i p2] s12 K
          refine gs_E.br (c := p2 < x13) (p1 := 68) (p2 := 62) (l1 := [gp_r (some 1), gp_i p0, gp_i p1, gp_i p2, gp_i p3, gp_r (some q7), gp_l m11, gp_n]) (l2 := [gp_r (some 1), gp_i p0, gp_i p1, gp_i p2, gp_i p3, gp_r (some q7), gp_l m11, gp_n]) (s1 := []) (s2 := []) rfl gs_b1 (fun hc => ?_) (fun hc => ?_)
          · replace H := H.1 hc
            refine gs_E.stp (pc' := 80) (ls' := [gp_r (some 1), gp_i p0, gp_i p1, gp_i p2, gp_i p3, gp_r (some q7), gp_l m11, gp_n]) (st' := [gp_i p2, gp_l m11, gp_r (some q7), gp_r (some 20), gp_i p3, gp_r (some 1)]) (s' := s12) 7 rfl ?_
            refine gs_E.call (args := [gp_l m11, gp_i p2]) (m := 6) (y' := 2860) (st' := [gp_r (some q7), gp_r (some 20), gp_i p3, gp_r (some 1)]) rfl H (fun r s14 H => ?_)
            obtain ⟨x15, rfl, H⟩ := H
            show gs_E L (d + 1) 2824 83 [gp_r (some 1), gp_i p0, gp_i p1, gp_i p2, gp_i p3, gp_r (some q7), gp_l m11, gp_n] [gp_i x15, gp_r (some q7), gp_r (some 20), gp_i p3, gp_r (some 1)] s14 K
            refine gs_E.call (args := [gp_r (some 20), gp_r (some q7), gp_i x15]) (m := 3) (y' := 261) (st' := [gp_i p3, gp_r (some 1)]) rfl H (fun r s16 H => ?_)
            obtain ⟨o17, rfl, H⟩ := H
            show gs_E L (d + 1) 2824 86 [gp_r (some 1), gp_i p0, gp_i p1, gp_i p2, gp_i p3, gp_r (some q7), gp_l m11, gp_n] [gp_r o17, gp_i p3, gp_r (some 1)] s16 K
            refine gs_E.call (args := [gp_r (some 1), gp_i p3, gp_r o17]) (m := 3) (y' := 2854) (st' := []) rfl H (fun r s18 H => ?_)
            obtain ⟨x19, rfl, H⟩ := H
            show gs_E L (d + 1) 2824 89 [gp_r (some 1), gp_i p0, gp_i p1, gp_i p2, gp_i p3, gp_r (some q7), gp_l m11, gp_n] [gp_i x19] s18 K
            exact gs_E.ret (r := (some (gp_i x19))) rfl H
          · replace H := H.2 hc
            exact H
      · replace H := H.2 hc
        exact H

set_option maxRecDepth 100000 in
/-- GatheredPoints.option, pc 22 -/
theorem s_2824_22 {L d : Nat} {K : Option gV → gH → Prop} {s : gH} (v1 : Int) (v2 : Int) (v3 : Int) (v4 : Int) (v5 : gV) (v6 : gV) (v7 : gV) (H : gs_C L d 2855 2 [gp_r (some 1), gp_i 1] s (fun r s1 => ∃ x2, r = some (gp_i x2) ∧ K (some (gp_i x2)) s1)) : gs_E L (d + 1) 2824 22 [gp_r (some 1), gp_i v1, gp_i v2, gp_i v3, gp_i v4, v5, v6, v7] [] s K := by
  refine gs_E.stp (pc' := 24) (ls' := [gp_r (some 1), gp_i v1, gp_i v2, gp_i v3, gp_i v4, v5, v6, v7]) (st' := [gp_i 1, gp_r (some 1)]) (s' := s) 2 rfl ?_
  refine gs_E.call (args := [gp_r (some 1), gp_i 1]) (m := 2) (y' := 2855) (st' := []) rfl H (fun r s1 H => ?_)
  obtain ⟨x2, rfl, H⟩ := H
  show gs_E L (d + 1) 2824 27 [gp_r (some 1), gp_i v1, gp_i v2, gp_i v3, gp_i v4, v5, v6, v7] [gp_i x2] s1 K
  exact gs_E.ret (r := (some (gp_i x2))) rfl H

set_option maxRecDepth 100000 in
/-- GatheredPoints.option, pc 62 -/
theorem s_2824_62 {L d : Nat} {K : Option gV → gH → Prop} {s : gH} (v1 : Int) (v2 : Int) (v3 : Int) (v4 : Int) (v5 : Option Nat) (v6 : BitVec 64) (H : gs_C L d 2855 2 [gp_r (some 1), gp_i 2] s (fun r s1 => ∃ x2, r = some (gp_i x2) ∧ K (some (gp_i x2)) s1)) : gs_E L (d + 1) 2824 62 [gp_r (some 1), gp_i v1, gp_i v2, gp_i v3, gp_i v4, gp_r v5, gp_l v6, gp_n] [] s K := by
  refine gs_E.stp (pc' := 64) (ls' := [gp_r (some 1), gp_i v1, gp_i v2, gp_i v3, gp_i v4, gp_r v5, gp_l v6, gp_n]) (st' := [gp_i 2, gp_r (some 1)]) (s' := s) 2 rfl ?_
  refine gs_E.call (args := [gp_r (some 1), gp_i 2]) (m := 2) (y' := 2855) (st' := []) rfl H (fun r s1 H => ?_)
  obtain ⟨x2, rfl, H⟩ := H
  show gs_E L (d + 1) 2824 67 [gp_r (some 1), gp_i v1, gp_i v2, gp_i v3, gp_i v4, gp_r v5, gp_l v6, gp_n] [gp_i x2] s1 K
  exact gs_E.ret (r := (some (gp_i x2))) rfl H

set_option maxRecDepth 100000 in
/-- GatheredPoints.gameOf, pc 0 -/
theorem s_2825_e {L d : Nat} {K : Option gV → gH → Prop} {s : gH} (p0 : Int) (p1 : Int) (H : gs_C L d 2856 1 [gp_i p0] s (fun r s1 => ∃ x2, r = some (gp_i x2) ∧ ((x2 = 0 → ((p1 < 0 → gs_E L (d + 1) 2825 17 [gp_r (some 1), gp_i p0, gp_i p1, gp_n, gp_n] [] s1 K) ∧ (¬ p1 < 0 → ((12 < p1 → gs_E L (d + 1) 2825 17 [gp_r (some 1), gp_i p0, gp_i p1, gp_n, gp_n] [] s1 K) ∧ (¬ 12 < p1 → ((0 ≤ p0 ∧ p0 < 8) ∧ (∃ q3, gp_R (gp_mk L s1) 4 p0.toNat = some q3 ∧ ((gp_sh (gp_mk L s1) q3).1 = 9 ∧ gs_C L d 2306 1 [gp_r (some q3)] s1 (fun r s4 => ∃ x5, r = some (gp_i x5) ∧ ((p1 = 0 → ((gp_sh (gp_mk L s4) q3).1 = 9 ∧ K (some (gp_i (gp_I s4 q3 0))) s4)) ∧ (p1 = 1 → ((gp_sh (gp_mk L s4) q3).1 = 9 ∧ (∃ q6, gp_R (gp_mk L s4) q3 5 = some q6 ∧ (gp_in (gp_mk L s4) 100 q6 x5 ∧ K (some (gp_i (gp_I s4 q6 x5.toNat))) s4)))) ∧ (p1 = 2 → ((gp_sh (gp_mk L s4) q3).1 = 9 ∧ (∃ q7, gp_R (gp_mk L s4) q3 1 = some q7 ∧ (gp_in (gp_mk L s4) 101 q7 x5 ∧ gs_C L d 3585 2 [gp_l (gp_L s4 q7 x5.toNat)] s4 (fun r s8 => ∃ x9, r = some (gp_i x9) ∧ K (some (gp_i x9)) s8))))) ∧ (p1 = 3 → ((gp_sh (gp_mk L s4) q3).1 = 9 ∧ (∃ q10, gp_R (gp_mk L s4) q3 2 = some q10 ∧ (gp_in (gp_mk L s4) 101 q10 x5 ∧ gs_C L d 3585 2 [gp_l (gp_L s4 q10 x5.toNat)] s4 (fun r s11 => ∃ x12, r = some (gp_i x12) ∧ K (some (gp_i x12)) s11))))) ∧ (p1 = 4 → ((gp_sh (gp_mk L s4) q3).1 = 9 ∧ (∃ q13, gp_R (gp_mk L s4) q3 1 = some q13 ∧ (gp_in (gp_mk L s4) 101 q13 x5 ∧ (((gp_cmp (gp_L s4 q13 x5.toNat) (0#64)) = 0 → ((gp_sh (gp_mk L s4) q3).1 = 9 ∧ (∃ q14, gp_R (gp_mk L s4) q3 3 = some q14 ∧ (gp_in (gp_mk L s4) 100 q14 x5 ∧ gs_E L (d + 1) 2825 166 [gp_r (some 1), gp_i p0, gp_i p1, gp_r (some q3), gp_i x5] [gp_i (gp_I s4 q14 x5.toNat)] s4 K)))) ∧ (¬ (gp_cmp (gp_L s4 q13 x5.toNat) (0#64)) = 0 → gs_C L d 2855 2 [gp_r (some 1), gp_i 2] s4 (fun r s15 => ∃ x16, r = some (gp_i x16) ∧ gs_E L (d + 1) 2825 166 [gp_r (some 1), gp_i p0, gp_i p1, gp_r (some q3), gp_i x5] [gp_i x16] s15 K))))))) ∧ (p1 = 5 → ((gp_sh (gp_mk L s4) q3).1 = 9 ∧ (∃ q17, gp_R (gp_mk L s4) q3 2 = some q17 ∧ (gp_in (gp_mk L s4) 101 q17 x5 ∧ (((gp_cmp (gp_L s4 q17 x5.toNat) (0#64)) = 0 → ((gp_sh (gp_mk L s4) q3).1 = 9 ∧ (∃ q18, gp_R (gp_mk L s4) q3 4 = some q18 ∧ (gp_in (gp_mk L s4) 100 q18 x5 ∧ gs_E L (d + 1) 2825 194 [gp_r (some 1), gp_i p0, gp_i p1, gp_r (some q3), gp_i x5] [gp_i (gp_I s4 q18 x5.toNat)] s4 K)))) ∧ (¬ (gp_cmp (gp_L s4 q17 x5.toNat) (0#64)) = 0 → gs_C L d 2855 2 [gp_r (some 1), gp_i 2] s4 (fun r s19 => ∃ x20, r = some (gp_i x20) ∧ gs_E L (d + 1) 2825 194 [gp_r (some 1), gp_i p0, gp_i p1, gp_r (some q3), gp_i x5] [gp_i x20] s19 K))))))) ∧ (p1 = 6 → gs_C L d 769 4 [gp_r (some 31), gp_r (some q3), gp_i 0] s4 (fun r s21 => ∃ x22, r = some (gp_i x22) ∧ K (some (gp_i x22)) s21)) ∧ (p1 = 7 → gs_C L d 769 4 [gp_r (some 31), gp_r (some q3), gp_i 1] s4 (fun r s23 => ∃ x24, r = some (gp_i x24) ∧ K (some (gp_i x24)) s23)) ∧ (p1 = 8 → gs_C L d 2826 4 [gp_r (some 1), gp_r (some q3), gp_i p1] s4 (fun r s25 => ∃ x26, r = some (gp_i x26) ∧ K (some (gp_i x26)) s25)) ∧ (p1 = 9 → gs_C L d 2826 4 [gp_r (some 1), gp_r (some q3), gp_i p1] s4 (fun r s27 => ∃ x28, r = some (gp_i x28) ∧ K (some (gp_i x28)) s27)) ∧ (p1 = 10 → gs_C L d 2826 4 [gp_r (some 1), gp_r (some q3), gp_i p1] s4 (fun r s29 => ∃ x30, r = some (gp_i x30) ∧ K (some (gp_i x30)) s29)) ∧ (p1 = 11 → gs_C L d 2826 4 [gp_r (some 1), gp_r (some q3), gp_i p1] s4 (fun r s31 => ∃ x32, r = some (gp_i x32) ∧ K (some (gp_i x32)) s31)) ∧ (p1 = 12 → gs_C L d 776 3 [gp_r (some 31), gp_r (some q3)] s4 (fun r s33 => ∃ x34, r = some (gp_i x34) ∧ ((x34 = 0 → gs_E L (d + 1) 2825 231 [gp_r (some 1), gp_i p0, gp_i p1, gp_r (some q3), gp_i x5] [gp_i 0] s33 K) ∧ (¬ x34 = 0 → gs_E L (d + 1) 2825 231 [gp_r (some 1), gp_i p0, gp_i p1, gp_r (some q3), gp_i x5] [gp_i 1] s33 K)))) ∧ ((p1 < 0 ∨ 12 < p1) → gs_C L d 2826 4 [gp_r (some 1), gp_r (some q3), gp_i p1] s4 (fun r s35 => ∃ x36, r = some (gp_i x36) ∧ K (some (gp_i x36)) s35)))))))))))) ∧ (¬ x2 = 0 → gs_E L (d + 1) 2825 17 [gp_r (some 1), gp_i p0, gp_i p1, gp_n, gp_n] [] s1 K)))) : gs_C L (d + 1) 2825 5 [gp_r (some 1), gp_i p0, gp_i p1] s K := by
  show gs_E L (d + 1) 2825 0 [gp_r (some 1), gp_i p0, gp_i p1, gp_n, gp_n] [] s K
  refine gs_E.stp (pc' := 1) (ls' := [gp_r (some 1), gp_i p0, gp_i p1, gp_n, gp_n]) (st' := [gp_i p0]) (s' := s) 1 rfl ?_
  refine gs_E.call (args := [gp_i p0]) (m := 1) (y' := 2856) (st' := []) rfl H (fun r s1 H => ?_)
  obtain ⟨x2, rfl, H⟩ := H
  show gs_E L (d + 1) 2825 4 [gp_r (some 1), gp_i p0, gp_i p1, gp_n, gp_n] [gp_i x2] s1 K
  refine gs_E.br (c := ¬ x2 = 0) (p1 := 17) (p2 := 7) (l1 := [gp_r (some 1), gp_i p0, gp_i p1, gp_n, gp_n]) (l2 := [gp_r (some 1), gp_i p0, gp_i p1, gp_n, gp_n]) (s1 := []) (s2 := []) rfl gs_b2 (fun hc => ?_) (fun hc => ?_)
  · replace H := H.2 hc
    exact H
  · replace H := H.1 (Decidable.byContradiction hc)
    refine gs_E.stp (pc' := 8) (ls' := [gp_r (some 1), gp_i p0, gp_i p1, gp_n, gp_n]) (st' := [gp_i p1]) (s' := s1) 1 rfl ?_
    refine gs_E.br (c := p1 < 0) (p1 := 17) (p2 := 11) (l1 := [gp_r (some 1), gp_i p0, gp_i p1, gp_n, gp_n]) (l2 := [gp_r (some 1), gp_i p0, gp_i p1, gp_n, gp_n]) (s1 := []) (s2 := []) rfl gs_b1 (fun hc => ?_) (fun hc => ?_)
    · replace H := H.1 hc
      exact H
    · replace H := H.2 hc
      refine gs_E.stp (pc' := 14) (ls' := [gp_r (some 1), gp_i p0, gp_i p1, gp_n, gp_n]) (st' := [gp_i 12, gp_i p1]) (s' := s1) 2 rfl ?_
      refine gs_E.br (c := ¬ 12 < p1) (p1 := 23) (p2 := 17) (l1 := [gp_r (some 1), gp_i p0, gp_i p1, gp_n, gp_n]) (l2 := [gp_r (some 1), gp_i p0, gp_i p1, gp_n, gp_n]) (s1 := []) (s2 := []) rfl gs_b2 (fun hc => ?_) (fun hc => ?_)
      · replace H := H.2 hc
        refine gs_E.stp (pc' := 28) (ls' := [gp_r (some 1), gp_i p0, gp_i p1, gp_n, gp_n]) (st' := [gp_i p0, gp_r (some 4)]) (s' := s1) 3 rfl ?_
        refine gs_E.ck (pc' := 29) (ls' := [gp_r (some 1), gp_i p0, gp_i p1, gp_n, gp_n]) (st' := [gp_r (gp_R (gp_mk L s1) 4 p0.toNat)]) (s' := s1) rfl (Or.inl ⟨rfl, H.1.1, H.1.2⟩) ?_
        replace H := H.2
        refine gs_E.stp (pc' := 31) (ls' := [gp_r (some 1), gp_i p0, gp_i p1, gp_r (gp_R (gp_mk L s1) 4 p0.toNat), gp_n]) (st' := [gp_r (gp_R (gp_mk L s1) 4 p0.toNat)]) (s' := s1) 2 rfl ?_
        obtain ⟨q3, hq, H⟩ := H
        rw [hq]
        refine gs_E.callV (args := [gp_r (some q3)]) (m := 1) (y' := 2306) (st' := []) rfl H.1 H.2 (fun r s4 H => ?_)
        obtain ⟨x5, rfl, H⟩ := H
        show gs_E L (d + 1) 2825 34 [gp_r (some 1), gp_i p0, gp_i p1, gp_r (some q3), gp_n] [gp_i x5] s4 K
        refine gs_E.stp (pc' := 37) (ls' := [gp_r (some 1), gp_i p0, gp_i p1, gp_r (some q3), gp_i x5]) (st' := [gp_i p1]) (s' := s4) 2 rfl ?_
        have hsw : (p1 = 0 ∨ p1 = 1 ∨ p1 = 2 ∨ p1 = 3 ∨ p1 = 4 ∨ p1 = 5 ∨ p1 = 6 ∨ p1 = 7 ∨ p1 = 8 ∨ p1 = 9 ∨ p1 = 10 ∨ p1 = 11 ∨ p1 = 12) ∨ (p1 < 0 ∨ 12 < p1) := by omega
        rcases hsw with (hsw | hsw | hsw | hsw | hsw | hsw | hsw | hsw | hsw | hsw | hsw | hsw | hsw) | hsw
        · replace H := H.1 hsw
          refine gs_E.swi (v := 0) (pc' := 104) (ls' := [gp_r (some 1), gp_i p0, gp_i p1, gp_r (some q3), gp_i x5]) (st' := []) hsw rfl ?_
          refine gs_E.stp (pc' := 105) (ls' := [gp_r (some 1), gp_i p0, gp_i p1, gp_r (some q3), gp_i x5]) (st' := [gp_r (some q3)]) (s' := s4) 1 rfl ?_
          refine gs_E.ck (pc' := 108) (ls' := [gp_r (some 1), gp_i p0, gp_i p1, gp_r (some q3), gp_i x5]) (st' := [gp_i (gp_I s4 q3 0)]) (s' := s4) rfl H.1 ?_
          replace H := H.2
          exact gs_E.ret (r := (some (gp_i (gp_I s4 q3 0)))) rfl H
        · replace H := H.2.1 hsw
          refine gs_E.swi (v := 1) (pc' := 109) (ls' := [gp_r (some 1), gp_i p0, gp_i p1, gp_r (some q3), gp_i x5]) (st' := []) hsw rfl ?_
          refine gs_E.stp (pc' := 110) (ls' := [gp_r (some 1), gp_i p0, gp_i p1, gp_r (some q3), gp_i x5]) (st' := [gp_r (some q3)]) (s' := s4) 1 rfl ?_
          refine gs_E.ck (pc' := 113) (ls' := [gp_r (some 1), gp_i p0, gp_i p1, gp_r (some q3), gp_i x5]) (st' := [gp_r (gp_R (gp_mk L s4) q3 5)]) (s' := s4) rfl H.1 ?_
          replace H := H.2
          refine gs_E.stp (pc' := 115) (ls' := [gp_r (some 1), gp_i p0, gp_i p1, gp_r (some q3), gp_i x5]) (st' := [gp_i x5, gp_r (gp_R (gp_mk L s4) q3 5)]) (s' := s4) 1 rfl ?_
          obtain ⟨q6, hq, H⟩ := H
          rw [hq]
          refine gs_E.ck (pc' := 116) (ls' := [gp_r (some 1), gp_i p0, gp_i p1, gp_r (some q3), gp_i x5]) (st' := [gp_i (gp_I s4 q6 x5.toNat)]) (s' := s4) rfl (Or.inl H.1) ?_
          replace H := H.2
          exact gs_E.ret (r := (some (gp_i (gp_I s4 q6 x5.toNat)))) rfl H
        · replace H := H.2.2.1 hsw
          refine gs_E.swi (v := 2) (pc' := 117) (ls' := [gp_r (some 1), gp_i p0, gp_i p1, gp_r (some q3), gp_i x5]) (st' := []) hsw rfl ?_
          refine gs_E.stp (pc' := 118) (ls' := [gp_r (some 1), gp_i p0, gp_i p1, gp_r (some q3), gp_i x5]) (st' := [gp_r (some q3)]) (s' := s4) 1 rfl ?_
          refine gs_E.ck (pc' := 121) (ls' := [gp_r (some 1), gp_i p0, gp_i p1, gp_r (some q3), gp_i x5]) (st' := [gp_r (gp_R (gp_mk L s4) q3 1)]) (s' := s4) rfl H.1 ?_
          replace H := H.2
          refine gs_E.stp (pc' := 123) (ls' := [gp_r (some 1), gp_i p0, gp_i p1, gp_r (some q3), gp_i x5]) (st' := [gp_i x5, gp_r (gp_R (gp_mk L s4) q3 1)]) (s' := s4) 1 rfl ?_
          obtain ⟨q7, hq, H⟩ := H
          rw [hq]
          refine gs_E.ck (pc' := 124) (ls' := [gp_r (some 1), gp_i p0, gp_i p1, gp_r (some q3), gp_i x5]) (st' := [gp_l (gp_L s4 q7 x5.toNat)]) (s' := s4) rfl H.1 ?_
          replace H := H.2
          refine gs_E.call (args := [gp_l (gp_L s4 q7 x5.toNat)]) (m := 2) (y' := 3585) (st' := []) rfl H (fun r s8 H => ?_)
          obtain ⟨x9, rfl, H⟩ := H
          show gs_E L (d + 1) 2825 127 [gp_r (some 1), gp_i p0, gp_i p1, gp_r (some q3), gp_i x5] [gp_i x9] s8 K
          exact gs_E.ret (r := (some (gp_i x9))) rfl H
        · replace H := H.2.2.2.1 hsw
          refine gs_E.swi (v := 3) (pc' := 128) (ls' := [gp_r (some 1), gp_i p0, gp_i p1, gp_r (some q3), gp_i x5]) (st' := []) hsw rfl ?_
          refine gs_E.stp (pc' := 129) (ls' := [gp_r (some 1), gp_i p0, gp_i p1, gp_r (some q3), gp_i x5]) (st' := [gp_r (some q3)]) (s' := s4) 1 rfl ?_
          refine gs_E.ck (pc' := 132) (ls' := [gp_r (some 1), gp_i p0, gp_i p1, gp_r (some q3), gp_i x5]) (st' := [gp_r (gp_R (gp_mk L s4) q3 2)]) (s' := s4) rfl H.1 ?_
          replace H := H.2
          refine gs_E.stp (pc' := 134) (ls' := [gp_r (some 1), gp_i p0, gp_i p1, gp_r (some q3), gp_i x5]) (st' := [gp_i x5, gp_r (gp_R (gp_mk L s4) q3 2)]) (s' := s4) 1 rfl ?_
          obtain ⟨q10, hq, H⟩ := H
          rw [hq]
          refine gs_E.ck (pc' := 135) (ls' := [gp_r (some 1), gp_i p0, gp_i p1, gp_r (some q3), gp_i x5]) (st' := [gp_l (gp_L s4 q10 x5.toNat)]) (s' := s4) rfl H.1 ?_
          replace H := H.2
          refine gs_E.call (args := [gp_l (gp_L s4 q10 x5.toNat)]) (m := 2) (y' := 3585) (st' := []) rfl H (fun r s11 H => ?_)
          obtain ⟨x12, rfl, H⟩ := H
          show gs_E L (d + 1) 2825 138 [gp_r (some 1), gp_i p0, gp_i p1, gp_r (some q3), gp_i x5] [gp_i x12] s11 K
          exact gs_E.ret (r := (some (gp_i x12))) rfl H
        · replace H := H.2.2.2.2.1 hsw
          refine gs_E.swi (v := 4) (pc' := 139) (ls' := [gp_r (some 1), gp_i p0, gp_i p1, gp_r (some q3), gp_i x5]) (st' := []) hsw rfl ?_
          refine gs_E.stp (pc' := 140) (ls' := [gp_r (some 1), gp_i p0, gp_i p1, gp_r (some q3), gp_i x5]) (st' := [gp_r (some q3)]) (s' := s4) 1 rfl ?_
          refine gs_E.ck (pc' := 143) (ls' := [gp_r (some 1), gp_i p0, gp_i p1, gp_r (some q3), gp_i x5]) (st' := [gp_r (gp_R (gp_mk L s4) q3 1)]) (s' := s4) rfl H.1 ?_
          replace H := H.2
          refine gs_E.stp (pc' := 145) (ls' := [gp_r (some 1), gp_i p0, gp_i p1, gp_r (some q3), gp_i x5]) (st' := [gp_i x5, gp_r (gp_R (gp_mk L s4) q3 1)]) (s' := s4) 1 rfl ?_
          obtain ⟨q13, hq, H⟩ := H
          rw [hq]
          refine gs_E.ck (pc' := 146) (ls' := [gp_r (some 1), gp_i p0, gp_i p1, gp_r (some q3), gp_i x5]) (st' := [gp_l (gp_L s4 q13 x5.toNat)]) (s' := s4) rfl H.1 ?_
          replace H := H.2
          refine gs_E.stp (pc' := 148) (ls' := [gp_r (some 1), gp_i p0, gp_i p1, gp_r (some q3), gp_i x5]) (st' := [gp_i (gp_cmp (gp_L s4 q13 x5.toNat) (0#64))]) (s' := s4) 2 rfl ?_
          refine gs_E.br (c := (gp_cmp (gp_L s4 q13 x5.toNat) (0#64)) = 0) (p1 := 159) (p2 := 151) (l1 := [gp_r (some 1), gp_i p0, gp_i p1, gp_r (some q3), gp_i x5]) (l2 := [gp_r (some 1), gp_i p0, gp_i p1, gp_r (some q3), gp_i x5]) (s1 := []) (s2 := []) rfl gs_b1 (fun hc => ?_) (fun hc => ?_)
          · replace H := H.1 hc
            refine gs_E.stp (pc' := 160) (ls' := [gp_r (some 1), gp_i p0, gp_i p1, gp_r (some q3), gp_i x5]) (st' := [gp_r (some q3)]) (s' := s4) 1 rfl ?_
            refine gs_E.ck (pc' := 163) (ls' := [gp_r (some 1), gp_i p0, gp_i p1, gp_r (some q3), gp_i x5]) (st' := [gp_r (gp_R (gp_mk L s4) q3 3)]) (s' := s4) rfl H.1 ?_
            replace H := H.2
            refine gs_E.stp (pc' := 165) (ls' := [gp_r (some 1), gp_i p0, gp_i p1, gp_r (some q3), gp_i x5]) (st' := [gp_i x5, gp_r (gp_R (gp_mk L s4) q3 3)]) (s' := s4) 1 rfl ?_
            obtain ⟨q14, hq, H⟩ := H
            rw [hq]
            refine gs_E.ck (pc' := 166) (ls' := [gp_r (some 1), gp_i p0, gp_i p1, gp_r (some q3), gp_i x5]) (st' := [gp_i (gp_I s4 q14 x5.toNat)]) (s' := s4) rfl (Or.inl H.1) ?_
            replace H := H.2
            exact H
          · replace H := H.2 hc
            refine gs_E.stp (pc' := 153) (ls' := [gp_r (some 1), gp_i p0, gp_i p1, gp_r (some q3), gp_i x5]) (st' := [gp_i 2, gp_r (some 1)]) (s' := s4) 2 rfl ?_
            refine gs_E.call (args := [gp_r (some 1), gp_i 2]) (m := 2) (y' := 2855) (st' := []) rfl H (fun r s15 H => ?_)
            obtain ⟨x16, rfl, H⟩ := H
            show gs_E L (d + 1) 2825 156 [gp_r (some 1), gp_i p0, gp_i p1, gp_r (some q3), gp_i x5] [gp_i x16] s15 K
            refine gs_E.stp (pc' := 166) (ls' := [gp_r (some 1), gp_i p0, gp_i p1, gp_r (some q3), gp_i x5]) (st' := [gp_i x16]) (s' := s15) 1 rfl ?_
            exact H
        · replace H := H.2.2.2.2.2.1 hsw
          refine gs_E.swi (v := 5) (pc' := 167) (ls' := [gp_r (some 1), gp_i p0, gp_i p1, gp_r (some q3), gp_i x5]) (st' := []) hsw rfl ?_
          refine gs_E.stp (pc' := 168) (ls' := [gp_r (some 1), gp_i p0, gp_i p1, gp_r (some q3), gp_i x5]) (st' := [gp_r (some q3)]) (s' := s4) 1 rfl ?_
          refine gs_E.ck (pc' := 171) (ls' := [gp_r (some 1), gp_i p0, gp_i p1, gp_r (some q3), gp_i x5]) (st' := [gp_r (gp_R (gp_mk L s4) q3 2)]) (s' := s4) rfl H.1 ?_
          replace H := H.2
          refine gs_E.stp (pc' := 173) (ls' := [gp_r (some 1), gp_i p0, gp_i p1, gp_r (some q3), gp_i x5]) (st' := [gp_i x5, gp_r (gp_R (gp_mk L s4) q3 2)]) (s' := s4) 1 rfl ?_
          obtain ⟨q17, hq, H⟩ := H
          rw [hq]
          refine gs_E.ck (pc' := 174) (ls' := [gp_r (some 1), gp_i p0, gp_i p1, gp_r (some q3), gp_i x5]) (st' := [gp_l (gp_L s4 q17 x5.toNat)]) (s' := s4) rfl H.1 ?_
          replace H := H.2
          refine gs_E.stp (pc' := 176) (ls' := [gp_r (some 1), gp_i p0, gp_i p1, gp_r (some q3), gp_i x5]) (st' := [gp_i (gp_cmp (gp_L s4 q17 x5.toNat) (0#64))]) (s' := s4) 2 rfl ?_
          refine gs_E.br (c := (gp_cmp (gp_L s4 q17 x5.toNat) (0#64)) = 0) (p1 := 187) (p2 := 179) (l1 := [gp_r (some 1), gp_i p0, gp_i p1, gp_r (some q3), gp_i x5]) (l2 := [gp_r (some 1), gp_i p0, gp_i p1, gp_r (some q3), gp_i x5]) (s1 := []) (s2 := []) rfl gs_b1 (fun hc => ?_) (fun hc => ?_)
          · replace H := H.1 hc
            refine gs_E.stp (pc' := 188) (ls' := [gp_r (some 1), gp_i p0, gp_i p1, gp_r (some q3), gp_i x5]) (st' := [gp_r (some q3)]) (s' := s4) 1 rfl ?_
            refine gs_E.ck (pc' := 191) (ls' := [gp_r (some 1), gp_i p0, gp_i p1, gp_r (some q3), gp_i x5]) (st' := [gp_r (gp_R (gp_mk L s4) q3 4)]) (s' := s4) rfl H.1 ?_
            replace H := H.2
            refine gs_E.stp (pc' := 193) (ls' := [gp_r (some 1), gp_i p0, gp_i p1, gp_r (some q3), gp_i x5]) (st' := [gp_i x5, gp_r (gp_R (gp_mk L s4) q3 4)]) (s' := s4) 1 rfl ?_
            obtain ⟨q18, hq, H⟩ := H
            rw [hq]
            refine gs_E.ck (pc' := 194) (ls' := [gp_r (some 1), gp_i p0, gp_i p1, gp_r (some q3), gp_i x5]) (st' := [gp_i (gp_I s4 q18 x5.toNat)]) (s' := s4) rfl (Or.inl H.1) ?_
            replace H := H.2
            exact H
          · replace H := H.2 hc
            refine gs_E.stp (pc' := 181) (ls' := [gp_r (some 1), gp_i p0, gp_i p1, gp_r (some q3), gp_i x5]) (st' := [gp_i 2, gp_r (some 1)]) (s' := s4) 2 rfl ?_
            refine gs_E.call (args := [gp_r (some 1), gp_i 2]) (m := 2) (y' := 2855) (st' := []) rfl H (fun r s19 H => ?_)
            obtain ⟨x20, rfl, H⟩ := H
            show gs_E L (d + 1) 2825 184 [gp_r (some 1), gp_i p0, gp_i p1, gp_r (some q3), gp_i x5] [gp_i x20] s19 K
            refine gs_E.stp (pc' := 194) (ls' := [gp_r (some 1), gp_i p0, gp_i p1, gp_r (some q3), gp_i x5]) (st' := [gp_i x20]) (s' := s19) 1 rfl ?_
            exact H
        · replace H := H.2.2.2.2.2.2.1 hsw
          refine gs_E.swi (v := 6) (pc' := 195) (ls' := [gp_r (some 1), gp_i p0, gp_i p1, gp_r (some q3), gp_i x5]) (st' := []) hsw rfl ?_
          refine gs_E.stp (pc' := 201) (ls' := [gp_r (some 1), gp_i p0, gp_i p1, gp_r (some q3), gp_i x5]) (st' := [gp_i 0, gp_r (some q3), gp_r (some 31)]) (s' := s4) 4 rfl ?_
          refine gs_E.call (args := [gp_r (some 31), gp_r (some q3), gp_i 0]) (m := 4) (y' := 769) (st' := []) rfl H (fun r s21 H => ?_)
          obtain ⟨x22, rfl, H⟩ := H
          show gs_E L (d + 1) 2825 204 [gp_r (some 1), gp_i p0, gp_i p1, gp_r (some q3), gp_i x5] [gp_i x22] s21 K
          exact gs_E.ret (r := (some (gp_i x22))) rfl H
        · replace H := H.2.2.2.2.2.2.2.1 hsw
          refine gs_E.swi (v := 7) (pc' := 205) (ls' := [gp_r (some 1), gp_i p0, gp_i p1, gp_r (some q3), gp_i x5]) (st' := []) hsw rfl ?_
          refine gs_E.stp (pc' := 211) (ls' := [gp_r (some 1), gp_i p0, gp_i p1, gp_r (some q3), gp_i x5]) (st' := [gp_i 1, gp_r (some q3), gp_r (some 31)]) (s' := s4) 4 rfl ?_
          refine gs_E.call (args := [gp_r (some 31), gp_r (some q3), gp_i 1]) (m := 4) (y' := 769) (st' := []) rfl H (fun r s23 H => ?_)
          obtain ⟨x24, rfl, H⟩ := H
          show gs_E L (d + 1) 2825 214 [gp_r (some 1), gp_i p0, gp_i p1, gp_r (some q3), gp_i x5] [gp_i x24] s23 K
          exact gs_E.ret (r := (some (gp_i x24))) rfl H
        · replace H := H.2.2.2.2.2.2.2.2.1 hsw
          refine gs_E.swi (v := 8) (pc' := 232) (ls' := [gp_r (some 1), gp_i p0, gp_i p1, gp_r (some q3), gp_i x5]) (st' := []) hsw rfl ?_
          refine gs_E.stp (pc' := 235) (ls' := [gp_r (some 1), gp_i p0, gp_i p1, gp_r (some q3), gp_i x5]) (st' := [gp_i p1, gp_r (some q3), gp_r (some 1)]) (s' := s4) 3 rfl ?_
          refine gs_E.call (args := [gp_r (some 1), gp_r (some q3), gp_i p1]) (m := 4) (y' := 2826) (st' := []) rfl H (fun r s25 H => ?_)
          obtain ⟨x26, rfl, H⟩ := H
          show gs_E L (d + 1) 2825 238 [gp_r (some 1), gp_i p0, gp_i p1, gp_r (some q3), gp_i x5] [gp_i x26] s25 K
          exact gs_E.ret (r := (some (gp_i x26))) rfl H
        · replace H := H.2.2.2.2.2.2.2.2.2.1 hsw
          refine gs_E.swi (v := 9) (pc' := 232) (ls' := [gp_r (some 1), gp_i p0, gp_i p1, gp_r (some q3), gp_i x5]) (st' := []) hsw rfl ?_
          refine gs_E.stp (pc' := 235) (ls' := [gp_r (some 1), gp_i p0, gp_i p1, gp_r (some q3), gp_i x5]) (st' := [gp_i p1, gp_r (some q3), gp_r (some 1)]) (s' := s4) 3 rfl ?_
          refine gs_E.call (args := [gp_r (some 1), gp_r (some q3), gp_i p1]) (m := 4) (y' := 2826) (st' := []) rfl H (fun r s27 H => ?_)
          obtain ⟨x28, rfl, H⟩ := H
          show gs_E L (d + 1) 2825 238 [gp_r (some 1), gp_i p0, gp_i p1, gp_r (some q3), gp_i x5] [gp_i x28] s27 K
          exact gs_E.ret (r := (some (gp_i x28))) rfl H
        · replace H := H.2.2.2.2.2.2.2.2.2.2.1 hsw
          refine gs_E.swi (v := 10) (pc' := 232) (ls' := [gp_r (some 1), gp_i p0, gp_i p1, gp_r (some q3), gp_i x5]) (st' := []) hsw rfl ?_
          refine gs_E.stp (pc' := 235) (ls' := [gp_r (some 1), gp_i p0, gp_i p1, gp_r (some q3), gp_i x5]) (st' := [gp_i p1, gp_r (some q3), gp_r (some 1)]) (s' := s4) 3 rfl ?_
          refine gs_E.call (args := [gp_r (some 1), gp_r (some q3), gp_i p1]) (m := 4) (y' := 2826) (st' := []) rfl H (fun r s29 H => ?_)
          obtain ⟨x30, rfl, H⟩ := H
          show gs_E L (d + 1) 2825 238 [gp_r (some 1), gp_i p0, gp_i p1, gp_r (some q3), gp_i x5] [gp_i x30] s29 K
          exact gs_E.ret (r := (some (gp_i x30))) rfl H
        · replace H := H.2.2.2.2.2.2.2.2.2.2.2.1 hsw
          refine gs_E.swi (v := 11) (pc' := 232) (ls' := [gp_r (some 1), gp_i p0, gp_i p1, gp_r (some q3), gp_i x5]) (st' := []) hsw rfl ?_
          refine gs_E.stp (pc' := 235) (ls' := [gp_r (some 1), gp_i p0, gp_i p1, gp_r (some q3), gp_i x5]) (st' := [gp_i p1, gp_r (some q3), gp_r (some 1)]) (s' := s4) 3 rfl ?_
          refine gs_E.call (args := [gp_r (some 1), gp_r (some q3), gp_i p1]) (m := 4) (y' := 2826) (st' := []) rfl H (fun r s31 H => ?_)
          obtain ⟨x32, rfl, H⟩ := H
          show gs_E L (d + 1) 2825 238 [gp_r (some 1), gp_i p0, gp_i p1, gp_r (some q3), gp_i x5] [gp_i x32] s31 K
          exact gs_E.ret (r := (some (gp_i x32))) rfl H
        · replace H := H.2.2.2.2.2.2.2.2.2.2.2.2.1 hsw
          refine gs_E.swi (v := 12) (pc' := 215) (ls' := [gp_r (some 1), gp_i p0, gp_i p1, gp_r (some q3), gp_i x5]) (st' := []) hsw rfl ?_
          refine gs_E.stp (pc' := 220) (ls' := [gp_r (some 1), gp_i p0, gp_i p1, gp_r (some q3), gp_i x5]) (st' := [gp_r (some q3), gp_r (some 31)]) (s' := s4) 3 rfl ?_
          refine gs_E.call (args := [gp_r (some 31), gp_r (some q3)]) (m := 3) (y' := 776) (st' := []) rfl H (fun r s33 H => ?_)
          obtain ⟨x34, rfl, H⟩ := H
          show gs_E L (d + 1) 2825 223 [gp_r (some 1), gp_i p0, gp_i p1, gp_r (some q3), gp_i x5] [gp_i x34] s33 K
          refine gs_E.br (c := x34 = 0) (p1 := 230) (p2 := 226) (l1 := [gp_r (some 1), gp_i p0, gp_i p1, gp_r (some q3), gp_i x5]) (l2 := [gp_r (some 1), gp_i p0, gp_i p1, gp_r (some q3), gp_i x5]) (s1 := []) (s2 := []) rfl gs_b1 (fun hc => ?_) (fun hc => ?_)
          · replace H := H.1 hc
            refine gs_E.stp (pc' := 231) (ls' := [gp_r (some 1), gp_i p0, gp_i p1, gp_r (some q3), gp_i x5]) (st' := [gp_i 0]) (s' := s33) 1 rfl ?_
            exact H
          · replace H := H.2 hc
            refine gs_E.stp (pc' := 231) (ls' := [gp_r (some 1), gp_i p0, gp_i p1, gp_r (some q3), gp_i x5]) (st' := [gp_i 1]) (s' := s33) 2 rfl ?_
            exact H
        · replace H := H.2.2.2.2.2.2.2.2.2.2.2.2.2 hsw
          refine gs_E.swo (pc' := 232) (ls' := [gp_r (some 1), gp_i p0, gp_i p1, gp_r (some q3), gp_i x5]) (st' := []) (C := p1 < 0 ∨ 12 < p1) (B := _) rfl hsw ?_
          refine gs_E.stp (pc' := 235) (ls' := [gp_r (some 1), gp_i p0, gp_i p1, gp_r (some q3), gp_i x5]) (st' := [gp_i p1, gp_r (some q3), gp_r (some 1)]) (s' := s4) 3 rfl ?_
          refine gs_E.call (args := [gp_r (some 1), gp_r (some q3), gp_i p1]) (m := 4) (y' := 2826) (st' := []) rfl H (fun r s35 H => ?_)
          obtain ⟨x36, rfl, H⟩ := H
          show gs_E L (d + 1) 2825 238 [gp_r (some 1), gp_i p0, gp_i p1, gp_r (some q3), gp_i x5] [gp_i x36] s35 K
          exact gs_E.ret (r := (some (gp_i x36))) rfl H
      · replace H := H.1 (Decidable.byContradiction hc)
        exact H

set_option maxRecDepth 100000 in
/-- GatheredPoints.gameOf, pc 17 -/
theorem s_2825_17 {L d : Nat} {K : Option gV → gH → Prop} {s : gH} (v1 : Int) (v2 : Int) (v3 : gV) (v4 : gV) (H : gs_C L d 2855 2 [gp_r (some 1), gp_i 1] s (fun r s1 => ∃ x2, r = some (gp_i x2) ∧ K (some (gp_i x2)) s1)) : gs_E L (d + 1) 2825 17 [gp_r (some 1), gp_i v1, gp_i v2, v3, v4] [] s K := by
  refine gs_E.stp (pc' := 19) (ls' := [gp_r (some 1), gp_i v1, gp_i v2, v3, v4]) (st' := [gp_i 1, gp_r (some 1)]) (s' := s) 2 rfl ?_
  refine gs_E.call (args := [gp_r (some 1), gp_i 1]) (m := 2) (y' := 2855) (st' := []) rfl H (fun r s1 H => ?_)
  obtain ⟨x2, rfl, H⟩ := H
  show gs_E L (d + 1) 2825 22 [gp_r (some 1), gp_i v1, gp_i v2, v3, v4] [gp_i x2] s1 K
  exact gs_E.ret (r := (some (gp_i x2))) rfl H

set_option maxRecDepth 100000 in
/-- GatheredPoints.gameOf, pc 166 -/
theorem s_2825_166 {L d : Nat} {K : Option gV → gH → Prop} {s : gH} (v1 : Int) (v2 : Int) (v3 : Option Nat) (v4 : Int) (w0 : Int) (H : K (some (gp_i w0)) s) : gs_E L (d + 1) 2825 166 [gp_r (some 1), gp_i v1, gp_i v2, gp_r v3, gp_i v4] [gp_i w0] s K := by
  exact gs_E.ret (r := (some (gp_i w0))) rfl H

set_option maxRecDepth 100000 in
/-- GatheredPoints.gameOf, pc 194 -/
theorem s_2825_194 {L d : Nat} {K : Option gV → gH → Prop} {s : gH} (v1 : Int) (v2 : Int) (v3 : Option Nat) (v4 : Int) (w0 : Int) (H : K (some (gp_i w0)) s) : gs_E L (d + 1) 2825 194 [gp_r (some 1), gp_i v1, gp_i v2, gp_r v3, gp_i v4] [gp_i w0] s K := by
  exact gs_E.ret (r := (some (gp_i w0))) rfl H

set_option maxRecDepth 100000 in
/-- GatheredPoints.gameOf, pc 231 -/
theorem s_2825_231 {L d : Nat} {K : Option gV → gH → Prop} {s : gH} (v1 : Int) (v2 : Int) (v3 : Option Nat) (v4 : Int) (w0 : Int) (H : K (some (gp_i w0)) s) : gs_E L (d + 1) 2825 231 [gp_r (some 1), gp_i v1, gp_i v2, gp_r v3, gp_i v4] [gp_i w0] s K := by
  exact gs_E.ret (r := (some (gp_i w0))) rfl H

set_option maxRecDepth 100000 in
/-- GatheredPoints.waited, pc 0 -/
theorem s_2826_e {L d : Nat} {K : Option gV → gH → Prop} {s : gH} (p0 : Option Nat) (p1 : Int) (H : gs_C L d 770 4 [gp_r (some 31), gp_r p0] s (fun r s1 => r = none ∧ (∃ q2, p0 = some q2 ∧ ((gp_sh (gp_mk L s1) q2).1 = 9 ∧ gs_C L d 2306 1 [gp_r (some q2)] s1 (fun r s3 => ∃ x4, r = some (gp_i x4) ∧ ((p1 = 8 → ((gp_sh (gp_mk L s3) q2).1 = 9 ∧ (∃ q5, gp_R (gp_mk L s3) q2 6 = some q5 ∧ (gp_in (gp_mk L s3) 100 q5 x4 ∧ K (some (gp_i (gp_I s3 q5 x4.toNat))) s3)))) ∧ (p1 = 9 → ((gp_sh (gp_mk L s3) q2).1 = 9 ∧ (∃ q6, gp_R (gp_mk L s3) q2 7 = some q6 ∧ (gp_in (gp_mk L s3) 100 q6 x4 ∧ K (some (gp_i (gp_I s3 q6 x4.toNat))) s3)))) ∧ (p1 = 10 → ((gp_sh (gp_mk L s3) q2).1 = 9 ∧ (∃ q7, gp_R (gp_mk L s3) q2 8 = some q7 ∧ (gp_in (gp_mk L s3) 100 q7 x4 ∧ K (some (gp_i (gp_I s3 q7 x4.toNat))) s3)))) ∧ ((p1 < 8 ∨ 10 < p1) → ((gp_sh (gp_mk L s3) q2).1 = 9 ∧ (∃ q8, gp_R (gp_mk L s3) q2 9 = some q8 ∧ (gp_in (gp_mk L s3) 100 q8 x4 ∧ K (some (gp_i (gp_I s3 q8 x4.toNat))) s3)))))))))) : gs_C L (d + 1) 2826 4 [gp_r (some 1), gp_r p0, gp_i p1] s K := by
  show gs_E L (d + 1) 2826 0 [gp_r (some 1), gp_r p0, gp_i p1, gp_n] [] s K
  refine gs_E.stp (pc' := 5) (ls' := [gp_r (some 1), gp_r p0, gp_i p1, gp_n]) (st' := [gp_r p0, gp_r (some 31)]) (s' := s) 3 rfl ?_
  refine gs_E.call (args := [gp_r (some 31), gp_r p0]) (m := 4) (y' := 770) (st' := []) rfl H (fun r s1 H => ?_)
  obtain ⟨rfl, H⟩ := H
  show gs_E L (d + 1) 2826 8 [gp_r (some 1), gp_r p0, gp_i p1, gp_n] [] s1 K
  refine gs_E.stp (pc' := 9) (ls' := [gp_r (some 1), gp_r p0, gp_i p1, gp_n]) (st' := [gp_r p0]) (s' := s1) 1 rfl ?_
  obtain ⟨q2, hq, H⟩ := H
  rw [hq]
  refine gs_E.callV (args := [gp_r (some q2)]) (m := 1) (y' := 2306) (st' := []) rfl H.1 H.2 (fun r s3 H => ?_)
  obtain ⟨x4, rfl, H⟩ := H
  show gs_E L (d + 1) 2826 12 [gp_r (some 1), gp_r (some q2), gp_i p1, gp_n] [gp_i x4] s3 K
  refine gs_E.stp (pc' := 14) (ls' := [gp_r (some 1), gp_r (some q2), gp_i p1, gp_i x4]) (st' := [gp_i p1]) (s' := s3) 2 rfl ?_
  have hsw : (p1 = 8 ∨ p1 = 9 ∨ p1 = 10) ∨ (p1 < 8 ∨ 10 < p1) := by omega
  rcases hsw with (hsw | hsw | hsw) | hsw
  · replace H := H.1 hsw
    refine gs_E.swi (v := 8) (pc' := 40) (ls' := [gp_r (some 1), gp_r (some q2), gp_i p1, gp_i x4]) (st' := []) hsw rfl ?_
    refine gs_E.stp (pc' := 41) (ls' := [gp_r (some 1), gp_r (some q2), gp_i p1, gp_i x4]) (st' := [gp_r (some q2)]) (s' := s3) 1 rfl ?_
    refine gs_E.ck (pc' := 44) (ls' := [gp_r (some 1), gp_r (some q2), gp_i p1, gp_i x4]) (st' := [gp_r (gp_R (gp_mk L s3) q2 6)]) (s' := s3) rfl H.1 ?_
    replace H := H.2
    refine gs_E.stp (pc' := 45) (ls' := [gp_r (some 1), gp_r (some q2), gp_i p1, gp_i x4]) (st' := [gp_i x4, gp_r (gp_R (gp_mk L s3) q2 6)]) (s' := s3) 1 rfl ?_
    obtain ⟨q5, hq, H⟩ := H
    rw [hq]
    refine gs_E.ck (pc' := 46) (ls' := [gp_r (some 1), gp_r (some q2), gp_i p1, gp_i x4]) (st' := [gp_i (gp_I s3 q5 x4.toNat)]) (s' := s3) rfl (Or.inl H.1) ?_
    replace H := H.2
    exact gs_E.ret (r := (some (gp_i (gp_I s3 q5 x4.toNat)))) rfl H
  · replace H := H.2.1 hsw
    refine gs_E.swi (v := 9) (pc' := 47) (ls' := [gp_r (some 1), gp_r (some q2), gp_i p1, gp_i x4]) (st' := []) hsw rfl ?_
    refine gs_E.stp (pc' := 48) (ls' := [gp_r (some 1), gp_r (some q2), gp_i p1, gp_i x4]) (st' := [gp_r (some q2)]) (s' := s3) 1 rfl ?_
    refine gs_E.ck (pc' := 51) (ls' := [gp_r (some 1), gp_r (some q2), gp_i p1, gp_i x4]) (st' := [gp_r (gp_R (gp_mk L s3) q2 7)]) (s' := s3) rfl H.1 ?_
    replace H := H.2
    refine gs_E.stp (pc' := 52) (ls' := [gp_r (some 1), gp_r (some q2), gp_i p1, gp_i x4]) (st' := [gp_i x4, gp_r (gp_R (gp_mk L s3) q2 7)]) (s' := s3) 1 rfl ?_
    obtain ⟨q6, hq, H⟩ := H
    rw [hq]
    refine gs_E.ck (pc' := 53) (ls' := [gp_r (some 1), gp_r (some q2), gp_i p1, gp_i x4]) (st' := [gp_i (gp_I s3 q6 x4.toNat)]) (s' := s3) rfl (Or.inl H.1) ?_
    replace H := H.2
    exact gs_E.ret (r := (some (gp_i (gp_I s3 q6 x4.toNat)))) rfl H
  · replace H := H.2.2.1 hsw
    refine gs_E.swi (v := 10) (pc' := 54) (ls' := [gp_r (some 1), gp_r (some q2), gp_i p1, gp_i x4]) (st' := []) hsw rfl ?_
    refine gs_E.stp (pc' := 55) (ls' := [gp_r (some 1), gp_r (some q2), gp_i p1, gp_i x4]) (st' := [gp_r (some q2)]) (s' := s3) 1 rfl ?_
    refine gs_E.ck (pc' := 58) (ls' := [gp_r (some 1), gp_r (some q2), gp_i p1, gp_i x4]) (st' := [gp_r (gp_R (gp_mk L s3) q2 8)]) (s' := s3) rfl H.1 ?_
    replace H := H.2
    refine gs_E.stp (pc' := 59) (ls' := [gp_r (some 1), gp_r (some q2), gp_i p1, gp_i x4]) (st' := [gp_i x4, gp_r (gp_R (gp_mk L s3) q2 8)]) (s' := s3) 1 rfl ?_
    obtain ⟨q7, hq, H⟩ := H
    rw [hq]
    refine gs_E.ck (pc' := 60) (ls' := [gp_r (some 1), gp_r (some q2), gp_i p1, gp_i x4]) (st' := [gp_i (gp_I s3 q7 x4.toNat)]) (s' := s3) rfl (Or.inl H.1) ?_
    replace H := H.2
    exact gs_E.ret (r := (some (gp_i (gp_I s3 q7 x4.toNat)))) rfl H
  · replace H := H.2.2.2 hsw
    refine gs_E.swo (pc' := 61) (ls' := [gp_r (some 1), gp_r (some q2), gp_i p1, gp_i x4]) (st' := []) (C := p1 < 8 ∨ 10 < p1) (B := _) rfl hsw ?_
    refine gs_E.stp (pc' := 62) (ls' := [gp_r (some 1), gp_r (some q2), gp_i p1, gp_i x4]) (st' := [gp_r (some q2)]) (s' := s3) 1 rfl ?_
    refine gs_E.ck (pc' := 65) (ls' := [gp_r (some 1), gp_r (some q2), gp_i p1, gp_i x4]) (st' := [gp_r (gp_R (gp_mk L s3) q2 9)]) (s' := s3) rfl H.1 ?_
    replace H := H.2
    refine gs_E.stp (pc' := 66) (ls' := [gp_r (some 1), gp_r (some q2), gp_i p1, gp_i x4]) (st' := [gp_i x4, gp_r (gp_R (gp_mk L s3) q2 9)]) (s' := s3) 1 rfl ?_
    obtain ⟨q8, hq, H⟩ := H
    rw [hq]
    refine gs_E.ck (pc' := 67) (ls' := [gp_r (some 1), gp_r (some q2), gp_i p1, gp_i x4]) (st' := [gp_i (gp_I s3 q8 x4.toNat)]) (s' := s3) rfl (Or.inl H.1) ?_
    replace H := H.2
    exact gs_E.ret (r := (some (gp_i (gp_I s3 q8 x4.toNat)))) rfl H

set_option maxRecDepth 100000 in
/-- GatheredPoints.order, pc 0 -/
theorem s_2827_e {L d : Nat} {K : Option gV → gH → Prop} {s : gH} (p0 : Int) (p1 : Int) (H : gs_C L d 2856 1 [gp_i p0] s (fun r s1 => ∃ x2, r = some (gp_i x2) ∧ ((x2 = 0 → gs_C L d 2856 1 [gp_i p1] s1 (fun r s3 => ∃ x4, r = some (gp_i x4) ∧ ((x4 = 0 → ((0 ≤ p0 ∧ p0 < 8) ∧ ((0 ≤ p1 ∧ p1 < 8) ∧ gs_C L d 264 7 [gp_r (some 20), gp_r (gp_R (gp_mk L s3) 4 p0.toNat), gp_r (gp_R (gp_mk L s3) 4 p1.toNat)] s3 (fun r s5 => ∃ x6, r = some (gp_i x6) ∧ K (some (gp_i x6)) s5)))) ∧ (¬ x4 = 0 → gs_E L (d + 1) 2827 14 [gp_r (some 1), gp_i p0, gp_i p1] [] s3 K)))) ∧ (¬ x2 = 0 → gs_E L (d + 1) 2827 14 [gp_r (some 1), gp_i p0, gp_i p1] [] s1 K)))) : gs_C L (d + 1) 2827 3 [gp_r (some 1), gp_i p0, gp_i p1] s K := by
  show gs_E L (d + 1) 2827 0 [gp_r (some 1), gp_i p0, gp_i p1] [] s K
  refine gs_E.stp (pc' := 1) (ls' := [gp_r (some 1), gp_i p0, gp_i p1]) (st' := [gp_i p0]) (s' := s) 1 rfl ?_
  refine gs_E.call (args := [gp_i p0]) (m := 1) (y' := 2856) (st' := []) rfl H (fun r s1 H => ?_)
  obtain ⟨x2, rfl, H⟩ := H
  show gs_E L (d + 1) 2827 4 [gp_r (some 1), gp_i p0, gp_i p1] [gp_i x2] s1 K
  refine gs_E.br (c := ¬ x2 = 0) (p1 := 14) (p2 := 7) (l1 := [gp_r (some 1), gp_i p0, gp_i p1]) (l2 := [gp_r (some 1), gp_i p0, gp_i p1]) (s1 := []) (s2 := []) rfl gs_b2 (fun hc => ?_) (fun hc => ?_)
  · replace H := H.2 hc
    exact H
  · replace H := H.1 (Decidable.byContradiction hc)
    refine gs_E.stp (pc' := 8) (ls' := [gp_r (some 1), gp_i p0, gp_i p1]) (st' := [gp_i p1]) (s' := s1) 1 rfl ?_
    refine gs_E.call (args := [gp_i p1]) (m := 1) (y' := 2856) (st' := []) rfl H (fun r s3 H => ?_)
    obtain ⟨x4, rfl, H⟩ := H
    show gs_E L (d + 1) 2827 11 [gp_r (some 1), gp_i p0, gp_i p1] [gp_i x4] s3 K
    refine gs_E.br (c := x4 = 0) (p1 := 20) (p2 := 14) (l1 := [gp_r (some 1), gp_i p0, gp_i p1]) (l2 := [gp_r (some 1), gp_i p0, gp_i p1]) (s1 := []) (s2 := []) rfl gs_b1 (fun hc => ?_) (fun hc => ?_)
    · replace H := H.1 hc
      refine gs_E.stp (pc' := 29) (ls' := [gp_r (some 1), gp_i p0, gp_i p1]) (st' := [gp_i p0, gp_r (some 4), gp_r (some 20)]) (s' := s3) 5 rfl ?_
      refine gs_E.ck (pc' := 30) (ls' := [gp_r (some 1), gp_i p0, gp_i p1]) (st' := [gp_r (gp_R (gp_mk L s3) 4 p0.toNat), gp_r (some 20)]) (s' := s3) rfl (Or.inl ⟨rfl, H.1.1, H.1.2⟩) ?_
      replace H := H.2
      refine gs_E.stp (pc' := 35) (ls' := [gp_r (some 1), gp_i p0, gp_i p1]) (st' := [gp_i p1, gp_r (some 4), gp_r (gp_R (gp_mk L s3) 4 p0.toNat), gp_r (some 20)]) (s' := s3) 3 rfl ?_
      refine gs_E.ck (pc' := 36) (ls' := [gp_r (some 1), gp_i p0, gp_i p1]) (st' := [gp_r (gp_R (gp_mk L s3) 4 p1.toNat), gp_r (gp_R (gp_mk L s3) 4 p0.toNat), gp_r (some 20)]) (s' := s3) rfl (Or.inl ⟨rfl, H.1.1, H.1.2⟩) ?_
      replace H := H.2
      refine gs_E.call (args := [gp_r (some 20), gp_r (gp_R (gp_mk L s3) 4 p0.toNat), gp_r (gp_R (gp_mk L s3) 4 p1.toNat)]) (m := 7) (y' := 264) (st' := []) rfl H (fun r s5 H => ?_)
      obtain ⟨x6, rfl, H⟩ := H
      show gs_E L (d + 1) 2827 39 [gp_r (some 1), gp_i p0, gp_i p1] [gp_i x6] s5 K
      exact gs_E.ret (r := (some (gp_i x6))) rfl H
    · replace H := H.2 hc
      exact H

set_option maxRecDepth 100000 in
/-- GatheredPoints.order, pc 14 -/
theorem s_2827_14 {L d : Nat} {K : Option gV → gH → Prop} {s : gH} (v1 : Int) (v2 : Int) (H : gs_C L d 2855 2 [gp_r (some 1), gp_i 1] s (fun r s1 => ∃ x2, r = some (gp_i x2) ∧ K (some (gp_i x2)) s1)) : gs_E L (d + 1) 2827 14 [gp_r (some 1), gp_i v1, gp_i v2] [] s K := by
  refine gs_E.stp (pc' := 16) (ls' := [gp_r (some 1), gp_i v1, gp_i v2]) (st' := [gp_i 1, gp_r (some 1)]) (s' := s) 2 rfl ?_
  refine gs_E.call (args := [gp_r (some 1), gp_i 1]) (m := 2) (y' := 2855) (st' := []) rfl H (fun r s1 H => ?_)
  obtain ⟨x2, rfl, H⟩ := H
  show gs_E L (d + 1) 2827 19 [gp_r (some 1), gp_i v1, gp_i v2] [gp_i x2] s1 K
  exact gs_E.ret (r := (some (gp_i x2))) rfl H

set_option maxRecDepth 100000 in
/-- GatheredPoints.compare, pc 0 -/
theorem s_2828_e {L d : Nat} {K : Option gV → gH → Prop} {s : gH} (p0 : Int) (p1 : Int) (H : gs_C L d 2856 1 [gp_i p0] s (fun r s1 => ∃ x2, r = some (gp_i x2) ∧ ((x2 = 0 → gs_C L d 2856 1 [gp_i p1] s1 (fun r s3 => ∃ x4, r = some (gp_i x4) ∧ ((x4 = 0 → ((0 ≤ p0 ∧ p0 < 8) ∧ gs_C L d 776 3 [gp_r (some 31), gp_r (gp_R (gp_mk L s3) 4 p0.toNat)] s3 (fun r s5 => ∃ x6, r = some (gp_i x6) ∧ ((x6 = 0 → gs_E L (d + 1) 2828 52 [gp_r (some 1), gp_i p0, gp_i p1, gp_n] [] s5 K) ∧ (¬ x6 = 0 → ((0 ≤ p1 ∧ p1 < 8) ∧ gs_C L d 776 3 [gp_r (some 31), gp_r (gp_R (gp_mk L s5) 4 p1.toNat)] s5 (fun r s7 => ∃ x8, r = some (gp_i x8) ∧ ((x8 = 0 → gs_E L (d + 1) 2828 52 [gp_r (some 1), gp_i p0, gp_i p1, gp_n] [] s7 K) ∧ (¬ x8 = 0 → ((0 ≤ p0 ∧ p0 < 8) ∧ ((0 ≤ p1 ∧ p1 < 8) ∧ gs_C L d 2829 3 [gp_r (some 1), gp_r (gp_R (gp_mk L s7) 4 p0.toNat), gp_r (gp_R (gp_mk L s7) 4 p1.toNat)] s7 (fun r s9 => ∃ x10, r = some (gp_i x10) ∧ ((x10 = 0 → gs_E L (d + 1) 2828 82 [gp_r (some 1), gp_i p0, gp_i p1, gp_n] [gp_i 0] s9 K) ∧ (¬ x10 = 0 → gs_E L (d + 1) 2828 82 [gp_r (some 1), gp_i p0, gp_i p1, gp_n] [gp_i 1] s9 K)))))))))))))) ∧ (¬ x4 = 0 → gs_E L (d + 1) 2828 14 [gp_r (some 1), gp_i p0, gp_i p1, gp_n] [] s3 K)))) ∧ (¬ x2 = 0 → gs_E L (d + 1) 2828 14 [gp_r (some 1), gp_i p0, gp_i p1, gp_n] [] s1 K)))) : gs_C L (d + 1) 2828 4 [gp_r (some 1), gp_i p0, gp_i p1] s K := by
  show gs_E L (d + 1) 2828 0 [gp_r (some 1), gp_i p0, gp_i p1, gp_n] [] s K
  refine gs_E.stp (pc' := 1) (ls' := [gp_r (some 1), gp_i p0, gp_i p1, gp_n]) (st' := [gp_i p0]) (s' := s) 1 rfl ?_
  refine gs_E.call (args := [gp_i p0]) (m := 1) (y' := 2856) (st' := []) rfl H (fun r s1 H => ?_)
  obtain ⟨x2, rfl, H⟩ := H
  show gs_E L (d + 1) 2828 4 [gp_r (some 1), gp_i p0, gp_i p1, gp_n] [gp_i x2] s1 K
  refine gs_E.br (c := ¬ x2 = 0) (p1 := 14) (p2 := 7) (l1 := [gp_r (some 1), gp_i p0, gp_i p1, gp_n]) (l2 := [gp_r (some 1), gp_i p0, gp_i p1, gp_n]) (s1 := []) (s2 := []) rfl gs_b2 (fun hc => ?_) (fun hc => ?_)
  · replace H := H.2 hc
    exact H
  · replace H := H.1 (Decidable.byContradiction hc)
    refine gs_E.stp (pc' := 8) (ls' := [gp_r (some 1), gp_i p0, gp_i p1, gp_n]) (st' := [gp_i p1]) (s' := s1) 1 rfl ?_
    refine gs_E.call (args := [gp_i p1]) (m := 1) (y' := 2856) (st' := []) rfl H (fun r s3 H => ?_)
    obtain ⟨x4, rfl, H⟩ := H
    show gs_E L (d + 1) 2828 11 [gp_r (some 1), gp_i p0, gp_i p1, gp_n] [gp_i x4] s3 K
    refine gs_E.br (c := x4 = 0) (p1 := 20) (p2 := 14) (l1 := [gp_r (some 1), gp_i p0, gp_i p1, gp_n]) (l2 := [gp_r (some 1), gp_i p0, gp_i p1, gp_n]) (s1 := []) (s2 := []) rfl gs_b1 (fun hc => ?_) (fun hc => ?_)
    · replace H := H.1 hc
      refine gs_E.stp (pc' := 29) (ls' := [gp_r (some 1), gp_i p0, gp_i p1, gp_n]) (st' := [gp_i p0, gp_r (some 4), gp_r (some 31)]) (s' := s3) 5 rfl ?_
      refine gs_E.ck (pc' := 30) (ls' := [gp_r (some 1), gp_i p0, gp_i p1, gp_n]) (st' := [gp_r (gp_R (gp_mk L s3) 4 p0.toNat), gp_r (some 31)]) (s' := s3) rfl (Or.inl ⟨rfl, H.1.1, H.1.2⟩) ?_
      replace H := H.2
      refine gs_E.call (args := [gp_r (some 31), gp_r (gp_R (gp_mk L s3) 4 p0.toNat)]) (m := 3) (y' := 776) (st' := []) rfl H (fun r s5 H => ?_)
      obtain ⟨x6, rfl, H⟩ := H
      show gs_E L (d + 1) 2828 33 [gp_r (some 1), gp_i p0, gp_i p1, gp_n] [gp_i x6] s5 K
      refine gs_E.br (c := x6 = 0) (p1 := 52) (p2 := 36) (l1 := [gp_r (some 1), gp_i p0, gp_i p1, gp_n]) (l2 := [gp_r (some 1), gp_i p0, gp_i p1, gp_n]) (s1 := []) (s2 := []) rfl gs_b1 (fun hc => ?_) (fun hc => ?_)
      · replace H := H.1 hc
        exact H
      · replace H := H.2 hc
        refine gs_E.stp (pc' := 45) (ls' := [gp_r (some 1), gp_i p0, gp_i p1, gp_n]) (st' := [gp_i p1, gp_r (some 4), gp_r (some 31)]) (s' := s5) 5 rfl ?_
        refine gs_E.ck (pc' := 46) (ls' := [gp_r (some 1), gp_i p0, gp_i p1, gp_n]) (st' := [gp_r (gp_R (gp_mk L s5) 4 p1.toNat), gp_r (some 31)]) (s' := s5) rfl (Or.inl ⟨rfl, H.1.1, H.1.2⟩) ?_
        replace H := H.2
        refine gs_E.call (args := [gp_r (some 31), gp_r (gp_R (gp_mk L s5) 4 p1.toNat)]) (m := 3) (y' := 776) (st' := []) rfl H (fun r s7 H => ?_)
        obtain ⟨x8, rfl, H⟩ := H
        show gs_E L (d + 1) 2828 49 [gp_r (some 1), gp_i p0, gp_i p1, gp_n] [gp_i x8] s7 K
        refine gs_E.br (c := ¬ x8 = 0) (p1 := 58) (p2 := 52) (l1 := [gp_r (some 1), gp_i p0, gp_i p1, gp_n]) (l2 := [gp_r (some 1), gp_i p0, gp_i p1, gp_n]) (s1 := []) (s2 := []) rfl gs_b2 (fun hc => ?_) (fun hc => ?_)
        · replace H := H.2 hc
          refine gs_E.stp (pc' := 64) (ls' := [gp_r (some 1), gp_i p0, gp_i p1, gp_n]) (st' := [gp_i p0, gp_r (some 4), gp_r (some 1)]) (s' := s7) 4 rfl ?_
          refine gs_E.ck (pc' := 65) (ls' := [gp_r (some 1), gp_i p0, gp_i p1, gp_n]) (st' := [gp_r (gp_R (gp_mk L s7) 4 p0.toNat), gp_r (some 1)]) (s' := s7) rfl (Or.inl ⟨rfl, H.1.1, H.1.2⟩) ?_
          replace H := H.2
          refine gs_E.stp (pc' := 70) (ls' := [gp_r (some 1), gp_i p0, gp_i p1, gp_n]) (st' := [gp_i p1, gp_r (some 4), gp_r (gp_R (gp_mk L s7) 4 p0.toNat), gp_r (some 1)]) (s' := s7) 3 rfl ?_
          refine gs_E.ck (pc' := 71) (ls' := [gp_r (some 1), gp_i p0, gp_i p1, gp_n]) (st' := [gp_r (gp_R (gp_mk L s7) 4 p1.toNat), gp_r (gp_R (gp_mk L s7) 4 p0.toNat), gp_r (some 1)]) (s' := s7) rfl (Or.inl ⟨rfl, H.1.1, H.1.2⟩) ?_
          replace H := H.2
          refine gs_E.call (args := [gp_r (some 1), gp_r (gp_R (gp_mk L s7) 4 p0.toNat), gp_r (gp_R (gp_mk L s7) 4 p1.toNat)]) (m := 3) (y' := 2829) (st' := []) rfl H (fun r s9 H => ?_)
          obtain ⟨x10, rfl, H⟩ := H
          show gs_E L (d + 1) 2828 74 [gp_r (some 1), gp_i p0, gp_i p1, gp_n] [gp_i x10] s9 K
          refine gs_E.br (c := x10 = 0) (p1 := 81) (p2 := 77) (l1 := [gp_r (some 1), gp_i p0, gp_i p1, gp_n]) (l2 := [gp_r (some 1), gp_i p0, gp_i p1, gp_n]) (s1 := []) (s2 := []) rfl gs_b1 (fun hc => ?_) (fun hc => ?_)
          · replace H := H.1 hc
            refine gs_E.stp (pc' := 82) (ls' := [gp_r (some 1), gp_i p0, gp_i p1, gp_n]) (st' := [gp_i 0]) (s' := s9) 1 rfl ?_
            exact H
          · replace H := H.2 hc
            refine gs_E.stp (pc' := 82) (ls' := [gp_r (some 1), gp_i p0, gp_i p1, gp_n]) (st' := [gp_i 1]) (s' := s9) 2 rfl ?_
            exact H
        · replace H := H.1 (Decidable.byContradiction hc)
          exact H
    · replace H := H.2 hc
      exact H

set_option maxRecDepth 100000 in
/-- GatheredPoints.compare, pc 14 -/
theorem s_2828_14 {L d : Nat} {K : Option gV → gH → Prop} {s : gH} (v1 : Int) (v2 : Int) (v3 : gV) (H : gs_C L d 2855 2 [gp_r (some 1), gp_i 1] s (fun r s1 => ∃ x2, r = some (gp_i x2) ∧ K (some (gp_i x2)) s1)) : gs_E L (d + 1) 2828 14 [gp_r (some 1), gp_i v1, gp_i v2, v3] [] s K := by
  refine gs_E.stp (pc' := 16) (ls' := [gp_r (some 1), gp_i v1, gp_i v2, v3]) (st' := [gp_i 1, gp_r (some 1)]) (s' := s) 2 rfl ?_
  refine gs_E.call (args := [gp_r (some 1), gp_i 1]) (m := 2) (y' := 2855) (st' := []) rfl H (fun r s1 H => ?_)
  obtain ⟨x2, rfl, H⟩ := H
  show gs_E L (d + 1) 2828 19 [gp_r (some 1), gp_i v1, gp_i v2, v3] [gp_i x2] s1 K
  exact gs_E.ret (r := (some (gp_i x2))) rfl H

set_option maxRecDepth 100000 in
/-- GatheredPoints.compare, pc 52 -/
theorem s_2828_52 {L d : Nat} {K : Option gV → gH → Prop} {s : gH} (v1 : Int) (v2 : Int) (v3 : gV) (H : gs_C L d 2855 2 [gp_r (some 1), gp_i 3] s (fun r s1 => ∃ x2, r = some (gp_i x2) ∧ K (some (gp_i x2)) s1)) : gs_E L (d + 1) 2828 52 [gp_r (some 1), gp_i v1, gp_i v2, v3] [] s K := by
  refine gs_E.stp (pc' := 54) (ls' := [gp_r (some 1), gp_i v1, gp_i v2, v3]) (st' := [gp_i 3, gp_r (some 1)]) (s' := s) 2 rfl ?_
  refine gs_E.call (args := [gp_r (some 1), gp_i 3]) (m := 2) (y' := 2855) (st' := []) rfl H (fun r s1 H => ?_)
  obtain ⟨x2, rfl, H⟩ := H
  show gs_E L (d + 1) 2828 57 [gp_r (some 1), gp_i v1, gp_i v2, v3] [gp_i x2] s1 K
  exact gs_E.ret (r := (some (gp_i x2))) rfl H

set_option maxRecDepth 100000 in
/-- GatheredPoints.compare, pc 82 -/
theorem s_2828_82 {L d : Nat} {K : Option gV → gH → Prop} {s : gH} (v1 : Int) (v2 : Int) (v3 : gV) (w0 : Int) (H : ((0 ≤ v2 ∧ v2 < 8) ∧ ((0 ≤ v1 ∧ v1 < 8) ∧ gs_C L d 2829 3 [gp_r (some 1), gp_r (gp_R (gp_mk L s) 4 v2.toNat), gp_r (gp_R (gp_mk L s) 4 v1.toNat)] s (fun r s1 => ∃ x2, r = some (gp_i x2) ∧ ((x2 = 0 → gs_E L (d + 1) 2828 109 [gp_r (some 1), gp_i v1, gp_i v2, gp_i w0] [gp_i w0] s1 K) ∧ (¬ x2 = 0 → gs_E L (d + 1) 2828 109 [gp_r (some 1), gp_i v1, gp_i v2, gp_i w0] [gp_i (gp_wr (w0 + 2))] s1 K)))))) : gs_E L (d + 1) 2828 82 [gp_r (some 1), gp_i v1, gp_i v2, v3] [gp_i w0] s K := by
  refine gs_E.stp (pc' := 89) (ls' := [gp_r (some 1), gp_i v1, gp_i v2, gp_i w0]) (st' := [gp_i v2, gp_r (some 4), gp_r (some 1)]) (s' := s) 5 rfl ?_
  refine gs_E.ck (pc' := 90) (ls' := [gp_r (some 1), gp_i v1, gp_i v2, gp_i w0]) (st' := [gp_r (gp_R (gp_mk L s) 4 v2.toNat), gp_r (some 1)]) (s' := s) rfl (Or.inl ⟨rfl, H.1.1, H.1.2⟩) ?_
  replace H := H.2
  refine gs_E.stp (pc' := 95) (ls' := [gp_r (some 1), gp_i v1, gp_i v2, gp_i w0]) (st' := [gp_i v1, gp_r (some 4), gp_r (gp_R (gp_mk L s) 4 v2.toNat), gp_r (some 1)]) (s' := s) 3 rfl ?_
  refine gs_E.ck (pc' := 96) (ls' := [gp_r (some 1), gp_i v1, gp_i v2, gp_i w0]) (st' := [gp_r (gp_R (gp_mk L s) 4 v1.toNat), gp_r (gp_R (gp_mk L s) 4 v2.toNat), gp_r (some 1)]) (s' := s) rfl (Or.inl ⟨rfl, H.1.1, H.1.2⟩) ?_
  replace H := H.2
  refine gs_E.call (args := [gp_r (some 1), gp_r (gp_R (gp_mk L s) 4 v2.toNat), gp_r (gp_R (gp_mk L s) 4 v1.toNat)]) (m := 3) (y' := 2829) (st' := []) rfl H (fun r s1 H => ?_)
  obtain ⟨x2, rfl, H⟩ := H
  show gs_E L (d + 1) 2828 99 [gp_r (some 1), gp_i v1, gp_i v2, gp_i w0] [gp_i x2] s1 K
  refine gs_E.br (c := x2 = 0) (p1 := 108) (p2 := 102) (l1 := [gp_r (some 1), gp_i v1, gp_i v2, gp_i w0]) (l2 := [gp_r (some 1), gp_i v1, gp_i v2, gp_i w0]) (s1 := []) (s2 := []) rfl gs_b1 (fun hc => ?_) (fun hc => ?_)
  · replace H := H.1 hc
    refine gs_E.stp (pc' := 109) (ls' := [gp_r (some 1), gp_i v1, gp_i v2, gp_i w0]) (st' := [gp_i w0]) (s' := s1) 1 rfl ?_
    exact H
  · replace H := H.2 hc
    refine gs_E.stp (pc' := 109) (ls' := [gp_r (some 1), gp_i v1, gp_i v2, gp_i w0]) (st' := [gp_i (gp_wr (w0 + 2))]) (s' := s1) 4 rfl ?_
    exact H

set_option maxRecDepth 100000 in
/-- GatheredPoints.compare, pc 109 -/
theorem s_2828_109 {L d : Nat} {K : Option gV → gH → Prop} {s : gH} (v1 : Int) (v2 : Int) (v3 : Int) (w0 : Int) (H : K (some (gp_i w0)) s) : gs_E L (d + 1) 2828 109 [gp_r (some 1), gp_i v1, gp_i v2, gp_i v3] [gp_i w0] s K := by
  exact gs_E.ret (r := (some (gp_i w0))) rfl H

set_option maxRecDepth 100000 in
/-- GatheredPoints.atLeast, pc 0 -/
theorem s_2829_e {L d : Nat} {K : Option gV → gH → Prop} {s : gH} (p0 : Option Nat) (p1 : Option Nat) (H : gs_C L d 770 4 [gp_r (some 31), gp_r p0] s (fun r s1 => r = none ∧ gs_C L d 770 4 [gp_r (some 31), gp_r p1] s1 (fun r s2 => r = none ∧ gs_C L d 1 5 [gp_r (some 38), gp_r p0, gp_r p1] s2 (fun r s3 => ∃ x4, r = some (gp_i x4) ∧ ((x4 = 0 ∨ x4 = 1) ∧ K (some (gp_i x4)) s3))))) : gs_C L (d + 1) 2829 3 [gp_r (some 1), gp_r p0, gp_r p1] s K := by
  show gs_E L (d + 1) 2829 0 [gp_r (some 1), gp_r p0, gp_r p1] [] s K
  refine gs_E.stp (pc' := 5) (ls' := [gp_r (some 1), gp_r p0, gp_r p1]) (st' := [gp_r p0, gp_r (some 31)]) (s' := s) 3 rfl ?_
  refine gs_E.call (args := [gp_r (some 31), gp_r p0]) (m := 4) (y' := 770) (st' := []) rfl H (fun r s1 H => ?_)
  obtain ⟨rfl, H⟩ := H
  show gs_E L (d + 1) 2829 8 [gp_r (some 1), gp_r p0, gp_r p1] [] s1 K
  refine gs_E.stp (pc' := 13) (ls' := [gp_r (some 1), gp_r p0, gp_r p1]) (st' := [gp_r p1, gp_r (some 31)]) (s' := s1) 3 rfl ?_
  refine gs_E.call (args := [gp_r (some 31), gp_r p1]) (m := 4) (y' := 770) (st' := []) rfl H (fun r s2 H => ?_)
  obtain ⟨rfl, H⟩ := H
  show gs_E L (d + 1) 2829 16 [gp_r (some 1), gp_r p0, gp_r p1] [] s2 K
  refine gs_E.stp (pc' := 22) (ls' := [gp_r (some 1), gp_r p0, gp_r p1]) (st' := [gp_r p1, gp_r p0, gp_r (some 38)]) (s' := s2) 4 rfl ?_
  refine gs_E.call (args := [gp_r (some 38), gp_r p0, gp_r p1]) (m := 5) (y' := 1) (st' := []) rfl H (fun r s3 H => ?_)
  obtain ⟨x4, rfl, H⟩ := H
  show gs_E L (d + 1) 2829 25 [gp_r (some 1), gp_r p0, gp_r p1] [gp_i x4] s3 K
  exact gs_E.retz (r := (some (gp_i x4))) rfl H.1 H.2

set_option maxRecDepth 100000 in
/-- GatheredPoints.answer, pc 0 -/
theorem s_2830_e {L d : Nat} {K : Option gV → gH → Prop} {s : gH} (p0 : Int) (p1 : Int) (p2 : Int) (p3 : Int) (H : gs_C L d 2856 1 [gp_i p0] s (fun r s1 => ∃ x2, r = some (gp_i x2) ∧ ((x2 = 0 → gs_C L d 2856 1 [gp_i p1] s1 (fun r s3 => ∃ x4, r = some (gp_i x4) ∧ ((x4 = 0 → gs_C L d 2857 1 [gp_i p2] s3 (fun r s5 => ∃ x6, r = some (gp_i x6) ∧ ((x6 = 0 → ((0 ≤ p0 ∧ p0 < 8) ∧ ((0 ≤ p1 ∧ p1 < 8) ∧ gs_C L d 776 3 [gp_r (some 31), gp_r (gp_R (gp_mk L s5) 4 p0.toNat)] s5 (fun r s7 => ∃ x8, r = some (gp_i x8) ∧ ((x8 = 0 → gs_E L (d + 1) 2830 67 [gp_r (some 1), gp_i p0, gp_i p1, gp_i p2, gp_i p3, gp_r (gp_R (gp_mk L s5) 4 p0.toNat), gp_r (gp_R (gp_mk L s5) 4 p1.toNat), gp_n, gp_n, gp_n, gp_n] [] s7 K) ∧ (¬ x8 = 0 → gs_C L d 776 3 [gp_r (some 31), gp_r (gp_R (gp_mk L s5) 4 p1.toNat)] s7 (fun r s9 => ∃ x10, r = some (gp_i x10) ∧ ((x10 = 0 → gs_E L (d + 1) 2830 67 [gp_r (some 1), gp_i p0, gp_i p1, gp_i p2, gp_i p3, gp_r (gp_R (gp_mk L s5) 4 p0.toNat), gp_r (gp_R (gp_mk L s5) 4 p1.toNat), gp_n, gp_n, gp_n, gp_n] [] s9 K) ∧ (¬ x10 = 0 → gs_C L d 2829 3 [gp_r (some 1), gp_r (gp_R (gp_mk L s5) 4 p0.toNat), gp_r (gp_R (gp_mk L s5) 4 p1.toNat)] s9 (fun r s11 => ∃ x12, r = some (gp_i x12) ∧ ((x12 = 0 → gs_C L d 2855 2 [gp_r (some 1), gp_i 5] s11 (fun r s13 => ∃ x14, r = some (gp_i x14) ∧ K (some (gp_i x14)) s13)) ∧ (¬ x12 = 0 → ((p2 = 0 → gs_E L (d + 1) 2830 101 [gp_r (some 1), gp_i p0, gp_i p1, gp_i p2, gp_i p3, gp_r (gp_R (gp_mk L s5) 4 p0.toNat), gp_r (gp_R (gp_mk L s5) 4 p1.toNat), gp_n, gp_n, gp_n, gp_n] [gp_r (gp_R (gp_mk L s5) 4 p1.toNat)] s11 K) ∧ (¬ p2 = 0 → gs_E L (d + 1) 2830 101 [gp_r (some 1), gp_i p0, gp_i p1, gp_i p2, gp_i p3, gp_r (gp_R (gp_mk L s5) 4 p0.toNat), gp_r (gp_R (gp_mk L s5) 4 p1.toNat), gp_n, gp_n, gp_n, gp_n] [gp_r (gp_R (gp_mk L s5) 4 p0.toNat)] s11 K)))))))))))))) ∧ (¬ x6 = 0 → gs_E L (d + 1) 2830 21 [gp_r (some 1), gp_i p0, gp_i p1, gp_i p2, gp_i p3, gp_n, gp_n, gp_n, gp_n, gp_n, gp_n] [] s5 K)))) ∧ (¬ x4 = 0 → gs_E L (d + 1) 2830 21 [gp_r (some 1), gp_i p0, gp_i p1, gp_i p2, gp_i p3, gp_n, gp_n, gp_n, gp_n, gp_n, gp_n] [] s3 K)))) ∧ (¬ x2 = 0 → gs_E L (d + 1) 2830 21 [gp_r (some 1), gp_i p0, gp_i p1, gp_i p2, gp_i p3, gp_n, gp_n, gp_n, gp_n, gp_n, gp_n] [] s1 K)))) : gs_C L (d + 1) 2830 11 [gp_r (some 1), gp_i p0, gp_i p1, gp_i p2, gp_i p3] s K := by
  show gs_E L (d + 1) 2830 0 [gp_r (some 1), gp_i p0, gp_i p1, gp_i p2, gp_i p3, gp_n, gp_n, gp_n, gp_n, gp_n, gp_n] [] s K
  refine gs_E.stp (pc' := 1) (ls' := [gp_r (some 1), gp_i p0, gp_i p1, gp_i p2, gp_i p3, gp_n, gp_n, gp_n, gp_n, gp_n, gp_n]) (st' := [gp_i p0]) (s' := s) 1 rfl ?_
  refine gs_E.call (args := [gp_i p0]) (m := 1) (y' := 2856) (st' := []) rfl H (fun r s1 H => ?_)
  obtain ⟨x2, rfl, H⟩ := H
  show gs_E L (d + 1) 2830 4 [gp_r (some 1), gp_i p0, gp_i p1, gp_i p2, gp_i p3, gp_n, gp_n, gp_n, gp_n, gp_n, gp_n] [gp_i x2] s1 K
  refine gs_E.br (c := ¬ x2 = 0) (p1 := 21) (p2 := 7) (l1 := [gp_r (some 1), gp_i p0, gp_i p1, gp_i p2, gp_i p3, gp_n, gp_n, gp_n, gp_n, gp_n, gp_n]) (l2 := [gp_r (some 1), gp_i p0, gp_i p1, gp_i p2, gp_i p3, gp_n, gp_n, gp_n, gp_n, gp_n, gp_n]) (s1 := []) (s2 := []) rfl gs_b2 (fun hc => ?_) (fun hc => ?_)
  · replace H := H.2 hc
    exact H
  · replace H := H.1 (Decidable.byContradiction hc)
    refine gs_E.stp (pc' := 8) (ls' := [gp_r (some 1), gp_i p0, gp_i p1, gp_i p2, gp_i p3, gp_n, gp_n, gp_n, gp_n, gp_n, gp_n]) (st' := [gp_i p1]) (s' := s1) 1 rfl ?_
    refine gs_E.call (args := [gp_i p1]) (m := 1) (y' := 2856) (st' := []) rfl H (fun r s3 H => ?_)
    obtain ⟨x4, rfl, H⟩ := H
    show gs_E L (d + 1) 2830 11 [gp_r (some 1), gp_i p0, gp_i p1, gp_i p2, gp_i p3, gp_n, gp_n, gp_n, gp_n, gp_n, gp_n] [gp_i x4] s3 K
    refine gs_E.br (c := ¬ x4 = 0) (p1 := 21) (p2 := 14) (l1 := [gp_r (some 1), gp_i p0, gp_i p1, gp_i p2, gp_i p3, gp_n, gp_n, gp_n, gp_n, gp_n, gp_n]) (l2 := [gp_r (some 1), gp_i p0, gp_i p1, gp_i p2, gp_i p3, gp_n, gp_n, gp_n, gp_n, gp_n, gp_n]) (s1 := []) (s2 := []) rfl gs_b2 (fun hc => ?_) (fun hc => ?_)
    · replace H := H.2 hc
      exact H
    · replace H := H.1 (Decidable.byContradiction hc)
      refine gs_E.stp (pc' := 15) (ls' := [gp_r (some 1), gp_i p0, gp_i p1, gp_i p2, gp_i p3, gp_n, gp_n, gp_n, gp_n, gp_n, gp_n]) (st' := [gp_i p2]) (s' := s3) 1 rfl ?_
      refine gs_E.call (args := [gp_i p2]) (m := 1) (y' := 2857) (st' := []) rfl H (fun r s5 H => ?_)
      obtain ⟨x6, rfl, H⟩ := H
      show gs_E L (d + 1) 2830 18 [gp_r (some 1), gp_i p0, gp_i p1, gp_i p2, gp_i p3, gp_n, gp_n, gp_n, gp_n, gp_n, gp_n] [gp_i x6] s5 K
      refine gs_E.br (c := x6 = 0) (p1 := 27) (p2 := 21) (l1 := [gp_r (some 1), gp_i p0, gp_i p1, gp_i p2, gp_i p3, gp_n, gp_n, gp_n, gp_n, gp_n, gp_n]) (l2 := [gp_r (some 1), gp_i p0, gp_i p1, gp_i p2, gp_i p3, gp_n, gp_n, gp_n, gp_n, gp_n, gp_n]) (s1 := []) (s2 := []) rfl gs_b1 (fun hc => ?_) (fun hc => ?_)
      · replace H := H.1 hc
        refine gs_E.stp (pc' := 32) (ls' := [gp_r (some 1), gp_i p0, gp_i p1, gp_i p2, gp_i p3, gp_n, gp_n, gp_n, gp_n, gp_n, gp_n]) (st' := [gp_i p0, gp_r (some 4)]) (s' := s5) 3 rfl ?_
        refine gs_E.ck (pc' := 33) (ls' := [gp_r (some 1), gp_i p0, gp_i p1, gp_i p2, gp_i p3, gp_n, gp_n, gp_n, gp_n, gp_n, gp_n]) (st' := [gp_r (gp_R (gp_mk L s5) 4 p0.toNat)]) (s' := s5) rfl (Or.inl ⟨rfl, H.1.1, H.1.2⟩) ?_
        replace H := H.2
        refine gs_E.stp (pc' := 40) (ls' := [gp_r (some 1), gp_i p0, gp_i p1, gp_i p2, gp_i p3, gp_r (gp_R (gp_mk L s5) 4 p0.toNat), gp_n, gp_n, gp_n, gp_n, gp_n]) (st' := [gp_i p1, gp_r (some 4)]) (s' := s5) 4 rfl ?_
        refine gs_E.ck (pc' := 41) (ls' := [gp_r (some 1), gp_i p0, gp_i p1, gp_i p2, gp_i p3, gp_r (gp_R (gp_mk L s5) 4 p0.toNat), gp_n, gp_n, gp_n, gp_n, gp_n]) (st' := [gp_r (gp_R (gp_mk L s5) 4 p1.toNat)]) (s' := s5) rfl (Or.inl ⟨rfl, H.1.1, H.1.2⟩) ?_
        replace H := H.2
        refine gs_E.stp (pc' := 49) (ls' := [gp_r (some 1), gp_i p0, gp_i p1, gp_i p2, gp_i p3, gp_r (gp_R (gp_mk L s5) 4 p0.toNat), gp_r (gp_R (gp_mk L s5) 4 p1.toNat), gp_n, gp_n, gp_n, gp_n]) (st' := [gp_r (gp_R (gp_mk L s5) 4 p0.toNat), gp_r (some 31)]) (s' := s5) 4 rfl ?_
        refine gs_E.call (args := [gp_r (some 31), gp_r (gp_R (gp_mk L s5) 4 p0.toNat)]) (m := 3) (y' := 776) (st' := []) rfl H (fun r s7 H => ?_)
        obtain ⟨x8, rfl, H⟩ := H
        show gs_E L (d + 1) 2830 52 [gp_r (some 1), gp_i p0, gp_i p1, gp_i p2, gp_i p3, gp_r (gp_R (gp_mk L s5) 4 p0.toNat), gp_r (gp_R (gp_mk L s5) 4 p1.toNat), gp_n, gp_n, gp_n, gp_n] [gp_i x8] s7 K
        refine gs_E.br (c := x8 = 0) (p1 := 67) (p2 := 55) (l1 := [gp_r (some 1), gp_i p0, gp_i p1, gp_i p2, gp_i p3, gp_r (gp_R (gp_mk L s5) 4 p0.toNat), gp_r (gp_R (gp_mk L s5) 4 p1.toNat), gp_n, gp_n, gp_n, gp_n]) (l2 := [gp_r (some 1), gp_i p0, gp_i p1, gp_i p2, gp_i p3, gp_r (gp_R (gp_mk L s5) 4 p0.toNat), gp_r (gp_R (gp_mk L s5) 4 p1.toNat), gp_n, gp_n, gp_n, gp_n]) (s1 := []) (s2 := []) rfl gs_b1 (fun hc => ?_) (fun hc => ?_)
        · replace H := H.1 hc
          exact H
        · replace H := H.2 hc
          refine gs_E.stp (pc' := 61) (ls' := [gp_r (some 1), gp_i p0, gp_i p1, gp_i p2, gp_i p3, gp_r (gp_R (gp_mk L s5) 4 p0.toNat), gp_r (gp_R (gp_mk L s5) 4 p1.toNat), gp_n, gp_n, gp_n, gp_n]) (st' := [gp_r (gp_R (gp_mk L s5) 4 p1.toNat), gp_r (some 31)]) (s' := s7) 3 rfl ?_
          refine gs_E.call (args := [gp_r (some 31), gp_r (gp_R (gp_mk L s5) 4 p1.toNat)]) (m := 3) (y' := 776) (st' := []) rfl H (fun r s9 H => ?_)
          obtain ⟨x10, rfl, H⟩ := H
          show gs_E L (d + 1) 2830 64 [gp_r (some 1), gp_i p0, gp_i p1, gp_i p2, gp_i p3, gp_r (gp_R (gp_mk L s5) 4 p0.toNat), gp_r (gp_R (gp_mk L s5) 4 p1.toNat), gp_n, gp_n, gp_n, gp_n] [gp_i x10] s9 K
          refine gs_E.br (c := ¬ x10 = 0) (p1 := 73) (p2 := 67) (l1 := [gp_r (some 1), gp_i p0, gp_i p1, gp_i p2, gp_i p3, gp_r (gp_R (gp_mk L s5) 4 p0.toNat), gp_r (gp_R (gp_mk L s5) 4 p1.toNat), gp_n, gp_n, gp_n, gp_n]) (l2 := [gp_r (some 1), gp_i p0, gp_i p1, gp_i p2, gp_i p3, gp_r (gp_R (gp_mk L s5) 4 p0.toNat), gp_r (gp_R (gp_mk L s5) 4 p1.toNat), gp_n, gp_n, gp_n, gp_n]) (s1 := []) (s2 := []) rfl gs_b2 (fun hc => ?_) (fun hc => ?_)
          · replace H := H.2 hc
            refine gs_E.stp (pc' := 78) (ls' := [gp_r (some 1), gp_i p0, gp_i p1, gp_i p2, gp_i p3, gp_r (gp_R (gp_mk L s5) 4 p0.toNat), gp_r (gp_R (gp_mk L s5) 4 p1.toNat), gp_n, gp_n, gp_n, gp_n]) (st' := [gp_r (gp_R (gp_mk L s5) 4 p1.toNat), gp_r (gp_R (gp_mk L s5) 4 p0.toNat), gp_r (some 1)]) (s' := s9) 3 rfl ?_
            refine gs_E.call (args := [gp_r (some 1), gp_r (gp_R (gp_mk L s5) 4 p0.toNat), gp_r (gp_R (gp_mk L s5) 4 p1.toNat)]) (m := 3) (y' := 2829) (st' := []) rfl H (fun r s11 H => ?_)
            obtain ⟨x12, rfl, H⟩ := H
            show gs_E L (d + 1) 2830 81 [gp_r (some 1), gp_i p0, gp_i p1, gp_i p2, gp_i p3, gp_r (gp_R (gp_mk L s5) 4 p0.toNat), gp_r (gp_R (gp_mk L s5) 4 p1.toNat), gp_n, gp_n, gp_n, gp_n] [gp_i x12] s11 K
            refine gs_E.br (c := ¬ x12 = 0) (p1 := 90) (p2 := 84) (l1 := [gp_r (some 1), gp_i p0, gp_i p1, gp_i p2, gp_i p3, gp_r (gp_R (gp_mk L s5) 4 p0.toNat), gp_r (gp_R (gp_mk L s5) 4 p1.toNat), gp_n, gp_n, gp_n, gp_n]) (l2 := [gp_r (some 1), gp_i p0, gp_i p1, gp_i p2, gp_i p3, gp_r (gp_R (gp_mk L s5) 4 p0.toNat), gp_r (gp_R (gp_mk L s5) 4 p1.toNat), gp_n, gp_n, gp_n, gp_n]) (s1 := []) (s2 := []) rfl gs_b2 (fun hc => ?_) (fun hc => ?_)
            · replace H := H.2 hc
              refine gs_E.stp (pc' := 91) (ls' := [gp_r (some 1), gp_i p0, gp_i p1, gp_i p2, gp_i p3, gp_r (gp_R (gp_mk L s5) 4 p0.toNat), gp_r (gp_R (gp_mk L s5) 4 p1.toNat), gp_n, gp_n, gp_n, gp_n]) (st' := [gp_i p2]) (s' := s11) 1 rfl ?_
              refine gs_E.br (c := ¬ p2 = 0) (p1 := 99) (p2 := 94) (l1 := [gp_r (some 1), gp_i p0, gp_i p1, gp_i p2, gp_i p3, gp_r (gp_R (gp_mk L s5) 4 p0.toNat), gp_r (gp_R (gp_mk L s5) 4 p1.toNat), gp_n, gp_n, gp_n, gp_n]) (l2 := [gp_r (some 1), gp_i p0, gp_i p1, gp_i p2, gp_i p3, gp_r (gp_R (gp_mk L s5) 4 p0.toNat), gp_r (gp_R (gp_mk L s5) 4 p1.toNat), gp_n, gp_n, gp_n, gp_n]) (s1 := []) (s2 := []) rfl gs_b2 (fun hc => ?_) (fun hc => ?_)
              · replace H := H.2 hc
                refine gs_E.stp (pc' := 101) (ls' := [gp_r (some 1), gp_i p0, gp_i p1, gp_i p2, gp_i p3, gp_r (gp_R (gp_mk L s5) 4 p0.toNat), gp_r (gp_R (gp_mk L s5) 4 p1.toNat), gp_n, gp_n, gp_n, gp_n]) (st' := [gp_r (gp_R (gp_mk L s5) 4 p0.toNat)]) (s' := s11) 1 rfl ?_
                exact H
              · replace H := H.1 (Decidable.byContradiction hc)
                refine gs_E.stp (pc' := 101) (ls' := [gp_r (some 1), gp_i p0, gp_i p1, gp_i p2, gp_i p3, gp_r (gp_R (gp_mk L s5) 4 p0.toNat), gp_r (gp_R (gp_mk L s5) 4 p1.toNat), gp_n, gp_n, gp_n, gp_n]) (st' := [gp_r (gp_R (gp_mk L s5) 4 p1.toNat)]) (s' := s11) 2 rfl ?_
                exact H
            · replace H := H.1 (Decidable.byContradiction hc)
              refine gs_E.stp (pc' := 86) (ls' := [gp_r (some 1), gp_i p0, gp_i p1, gp_i p2, gp_i p3, gp_r (gp_R (gp_mk L s5) 4 p0.toNat), gp_r (gp_R (gp_mk L s5) 4 p1.toNat), gp_n, gp_n, gp_n, gp_n]) (st' := [gp_i 5, gp_r (some 1)]) (s' := s11) 2 rfl ?_
              refine gs_E.call (args := [gp_r (some 1), gp_i 5]) (m := 2) (y' := 2855) (st' := []) rfl H (fun r s13 H => ?_)
              obtain ⟨x14, rfl, H⟩ := H
              show gs_E L (d + 1) 2830 89 [gp_r (some 1), gp_i p0, gp_i p1, gp_i p2, gp_i p3, gp_r (gp_R (gp_mk L s5) 4 p0.toNat), gp_r (gp_R (gp_mk L s5) 4 p1.toNat), gp_n, gp_n, gp_n, gp_n] [gp_i x14] s13 K
              exact gs_E.ret (r := (some (gp_i x14))) rfl H
          · replace H := H.1 (Decidable.byContradiction hc)
            exact H
      · replace H := H.2 hc
        exact H

set_option maxRecDepth 100000 in
/-- GatheredPoints.answer, pc 21 -/
theorem s_2830_21 {L d : Nat} {K : Option gV → gH → Prop} {s : gH} (v1 : Int) (v2 : Int) (v3 : Int) (v4 : Int) (v5 : gV) (v6 : gV) (v7 : gV) (v8 : gV) (v9 : gV) (v10 : gV) (H : gs_C L d 2855 2 [gp_r (some 1), gp_i 1] s (fun r s1 => ∃ x2, r = some (gp_i x2) ∧ K (some (gp_i x2)) s1)) : gs_E L (d + 1) 2830 21 [gp_r (some 1), gp_i v1, gp_i v2, gp_i v3, gp_i v4, v5, v6, v7, v8, v9, v10] [] s K := by
  refine gs_E.stp (pc' := 23) (ls' := [gp_r (some 1), gp_i v1, gp_i v2, gp_i v3, gp_i v4, v5, v6, v7, v8, v9, v10]) (st' := [gp_i 1, gp_r (some 1)]) (s' := s) 2 rfl ?_
  refine gs_E.call (args := [gp_r (some 1), gp_i 1]) (m := 2) (y' := 2855) (st' := []) rfl H (fun r s1 H => ?_)
  obtain ⟨x2, rfl, H⟩ := H
  show gs_E L (d + 1) 2830 26 [gp_r (some 1), gp_i v1, gp_i v2, gp_i v3, gp_i v4, v5, v6, v7, v8, v9, v10] [gp_i x2] s1 K
  exact gs_E.ret (r := (some (gp_i x2))) rfl H

set_option maxRecDepth 100000 in
/-- GatheredPoints.answer, pc 67 -/
theorem s_2830_67 {L d : Nat} {K : Option gV → gH → Prop} {s : gH} (v1 : Int) (v2 : Int) (v3 : Int) (v4 : Int) (v5 : Option Nat) (v6 : Option Nat) (v7 : gV) (v8 : gV) (v9 : gV) (v10 : gV) (H : gs_C L d 2855 2 [gp_r (some 1), gp_i 3] s (fun r s1 => ∃ x2, r = some (gp_i x2) ∧ K (some (gp_i x2)) s1)) : gs_E L (d + 1) 2830 67 [gp_r (some 1), gp_i v1, gp_i v2, gp_i v3, gp_i v4, gp_r v5, gp_r v6, v7, v8, v9, v10] [] s K := by
  refine gs_E.stp (pc' := 69) (ls' := [gp_r (some 1), gp_i v1, gp_i v2, gp_i v3, gp_i v4, gp_r v5, gp_r v6, v7, v8, v9, v10]) (st' := [gp_i 3, gp_r (some 1)]) (s' := s) 2 rfl ?_
  refine gs_E.call (args := [gp_r (some 1), gp_i 3]) (m := 2) (y' := 2855) (st' := []) rfl H (fun r s1 H => ?_)
  obtain ⟨x2, rfl, H⟩ := H
  show gs_E L (d + 1) 2830 72 [gp_r (some 1), gp_i v1, gp_i v2, gp_i v3, gp_i v4, gp_r v5, gp_r v6, v7, v8, v9, v10] [gp_i x2] s1 K
  exact gs_E.ret (r := (some (gp_i x2))) rfl H

set_option maxRecDepth 100000 in
/-- GatheredPoints.answer, pc 101 -/
theorem s_2830_101 {L d : Nat} {K : Option gV → gH → Prop} {s : gH} (v1 : Int) (v2 : Int) (v3 : Int) (v4 : Int) (v5 : Option Nat) (v6 : Option Nat) (v7 : gV) (v8 : gV) (v9 : gV) (v10 : gV) (w0 : Option Nat) (H : (∃ q1, w0 = some q1 ∧ ((gp_sh (gp_mk L s) q1).1 = 9 ∧ gs_C L d 2306 1 [gp_r (some q1)] s (fun r s2 => ∃ x3, r = some (gp_i x3) ∧ ((gp_sh (gp_mk L s2) q1).1 = 9 ∧ gs_C L d 2307 3 [gp_r (some q1), gp_i x3, gp_i v3] s2 (fun r s4 => ∃ m5, r = some (gp_l m5) ∧ ((v4 < 0 → gs_E L (d + 1) 2830 131 [gp_r (some 1), gp_i v1, gp_i v2, gp_i v3, gp_i v4, gp_r v5, gp_r v6, gp_r (some q1), gp_l m5, gp_n, v10] [] s4 K) ∧ (¬ v4 < 0 → gs_C L d 3585 2 [gp_l m5] s4 (fun r s6 => ∃ x7, r = some (gp_i x7) ∧ ((v4 < x7 → gs_C L d 2860 6 [gp_l m5, gp_i v4] s6 (fun r s8 => ∃ x9, r = some (gp_i x9) ∧ ((v3 = 0 → gs_C L d 5 4 [gp_r (some 38), gp_r v5, gp_r v6, gp_i x9] s8 (fun r s12 => ∃ x13, r = some (gp_i x13) ∧ gs_E L (d + 1) 2830 179 [gp_r (some 1), gp_i v1, gp_i v2, gp_i v3, gp_i v4, gp_r v5, gp_r v6, gp_r (some q1), gp_l m5, gp_n, gp_i x9] [gp_i x13] s12 K)) ∧ (¬ v3 = 0 → gs_C L d 6 4 [gp_r (some 38), gp_r v5, gp_r v6, gp_i x9] s8 (fun r s10 => ∃ x11, r = some (gp_i x11) ∧ gs_E L (d + 1) 2830 179 [gp_r (some 1), gp_i v1, gp_i v2, gp_i v3, gp_i v4, gp_r v5, gp_r v6, gp_r (some q1), gp_l m5, gp_n, gp_i x9] [gp_i x11] s10 K))))) ∧ (¬ v4 < x7 → gs_E L (d + 1) 2830 131 [gp_r (some 1), gp_i v1, gp_i v2, gp_i v3, gp_i v4, gp_r v5, gp_r v6, gp_r (some q1), gp_l m5, gp_n, v10] [] s6 K))))))))))) : gs_E L (d + 1) 2830 101 [gp_r (some 1), gp_i v1, gp_i v2, gp_i v3, gp_i v4, gp_r v5, gp_r v6, v7, v8, v9, v10] [gp_r w0] s K := by
  refine gs_E.stp (pc' := 107) (ls' := [gp_r (some 1), gp_i v1, gp_i v2, gp_i v3, gp_i v4, gp_r v5, gp_r v6, gp_r w0, v8, v9, v10]) (st' := [gp_r w0, gp_r w0]) (s' := s) 3 rfl ?_
  obtain ⟨q1, hq, H⟩ := H
  rw [hq]
  refine gs_E.callV (args := [gp_r (some q1)]) (m := 1) (y' := 2306) (st' := [gp_r (some q1)]) rfl H.1 H.2 (fun r s2 H => ?_)
  obtain ⟨x3, rfl, H⟩ := H
  show gs_E L (d + 1) 2830 110 [gp_r (some 1), gp_i v1, gp_i v2, gp_i v3, gp_i v4, gp_r v5, gp_r v6, gp_r (some q1), v8, v9, v10] [gp_i x3, gp_r (some q1)] s2 K
  refine gs_E.stp (pc' := 111) (ls' := [gp_r (some 1), gp_i v1, gp_i v2, gp_i v3, gp_i v4, gp_r v5, gp_r v6, gp_r (some q1), v8, v9, v10]) (st' := [gp_i v3, gp_i x3, gp_r (some q1)]) (s' := s2) 1 rfl ?_
  refine gs_E.callV (args := [gp_r (some q1), gp_i x3, gp_i v3]) (m := 3) (y' := 2307) (st' := []) rfl H.1 H.2 (fun r s4 H => ?_)
  obtain ⟨m5, rfl, H⟩ := H
  show gs_E L (d + 1) 2830 114 [gp_r (some 1), gp_i v1, gp_i v2, gp_i v3, gp_i v4, gp_r v5, gp_r v6, gp_r (some q1), v8, v9, v10] [gp_l m5] s4 K
  refine gs_E.stp (pc' := 118) (ls' := [gp_r (some 1), gp_i v1, gp_i v2, gp_i v3, gp_i v4, gp_r v5, gp_r v6, gp_r (some q1), gp_l m5, gp_n, v10]) (st' := [gp_i v4]) (s' := s4) 2 rfl ?_
  refine gs_E.br (c := v4 < 0) (p1 := 131) (p2 := 121) (l1 := [gp_r (some 1), gp_i v1, gp_i v2, gp_i v3, gp_i v4, gp_r v5, gp_r v6, gp_r (some q1), gp_l m5, gp_n, v10]) (l2 := [gp_r (some 1), gp_i v1, gp_i v2, gp_i v3, gp_i v4, gp_r v5, gp_r v6, gp_r (some q1), gp_l m5, gp_n, v10]) (s1 := []) (s2 := []) rfl gs_b1 (fun hc => ?_) (fun hc => ?_)
  · replace H := H.1 hc
    exact H
  · replace H := H.2 hc
    refine gs_E.stp (pc' := 125) (ls' := [gp_r (some 1), gp_i v1, gp_i v2, gp_i v3, gp_i v4, gp_r v5, gp_r v6, gp_r (some q1), gp_l m5, gp_n, v10]) (st' := [gp_l m5, gp_i v4]) (s' := s4) 2 rfl ?_
    refine gs_E.call (args := [gp_l m5]) (m := 2) (y' := 3585) (st' := [gp_i v4]) rfl H (fun r s6 H => ?_)
    obtain ⟨x7, rfl, H⟩ := H
    show gs_E L (d + 1) 2830 128 [gp_r (some 1), gp_i v1, gp_i v2, gp_i v3, gp_i v4, gp_r v5, gp_r v6, gp_r (some q1), gp_l m5, gp_n, v10] [gp_i x7, gp_i v4] s6 K
    refine gs_E.br (c := v4 < x7) (p1 := 137) (p2 := 131) (l1 := [gp_r (some 1), gp_i v1, gp_i v2, gp_i v3, gp_i v4, gp_r v5, gp_r v6, gp_r (some q1), gp_l m5, gp_n, v10]) (l2 := [gp_r (some 1), gp_i v1, gp_i v2, gp_i v3, gp_i v4, gp_r v5, gp_r v6, gp_r (some q1), gp_l m5, gp_n, v10]) (s1 := []) (s2 := []) rfl gs_b1 (fun hc => ?_) (fun hc => ?_)
    · replace H := H.1 hc
      refine gs_E.stp (pc' := 141) (ls' := [gp_r (some 1), gp_i v1, gp_i v2, gp_i v3, gp_i v4, gp_r v5, gp_r v6, gp_r (some q1), gp_l m5, gp_n, v10]) (st' := [gp_i v4, gp_l m5]) (s' := s6) 2 rfl ?_
      refine gs_E.call (args := [gp_l m5, gp_i v4]) (m := 6) (y' := 2860) (st' := []) rfl H (fun r s8 H => ?_)
      obtain ⟨x9, rfl, H⟩ := H
      show gs_E L (d + 1) 2830 144 [gp_r (some 1), gp_i v1, gp_i v2, gp_i v3, gp_i v4, gp_r v5, gp_r v6, gp_r (some q1), gp_l m5, gp_n, v10] [gp_i x9] s8 K
      refine gs_E.stp (pc' := 147) (ls' := [gp_r (some 1), gp_i v1, gp_i v2, gp_i v3, gp_i v4, gp_r v5, gp_r v6, gp_r (some q1), gp_l m5, gp_n, gp_i x9]) (st' := [gp_i v3]) (s' := s8) 2 rfl ?_
      refine gs_E.br (c := ¬ v3 = 0) (p1 := 166) (p2 := 150) (l1 := [gp_r (some 1), gp_i v1, gp_i v2, gp_i v3, gp_i v4, gp_r v5, gp_r v6, gp_r (some q1), gp_l m5, gp_n, gp_i x9]) (l2 := [gp_r (some 1), gp_i v1, gp_i v2, gp_i v3, gp_i v4, gp_r v5, gp_r v6, gp_r (some q1), gp_l m5, gp_n, gp_i x9]) (s1 := []) (s2 := []) rfl gs_b2 (fun hc => ?_) (fun hc => ?_)
      · replace H := H.2 hc
        refine gs_E.stp (pc' := 176) (ls' := [gp_r (some 1), gp_i v1, gp_i v2, gp_i v3, gp_i v4, gp_r v5, gp_r v6, gp_r (some q1), gp_l m5, gp_n, gp_i x9]) (st' := [gp_i x9, gp_r v6, gp_r v5, gp_r (some 38)]) (s' := s8) 5 rfl ?_
        refine gs_E.call (args := [gp_r (some 38), gp_r v5, gp_r v6, gp_i x9]) (m := 4) (y' := 6) (st' := []) rfl H (fun r s10 H => ?_)
        obtain ⟨x11, rfl, H⟩ := H
        show gs_E L (d + 1) 2830 179 [gp_r (some 1), gp_i v1, gp_i v2, gp_i v3, gp_i v4, gp_r v5, gp_r v6, gp_r (some q1), gp_l m5, gp_n, gp_i x9] [gp_i x11] s10 K
        exact H
      · replace H := H.1 (Decidable.byContradiction hc)
        refine gs_E.stp (pc' := 160) (ls' := [gp_r (some 1), gp_i v1, gp_i v2, gp_i v3, gp_i v4, gp_r v5, gp_r v6, gp_r (some q1), gp_l m5, gp_n, gp_i x9]) (st' := [gp_i x9, gp_r v6, gp_r v5, gp_r (some 38)]) (s' := s8) 5 rfl ?_
        refine gs_E.call (args := [gp_r (some 38), gp_r v5, gp_r v6, gp_i x9]) (m := 4) (y' := 5) (st' := []) rfl H (fun r s12 H => ?_)
        obtain ⟨x13, rfl, H⟩ := H
        show gs_E L (d + 1) 2830 163 [gp_r (some 1), gp_i v1, gp_i v2, gp_i v3, gp_i v4, gp_r v5, gp_r v6, gp_r (some q1), gp_l m5, gp_n, gp_i x9] [gp_i x13] s12 K
        refine gs_E.stp (pc' := 179) (ls' := [gp_r (some 1), gp_i v1, gp_i v2, gp_i v3, gp_i v4, gp_r v5, gp_r v6, gp_r (some q1), gp_l m5, gp_n, gp_i x9]) (st' := [gp_i x13]) (s' := s12) 1 rfl ?_
        exact H
    · replace H := H.2 hc
      exact H

set_option maxRecDepth 100000 in
/-- GatheredPoints.answer, pc 131 -/
theorem s_2830_131 {L d : Nat} {K : Option gV → gH → Prop} {s : gH} (v1 : Int) (v2 : Int) (v3 : Int) (v4 : Int) (v5 : Option Nat) (v6 : Option Nat) (v7 : Option Nat) (v8 : BitVec 64) (v10 : gV) (H : gs_C L d 2855 2 [gp_r (some 1), gp_i 2] s (fun r s1 => ∃ x2, r = some (gp_i x2) ∧ K (some (gp_i x2)) s1)) : gs_E L (d + 1) 2830 131 [gp_r (some 1), gp_i v1, gp_i v2, gp_i v3, gp_i v4, gp_r v5, gp_r v6, gp_r v7, gp_l v8, gp_n, v10] [] s K := by
  refine gs_E.stp (pc' := 133) (ls' := [gp_r (some 1), gp_i v1, gp_i v2, gp_i v3, gp_i v4, gp_r v5, gp_r v6, gp_r v7, gp_l v8, gp_n, v10]) (st' := [gp_i 2, gp_r (some 1)]) (s' := s) 2 rfl ?_
  refine gs_E.call (args := [gp_r (some 1), gp_i 2]) (m := 2) (y' := 2855) (st' := []) rfl H (fun r s1 H => ?_)
  obtain ⟨x2, rfl, H⟩ := H
  show gs_E L (d + 1) 2830 136 [gp_r (some 1), gp_i v1, gp_i v2, gp_i v3, gp_i v4, gp_r v5, gp_r v6, gp_r v7, gp_l v8, gp_n, v10] [gp_i x2] s1 K
  exact gs_E.ret (r := (some (gp_i x2))) rfl H

set_option maxRecDepth 100000 in
/-- GatheredPoints.answer, pc 179 -/
theorem s_2830_179 {L d : Nat} {K : Option gV → gH → Prop} {s : gH} (v1 : Int) (v2 : Int) (v3 : Int) (v4 : Int) (v5 : Option Nat) (v6 : Option Nat) (v7 : Option Nat) (v8 : BitVec 64) (v10 : Int) (w0 : Int) (H : K (some (gp_i w0)) s) : gs_E L (d + 1) 2830 179 [gp_r (some 1), gp_i v1, gp_i v2, gp_i v3, gp_i v4, gp_r v5, gp_r v6, gp_r v7, gp_l v8, gp_n, gp_i v10] [gp_i w0] s K := by
  exact gs_E.ret (r := (some (gp_i w0))) rfl H

set_option maxRecDepth 100000 in
/-- GatheredPoints.reduce, pc 0 -/
theorem s_2831_e {L d : Nat} {K : Option gV → gH → Prop} {s : gH} (p0 : Int) (p1 : Int) (H : gs_C L d 2856 1 [gp_i p0] s (fun r s1 => ∃ x2, r = some (gp_i x2) ∧ ((x2 = 0 → gs_C L d 2856 1 [gp_i p1] s1 (fun r s3 => ∃ x4, r = some (gp_i x4) ∧ ((x4 = 0 → ((0 ≤ p0 ∧ p0 < 8) ∧ gs_C L d 776 3 [gp_r (some 31), gp_r (gp_R (gp_mk L s3) 4 p0.toNat)] s3 (fun r s5 => ∃ x6, r = some (gp_i x6) ∧ ((x6 = 0 → gs_C L d 2855 2 [gp_r (some 1), gp_i 3] s5 (fun r s11 => ∃ x12, r = some (gp_i x12) ∧ K (some (gp_i x12)) s11)) ∧ (¬ x6 = 0 → ((0 ≤ p0 ∧ p0 < 8) ∧ gs_C L d 1537 6 [gp_r (some 41), gp_r (gp_R (gp_mk L s5) 4 p0.toNat)] s5 (fun r s7 => ∃ o8, r = some (gp_r o8) ∧ gs_C L d 2854 3 [gp_r (some 1), gp_i p1, gp_r o8] s7 (fun r s9 => ∃ x10, r = some (gp_i x10) ∧ K (some (gp_i x10)) s9)))))))) ∧ (¬ x4 = 0 → gs_E L (d + 1) 2831 14 [gp_r (some 1), gp_i p0, gp_i p1] [] s3 K)))) ∧ (¬ x2 = 0 → gs_E L (d + 1) 2831 14 [gp_r (some 1), gp_i p0, gp_i p1] [] s1 K)))) : gs_C L (d + 1) 2831 3 [gp_r (some 1), gp_i p0, gp_i p1] s K := by
  show gs_E L (d + 1) 2831 0 [gp_r (some 1), gp_i p0, gp_i p1] [] s K
  refine gs_E.stp (pc' := 1) (ls' := [gp_r (some 1), gp_i p0, gp_i p1]) (st' := [gp_i p0]) (s' := s) 1 rfl ?_
  refine gs_E.call (args := [gp_i p0]) (m := 1) (y' := 2856) (st' := []) rfl H (fun r s1 H => ?_)
  obtain ⟨x2, rfl, H⟩ := H
  show gs_E L (d + 1) 2831 4 [gp_r (some 1), gp_i p0, gp_i p1] [gp_i x2] s1 K
  refine gs_E.br (c := ¬ x2 = 0) (p1 := 14) (p2 := 7) (l1 := [gp_r (some 1), gp_i p0, gp_i p1]) (l2 := [gp_r (some 1), gp_i p0, gp_i p1]) (s1 := []) (s2 := []) rfl gs_b2 (fun hc => ?_) (fun hc => ?_)
  · replace H := H.2 hc
    exact H
  · replace H := H.1 (Decidable.byContradiction hc)
    refine gs_E.stp (pc' := 8) (ls' := [gp_r (some 1), gp_i p0, gp_i p1]) (st' := [gp_i p1]) (s' := s1) 1 rfl ?_
    refine gs_E.call (args := [gp_i p1]) (m := 1) (y' := 2856) (st' := []) rfl H (fun r s3 H => ?_)
    obtain ⟨x4, rfl, H⟩ := H
    show gs_E L (d + 1) 2831 11 [gp_r (some 1), gp_i p0, gp_i p1] [gp_i x4] s3 K
    refine gs_E.br (c := x4 = 0) (p1 := 20) (p2 := 14) (l1 := [gp_r (some 1), gp_i p0, gp_i p1]) (l2 := [gp_r (some 1), gp_i p0, gp_i p1]) (s1 := []) (s2 := []) rfl gs_b1 (fun hc => ?_) (fun hc => ?_)
    · replace H := H.1 hc
      refine gs_E.stp (pc' := 29) (ls' := [gp_r (some 1), gp_i p0, gp_i p1]) (st' := [gp_i p0, gp_r (some 4), gp_r (some 31)]) (s' := s3) 5 rfl ?_
      refine gs_E.ck (pc' := 30) (ls' := [gp_r (some 1), gp_i p0, gp_i p1]) (st' := [gp_r (gp_R (gp_mk L s3) 4 p0.toNat), gp_r (some 31)]) (s' := s3) rfl (Or.inl ⟨rfl, H.1.1, H.1.2⟩) ?_
      replace H := H.2
      refine gs_E.call (args := [gp_r (some 31), gp_r (gp_R (gp_mk L s3) 4 p0.toNat)]) (m := 3) (y' := 776) (st' := []) rfl H (fun r s5 H => ?_)
      obtain ⟨x6, rfl, H⟩ := H
      show gs_E L (d + 1) 2831 33 [gp_r (some 1), gp_i p0, gp_i p1] [gp_i x6] s5 K
      refine gs_E.br (c := ¬ x6 = 0) (p1 := 42) (p2 := 36) (l1 := [gp_r (some 1), gp_i p0, gp_i p1]) (l2 := [gp_r (some 1), gp_i p0, gp_i p1]) (s1 := []) (s2 := []) rfl gs_b2 (fun hc => ?_) (fun hc => ?_)
      · replace H := H.2 hc
        refine gs_E.stp (pc' := 53) (ls' := [gp_r (some 1), gp_i p0, gp_i p1]) (st' := [gp_i p0, gp_r (some 4), gp_r (some 41), gp_i p1, gp_r (some 1)]) (s' := s5) 7 rfl ?_
        refine gs_E.ck (pc' := 54) (ls' := [gp_r (some 1), gp_i p0, gp_i p1]) (st' := [gp_r (gp_R (gp_mk L s5) 4 p0.toNat), gp_r (some 41), gp_i p1, gp_r (some 1)]) (s' := s5) rfl (Or.inl ⟨rfl, H.1.1, H.1.2⟩) ?_
        replace H := H.2
        refine gs_E.call (args := [gp_r (some 41), gp_r (gp_R (gp_mk L s5) 4 p0.toNat)]) (m := 6) (y' := 1537) (st' := [gp_i p1, gp_r (some 1)]) rfl H (fun r s7 H => ?_)
        obtain ⟨o8, rfl, H⟩ := H
        show gs_E L (d + 1) 2831 57 [gp_r (some 1), gp_i p0, gp_i p1] [gp_r o8, gp_i p1, gp_r (some 1)] s7 K
        refine gs_E.call (args := [gp_r (some 1), gp_i p1, gp_r o8]) (m := 3) (y' := 2854) (st' := []) rfl H (fun r s9 H => ?_)
        obtain ⟨x10, rfl, H⟩ := H
        show gs_E L (d + 1) 2831 60 [gp_r (some 1), gp_i p0, gp_i p1] [gp_i x10] s9 K
        exact gs_E.ret (r := (some (gp_i x10))) rfl H
      · replace H := H.1 (Decidable.byContradiction hc)
        refine gs_E.stp (pc' := 38) (ls' := [gp_r (some 1), gp_i p0, gp_i p1]) (st' := [gp_i 3, gp_r (some 1)]) (s' := s5) 2 rfl ?_
        refine gs_E.call (args := [gp_r (some 1), gp_i 3]) (m := 2) (y' := 2855) (st' := []) rfl H (fun r s11 H => ?_)
        obtain ⟨x12, rfl, H⟩ := H
        show gs_E L (d + 1) 2831 41 [gp_r (some 1), gp_i p0, gp_i p1] [gp_i x12] s11 K
        exact gs_E.ret (r := (some (gp_i x12))) rfl H
    · replace H := H.2 hc
      exact H

set_option maxRecDepth 100000 in
/-- GatheredPoints.reduce, pc 14 -/
theorem s_2831_14 {L d : Nat} {K : Option gV → gH → Prop} {s : gH} (v1 : Int) (v2 : Int) (H : gs_C L d 2855 2 [gp_r (some 1), gp_i 1] s (fun r s1 => ∃ x2, r = some (gp_i x2) ∧ K (some (gp_i x2)) s1)) : gs_E L (d + 1) 2831 14 [gp_r (some 1), gp_i v1, gp_i v2] [] s K := by
  refine gs_E.stp (pc' := 16) (ls' := [gp_r (some 1), gp_i v1, gp_i v2]) (st' := [gp_i 1, gp_r (some 1)]) (s' := s) 2 rfl ?_
  refine gs_E.call (args := [gp_r (some 1), gp_i 1]) (m := 2) (y' := 2855) (st' := []) rfl H (fun r s1 H => ?_)
  obtain ⟨x2, rfl, H⟩ := H
  show gs_E L (d + 1) 2831 19 [gp_r (some 1), gp_i v1, gp_i v2] [gp_i x2] s1 K
  exact gs_E.ret (r := (some (gp_i x2))) rfl H

set_option maxRecDepth 100000 in
/-- GatheredPoints.score, pc 0 -/
theorem s_2832_e {L d : Nat} {K : Option gV → gH → Prop} {s : gH} (p0 : Int) (p1 : Int) (H : gs_C L d 2858 1 [gp_i p0] s (fun r s1 => ∃ x2, r = some (gp_i x2) ∧ ((x2 = 0 → gs_C L d 2857 1 [gp_i p1] s1 (fun r s3 => ∃ x4, r = some (gp_i x4) ∧ ((x4 = 0 → gs_C L d 2049 4 [gp_r (some 51), gp_i p0, gp_r (some 4)] s3 (fun r s5 => r = none ∧ gs_C L d 2056 2 [gp_r (some 51), gp_i p1] s5 (fun r s6 => ∃ x7, r = some (gp_i x7) ∧ K (some (gp_i x7)) s6))) ∧ (¬ x4 = 0 → gs_E L (d + 1) 2832 14 [gp_r (some 1), gp_i p0, gp_i p1] [] s3 K)))) ∧ (¬ x2 = 0 → gs_E L (d + 1) 2832 14 [gp_r (some 1), gp_i p0, gp_i p1] [] s1 K)))) : gs_C L (d + 1) 2832 3 [gp_r (some 1), gp_i p0, gp_i p1] s K := by
  show gs_E L (d + 1) 2832 0 [gp_r (some 1), gp_i p0, gp_i p1] [] s K
  refine gs_E.stp (pc' := 1) (ls' := [gp_r (some 1), gp_i p0, gp_i p1]) (st' := [gp_i p0]) (s' := s) 1 rfl ?_
  refine gs_E.call (args := [gp_i p0]) (m := 1) (y' := 2858) (st' := []) rfl H (fun r s1 H => ?_)
  obtain ⟨x2, rfl, H⟩ := H
  show gs_E L (d + 1) 2832 4 [gp_r (some 1), gp_i p0, gp_i p1] [gp_i x2] s1 K
  refine gs_E.br (c := ¬ x2 = 0) (p1 := 14) (p2 := 7) (l1 := [gp_r (some 1), gp_i p0, gp_i p1]) (l2 := [gp_r (some 1), gp_i p0, gp_i p1]) (s1 := []) (s2 := []) rfl gs_b2 (fun hc => ?_) (fun hc => ?_)
  · replace H := H.2 hc
    exact H
  · replace H := H.1 (Decidable.byContradiction hc)
    refine gs_E.stp (pc' := 8) (ls' := [gp_r (some 1), gp_i p0, gp_i p1]) (st' := [gp_i p1]) (s' := s1) 1 rfl ?_
    refine gs_E.call (args := [gp_i p1]) (m := 1) (y' := 2857) (st' := []) rfl H (fun r s3 H => ?_)
    obtain ⟨x4, rfl, H⟩ := H
    show gs_E L (d + 1) 2832 11 [gp_r (some 1), gp_i p0, gp_i p1] [gp_i x4] s3 K
    refine gs_E.br (c := x4 = 0) (p1 := 20) (p2 := 14) (l1 := [gp_r (some 1), gp_i p0, gp_i p1]) (l2 := [gp_r (some 1), gp_i p0, gp_i p1]) (s1 := []) (s2 := []) rfl gs_b1 (fun hc => ?_) (fun hc => ?_)
    · replace H := H.1 hc
      refine gs_E.stp (pc' := 29) (ls' := [gp_r (some 1), gp_i p0, gp_i p1]) (st' := [gp_r (some 4), gp_i p0, gp_r (some 51)]) (s' := s3) 5 rfl ?_
      refine gs_E.call (args := [gp_r (some 51), gp_i p0, gp_r (some 4)]) (m := 4) (y' := 2049) (st' := []) rfl H (fun r s5 H => ?_)
      obtain ⟨rfl, H⟩ := H
      show gs_E L (d + 1) 2832 32 [gp_r (some 1), gp_i p0, gp_i p1] [] s5 K
      refine gs_E.stp (pc' := 37) (ls' := [gp_r (some 1), gp_i p0, gp_i p1]) (st' := [gp_i p1, gp_r (some 51)]) (s' := s5) 3 rfl ?_
      refine gs_E.call (args := [gp_r (some 51), gp_i p1]) (m := 2) (y' := 2056) (st' := []) rfl H (fun r s6 H => ?_)
      obtain ⟨x7, rfl, H⟩ := H
      show gs_E L (d + 1) 2832 40 [gp_r (some 1), gp_i p0, gp_i p1] [gp_i x7] s6 K
      exact gs_E.ret (r := (some (gp_i x7))) rfl H
    · replace H := H.2 hc
      exact H

set_option maxRecDepth 100000 in
/-- GatheredPoints.score, pc 14 -/
theorem s_2832_14 {L d : Nat} {K : Option gV → gH → Prop} {s : gH} (v1 : Int) (v2 : Int) (H : gs_C L d 2855 2 [gp_r (some 1), gp_i 1] s (fun r s1 => ∃ x2, r = some (gp_i x2) ∧ K (some (gp_i x2)) s1)) : gs_E L (d + 1) 2832 14 [gp_r (some 1), gp_i v1, gp_i v2] [] s K := by
  refine gs_E.stp (pc' := 16) (ls' := [gp_r (some 1), gp_i v1, gp_i v2]) (st' := [gp_i 1, gp_r (some 1)]) (s' := s) 2 rfl ?_
  refine gs_E.call (args := [gp_r (some 1), gp_i 1]) (m := 2) (y' := 2855) (st' := []) rfl H (fun r s1 H => ?_)
  obtain ⟨x2, rfl, H⟩ := H
  show gs_E L (d + 1) 2832 19 [gp_r (some 1), gp_i v1, gp_i v2] [gp_i x2] s1 K
  exact gs_E.ret (r := (some (gp_i x2))) rfl H

set_option maxRecDepth 100000 in
/-- GatheredPoints.best, pc 0 -/
theorem s_2833_e {L d : Nat} {K : Option gV → gH → Prop} {s : gH} (p0 : Int) (p1 : Int) (H : gs_C L d 2858 1 [gp_i p0] s (fun r s1 => ∃ x2, r = some (gp_i x2) ∧ ((x2 = 0 → gs_C L d 2857 1 [gp_i p1] s1 (fun r s3 => ∃ x4, r = some (gp_i x4) ∧ ((x4 = 0 → gs_C L d 2049 4 [gp_r (some 51), gp_i p0, gp_r (some 4)] s3 (fun r s5 => r = none ∧ gs_C L d 2057 10 [gp_r (some 51), gp_i p1] s5 (fun r s6 => ∃ x7, r = some (gp_i x7) ∧ ((x7 < 0 → gs_C L d 2855 2 [gp_r (some 1), gp_i 2] s6 (fun r s10 => ∃ x11, r = some (gp_i x11) ∧ gs_E L (d + 1) 2833 61 [gp_r (some 1), gp_i p0, gp_i p1, gp_i x7] [gp_i x11] s10 K)) ∧ (¬ x7 < 0 → gs_C L d 2052 2 [gp_r (some 51), gp_i x7] s6 (fun r s8 => ∃ x9, r = some (gp_i x9) ∧ gs_E L (d + 1) 2833 61 [gp_r (some 1), gp_i p0, gp_i p1, gp_i x7] [gp_i x9] s8 K)))))) ∧ (¬ x4 = 0 → gs_E L (d + 1) 2833 14 [gp_r (some 1), gp_i p0, gp_i p1, gp_n] [] s3 K)))) ∧ (¬ x2 = 0 → gs_E L (d + 1) 2833 14 [gp_r (some 1), gp_i p0, gp_i p1, gp_n] [] s1 K)))) : gs_C L (d + 1) 2833 4 [gp_r (some 1), gp_i p0, gp_i p1] s K := by
  show gs_E L (d + 1) 2833 0 [gp_r (some 1), gp_i p0, gp_i p1, gp_n] [] s K
  refine gs_E.stp (pc' := 1) (ls' := [gp_r (some 1), gp_i p0, gp_i p1, gp_n]) (st' := [gp_i p0]) (s' := s) 1 rfl ?_
  refine gs_E.call (args := [gp_i p0]) (m := 1) (y' := 2858) (st' := []) rfl H (fun r s1 H => ?_)
  obtain ⟨x2, rfl, H⟩ := H
  show gs_E L (d + 1) 2833 4 [gp_r (some 1), gp_i p0, gp_i p1, gp_n] [gp_i x2] s1 K
  refine gs_E.br (c := ¬ x2 = 0) (p1 := 14) (p2 := 7) (l1 := [gp_r (some 1), gp_i p0, gp_i p1, gp_n]) (l2 := [gp_r (some 1), gp_i p0, gp_i p1, gp_n]) (s1 := []) (s2 := []) rfl gs_b2 (fun hc => ?_) (fun hc => ?_)
  · replace H := H.2 hc
    exact H
  · replace H := H.1 (Decidable.byContradiction hc)
    refine gs_E.stp (pc' := 8) (ls' := [gp_r (some 1), gp_i p0, gp_i p1, gp_n]) (st' := [gp_i p1]) (s' := s1) 1 rfl ?_
    refine gs_E.call (args := [gp_i p1]) (m := 1) (y' := 2857) (st' := []) rfl H (fun r s3 H => ?_)
    obtain ⟨x4, rfl, H⟩ := H
    show gs_E L (d + 1) 2833 11 [gp_r (some 1), gp_i p0, gp_i p1, gp_n] [gp_i x4] s3 K
    refine gs_E.br (c := x4 = 0) (p1 := 20) (p2 := 14) (l1 := [gp_r (some 1), gp_i p0, gp_i p1, gp_n]) (l2 := [gp_r (some 1), gp_i p0, gp_i p1, gp_n]) (s1 := []) (s2 := []) rfl gs_b1 (fun hc => ?_) (fun hc => ?_)
    · replace H := H.1 hc
      refine gs_E.stp (pc' := 29) (ls' := [gp_r (some 1), gp_i p0, gp_i p1, gp_n]) (st' := [gp_r (some 4), gp_i p0, gp_r (some 51)]) (s' := s3) 5 rfl ?_
      refine gs_E.call (args := [gp_r (some 51), gp_i p0, gp_r (some 4)]) (m := 4) (y' := 2049) (st' := []) rfl H (fun r s5 H => ?_)
      obtain ⟨rfl, H⟩ := H
      show gs_E L (d + 1) 2833 32 [gp_r (some 1), gp_i p0, gp_i p1, gp_n] [] s5 K
      refine gs_E.stp (pc' := 37) (ls' := [gp_r (some 1), gp_i p0, gp_i p1, gp_n]) (st' := [gp_i p1, gp_r (some 51)]) (s' := s5) 3 rfl ?_
      refine gs_E.call (args := [gp_r (some 51), gp_i p1]) (m := 10) (y' := 2057) (st' := []) rfl H (fun r s6 H => ?_)
      obtain ⟨x7, rfl, H⟩ := H
      show gs_E L (d + 1) 2833 40 [gp_r (some 1), gp_i p0, gp_i p1, gp_n] [gp_i x7] s6 K
      refine gs_E.stp (pc' := 42) (ls' := [gp_r (some 1), gp_i p0, gp_i p1, gp_i x7]) (st' := [gp_i x7]) (s' := s6) 2 rfl ?_
      refine gs_E.br (c := ¬ x7 < 0) (p1 := 53) (p2 := 45) (l1 := [gp_r (some 1), gp_i p0, gp_i p1, gp_i x7]) (l2 := [gp_r (some 1), gp_i p0, gp_i p1, gp_i x7]) (s1 := []) (s2 := []) rfl gs_b2 (fun hc => ?_) (fun hc => ?_)
      · replace H := H.2 hc
        refine gs_E.stp (pc' := 58) (ls' := [gp_r (some 1), gp_i p0, gp_i p1, gp_i x7]) (st' := [gp_i x7, gp_r (some 51)]) (s' := s6) 3 rfl ?_
        refine gs_E.call (args := [gp_r (some 51), gp_i x7]) (m := 2) (y' := 2052) (st' := []) rfl H (fun r s8 H => ?_)
        obtain ⟨x9, rfl, H⟩ := H
        show gs_E L (d + 1) 2833 61 [gp_r (some 1), gp_i p0, gp_i p1, gp_i x7] [gp_i x9] s8 K
        exact H
      · replace H := H.1 (Decidable.byContradiction hc)
        refine gs_E.stp (pc' := 47) (ls' := [gp_r (some 1), gp_i p0, gp_i p1, gp_i x7]) (st' := [gp_i 2, gp_r (some 1)]) (s' := s6) 2 rfl ?_
        refine gs_E.call (args := [gp_r (some 1), gp_i 2]) (m := 2) (y' := 2855) (st' := []) rfl H (fun r s10 H => ?_)
        obtain ⟨x11, rfl, H⟩ := H
        show gs_E L (d + 1) 2833 50 [gp_r (some 1), gp_i p0, gp_i p1, gp_i x7] [gp_i x11] s10 K
        refine gs_E.stp (pc' := 61) (ls' := [gp_r (some 1), gp_i p0, gp_i p1, gp_i x7]) (st' := [gp_i x11]) (s' := s10) 1 rfl ?_
        exact H
    · replace H := H.2 hc
      exact H

set_option maxRecDepth 100000 in
/-- GatheredPoints.best, pc 14 -/
theorem s_2833_14 {L d : Nat} {K : Option gV → gH → Prop} {s : gH} (v1 : Int) (v2 : Int) (v3 : gV) (H : gs_C L d 2855 2 [gp_r (some 1), gp_i 1] s (fun r s1 => ∃ x2, r = some (gp_i x2) ∧ K (some (gp_i x2)) s1)) : gs_E L (d + 1) 2833 14 [gp_r (some 1), gp_i v1, gp_i v2, v3] [] s K := by
  refine gs_E.stp (pc' := 16) (ls' := [gp_r (some 1), gp_i v1, gp_i v2, v3]) (st' := [gp_i 1, gp_r (some 1)]) (s' := s) 2 rfl ?_
  refine gs_E.call (args := [gp_r (some 1), gp_i 1]) (m := 2) (y' := 2855) (st' := []) rfl H (fun r s1 H => ?_)
  obtain ⟨x2, rfl, H⟩ := H
  show gs_E L (d + 1) 2833 19 [gp_r (some 1), gp_i v1, gp_i v2, v3] [gp_i x2] s1 K
  exact gs_E.ret (r := (some (gp_i x2))) rfl H

set_option maxRecDepth 100000 in
/-- GatheredPoints.best, pc 61 -/
theorem s_2833_61 {L d : Nat} {K : Option gV → gH → Prop} {s : gH} (v1 : Int) (v2 : Int) (v3 : Int) (w0 : Int) (H : K (some (gp_i w0)) s) : gs_E L (d + 1) 2833 61 [gp_r (some 1), gp_i v1, gp_i v2, gp_i v3] [gp_i w0] s K := by
  exact gs_E.ret (r := (some (gp_i w0))) rfl H

set_option maxRecDepth 100000 in
/-- GatheredPoints.begin, pc 0 -/
theorem s_2834_e {L d : Nat} {K : Option gV → gH → Prop} {s : gH} (p0 : Int) (p1 : Int) (H : gs_C L d 2858 1 [gp_i p0] s (fun r s1 => ∃ x2, r = some (gp_i x2) ∧ ((x2 = 0 → gs_C L d 2857 1 [gp_i p1] s1 (fun r s3 => ∃ x4, r = some (gp_i x4) ∧ ((x4 = 0 → gs_C L d 513 4 [gp_r (some 57), gp_i p0, gp_i p1, gp_r (some 4)] s3 (fun r s5 => r = none ∧ gs_C L d 514 1 [gp_r (some 57)] s5 (fun r s6 => ∃ x7, r = some (gp_i x7) ∧ ((x7 = 0 → gs_E L (d + 1) 2834 48 [gp_r (some 1), gp_i p0, gp_i p1] [gp_i 0] s6 K) ∧ (¬ x7 = 0 → gs_E L (d + 1) 2834 48 [gp_r (some 1), gp_i p0, gp_i p1] [gp_i 1] s6 K))))) ∧ (¬ x4 = 0 → gs_E L (d + 1) 2834 14 [gp_r (some 1), gp_i p0, gp_i p1] [] s3 K)))) ∧ (¬ x2 = 0 → gs_E L (d + 1) 2834 14 [gp_r (some 1), gp_i p0, gp_i p1] [] s1 K)))) : gs_C L (d + 1) 2834 3 [gp_r (some 1), gp_i p0, gp_i p1] s K := by
  show gs_E L (d + 1) 2834 0 [gp_r (some 1), gp_i p0, gp_i p1] [] s K
  refine gs_E.stp (pc' := 1) (ls' := [gp_r (some 1), gp_i p0, gp_i p1]) (st' := [gp_i p0]) (s' := s) 1 rfl ?_
  refine gs_E.call (args := [gp_i p0]) (m := 1) (y' := 2858) (st' := []) rfl H (fun r s1 H => ?_)
  obtain ⟨x2, rfl, H⟩ := H
  show gs_E L (d + 1) 2834 4 [gp_r (some 1), gp_i p0, gp_i p1] [gp_i x2] s1 K
  refine gs_E.br (c := ¬ x2 = 0) (p1 := 14) (p2 := 7) (l1 := [gp_r (some 1), gp_i p0, gp_i p1]) (l2 := [gp_r (some 1), gp_i p0, gp_i p1]) (s1 := []) (s2 := []) rfl gs_b2 (fun hc => ?_) (fun hc => ?_)
  · replace H := H.2 hc
    exact H
  · replace H := H.1 (Decidable.byContradiction hc)
    refine gs_E.stp (pc' := 8) (ls' := [gp_r (some 1), gp_i p0, gp_i p1]) (st' := [gp_i p1]) (s' := s1) 1 rfl ?_
    refine gs_E.call (args := [gp_i p1]) (m := 1) (y' := 2857) (st' := []) rfl H (fun r s3 H => ?_)
    obtain ⟨x4, rfl, H⟩ := H
    show gs_E L (d + 1) 2834 11 [gp_r (some 1), gp_i p0, gp_i p1] [gp_i x4] s3 K
    refine gs_E.br (c := x4 = 0) (p1 := 20) (p2 := 14) (l1 := [gp_r (some 1), gp_i p0, gp_i p1]) (l2 := [gp_r (some 1), gp_i p0, gp_i p1]) (s1 := []) (s2 := []) rfl gs_b1 (fun hc => ?_) (fun hc => ?_)
    · replace H := H.1 hc
      refine gs_E.stp (pc' := 30) (ls' := [gp_r (some 1), gp_i p0, gp_i p1]) (st' := [gp_r (some 4), gp_i p1, gp_i p0, gp_r (some 57)]) (s' := s3) 6 rfl ?_
      refine gs_E.call (args := [gp_r (some 57), gp_i p0, gp_i p1, gp_r (some 4)]) (m := 4) (y' := 513) (st' := []) rfl H (fun r s5 H => ?_)
      obtain ⟨rfl, H⟩ := H
      show gs_E L (d + 1) 2834 33 [gp_r (some 1), gp_i p0, gp_i p1] [] s5 K
      refine gs_E.stp (pc' := 37) (ls' := [gp_r (some 1), gp_i p0, gp_i p1]) (st' := [gp_r (some 57)]) (s' := s5) 2 rfl ?_
      refine gs_E.call (args := [gp_r (some 57)]) (m := 1) (y' := 514) (st' := []) rfl H (fun r s6 H => ?_)
      obtain ⟨x7, rfl, H⟩ := H
      show gs_E L (d + 1) 2834 40 [gp_r (some 1), gp_i p0, gp_i p1] [gp_i x7] s6 K
      refine gs_E.br (c := x7 = 0) (p1 := 47) (p2 := 43) (l1 := [gp_r (some 1), gp_i p0, gp_i p1]) (l2 := [gp_r (some 1), gp_i p0, gp_i p1]) (s1 := []) (s2 := []) rfl gs_b1 (fun hc => ?_) (fun hc => ?_)
      · replace H := H.1 hc
        refine gs_E.stp (pc' := 48) (ls' := [gp_r (some 1), gp_i p0, gp_i p1]) (st' := [gp_i 0]) (s' := s6) 1 rfl ?_
        exact H
      · replace H := H.2 hc
        refine gs_E.stp (pc' := 48) (ls' := [gp_r (some 1), gp_i p0, gp_i p1]) (st' := [gp_i 1]) (s' := s6) 2 rfl ?_
        exact H
    · replace H := H.2 hc
      exact H

set_option maxRecDepth 100000 in
/-- GatheredPoints.begin, pc 14 -/
theorem s_2834_14 {L d : Nat} {K : Option gV → gH → Prop} {s : gH} (v1 : Int) (v2 : Int) (H : gs_C L d 2855 2 [gp_r (some 1), gp_i 1] s (fun r s1 => ∃ x2, r = some (gp_i x2) ∧ K (some (gp_i x2)) s1)) : gs_E L (d + 1) 2834 14 [gp_r (some 1), gp_i v1, gp_i v2] [] s K := by
  refine gs_E.stp (pc' := 16) (ls' := [gp_r (some 1), gp_i v1, gp_i v2]) (st' := [gp_i 1, gp_r (some 1)]) (s' := s) 2 rfl ?_
  refine gs_E.call (args := [gp_r (some 1), gp_i 1]) (m := 2) (y' := 2855) (st' := []) rfl H (fun r s1 H => ?_)
  obtain ⟨x2, rfl, H⟩ := H
  show gs_E L (d + 1) 2834 19 [gp_r (some 1), gp_i v1, gp_i v2] [gp_i x2] s1 K
  exact gs_E.ret (r := (some (gp_i x2))) rfl H

set_option maxRecDepth 100000 in
/-- GatheredPoints.begin, pc 48 -/
theorem s_2834_48 {L d : Nat} {K : Option gV → gH → Prop} {s : gH} (v1 : Int) (v2 : Int) (w0 : Int) (H : K (some (gp_i w0)) s) : gs_E L (d + 1) 2834 48 [gp_r (some 1), gp_i v1, gp_i v2] [gp_i w0] s K := by
  exact gs_E.ret (r := (some (gp_i w0))) rfl H

set_option maxRecDepth 100000 in
/-- GatheredPoints.go, pc 0 -/
theorem s_2835_e {L d : Nat} {K : Option gV → gH → Prop} {s : gH} (p0 : Int) (p1 : Int) (H : (((gp_I s 57 1) = 0 → gs_C L d 2855 2 [gp_r (some 1), gp_i 2] s (fun r s12 => ∃ x13, r = some (gp_i x13) ∧ K (some (gp_i x13)) s12)) ∧ (¬ (gp_I s 57 1) = 0 → gs_C L d 514 1 [gp_r (some 57)] s (fun r s1 => ∃ x2, r = some (gp_i x2) ∧ ((x2 = 0 → gs_C L d 515 4 [gp_r (some 57), gp_i p0, gp_i p1] s1 (fun r s3 => ∃ x4, r = some (gp_i x4) ∧ ((x4 < 0 → gs_C L d 2855 2 [gp_r (some 1), gp_i 1] s3 (fun r s8 => ∃ x9, r = some (gp_i x9) ∧ K (some (gp_i x9)) s8)) ∧ (¬ x4 < 0 → gs_C L d 516 3 [gp_r (some 57), gp_i x4] s3 (fun r s5 => r = none ∧ gs_C L d 514 1 [gp_r (some 57)] s5 (fun r s6 => ∃ x7, r = some (gp_i x7) ∧ ((x7 = 0 → gs_E L (d + 1) 2835 75 [gp_r (some 1), gp_i p0, gp_i p1, gp_i x4] [gp_i 0] s6 K) ∧ (¬ x7 = 0 → gs_E L (d + 1) 2835 75 [gp_r (some 1), gp_i p0, gp_i p1, gp_i x4] [gp_i 1] s6 K)))))))) ∧ (¬ x2 = 0 → gs_C L d 2855 2 [gp_r (some 1), gp_i 3] s1 (fun r s10 => ∃ x11, r = some (gp_i x11) ∧ K (some (gp_i x11)) s10))))))) : gs_C L (d + 1) 2835 4 [gp_r (some 1), gp_i p0, gp_i p1] s K := by
  show gs_E L (d + 1) 2835 0 [gp_r (some 1), gp_i p0, gp_i p1, gp_n] [] s K
  refine gs_E.stp (pc' := 7) (ls' := [gp_r (some 1), gp_i p0, gp_i p1, gp_n]) (st' := [gp_i (gp_I s 57 1)]) (s' := s) 3 rfl ?_
  refine gs_E.br (c := ¬ (gp_I s 57 1) = 0) (p1 := 16) (p2 := 10) (l1 := [gp_r (some 1), gp_i p0, gp_i p1, gp_n]) (l2 := [gp_r (some 1), gp_i p0, gp_i p1, gp_n]) (s1 := []) (s2 := []) rfl gs_b2 (fun hc => ?_) (fun hc => ?_)
  · replace H := H.2 hc
    refine gs_E.stp (pc' := 20) (ls' := [gp_r (some 1), gp_i p0, gp_i p1, gp_n]) (st' := [gp_r (some 57)]) (s' := s) 2 rfl ?_
    refine gs_E.call (args := [gp_r (some 57)]) (m := 1) (y' := 514) (st' := []) rfl H (fun r s1 H => ?_)
    obtain ⟨x2, rfl, H⟩ := H
    show gs_E L (d + 1) 2835 23 [gp_r (some 1), gp_i p0, gp_i p1, gp_n] [gp_i x2] s1 K
    refine gs_E.br (c := x2 = 0) (p1 := 32) (p2 := 26) (l1 := [gp_r (some 1), gp_i p0, gp_i p1, gp_n]) (l2 := [gp_r (some 1), gp_i p0, gp_i p1, gp_n]) (s1 := []) (s2 := []) rfl gs_b1 (fun hc => ?_) (fun hc => ?_)
    · replace H := H.1 hc
      refine gs_E.stp (pc' := 38) (ls' := [gp_r (some 1), gp_i p0, gp_i p1, gp_n]) (st' := [gp_i p1, gp_i p0, gp_r (some 57)]) (s' := s1) 4 rfl ?_
      refine gs_E.call (args := [gp_r (some 57), gp_i p0, gp_i p1]) (m := 4) (y' := 515) (st' := []) rfl H (fun r s3 H => ?_)
      obtain ⟨x4, rfl, H⟩ := H
      show gs_E L (d + 1) 2835 41 [gp_r (some 1), gp_i p0, gp_i p1, gp_n] [gp_i x4] s3 K
      refine gs_E.stp (pc' := 43) (ls' := [gp_r (some 1), gp_i p0, gp_i p1, gp_i x4]) (st' := [gp_i x4]) (s' := s3) 2 rfl ?_
      refine gs_E.br (c := ¬ x4 < 0) (p1 := 52) (p2 := 46) (l1 := [gp_r (some 1), gp_i p0, gp_i p1, gp_i x4]) (l2 := [gp_r (some 1), gp_i p0, gp_i p1, gp_i x4]) (s1 := []) (s2 := []) rfl gs_b2 (fun hc => ?_) (fun hc => ?_)
      · replace H := H.2 hc
        refine gs_E.stp (pc' := 57) (ls' := [gp_r (some 1), gp_i p0, gp_i p1, gp_i x4]) (st' := [gp_i x4, gp_r (some 57)]) (s' := s3) 3 rfl ?_
        refine gs_E.call (args := [gp_r (some 57), gp_i x4]) (m := 3) (y' := 516) (st' := []) rfl H (fun r s5 H => ?_)
        obtain ⟨rfl, H⟩ := H
        show gs_E L (d + 1) 2835 60 [gp_r (some 1), gp_i p0, gp_i p1, gp_i x4] [] s5 K
        refine gs_E.stp (pc' := 64) (ls' := [gp_r (some 1), gp_i p0, gp_i p1, gp_i x4]) (st' := [gp_r (some 57)]) (s' := s5) 2 rfl ?_
        refine gs_E.call (args := [gp_r (some 57)]) (m := 1) (y' := 514) (st' := []) rfl H (fun r s6 H => ?_)
        obtain ⟨x7, rfl, H⟩ := H
        show gs_E L (d + 1) 2835 67 [gp_r (some 1), gp_i p0, gp_i p1, gp_i x4] [gp_i x7] s6 K
        refine gs_E.br (c := x7 = 0) (p1 := 74) (p2 := 70) (l1 := [gp_r (some 1), gp_i p0, gp_i p1, gp_i x4]) (l2 := [gp_r (some 1), gp_i p0, gp_i p1, gp_i x4]) (s1 := []) (s2 := []) rfl gs_b1 (fun hc => ?_) (fun hc => ?_)
        · replace H := H.1 hc
          refine gs_E.stp (pc' := 75) (ls' := [gp_r (some 1), gp_i p0, gp_i p1, gp_i x4]) (st' := [gp_i 0]) (s' := s6) 1 rfl ?_
          exact H
        · replace H := H.2 hc
          refine gs_E.stp (pc' := 75) (ls' := [gp_r (some 1), gp_i p0, gp_i p1, gp_i x4]) (st' := [gp_i 1]) (s' := s6) 2 rfl ?_
          exact H
      · replace H := H.1 (Decidable.byContradiction hc)
        refine gs_E.stp (pc' := 48) (ls' := [gp_r (some 1), gp_i p0, gp_i p1, gp_i x4]) (st' := [gp_i 1, gp_r (some 1)]) (s' := s3) 2 rfl ?_
        refine gs_E.call (args := [gp_r (some 1), gp_i 1]) (m := 2) (y' := 2855) (st' := []) rfl H (fun r s8 H => ?_)
        obtain ⟨x9, rfl, H⟩ := H
        show gs_E L (d + 1) 2835 51 [gp_r (some 1), gp_i p0, gp_i p1, gp_i x4] [gp_i x9] s8 K
        exact gs_E.ret (r := (some (gp_i x9))) rfl H
    · replace H := H.2 hc
      refine gs_E.stp (pc' := 28) (ls' := [gp_r (some 1), gp_i p0, gp_i p1, gp_n]) (st' := [gp_i 3, gp_r (some 1)]) (s' := s1) 2 rfl ?_
      refine gs_E.call (args := [gp_r (some 1), gp_i 3]) (m := 2) (y' := 2855) (st' := []) rfl H (fun r s10 H => ?_)
      obtain ⟨x11, rfl, H⟩ := H
      show gs_E L (d + 1) 2835 31 [gp_r (some 1), gp_i p0, gp_i p1, gp_n] [gp_i x11] s10 K
      exact gs_E.ret (r := (some (gp_i x11))) rfl H
  · replace H := H.1 (Decidable.byContradiction hc)
    refine gs_E.stp (pc' := 12) (ls' := [gp_r (some 1), gp_i p0, gp_i p1, gp_n]) (st' := [gp_i 2, gp_r (some 1)]) (s' := s) 2 rfl ?_
    refine gs_E.call (args := [gp_r (some 1), gp_i 2]) (m := 2) (y' := 2855) (st' := []) rfl H (fun r s12 H => ?_)
    obtain ⟨x13, rfl, H⟩ := H
    show gs_E L (d + 1) 2835 15 [gp_r (some 1), gp_i p0, gp_i p1, gp_n] [gp_i x13] s12 K
    exact gs_E.ret (r := (some (gp_i x13))) rfl H

set_option maxRecDepth 100000 in
/-- GatheredPoints.go, pc 75 -/
theorem s_2835_75 {L d : Nat} {K : Option gV → gH → Prop} {s : gH} (v1 : Int) (v2 : Int) (v3 : Int) (w0 : Int) (H : K (some (gp_i w0)) s) : gs_E L (d + 1) 2835 75 [gp_r (some 1), gp_i v1, gp_i v2, gp_i v3] [gp_i w0] s K := by
  exact gs_E.ret (r := (some (gp_i w0))) rfl H

set_option maxRecDepth 100000 in
/-- GatheredPoints.play, pc 0 -/
theorem s_2836_e {L d : Nat} {K : Option gV → gH → Prop} {s : gH} (p0 : Int) (H : ((p0 < 1 → gs_E L (d + 1) 2836 11 [gp_r (some 1), gp_i p0, gp_n] [] s K) ∧ (¬ p0 < 1 → ((20 < p0 → gs_E L (d + 1) 2836 11 [gp_r (some 1), gp_i p0, gp_n] [] s K) ∧ (¬ 20 < p0 → (((gp_I s 57 1) = 0 → gs_C L d 2855 2 [gp_r (some 1), gp_i 2] s (fun r s1 => ∃ x2, r = some (gp_i x2) ∧ K (some (gp_i x2)) s1)) ∧ (¬ (gp_I s 57 1) = 0 → gs_E L (d + 1) 2836 35 [gp_r (some 1), gp_i p0, gp_i 0] [] s K))))))) : gs_C L (d + 1) 2836 3 [gp_r (some 1), gp_i p0] s K := by
  show gs_E L (d + 1) 2836 0 [gp_r (some 1), gp_i p0, gp_n] [] s K
  refine gs_E.stp (pc' := 2) (ls' := [gp_r (some 1), gp_i p0, gp_n]) (st' := [gp_i 1, gp_i p0]) (s' := s) 2 rfl ?_
  refine gs_E.br (c := p0 < 1) (p1 := 11) (p2 := 5) (l1 := [gp_r (some 1), gp_i p0, gp_n]) (l2 := [gp_r (some 1), gp_i p0, gp_n]) (s1 := []) (s2 := []) rfl gs_b1 (fun hc => ?_) (fun hc => ?_)
  · replace H := H.1 hc
    exact H
  · replace H := H.2 hc
    refine gs_E.stp (pc' := 8) (ls' := [gp_r (some 1), gp_i p0, gp_n]) (st' := [gp_i 20, gp_i p0]) (s' := s) 2 rfl ?_
    refine gs_E.br (c := ¬ 20 < p0) (p1 := 17) (p2 := 11) (l1 := [gp_r (some 1), gp_i p0, gp_n]) (l2 := [gp_r (some 1), gp_i p0, gp_n]) (s1 := []) (s2 := []) rfl gs_b2 (fun hc => ?_) (fun hc => ?_)
    · replace H := H.2 hc
      refine gs_E.stp (pc' := 24) (ls' := [gp_r (some 1), gp_i p0, gp_n]) (st' := [gp_i (gp_I s 57 1)]) (s' := s) 3 rfl ?_
      refine gs_E.br (c := ¬ (gp_I s 57 1) = 0) (p1 := 33) (p2 := 27) (l1 := [gp_r (some 1), gp_i p0, gp_n]) (l2 := [gp_r (some 1), gp_i p0, gp_n]) (s1 := []) (s2 := []) rfl gs_b2 (fun hc => ?_) (fun hc => ?_)
      · replace H := H.2 hc
        refine gs_E.stp (pc' := 35) (ls' := [gp_r (some 1), gp_i p0, gp_i 0]) (st' := []) (s' := s) 2 rfl ?_
        exact H
      · replace H := H.1 (Decidable.byContradiction hc)
        refine gs_E.stp (pc' := 29) (ls' := [gp_r (some 1), gp_i p0, gp_n]) (st' := [gp_i 2, gp_r (some 1)]) (s' := s) 2 rfl ?_
        refine gs_E.call (args := [gp_r (some 1), gp_i 2]) (m := 2) (y' := 2855) (st' := []) rfl H (fun r s1 H => ?_)
        obtain ⟨x2, rfl, H⟩ := H
        show gs_E L (d + 1) 2836 32 [gp_r (some 1), gp_i p0, gp_n] [gp_i x2] s1 K
        exact gs_E.ret (r := (some (gp_i x2))) rfl H
    · replace H := H.1 (Decidable.byContradiction hc)
      exact H

set_option maxRecDepth 100000 in
/-- GatheredPoints.play, pc 11 -/
theorem s_2836_11 {L d : Nat} {K : Option gV → gH → Prop} {s : gH} (v1 : Int) (v2 : gV) (H : gs_C L d 2855 2 [gp_r (some 1), gp_i 1] s (fun r s1 => ∃ x2, r = some (gp_i x2) ∧ K (some (gp_i x2)) s1)) : gs_E L (d + 1) 2836 11 [gp_r (some 1), gp_i v1, v2] [] s K := by
  refine gs_E.stp (pc' := 13) (ls' := [gp_r (some 1), gp_i v1, v2]) (st' := [gp_i 1, gp_r (some 1)]) (s' := s) 2 rfl ?_
  refine gs_E.call (args := [gp_r (some 1), gp_i 1]) (m := 2) (y' := 2855) (st' := []) rfl H (fun r s1 H => ?_)
  obtain ⟨x2, rfl, H⟩ := H
  show gs_E L (d + 1) 2836 16 [gp_r (some 1), gp_i v1, v2] [gp_i x2] s1 K
  exact gs_E.ret (r := (some (gp_i x2))) rfl H

set_option maxRecDepth 100000 in
/-- GatheredPoints.play, pc 35 -/
theorem s_2836_35 {L d : Nat} {K : Option gV → gH → Prop} {s : gH} (v1 : Int) (v2 : Int) (H : ((v2 < v1 → gs_C L d 514 1 [gp_r (some 57)] s (fun r s1 => ∃ x2, r = some (gp_i x2) ∧ ((x2 = 0 → gs_C L d 2057 10 [gp_r (some 60), gp_i (gp_I s1 57 2)] s1 (fun r s3 => ∃ x4, r = some (gp_i x4) ∧ gs_C L d 516 3 [gp_r (some 57), gp_i x4] s3 (fun r s5 => r = none ∧ gs_E L (d + 1) 2836 35 [gp_r (some 1), gp_i v1, gp_i (gp_wr (v2 + 1))] [] s5 K))) ∧ (¬ x2 = 0 → gs_E L (d + 1) 2836 80 [gp_r (some 1), gp_i v1, gp_i v2] [] s1 K)))) ∧ (¬ v2 < v1 → gs_E L (d + 1) 2836 80 [gp_r (some 1), gp_i v1, gp_i v2] [] s K))) : gs_E L (d + 1) 2836 35 [gp_r (some 1), gp_i v1, gp_i v2] [] s K := by
  refine gs_E.stp (pc' := 37) (ls' := [gp_r (some 1), gp_i v1, gp_i v2]) (st' := [gp_i v1, gp_i v2]) (s' := s) 2 rfl ?_
  refine gs_E.br (c := ¬ v2 < v1) (p1 := 80) (p2 := 40) (l1 := [gp_r (some 1), gp_i v1, gp_i v2]) (l2 := [gp_r (some 1), gp_i v1, gp_i v2]) (s1 := []) (s2 := []) rfl gs_b2 (fun hc => ?_) (fun hc => ?_)
  · replace H := H.2 hc
    exact H
  · replace H := H.1 (Decidable.byContradiction hc)
    refine gs_E.stp (pc' := 44) (ls' := [gp_r (some 1), gp_i v1, gp_i v2]) (st' := [gp_r (some 57)]) (s' := s) 2 rfl ?_
    refine gs_E.call (args := [gp_r (some 57)]) (m := 1) (y' := 514) (st' := []) rfl H (fun r s1 H => ?_)
    obtain ⟨x2, rfl, H⟩ := H
    show gs_E L (d + 1) 2836 47 [gp_r (some 1), gp_i v1, gp_i v2] [gp_i x2] s1 K
    refine gs_E.br (c := ¬ x2 = 0) (p1 := 80) (p2 := 50) (l1 := [gp_r (some 1), gp_i v1, gp_i v2]) (l2 := [gp_r (some 1), gp_i v1, gp_i v2]) (s1 := []) (s2 := []) rfl gs_b2 (fun hc => ?_) (fun hc => ?_)
    · replace H := H.2 hc
      exact H
    · replace H := H.1 (Decidable.byContradiction hc)
      refine gs_E.stp (pc' := 68) (ls' := [gp_r (some 1), gp_i v1, gp_i v2]) (st' := [gp_i (gp_I s1 57 2), gp_r (some 60), gp_r (some 57)]) (s' := s1) 8 rfl ?_
      refine gs_E.call (args := [gp_r (some 60), gp_i (gp_I s1 57 2)]) (m := 10) (y' := 2057) (st' := [gp_r (some 57)]) rfl H (fun r s3 H => ?_)
      obtain ⟨x4, rfl, H⟩ := H
      show gs_E L (d + 1) 2836 71 [gp_r (some 1), gp_i v1, gp_i v2] [gp_i x4, gp_r (some 57)] s3 K
      refine gs_E.call (args := [gp_r (some 57), gp_i x4]) (m := 3) (y' := 516) (st' := []) rfl H (fun r s5 H => ?_)
      obtain ⟨rfl, H⟩ := H
      show gs_E L (d + 1) 2836 74 [gp_r (some 1), gp_i v1, gp_i v2] [] s5 K
      refine gs_E.stp (pc' := 35) (ls' := [gp_r (some 1), gp_i v1, gp_i (gp_wr (v2 + 1))]) (st' := []) (s' := s5) 2 rfl ?_
      exact H

set_option maxRecDepth 100000 in
/-- GatheredPoints.play, pc 80 -/
theorem s_2836_80 {L d : Nat} {K : Option gV → gH → Prop} {s : gH} (v1 : Int) (v2 : Int) (H : K (some (gp_i v2)) s) : gs_E L (d + 1) 2836 80 [gp_r (some 1), gp_i v1, gp_i v2] [] s K := by
  refine gs_E.stp (pc' := 81) (ls' := [gp_r (some 1), gp_i v1, gp_i v2]) (st' := [gp_i v2]) (s' := s) 1 rfl ?_
  exact gs_E.ret (r := (some (gp_i v2))) rfl H

set_option maxRecDepth 100000 in
/-- GatheredPoints.loose, pc 0 -/
theorem s_2837_e {L d : Nat} {K : Option gV → gH → Prop} {s : gH} (p0 : Int) (H : ((p0 < 1 → gs_E L (d + 1) 2837 11 [gp_r (some 1), gp_i p0, gp_n] [] s K) ∧ (¬ p0 < 1 → ((20 < p0 → gs_E L (d + 1) 2837 11 [gp_r (some 1), gp_i p0, gp_n] [] s K) ∧ (¬ 20 < p0 → (((gp_I s 57 1) = 0 → gs_C L d 2855 2 [gp_r (some 1), gp_i 2] s (fun r s1 => ∃ x2, r = some (gp_i x2) ∧ K (some (gp_i x2)) s1)) ∧ (¬ (gp_I s 57 1) = 0 → gs_E L (d + 1) 2837 35 [gp_r (some 1), gp_i p0, gp_i 0] [] s K))))))) : gs_C L (d + 1) 2837 3 [gp_r (some 1), gp_i p0] s K := by
  show gs_E L (d + 1) 2837 0 [gp_r (some 1), gp_i p0, gp_n] [] s K
  refine gs_E.stp (pc' := 2) (ls' := [gp_r (some 1), gp_i p0, gp_n]) (st' := [gp_i 1, gp_i p0]) (s' := s) 2 rfl ?_
  refine gs_E.br (c := p0 < 1) (p1 := 11) (p2 := 5) (l1 := [gp_r (some 1), gp_i p0, gp_n]) (l2 := [gp_r (some 1), gp_i p0, gp_n]) (s1 := []) (s2 := []) rfl gs_b1 (fun hc => ?_) (fun hc => ?_)
  · replace H := H.1 hc
    exact H
  · replace H := H.2 hc
    refine gs_E.stp (pc' := 8) (ls' := [gp_r (some 1), gp_i p0, gp_n]) (st' := [gp_i 20, gp_i p0]) (s' := s) 2 rfl ?_
    refine gs_E.br (c := ¬ 20 < p0) (p1 := 17) (p2 := 11) (l1 := [gp_r (some 1), gp_i p0, gp_n]) (l2 := [gp_r (some 1), gp_i p0, gp_n]) (s1 := []) (s2 := []) rfl gs_b2 (fun hc => ?_) (fun hc => ?_)
    · replace H := H.2 hc
      refine gs_E.stp (pc' := 24) (ls' := [gp_r (some 1), gp_i p0, gp_n]) (st' := [gp_i (gp_I s 57 1)]) (s' := s) 3 rfl ?_
      refine gs_E.br (c := ¬ (gp_I s 57 1) = 0) (p1 := 33) (p2 := 27) (l1 := [gp_r (some 1), gp_i p0, gp_n]) (l2 := [gp_r (some 1), gp_i p0, gp_n]) (s1 := []) (s2 := []) rfl gs_b2 (fun hc => ?_) (fun hc => ?_)
      · replace H := H.2 hc
        refine gs_E.stp (pc' := 35) (ls' := [gp_r (some 1), gp_i p0, gp_i 0]) (st' := []) (s' := s) 2 rfl ?_
        exact H
      · replace H := H.1 (Decidable.byContradiction hc)
        refine gs_E.stp (pc' := 29) (ls' := [gp_r (some 1), gp_i p0, gp_n]) (st' := [gp_i 2, gp_r (some 1)]) (s' := s) 2 rfl ?_
        refine gs_E.call (args := [gp_r (some 1), gp_i 2]) (m := 2) (y' := 2855) (st' := []) rfl H (fun r s1 H => ?_)
        obtain ⟨x2, rfl, H⟩ := H
        show gs_E L (d + 1) 2837 32 [gp_r (some 1), gp_i p0, gp_n] [gp_i x2] s1 K
        exact gs_E.ret (r := (some (gp_i x2))) rfl H
    · replace H := H.1 (Decidable.byContradiction hc)
      exact H

set_option maxRecDepth 100000 in
/-- GatheredPoints.loose, pc 11 -/
theorem s_2837_11 {L d : Nat} {K : Option gV → gH → Prop} {s : gH} (v1 : Int) (v2 : gV) (H : gs_C L d 2855 2 [gp_r (some 1), gp_i 1] s (fun r s1 => ∃ x2, r = some (gp_i x2) ∧ K (some (gp_i x2)) s1)) : gs_E L (d + 1) 2837 11 [gp_r (some 1), gp_i v1, v2] [] s K := by
  refine gs_E.stp (pc' := 13) (ls' := [gp_r (some 1), gp_i v1, v2]) (st' := [gp_i 1, gp_r (some 1)]) (s' := s) 2 rfl ?_
  refine gs_E.call (args := [gp_r (some 1), gp_i 1]) (m := 2) (y' := 2855) (st' := []) rfl H (fun r s1 H => ?_)
  obtain ⟨x2, rfl, H⟩ := H
  show gs_E L (d + 1) 2837 16 [gp_r (some 1), gp_i v1, v2] [gp_i x2] s1 K
  exact gs_E.ret (r := (some (gp_i x2))) rfl H

set_option maxRecDepth 100000 in
/-- GatheredPoints.loose, pc 35 -/
theorem s_2837_35 {L d : Nat} {K : Option gV → gH → Prop} {s : gH} (v1 : Int) (v2 : Int) (H : ((v2 < v1 → gs_C L d 514 1 [gp_r (some 57)] s (fun r s1 => ∃ x2, r = some (gp_i x2) ∧ ((x2 = 0 → (∀ s3, s3 = gp_wI s1 1 7 (gp_wr ((gp_wr ((gp_I s1 1 7) * 1103515245)) + 12345)) → gs_C L d 2058 7 [gp_r (some 60), gp_i (gp_I s3 57 2), gp_i (gp_ushr (gp_I s3 1 7) 8)] s3 (fun r s4 => ∃ x5, r = some (gp_i x5) ∧ gs_C L d 516 3 [gp_r (some 57), gp_i x5] s4 (fun r s6 => r = none ∧ gs_E L (d + 1) 2837 35 [gp_r (some 1), gp_i v1, gp_i (gp_wr (v2 + 1))] [] s6 K)))) ∧ (¬ x2 = 0 → gs_E L (d + 1) 2837 103 [gp_r (some 1), gp_i v1, gp_i v2] [] s1 K)))) ∧ (¬ v2 < v1 → gs_E L (d + 1) 2837 103 [gp_r (some 1), gp_i v1, gp_i v2] [] s K))) : gs_E L (d + 1) 2837 35 [gp_r (some 1), gp_i v1, gp_i v2] [] s K := by
  refine gs_E.stp (pc' := 37) (ls' := [gp_r (some 1), gp_i v1, gp_i v2]) (st' := [gp_i v1, gp_i v2]) (s' := s) 2 rfl ?_
  refine gs_E.br (c := ¬ v2 < v1) (p1 := 103) (p2 := 40) (l1 := [gp_r (some 1), gp_i v1, gp_i v2]) (l2 := [gp_r (some 1), gp_i v1, gp_i v2]) (s1 := []) (s2 := []) rfl gs_b2 (fun hc => ?_) (fun hc => ?_)
  · replace H := H.2 hc
    exact H
  · replace H := H.1 (Decidable.byContradiction hc)
    refine gs_E.stp (pc' := 44) (ls' := [gp_r (some 1), gp_i v1, gp_i v2]) (st' := [gp_r (some 57)]) (s' := s) 2 rfl ?_
    refine gs_E.call (args := [gp_r (some 57)]) (m := 1) (y' := 514) (st' := []) rfl H (fun r s1 H => ?_)
    obtain ⟨x2, rfl, H⟩ := H
    show gs_E L (d + 1) 2837 47 [gp_r (some 1), gp_i v1, gp_i v2] [gp_i x2] s1 K
    refine gs_E.br (c := ¬ x2 = 0) (p1 := 103) (p2 := 50) (l1 := [gp_r (some 1), gp_i v1, gp_i v2]) (l2 := [gp_r (some 1), gp_i v1, gp_i v2]) (s1 := []) (s2 := []) rfl gs_b2 (fun hc => ?_) (fun hc => ?_)
    · replace H := H.2 hc
      exact H
    · replace H := H.1 (Decidable.byContradiction hc)
      refine gs_E.stp (pc' := 66) (ls' := [gp_r (some 1), gp_i v1, gp_i v2]) (st' := []) (s' := gp_wI s1 1 7 (gp_wr ((gp_wr ((gp_I s1 1 7) * 1103515245)) + 12345))) 8 rfl ?_
      replace H := H _ rfl
      generalize gp_wI s1 1 7 (gp_wr ((gp_wr ((gp_I s1 1 7) * 1103515245)) + 12345)) = s3 at H ⊢
      refine gs_E.stp (pc' := 91) (ls' := [gp_r (some 1), gp_i v1, gp_i v2]) (st' := [gp_i (gp_ushr (gp_I s3 1 7) 8), gp_i (gp_I s3 57 2), gp_r (some 60), gp_r (some 57)]) (s' := s3) 12 rfl ?_
      refine gs_E.call (args := [gp_r (some 60), gp_i (gp_I s3 57 2), gp_i (gp_ushr (gp_I s3 1 7) 8)]) (m := 7) (y' := 2058) (st' := [gp_r (some 57)]) rfl H (fun r s4 H => ?_)
      obtain ⟨x5, rfl, H⟩ := H
      show gs_E L (d + 1) 2837 94 [gp_r (some 1), gp_i v1, gp_i v2] [gp_i x5, gp_r (some 57)] s4 K
      refine gs_E.call (args := [gp_r (some 57), gp_i x5]) (m := 3) (y' := 516) (st' := []) rfl H (fun r s6 H => ?_)
      obtain ⟨rfl, H⟩ := H
      show gs_E L (d + 1) 2837 97 [gp_r (some 1), gp_i v1, gp_i v2] [] s6 K
      refine gs_E.stp (pc' := 35) (ls' := [gp_r (some 1), gp_i v1, gp_i (gp_wr (v2 + 1))]) (st' := []) (s' := s6) 2 rfl ?_
      exact H

set_option maxRecDepth 100000 in
/-- GatheredPoints.loose, pc 103 -/
theorem s_2837_103 {L d : Nat} {K : Option gV → gH → Prop} {s : gH} (v1 : Int) (v2 : Int) (H : K (some (gp_i v2)) s) : gs_E L (d + 1) 2837 103 [gp_r (some 1), gp_i v1, gp_i v2] [] s K := by
  refine gs_E.stp (pc' := 104) (ls' := [gp_r (some 1), gp_i v1, gp_i v2]) (st' := [gp_i v2]) (s' := s) 1 rfl ?_
  exact gs_E.ret (r := (some (gp_i v2))) rfl H

set_option maxRecDepth 100000 in
/-- GatheredPoints.back, pc 0 -/
theorem s_2838_e {L d : Nat} {K : Option gV → gH → Prop} {s : gH}  (H : (((gp_I s 57 1) = 0 → gs_E L (d + 1) 2838 20 [gp_r (some 1)] [] s K) ∧ (¬ (gp_I s 57 1) = 0 → (((gp_I s 57 3) = 0 → gs_E L (d + 1) 2838 20 [gp_r (some 1)] [] s K) ∧ (¬ (gp_I s 57 3) = 0 → gs_C L d 517 1 [gp_r (some 57)] s (fun r s1 => r = none ∧ K (some (gp_i (gp_I s1 57 3))) s1)))))) : gs_C L (d + 1) 2838 1 [gp_r (some 1)] s K := by
  show gs_E L (d + 1) 2838 0 [gp_r (some 1)] [] s K
  refine gs_E.stp (pc' := 7) (ls' := [gp_r (some 1)]) (st' := [gp_i (gp_I s 57 1)]) (s' := s) 3 rfl ?_
  refine gs_E.br (c := (gp_I s 57 1) = 0) (p1 := 20) (p2 := 10) (l1 := [gp_r (some 1)]) (l2 := [gp_r (some 1)]) (s1 := []) (s2 := []) rfl gs_b1 (fun hc => ?_) (fun hc => ?_)
  · replace H := H.1 hc
    exact H
  · replace H := H.2 hc
    refine gs_E.stp (pc' := 17) (ls' := [gp_r (some 1)]) (st' := [gp_i (gp_I s 57 3)]) (s' := s) 3 rfl ?_
    refine gs_E.br (c := ¬ (gp_I s 57 3) = 0) (p1 := 26) (p2 := 20) (l1 := [gp_r (some 1)]) (l2 := [gp_r (some 1)]) (s1 := []) (s2 := []) rfl gs_b2 (fun hc => ?_) (fun hc => ?_)
    · replace H := H.2 hc
      refine gs_E.stp (pc' := 30) (ls' := [gp_r (some 1)]) (st' := [gp_r (some 57)]) (s' := s) 2 rfl ?_
      refine gs_E.call (args := [gp_r (some 57)]) (m := 1) (y' := 517) (st' := []) rfl H (fun r s1 H => ?_)
      obtain ⟨rfl, H⟩ := H
      show gs_E L (d + 1) 2838 33 [gp_r (some 1)] [] s1 K
      refine gs_E.stp (pc' := 40) (ls' := [gp_r (some 1)]) (st' := [gp_i (gp_I s1 57 3)]) (s' := s1) 3 rfl ?_
      exact gs_E.ret (r := (some (gp_i (gp_I s1 57 3)))) rfl H
    · replace H := H.1 (Decidable.byContradiction hc)
      exact H

set_option maxRecDepth 100000 in
/-- GatheredPoints.back, pc 20 -/
theorem s_2838_20 {L d : Nat} {K : Option gV → gH → Prop} {s : gH}  (H : gs_C L d 2855 2 [gp_r (some 1), gp_i 2] s (fun r s1 => ∃ x2, r = some (gp_i x2) ∧ K (some (gp_i x2)) s1)) : gs_E L (d + 1) 2838 20 [gp_r (some 1)] [] s K := by
  refine gs_E.stp (pc' := 22) (ls' := [gp_r (some 1)]) (st' := [gp_i 2, gp_r (some 1)]) (s' := s) 2 rfl ?_
  refine gs_E.call (args := [gp_r (some 1), gp_i 2]) (m := 2) (y' := 2855) (st' := []) rfl H (fun r s1 H => ?_)
  obtain ⟨x2, rfl, H⟩ := H
  show gs_E L (d + 1) 2838 25 [gp_r (some 1)] [gp_i x2] s1 K
  exact gs_E.ret (r := (some (gp_i x2))) rfl H

set_option maxRecDepth 100000 in
/-- GatheredPoints.matchOf, pc 0 -/
theorem s_2839_e {L d : Nat} {K : Option gV → gH → Prop} {s : gH} (p0 : Int) (H : ((p0 < 0 → gs_E L (d + 1) 2839 9 [gp_r (some 1), gp_i p0] [] s K) ∧ (¬ p0 < 0 → ((5 < p0 → gs_E L (d + 1) 2839 9 [gp_r (some 1), gp_i p0] [] s K) ∧ (¬ 5 < p0 → (((gp_I s 57 1) = 0 → gs_C L d 2855 2 [gp_r (some 1), gp_i 2] s (fun r s11 => ∃ x12, r = some (gp_i x12) ∧ K (some (gp_i x12)) s11)) ∧ (¬ (gp_I s 57 1) = 0 → ((p0 = 0 → K (some (gp_i (gp_I s 57 2))) s) ∧ (p0 = 1 → K (some (gp_i (gp_I s 57 3))) s) ∧ (p0 = 2 → gs_C L d 514 1 [gp_r (some 57)] s (fun r s1 => ∃ x2, r = some (gp_i x2) ∧ ((x2 = 0 → gs_E L (d + 1) 2839 99 [gp_r (some 1), gp_i p0] [gp_i 0] s1 K) ∧ (¬ x2 = 0 → gs_E L (d + 1) 2839 99 [gp_r (some 1), gp_i p0] [gp_i 1] s1 K)))) ∧ (p0 = 3 → gs_C L d 514 1 [gp_r (some 57)] s (fun r s3 => ∃ x4, r = some (gp_i x4) ∧ ((x4 = 0 → gs_C L d 2855 2 [gp_r (some 1), gp_i 3] s3 (fun r s5 => ∃ x6, r = some (gp_i x6) ∧ gs_E L (d + 1) 2839 135 [gp_r (some 1), gp_i p0] [gp_i x6] s5 K)) ∧ (¬ x4 = 0 → gs_C L d 2055 4 [gp_r (some 60), gp_i (gp_I s3 57 2)] s3 (fun r s7 => ∃ x8, r = some (gp_i x8) ∧ gs_E L (d + 1) 2839 135 [gp_r (some 1), gp_i p0] [gp_i x8] s7 K))))) ∧ (p0 = 4 → gs_C L d 2056 2 [gp_r (some 60), gp_i (gp_I s 57 2)] s (fun r s9 => ∃ x10, r = some (gp_i x10) ∧ K (some (gp_i x10)) s9)) ∧ ((p0 < 0 ∨ 4 < p0) → K (some (gp_i (gp_I s 60 2))) s))))))))) : gs_C L (d + 1) 2839 2 [gp_r (some 1), gp_i p0] s K := by
  show gs_E L (d + 1) 2839 0 [gp_r (some 1), gp_i p0] [] s K
  refine gs_E.stp (pc' := 1) (ls' := [gp_r (some 1), gp_i p0]) (st' := [gp_i p0]) (s' := s) 1 rfl ?_
  refine gs_E.br (c := p0 < 0) (p1 := 9) (p2 := 4) (l1 := [gp_r (some 1), gp_i p0]) (l2 := [gp_r (some 1), gp_i p0]) (s1 := []) (s2 := []) rfl gs_b1 (fun hc => ?_) (fun hc => ?_)
  · replace H := H.1 hc
    exact H
  · replace H := H.2 hc
    refine gs_E.stp (pc' := 6) (ls' := [gp_r (some 1), gp_i p0]) (st' := [gp_i 5, gp_i p0]) (s' := s) 2 rfl ?_
    refine gs_E.br (c := ¬ 5 < p0) (p1 := 15) (p2 := 9) (l1 := [gp_r (some 1), gp_i p0]) (l2 := [gp_r (some 1), gp_i p0]) (s1 := []) (s2 := []) rfl gs_b2 (fun hc => ?_) (fun hc => ?_)
    · replace H := H.2 hc
      refine gs_E.stp (pc' := 22) (ls' := [gp_r (some 1), gp_i p0]) (st' := [gp_i (gp_I s 57 1)]) (s' := s) 3 rfl ?_
      refine gs_E.br (c := ¬ (gp_I s 57 1) = 0) (p1 := 31) (p2 := 25) (l1 := [gp_r (some 1), gp_i p0]) (l2 := [gp_r (some 1), gp_i p0]) (s1 := []) (s2 := []) rfl gs_b2 (fun hc => ?_) (fun hc => ?_)
      · replace H := H.2 hc
        refine gs_E.stp (pc' := 32) (ls' := [gp_r (some 1), gp_i p0]) (st' := [gp_i p0]) (s' := s) 1 rfl ?_
        have hsw : (p0 = 0 ∨ p0 = 1 ∨ p0 = 2 ∨ p0 = 3 ∨ p0 = 4) ∨ (p0 < 0 ∨ 4 < p0) := by omega
        rcases hsw with (hsw | hsw | hsw | hsw | hsw) | hsw
        · replace H := H.1 hsw
          refine gs_E.swi (v := 0) (pc' := 68) (ls' := [gp_r (some 1), gp_i p0]) (st' := []) hsw rfl ?_
          refine gs_E.stp (pc' := 75) (ls' := [gp_r (some 1), gp_i p0]) (st' := [gp_i (gp_I s 57 2)]) (s' := s) 3 rfl ?_
          exact gs_E.ret (r := (some (gp_i (gp_I s 57 2)))) rfl H
        · replace H := H.2.1 hsw
          refine gs_E.swi (v := 1) (pc' := 76) (ls' := [gp_r (some 1), gp_i p0]) (st' := []) hsw rfl ?_
          refine gs_E.stp (pc' := 83) (ls' := [gp_r (some 1), gp_i p0]) (st' := [gp_i (gp_I s 57 3)]) (s' := s) 3 rfl ?_
          exact gs_E.ret (r := (some (gp_i (gp_I s 57 3)))) rfl H
        · replace H := H.2.2.1 hsw
          refine gs_E.swi (v := 2) (pc' := 84) (ls' := [gp_r (some 1), gp_i p0]) (st' := []) hsw rfl ?_
          refine gs_E.stp (pc' := 88) (ls' := [gp_r (some 1), gp_i p0]) (st' := [gp_r (some 57)]) (s' := s) 2 rfl ?_
          refine gs_E.call (args := [gp_r (some 57)]) (m := 1) (y' := 514) (st' := []) rfl H (fun r s1 H => ?_)
          obtain ⟨x2, rfl, H⟩ := H
          show gs_E L (d + 1) 2839 91 [gp_r (some 1), gp_i p0] [gp_i x2] s1 K
          refine gs_E.br (c := x2 = 0) (p1 := 98) (p2 := 94) (l1 := [gp_r (some 1), gp_i p0]) (l2 := [gp_r (some 1), gp_i p0]) (s1 := []) (s2 := []) rfl gs_b1 (fun hc => ?_) (fun hc => ?_)
          · replace H := H.1 hc
            refine gs_E.stp (pc' := 99) (ls' := [gp_r (some 1), gp_i p0]) (st' := [gp_i 0]) (s' := s1) 1 rfl ?_
            exact H
          · replace H := H.2 hc
            refine gs_E.stp (pc' := 99) (ls' := [gp_r (some 1), gp_i p0]) (st' := [gp_i 1]) (s' := s1) 2 rfl ?_
            exact H
        · replace H := H.2.2.2.1 hsw
          refine gs_E.swi (v := 3) (pc' := 100) (ls' := [gp_r (some 1), gp_i p0]) (st' := []) hsw rfl ?_
          refine gs_E.stp (pc' := 104) (ls' := [gp_r (some 1), gp_i p0]) (st' := [gp_r (some 57)]) (s' := s) 2 rfl ?_
          refine gs_E.call (args := [gp_r (some 57)]) (m := 1) (y' := 514) (st' := []) rfl H (fun r s3 H => ?_)
          obtain ⟨x4, rfl, H⟩ := H
          show gs_E L (d + 1) 2839 107 [gp_r (some 1), gp_i p0] [gp_i x4] s3 K
          refine gs_E.br (c := x4 = 0) (p1 := 130) (p2 := 110) (l1 := [gp_r (some 1), gp_i p0]) (l2 := [gp_r (some 1), gp_i p0]) (s1 := []) (s2 := []) rfl gs_b1 (fun hc => ?_) (fun hc => ?_)
          · replace H := H.1 hc
            refine gs_E.stp (pc' := 132) (ls' := [gp_r (some 1), gp_i p0]) (st' := [gp_i 3, gp_r (some 1)]) (s' := s3) 2 rfl ?_
            refine gs_E.call (args := [gp_r (some 1), gp_i 3]) (m := 2) (y' := 2855) (st' := []) rfl H (fun r s5 H => ?_)
            obtain ⟨x6, rfl, H⟩ := H
            show gs_E L (d + 1) 2839 135 [gp_r (some 1), gp_i p0] [gp_i x6] s5 K
            exact H
          · replace H := H.2 hc
            refine gs_E.stp (pc' := 124) (ls' := [gp_r (some 1), gp_i p0]) (st' := [gp_i (gp_I s3 57 2), gp_r (some 60)]) (s' := s3) 6 rfl ?_
            refine gs_E.call (args := [gp_r (some 60), gp_i (gp_I s3 57 2)]) (m := 4) (y' := 2055) (st' := []) rfl H (fun r s7 H => ?_)
            obtain ⟨x8, rfl, H⟩ := H
            show gs_E L (d + 1) 2839 127 [gp_r (some 1), gp_i p0] [gp_i x8] s7 K
            refine gs_E.stp (pc' := 135) (ls' := [gp_r (some 1), gp_i p0]) (st' := [gp_i x8]) (s' := s7) 1 rfl ?_
            exact H
        · replace H := H.2.2.2.2.1 hsw
          refine gs_E.swi (v := 4) (pc' := 136) (ls' := [gp_r (some 1), gp_i p0]) (st' := []) hsw rfl ?_
          refine gs_E.stp (pc' := 150) (ls' := [gp_r (some 1), gp_i p0]) (st' := [gp_i (gp_I s 57 2), gp_r (some 60)]) (s' := s) 6 rfl ?_
          refine gs_E.call (args := [gp_r (some 60), gp_i (gp_I s 57 2)]) (m := 2) (y' := 2056) (st' := []) rfl H (fun r s9 H => ?_)
          obtain ⟨x10, rfl, H⟩ := H
          show gs_E L (d + 1) 2839 153 [gp_r (some 1), gp_i p0] [gp_i x10] s9 K
          exact gs_E.ret (r := (some (gp_i x10))) rfl H
        · replace H := H.2.2.2.2.2 hsw
          refine gs_E.swo (pc' := 154) (ls' := [gp_r (some 1), gp_i p0]) (st' := []) (C := p0 < 0 ∨ 4 < p0) (B := _) rfl hsw ?_
          refine gs_E.stp (pc' := 164) (ls' := [gp_r (some 1), gp_i p0]) (st' := [gp_i (gp_I s 60 2)]) (s' := s) 4 rfl ?_
          exact gs_E.ret (r := (some (gp_i (gp_I s 60 2)))) rfl H
      · replace H := H.1 (Decidable.byContradiction hc)
        refine gs_E.stp (pc' := 27) (ls' := [gp_r (some 1), gp_i p0]) (st' := [gp_i 2, gp_r (some 1)]) (s' := s) 2 rfl ?_
        refine gs_E.call (args := [gp_r (some 1), gp_i 2]) (m := 2) (y' := 2855) (st' := []) rfl H (fun r s11 H => ?_)
        obtain ⟨x12, rfl, H⟩ := H
        show gs_E L (d + 1) 2839 30 [gp_r (some 1), gp_i p0] [gp_i x12] s11 K
        exact gs_E.ret (r := (some (gp_i x12))) rfl H
    · replace H := H.1 (Decidable.byContradiction hc)
      exact H

set_option maxRecDepth 100000 in
/-- GatheredPoints.matchOf, pc 9 -/
theorem s_2839_9 {L d : Nat} {K : Option gV → gH → Prop} {s : gH} (v1 : Int) (H : gs_C L d 2855 2 [gp_r (some 1), gp_i 1] s (fun r s1 => ∃ x2, r = some (gp_i x2) ∧ K (some (gp_i x2)) s1)) : gs_E L (d + 1) 2839 9 [gp_r (some 1), gp_i v1] [] s K := by
  refine gs_E.stp (pc' := 11) (ls' := [gp_r (some 1), gp_i v1]) (st' := [gp_i 1, gp_r (some 1)]) (s' := s) 2 rfl ?_
  refine gs_E.call (args := [gp_r (some 1), gp_i 1]) (m := 2) (y' := 2855) (st' := []) rfl H (fun r s1 H => ?_)
  obtain ⟨x2, rfl, H⟩ := H
  show gs_E L (d + 1) 2839 14 [gp_r (some 1), gp_i v1] [gp_i x2] s1 K
  exact gs_E.ret (r := (some (gp_i x2))) rfl H

set_option maxRecDepth 100000 in
/-- GatheredPoints.matchOf, pc 99 -/
theorem s_2839_99 {L d : Nat} {K : Option gV → gH → Prop} {s : gH} (v1 : Int) (w0 : Int) (H : K (some (gp_i w0)) s) : gs_E L (d + 1) 2839 99 [gp_r (some 1), gp_i v1] [gp_i w0] s K := by
  exact gs_E.ret (r := (some (gp_i w0))) rfl H

set_option maxRecDepth 100000 in
/-- GatheredPoints.matchOf, pc 135 -/
theorem s_2839_135 {L d : Nat} {K : Option gV → gH → Prop} {s : gH} (v1 : Int) (w0 : Int) (H : K (some (gp_i w0)) s) : gs_E L (d + 1) 2839 135 [gp_r (some 1), gp_i v1] [gp_i w0] s K := by
  exact gs_E.ret (r := (some (gp_i w0))) rfl H

set_option maxRecDepth 100000 in
/-- GatheredPoints.moved, pc 0 -/
theorem s_2840_e {L d : Nat} {K : Option gV → gH → Prop} {s : gH} (p0 : Int) (H : (((gp_I s 57 1) = 0 → gs_E L (d + 1) 2840 25 [gp_r (some 1), gp_i p0] [] s K) ∧ (¬ (gp_I s 57 1) = 0 → ((p0 < 0 → gs_E L (d + 1) 2840 25 [gp_r (some 1), gp_i p0] [] s K) ∧ (¬ p0 < 0 → ((p0 < (gp_I s 57 3) → ((0 ≤ p0 ∧ p0 < 180) ∧ gs_C L d 2052 2 [gp_r (some 60), gp_i (gp_I s 58 p0.toNat)] s (fun r s1 => ∃ x2, r = some (gp_i x2) ∧ K (some (gp_i x2)) s1))) ∧ (¬ p0 < (gp_I s 57 3) → gs_E L (d + 1) 2840 25 [gp_r (some 1), gp_i p0] [] s K))))))) : gs_C L (d + 1) 2840 2 [gp_r (some 1), gp_i p0] s K := by
  show gs_E L (d + 1) 2840 0 [gp_r (some 1), gp_i p0] [] s K
  refine gs_E.stp (pc' := 7) (ls' := [gp_r (some 1), gp_i p0]) (st' := [gp_i (gp_I s 57 1)]) (s' := s) 3 rfl ?_
  refine gs_E.br (c := (gp_I s 57 1) = 0) (p1 := 25) (p2 := 10) (l1 := [gp_r (some 1), gp_i p0]) (l2 := [gp_r (some 1), gp_i p0]) (s1 := []) (s2 := []) rfl gs_b1 (fun hc => ?_) (fun hc => ?_)
  · replace H := H.1 hc
    exact H
  · replace H := H.2 hc
    refine gs_E.stp (pc' := 11) (ls' := [gp_r (some 1), gp_i p0]) (st' := [gp_i p0]) (s' := s) 1 rfl ?_
    refine gs_E.br (c := p0 < 0) (p1 := 25) (p2 := 14) (l1 := [gp_r (some 1), gp_i p0]) (l2 := [gp_r (some 1), gp_i p0]) (s1 := []) (s2 := []) rfl gs_b1 (fun hc => ?_) (fun hc => ?_)
    · replace H := H.1 hc
      exact H
    · replace H := H.2 hc
      refine gs_E.stp (pc' := 22) (ls' := [gp_r (some 1), gp_i p0]) (st' := [gp_i (gp_I s 57 3), gp_i p0]) (s' := s) 4 rfl ?_
      refine gs_E.br (c := p0 < (gp_I s 57 3)) (p1 := 31) (p2 := 25) (l1 := [gp_r (some 1), gp_i p0]) (l2 := [gp_r (some 1), gp_i p0]) (s1 := []) (s2 := []) rfl gs_b1 (fun hc => ?_) (fun hc => ?_)
      · replace H := H.1 hc
        refine gs_E.stp (pc' := 46) (ls' := [gp_r (some 1), gp_i p0]) (st' := [gp_i p0, gp_r (some 58), gp_r (some 60)]) (s' := s) 7 rfl ?_
        refine gs_E.ck (pc' := 47) (ls' := [gp_r (some 1), gp_i p0]) (st' := [gp_i (gp_I s 58 p0.toNat), gp_r (some 60)]) (s' := s) rfl (Or.inl ⟨rfl, H.1.1, H.1.2⟩) ?_
        replace H := H.2
        refine gs_E.call (args := [gp_r (some 60), gp_i (gp_I s 58 p0.toNat)]) (m := 2) (y' := 2052) (st' := []) rfl H (fun r s1 H => ?_)
        obtain ⟨x2, rfl, H⟩ := H
        show gs_E L (d + 1) 2840 50 [gp_r (some 1), gp_i p0] [gp_i x2] s1 K
        exact gs_E.ret (r := (some (gp_i x2))) rfl H
      · replace H := H.2 hc
        exact H

set_option maxRecDepth 100000 in
/-- GatheredPoints.moved, pc 25 -/
theorem s_2840_25 {L d : Nat} {K : Option gV → gH → Prop} {s : gH} (v1 : Int) (H : gs_C L d 2855 2 [gp_r (some 1), gp_i 2] s (fun r s1 => ∃ x2, r = some (gp_i x2) ∧ K (some (gp_i x2)) s1)) : gs_E L (d + 1) 2840 25 [gp_r (some 1), gp_i v1] [] s K := by
  refine gs_E.stp (pc' := 27) (ls' := [gp_r (some 1), gp_i v1]) (st' := [gp_i 2, gp_r (some 1)]) (s' := s) 2 rfl ?_
  refine gs_E.call (args := [gp_r (some 1), gp_i 2]) (m := 2) (y' := 2855) (st' := []) rfl H (fun r s1 H => ?_)
  obtain ⟨x2, rfl, H⟩ := H
  show gs_E L (d + 1) 2840 30 [gp_r (some 1), gp_i v1] [gp_i x2] s1 K
  exact gs_E.ret (r := (some (gp_i x2))) rfl H

set_option maxRecDepth 100000 in
/-- GatheredPoints.board, pc 0 -/
theorem s_2841_e {L d : Nat} {K : Option gV → gH → Prop} {s : gH} (p0 : Int) (p1 : Int) (H : gs_C L d 2856 1 [gp_i p0] s (fun r s1 => ∃ x2, r = some (gp_i x2) ∧ ((x2 = 0 → gs_C L d 2856 1 [gp_i p1] s1 (fun r s3 => ∃ x4, r = some (gp_i x4) ∧ ((x4 = 0 → (((gp_I s3 57 1) = 0 → gs_E L (d + 1) 2841 45 [gp_r (some 1), gp_i p0, gp_i p1, gp_n] [gp_i (-1)] s3 K) ∧ (¬ (gp_I s3 57 1) = 0 → gs_C L d 2051 3 [gp_r (some 60), gp_i p0] s3 (fun r s5 => ∃ x6, r = some (gp_i x6) ∧ gs_E L (d + 1) 2841 45 [gp_r (some 1), gp_i p0, gp_i p1, gp_n] [gp_i x6] s5 K)))) ∧ (¬ x4 = 0 → gs_E L (d + 1) 2841 14 [gp_r (some 1), gp_i p0, gp_i p1, gp_n] [] s3 K)))) ∧ (¬ x2 = 0 → gs_E L (d + 1) 2841 14 [gp_r (some 1), gp_i p0, gp_i p1, gp_n] [] s1 K)))) : gs_C L (d + 1) 2841 4 [gp_r (some 1), gp_i p0, gp_i p1] s K := by
  show gs_E L (d + 1) 2841 0 [gp_r (some 1), gp_i p0, gp_i p1, gp_n] [] s K
  refine gs_E.stp (pc' := 1) (ls' := [gp_r (some 1), gp_i p0, gp_i p1, gp_n]) (st' := [gp_i p0]) (s' := s) 1 rfl ?_
  refine gs_E.call (args := [gp_i p0]) (m := 1) (y' := 2856) (st' := []) rfl H (fun r s1 H => ?_)
  obtain ⟨x2, rfl, H⟩ := H
  show gs_E L (d + 1) 2841 4 [gp_r (some 1), gp_i p0, gp_i p1, gp_n] [gp_i x2] s1 K
  refine gs_E.br (c := ¬ x2 = 0) (p1 := 14) (p2 := 7) (l1 := [gp_r (some 1), gp_i p0, gp_i p1, gp_n]) (l2 := [gp_r (some 1), gp_i p0, gp_i p1, gp_n]) (s1 := []) (s2 := []) rfl gs_b2 (fun hc => ?_) (fun hc => ?_)
  · replace H := H.2 hc
    exact H
  · replace H := H.1 (Decidable.byContradiction hc)
    refine gs_E.stp (pc' := 8) (ls' := [gp_r (some 1), gp_i p0, gp_i p1, gp_n]) (st' := [gp_i p1]) (s' := s1) 1 rfl ?_
    refine gs_E.call (args := [gp_i p1]) (m := 1) (y' := 2856) (st' := []) rfl H (fun r s3 H => ?_)
    obtain ⟨x4, rfl, H⟩ := H
    show gs_E L (d + 1) 2841 11 [gp_r (some 1), gp_i p0, gp_i p1, gp_n] [gp_i x4] s3 K
    refine gs_E.br (c := x4 = 0) (p1 := 20) (p2 := 14) (l1 := [gp_r (some 1), gp_i p0, gp_i p1, gp_n]) (l2 := [gp_r (some 1), gp_i p0, gp_i p1, gp_n]) (s1 := []) (s2 := []) rfl gs_b1 (fun hc => ?_) (fun hc => ?_)
    · replace H := H.1 hc
      refine gs_E.stp (pc' := 27) (ls' := [gp_r (some 1), gp_i p0, gp_i p1, gp_n]) (st' := [gp_i (gp_I s3 57 1)]) (s' := s3) 3 rfl ?_
      refine gs_E.br (c := (gp_I s3 57 1) = 0) (p1 := 44) (p2 := 30) (l1 := [gp_r (some 1), gp_i p0, gp_i p1, gp_n]) (l2 := [gp_r (some 1), gp_i p0, gp_i p1, gp_n]) (s1 := []) (s2 := []) rfl gs_b1 (fun hc => ?_) (fun hc => ?_)
      · replace H := H.1 hc
        refine gs_E.stp (pc' := 45) (ls' := [gp_r (some 1), gp_i p0, gp_i p1, gp_n]) (st' := [gp_i (-1)]) (s' := s3) 1 rfl ?_
        exact H
      · replace H := H.2 hc
        refine gs_E.stp (pc' := 38) (ls' := [gp_r (some 1), gp_i p0, gp_i p1, gp_n]) (st' := [gp_i p0, gp_r (some 60)]) (s' := s3) 4 rfl ?_
        refine gs_E.call (args := [gp_r (some 60), gp_i p0]) (m := 3) (y' := 2051) (st' := []) rfl H (fun r s5 H => ?_)
        obtain ⟨x6, rfl, H⟩ := H
        show gs_E L (d + 1) 2841 41 [gp_r (some 1), gp_i p0, gp_i p1, gp_n] [gp_i x6] s5 K
        refine gs_E.stp (pc' := 45) (ls' := [gp_r (some 1), gp_i p0, gp_i p1, gp_n]) (st' := [gp_i x6]) (s' := s5) 1 rfl ?_
        exact H
    · replace H := H.2 hc
      exact H

set_option maxRecDepth 100000 in
/-- GatheredPoints.board, pc 14 -/
theorem s_2841_14 {L d : Nat} {K : Option gV → gH → Prop} {s : gH} (v1 : Int) (v2 : Int) (v3 : gV) (H : gs_C L d 2855 2 [gp_r (some 1), gp_i 1] s (fun r s1 => ∃ x2, r = some (gp_i x2) ∧ K (some (gp_i x2)) s1)) : gs_E L (d + 1) 2841 14 [gp_r (some 1), gp_i v1, gp_i v2, v3] [] s K := by
  refine gs_E.stp (pc' := 16) (ls' := [gp_r (some 1), gp_i v1, gp_i v2, v3]) (st' := [gp_i 1, gp_r (some 1)]) (s' := s) 2 rfl ?_
  refine gs_E.call (args := [gp_r (some 1), gp_i 1]) (m := 2) (y' := 2855) (st' := []) rfl H (fun r s1 H => ?_)
  obtain ⟨x2, rfl, H⟩ := H
  show gs_E L (d + 1) 2841 19 [gp_r (some 1), gp_i v1, gp_i v2, v3] [gp_i x2] s1 K
  exact gs_E.ret (r := (some (gp_i x2))) rfl H

set_option maxRecDepth 100000 in
/-- GatheredPoints.board, pc 45 -/
theorem s_2841_45 {L d : Nat} {K : Option gV → gH → Prop} {s : gH} (v1 : Int) (v2 : Int) (v3 : gV) (w0 : Int) (H : ((w0 < 0 → gs_C L d 2855 2 [gp_r (some 1), gp_i 2] s (fun r s5 => ∃ x6, r = some (gp_i x6) ∧ K (some (gp_i x6)) s5)) ∧ (¬ w0 < 0 → ((0 ≤ w0 ∧ w0 < 3) ∧ ((0 ≤ w0 ∧ w0 < 3) ∧ gs_C L d 261 3 [gp_r (some 20), gp_r (gp_R (gp_mk L s) 61 w0.toNat), gp_i (gp_I s 62 w0.toNat)] s (fun r s1 => ∃ o2, r = some (gp_r o2) ∧ gs_C L d 2854 3 [gp_r (some 1), gp_i v2, gp_r o2] s1 (fun r s3 => ∃ x4, r = some (gp_i x4) ∧ K (some (gp_i x4)) s3))))))) : gs_E L (d + 1) 2841 45 [gp_r (some 1), gp_i v1, gp_i v2, v3] [gp_i w0] s K := by
  refine gs_E.stp (pc' := 47) (ls' := [gp_r (some 1), gp_i v1, gp_i v2, gp_i w0]) (st' := [gp_i w0]) (s' := s) 2 rfl ?_
  refine gs_E.br (c := ¬ w0 < 0) (p1 := 56) (p2 := 50) (l1 := [gp_r (some 1), gp_i v1, gp_i v2, gp_i w0]) (l2 := [gp_r (some 1), gp_i v1, gp_i v2, gp_i w0]) (s1 := []) (s2 := []) rfl gs_b2 (fun hc => ?_) (fun hc => ?_)
  · replace H := H.2 hc
    refine gs_E.stp (pc' := 73) (ls' := [gp_r (some 1), gp_i v1, gp_i v2, gp_i w0]) (st' := [gp_i w0, gp_r (some 61), gp_r (some 20), gp_i v2, gp_r (some 1)]) (s' := s) 9 rfl ?_
    refine gs_E.ck (pc' := 74) (ls' := [gp_r (some 1), gp_i v1, gp_i v2, gp_i w0]) (st' := [gp_r (gp_R (gp_mk L s) 61 w0.toNat), gp_r (some 20), gp_i v2, gp_r (some 1)]) (s' := s) rfl (Or.inl ⟨rfl, H.1.1, H.1.2⟩) ?_
    replace H := H.2
    refine gs_E.stp (pc' := 85) (ls' := [gp_r (some 1), gp_i v1, gp_i v2, gp_i w0]) (st' := [gp_i w0, gp_r (some 62), gp_r (gp_R (gp_mk L s) 61 w0.toNat), gp_r (some 20), gp_i v2, gp_r (some 1)]) (s' := s) 5 rfl ?_
    refine gs_E.ck (pc' := 86) (ls' := [gp_r (some 1), gp_i v1, gp_i v2, gp_i w0]) (st' := [gp_i (gp_I s 62 w0.toNat), gp_r (gp_R (gp_mk L s) 61 w0.toNat), gp_r (some 20), gp_i v2, gp_r (some 1)]) (s' := s) rfl (Or.inl ⟨rfl, H.1.1, H.1.2⟩) ?_
    replace H := H.2
    refine gs_E.call (args := [gp_r (some 20), gp_r (gp_R (gp_mk L s) 61 w0.toNat), gp_i (gp_I s 62 w0.toNat)]) (m := 3) (y' := 261) (st' := [gp_i v2, gp_r (some 1)]) rfl H (fun r s1 H => ?_)
    obtain ⟨o2, rfl, H⟩ := H
    show gs_E L (d + 1) 2841 89 [gp_r (some 1), gp_i v1, gp_i v2, gp_i w0] [gp_r o2, gp_i v2, gp_r (some 1)] s1 K
    refine gs_E.call (args := [gp_r (some 1), gp_i v2, gp_r o2]) (m := 3) (y' := 2854) (st' := []) rfl H (fun r s3 H => ?_)
    obtain ⟨x4, rfl, H⟩ := H
    show gs_E L (d + 1) 2841 92 [gp_r (some 1), gp_i v1, gp_i v2, gp_i w0] [gp_i x4] s3 K
    exact gs_E.ret (r := (some (gp_i x4))) rfl H
  · replace H := H.1 (Decidable.byContradiction hc)
    refine gs_E.stp (pc' := 52) (ls' := [gp_r (some 1), gp_i v1, gp_i v2, gp_i w0]) (st' := [gp_i 2, gp_r (some 1)]) (s' := s) 2 rfl ?_
    refine gs_E.call (args := [gp_r (some 1), gp_i 2]) (m := 2) (y' := 2855) (st' := []) rfl H (fun r s5 H => ?_)
    obtain ⟨x6, rfl, H⟩ := H
    show gs_E L (d + 1) 2841 55 [gp_r (some 1), gp_i v1, gp_i v2, gp_i w0] [gp_i x6] s5 K
    exact gs_E.ret (r := (some (gp_i x6))) rfl H

set_option maxRecDepth 100000 in
/-- GatheredPoints.sheet, pc 0 -/
theorem s_2842_e {L d : Nat} {K : Option gV → gH → Prop} {s : gH} (p0 : Int) (p1 : Int) (p2 : Int) (H : gs_C L d 1793 2 [gp_r (some 66), gp_i p0] s (fun r s1 => ∃ x2, r = some (gp_i x2) ∧ ((x2 = 0 → ((p1 = 0 → gs_E L (d + 1) 2842 39 [gp_r (some 1), gp_i p0, gp_i p1, gp_i p2] [] s1 K) ∧ (¬ p1 = 0 → ((p1 = 8 → gs_E L (d + 1) 2842 39 [gp_r (some 1), gp_i p0, gp_i p1, gp_i p2] [] s1 K) ∧ (¬ p1 = 8 → ((p1 = 16 → gs_E L (d + 1) 2842 39 [gp_r (some 1), gp_i p0, gp_i p1, gp_i p2] [] s1 K) ∧ (¬ p1 = 16 → ((p1 = 32 → gs_E L (d + 1) 2842 39 [gp_r (some 1), gp_i p0, gp_i p1, gp_i p2] [] s1 K) ∧ (¬ p1 = 32 → gs_E L (d + 1) 2842 33 [gp_r (some 1), gp_i p0, gp_i p1, gp_i p2] [] s1 K))))))))) ∧ (¬ x2 = 0 → gs_E L (d + 1) 2842 33 [gp_r (some 1), gp_i p0, gp_i p1, gp_i p2] [] s1 K)))) : gs_C L (d + 1) 2842 4 [gp_r (some 1), gp_i p0, gp_i p1, gp_i p2] s K := by
  show gs_E L (d + 1) 2842 0 [gp_r (some 1), gp_i p0, gp_i p1, gp_i p2] [] s K
  refine gs_E.stp (pc' := 5) (ls' := [gp_r (some 1), gp_i p0, gp_i p1, gp_i p2]) (st' := [gp_i p0, gp_r (some 66)]) (s' := s) 3 rfl ?_
  refine gs_E.call (args := [gp_r (some 66), gp_i p0]) (m := 2) (y' := 1793) (st' := []) rfl H (fun r s1 H => ?_)
  obtain ⟨x2, rfl, H⟩ := H
  show gs_E L (d + 1) 2842 8 [gp_r (some 1), gp_i p0, gp_i p1, gp_i p2] [gp_i x2] s1 K
  refine gs_E.br (c := ¬ x2 = 0) (p1 := 33) (p2 := 11) (l1 := [gp_r (some 1), gp_i p0, gp_i p1, gp_i p2]) (l2 := [gp_r (some 1), gp_i p0, gp_i p1, gp_i p2]) (s1 := []) (s2 := []) rfl gs_b2 (fun hc => ?_) (fun hc => ?_)
  · replace H := H.2 hc
    exact H
  · replace H := H.1 (Decidable.byContradiction hc)
    refine gs_E.stp (pc' := 12) (ls' := [gp_r (some 1), gp_i p0, gp_i p1, gp_i p2]) (st' := [gp_i p1]) (s' := s1) 1 rfl ?_
    refine gs_E.br (c := p1 = 0) (p1 := 39) (p2 := 15) (l1 := [gp_r (some 1), gp_i p0, gp_i p1, gp_i p2]) (l2 := [gp_r (some 1), gp_i p0, gp_i p1, gp_i p2]) (s1 := []) (s2 := []) rfl gs_b1 (fun hc => ?_) (fun hc => ?_)
    · replace H := H.1 hc
      exact H
    · replace H := H.2 hc
      refine gs_E.stp (pc' := 18) (ls' := [gp_r (some 1), gp_i p0, gp_i p1, gp_i p2]) (st' := [gp_i 8, gp_i p1]) (s' := s1) 2 rfl ?_
      refine gs_E.br (c := p1 = 8) (p1 := 39) (p2 := 21) (l1 := [gp_r (some 1), gp_i p0, gp_i p1, gp_i p2]) (l2 := [gp_r (some 1), gp_i p0, gp_i p1, gp_i p2]) (s1 := []) (s2 := []) rfl gs_b1 (fun hc => ?_) (fun hc => ?_)
      · replace H := H.1 hc
        exact H
      · replace H := H.2 hc
        refine gs_E.stp (pc' := 24) (ls' := [gp_r (some 1), gp_i p0, gp_i p1, gp_i p2]) (st' := [gp_i 16, gp_i p1]) (s' := s1) 2 rfl ?_
        refine gs_E.br (c := p1 = 16) (p1 := 39) (p2 := 27) (l1 := [gp_r (some 1), gp_i p0, gp_i p1, gp_i p2]) (l2 := [gp_r (some 1), gp_i p0, gp_i p1, gp_i p2]) (s1 := []) (s2 := []) rfl gs_b1 (fun hc => ?_) (fun hc => ?_)
        · replace H := H.1 hc
          exact H
        · replace H := H.2 hc
          refine gs_E.stp (pc' := 30) (ls' := [gp_r (some 1), gp_i p0, gp_i p1, gp_i p2]) (st' := [gp_i 32, gp_i p1]) (s' := s1) 2 rfl ?_
          refine gs_E.br (c := p1 = 32) (p1 := 39) (p2 := 33) (l1 := [gp_r (some 1), gp_i p0, gp_i p1, gp_i p2]) (l2 := [gp_r (some 1), gp_i p0, gp_i p1, gp_i p2]) (s1 := []) (s2 := []) rfl gs_b1 (fun hc => ?_) (fun hc => ?_)
          · replace H := H.1 hc
            exact H
          · replace H := H.2 hc
            exact H

set_option maxRecDepth 100000 in
/-- GatheredPoints.sheet, pc 33 -/
theorem s_2842_33 {L d : Nat} {K : Option gV → gH → Prop} {s : gH} (v1 : Int) (v2 : Int) (v3 : Int) (H : gs_C L d 2855 2 [gp_r (some 1), gp_i 1] s (fun r s1 => ∃ x2, r = some (gp_i x2) ∧ K (some (gp_i x2)) s1)) : gs_E L (d + 1) 2842 33 [gp_r (some 1), gp_i v1, gp_i v2, gp_i v3] [] s K := by
  refine gs_E.stp (pc' := 35) (ls' := [gp_r (some 1), gp_i v1, gp_i v2, gp_i v3]) (st' := [gp_i 1, gp_r (some 1)]) (s' := s) 2 rfl ?_
  refine gs_E.call (args := [gp_r (some 1), gp_i 1]) (m := 2) (y' := 2855) (st' := []) rfl H (fun r s1 H => ?_)
  obtain ⟨x2, rfl, H⟩ := H
  show gs_E L (d + 1) 2842 38 [gp_r (some 1), gp_i v1, gp_i v2, gp_i v3] [gp_i x2] s1 K
  exact gs_E.ret (r := (some (gp_i x2))) rfl H

set_option maxRecDepth 100000 in
/-- GatheredPoints.sheet, pc 39 -/
theorem s_2842_39 {L d : Nat} {K : Option gV → gH → Prop} {s : gH} (v1 : Int) (v2 : Int) (v3 : Int) (H : ((v2 = 0 → gs_E L (d + 1) 2842 53 [gp_r (some 1), gp_i v1, gp_i v2, gp_i v3] [] s K) ∧ (¬ v2 = 0 → ((v3 < 0 → gs_C L d 2855 2 [gp_r (some 1), gp_i 3] s (fun r s1 => ∃ x2, r = some (gp_i x2) ∧ K (some (gp_i x2)) s1)) ∧ (¬ v3 < 0 → gs_E L (d + 1) 2842 53 [gp_r (some 1), gp_i v1, gp_i v2, gp_i v3] [] s K))))) : gs_E L (d + 1) 2842 39 [gp_r (some 1), gp_i v1, gp_i v2, gp_i v3] [] s K := by
  refine gs_E.stp (pc' := 40) (ls' := [gp_r (some 1), gp_i v1, gp_i v2, gp_i v3]) (st' := [gp_i v2]) (s' := s) 1 rfl ?_
  refine gs_E.br (c := v2 = 0) (p1 := 53) (p2 := 43) (l1 := [gp_r (some 1), gp_i v1, gp_i v2, gp_i v3]) (l2 := [gp_r (some 1), gp_i v1, gp_i v2, gp_i v3]) (s1 := []) (s2 := []) rfl gs_b1 (fun hc => ?_) (fun hc => ?_)
  · replace H := H.1 hc
    exact H
  · replace H := H.2 hc
    refine gs_E.stp (pc' := 44) (ls' := [gp_r (some 1), gp_i v1, gp_i v2, gp_i v3]) (st' := [gp_i v3]) (s' := s) 1 rfl ?_
    refine gs_E.br (c := ¬ v3 < 0) (p1 := 53) (p2 := 47) (l1 := [gp_r (some 1), gp_i v1, gp_i v2, gp_i v3]) (l2 := [gp_r (some 1), gp_i v1, gp_i v2, gp_i v3]) (s1 := []) (s2 := []) rfl gs_b2 (fun hc => ?_) (fun hc => ?_)
    · replace H := H.2 hc
      exact H
    · replace H := H.1 (Decidable.byContradiction hc)
      refine gs_E.stp (pc' := 49) (ls' := [gp_r (some 1), gp_i v1, gp_i v2, gp_i v3]) (st' := [gp_i 3, gp_r (some 1)]) (s' := s) 2 rfl ?_
      refine gs_E.call (args := [gp_r (some 1), gp_i 3]) (m := 2) (y' := 2855) (st' := []) rfl H (fun r s1 H => ?_)
      obtain ⟨x2, rfl, H⟩ := H
      show gs_E L (d + 1) 2842 52 [gp_r (some 1), gp_i v1, gp_i v2, gp_i v3] [gp_i x2] s1 K
      exact gs_E.ret (r := (some (gp_i x2))) rfl H

set_option maxRecDepth 100000 in
/-- GatheredPoints.sheet, pc 53 -/
theorem s_2842_53 {L d : Nat} {K : Option gV → gH → Prop} {s : gH} (v1 : Int) (v2 : Int) (v3 : Int) (H : ((v2 = 0 → gs_E L (d + 1) 2842 69 [gp_r (some 1), gp_i v1, gp_i v2, gp_i v3] [] s K) ∧ (¬ v2 = 0 → ((20 < v3 → gs_C L d 2855 2 [gp_r (some 1), gp_i 1] s (fun r s1 => ∃ x2, r = some (gp_i x2) ∧ K (some (gp_i x2)) s1)) ∧ (¬ 20 < v3 → gs_E L (d + 1) 2842 69 [gp_r (some 1), gp_i v1, gp_i v2, gp_i v3] [] s K))))) : gs_E L (d + 1) 2842 53 [gp_r (some 1), gp_i v1, gp_i v2, gp_i v3] [] s K := by
  refine gs_E.stp (pc' := 54) (ls' := [gp_r (some 1), gp_i v1, gp_i v2, gp_i v3]) (st' := [gp_i v2]) (s' := s) 1 rfl ?_
  refine gs_E.br (c := v2 = 0) (p1 := 69) (p2 := 57) (l1 := [gp_r (some 1), gp_i v1, gp_i v2, gp_i v3]) (l2 := [gp_r (some 1), gp_i v1, gp_i v2, gp_i v3]) (s1 := []) (s2 := []) rfl gs_b1 (fun hc => ?_) (fun hc => ?_)
  · replace H := H.1 hc
    exact H
  · replace H := H.2 hc
    refine gs_E.stp (pc' := 60) (ls' := [gp_r (some 1), gp_i v1, gp_i v2, gp_i v3]) (st' := [gp_i 20, gp_i v3]) (s' := s) 2 rfl ?_
    refine gs_E.br (c := ¬ 20 < v3) (p1 := 69) (p2 := 63) (l1 := [gp_r (some 1), gp_i v1, gp_i v2, gp_i v3]) (l2 := [gp_r (some 1), gp_i v1, gp_i v2, gp_i v3]) (s1 := []) (s2 := []) rfl gs_b2 (fun hc => ?_) (fun hc => ?_)
    · replace H := H.2 hc
      exact H
    · replace H := H.1 (Decidable.byContradiction hc)
      refine gs_E.stp (pc' := 65) (ls' := [gp_r (some 1), gp_i v1, gp_i v2, gp_i v3]) (st' := [gp_i 1, gp_r (some 1)]) (s' := s) 2 rfl ?_
      refine gs_E.call (args := [gp_r (some 1), gp_i 1]) (m := 2) (y' := 2855) (st' := []) rfl H (fun r s1 H => ?_)
      obtain ⟨x2, rfl, H⟩ := H
      show gs_E L (d + 1) 2842 68 [gp_r (some 1), gp_i v1, gp_i v2, gp_i v3] [gp_i x2] s1 K
      exact gs_E.ret (r := (some (gp_i x2))) rfl H

set_option maxRecDepth 100000 in
/-- GatheredPoints.sheet, pc 69 -/
theorem s_2842_69 {L d : Nat} {K : Option gV → gH → Prop} {s : gH} (v1 : Int) (v2 : Int) (v3 : Int) (H : ((v2 = 0 → gs_E L (d + 1) 2842 84 [gp_r (some 1), gp_i v1, gp_i v2, gp_i v3] [gp_i 0, gp_i v2, gp_i v1, gp_r (some 66)] s K) ∧ (¬ v2 = 0 → gs_E L (d + 1) 2842 84 [gp_r (some 1), gp_i v1, gp_i v2, gp_i v3] [gp_i v3, gp_i v2, gp_i v1, gp_r (some 66)] s K))) : gs_E L (d + 1) 2842 69 [gp_r (some 1), gp_i v1, gp_i v2, gp_i v3] [] s K := by
  refine gs_E.stp (pc' := 76) (ls' := [gp_r (some 1), gp_i v1, gp_i v2, gp_i v3]) (st' := [gp_i v2, gp_i v2, gp_i v1, gp_r (some 66)]) (s' := s) 5 rfl ?_
  refine gs_E.br (c := ¬ v2 = 0) (p1 := 83) (p2 := 79) (l1 := [gp_r (some 1), gp_i v1, gp_i v2, gp_i v3]) (l2 := [gp_r (some 1), gp_i v1, gp_i v2, gp_i v3]) (s1 := [gp_i v2, gp_i v1, gp_r (some 66)]) (s2 := [gp_i v2, gp_i v1, gp_r (some 66)]) rfl gs_b2 (fun hc => ?_) (fun hc => ?_)
  · replace H := H.2 hc
    refine gs_E.stp (pc' := 84) (ls' := [gp_r (some 1), gp_i v1, gp_i v2, gp_i v3]) (st' := [gp_i v3, gp_i v2, gp_i v1, gp_r (some 66)]) (s' := s) 1 rfl ?_
    exact H
  · replace H := H.1 (Decidable.byContradiction hc)
    refine gs_E.stp (pc' := 84) (ls' := [gp_r (some 1), gp_i v1, gp_i v2, gp_i v3]) (st' := [gp_i 0, gp_i v2, gp_i v1, gp_r (some 66)]) (s' := s) 2 rfl ?_
    exact H

set_option maxRecDepth 100000 in
/-- GatheredPoints.sheet, pc 84 -/
theorem s_2842_84 {L d : Nat} {K : Option gV → gH → Prop} {s : gH} (v1 : Int) (v2 : Int) (v3 : Int) (w1 : Int) (w2 : Int) (w3 : Int) (H : gs_C L d 1795 5 [gp_r (some 66), gp_i w1, gp_i w2, gp_i w3] s (fun r s1 => r = none ∧ K (some (gp_i 1)) s1)) : gs_E L (d + 1) 2842 84 [gp_r (some 1), gp_i v1, gp_i v2, gp_i v3] [gp_i w3, gp_i w2, gp_i w1, gp_r (some 66)] s K := by
  refine gs_E.call (args := [gp_r (some 66), gp_i w1, gp_i w2, gp_i w3]) (m := 5) (y' := 1795) (st' := []) rfl H (fun r s1 H => ?_)
  obtain ⟨rfl, H⟩ := H
  show gs_E L (d + 1) 2842 87 [gp_r (some 1), gp_i v1, gp_i v2, gp_i v3] [] s1 K
  refine gs_E.stp (pc' := 88) (ls' := [gp_r (some 1), gp_i v1, gp_i v2, gp_i v3]) (st' := [gp_i 1]) (s' := s1) 1 rfl ?_
  exact gs_E.ret (r := (some (gp_i 1))) rfl H

set_option maxRecDepth 100000 in
/-- GatheredPoints.put, pc 0 -/
theorem s_2843_e {L d : Nat} {K : Option gV → gH → Prop} {s : gH} (p0 : Int) (p1 : Int) (p2 : Int) (H : gs_C L d 1793 2 [gp_r (some 66), gp_i p0] s (fun r s1 => ∃ x2, r = some (gp_i x2) ∧ ((x2 = 0 → gs_C L d 1794 2 [gp_r (some 66), gp_i p0] s1 (fun r s3 => ∃ x4, r = some (gp_i x4) ∧ ((x4 = 0 → ((p1 < 0 → gs_E L (d + 1) 2843 51 [gp_r (some 1), gp_i p0, gp_i p1, gp_i p2] [] s3 K) ∧ (¬ p1 < 0 → ((0 ≤ p0 ∧ p0 < 4) ∧ ((p1 < (gp_I s3 73 p0.toNat) → gs_C L d 1796 4 [gp_r (some 66), gp_i p0, gp_i p1, gp_i p2] s3 (fun r s5 => r = none ∧ K (some (gp_i 1)) s5)) ∧ (¬ p1 < (gp_I s3 73 p0.toNat) → gs_E L (d + 1) 2843 51 [gp_r (some 1), gp_i p0, gp_i p1, gp_i p2] [] s3 K)))))) ∧ (¬ x4 = 0 → gs_C L d 2855 2 [gp_r (some 1), gp_i 2] s3 (fun r s6 => ∃ x7, r = some (gp_i x7) ∧ K (some (gp_i x7)) s6))))) ∧ (¬ x2 = 0 → gs_C L d 2855 2 [gp_r (some 1), gp_i 1] s1 (fun r s8 => ∃ x9, r = some (gp_i x9) ∧ K (some (gp_i x9)) s8))))) : gs_C L (d + 1) 2843 4 [gp_r (some 1), gp_i p0, gp_i p1, gp_i p2] s K := by
  show gs_E L (d + 1) 2843 0 [gp_r (some 1), gp_i p0, gp_i p1, gp_i p2] [] s K
  refine gs_E.stp (pc' := 5) (ls' := [gp_r (some 1), gp_i p0, gp_i p1, gp_i p2]) (st' := [gp_i p0, gp_r (some 66)]) (s' := s) 3 rfl ?_
  refine gs_E.call (args := [gp_r (some 66), gp_i p0]) (m := 2) (y' := 1793) (st' := []) rfl H (fun r s1 H => ?_)
  obtain ⟨x2, rfl, H⟩ := H
  show gs_E L (d + 1) 2843 8 [gp_r (some 1), gp_i p0, gp_i p1, gp_i p2] [gp_i x2] s1 K
  refine gs_E.br (c := x2 = 0) (p1 := 17) (p2 := 11) (l1 := [gp_r (some 1), gp_i p0, gp_i p1, gp_i p2]) (l2 := [gp_r (some 1), gp_i p0, gp_i p1, gp_i p2]) (s1 := []) (s2 := []) rfl gs_b1 (fun hc => ?_) (fun hc => ?_)
  · replace H := H.1 hc
    refine gs_E.stp (pc' := 22) (ls' := [gp_r (some 1), gp_i p0, gp_i p1, gp_i p2]) (st' := [gp_i p0, gp_r (some 66)]) (s' := s1) 3 rfl ?_
    refine gs_E.call (args := [gp_r (some 66), gp_i p0]) (m := 2) (y' := 1794) (st' := []) rfl H (fun r s3 H => ?_)
    obtain ⟨x4, rfl, H⟩ := H
    show gs_E L (d + 1) 2843 25 [gp_r (some 1), gp_i p0, gp_i p1, gp_i p2] [gp_i x4] s3 K
    refine gs_E.br (c := x4 = 0) (p1 := 34) (p2 := 28) (l1 := [gp_r (some 1), gp_i p0, gp_i p1, gp_i p2]) (l2 := [gp_r (some 1), gp_i p0, gp_i p1, gp_i p2]) (s1 := []) (s2 := []) rfl gs_b1 (fun hc => ?_) (fun hc => ?_)
    · replace H := H.1 hc
      refine gs_E.stp (pc' := 35) (ls' := [gp_r (some 1), gp_i p0, gp_i p1, gp_i p2]) (st' := [gp_i p1]) (s' := s3) 1 rfl ?_
      refine gs_E.br (c := p1 < 0) (p1 := 51) (p2 := 38) (l1 := [gp_r (some 1), gp_i p0, gp_i p1, gp_i p2]) (l2 := [gp_r (some 1), gp_i p0, gp_i p1, gp_i p2]) (s1 := []) (s2 := []) rfl gs_b1 (fun hc => ?_) (fun hc => ?_)
      · replace H := H.1 hc
        exact H
      · replace H := H.2 hc
        refine gs_E.stp (pc' := 47) (ls' := [gp_r (some 1), gp_i p0, gp_i p1, gp_i p2]) (st' := [gp_i p0, gp_r (some 73), gp_i p1]) (s' := s3) 5 rfl ?_
        refine gs_E.ck (pc' := 48) (ls' := [gp_r (some 1), gp_i p0, gp_i p1, gp_i p2]) (st' := [gp_i (gp_I s3 73 p0.toNat), gp_i p1]) (s' := s3) rfl (Or.inl ⟨rfl, H.1.1, H.1.2⟩) ?_
        replace H := H.2
        refine gs_E.br (c := p1 < (gp_I s3 73 p0.toNat)) (p1 := 57) (p2 := 51) (l1 := [gp_r (some 1), gp_i p0, gp_i p1, gp_i p2]) (l2 := [gp_r (some 1), gp_i p0, gp_i p1, gp_i p2]) (s1 := []) (s2 := []) rfl gs_b1 (fun hc => ?_) (fun hc => ?_)
        · replace H := H.1 hc
          refine gs_E.stp (pc' := 64) (ls' := [gp_r (some 1), gp_i p0, gp_i p1, gp_i p2]) (st' := [gp_i p2, gp_i p1, gp_i p0, gp_r (some 66)]) (s' := s3) 5 rfl ?_
          refine gs_E.call (args := [gp_r (some 66), gp_i p0, gp_i p1, gp_i p2]) (m := 4) (y' := 1796) (st' := []) rfl H (fun r s5 H => ?_)
          obtain ⟨rfl, H⟩ := H
          show gs_E L (d + 1) 2843 67 [gp_r (some 1), gp_i p0, gp_i p1, gp_i p2] [] s5 K
          refine gs_E.stp (pc' := 68) (ls' := [gp_r (some 1), gp_i p0, gp_i p1, gp_i p2]) (st' := [gp_i 1]) (s' := s5) 1 rfl ?_
          exact gs_E.ret (r := (some (gp_i 1))) rfl H
        · replace H := H.2 hc
          exact H
    · replace H := H.2 hc
      refine gs_E.stp (pc' := 30) (ls' := [gp_r (some 1), gp_i p0, gp_i p1, gp_i p2]) (st' := [gp_i 2, gp_r (some 1)]) (s' := s3) 2 rfl ?_
      refine gs_E.call (args := [gp_r (some 1), gp_i 2]) (m := 2) (y' := 2855) (st' := []) rfl H (fun r s6 H => ?_)
      obtain ⟨x7, rfl, H⟩ := H
      show gs_E L (d + 1) 2843 33 [gp_r (some 1), gp_i p0, gp_i p1, gp_i p2] [gp_i x7] s6 K
      exact gs_E.ret (r := (some (gp_i x7))) rfl H
  · replace H := H.2 hc
    refine gs_E.stp (pc' := 13) (ls' := [gp_r (some 1), gp_i p0, gp_i p1, gp_i p2]) (st' := [gp_i 1, gp_r (some 1)]) (s' := s1) 2 rfl ?_
    refine gs_E.call (args := [gp_r (some 1), gp_i 1]) (m := 2) (y' := 2855) (st' := []) rfl H (fun r s8 H => ?_)
    obtain ⟨x9, rfl, H⟩ := H
    show gs_E L (d + 1) 2843 16 [gp_r (some 1), gp_i p0, gp_i p1, gp_i p2] [gp_i x9] s8 K
    exact gs_E.ret (r := (some (gp_i x9))) rfl H

set_option maxRecDepth 100000 in
/-- GatheredPoints.put, pc 51 -/
theorem s_2843_51 {L d : Nat} {K : Option gV → gH → Prop} {s : gH} (v1 : Int) (v2 : Int) (v3 : Int) (H : gs_C L d 2855 2 [gp_r (some 1), gp_i 1] s (fun r s1 => ∃ x2, r = some (gp_i x2) ∧ K (some (gp_i x2)) s1)) : gs_E L (d + 1) 2843 51 [gp_r (some 1), gp_i v1, gp_i v2, gp_i v3] [] s K := by
  refine gs_E.stp (pc' := 53) (ls' := [gp_r (some 1), gp_i v1, gp_i v2, gp_i v3]) (st' := [gp_i 1, gp_r (some 1)]) (s' := s) 2 rfl ?_
  refine gs_E.call (args := [gp_r (some 1), gp_i 1]) (m := 2) (y' := 2855) (st' := []) rfl H (fun r s1 H => ?_)
  obtain ⟨x2, rfl, H⟩ := H
  show gs_E L (d + 1) 2843 56 [gp_r (some 1), gp_i v1, gp_i v2, gp_i v3] [gp_i x2] s1 K
  exact gs_E.ret (r := (some (gp_i x2))) rfl H

set_option maxRecDepth 100000 in
/-- GatheredPoints.number, pc 0 -/
theorem s_2844_e {L d : Nat} {K : Option gV → gH → Prop} {s : gH} (p0 : Int) (p1 : Int) (H : gs_C L d 1793 2 [gp_r (some 66), gp_i p0] s (fun r s1 => ∃ x2, r = some (gp_i x2) ∧ ((x2 = 0 → gs_C L d 1794 2 [gp_r (some 66), gp_i p0] s1 (fun r s3 => ∃ x4, r = some (gp_i x4) ∧ ((x4 = 0 → ((p1 < 0 → gs_E L (d + 1) 2844 51 [gp_r (some 1), gp_i p0, gp_i p1] [] s3 K) ∧ (¬ p1 < 0 → ((0 ≤ p0 ∧ p0 < 4) ∧ ((p1 < (gp_I s3 73 p0.toNat) → ((0 ≤ p0 ∧ p0 < 4) ∧ (∃ q5, gp_R (gp_mk L s3) 67 p0.toNat = some q5 ∧ (gp_in (gp_mk L s3) 100 q5 p1 ∧ K (some (gp_i (gp_I s3 q5 p1.toNat))) s3)))) ∧ (¬ p1 < (gp_I s3 73 p0.toNat) → gs_E L (d + 1) 2844 51 [gp_r (some 1), gp_i p0, gp_i p1] [] s3 K)))))) ∧ (¬ x4 = 0 → gs_C L d 2855 2 [gp_r (some 1), gp_i 2] s3 (fun r s6 => ∃ x7, r = some (gp_i x7) ∧ K (some (gp_i x7)) s6))))) ∧ (¬ x2 = 0 → gs_C L d 2855 2 [gp_r (some 1), gp_i 1] s1 (fun r s8 => ∃ x9, r = some (gp_i x9) ∧ K (some (gp_i x9)) s8))))) : gs_C L (d + 1) 2844 3 [gp_r (some 1), gp_i p0, gp_i p1] s K := by
  show gs_E L (d + 1) 2844 0 [gp_r (some 1), gp_i p0, gp_i p1] [] s K
  refine gs_E.stp (pc' := 5) (ls' := [gp_r (some 1), gp_i p0, gp_i p1]) (st' := [gp_i p0, gp_r (some 66)]) (s' := s) 3 rfl ?_
  refine gs_E.call (args := [gp_r (some 66), gp_i p0]) (m := 2) (y' := 1793) (st' := []) rfl H (fun r s1 H => ?_)
  obtain ⟨x2, rfl, H⟩ := H
  show gs_E L (d + 1) 2844 8 [gp_r (some 1), gp_i p0, gp_i p1] [gp_i x2] s1 K
  refine gs_E.br (c := x2 = 0) (p1 := 17) (p2 := 11) (l1 := [gp_r (some 1), gp_i p0, gp_i p1]) (l2 := [gp_r (some 1), gp_i p0, gp_i p1]) (s1 := []) (s2 := []) rfl gs_b1 (fun hc => ?_) (fun hc => ?_)
  · replace H := H.1 hc
    refine gs_E.stp (pc' := 22) (ls' := [gp_r (some 1), gp_i p0, gp_i p1]) (st' := [gp_i p0, gp_r (some 66)]) (s' := s1) 3 rfl ?_
    refine gs_E.call (args := [gp_r (some 66), gp_i p0]) (m := 2) (y' := 1794) (st' := []) rfl H (fun r s3 H => ?_)
    obtain ⟨x4, rfl, H⟩ := H
    show gs_E L (d + 1) 2844 25 [gp_r (some 1), gp_i p0, gp_i p1] [gp_i x4] s3 K
    refine gs_E.br (c := x4 = 0) (p1 := 34) (p2 := 28) (l1 := [gp_r (some 1), gp_i p0, gp_i p1]) (l2 := [gp_r (some 1), gp_i p0, gp_i p1]) (s1 := []) (s2 := []) rfl gs_b1 (fun hc => ?_) (fun hc => ?_)
    · replace H := H.1 hc
      refine gs_E.stp (pc' := 35) (ls' := [gp_r (some 1), gp_i p0, gp_i p1]) (st' := [gp_i p1]) (s' := s3) 1 rfl ?_
      refine gs_E.br (c := p1 < 0) (p1 := 51) (p2 := 38) (l1 := [gp_r (some 1), gp_i p0, gp_i p1]) (l2 := [gp_r (some 1), gp_i p0, gp_i p1]) (s1 := []) (s2 := []) rfl gs_b1 (fun hc => ?_) (fun hc => ?_)
      · replace H := H.1 hc
        exact H
      · replace H := H.2 hc
        refine gs_E.stp (pc' := 47) (ls' := [gp_r (some 1), gp_i p0, gp_i p1]) (st' := [gp_i p0, gp_r (some 73), gp_i p1]) (s' := s3) 5 rfl ?_
        refine gs_E.ck (pc' := 48) (ls' := [gp_r (some 1), gp_i p0, gp_i p1]) (st' := [gp_i (gp_I s3 73 p0.toNat), gp_i p1]) (s' := s3) rfl (Or.inl ⟨rfl, H.1.1, H.1.2⟩) ?_
        replace H := H.2
        refine gs_E.br (c := p1 < (gp_I s3 73 p0.toNat)) (p1 := 57) (p2 := 51) (l1 := [gp_r (some 1), gp_i p0, gp_i p1]) (l2 := [gp_r (some 1), gp_i p0, gp_i p1]) (s1 := []) (s2 := []) rfl gs_b1 (fun hc => ?_) (fun hc => ?_)
        · replace H := H.1 hc
          refine gs_E.stp (pc' := 65) (ls' := [gp_r (some 1), gp_i p0, gp_i p1]) (st' := [gp_i p0, gp_r (some 67)]) (s' := s3) 4 rfl ?_
          refine gs_E.ck (pc' := 66) (ls' := [gp_r (some 1), gp_i p0, gp_i p1]) (st' := [gp_r (gp_R (gp_mk L s3) 67 p0.toNat)]) (s' := s3) rfl (Or.inr ⟨rfl, H.1.1, H.1.2⟩) ?_
          replace H := H.2
          refine gs_E.stp (pc' := 67) (ls' := [gp_r (some 1), gp_i p0, gp_i p1]) (st' := [gp_i p1, gp_r (gp_R (gp_mk L s3) 67 p0.toNat)]) (s' := s3) 1 rfl ?_
          obtain ⟨q5, hq, H⟩ := H
          rw [hq]
          refine gs_E.ck (pc' := 68) (ls' := [gp_r (some 1), gp_i p0, gp_i p1]) (st' := [gp_i (gp_I s3 q5 p1.toNat)]) (s' := s3) rfl (Or.inl H.1) ?_
          replace H := H.2
          exact gs_E.ret (r := (some (gp_i (gp_I s3 q5 p1.toNat)))) rfl H
        · replace H := H.2 hc
          exact H
    · replace H := H.2 hc
      refine gs_E.stp (pc' := 30) (ls' := [gp_r (some 1), gp_i p0, gp_i p1]) (st' := [gp_i 2, gp_r (some 1)]) (s' := s3) 2 rfl ?_
      refine gs_E.call (args := [gp_r (some 1), gp_i 2]) (m := 2) (y' := 2855) (st' := []) rfl H (fun r s6 H => ?_)
      obtain ⟨x7, rfl, H⟩ := H
      show gs_E L (d + 1) 2844 33 [gp_r (some 1), gp_i p0, gp_i p1] [gp_i x7] s6 K
      exact gs_E.ret (r := (some (gp_i x7))) rfl H
  · replace H := H.2 hc
    refine gs_E.stp (pc' := 13) (ls' := [gp_r (some 1), gp_i p0, gp_i p1]) (st' := [gp_i 1, gp_r (some 1)]) (s' := s1) 2 rfl ?_
    refine gs_E.call (args := [gp_r (some 1), gp_i 1]) (m := 2) (y' := 2855) (st' := []) rfl H (fun r s8 H => ?_)
    obtain ⟨x9, rfl, H⟩ := H
    show gs_E L (d + 1) 2844 16 [gp_r (some 1), gp_i p0, gp_i p1] [gp_i x9] s8 K
    exact gs_E.ret (r := (some (gp_i x9))) rfl H

set_option maxRecDepth 100000 in
/-- GatheredPoints.number, pc 51 -/
theorem s_2844_51 {L d : Nat} {K : Option gV → gH → Prop} {s : gH} (v1 : Int) (v2 : Int) (H : gs_C L d 2855 2 [gp_r (some 1), gp_i 1] s (fun r s1 => ∃ x2, r = some (gp_i x2) ∧ K (some (gp_i x2)) s1)) : gs_E L (d + 1) 2844 51 [gp_r (some 1), gp_i v1, gp_i v2] [] s K := by
  refine gs_E.stp (pc' := 53) (ls' := [gp_r (some 1), gp_i v1, gp_i v2]) (st' := [gp_i 1, gp_r (some 1)]) (s' := s) 2 rfl ?_
  refine gs_E.call (args := [gp_r (some 1), gp_i 1]) (m := 2) (y' := 2855) (st' := []) rfl H (fun r s1 H => ?_)
  obtain ⟨x2, rfl, H⟩ := H
  show gs_E L (d + 1) 2844 56 [gp_r (some 1), gp_i v1, gp_i v2] [gp_i x2] s1 K
  exact gs_E.ret (r := (some (gp_i x2))) rfl H

set_option maxRecDepth 100000 in
/-- GatheredPoints.shift, pc 0 -/
theorem s_2845_e {L d : Nat} {K : Option gV → gH → Prop} {s : gH} (p0 : Int) (p1 : Int) (p2 : Int) (p3 : Int) (p4 : Int) (H : gs_C L d 1793 2 [gp_r (some 66), gp_i p0] s (fun r s1 => ∃ x2, r = some (gp_i x2) ∧ ((x2 = 0 → gs_C L d 1793 2 [gp_r (some 66), gp_i p2] s1 (fun r s3 => ∃ x4, r = some (gp_i x4) ∧ ((x4 = 0 → gs_C L d 1794 2 [gp_r (some 66), gp_i p0] s3 (fun r s5 => ∃ x6, r = some (gp_i x6) ∧ ((x6 = 0 → gs_C L d 1794 2 [gp_r (some 66), gp_i p2] s5 (fun r s7 => ∃ x8, r = some (gp_i x8) ∧ ((x8 = 0 → ((0 ≤ p0 ∧ p0 < 4) ∧ ((0 ≤ p2 ∧ p2 < 4) ∧ (((gp_I s7 72 p0.toNat) = (gp_I s7 72 p2.toNat) → gs_C L d 1797 4 [gp_r (some 66), gp_i p0, gp_i p1, gp_i p4] s7 (fun r s9 => ∃ x10, r = some (gp_i x10) ∧ ((x10 = 0 → gs_E L (d + 1) 2845 112 [gp_r (some 1), gp_i p0, gp_i p1, gp_i p2, gp_i p3, gp_i p4] [] s9 K) ∧ (¬ x10 = 0 → gs_C L d 1797 4 [gp_r (some 66), gp_i p2, gp_i p3, gp_i p4] s9 (fun r s11 => ∃ x12, r = some (gp_i x12) ∧ ((x12 = 0 → gs_E L (d + 1) 2845 112 [gp_r (some 1), gp_i p0, gp_i p1, gp_i p2, gp_i p3, gp_i p4] [] s11 K) ∧ (¬ x12 = 0 → ((0 ≤ p0 ∧ p0 < 4) ∧ ((0 ≤ p2 ∧ p2 < 4) ∧ (∃ q13, gp_R (gp_mk L s11) 67 p0.toNat = some q13 ∧ (∃ q14, gp_R (gp_mk L s11) 67 p2.toNat = some q14 ∧ (((gp_sh (gp_mk L s11) q13).1 = 100 ∧ (gp_sh (gp_mk L s11) q14).1 = 100 ∧ 0 ≤ p4 ∧ 0 ≤ p1 ∧ 0 ≤ p3 ∧ p1 + p4 ≤ ((gp_sh (gp_mk L s11) q13).2 : Int) ∧ p3 + p4 ≤ ((gp_sh (gp_mk L s11) q14).2 : Int)) ∧ ∀ s15, s15 = (s11.1, s11.2.1, s11.2.2.1, gp_ur s11.2.2.2.1 q14 (gp_cp s11.2.2.2.1 q13 p1.toNat q14 p3.toNat p4.toNat), s11.2.2.2.2.1, s11.2.2.2.2.2) → K (some (gp_i p4)) s15)))))))))))) ∧ (¬ (gp_I s7 72 p0.toNat) = (gp_I s7 72 p2.toNat) → gs_C L d 2855 2 [gp_r (some 1), gp_i 5] s7 (fun r s16 => ∃ x17, r = some (gp_i x17) ∧ K (some (gp_i x17)) s16)))))) ∧ (¬ x8 = 0 → gs_E L (d + 1) 2845 50 [gp_r (some 1), gp_i p0, gp_i p1, gp_i p2, gp_i p3, gp_i p4] [] s7 K)))) ∧ (¬ x6 = 0 → gs_E L (d + 1) 2845 50 [gp_r (some 1), gp_i p0, gp_i p1, gp_i p2, gp_i p3, gp_i p4] [] s5 K)))) ∧ (¬ x4 = 0 → gs_E L (d + 1) 2845 22 [gp_r (some 1), gp_i p0, gp_i p1, gp_i p2, gp_i p3, gp_i p4] [] s3 K)))) ∧ (¬ x2 = 0 → gs_E L (d + 1) 2845 22 [gp_r (some 1), gp_i p0, gp_i p1, gp_i p2, gp_i p3, gp_i p4] [] s1 K)))) : gs_C L (d + 1) 2845 6 [gp_r (some 1), gp_i p0, gp_i p1, gp_i p2, gp_i p3, gp_i p4] s K := by
  show gs_E L (d + 1) 2845 0 [gp_r (some 1), gp_i p0, gp_i p1, gp_i p2, gp_i p3, gp_i p4] [] s K
  refine gs_E.stp (pc' := 5) (ls' := [gp_r (some 1), gp_i p0, gp_i p1, gp_i p2, gp_i p3, gp_i p4]) (st' := [gp_i p0, gp_r (some 66)]) (s' := s) 3 rfl ?_
  refine gs_E.call (args := [gp_r (some 66), gp_i p0]) (m := 2) (y' := 1793) (st' := []) rfl H (fun r s1 H => ?_)
  obtain ⟨x2, rfl, H⟩ := H
  show gs_E L (d + 1) 2845 8 [gp_r (some 1), gp_i p0, gp_i p1, gp_i p2, gp_i p3, gp_i p4] [gp_i x2] s1 K
  refine gs_E.br (c := ¬ x2 = 0) (p1 := 22) (p2 := 11) (l1 := [gp_r (some 1), gp_i p0, gp_i p1, gp_i p2, gp_i p3, gp_i p4]) (l2 := [gp_r (some 1), gp_i p0, gp_i p1, gp_i p2, gp_i p3, gp_i p4]) (s1 := []) (s2 := []) rfl gs_b2 (fun hc => ?_) (fun hc => ?_)
  · replace H := H.2 hc
    exact H
  · replace H := H.1 (Decidable.byContradiction hc)
    refine gs_E.stp (pc' := 16) (ls' := [gp_r (some 1), gp_i p0, gp_i p1, gp_i p2, gp_i p3, gp_i p4]) (st' := [gp_i p2, gp_r (some 66)]) (s' := s1) 3 rfl ?_
    refine gs_E.call (args := [gp_r (some 66), gp_i p2]) (m := 2) (y' := 1793) (st' := []) rfl H (fun r s3 H => ?_)
    obtain ⟨x4, rfl, H⟩ := H
    show gs_E L (d + 1) 2845 19 [gp_r (some 1), gp_i p0, gp_i p1, gp_i p2, gp_i p3, gp_i p4] [gp_i x4] s3 K
    refine gs_E.br (c := x4 = 0) (p1 := 28) (p2 := 22) (l1 := [gp_r (some 1), gp_i p0, gp_i p1, gp_i p2, gp_i p3, gp_i p4]) (l2 := [gp_r (some 1), gp_i p0, gp_i p1, gp_i p2, gp_i p3, gp_i p4]) (s1 := []) (s2 := []) rfl gs_b1 (fun hc => ?_) (fun hc => ?_)
    · replace H := H.1 hc
      refine gs_E.stp (pc' := 33) (ls' := [gp_r (some 1), gp_i p0, gp_i p1, gp_i p2, gp_i p3, gp_i p4]) (st' := [gp_i p0, gp_r (some 66)]) (s' := s3) 3 rfl ?_
      refine gs_E.call (args := [gp_r (some 66), gp_i p0]) (m := 2) (y' := 1794) (st' := []) rfl H (fun r s5 H => ?_)
      obtain ⟨x6, rfl, H⟩ := H
      show gs_E L (d + 1) 2845 36 [gp_r (some 1), gp_i p0, gp_i p1, gp_i p2, gp_i p3, gp_i p4] [gp_i x6] s5 K
      refine gs_E.br (c := ¬ x6 = 0) (p1 := 50) (p2 := 39) (l1 := [gp_r (some 1), gp_i p0, gp_i p1, gp_i p2, gp_i p3, gp_i p4]) (l2 := [gp_r (some 1), gp_i p0, gp_i p1, gp_i p2, gp_i p3, gp_i p4]) (s1 := []) (s2 := []) rfl gs_b2 (fun hc => ?_) (fun hc => ?_)
      · replace H := H.2 hc
        exact H
      · replace H := H.1 (Decidable.byContradiction hc)
        refine gs_E.stp (pc' := 44) (ls' := [gp_r (some 1), gp_i p0, gp_i p1, gp_i p2, gp_i p3, gp_i p4]) (st' := [gp_i p2, gp_r (some 66)]) (s' := s5) 3 rfl ?_
        refine gs_E.call (args := [gp_r (some 66), gp_i p2]) (m := 2) (y' := 1794) (st' := []) rfl H (fun r s7 H => ?_)
        obtain ⟨x8, rfl, H⟩ := H
        show gs_E L (d + 1) 2845 47 [gp_r (some 1), gp_i p0, gp_i p1, gp_i p2, gp_i p3, gp_i p4] [gp_i x8] s7 K
        refine gs_E.br (c := x8 = 0) (p1 := 56) (p2 := 50) (l1 := [gp_r (some 1), gp_i p0, gp_i p1, gp_i p2, gp_i p3, gp_i p4]) (l2 := [gp_r (some 1), gp_i p0, gp_i p1, gp_i p2, gp_i p3, gp_i p4]) (s1 := []) (s2 := []) rfl gs_b1 (fun hc => ?_) (fun hc => ?_)
        · replace H := H.1 hc
          refine gs_E.stp (pc' := 64) (ls' := [gp_r (some 1), gp_i p0, gp_i p1, gp_i p2, gp_i p3, gp_i p4]) (st' := [gp_i p0, gp_r (some 72)]) (s' := s7) 4 rfl ?_
          refine gs_E.ck (pc' := 65) (ls' := [gp_r (some 1), gp_i p0, gp_i p1, gp_i p2, gp_i p3, gp_i p4]) (st' := [gp_i (gp_I s7 72 p0.toNat)]) (s' := s7) rfl (Or.inl ⟨rfl, H.1.1, H.1.2⟩) ?_
          replace H := H.2
          refine gs_E.stp (pc' := 73) (ls' := [gp_r (some 1), gp_i p0, gp_i p1, gp_i p2, gp_i p3, gp_i p4]) (st' := [gp_i p2, gp_r (some 72), gp_i (gp_I s7 72 p0.toNat)]) (s' := s7) 4 rfl ?_
          refine gs_E.ck (pc' := 74) (ls' := [gp_r (some 1), gp_i p0, gp_i p1, gp_i p2, gp_i p3, gp_i p4]) (st' := [gp_i (gp_I s7 72 p2.toNat), gp_i (gp_I s7 72 p0.toNat)]) (s' := s7) rfl (Or.inl ⟨rfl, H.1.1, H.1.2⟩) ?_
          replace H := H.2
          refine gs_E.br (c := (gp_I s7 72 p0.toNat) = (gp_I s7 72 p2.toNat)) (p1 := 83) (p2 := 77) (l1 := [gp_r (some 1), gp_i p0, gp_i p1, gp_i p2, gp_i p3, gp_i p4]) (l2 := [gp_r (some 1), gp_i p0, gp_i p1, gp_i p2, gp_i p3, gp_i p4]) (s1 := []) (s2 := []) rfl gs_b1 (fun hc => ?_) (fun hc => ?_)
          · replace H := H.1 hc
            refine gs_E.stp (pc' := 91) (ls' := [gp_r (some 1), gp_i p0, gp_i p1, gp_i p2, gp_i p3, gp_i p4]) (st' := [gp_i p4, gp_i p1, gp_i p0, gp_r (some 66)]) (s' := s7) 5 rfl ?_
            refine gs_E.call (args := [gp_r (some 66), gp_i p0, gp_i p1, gp_i p4]) (m := 4) (y' := 1797) (st' := []) rfl H (fun r s9 H => ?_)
            obtain ⟨x10, rfl, H⟩ := H
            show gs_E L (d + 1) 2845 94 [gp_r (some 1), gp_i p0, gp_i p1, gp_i p2, gp_i p3, gp_i p4] [gp_i x10] s9 K
            refine gs_E.br (c := x10 = 0) (p1 := 112) (p2 := 97) (l1 := [gp_r (some 1), gp_i p0, gp_i p1, gp_i p2, gp_i p3, gp_i p4]) (l2 := [gp_r (some 1), gp_i p0, gp_i p1, gp_i p2, gp_i p3, gp_i p4]) (s1 := []) (s2 := []) rfl gs_b1 (fun hc => ?_) (fun hc => ?_)
            · replace H := H.1 hc
              exact H
            · replace H := H.2 hc
              refine gs_E.stp (pc' := 106) (ls' := [gp_r (some 1), gp_i p0, gp_i p1, gp_i p2, gp_i p3, gp_i p4]) (st' := [gp_i p4, gp_i p3, gp_i p2, gp_r (some 66)]) (s' := s9) 5 rfl ?_
              refine gs_E.call (args := [gp_r (some 66), gp_i p2, gp_i p3, gp_i p4]) (m := 4) (y' := 1797) (st' := []) rfl H (fun r s11 H => ?_)
              obtain ⟨x12, rfl, H⟩ := H
              show gs_E L (d + 1) 2845 109 [gp_r (some 1), gp_i p0, gp_i p1, gp_i p2, gp_i p3, gp_i p4] [gp_i x12] s11 K
              refine gs_E.br (c := ¬ x12 = 0) (p1 := 118) (p2 := 112) (l1 := [gp_r (some 1), gp_i p0, gp_i p1, gp_i p2, gp_i p3, gp_i p4]) (l2 := [gp_r (some 1), gp_i p0, gp_i p1, gp_i p2, gp_i p3, gp_i p4]) (s1 := []) (s2 := []) rfl gs_b2 (fun hc => ?_) (fun hc => ?_)
              · replace H := H.2 hc
                refine gs_E.stp (pc' := 126) (ls' := [gp_r (some 1), gp_i p0, gp_i p1, gp_i p2, gp_i p3, gp_i p4]) (st' := [gp_i p0, gp_r (some 67)]) (s' := s11) 4 rfl ?_
                refine gs_E.ck (pc' := 127) (ls' := [gp_r (some 1), gp_i p0, gp_i p1, gp_i p2, gp_i p3, gp_i p4]) (st' := [gp_r (gp_R (gp_mk L s11) 67 p0.toNat)]) (s' := s11) rfl (Or.inr ⟨rfl, H.1.1, H.1.2⟩) ?_
                replace H := H.2
                refine gs_E.stp (pc' := 136) (ls' := [gp_r (some 1), gp_i p0, gp_i p1, gp_i p2, gp_i p3, gp_i p4]) (st' := [gp_i p2, gp_r (some 67), gp_i p1, gp_r (gp_R (gp_mk L s11) 67 p0.toNat)]) (s' := s11) 5 rfl ?_
                refine gs_E.ck (pc' := 137) (ls' := [gp_r (some 1), gp_i p0, gp_i p1, gp_i p2, gp_i p3, gp_i p4]) (st' := [gp_r (gp_R (gp_mk L s11) 67 p2.toNat), gp_i p1, gp_r (gp_R (gp_mk L s11) 67 p0.toNat)]) (s' := s11) rfl (Or.inr ⟨rfl, H.1.1, H.1.2⟩) ?_
                replace H := H.2
                refine gs_E.stp (pc' := 141) (ls' := [gp_r (some 1), gp_i p0, gp_i p1, gp_i p2, gp_i p3, gp_i p4]) (st' := [gp_i p4, gp_i p3, gp_r (gp_R (gp_mk L s11) 67 p2.toNat), gp_i p1, gp_r (gp_R (gp_mk L s11) 67 p0.toNat)]) (s' := s11) 2 rfl ?_
                obtain ⟨q13, hq, H⟩ := H
                rw [hq]
                obtain ⟨q14, hq, H⟩ := H
                rw [hq]
                refine gs_E.ck (pc' := 144) (ls' := [gp_r (some 1), gp_i p0, gp_i p1, gp_i p2, gp_i p3, gp_i p4]) (st' := []) (s' := (s11.1, s11.2.1, s11.2.2.1, gp_ur s11.2.2.2.1 q14 (gp_cp s11.2.2.2.1 q13 p1.toNat q14 p3.toNat p4.toNat), s11.2.2.2.2.1, s11.2.2.2.2.2)) rfl ⟨by decide, H.1⟩ ?_
                replace H := H.2 _ rfl
                generalize (s11.1, s11.2.1, s11.2.2.1, gp_ur s11.2.2.2.1 q14 (gp_cp s11.2.2.2.1 q13 p1.toNat q14 p3.toNat p4.toNat), s11.2.2.2.2.1, s11.2.2.2.2.2) = s15 at H ⊢
                refine gs_E.stp (pc' := 146) (ls' := [gp_r (some 1), gp_i p0, gp_i p1, gp_i p2, gp_i p3, gp_i p4]) (st' := [gp_i p4]) (s' := s15) 1 rfl ?_
                exact gs_E.ret (r := (some (gp_i p4))) rfl H
              · replace H := H.1 (Decidable.byContradiction hc)
                exact H
          · replace H := H.2 hc
            refine gs_E.stp (pc' := 79) (ls' := [gp_r (some 1), gp_i p0, gp_i p1, gp_i p2, gp_i p3, gp_i p4]) (st' := [gp_i 5, gp_r (some 1)]) (s' := s7) 2 rfl ?_
            refine gs_E.call (args := [gp_r (some 1), gp_i 5]) (m := 2) (y' := 2855) (st' := []) rfl H (fun r s16 H => ?_)
            obtain ⟨x17, rfl, H⟩ := H
            show gs_E L (d + 1) 2845 82 [gp_r (some 1), gp_i p0, gp_i p1, gp_i p2, gp_i p3, gp_i p4] [gp_i x17] s16 K
            exact gs_E.ret (r := (some (gp_i x17))) rfl H
        · replace H := H.2 hc
          exact H
    · replace H := H.2 hc
      exact H

set_option maxRecDepth 100000 in
/-- GatheredPoints.shift, pc 22 -/
theorem s_2845_22 {L d : Nat} {K : Option gV → gH → Prop} {s : gH} (v1 : Int) (v2 : Int) (v3 : Int) (v4 : Int) (v5 : Int) (H : gs_C L d 2855 2 [gp_r (some 1), gp_i 1] s (fun r s1 => ∃ x2, r = some (gp_i x2) ∧ K (some (gp_i x2)) s1)) : gs_E L (d + 1) 2845 22 [gp_r (some 1), gp_i v1, gp_i v2, gp_i v3, gp_i v4, gp_i v5] [] s K := by
  refine gs_E.stp (pc' := 24) (ls' := [gp_r (some 1), gp_i v1, gp_i v2, gp_i v3, gp_i v4, gp_i v5]) (st' := [gp_i 1, gp_r (some 1)]) (s' := s) 2 rfl ?_
  refine gs_E.call (args := [gp_r (some 1), gp_i 1]) (m := 2) (y' := 2855) (st' := []) rfl H (fun r s1 H => ?_)
  obtain ⟨x2, rfl, H⟩ := H
  show gs_E L (d + 1) 2845 27 [gp_r (some 1), gp_i v1, gp_i v2, gp_i v3, gp_i v4, gp_i v5] [gp_i x2] s1 K
  exact gs_E.ret (r := (some (gp_i x2))) rfl H

set_option maxRecDepth 100000 in
/-- GatheredPoints.shift, pc 50 -/
theorem s_2845_50 {L d : Nat} {K : Option gV → gH → Prop} {s : gH} (v1 : Int) (v2 : Int) (v3 : Int) (v4 : Int) (v5 : Int) (H : gs_C L d 2855 2 [gp_r (some 1), gp_i 2] s (fun r s1 => ∃ x2, r = some (gp_i x2) ∧ K (some (gp_i x2)) s1)) : gs_E L (d + 1) 2845 50 [gp_r (some 1), gp_i v1, gp_i v2, gp_i v3, gp_i v4, gp_i v5] [] s K := by
  refine gs_E.stp (pc' := 52) (ls' := [gp_r (some 1), gp_i v1, gp_i v2, gp_i v3, gp_i v4, gp_i v5]) (st' := [gp_i 2, gp_r (some 1)]) (s' := s) 2 rfl ?_
  refine gs_E.call (args := [gp_r (some 1), gp_i 2]) (m := 2) (y' := 2855) (st' := []) rfl H (fun r s1 H => ?_)
  obtain ⟨x2, rfl, H⟩ := H
  show gs_E L (d + 1) 2845 55 [gp_r (some 1), gp_i v1, gp_i v2, gp_i v3, gp_i v4, gp_i v5] [gp_i x2] s1 K
  exact gs_E.ret (r := (some (gp_i x2))) rfl H

set_option maxRecDepth 100000 in
/-- GatheredPoints.shift, pc 112 -/
theorem s_2845_112 {L d : Nat} {K : Option gV → gH → Prop} {s : gH} (v1 : Int) (v2 : Int) (v3 : Int) (v4 : Int) (v5 : Int) (H : gs_C L d 2855 2 [gp_r (some 1), gp_i 1] s (fun r s1 => ∃ x2, r = some (gp_i x2) ∧ K (some (gp_i x2)) s1)) : gs_E L (d + 1) 2845 112 [gp_r (some 1), gp_i v1, gp_i v2, gp_i v3, gp_i v4, gp_i v5] [] s K := by
  refine gs_E.stp (pc' := 114) (ls' := [gp_r (some 1), gp_i v1, gp_i v2, gp_i v3, gp_i v4, gp_i v5]) (st' := [gp_i 1, gp_r (some 1)]) (s' := s) 2 rfl ?_
  refine gs_E.call (args := [gp_r (some 1), gp_i 1]) (m := 2) (y' := 2855) (st' := []) rfl H (fun r s1 H => ?_)
  obtain ⟨x2, rfl, H⟩ := H
  show gs_E L (d + 1) 2845 117 [gp_r (some 1), gp_i v1, gp_i v2, gp_i v3, gp_i v4, gp_i v5] [gp_i x2] s1 K
  exact gs_E.ret (r := (some (gp_i x2))) rfl H

set_option maxRecDepth 100000 in
/-- GatheredPoints.judge, pc 0 -/
theorem s_2846_e {L d : Nat} {K : Option gV → gH → Prop} {s : gH} (p0 : Int) (p1 : Int) (H : gs_C L d 1793 2 [gp_r (some 66), gp_i p0] s (fun r s1 => ∃ x2, r = some (gp_i x2) ∧ ((x2 = 0 → gs_C L d 2857 1 [gp_i p1] s1 (fun r s3 => ∃ x4, r = some (gp_i x4) ∧ ((x4 = 0 → gs_C L d 1794 2 [gp_r (some 66), gp_i p0] s3 (fun r s5 => ∃ x6, r = some (gp_i x6) ∧ ((x6 = 0 → gs_E L (d + 1) 2846 43 [gp_r (some 1), gp_i p0, gp_i p1, gp_i 0] [] s5 K) ∧ (¬ x6 = 0 → gs_C L d 2855 2 [gp_r (some 1), gp_i 2] s5 (fun r s7 => ∃ x8, r = some (gp_i x8) ∧ K (some (gp_i x8)) s7))))) ∧ (¬ x4 = 0 → gs_E L (d + 1) 2846 18 [gp_r (some 1), gp_i p0, gp_i p1, gp_n] [] s3 K)))) ∧ (¬ x2 = 0 → gs_E L (d + 1) 2846 18 [gp_r (some 1), gp_i p0, gp_i p1, gp_n] [] s1 K)))) : gs_C L (d + 1) 2846 4 [gp_r (some 1), gp_i p0, gp_i p1] s K := by
  show gs_E L (d + 1) 2846 0 [gp_r (some 1), gp_i p0, gp_i p1, gp_n] [] s K
  refine gs_E.stp (pc' := 5) (ls' := [gp_r (some 1), gp_i p0, gp_i p1, gp_n]) (st' := [gp_i p0, gp_r (some 66)]) (s' := s) 3 rfl ?_
  refine gs_E.call (args := [gp_r (some 66), gp_i p0]) (m := 2) (y' := 1793) (st' := []) rfl H (fun r s1 H => ?_)
  obtain ⟨x2, rfl, H⟩ := H
  show gs_E L (d + 1) 2846 8 [gp_r (some 1), gp_i p0, gp_i p1, gp_n] [gp_i x2] s1 K
  refine gs_E.br (c := ¬ x2 = 0) (p1 := 18) (p2 := 11) (l1 := [gp_r (some 1), gp_i p0, gp_i p1, gp_n]) (l2 := [gp_r (some 1), gp_i p0, gp_i p1, gp_n]) (s1 := []) (s2 := []) rfl gs_b2 (fun hc => ?_) (fun hc => ?_)
  · replace H := H.2 hc
    exact H
  · replace H := H.1 (Decidable.byContradiction hc)
    refine gs_E.stp (pc' := 12) (ls' := [gp_r (some 1), gp_i p0, gp_i p1, gp_n]) (st' := [gp_i p1]) (s' := s1) 1 rfl ?_
    refine gs_E.call (args := [gp_i p1]) (m := 1) (y' := 2857) (st' := []) rfl H (fun r s3 H => ?_)
    obtain ⟨x4, rfl, H⟩ := H
    show gs_E L (d + 1) 2846 15 [gp_r (some 1), gp_i p0, gp_i p1, gp_n] [gp_i x4] s3 K
    refine gs_E.br (c := x4 = 0) (p1 := 24) (p2 := 18) (l1 := [gp_r (some 1), gp_i p0, gp_i p1, gp_n]) (l2 := [gp_r (some 1), gp_i p0, gp_i p1, gp_n]) (s1 := []) (s2 := []) rfl gs_b1 (fun hc => ?_) (fun hc => ?_)
    · replace H := H.1 hc
      refine gs_E.stp (pc' := 29) (ls' := [gp_r (some 1), gp_i p0, gp_i p1, gp_n]) (st' := [gp_i p0, gp_r (some 66)]) (s' := s3) 3 rfl ?_
      refine gs_E.call (args := [gp_r (some 66), gp_i p0]) (m := 2) (y' := 1794) (st' := []) rfl H (fun r s5 H => ?_)
      obtain ⟨x6, rfl, H⟩ := H
      show gs_E L (d + 1) 2846 32 [gp_r (some 1), gp_i p0, gp_i p1, gp_n] [gp_i x6] s5 K
      refine gs_E.br (c := x6 = 0) (p1 := 41) (p2 := 35) (l1 := [gp_r (some 1), gp_i p0, gp_i p1, gp_n]) (l2 := [gp_r (some 1), gp_i p0, gp_i p1, gp_n]) (s1 := []) (s2 := []) rfl gs_b1 (fun hc => ?_) (fun hc => ?_)
      · replace H := H.1 hc
        refine gs_E.stp (pc' := 43) (ls' := [gp_r (some 1), gp_i p0, gp_i p1, gp_i 0]) (st' := []) (s' := s5) 2 rfl ?_
        exact H
      · replace H := H.2 hc
        refine gs_E.stp (pc' := 37) (ls' := [gp_r (some 1), gp_i p0, gp_i p1, gp_n]) (st' := [gp_i 2, gp_r (some 1)]) (s' := s5) 2 rfl ?_
        refine gs_E.call (args := [gp_r (some 1), gp_i 2]) (m := 2) (y' := 2855) (st' := []) rfl H (fun r s7 H => ?_)
        obtain ⟨x8, rfl, H⟩ := H
        show gs_E L (d + 1) 2846 40 [gp_r (some 1), gp_i p0, gp_i p1, gp_n] [gp_i x8] s7 K
        exact gs_E.ret (r := (some (gp_i x8))) rfl H
    · replace H := H.2 hc
      exact H

set_option maxRecDepth 100000 in
/-- GatheredPoints.judge, pc 18 -/
theorem s_2846_18 {L d : Nat} {K : Option gV → gH → Prop} {s : gH} (v1 : Int) (v2 : Int) (v3 : gV) (H : gs_C L d 2855 2 [gp_r (some 1), gp_i 1] s (fun r s1 => ∃ x2, r = some (gp_i x2) ∧ K (some (gp_i x2)) s1)) : gs_E L (d + 1) 2846 18 [gp_r (some 1), gp_i v1, gp_i v2, v3] [] s K := by
  refine gs_E.stp (pc' := 20) (ls' := [gp_r (some 1), gp_i v1, gp_i v2, v3]) (st' := [gp_i 1, gp_r (some 1)]) (s' := s) 2 rfl ?_
  refine gs_E.call (args := [gp_r (some 1), gp_i 1]) (m := 2) (y' := 2855) (st' := []) rfl H (fun r s1 H => ?_)
  obtain ⟨x2, rfl, H⟩ := H
  show gs_E L (d + 1) 2846 23 [gp_r (some 1), gp_i v1, gp_i v2, v3] [gp_i x2] s1 K
  exact gs_E.ret (r := (some (gp_i x2))) rfl H

set_option maxRecDepth 100000 in
/-- GatheredPoints.judge, pc 43 -/
theorem s_2846_43 {L d : Nat} {K : Option gV → gH → Prop} {s : gH} (v1 : Int) (v2 : Int) (v3 : Int) (H : ((0 ≤ v1 ∧ v1 < 4) ∧ ((v3 < (gp_I s 73 v1.toNat) → ((v3 < 8 → ((0 ≤ v1 ∧ v1 < 4) ∧ (∃ q1, gp_R (gp_mk L s) 67 v1.toNat = some q1 ∧ (gp_in (gp_mk L s) 100 q1 v3 ∧ ((0 ≤ v3 ∧ v3 < 8) ∧ gs_C L d 769 4 [gp_r (some 31), gp_r (gp_R (gp_mk L s) 4 v3.toNat), gp_i v2] s (fun r s2 => ∃ x3, r = some (gp_i x3) ∧ (((gp_I s q1 v3.toNat) = x3 → gs_E L (d + 1) 2846 43 [gp_r (some 1), gp_i v1, gp_i v2, gp_i (gp_wr (v3 + 1))] [] s2 K) ∧ (¬ (gp_I s q1 v3.toNat) = x3 → gs_E L (d + 1) 2846 90 [gp_r (some 1), gp_i v1, gp_i v2, gp_i v3] [] s2 K)))))))) ∧ (¬ v3 < 8 → gs_E L (d + 1) 2846 90 [gp_r (some 1), gp_i v1, gp_i v2, gp_i v3] [] s K))) ∧ (¬ v3 < (gp_I s 73 v1.toNat) → K (some (gp_i (-1))) s)))) : gs_E L (d + 1) 2846 43 [gp_r (some 1), gp_i v1, gp_i v2, gp_i v3] [] s K := by
  refine gs_E.stp (pc' := 52) (ls' := [gp_r (some 1), gp_i v1, gp_i v2, gp_i v3]) (st' := [gp_i v1, gp_r (some 73), gp_i v3]) (s' := s) 5 rfl ?_
  refine gs_E.ck (pc' := 53) (ls' := [gp_r (some 1), gp_i v1, gp_i v2, gp_i v3]) (st' := [gp_i (gp_I s 73 v1.toNat), gp_i v3]) (s' := s) rfl (Or.inl ⟨rfl, H.1.1, H.1.2⟩) ?_
  replace H := H.2
  refine gs_E.br (c := ¬ v3 < (gp_I s 73 v1.toNat)) (p1 := 98) (p2 := 56) (l1 := [gp_r (some 1), gp_i v1, gp_i v2, gp_i v3]) (l2 := [gp_r (some 1), gp_i v1, gp_i v2, gp_i v3]) (s1 := []) (s2 := []) rfl gs_b2 (fun hc => ?_) (fun hc => ?_)
  · replace H := H.2 hc
    refine gs_E.stp (pc' := 99) (ls' := [gp_r (some 1), gp_i v1, gp_i v2, gp_i v3]) (st' := [gp_i (-1)]) (s' := s) 1 rfl ?_
    exact gs_E.ret (r := (some (gp_i (-1)))) rfl H
  · replace H := H.1 (Decidable.byContradiction hc)
    refine gs_E.stp (pc' := 59) (ls' := [gp_r (some 1), gp_i v1, gp_i v2, gp_i v3]) (st' := [gp_i 8, gp_i v3]) (s' := s) 2 rfl ?_
    refine gs_E.br (c := ¬ v3 < 8) (p1 := 90) (p2 := 62) (l1 := [gp_r (some 1), gp_i v1, gp_i v2, gp_i v3]) (l2 := [gp_r (some 1), gp_i v1, gp_i v2, gp_i v3]) (s1 := []) (s2 := []) rfl gs_b2 (fun hc => ?_) (fun hc => ?_)
    · replace H := H.2 hc
      exact H
    · replace H := H.1 (Decidable.byContradiction hc)
      refine gs_E.stp (pc' := 70) (ls' := [gp_r (some 1), gp_i v1, gp_i v2, gp_i v3]) (st' := [gp_i v1, gp_r (some 67)]) (s' := s) 4 rfl ?_
      refine gs_E.ck (pc' := 71) (ls' := [gp_r (some 1), gp_i v1, gp_i v2, gp_i v3]) (st' := [gp_r (gp_R (gp_mk L s) 67 v1.toNat)]) (s' := s) rfl (Or.inr ⟨rfl, H.1.1, H.1.2⟩) ?_
      replace H := H.2
      refine gs_E.stp (pc' := 72) (ls' := [gp_r (some 1), gp_i v1, gp_i v2, gp_i v3]) (st' := [gp_i v3, gp_r (gp_R (gp_mk L s) 67 v1.toNat)]) (s' := s) 1 rfl ?_
      obtain ⟨q1, hq, H⟩ := H
      rw [hq]
      refine gs_E.ck (pc' := 73) (ls' := [gp_r (some 1), gp_i v1, gp_i v2, gp_i v3]) (st' := [gp_i (gp_I s q1 v3.toNat)]) (s' := s) rfl (Or.inl H.1) ?_
      replace H := H.2
      refine gs_E.stp (pc' := 82) (ls' := [gp_r (some 1), gp_i v1, gp_i v2, gp_i v3]) (st' := [gp_i v3, gp_r (some 4), gp_r (some 31), gp_i (gp_I s q1 v3.toNat)]) (s' := s) 5 rfl ?_
      refine gs_E.ck (pc' := 83) (ls' := [gp_r (some 1), gp_i v1, gp_i v2, gp_i v3]) (st' := [gp_r (gp_R (gp_mk L s) 4 v3.toNat), gp_r (some 31), gp_i (gp_I s q1 v3.toNat)]) (s' := s) rfl (Or.inl ⟨rfl, H.1.1, H.1.2⟩) ?_
      replace H := H.2
      refine gs_E.stp (pc' := 84) (ls' := [gp_r (some 1), gp_i v1, gp_i v2, gp_i v3]) (st' := [gp_i v2, gp_r (gp_R (gp_mk L s) 4 v3.toNat), gp_r (some 31), gp_i (gp_I s q1 v3.toNat)]) (s' := s) 1 rfl ?_
      refine gs_E.call (args := [gp_r (some 31), gp_r (gp_R (gp_mk L s) 4 v3.toNat), gp_i v2]) (m := 4) (y' := 769) (st' := [gp_i (gp_I s q1 v3.toNat)]) rfl H (fun r s2 H => ?_)
      obtain ⟨x3, rfl, H⟩ := H
      show gs_E L (d + 1) 2846 87 [gp_r (some 1), gp_i v1, gp_i v2, gp_i v3] [gp_i x3, gp_i (gp_I s q1 v3.toNat)] s2 K
      refine gs_E.br (c := (gp_I s q1 v3.toNat) = x3) (p1 := 92) (p2 := 90) (l1 := [gp_r (some 1), gp_i v1, gp_i v2, gp_i v3]) (l2 := [gp_r (some 1), gp_i v1, gp_i v2, gp_i v3]) (s1 := []) (s2 := []) rfl gs_b1 (fun hc => ?_) (fun hc => ?_)
      · replace H := H.1 hc
        refine gs_E.stp (pc' := 43) (ls' := [gp_r (some 1), gp_i v1, gp_i v2, gp_i (gp_wr (v3 + 1))]) (st' := []) (s' := s2) 2 rfl ?_
        exact H
      · replace H := H.2 hc
        exact H

set_option maxRecDepth 100000 in
/-- GatheredPoints.judge, pc 90 -/
theorem s_2846_90 {L d : Nat} {K : Option gV → gH → Prop} {s : gH} (v1 : Int) (v2 : Int) (v3 : Int) (H : K (some (gp_i v3)) s) : gs_E L (d + 1) 2846 90 [gp_r (some 1), gp_i v1, gp_i v2, gp_i v3] [] s K := by
  refine gs_E.stp (pc' := 91) (ls' := [gp_r (some 1), gp_i v1, gp_i v2, gp_i v3]) (st' := [gp_i v3]) (s' := s) 1 rfl ?_
  exact gs_E.ret (r := (some (gp_i v3))) rfl H

set_option maxRecDepth 100000 in
/-- GatheredPoints.seed, pc 0 -/
theorem s_2847_e {L d : Nat} {K : Option gV → gH → Prop} {s : gH} (p0 : Int) (H : (∀ s1, s1 = gp_wI s 1 7 p0 → K (some (gp_i (gp_I s 1 7))) s1)) : gs_C L d 2847 3 [gp_r (some 1), gp_i p0] s K := by
  show gs_E L d 2847 0 [gp_r (some 1), gp_i p0, gp_n] [] s K
  refine gs_E.stp (pc' := 10) (ls' := [gp_r (some 1), gp_i p0, gp_i (gp_I s 1 7)]) (st' := []) (s' := gp_wI s 1 7 p0) 6 rfl ?_
  replace H := H _ rfl
  generalize gp_wI s 1 7 p0 = s1 at H ⊢
  refine gs_E.stp (pc' := 11) (ls' := [gp_r (some 1), gp_i p0, gp_i (gp_I s 1 7)]) (st' := [gp_i (gp_I s 1 7)]) (s' := s1) 1 rfl ?_
  exact gs_E.ret (r := (some (gp_i (gp_I s 1 7)))) rfl H

set_option maxRecDepth 100000 in
/-- GatheredPoints.image, pc 0 -/
theorem s_2848_e {L d : Nat} {K : Option gV → gH → Prop} {s : gH}  (H : gs_E L d 2848 2 [gp_r (some 1), gp_i 0] [] s K) : gs_C L d 2848 2 [gp_r (some 1)] s K := by
  show gs_E L d 2848 0 [gp_r (some 1), gp_n] [] s K
  refine gs_E.stp (pc' := 2) (ls' := [gp_r (some 1), gp_i 0]) (st' := []) (s' := s) 2 rfl ?_
  exact H

set_option maxRecDepth 100000 in
/-- GatheredPoints.image, pc 2 -/
theorem s_2848_2 {L d : Nat} {K : Option gV → gH → Prop} {s : gH} (v1 : Int) (H : ((v1 < 8 → ((0 ≤ v1 ∧ v1 < 8) ∧ (∃ q3, gp_R (gp_mk L s) 4 v1.toNat = some q3 ∧ ((0 ≤ v1 ∧ v1 < 8) ∧ (gp_sh (gp_mk L s) q3).1 = 9 ∧ ∀ s4, s4 = gp_wR s 5 v1.toNat (some q3) → gs_E L d 2848 2 [gp_r (some 1), gp_i (gp_wr (v1 + 1))] [] s4 K)))) ∧ (¬ v1 < 8 → (∀ s1, s1 = gp_wI s 1 5 (gp_I s 1 7) → (∀ s2, s2 = gp_wI s1 1 6 (gp_wr ((gp_I s1 1 6) + 1)) → K (some (gp_i (gp_I s2 1 6))) s2))))) : gs_E L d 2848 2 [gp_r (some 1), gp_i v1] [] s K := by
  refine gs_E.stp (pc' := 5) (ls' := [gp_r (some 1), gp_i v1]) (st' := [gp_i 8, gp_i v1]) (s' := s) 2 rfl ?_
  refine gs_E.br (c := ¬ v1 < 8) (p1 := 26) (p2 := 8) (l1 := [gp_r (some 1), gp_i v1]) (l2 := [gp_r (some 1), gp_i v1]) (s1 := []) (s2 := []) rfl gs_b2 (fun hc => ?_) (fun hc => ?_)
  · replace H := H.2 hc
    refine gs_E.stp (pc' := 34) (ls' := [gp_r (some 1), gp_i v1]) (st' := []) (s' := gp_wI s 1 5 (gp_I s 1 7)) 4 rfl ?_
    replace H := H _ rfl
    generalize gp_wI s 1 5 (gp_I s 1 7) = s1 at H ⊢
    refine gs_E.stp (pc' := 44) (ls' := [gp_r (some 1), gp_i v1]) (st' := []) (s' := gp_wI s1 1 6 (gp_wr ((gp_I s1 1 6) + 1))) 6 rfl ?_
    replace H := H _ rfl
    generalize gp_wI s1 1 6 (gp_wr ((gp_I s1 1 6) + 1)) = s2 at H ⊢
    refine gs_E.stp (pc' := 48) (ls' := [gp_r (some 1), gp_i v1]) (st' := [gp_i (gp_I s2 1 6)]) (s' := s2) 2 rfl ?_
    exact gs_E.ret (r := (some (gp_i (gp_I s2 1 6)))) rfl H
  · replace H := H.1 (Decidable.byContradiction hc)
    refine gs_E.stp (pc' := 18) (ls' := [gp_r (some 1), gp_i v1]) (st' := [gp_i v1, gp_r (some 4), gp_i v1, gp_r (some 5)]) (s' := s) 6 rfl ?_
    refine gs_E.ck (pc' := 19) (ls' := [gp_r (some 1), gp_i v1]) (st' := [gp_r (gp_R (gp_mk L s) 4 v1.toNat), gp_i v1, gp_r (some 5)]) (s' := s) rfl (Or.inl ⟨rfl, H.1.1, H.1.2⟩) ?_
    replace H := H.2
    obtain ⟨q3, hq, H⟩ := H
    rw [hq]
    refine gs_E.ckR (pc' := 20) (ls' := [gp_r (some 1), gp_i v1]) (st' := []) (a := 5) (f := v1.toNat) (v := some q3) rfl ⟨⟨rfl, H.1.1, H.1.2⟩, H.2.1⟩ rfl ?_
    replace H := H.2.2 _ rfl
    generalize gp_wR s 5 v1.toNat (some q3) = s4 at H ⊢
    refine gs_E.stp (pc' := 2) (ls' := [gp_r (some 1), gp_i (gp_wr (v1 + 1))]) (st' := []) (s' := s4) 2 rfl ?_
    exact H

set_option maxRecDepth 100000 in
/-- GatheredPoints.restore, pc 0 -/
theorem s_2849_e {L d : Nat} {K : Option gV → gH → Prop} {s : gH}  (H : (((gp_I s 1 6) = 0 → gs_C L d 2855 2 [gp_r (some 1), gp_i 2] s (fun r s1 => ∃ x2, r = some (gp_i x2) ∧ K (some (gp_i x2)) s1)) ∧ (¬ (gp_I s 1 6) = 0 → gs_E L (d + 1) 2849 15 [gp_r (some 1), gp_i 0] [] s K))) : gs_C L (d + 1) 2849 2 [gp_r (some 1)] s K := by
  show gs_E L (d + 1) 2849 0 [gp_r (some 1), gp_n] [] s K
  refine gs_E.stp (pc' := 4) (ls' := [gp_r (some 1), gp_n]) (st' := [gp_i (gp_I s 1 6)]) (s' := s) 2 rfl ?_
  refine gs_E.br (c := ¬ (gp_I s 1 6) = 0) (p1 := 13) (p2 := 7) (l1 := [gp_r (some 1), gp_n]) (l2 := [gp_r (some 1), gp_n]) (s1 := []) (s2 := []) rfl gs_b2 (fun hc => ?_) (fun hc => ?_)
  · replace H := H.2 hc
    refine gs_E.stp (pc' := 15) (ls' := [gp_r (some 1), gp_i 0]) (st' := []) (s' := s) 2 rfl ?_
    exact H
  · replace H := H.1 (Decidable.byContradiction hc)
    refine gs_E.stp (pc' := 9) (ls' := [gp_r (some 1), gp_n]) (st' := [gp_i 2, gp_r (some 1)]) (s' := s) 2 rfl ?_
    refine gs_E.call (args := [gp_r (some 1), gp_i 2]) (m := 2) (y' := 2855) (st' := []) rfl H (fun r s1 H => ?_)
    obtain ⟨x2, rfl, H⟩ := H
    show gs_E L (d + 1) 2849 12 [gp_r (some 1), gp_n] [gp_i x2] s1 K
    exact gs_E.ret (r := (some (gp_i x2))) rfl H

set_option maxRecDepth 100000 in
/-- GatheredPoints.restore, pc 15 -/
theorem s_2849_15 {L d : Nat} {K : Option gV → gH → Prop} {s : gH} (v1 : Int) (H : ((v1 < 8 → ((0 ≤ v1 ∧ v1 < 8) ∧ (∃ q4, gp_R (gp_mk L s) 5 v1.toNat = some q4 ∧ ((0 ≤ v1 ∧ v1 < 8) ∧ (gp_sh (gp_mk L s) q4).1 = 9 ∧ ∀ s5, s5 = gp_wR s 4 v1.toNat (some q4) → gs_E L (d + 1) 2849 15 [gp_r (some 1), gp_i (gp_wr (v1 + 1))] [] s5 K)))) ∧ (¬ v1 < 8 → (∀ s1, s1 = gp_wI s 1 7 (gp_I s 1 5) → gs_C L d 2852 3 [gp_r (some 1)] s1 (fun r s2 => ∃ x3, r = some (gp_i x3) ∧ K (some (gp_i x3)) s2))))) : gs_E L (d + 1) 2849 15 [gp_r (some 1), gp_i v1] [] s K := by
  refine gs_E.stp (pc' := 18) (ls' := [gp_r (some 1), gp_i v1]) (st' := [gp_i 8, gp_i v1]) (s' := s) 2 rfl ?_
  refine gs_E.br (c := ¬ v1 < 8) (p1 := 39) (p2 := 21) (l1 := [gp_r (some 1), gp_i v1]) (l2 := [gp_r (some 1), gp_i v1]) (s1 := []) (s2 := []) rfl gs_b2 (fun hc => ?_) (fun hc => ?_)
  · replace H := H.2 hc
    refine gs_E.stp (pc' := 47) (ls' := [gp_r (some 1), gp_i v1]) (st' := []) (s' := gp_wI s 1 7 (gp_I s 1 5)) 4 rfl ?_
    replace H := H _ rfl
    generalize gp_wI s 1 7 (gp_I s 1 5) = s1 at H ⊢
    refine gs_E.stp (pc' := 48) (ls' := [gp_r (some 1), gp_i v1]) (st' := [gp_r (some 1)]) (s' := s1) 1 rfl ?_
    refine gs_E.call (args := [gp_r (some 1)]) (m := 3) (y' := 2852) (st' := []) rfl H (fun r s2 H => ?_)
    obtain ⟨x3, rfl, H⟩ := H
    show gs_E L (d + 1) 2849 51 [gp_r (some 1), gp_i v1] [gp_i x3] s2 K
    exact gs_E.ret (r := (some (gp_i x3))) rfl H
  · replace H := H.1 (Decidable.byContradiction hc)
    refine gs_E.stp (pc' := 31) (ls' := [gp_r (some 1), gp_i v1]) (st' := [gp_i v1, gp_r (some 5), gp_i v1, gp_r (some 4)]) (s' := s) 6 rfl ?_
    refine gs_E.ck (pc' := 32) (ls' := [gp_r (some 1), gp_i v1]) (st' := [gp_r (gp_R (gp_mk L s) 5 v1.toNat), gp_i v1, gp_r (some 4)]) (s' := s) rfl (Or.inl ⟨rfl, H.1.1, H.1.2⟩) ?_
    replace H := H.2
    obtain ⟨q4, hq, H⟩ := H
    rw [hq]
    refine gs_E.ckR (pc' := 33) (ls' := [gp_r (some 1), gp_i v1]) (st' := []) (a := 4) (f := v1.toNat) (v := some q4) rfl ⟨⟨rfl, H.1.1, H.1.2⟩, H.2.1⟩ rfl ?_
    replace H := H.2.2 _ rfl
    generalize gp_wR s 4 v1.toNat (some q4) = s5 at H ⊢
    refine gs_E.stp (pc' := 15) (ls' := [gp_r (some 1), gp_i (gp_wr (v1 + 1))]) (st' := []) (s' := s5) 2 rfl ?_
    exact H

set_option maxRecDepth 100000 in
/-- GatheredPoints.count, pc 0 -/
theorem s_2850_e {L d : Nat} {K : Option gV → gH → Prop} {s : gH} (p0 : Int) (H : ((p0 = 0 → gs_C L d 2852 3 [gp_r (some 1)] s (fun r s1 => ∃ x2, r = some (gp_i x2) ∧ K (some (gp_i x2)) s1)) ∧ (p0 = 1 → gs_C L d 2853 3 [gp_r (some 1)] s (fun r s3 => ∃ x4, r = some (gp_i x4) ∧ K (some (gp_i x4)) s3)) ∧ (p0 = 2 → K (some (gp_i (gp_I s 1 2))) s) ∧ (p0 = 3 → (((gp_I s 57 1) = 0 → gs_E L (d + 1) 2850 72 [gp_r (some 1), gp_i p0] [gp_i 0] s K) ∧ (¬ (gp_I s 57 1) = 0 → gs_E L (d + 1) 2850 72 [gp_r (some 1), gp_i p0] [gp_i (gp_I s 57 3)] s K))) ∧ (p0 = 4 → K (some (gp_i (gp_I s 1 7))) s) ∧ ((p0 < 0 ∨ 4 < p0) → gs_C L d 2855 2 [gp_r (some 1), gp_i 1] s (fun r s5 => ∃ x6, r = some (gp_i x6) ∧ K (some (gp_i x6)) s5)))) : gs_C L (d + 1) 2850 2 [gp_r (some 1), gp_i p0] s K := by
  show gs_E L (d + 1) 2850 0 [gp_r (some 1), gp_i p0] [] s K
  refine gs_E.stp (pc' := 1) (ls' := [gp_r (some 1), gp_i p0]) (st' := [gp_i p0]) (s' := s) 1 rfl ?_
  have hsw : (p0 = 0 ∨ p0 = 1 ∨ p0 = 2 ∨ p0 = 3 ∨ p0 = 4) ∨ (p0 < 0 ∨ 4 < p0) := by omega
  rcases hsw with (hsw | hsw | hsw | hsw | hsw) | hsw
  · replace H := H.1 hsw
    refine gs_E.swi (v := 0) (pc' := 36) (ls' := [gp_r (some 1), gp_i p0]) (st' := []) hsw rfl ?_
    refine gs_E.stp (pc' := 37) (ls' := [gp_r (some 1), gp_i p0]) (st' := [gp_r (some 1)]) (s' := s) 1 rfl ?_
    refine gs_E.call (args := [gp_r (some 1)]) (m := 3) (y' := 2852) (st' := []) rfl H (fun r s1 H => ?_)
    obtain ⟨x2, rfl, H⟩ := H
    show gs_E L (d + 1) 2850 40 [gp_r (some 1), gp_i p0] [gp_i x2] s1 K
    exact gs_E.ret (r := (some (gp_i x2))) rfl H
  · replace H := H.2.1 hsw
    refine gs_E.swi (v := 1) (pc' := 41) (ls' := [gp_r (some 1), gp_i p0]) (st' := []) hsw rfl ?_
    refine gs_E.stp (pc' := 42) (ls' := [gp_r (some 1), gp_i p0]) (st' := [gp_r (some 1)]) (s' := s) 1 rfl ?_
    refine gs_E.call (args := [gp_r (some 1)]) (m := 3) (y' := 2853) (st' := []) rfl H (fun r s3 H => ?_)
    obtain ⟨x4, rfl, H⟩ := H
    show gs_E L (d + 1) 2850 45 [gp_r (some 1), gp_i p0] [gp_i x4] s3 K
    exact gs_E.ret (r := (some (gp_i x4))) rfl H
  · replace H := H.2.2.1 hsw
    refine gs_E.swi (v := 2) (pc' := 46) (ls' := [gp_r (some 1), gp_i p0]) (st' := []) hsw rfl ?_
    refine gs_E.stp (pc' := 50) (ls' := [gp_r (some 1), gp_i p0]) (st' := [gp_i (gp_I s 1 2)]) (s' := s) 2 rfl ?_
    exact gs_E.ret (r := (some (gp_i (gp_I s 1 2)))) rfl H
  · replace H := H.2.2.2.1 hsw
    refine gs_E.swi (v := 3) (pc' := 51) (ls' := [gp_r (some 1), gp_i p0]) (st' := []) hsw rfl ?_
    refine gs_E.stp (pc' := 58) (ls' := [gp_r (some 1), gp_i p0]) (st' := [gp_i (gp_I s 57 1)]) (s' := s) 3 rfl ?_
    refine gs_E.br (c := (gp_I s 57 1) = 0) (p1 := 71) (p2 := 61) (l1 := [gp_r (some 1), gp_i p0]) (l2 := [gp_r (some 1), gp_i p0]) (s1 := []) (s2 := []) rfl gs_b1 (fun hc => ?_) (fun hc => ?_)
    · replace H := H.1 hc
      refine gs_E.stp (pc' := 72) (ls' := [gp_r (some 1), gp_i p0]) (st' := [gp_i 0]) (s' := s) 1 rfl ?_
      exact H
    · replace H := H.2 hc
      refine gs_E.stp (pc' := 72) (ls' := [gp_r (some 1), gp_i p0]) (st' := [gp_i (gp_I s 57 3)]) (s' := s) 4 rfl ?_
      exact H
  · replace H := H.2.2.2.2.1 hsw
    refine gs_E.swi (v := 4) (pc' := 73) (ls' := [gp_r (some 1), gp_i p0]) (st' := []) hsw rfl ?_
    refine gs_E.stp (pc' := 77) (ls' := [gp_r (some 1), gp_i p0]) (st' := [gp_i (gp_I s 1 7)]) (s' := s) 2 rfl ?_
    exact gs_E.ret (r := (some (gp_i (gp_I s 1 7)))) rfl H
  · replace H := H.2.2.2.2.2 hsw
    refine gs_E.swo (pc' := 78) (ls' := [gp_r (some 1), gp_i p0]) (st' := []) (C := p0 < 0 ∨ 4 < p0) (B := _) rfl hsw ?_
    refine gs_E.stp (pc' := 80) (ls' := [gp_r (some 1), gp_i p0]) (st' := [gp_i 1, gp_r (some 1)]) (s' := s) 2 rfl ?_
    refine gs_E.call (args := [gp_r (some 1), gp_i 1]) (m := 2) (y' := 2855) (st' := []) rfl H (fun r s5 H => ?_)
    obtain ⟨x6, rfl, H⟩ := H
    show gs_E L (d + 1) 2850 83 [gp_r (some 1), gp_i p0] [gp_i x6] s5 K
    exact gs_E.ret (r := (some (gp_i x6))) rfl H

set_option maxRecDepth 100000 in
/-- GatheredPoints.count, pc 72 -/
theorem s_2850_72 {L d : Nat} {K : Option gV → gH → Prop} {s : gH} (v1 : Int) (w0 : Int) (H : K (some (gp_i w0)) s) : gs_E L (d + 1) 2850 72 [gp_r (some 1), gp_i v1] [gp_i w0] s K := by
  exact gs_E.ret (r := (some (gp_i w0))) rfl H

set_option maxRecDepth 100000 in
/-- GatheredPoints.told, pc 0 -/
theorem s_2851_e {L d : Nat} {K : Option gV → gH → Prop} {s : gH} (p0 : Int) (H : ((p0 < 1 → gs_E L (d + 1) 2851 11 [gp_r (some 1), gp_i p0] [] s K) ∧ (¬ p0 < 1 → ((6 < p0 → gs_E L (d + 1) 2851 11 [gp_r (some 1), gp_i p0] [] s K) ∧ (¬ 6 < p0 → ((0 ≤ p0 ∧ p0 < 7) ∧ K (some (gp_i (gp_I s 2 p0.toNat))) s)))))) : gs_C L (d + 1) 2851 2 [gp_r (some 1), gp_i p0] s K := by
  show gs_E L (d + 1) 2851 0 [gp_r (some 1), gp_i p0] [] s K
  refine gs_E.stp (pc' := 2) (ls' := [gp_r (some 1), gp_i p0]) (st' := [gp_i 1, gp_i p0]) (s' := s) 2 rfl ?_
  refine gs_E.br (c := p0 < 1) (p1 := 11) (p2 := 5) (l1 := [gp_r (some 1), gp_i p0]) (l2 := [gp_r (some 1), gp_i p0]) (s1 := []) (s2 := []) rfl gs_b1 (fun hc => ?_) (fun hc => ?_)
  · replace H := H.1 hc
    exact H
  · replace H := H.2 hc
    refine gs_E.stp (pc' := 8) (ls' := [gp_r (some 1), gp_i p0]) (st' := [gp_i 6, gp_i p0]) (s' := s) 2 rfl ?_
    refine gs_E.br (c := ¬ 6 < p0) (p1 := 17) (p2 := 11) (l1 := [gp_r (some 1), gp_i p0]) (l2 := [gp_r (some 1), gp_i p0]) (s1 := []) (s2 := []) rfl gs_b2 (fun hc => ?_) (fun hc => ?_)
    · replace H := H.2 hc
      refine gs_E.stp (pc' := 22) (ls' := [gp_r (some 1), gp_i p0]) (st' := [gp_i p0, gp_r (some 2)]) (s' := s) 3 rfl ?_
      refine gs_E.ck (pc' := 23) (ls' := [gp_r (some 1), gp_i p0]) (st' := [gp_i (gp_I s 2 p0.toNat)]) (s' := s) rfl (Or.inl ⟨rfl, H.1.1, H.1.2⟩) ?_
      replace H := H.2
      exact gs_E.ret (r := (some (gp_i (gp_I s 2 p0.toNat)))) rfl H
    · replace H := H.1 (Decidable.byContradiction hc)
      exact H

set_option maxRecDepth 100000 in
/-- GatheredPoints.told, pc 11 -/
theorem s_2851_11 {L d : Nat} {K : Option gV → gH → Prop} {s : gH} (v1 : Int) (H : gs_C L d 2855 2 [gp_r (some 1), gp_i 1] s (fun r s1 => ∃ x2, r = some (gp_i x2) ∧ K (some (gp_i x2)) s1)) : gs_E L (d + 1) 2851 11 [gp_r (some 1), gp_i v1] [] s K := by
  refine gs_E.stp (pc' := 13) (ls' := [gp_r (some 1), gp_i v1]) (st' := [gp_i 1, gp_r (some 1)]) (s' := s) 2 rfl ?_
  refine gs_E.call (args := [gp_r (some 1), gp_i 1]) (m := 2) (y' := 2855) (st' := []) rfl H (fun r s1 H => ?_)
  obtain ⟨x2, rfl, H⟩ := H
  show gs_E L (d + 1) 2851 16 [gp_r (some 1), gp_i v1] [gp_i x2] s1 K
  exact gs_E.ret (r := (some (gp_i x2))) rfl H

set_option maxRecDepth 100000 in
/-- GatheredPoints.sizes, pc 0 -/
theorem s_2852_e {L d : Nat} {K : Option gV → gH → Prop} {s : gH}  (H : gs_E L d 2852 4 [gp_r (some 1), gp_i 0, gp_i 0] [] s K) : gs_C L d 2852 3 [gp_r (some 1)] s K := by
  show gs_E L d 2852 0 [gp_r (some 1), gp_n, gp_n] [] s K
  refine gs_E.stp (pc' := 4) (ls' := [gp_r (some 1), gp_i 0, gp_i 0]) (st' := []) (s' := s) 4 rfl ?_
  exact H

set_option maxRecDepth 100000 in
/-- GatheredPoints.sizes, pc 4 -/
theorem s_2852_4 {L d : Nat} {K : Option gV → gH → Prop} {s : gH} (v1 : Int) (v2 : Int) (H : ((v2 < 8 → ((0 ≤ v2 ∧ v2 < 8) ∧ (∃ q1, gp_R (gp_mk L s) 4 v2.toNat = some q1 ∧ ((gp_sh (gp_mk L s) q1).1 = 9 ∧ gs_E L d 2852 4 [gp_r (some 1), gp_i (gp_wr (v1 + (gp_I s q1 0))), gp_i (gp_wr (v2 + 1))] [] s K)))) ∧ (¬ v2 < 8 → K (some (gp_i v1)) s))) : gs_E L d 2852 4 [gp_r (some 1), gp_i v1, gp_i v2] [] s K := by
  refine gs_E.stp (pc' := 7) (ls' := [gp_r (some 1), gp_i v1, gp_i v2]) (st' := [gp_i 8, gp_i v2]) (s' := s) 2 rfl ?_
  refine gs_E.br (c := ¬ v2 < 8) (p1 := 28) (p2 := 10) (l1 := [gp_r (some 1), gp_i v1, gp_i v2]) (l2 := [gp_r (some 1), gp_i v1, gp_i v2]) (s1 := []) (s2 := []) rfl gs_b2 (fun hc => ?_) (fun hc => ?_)
  · replace H := H.2 hc
    refine gs_E.stp (pc' := 29) (ls' := [gp_r (some 1), gp_i v1, gp_i v2]) (st' := [gp_i v1]) (s' := s) 1 rfl ?_
    exact gs_E.ret (r := (some (gp_i v1))) rfl H
  · replace H := H.1 (Decidable.byContradiction hc)
    refine gs_E.stp (pc' := 16) (ls' := [gp_r (some 1), gp_i v1, gp_i v2]) (st' := [gp_i v2, gp_r (some 4), gp_i v1]) (s' := s) 4 rfl ?_
    refine gs_E.ck (pc' := 17) (ls' := [gp_r (some 1), gp_i v1, gp_i v2]) (st' := [gp_r (gp_R (gp_mk L s) 4 v2.toNat), gp_i v1]) (s' := s) rfl (Or.inl ⟨rfl, H.1.1, H.1.2⟩) ?_
    replace H := H.2
    obtain ⟨q1, hq, H⟩ := H
    rw [hq]
    refine gs_E.ck (pc' := 20) (ls' := [gp_r (some 1), gp_i v1, gp_i v2]) (st' := [gp_i (gp_I s q1 0), gp_i v1]) (s' := s) rfl H.1 ?_
    replace H := H.2
    refine gs_E.stp (pc' := 4) (ls' := [gp_r (some 1), gp_i (gp_wr (v1 + (gp_I s q1 0))), gp_i (gp_wr (v2 + 1))]) (st' := []) (s' := s) 4 rfl ?_
    exact H

set_option maxRecDepth 100000 in
/-- GatheredPoints.sureSlots, pc 0 -/
theorem s_2853_e {L d : Nat} {K : Option gV → gH → Prop} {s : gH}  (H : gs_E L (d + 1) 2853 4 [gp_r (some 1), gp_i 0, gp_i 0] [] s K) : gs_C L (d + 1) 2853 3 [gp_r (some 1)] s K := by
  show gs_E L (d + 1) 2853 0 [gp_r (some 1), gp_n, gp_n] [] s K
  refine gs_E.stp (pc' := 4) (ls' := [gp_r (some 1), gp_i 0, gp_i 0]) (st' := []) (s' := s) 4 rfl ?_
  exact H

set_option maxRecDepth 100000 in
/-- GatheredPoints.sureSlots, pc 4 -/
theorem s_2853_4 {L d : Nat} {K : Option gV → gH → Prop} {s : gH} (v1 : Int) (v2 : Int) (H : ((v2 < 8 → ((0 ≤ v2 ∧ v2 < 8) ∧ gs_C L d 776 3 [gp_r (some 31), gp_r (gp_R (gp_mk L s) 4 v2.toNat)] s (fun r s1 => ∃ x2, r = some (gp_i x2) ∧ ((x2 = 0 → gs_E L (d + 1) 2853 29 [gp_r (some 1), gp_i v1, gp_i v2] [] s1 K) ∧ (¬ x2 = 0 → gs_E L (d + 1) 2853 29 [gp_r (some 1), gp_i (gp_wr (v1 + 1)), gp_i v2] [] s1 K))))) ∧ (¬ v2 < 8 → K (some (gp_i v1)) s))) : gs_E L (d + 1) 2853 4 [gp_r (some 1), gp_i v1, gp_i v2] [] s K := by
  refine gs_E.stp (pc' := 7) (ls' := [gp_r (some 1), gp_i v1, gp_i v2]) (st' := [gp_i 8, gp_i v2]) (s' := s) 2 rfl ?_
  refine gs_E.br (c := ¬ v2 < 8) (p1 := 35) (p2 := 10) (l1 := [gp_r (some 1), gp_i v1, gp_i v2]) (l2 := [gp_r (some 1), gp_i v1, gp_i v2]) (s1 := []) (s2 := []) rfl gs_b2 (fun hc => ?_) (fun hc => ?_)
  · replace H := H.2 hc
    refine gs_E.stp (pc' := 36) (ls' := [gp_r (some 1), gp_i v1, gp_i v2]) (st' := [gp_i v1]) (s' := s) 1 rfl ?_
    exact gs_E.ret (r := (some (gp_i v1))) rfl H
  · replace H := H.1 (Decidable.byContradiction hc)
    refine gs_E.stp (pc' := 19) (ls' := [gp_r (some 1), gp_i v1, gp_i v2]) (st' := [gp_i v2, gp_r (some 4), gp_r (some 31)]) (s' := s) 5 rfl ?_
    refine gs_E.ck (pc' := 20) (ls' := [gp_r (some 1), gp_i v1, gp_i v2]) (st' := [gp_r (gp_R (gp_mk L s) 4 v2.toNat), gp_r (some 31)]) (s' := s) rfl (Or.inl ⟨rfl, H.1.1, H.1.2⟩) ?_
    replace H := H.2
    refine gs_E.call (args := [gp_r (some 31), gp_r (gp_R (gp_mk L s) 4 v2.toNat)]) (m := 3) (y' := 776) (st' := []) rfl H (fun r s1 H => ?_)
    obtain ⟨x2, rfl, H⟩ := H
    show gs_E L (d + 1) 2853 23 [gp_r (some 1), gp_i v1, gp_i v2] [gp_i x2] s1 K
    refine gs_E.br (c := x2 = 0) (p1 := 29) (p2 := 26) (l1 := [gp_r (some 1), gp_i v1, gp_i v2]) (l2 := [gp_r (some 1), gp_i v1, gp_i v2]) (s1 := []) (s2 := []) rfl gs_b1 (fun hc => ?_) (fun hc => ?_)
    · replace H := H.1 hc
      exact H
    · replace H := H.2 hc
      refine gs_E.stp (pc' := 29) (ls' := [gp_r (some 1), gp_i (gp_wr (v1 + 1)), gp_i v2]) (st' := []) (s' := s1) 1 rfl ?_
      exact H

set_option maxRecDepth 100000 in
/-- GatheredPoints.sureSlots, pc 29 -/
theorem s_2853_29 {L d : Nat} {K : Option gV → gH → Prop} {s : gH} (v1 : Int) (v2 : Int) (H : gs_E L (d + 1) 2853 4 [gp_r (some 1), gp_i v1, gp_i (gp_wr (v2 + 1))] [] s K) : gs_E L (d + 1) 2853 29 [gp_r (some 1), gp_i v1, gp_i v2] [] s K := by
  refine gs_E.stp (pc' := 4) (ls' := [gp_r (some 1), gp_i v1, gp_i (gp_wr (v2 + 1))]) (st' := []) (s' := s) 2 rfl ?_
  exact H

set_option maxRecDepth 100000 in
/-- GatheredPoints.hold, pc 0 -/
theorem s_2854_e {L d : Nat} {K : Option gV → gH → Prop} {s : gH} (p0 : Int) (p1 : Option Nat) (H : (∃ q1, p1 = some q1 ∧ ((0 ≤ p0 ∧ p0 < 8) ∧ (gp_sh (gp_mk L s) q1).1 = 9 ∧ ∀ s2, s2 = gp_wR s 4 p0.toNat (some q1) → ((gp_sh (gp_mk L s2) q1).1 = 9 ∧ K (some (gp_i (gp_I s2 q1 0))) s2)))) : gs_C L d 2854 3 [gp_r (some 1), gp_i p0, gp_r p1] s K := by
  show gs_E L d 2854 0 [gp_r (some 1), gp_i p0, gp_r p1] [] s K
  refine gs_E.stp (pc' := 6) (ls' := [gp_r (some 1), gp_i p0, gp_r p1]) (st' := [gp_r p1, gp_i p0, gp_r (some 4)]) (s' := s) 4 rfl ?_
  obtain ⟨q1, hq, H⟩ := H
  rw [hq]
  refine gs_E.ckR (pc' := 7) (ls' := [gp_r (some 1), gp_i p0, gp_r (some q1)]) (st' := []) (a := 4) (f := p0.toNat) (v := some q1) rfl ⟨⟨rfl, H.1.1, H.1.2⟩, H.2.1⟩ rfl ?_
  replace H := H.2.2 _ rfl
  generalize gp_wR s 4 p0.toNat (some q1) = s2 at H ⊢
  refine gs_E.stp (pc' := 8) (ls' := [gp_r (some 1), gp_i p0, gp_r (some q1)]) (st' := [gp_r (some q1)]) (s' := s2) 1 rfl ?_
  refine gs_E.ck (pc' := 11) (ls' := [gp_r (some 1), gp_i p0, gp_r (some q1)]) (st' := [gp_i (gp_I s2 q1 0)]) (s' := s2) rfl H.1 ?_
  replace H := H.2
  exact gs_E.ret (r := (some (gp_i (gp_I s2 q1 0)))) rfl H

set_option maxRecDepth 100000 in
/-- GatheredPoints.refused, pc 0 -/
theorem s_2855_e {L d : Nat} {K : Option gV → gH → Prop} {s : gH} (p0 : Int) (H : ((0 ≤ p0 ∧ p0 < 7) ∧ ((0 ≤ p0 ∧ p0 < 7) ∧ (∀ s1, s1 = gp_wI s 2 p0.toNat (gp_wr ((gp_I s 2 p0.toNat) + 1)) → K (some (gp_i (gp_wr ((-1000000000) - p0)))) s1)))) : gs_C L d 2855 2 [gp_r (some 1), gp_i p0] s K := by
  show gs_E L d 2855 0 [gp_r (some 1), gp_i p0] [] s K
  refine gs_E.stp (pc' := 6) (ls' := [gp_r (some 1), gp_i p0]) (st' := [gp_i p0, gp_r (some 2), gp_i p0, gp_r (some 2)]) (s' := s) 4 rfl ?_
  refine gs_E.ck (pc' := 7) (ls' := [gp_r (some 1), gp_i p0]) (st' := [gp_i (gp_I s 2 p0.toNat), gp_i p0, gp_r (some 2)]) (s' := s) rfl (Or.inl ⟨rfl, H.1.1, H.1.2⟩) ?_
  replace H := H.2
  refine gs_E.stp (pc' := 9) (ls' := [gp_r (some 1), gp_i p0]) (st' := [gp_i (gp_wr ((gp_I s 2 p0.toNat) + 1)), gp_i p0, gp_r (some 2)]) (s' := s) 2 rfl ?_
  refine gs_E.ck (pc' := 10) (ls' := [gp_r (some 1), gp_i p0]) (st' := []) (s' := gp_wI s 2 p0.toNat (gp_wr ((gp_I s 2 p0.toNat) + 1))) rfl ⟨rfl, H.1.1, H.1.2⟩ ?_
  replace H := H.2 _ rfl
  generalize gp_wI s 2 p0.toNat (gp_wr ((gp_I s 2 p0.toNat) + 1)) = s1 at H ⊢
  refine gs_E.stp (pc' := 15) (ls' := [gp_r (some 1), gp_i p0]) (st' := [gp_i (gp_wr ((-1000000000) - p0))]) (s' := s1) 3 rfl ?_
  exact gs_E.ret (r := (some (gp_i (gp_wr ((-1000000000) - p0))))) rfl H

set_option maxRecDepth 100000 in
/-- GatheredPoints.noSlot, pc 0 -/
theorem s_2856_e {L d : Nat} {K : Option gV → gH → Prop} {s : gH} (p0 : Int) (H : ((p0 < 0 → gs_E L d 2856 10 [gp_i p0] [] s K) ∧ (¬ p0 < 0 → ((p0 < 8 → gs_E L d 2856 15 [gp_i p0] [gp_i 0] s K) ∧ (¬ p0 < 8 → gs_E L d 2856 10 [gp_i p0] [] s K))))) : gs_C L d 2856 1 [gp_i p0] s K := by
  show gs_E L d 2856 0 [gp_i p0] [] s K
  refine gs_E.stp (pc' := 1) (ls' := [gp_i p0]) (st' := [gp_i p0]) (s' := s) 1 rfl ?_
  refine gs_E.br (c := p0 < 0) (p1 := 10) (p2 := 4) (l1 := [gp_i p0]) (l2 := [gp_i p0]) (s1 := []) (s2 := []) rfl gs_b1 (fun hc => ?_) (fun hc => ?_)
  · replace H := H.1 hc
    exact H
  · replace H := H.2 hc
    refine gs_E.stp (pc' := 7) (ls' := [gp_i p0]) (st' := [gp_i 8, gp_i p0]) (s' := s) 2 rfl ?_
    refine gs_E.br (c := p0 < 8) (p1 := 14) (p2 := 10) (l1 := [gp_i p0]) (l2 := [gp_i p0]) (s1 := []) (s2 := []) rfl gs_b1 (fun hc => ?_) (fun hc => ?_)
    · replace H := H.1 hc
      refine gs_E.stp (pc' := 15) (ls' := [gp_i p0]) (st' := [gp_i 0]) (s' := s) 1 rfl ?_
      exact H
    · replace H := H.2 hc
      exact H

set_option maxRecDepth 100000 in
/-- GatheredPoints.noSlot, pc 10 -/
theorem s_2856_10 {L d : Nat} {K : Option gV → gH → Prop} {s : gH} (v0 : Int) (H : gs_E L d 2856 15 [gp_i v0] [gp_i 1] s K) : gs_E L d 2856 10 [gp_i v0] [] s K := by
  refine gs_E.stp (pc' := 15) (ls' := [gp_i v0]) (st' := [gp_i 1]) (s' := s) 2 rfl ?_
  exact H

set_option maxRecDepth 100000 in
/-- GatheredPoints.noSlot, pc 15 -/
theorem s_2856_15 {L d : Nat} {K : Option gV → gH → Prop} {s : gH} (v0 : Int) (w0 : Int) (H : ((w0 = 0 ∨ w0 = 1) ∧ K (some (gp_i w0)) s)) : gs_E L d 2856 15 [gp_i v0] [gp_i w0] s K := by
  exact gs_E.retz (r := (some (gp_i w0))) rfl H.1 H.2

set_option maxRecDepth 100000 in
/-- GatheredPoints.noSide, pc 0 -/
theorem s_2857_e {L d : Nat} {K : Option gV → gH → Prop} {s : gH} (p0 : Int) (H : ((p0 = 0 → gs_E L d 2857 13 [gp_i p0] [] s K) ∧ (¬ p0 = 0 → ((p0 = 1 → gs_E L d 2857 13 [gp_i p0] [] s K) ∧ (¬ p0 = 1 → gs_E L d 2857 14 [gp_i p0] [gp_i 1] s K))))) : gs_C L d 2857 1 [gp_i p0] s K := by
  show gs_E L d 2857 0 [gp_i p0] [] s K
  refine gs_E.stp (pc' := 1) (ls' := [gp_i p0]) (st' := [gp_i p0]) (s' := s) 1 rfl ?_
  refine gs_E.br (c := p0 = 0) (p1 := 13) (p2 := 4) (l1 := [gp_i p0]) (l2 := [gp_i p0]) (s1 := []) (s2 := []) rfl gs_b1 (fun hc => ?_) (fun hc => ?_)
  · replace H := H.1 hc
    exact H
  · replace H := H.2 hc
    refine gs_E.stp (pc' := 6) (ls' := [gp_i p0]) (st' := [gp_i 1, gp_i p0]) (s' := s) 2 rfl ?_
    refine gs_E.br (c := p0 = 1) (p1 := 13) (p2 := 9) (l1 := [gp_i p0]) (l2 := [gp_i p0]) (s1 := []) (s2 := []) rfl gs_b1 (fun hc => ?_) (fun hc => ?_)
    · replace H := H.1 hc
      exact H
    · replace H := H.2 hc
      refine gs_E.stp (pc' := 14) (ls' := [gp_i p0]) (st' := [gp_i 1]) (s' := s) 2 rfl ?_
      exact H

set_option maxRecDepth 100000 in
/-- GatheredPoints.noSide, pc 13 -/
theorem s_2857_13 {L d : Nat} {K : Option gV → gH → Prop} {s : gH} (v0 : Int) (H : gs_E L d 2857 14 [gp_i v0] [gp_i 0] s K) : gs_E L d 2857 13 [gp_i v0] [] s K := by
  refine gs_E.stp (pc' := 14) (ls' := [gp_i v0]) (st' := [gp_i 0]) (s' := s) 1 rfl ?_
  exact H

set_option maxRecDepth 100000 in
/-- GatheredPoints.noSide, pc 14 -/
theorem s_2857_14 {L d : Nat} {K : Option gV → gH → Prop} {s : gH} (v0 : Int) (w0 : Int) (H : ((w0 = 0 ∨ w0 = 1) ∧ K (some (gp_i w0)) s)) : gs_E L d 2857 14 [gp_i v0] [gp_i w0] s K := by
  exact gs_E.retz (r := (some (gp_i w0))) rfl H.1 H.2

set_option maxRecDepth 100000 in
/-- GatheredPoints.noSet, pc 0 -/
theorem s_2858_e {L d : Nat} {K : Option gV → gH → Prop} {s : gH} (p0 : Int) (H : ((p0 < 1 → gs_E L (d + 1) 2858 20 [gp_i p0] [] s K) ∧ (¬ p0 < 1 → ((p0 < 256 → gs_C L d 3330 1 [gp_i p0] s (fun r s1 => ∃ x2, r = some (gp_i x2) ∧ ((3 < x2 → gs_E L (d + 1) 2858 20 [gp_i p0] [] s1 K) ∧ (¬ 3 < x2 → gs_E L (d + 1) 2858 25 [gp_i p0] [gp_i 0] s1 K)))) ∧ (¬ p0 < 256 → gs_E L (d + 1) 2858 20 [gp_i p0] [] s K))))) : gs_C L (d + 1) 2858 1 [gp_i p0] s K := by
  show gs_E L (d + 1) 2858 0 [gp_i p0] [] s K
  refine gs_E.stp (pc' := 2) (ls' := [gp_i p0]) (st' := [gp_i 1, gp_i p0]) (s' := s) 2 rfl ?_
  refine gs_E.br (c := p0 < 1) (p1 := 20) (p2 := 5) (l1 := [gp_i p0]) (l2 := [gp_i p0]) (s1 := []) (s2 := []) rfl gs_b1 (fun hc => ?_) (fun hc => ?_)
  · replace H := H.1 hc
    exact H
  · replace H := H.2 hc
    refine gs_E.stp (pc' := 9) (ls' := [gp_i p0]) (st' := [gp_i 256, gp_i p0]) (s' := s) 2 rfl ?_
    refine gs_E.br (c := ¬ p0 < 256) (p1 := 20) (p2 := 12) (l1 := [gp_i p0]) (l2 := [gp_i p0]) (s1 := []) (s2 := []) rfl gs_b2 (fun hc => ?_) (fun hc => ?_)
    · replace H := H.2 hc
      exact H
    · replace H := H.1 (Decidable.byContradiction hc)
      refine gs_E.stp (pc' := 13) (ls' := [gp_i p0]) (st' := [gp_i p0]) (s' := s) 1 rfl ?_
      refine gs_E.call (args := [gp_i p0]) (m := 1) (y' := 3330) (st' := []) rfl H (fun r s1 H => ?_)
      obtain ⟨x2, rfl, H⟩ := H
      show gs_E L (d + 1) 2858 16 [gp_i p0] [gp_i x2] s1 K
      refine gs_E.stp (pc' := 17) (ls' := [gp_i p0]) (st' := [gp_i 3, gp_i x2]) (s' := s1) 1 rfl ?_
      refine gs_E.br (c := ¬ 3 < x2) (p1 := 24) (p2 := 20) (l1 := [gp_i p0]) (l2 := [gp_i p0]) (s1 := []) (s2 := []) rfl gs_b2 (fun hc => ?_) (fun hc => ?_)
      · replace H := H.2 hc
        refine gs_E.stp (pc' := 25) (ls' := [gp_i p0]) (st' := [gp_i 0]) (s' := s1) 1 rfl ?_
        exact H
      · replace H := H.1 (Decidable.byContradiction hc)
        exact H

set_option maxRecDepth 100000 in
/-- GatheredPoints.noSet, pc 20 -/
theorem s_2858_20 {L d : Nat} {K : Option gV → gH → Prop} {s : gH} (v0 : Int) (H : gs_E L (d + 1) 2858 25 [gp_i v0] [gp_i 1] s K) : gs_E L (d + 1) 2858 20 [gp_i v0] [] s K := by
  refine gs_E.stp (pc' := 25) (ls' := [gp_i v0]) (st' := [gp_i 1]) (s' := s) 2 rfl ?_
  exact H

set_option maxRecDepth 100000 in
/-- GatheredPoints.noSet, pc 25 -/
theorem s_2858_25 {L d : Nat} {K : Option gV → gH → Prop} {s : gH} (v0 : Int) (w0 : Int) (H : ((w0 = 0 ∨ w0 = 1) ∧ K (some (gp_i w0)) s)) : gs_E L (d + 1) 2858 25 [gp_i v0] [gp_i w0] s K := by
  exact gs_E.retz (r := (some (gp_i w0))) rfl H.1 H.2

set_option maxRecDepth 100000 in
/-- GatheredPoints.lowest, pc 0 -/
theorem s_2859_e {L d : Nat} {K : Option gV → gH → Prop} {s : gH} (p0 : BitVec 64) (H : gs_C L d 3585 2 [gp_l ((p0 &&& (-p0)) - (1#64))] s (fun r s1 => ∃ x2, r = some (gp_i x2) ∧ K (some (gp_i x2)) s1)) : gs_C L (d + 1) 2859 2 [gp_l p0] s K := by
  show gs_E L (d + 1) 2859 0 [gp_l p0, gp_n] [] s K
  refine gs_E.stp (pc' := 6) (ls' := [gp_l p0, gp_n]) (st' := [gp_l ((p0 &&& (-p0)) - (1#64))]) (s' := s) 6 rfl ?_
  refine gs_E.call (args := [gp_l ((p0 &&& (-p0)) - (1#64))]) (m := 2) (y' := 3585) (st' := []) rfl H (fun r s1 H => ?_)
  obtain ⟨x2, rfl, H⟩ := H
  show gs_E L (d + 1) 2859 9 [gp_l p0, gp_n] [gp_i x2] s1 K
  exact gs_E.ret (r := (some (gp_i x2))) rfl H

set_option maxRecDepth 100000 in
/-- GatheredPoints.pick, pc 0 -/
theorem s_2860_e {L d : Nat} {K : Option gV → gH → Prop} {s : gH} (p0 : BitVec 64) (p1 : Int) (H : gs_E L (d + 1) 2860 5 [gp_l p0, gp_n, gp_i p1, gp_l p0, gp_n, gp_i 0] [] s K) : gs_C L (d + 1) 2860 6 [gp_l p0, gp_i p1] s K := by
  show gs_E L (d + 1) 2860 0 [gp_l p0, gp_n, gp_i p1, gp_n, gp_n, gp_n] [] s K
  refine gs_E.stp (pc' := 5) (ls' := [gp_l p0, gp_n, gp_i p1, gp_l p0, gp_n, gp_i 0]) (st' := []) (s' := s) 4 rfl ?_
  exact H

set_option maxRecDepth 100000 in
/-- GatheredPoints.pick, pc 5 -/
theorem s_2860_5 {L d : Nat} {K : Option gV → gH → Prop} {s : gH} (v0 : BitVec 64) (v2 : Int) (v3 : BitVec 64) (v5 : Int) (H : ((v5 < v2 → gs_E L (d + 1) 2860 5 [gp_l v0, gp_n, gp_i v2, gp_l (v3 &&& (v3 - (1#64))), gp_n, gp_i (gp_wr (v5 + 1))] [] s K) ∧ (¬ v5 < v2 → gs_C L d 2859 2 [gp_l v3] s (fun r s1 => ∃ x2, r = some (gp_i x2) ∧ K (some (gp_i x2)) s1)))) : gs_E L (d + 1) 2860 5 [gp_l v0, gp_n, gp_i v2, gp_l v3, gp_n, gp_i v5] [] s K := by
  refine gs_E.stp (pc' := 8) (ls' := [gp_l v0, gp_n, gp_i v2, gp_l v3, gp_n, gp_i v5]) (st' := [gp_i v2, gp_i v5]) (s' := s) 2 rfl ?_
  refine gs_E.br (c := ¬ v5 < v2) (p1 := 23) (p2 := 11) (l1 := [gp_l v0, gp_n, gp_i v2, gp_l v3, gp_n, gp_i v5]) (l2 := [gp_l v0, gp_n, gp_i v2, gp_l v3, gp_n, gp_i v5]) (s1 := []) (s2 := []) rfl gs_b2 (fun hc => ?_) (fun hc => ?_)
  · replace H := H.2 hc
    refine gs_E.stp (pc' := 24) (ls' := [gp_l v0, gp_n, gp_i v2, gp_l v3, gp_n, gp_i v5]) (st' := [gp_l v3]) (s' := s) 1 rfl ?_
    refine gs_E.call (args := [gp_l v3]) (m := 2) (y' := 2859) (st' := []) rfl H (fun r s1 H => ?_)
    obtain ⟨x2, rfl, H⟩ := H
    show gs_E L (d + 1) 2860 27 [gp_l v0, gp_n, gp_i v2, gp_l v3, gp_n, gp_i v5] [gp_i x2] s1 K
    exact gs_E.ret (r := (some (gp_i x2))) rfl H
  · replace H := H.1 (Decidable.byContradiction hc)
    refine gs_E.stp (pc' := 5) (ls' := [gp_l v0, gp_n, gp_i v2, gp_l (v3 &&& (v3 - (1#64))), gp_n, gp_i (gp_wr (v5 + 1))]) (st' := []) (s' := s) 8 rfl ?_
    exact H

set_option maxRecDepth 100000 in
/-- GatheredPoints.ahead, pc 0 -/
theorem s_2861_e {L d : Nat} {K : Option gV → gH → Prop} {s : gH} (p0 : BitVec 64) (p1 : Int) (H : gs_C L d 3585 2 [gp_l (p0 &&& (((1#64) <<< (p1 % 64).toNat) - (1#64)))] s (fun r s1 => ∃ x2, r = some (gp_i x2) ∧ K (some (gp_i x2)) s1)) : gs_C L (d + 1) 2861 3 [gp_l p0, gp_i p1] s K := by
  show gs_E L (d + 1) 2861 0 [gp_l p0, gp_n, gp_i p1] [] s K
  refine gs_E.stp (pc' := 7) (ls' := [gp_l p0, gp_n, gp_i p1]) (st' := [gp_l (p0 &&& (((1#64) <<< (p1 % 64).toNat) - (1#64)))]) (s' := s) 7 rfl ?_
  refine gs_E.call (args := [gp_l (p0 &&& (((1#64) <<< (p1 % 64).toNat) - (1#64)))]) (m := 2) (y' := 3585) (st' := []) rfl H (fun r s1 H => ?_)
  obtain ⟨x2, rfl, H⟩ := H
  show gs_E L (d + 1) 2861 10 [gp_l p0, gp_n, gp_i p1] [gp_i x2] s1 K
  exact gs_E.ret (r := (some (gp_i x2))) rfl H

set_option maxRecDepth 100000 in
/-- GatheredPoints.has, pc 0 -/
theorem s_2862_e {L d : Nat} {K : Option gV → gH → Prop} {s : gH} (p0 : BitVec 64) (p1 : Int) (H : (((gp_cmp ((p0 >>> (p1 % 64).toNat) &&& (1#64)) (0#64)) = 0 → gs_E L d 2862 15 [gp_l p0, gp_n, gp_i p1] [gp_i 0] s K) ∧ (¬ (gp_cmp ((p0 >>> (p1 % 64).toNat) &&& (1#64)) (0#64)) = 0 → gs_E L d 2862 15 [gp_l p0, gp_n, gp_i p1] [gp_i 1] s K))) : gs_C L d 2862 3 [gp_l p0, gp_i p1] s K := by
  show gs_E L d 2862 0 [gp_l p0, gp_n, gp_i p1] [] s K
  refine gs_E.stp (pc' := 7) (ls' := [gp_l p0, gp_n, gp_i p1]) (st' := [gp_i (gp_cmp ((p0 >>> (p1 % 64).toNat) &&& (1#64)) (0#64))]) (s' := s) 7 rfl ?_
  refine gs_E.br (c := (gp_cmp ((p0 >>> (p1 % 64).toNat) &&& (1#64)) (0#64)) = 0) (p1 := 14) (p2 := 10) (l1 := [gp_l p0, gp_n, gp_i p1]) (l2 := [gp_l p0, gp_n, gp_i p1]) (s1 := []) (s2 := []) rfl gs_b1 (fun hc => ?_) (fun hc => ?_)
  · replace H := H.1 hc
    refine gs_E.stp (pc' := 15) (ls' := [gp_l p0, gp_n, gp_i p1]) (st' := [gp_i 0]) (s' := s) 1 rfl ?_
    exact H
  · replace H := H.2 hc
    refine gs_E.stp (pc' := 15) (ls' := [gp_l p0, gp_n, gp_i p1]) (st' := [gp_i 1]) (s' := s) 2 rfl ?_
    exact H

set_option maxRecDepth 100000 in
/-- GatheredPoints.has, pc 15 -/
theorem s_2862_15 {L d : Nat} {K : Option gV → gH → Prop} {s : gH} (v0 : BitVec 64) (v2 : Int) (w0 : Int) (H : ((w0 = 0 ∨ w0 = 1) ∧ K (some (gp_i w0)) s)) : gs_E L d 2862 15 [gp_l v0, gp_n, gp_i v2] [gp_i w0] s K := by
  exact gs_E.retz (r := (some (gp_i w0))) rfl H.1 H.2

set_option maxRecDepth 100000 in
/-- GatheredPoints.carried, pc 0 -/
theorem s_2863_e {L d : Nat} {K : Option gV → gH → Prop} {s : gH} (p0 : BitVec 64) (p1 : Option Nat) (H : gs_E L (d + 1) 2863 5 [gp_l p0, gp_n, gp_r p1, gp_l (0#64), gp_n, gp_l p0, gp_n] [] s K) : gs_C L (d + 1) 2863 7 [gp_l p0, gp_r p1] s K := by
  show gs_E L (d + 1) 2863 0 [gp_l p0, gp_n, gp_r p1, gp_n, gp_n, gp_n, gp_n] [] s K
  refine gs_E.stp (pc' := 5) (ls' := [gp_l p0, gp_n, gp_r p1, gp_l (0#64), gp_n, gp_l p0, gp_n]) (st' := []) (s' := s) 4 rfl ?_
  exact H

set_option maxRecDepth 100000 in
/-- GatheredPoints.carried, pc 5 -/
theorem s_2863_5 {L d : Nat} {K : Option gV → gH → Prop} {s : gH} (v0 : BitVec 64) (v2 : Option Nat) (v3 : BitVec 64) (v5 : BitVec 64) (H : (((gp_cmp v5 (0#64)) = 0 → K (some (gp_l v3)) s) ∧ (¬ (gp_cmp v5 (0#64)) = 0 → gs_C L d 2859 2 [gp_l v5] s (fun r s1 => ∃ x2, r = some (gp_i x2) ∧ (∃ q3, v2 = some q3 ∧ (gp_in (gp_mk L s1) 100 q3 x2 ∧ gs_E L (d + 1) 2863 5 [gp_l v0, gp_n, gp_r (some q3), gp_l (v3 ||| ((1#64) <<< ((gp_I s1 q3 x2.toNat) % 64).toNat)), gp_n, gp_l (v5 &&& (v5 - (1#64))), gp_n] [] s1 K)))))) : gs_E L (d + 1) 2863 5 [gp_l v0, gp_n, gp_r v2, gp_l v3, gp_n, gp_l v5, gp_n] [] s K := by
  refine gs_E.stp (pc' := 9) (ls' := [gp_l v0, gp_n, gp_r v2, gp_l v3, gp_n, gp_l v5, gp_n]) (st' := [gp_i (gp_cmp v5 (0#64))]) (s' := s) 3 rfl ?_
  refine gs_E.br (c := (gp_cmp v5 (0#64)) = 0) (p1 := 36) (p2 := 12) (l1 := [gp_l v0, gp_n, gp_r v2, gp_l v3, gp_n, gp_l v5, gp_n]) (l2 := [gp_l v0, gp_n, gp_r v2, gp_l v3, gp_n, gp_l v5, gp_n]) (s1 := []) (s2 := []) rfl gs_b1 (fun hc => ?_) (fun hc => ?_)
  · replace H := H.1 hc
    refine gs_E.stp (pc' := 37) (ls' := [gp_l v0, gp_n, gp_r v2, gp_l v3, gp_n, gp_l v5, gp_n]) (st' := [gp_l v3]) (s' := s) 1 rfl ?_
    exact gs_E.ret (r := (some (gp_l v3))) rfl H
  · replace H := H.2 hc
    refine gs_E.stp (pc' := 17) (ls' := [gp_l v0, gp_n, gp_r v2, gp_l v3, gp_n, gp_l v5, gp_n]) (st' := [gp_l v5, gp_r v2, gp_l (1#64), gp_l v3]) (s' := s) 4 rfl ?_
    refine gs_E.call (args := [gp_l v5]) (m := 2) (y' := 2859) (st' := [gp_r v2, gp_l (1#64), gp_l v3]) rfl H (fun r s1 H => ?_)
    obtain ⟨x2, rfl, H⟩ := H
    show gs_E L (d + 1) 2863 20 [gp_l v0, gp_n, gp_r v2, gp_l v3, gp_n, gp_l v5, gp_n] [gp_i x2, gp_r v2, gp_l (1#64), gp_l v3] s1 K
    obtain ⟨q3, hq, H⟩ := H
    rw [hq]
    refine gs_E.ck (pc' := 21) (ls' := [gp_l v0, gp_n, gp_r (some q3), gp_l v3, gp_n, gp_l v5, gp_n]) (st' := [gp_i (gp_I s1 q3 x2.toNat), gp_l (1#64), gp_l v3]) (s' := s1) rfl (Or.inl H.1) ?_
    replace H := H.2
    refine gs_E.stp (pc' := 5) (ls' := [gp_l v0, gp_n, gp_r (some q3), gp_l (v3 ||| ((1#64) <<< ((gp_I s1 q3 x2.toNat) % 64).toNat)), gp_n, gp_l (v5 &&& (v5 - (1#64))), gp_n]) (st' := []) (s' := s1) 10 rfl ?_
    exact H
