set_option maxRecDepth 100000 in
/-- Match.start, pc 0 -/
theorem s_513_e {L d : Nat} {K : Option gV → gH → Prop} {s : gH} (p0 : Int) (p1 : Int) (p2 : Option Nat) (H : gs_C L d 2049 4 [gp_r (some 60), gp_i p0, gp_r p2] s (fun r s1 => r = none ∧ (∀ s2, s2 = gp_wI s1 57 1 1 → (∀ s3, s3 = gp_wI s2 57 2 p1 → (∀ s4, s4 = gp_wI s3 57 3 0 → K none s4))))) : gs_C L (d + 1) 513 4 [gp_r (some 57), gp_i p0, gp_i p1, gp_r p2] s K := by
  show gs_E L (d + 1) 513 0 [gp_r (some 57), gp_i p0, gp_i p1, gp_r p2] [] s K
  refine gs_E.stp (pc' := 6) (ls' := [gp_r (some 57), gp_i p0, gp_i p1, gp_r p2]) (st' := [gp_r p2, gp_i p0, gp_r (some 60)]) (s' := s) 4 rfl ?_
  refine gs_E.call (args := [gp_r (some 60), gp_i p0, gp_r p2]) (m := 4) (y' := 2049) (st' := []) rfl H (fun r s1 H => ?_)
  obtain ⟨rfl, H⟩ := H
  show gs_E L (d + 1) 513 9 [gp_r (some 57), gp_i p0, gp_i p1, gp_r p2] [] s1 K
  refine gs_E.stp (pc' := 14) (ls' := [gp_r (some 57), gp_i p0, gp_i p1, gp_r p2]) (st' := []) (s' := gp_wI s1 57 1 1) 3 rfl ?_
  replace H := H _ rfl
  generalize gp_wI s1 57 1 1 = s2 at H ⊢
  refine gs_E.stp (pc' := 19) (ls' := [gp_r (some 57), gp_i p0, gp_i p1, gp_r p2]) (st' := []) (s' := gp_wI s2 57 2 p1) 3 rfl ?_
  replace H := H _ rfl
  generalize gp_wI s2 57 2 p1 = s3 at H ⊢
  refine gs_E.stp (pc' := 24) (ls' := [gp_r (some 57), gp_i p0, gp_i p1, gp_r p2]) (st' := []) (s' := gp_wI s3 57 3 0) 3 rfl ?_
  replace H := H _ rfl
  generalize gp_wI s3 57 3 0 = s4 at H ⊢
  exact gs_E.ret (r := none) rfl H

set_option maxRecDepth 100000 in
/-- Match.over, pc 0 -/
theorem s_514_e {L d : Nat} {K : Option gV → gH → Prop} {s : gH}  (H : gs_C L d 2054 4 [gp_r (some 60), gp_i (gp_I s 57 2)] s (fun r s1 => ∃ x2, r = some (gp_i x2) ∧ ((x2 = 0 → gs_E L (d + 1) 514 19 [gp_r (some 57)] [gp_i 1] s1 K) ∧ (¬ x2 = 0 → gs_E L (d + 1) 514 19 [gp_r (some 57)] [gp_i 0] s1 K)))) : gs_C L (d + 1) 514 1 [gp_r (some 57)] s K := by
  show gs_E L (d + 1) 514 0 [gp_r (some 57)] [] s K
  refine gs_E.stp (pc' := 8) (ls' := [gp_r (some 57)]) (st' := [gp_i (gp_I s 57 2), gp_r (some 60)]) (s' := s) 4 rfl ?_
  refine gs_E.call (args := [gp_r (some 60), gp_i (gp_I s 57 2)]) (m := 4) (y' := 2054) (st' := []) rfl H (fun r s1 H => ?_)
  obtain ⟨x2, rfl, H⟩ := H
  show gs_E L (d + 1) 514 11 [gp_r (some 57)] [gp_i x2] s1 K
  refine gs_E.br (c := ¬ x2 = 0) (p1 := 18) (p2 := 14) (l1 := [gp_r (some 57)]) (l2 := [gp_r (some 57)]) (s1 := []) (s2 := []) rfl gs_b2 (fun hc => ?_) (fun hc => ?_)
  · replace H := H.2 hc
    refine gs_E.stp (pc' := 19) (ls' := [gp_r (some 57)]) (st' := [gp_i 0]) (s' := s1) 1 rfl ?_
    exact H
  · replace H := H.1 (Decidable.byContradiction hc)
    refine gs_E.stp (pc' := 19) (ls' := [gp_r (some 57)]) (st' := [gp_i 1]) (s' := s1) 2 rfl ?_
    exact H

set_option maxRecDepth 100000 in
/-- Match.over, pc 19 -/
theorem s_514_19 {L d : Nat} {K : Option gV → gH → Prop} {s : gH} (w0 : Int) (H : ((w0 = 0 ∨ w0 = 1) ∧ K (some (gp_i w0)) s)) : gs_E L (d + 1) 514 19 [gp_r (some 57)] [gp_i w0] s K := by
  exact gs_E.retz (r := (some (gp_i w0))) rfl H.1 H.2

set_option maxRecDepth 100000 in
/-- Match.moveAt, pc 0 -/
theorem s_515_e {L d : Nat} {K : Option gV → gH → Prop} {s : gH} (p0 : Int) (p1 : Int) (H : gs_C L d 2051 3 [gp_r (some 60), gp_i p0] s (fun r s1 => ∃ x2, r = some (gp_i x2) ∧ ((x2 < 0 → gs_E L (d + 1) 515 33 [gp_r (some 57), gp_i p0, gp_i p1, gp_i x2] [] s1 K) ∧ (¬ x2 < 0 → ((p1 < 0 → gs_E L (d + 1) 515 33 [gp_r (some 57), gp_i p0, gp_i p1, gp_i x2] [] s1 K) ∧ (¬ p1 < 0 → gs_C L d 2053 3 [gp_r (some 60), gp_i x2, gp_i (gp_I s1 57 2)] s1 (fun r s3 => ∃ x4, r = some (gp_i x4) ∧ ((p1 < x4 → gs_E L (d + 1) 515 43 [gp_r (some 57), gp_i p0, gp_i p1, gp_i x2] [gp_i (gp_wr ((gp_wr (x2 * 100)) + p1))] s3 K) ∧ (¬ p1 < x4 → gs_E L (d + 1) 515 33 [gp_r (some 57), gp_i p0, gp_i p1, gp_i x2] [] s3 K))))))))) : gs_C L (d + 1) 515 4 [gp_r (some 57), gp_i p0, gp_i p1] s K := by
  show gs_E L (d + 1) 515 0 [gp_r (some 57), gp_i p0, gp_i p1, gp_n] [] s K
  refine gs_E.stp (pc' := 5) (ls' := [gp_r (some 57), gp_i p0, gp_i p1, gp_n]) (st' := [gp_i p0, gp_r (some 60)]) (s' := s) 3 rfl ?_
  refine gs_E.call (args := [gp_r (some 60), gp_i p0]) (m := 3) (y' := 2051) (st' := []) rfl H (fun r s1 H => ?_)
  obtain ⟨x2, rfl, H⟩ := H
  show gs_E L (d + 1) 515 8 [gp_r (some 57), gp_i p0, gp_i p1, gp_n] [gp_i x2] s1 K
  refine gs_E.stp (pc' := 10) (ls' := [gp_r (some 57), gp_i p0, gp_i p1, gp_i x2]) (st' := [gp_i x2]) (s' := s1) 2 rfl ?_
  refine gs_E.br (c := x2 < 0) (p1 := 33) (p2 := 13) (l1 := [gp_r (some 57), gp_i p0, gp_i p1, gp_i x2]) (l2 := [gp_r (some 57), gp_i p0, gp_i p1, gp_i x2]) (s1 := []) (s2 := []) rfl gs_b1 (fun hc => ?_) (fun hc => ?_)
  · replace H := H.1 hc
    exact H
  · replace H := H.2 hc
    refine gs_E.stp (pc' := 14) (ls' := [gp_r (some 57), gp_i p0, gp_i p1, gp_i x2]) (st' := [gp_i p1]) (s' := s1) 1 rfl ?_
    refine gs_E.br (c := p1 < 0) (p1 := 33) (p2 := 17) (l1 := [gp_r (some 57), gp_i p0, gp_i p1, gp_i x2]) (l2 := [gp_r (some 57), gp_i p0, gp_i p1, gp_i x2]) (s1 := []) (s2 := []) rfl gs_b1 (fun hc => ?_) (fun hc => ?_)
    · replace H := H.1 hc
      exact H
    · replace H := H.2 hc
      refine gs_E.stp (pc' := 27) (ls' := [gp_r (some 57), gp_i p0, gp_i p1, gp_i x2]) (st' := [gp_i (gp_I s1 57 2), gp_i x2, gp_r (some 60), gp_i p1]) (s' := s1) 6 rfl ?_
      refine gs_E.call (args := [gp_r (some 60), gp_i x2, gp_i (gp_I s1 57 2)]) (m := 3) (y' := 2053) (st' := [gp_i p1]) rfl H (fun r s3 H => ?_)
      obtain ⟨x4, rfl, H⟩ := H
      show gs_E L (d + 1) 515 30 [gp_r (some 57), gp_i p0, gp_i p1, gp_i x2] [gp_i x4, gp_i p1] s3 K
      refine gs_E.br (c := p1 < x4) (p1 := 37) (p2 := 33) (l1 := [gp_r (some 57), gp_i p0, gp_i p1, gp_i x2]) (l2 := [gp_r (some 57), gp_i p0, gp_i p1, gp_i x2]) (s1 := []) (s2 := []) rfl gs_b1 (fun hc => ?_) (fun hc => ?_)
      · replace H := H.1 hc
        refine gs_E.stp (pc' := 43) (ls' := [gp_r (some 57), gp_i p0, gp_i p1, gp_i x2]) (st' := [gp_i (gp_wr ((gp_wr (x2 * 100)) + p1))]) (s' := s3) 5 rfl ?_
        exact H
      · replace H := H.2 hc
        exact H

set_option maxRecDepth 100000 in
/-- Match.moveAt, pc 33 -/
theorem s_515_33 {L d : Nat} {K : Option gV → gH → Prop} {s : gH} (v1 : Int) (v2 : Int) (v3 : Int) (H : gs_E L (d + 1) 515 43 [gp_r (some 57), gp_i v1, gp_i v2, gp_i v3] [gp_i (-1)] s K) : gs_E L (d + 1) 515 33 [gp_r (some 57), gp_i v1, gp_i v2, gp_i v3] [] s K := by
  refine gs_E.stp (pc' := 43) (ls' := [gp_r (some 57), gp_i v1, gp_i v2, gp_i v3]) (st' := [gp_i (-1)]) (s' := s) 2 rfl ?_
  exact H

set_option maxRecDepth 100000 in
/-- Match.moveAt, pc 43 -/
theorem s_515_43 {L d : Nat} {K : Option gV → gH → Prop} {s : gH} (v1 : Int) (v2 : Int) (v3 : Int) (w0 : Int) (H : K (some (gp_i w0)) s) : gs_E L (d + 1) 515 43 [gp_r (some 57), gp_i v1, gp_i v2, gp_i v3] [gp_i w0] s K := by
  exact gs_E.ret (r := (some (gp_i w0))) rfl H

set_option maxRecDepth 100000 in
/-- Match.make, pc 0 -/
theorem s_516_e {L d : Nat} {K : Option gV → gH → Prop} {s : gH} (p0 : Int) (H : ((p0 < 0 → gs_E L (d + 1) 516 14 [gp_r (some 57), gp_i p0, gp_n] [] s K) ∧ (¬ p0 < 0 → (((gp_I s 57 3) < 180 → ((0 ≤ (gp_I s 57 3) ∧ (gp_I s 57 3) < 180) ∧ (∀ s1, s1 = gp_wI s 58 (gp_I s 57 3).toNat p0 → ((0 ≤ (gp_wr (p0.tdiv 100)) ∧ (gp_wr (p0.tdiv 100)) < 3) ∧ ((0 ≤ (gp_I s1 57 3) ∧ (gp_I s1 57 3) < 180) ∧ (∀ s2, s2 = gp_wI s1 59 (gp_I s1 57 3).toNat (gp_I s1 62 (gp_wr (p0.tdiv 100)).toNat) → ((0 ≤ (gp_wr (p0.tdiv 100)) ∧ (gp_wr (p0.tdiv 100)) < 3) ∧ ((0 ≤ (gp_wr (p0.tdiv 100)) ∧ (gp_wr (p0.tdiv 100)) < 3) ∧ (∃ q3, gp_R (gp_mk L s2) 61 (gp_wr (p0.tdiv 100)).toNat = some q3 ∧ ((gp_sh (gp_mk L s2) q3).1 = 9 ∧ gs_C L d 2307 3 [gp_r (some q3), gp_i (gp_I s2 62 (gp_wr (p0.tdiv 100)).toNat), gp_i (gp_I s2 57 2)] s2 (fun r s4 => ∃ m5, r = some (gp_l m5) ∧ gs_C L d 2860 6 [gp_l m5, gp_i (p0.tmod 100)] s4 (fun r s6 => ∃ x7, r = some (gp_i x7) ∧ ((0 ≤ (gp_wr (p0.tdiv 100)) ∧ (gp_wr (p0.tdiv 100)) < 3) ∧ (∀ s8, s8 = gp_wI s6 62 (gp_wr (p0.tdiv 100)).toNat x7 → (∀ s9, s9 = gp_wI s8 57 3 (gp_wr ((gp_I s8 57 3) + 1)) → (∀ s10, s10 = gp_wI s9 57 2 (gp_wr (1 - (gp_I s9 57 2))) → K none s10)))))))))))))))) ∧ (¬ (gp_I s 57 3) < 180 → gs_E L (d + 1) 516 14 [gp_r (some 57), gp_i p0, gp_n] [] s K))))) : gs_C L (d + 1) 516 3 [gp_r (some 57), gp_i p0] s K := by
  show gs_E L (d + 1) 516 0 [gp_r (some 57), gp_i p0, gp_n] [] s K
  refine gs_E.stp (pc' := 1) (ls' := [gp_r (some 57), gp_i p0, gp_n]) (st' := [gp_i p0]) (s' := s) 1 rfl ?_
  refine gs_E.br (c := p0 < 0) (p1 := 14) (p2 := 4) (l1 := [gp_r (some 57), gp_i p0, gp_n]) (l2 := [gp_r (some 57), gp_i p0, gp_n]) (s1 := []) (s2 := []) rfl gs_b1 (fun hc => ?_) (fun hc => ?_)
  · replace H := H.1 hc
    exact H
  · replace H := H.2 hc
    refine gs_E.stp (pc' := 11) (ls' := [gp_r (some 57), gp_i p0, gp_n]) (st' := [gp_i 180, gp_i (gp_I s 57 3)]) (s' := s) 3 rfl ?_
    refine gs_E.br (c := (gp_I s 57 3) < 180) (p1 := 15) (p2 := 14) (l1 := [gp_r (some 57), gp_i p0, gp_n]) (l2 := [gp_r (some 57), gp_i p0, gp_n]) (s1 := []) (s2 := []) rfl gs_b1 (fun hc => ?_) (fun hc => ?_)
    · replace H := H.1 hc
      refine gs_E.stp (pc' := 29) (ls' := [gp_r (some 57), gp_i p0, gp_i (gp_wr (p0.tdiv 100))]) (st' := [gp_i p0, gp_i (gp_I s 57 3), gp_r (some 58)]) (s' := s) 9 rfl ?_
      refine gs_E.ck (pc' := 30) (ls' := [gp_r (some 57), gp_i p0, gp_i (gp_wr (p0.tdiv 100))]) (st' := []) (s' := gp_wI s 58 (gp_I s 57 3).toNat p0) rfl ⟨rfl, H.1.1, H.1.2⟩ ?_
      replace H := H.2 _ rfl
      generalize gp_wI s 58 (gp_I s 57 3).toNat p0 = s1 at H ⊢
      refine gs_E.stp (pc' := 46) (ls' := [gp_r (some 57), gp_i p0, gp_i (gp_wr (p0.tdiv 100))]) (st' := [gp_i (gp_wr (p0.tdiv 100)), gp_r (some 62), gp_i (gp_I s1 57 3), gp_r (some 59)]) (s' := s1) 8 rfl ?_
      refine gs_E.ck (pc' := 47) (ls' := [gp_r (some 57), gp_i p0, gp_i (gp_wr (p0.tdiv 100))]) (st' := [gp_i (gp_I s1 62 (gp_wr (p0.tdiv 100)).toNat), gp_i (gp_I s1 57 3), gp_r (some 59)]) (s' := s1) rfl (Or.inl ⟨rfl, H.1.1, H.1.2⟩) ?_
      replace H := H.2
      refine gs_E.ck (pc' := 48) (ls' := [gp_r (some 57), gp_i p0, gp_i (gp_wr (p0.tdiv 100))]) (st' := []) (s' := gp_wI s1 59 (gp_I s1 57 3).toNat (gp_I s1 62 (gp_wr (p0.tdiv 100)).toNat)) rfl ⟨rfl, H.1.1, H.1.2⟩ ?_
      replace H := H.2 _ rfl
      generalize gp_wI s1 59 (gp_I s1 57 3).toNat (gp_I s1 62 (gp_wr (p0.tdiv 100)).toNat) = s2 at H ⊢
      refine gs_E.stp (pc' := 64) (ls' := [gp_r (some 57), gp_i p0, gp_i (gp_wr (p0.tdiv 100))]) (st' := [gp_i (gp_wr (p0.tdiv 100)), gp_r (some 61), gp_i (gp_wr (p0.tdiv 100)), gp_r (some 62)]) (s' := s2) 8 rfl ?_
      refine gs_E.ck (pc' := 65) (ls' := [gp_r (some 57), gp_i p0, gp_i (gp_wr (p0.tdiv 100))]) (st' := [gp_r (gp_R (gp_mk L s2) 61 (gp_wr (p0.tdiv 100)).toNat), gp_i (gp_wr (p0.tdiv 100)), gp_r (some 62)]) (s' := s2) rfl (Or.inl ⟨rfl, H.1.1, H.1.2⟩) ?_
      replace H := H.2
      refine gs_E.stp (pc' := 73) (ls' := [gp_r (some 57), gp_i p0, gp_i (gp_wr (p0.tdiv 100))]) (st' := [gp_i (gp_wr (p0.tdiv 100)), gp_r (some 62), gp_r (gp_R (gp_mk L s2) 61 (gp_wr (p0.tdiv 100)).toNat), gp_i (gp_wr (p0.tdiv 100)), gp_r (some 62)]) (s' := s2) 4 rfl ?_
      refine gs_E.ck (pc' := 74) (ls' := [gp_r (some 57), gp_i p0, gp_i (gp_wr (p0.tdiv 100))]) (st' := [gp_i (gp_I s2 62 (gp_wr (p0.tdiv 100)).toNat), gp_r (gp_R (gp_mk L s2) 61 (gp_wr (p0.tdiv 100)).toNat), gp_i (gp_wr (p0.tdiv 100)), gp_r (some 62)]) (s' := s2) rfl (Or.inl ⟨rfl, H.1.1, H.1.2⟩) ?_
      replace H := H.2
      refine gs_E.stp (pc' := 78) (ls' := [gp_r (some 57), gp_i p0, gp_i (gp_wr (p0.tdiv 100))]) (st' := [gp_i (gp_I s2 57 2), gp_i (gp_I s2 62 (gp_wr (p0.tdiv 100)).toNat), gp_r (gp_R (gp_mk L s2) 61 (gp_wr (p0.tdiv 100)).toNat), gp_i (gp_wr (p0.tdiv 100)), gp_r (some 62)]) (s' := s2) 2 rfl ?_
      obtain ⟨q3, hq, H⟩ := H
      rw [hq]
      refine gs_E.callV (args := [gp_r (some q3), gp_i (gp_I s2 62 (gp_wr (p0.tdiv 100)).toNat), gp_i (gp_I s2 57 2)]) (m := 3) (y' := 2307) (st' := [gp_i (gp_wr (p0.tdiv 100)), gp_r (some 62)]) rfl H.1 H.2 (fun r s4 H => ?_)
      obtain ⟨m5, rfl, H⟩ := H
      show gs_E L (d + 1) 516 81 [gp_r (some 57), gp_i p0, gp_i (gp_wr (p0.tdiv 100))] [gp_l m5, gp_i (gp_wr (p0.tdiv 100)), gp_r (some 62)] s4 K
      refine gs_E.stp (pc' := 85) (ls' := [gp_r (some 57), gp_i p0, gp_i (gp_wr (p0.tdiv 100))]) (st' := [gp_i (p0.tmod 100), gp_l m5, gp_i (gp_wr (p0.tdiv 100)), gp_r (some 62)]) (s' := s4) 3 rfl ?_
      refine gs_E.call (args := [gp_l m5, gp_i (p0.tmod 100)]) (m := 6) (y' := 2860) (st' := [gp_i (gp_wr (p0.tdiv 100)), gp_r (some 62)]) rfl H (fun r s6 H => ?_)
      obtain ⟨x7, rfl, H⟩ := H
      show gs_E L (d + 1) 516 88 [gp_r (some 57), gp_i p0, gp_i (gp_wr (p0.tdiv 100))] [gp_i x7, gp_i (gp_wr (p0.tdiv 100)), gp_r (some 62)] s6 K
      refine gs_E.ck (pc' := 89) (ls' := [gp_r (some 57), gp_i p0, gp_i (gp_wr (p0.tdiv 100))]) (st' := []) (s' := gp_wI s6 62 (gp_wr (p0.tdiv 100)).toNat x7) rfl ⟨rfl, H.1.1, H.1.2⟩ ?_
      replace H := H.2 _ rfl
      generalize gp_wI s6 62 (gp_wr (p0.tdiv 100)).toNat x7 = s8 at H ⊢
      refine gs_E.stp (pc' := 99) (ls' := [gp_r (some 57), gp_i p0, gp_i (gp_wr (p0.tdiv 100))]) (st' := []) (s' := gp_wI s8 57 3 (gp_wr ((gp_I s8 57 3) + 1))) 6 rfl ?_
      replace H := H _ rfl
      generalize gp_wI s8 57 3 (gp_wr ((gp_I s8 57 3) + 1)) = s9 at H ⊢
      refine gs_E.stp (pc' := 109) (ls' := [gp_r (some 57), gp_i p0, gp_i (gp_wr (p0.tdiv 100))]) (st' := []) (s' := gp_wI s9 57 2 (gp_wr (1 - (gp_I s9 57 2)))) 6 rfl ?_
      replace H := H _ rfl
      generalize gp_wI s9 57 2 (gp_wr (1 - (gp_I s9 57 2))) = s10 at H ⊢
      exact gs_E.ret (r := none) rfl H
    · replace H := H.2 hc
      exact H

set_option maxRecDepth 100000 in
/-- Match.make, pc 14 -/
theorem s_516_14 {L d : Nat} {K : Option gV → gH → Prop} {s : gH} (v1 : Int) (v2 : gV) (H : K none s) : gs_E L (d + 1) 516 14 [gp_r (some 57), gp_i v1, v2] [] s K := by
  exact gs_E.ret (r := none) rfl H

set_option maxRecDepth 100000 in
/-- Match.unmake, pc 0 -/
theorem s_517_e {L d : Nat} {K : Option gV → gH → Prop} {s : gH}  (H : ((0 < (gp_I s 57 3) → (∀ s1, s1 = gp_wI s 57 3 (gp_wr ((gp_I s 57 3) - 1)) → ((0 ≤ (gp_I s1 57 3) ∧ (gp_I s1 57 3) < 180) ∧ ((0 ≤ (gp_I s1 57 3) ∧ (gp_I s1 57 3) < 180) ∧ ((0 ≤ (gp_wr ((gp_I s1 58 (gp_I s1 57 3).toNat).tdiv 100)) ∧ (gp_wr ((gp_I s1 58 (gp_I s1 57 3).toNat).tdiv 100)) < 3) ∧ (∀ s2, s2 = gp_wI s1 62 (gp_wr ((gp_I s1 58 (gp_I s1 57 3).toNat).tdiv 100)).toNat (gp_I s1 59 (gp_I s1 57 3).toNat) → (∀ s3, s3 = gp_wI s2 57 2 (gp_wr (1 - (gp_I s2 57 2))) → gs_E L d 517 56 [gp_r (some 57)] [] s3 K))))))) ∧ (¬ 0 < (gp_I s 57 3) → gs_E L d 517 56 [gp_r (some 57)] [] s K))) : gs_C L d 517 1 [gp_r (some 57)] s K := by
  show gs_E L d 517 0 [gp_r (some 57)] [] s K
  refine gs_E.stp (pc' := 4) (ls' := [gp_r (some 57)]) (st' := [gp_i (gp_I s 57 3)]) (s' := s) 2 rfl ?_
  refine gs_E.br (c := ¬ 0 < (gp_I s 57 3)) (p1 := 56) (p2 := 7) (l1 := [gp_r (some 57)]) (l2 := [gp_r (some 57)]) (s1 := []) (s2 := []) rfl gs_b2 (fun hc => ?_) (fun hc => ?_)
  · replace H := H.2 hc
    exact H
  · replace H := H.1 (Decidable.byContradiction hc)
    refine gs_E.stp (pc' := 17) (ls' := [gp_r (some 57)]) (st' := []) (s' := gp_wI s 57 3 (gp_wr ((gp_I s 57 3) - 1))) 6 rfl ?_
    replace H := H _ rfl
    generalize gp_wI s 57 3 (gp_wr ((gp_I s 57 3) - 1)) = s1 at H ⊢
    refine gs_E.stp (pc' := 32) (ls' := [gp_r (some 57)]) (st' := [gp_i (gp_I s1 57 3), gp_r (some 58), gp_r (some 62)]) (s' := s1) 7 rfl ?_
    refine gs_E.ck (pc' := 33) (ls' := [gp_r (some 57)]) (st' := [gp_i (gp_I s1 58 (gp_I s1 57 3).toNat), gp_r (some 62)]) (s' := s1) rfl (Or.inl ⟨rfl, H.1.1, H.1.2⟩) ?_
    replace H := H.2
    refine gs_E.stp (pc' := 44) (ls' := [gp_r (some 57)]) (st' := [gp_i (gp_I s1 57 3), gp_r (some 59), gp_i (gp_wr ((gp_I s1 58 (gp_I s1 57 3).toNat).tdiv 100)), gp_r (some 62)]) (s' := s1) 6 rfl ?_
    refine gs_E.ck (pc' := 45) (ls' := [gp_r (some 57)]) (st' := [gp_i (gp_I s1 59 (gp_I s1 57 3).toNat), gp_i (gp_wr ((gp_I s1 58 (gp_I s1 57 3).toNat).tdiv 100)), gp_r (some 62)]) (s' := s1) rfl (Or.inl ⟨rfl, H.1.1, H.1.2⟩) ?_
    replace H := H.2
    refine gs_E.ck (pc' := 46) (ls' := [gp_r (some 57)]) (st' := []) (s' := gp_wI s1 62 (gp_wr ((gp_I s1 58 (gp_I s1 57 3).toNat).tdiv 100)).toNat (gp_I s1 59 (gp_I s1 57 3).toNat)) rfl ⟨rfl, H.1.1, H.1.2⟩ ?_
    replace H := H.2 _ rfl
    generalize gp_wI s1 62 (gp_wr ((gp_I s1 58 (gp_I s1 57 3).toNat).tdiv 100)).toNat (gp_I s1 59 (gp_I s1 57 3).toNat) = s2 at H ⊢
    refine gs_E.stp (pc' := 56) (ls' := [gp_r (some 57)]) (st' := []) (s' := gp_wI s2 57 2 (gp_wr (1 - (gp_I s2 57 2)))) 6 rfl ?_
    replace H := H _ rfl
    generalize gp_wI s2 57 2 (gp_wr (1 - (gp_I s2 57 2))) = s3 at H ⊢
    exact H

set_option maxRecDepth 100000 in
/-- Match.unmake, pc 56 -/
theorem s_517_56 {L d : Nat} {K : Option gV → gH → Prop} {s : gH}  (H : K none s) : gs_E L d 517 56 [gp_r (some 57)] [] s K := by
  exact gs_E.ret (r := none) rfl H

set_option maxRecDepth 100000 in
/-- Measures.worth, pc 0 -/
theorem s_769_e {L d : Nat} {K : Option gV → gH → Prop} {s : gH} (p0 : Option Nat) (p1 : Int) (H : gs_E L (d + 1) 769 2 [gp_r (some 31), gp_r p0, gp_i p1, gp_i 0] [] s K) : gs_C L (d + 1) 769 4 [gp_r (some 31), gp_r p0, gp_i p1] s K := by
  show gs_E L (d + 1) 769 0 [gp_r (some 31), gp_r p0, gp_i p1, gp_n] [] s K
  refine gs_E.stp (pc' := 2) (ls' := [gp_r (some 31), gp_r p0, gp_i p1, gp_i 0]) (st' := []) (s' := s) 2 rfl ?_
  exact H

set_option maxRecDepth 100000 in
/-- Measures.worth, pc 2 -/
theorem s_769_2 {L d : Nat} {K : Option gV → gH → Prop} {s : gH} (v1 : Option Nat) (v2 : Int) (v3 : Int) (H : (∃ q1, v1 = some q1 ∧ ((gp_sh (gp_mk L s) q1).1 = 9 ∧ ((v3 < (gp_I s q1 0) → gs_C L d 772 7 [gp_r (some 31), gp_r (some q1), gp_i v3, gp_i 0] s (fun r s4 => r = none ∧ gs_E L (d + 1) 769 2 [gp_r (some 31), gp_r (some q1), gp_i v2, gp_i (gp_wr (v3 + 1))] [] s4 K)) ∧ (¬ v3 < (gp_I s q1 0) → ((gp_sh (gp_mk L s) q1).1 = 9 ∧ gs_C L d 2306 1 [gp_r (some q1)] s (fun r s2 => ∃ x3, r = some (gp_i x3) ∧ ((v2 = 0 → ((0 ≤ (gp_wr (x3 * 61)) ∧ (gp_wr (x3 * 61)) < 3721) ∧ gs_E L (d + 1) 769 50 [gp_r (some 31), gp_r (some q1), gp_i v2, gp_i (gp_wr (x3 * 61))] [gp_i (gp_I s2 32 (gp_wr (x3 * 61)).toNat)] s2 K)) ∧ (¬ v2 = 0 → ((0 ≤ (gp_wr (x3 * 61)) ∧ (gp_wr (x3 * 61)) < 3721) ∧ gs_E L (d + 1) 769 50 [gp_r (some 31), gp_r (some q1), gp_i v2, gp_i (gp_wr (x3 * 61))] [gp_i (gp_I s2 33 (gp_wr (x3 * 61)).toNat)] s2 K)))))))))) : gs_E L (d + 1) 769 2 [gp_r (some 31), gp_r v1, gp_i v2, gp_i v3] [] s K := by
  refine gs_E.stp (pc' := 4) (ls' := [gp_r (some 31), gp_r v1, gp_i v2, gp_i v3]) (st' := [gp_r v1, gp_i v3]) (s' := s) 2 rfl ?_
  obtain ⟨q1, hq, H⟩ := H
  rw [hq]
  refine gs_E.ck (pc' := 7) (ls' := [gp_r (some 31), gp_r (some q1), gp_i v2, gp_i v3]) (st' := [gp_i (gp_I s q1 0), gp_i v3]) (s' := s) rfl H.1 ?_
  replace H := H.2
  refine gs_E.br (c := ¬ v3 < (gp_I s q1 0)) (p1 := 23) (p2 := 10) (l1 := [gp_r (some 31), gp_r (some q1), gp_i v2, gp_i v3]) (l2 := [gp_r (some 31), gp_r (some q1), gp_i v2, gp_i v3]) (s1 := []) (s2 := []) rfl gs_b2 (fun hc => ?_) (fun hc => ?_)
  · replace H := H.2 hc
    refine gs_E.stp (pc' := 24) (ls' := [gp_r (some 31), gp_r (some q1), gp_i v2, gp_i v3]) (st' := [gp_r (some q1)]) (s' := s) 1 rfl ?_
    refine gs_E.callV (args := [gp_r (some q1)]) (m := 1) (y' := 2306) (st' := []) rfl H.1 H.2 (fun r s2 H => ?_)
    obtain ⟨x3, rfl, H⟩ := H
    show gs_E L (d + 1) 769 27 [gp_r (some 31), gp_r (some q1), gp_i v2, gp_i v3] [gp_i x3] s2 K
    refine gs_E.stp (pc' := 32) (ls' := [gp_r (some 31), gp_r (some q1), gp_i v2, gp_i (gp_wr (x3 * 61))]) (st' := [gp_i v2]) (s' := s2) 4 rfl ?_
    refine gs_E.br (c := ¬ v2 = 0) (p1 := 44) (p2 := 35) (l1 := [gp_r (some 31), gp_r (some q1), gp_i v2, gp_i (gp_wr (x3 * 61))]) (l2 := [gp_r (some 31), gp_r (some q1), gp_i v2, gp_i (gp_wr (x3 * 61))]) (s1 := []) (s2 := []) rfl gs_b2 (fun hc => ?_) (fun hc => ?_)
    · replace H := H.2 hc
      refine gs_E.stp (pc' := 49) (ls' := [gp_r (some 31), gp_r (some q1), gp_i v2, gp_i (gp_wr (x3 * 61))]) (st' := [gp_i (gp_wr (x3 * 61)), gp_r (some 33)]) (s' := s2) 3 rfl ?_
      refine gs_E.ck (pc' := 50) (ls' := [gp_r (some 31), gp_r (some q1), gp_i v2, gp_i (gp_wr (x3 * 61))]) (st' := [gp_i (gp_I s2 33 (gp_wr (x3 * 61)).toNat)]) (s' := s2) rfl (Or.inl ⟨rfl, H.1.1, H.1.2⟩) ?_
      replace H := H.2
      exact H
    · replace H := H.1 (Decidable.byContradiction hc)
      refine gs_E.stp (pc' := 40) (ls' := [gp_r (some 31), gp_r (some q1), gp_i v2, gp_i (gp_wr (x3 * 61))]) (st' := [gp_i (gp_wr (x3 * 61)), gp_r (some 32)]) (s' := s2) 3 rfl ?_
      refine gs_E.ck (pc' := 41) (ls' := [gp_r (some 31), gp_r (some q1), gp_i v2, gp_i (gp_wr (x3 * 61))]) (st' := [gp_i (gp_I s2 32 (gp_wr (x3 * 61)).toNat)]) (s' := s2) rfl (Or.inl ⟨rfl, H.1.1, H.1.2⟩) ?_
      replace H := H.2
      refine gs_E.stp (pc' := 50) (ls' := [gp_r (some 31), gp_r (some q1), gp_i v2, gp_i (gp_wr (x3 * 61))]) (st' := [gp_i (gp_I s2 32 (gp_wr (x3 * 61)).toNat)]) (s' := s2) 1 rfl ?_
      exact H
  · replace H := H.1 (Decidable.byContradiction hc)
    refine gs_E.stp (pc' := 14) (ls' := [gp_r (some 31), gp_r (some q1), gp_i v2, gp_i v3]) (st' := [gp_i 0, gp_i v3, gp_r (some q1), gp_r (some 31)]) (s' := s) 4 rfl ?_
    refine gs_E.call (args := [gp_r (some 31), gp_r (some q1), gp_i v3, gp_i 0]) (m := 7) (y' := 772) (st' := []) rfl H (fun r s4 H => ?_)
    obtain ⟨rfl, H⟩ := H
    show gs_E L (d + 1) 769 17 [gp_r (some 31), gp_r (some q1), gp_i v2, gp_i v3] [] s4 K
    refine gs_E.stp (pc' := 2) (ls' := [gp_r (some 31), gp_r (some q1), gp_i v2, gp_i (gp_wr (v3 + 1))]) (st' := []) (s' := s4) 2 rfl ?_
    exact H

set_option maxRecDepth 100000 in
/-- Measures.worth, pc 50 -/
theorem s_769_50 {L d : Nat} {K : Option gV → gH → Prop} {s : gH} (v1 : Option Nat) (v2 : Int) (v3 : Int) (w0 : Int) (H : K (some (gp_i w0)) s) : gs_E L (d + 1) 769 50 [gp_r (some 31), gp_r v1, gp_i v2, gp_i v3] [gp_i w0] s K := by
  exact gs_E.ret (r := (some (gp_i w0))) rfl H

set_option maxRecDepth 100000 in
/-- Measures.bound, pc 0 -/
theorem s_770_e {L d : Nat} {K : Option gV → gH → Prop} {s : gH} (p0 : Option Nat) (H : (∃ q1, p0 = some q1 ∧ ((gp_sh (gp_mk L s) q1).1 = 9 ∧ ((gp_R (gp_mk L s) q1 6 = none → ((gp_sh (gp_mk L s) q1).1 = 9 ∧ gs_C L d 2305 1 [gp_r (some q1)] s (fun r s3 => r = none ∧ ((gp_sh (gp_mk L s3) q1).1 = 9 ∧ ((gp_sh (gp_mk L s3) q1).1 = 9 ∧ gs_C L d 2306 1 [gp_r (some q1)] s3 (fun r s4 => ∃ x5, r = some (gp_i x5) ∧ (∃ q6, gp_R (gp_mk L s3) q1 5 = some q6 ∧ (gp_in (gp_mk L s4) 100 q6 x5 ∧ gs_E L (d + 1) 770 25 [gp_r (some 31), gp_r (some q1), gp_i (gp_wr ((gp_I s4 q6 x5.toNat) + 1)), gp_i 0] [] s4 K)))))))) ∧ ∀ q2, gp_R (gp_mk L s) q1 6 = some q2 → gs_E L (d + 1) 770 46 [gp_r (some 31), gp_r (some q1), gp_n, gp_n] [] s K)))) : gs_C L (d + 1) 770 4 [gp_r (some 31), gp_r p0] s K := by
  show gs_E L (d + 1) 770 0 [gp_r (some 31), gp_r p0, gp_n, gp_n] [] s K
  refine gs_E.stp (pc' := 1) (ls' := [gp_r (some 31), gp_r p0, gp_n, gp_n]) (st' := [gp_r p0]) (s' := s) 1 rfl ?_
  obtain ⟨q1, hq, H⟩ := H
  rw [hq]
  refine gs_E.ck (pc' := 4) (ls' := [gp_r (some 31), gp_r (some q1), gp_n, gp_n]) (st' := [gp_r (gp_R (gp_mk L s) q1 6)]) (s' := s) rfl H.1 ?_
  replace H := H.2
  cases hq : gp_R (gp_mk L s) q1 6 with
  | none =>
    replace H := H.1 hq
    refine gs_E.stp (pc' := 7) (ls' := [gp_r (some 31), gp_r (some q1), gp_n, gp_n]) (st' := []) (s' := s) 1 rfl ?_
    refine gs_E.stp (pc' := 8) (ls' := [gp_r (some 31), gp_r (some q1), gp_n, gp_n]) (st' := [gp_r (some q1)]) (s' := s) 1 rfl ?_
    refine gs_E.callV (args := [gp_r (some q1)]) (m := 1) (y' := 2305) (st' := []) rfl H.1 H.2 (fun r s3 H => ?_)
    obtain ⟨rfl, H⟩ := H
    show gs_E L (d + 1) 770 11 [gp_r (some 31), gp_r (some q1), gp_n, gp_n] [] s3 K
    refine gs_E.stp (pc' := 12) (ls' := [gp_r (some 31), gp_r (some q1), gp_n, gp_n]) (st' := [gp_r (some q1)]) (s' := s3) 1 rfl ?_
    refine gs_E.ck (pc' := 15) (ls' := [gp_r (some 31), gp_r (some q1), gp_n, gp_n]) (st' := [gp_r (gp_R (gp_mk L s3) q1 5)]) (s' := s3) rfl H.1 ?_
    replace H := H.2
    refine gs_E.stp (pc' := 16) (ls' := [gp_r (some 31), gp_r (some q1), gp_n, gp_n]) (st' := [gp_r (some q1), gp_r (gp_R (gp_mk L s3) q1 5)]) (s' := s3) 1 rfl ?_
    refine gs_E.callV (args := [gp_r (some q1)]) (m := 1) (y' := 2306) (st' := [gp_r (gp_R (gp_mk L s3) q1 5)]) rfl H.1 H.2 (fun r s4 H => ?_)
    obtain ⟨x5, rfl, H⟩ := H
    show gs_E L (d + 1) 770 19 [gp_r (some 31), gp_r (some q1), gp_n, gp_n] [gp_i x5, gp_r (gp_R (gp_mk L s3) q1 5)] s4 K
    obtain ⟨q6, hq, H⟩ := H
    rw [hq]
    refine gs_E.ck (pc' := 20) (ls' := [gp_r (some 31), gp_r (some q1), gp_n, gp_n]) (st' := [gp_i (gp_I s4 q6 x5.toNat)]) (s' := s4) rfl (Or.inl H.1) ?_
    replace H := H.2
    refine gs_E.stp (pc' := 25) (ls' := [gp_r (some 31), gp_r (some q1), gp_i (gp_wr ((gp_I s4 q6 x5.toNat) + 1)), gp_i 0]) (st' := []) (s' := s4) 5 rfl ?_
    exact H
  | some q2 =>
    replace H := H.2 q2 hq
    refine gs_E.stp (pc' := 46) (ls' := [gp_r (some 31), gp_r (some q1), gp_n, gp_n]) (st' := []) (s' := s) 1 rfl ?_
    exact H

set_option maxRecDepth 100000 in
/-- Measures.bound, pc 25 -/
theorem s_770_25 {L d : Nat} {K : Option gV → gH → Prop} {s : gH} (v1 : Option Nat) (v2 : Int) (v3 : Int) (H : (∃ q1, v1 = some q1 ∧ ((gp_sh (gp_mk L s) q1).1 = 9 ∧ ((v3 < (gp_I s q1 0) → gs_C L d 771 6 [gp_r (some 31), gp_r (some q1), gp_i v3, gp_i v2] s (fun r s2 => r = none ∧ gs_E L (d + 1) 770 25 [gp_r (some 31), gp_r (some q1), gp_i v2, gp_i (gp_wr (v3 + 1))] [] s2 K)) ∧ (¬ v3 < (gp_I s q1 0) → gs_E L (d + 1) 770 46 [gp_r (some 31), gp_r (some q1), gp_i v2, gp_i v3] [] s K))))) : gs_E L (d + 1) 770 25 [gp_r (some 31), gp_r v1, gp_i v2, gp_i v3] [] s K := by
  refine gs_E.stp (pc' := 27) (ls' := [gp_r (some 31), gp_r v1, gp_i v2, gp_i v3]) (st' := [gp_r v1, gp_i v3]) (s' := s) 2 rfl ?_
  obtain ⟨q1, hq, H⟩ := H
  rw [hq]
  refine gs_E.ck (pc' := 30) (ls' := [gp_r (some 31), gp_r (some q1), gp_i v2, gp_i v3]) (st' := [gp_i (gp_I s q1 0), gp_i v3]) (s' := s) rfl H.1 ?_
  replace H := H.2
  refine gs_E.br (c := ¬ v3 < (gp_I s q1 0)) (p1 := 46) (p2 := 33) (l1 := [gp_r (some 31), gp_r (some q1), gp_i v2, gp_i v3]) (l2 := [gp_r (some 31), gp_r (some q1), gp_i v2, gp_i v3]) (s1 := []) (s2 := []) rfl gs_b2 (fun hc => ?_) (fun hc => ?_)
  · replace H := H.2 hc
    exact H
  · replace H := H.1 (Decidable.byContradiction hc)
    refine gs_E.stp (pc' := 37) (ls' := [gp_r (some 31), gp_r (some q1), gp_i v2, gp_i v3]) (st' := [gp_i v2, gp_i v3, gp_r (some q1), gp_r (some 31)]) (s' := s) 4 rfl ?_
    refine gs_E.call (args := [gp_r (some 31), gp_r (some q1), gp_i v3, gp_i v2]) (m := 6) (y' := 771) (st' := []) rfl H (fun r s2 H => ?_)
    obtain ⟨rfl, H⟩ := H
    show gs_E L (d + 1) 770 40 [gp_r (some 31), gp_r (some q1), gp_i v2, gp_i v3] [] s2 K
    refine gs_E.stp (pc' := 25) (ls' := [gp_r (some 31), gp_r (some q1), gp_i v2, gp_i (gp_wr (v3 + 1))]) (st' := []) (s' := s2) 2 rfl ?_
    exact H

set_option maxRecDepth 100000 in
/-- Measures.bound, pc 46 -/
theorem s_770_46 {L d : Nat} {K : Option gV → gH → Prop} {s : gH} (v1 : Option Nat) (v2 : gV) (v3 : gV) (H : K none s) : gs_E L (d + 1) 770 46 [gp_r (some 31), gp_r v1, v2, v3] [] s K := by
  exact gs_E.ret (r := none) rfl H

set_option maxRecDepth 100000 in
/-- Measures.measure, pc 0 -/
theorem s_771_e {L d : Nat} {K : Option gV → gH → Prop} {s : gH} (p0 : Option Nat) (p1 : Int) (p2 : Int) (H : gs_C L d 772 7 [gp_r (some 31), gp_r p0, gp_i p1, gp_i p2] s (fun r s1 => r = none ∧ gs_C L d 773 7 [gp_r (some 31), gp_r p0, gp_i p1, gp_i p2] s1 (fun r s2 => r = none ∧ (∃ q3, p0 = some q3 ∧ ((gp_sh (gp_mk L s2) q3).1 = 9 ∧ ((0 ≤ (gp_wr (p1 * 61)) ∧ (gp_wr (p1 * 61)) < 3721) ∧ (∃ q4, gp_R (gp_mk L s2) q3 7 = some q4 ∧ (gp_in (gp_mk L s2) 100 q4 p1 ∧ ∀ s5, s5 = gp_wI s2 q4 p1.toNat (gp_I s2 33 (gp_wr (p1 * 61)).toNat) → ((gp_sh (gp_mk L s5) q3).1 = 9 ∧ (∃ q6, gp_R (gp_mk L s5) q3 8 = some q6 ∧ (gp_in (gp_mk L s5) 100 q6 p1 ∧ ∀ s7, s7 = gp_wI s5 q6 p1.toNat 0 → ((gp_sh (gp_mk L s7) q3).1 = 9 ∧ ((0 ≤ (gp_wr (p1 * 61)) ∧ (gp_wr (p1 * 61)) < 3721) ∧ (∃ q8, gp_R (gp_mk L s7) q3 6 = some q8 ∧ (gp_in (gp_mk L s7) 100 q8 p1 ∧ ∀ s9, s9 = gp_wI s7 q8 p1.toNat (gp_I s7 34 (gp_wr (p1 * 61)).toNat) → ((gp_sh (gp_mk L s9) q3).1 = 9 ∧ (∃ q10, gp_R (gp_mk L s9) q3 9 = some q10 ∧ (gp_in (gp_mk L s9) 100 q10 p1 ∧ ∀ s11, s11 = gp_wI s9 q10 p1.toNat 0 → gs_E L (d + 1) 771 63 [gp_r (some 31), gp_r (some q3), gp_i p1, gp_i p2, gp_i (gp_wr (p1 * 61)), gp_i 1] [] s11 K)))))))))))))))))) : gs_C L (d + 1) 771 6 [gp_r (some 31), gp_r p0, gp_i p1, gp_i p2] s K := by
  show gs_E L (d + 1) 771 0 [gp_r (some 31), gp_r p0, gp_i p1, gp_i p2, gp_n, gp_n] [] s K
  refine gs_E.stp (pc' := 4) (ls' := [gp_r (some 31), gp_r p0, gp_i p1, gp_i p2, gp_n, gp_n]) (st' := [gp_i p2, gp_i p1, gp_r p0, gp_r (some 31)]) (s' := s) 4 rfl ?_
  refine gs_E.call (args := [gp_r (some 31), gp_r p0, gp_i p1, gp_i p2]) (m := 7) (y' := 772) (st' := []) rfl H (fun r s1 H => ?_)
  obtain ⟨rfl, H⟩ := H
  show gs_E L (d + 1) 771 7 [gp_r (some 31), gp_r p0, gp_i p1, gp_i p2, gp_n, gp_n] [] s1 K
  refine gs_E.stp (pc' := 11) (ls' := [gp_r (some 31), gp_r p0, gp_i p1, gp_i p2, gp_n, gp_n]) (st' := [gp_i p2, gp_i p1, gp_r p0, gp_r (some 31)]) (s' := s1) 4 rfl ?_
  refine gs_E.call (args := [gp_r (some 31), gp_r p0, gp_i p1, gp_i p2]) (m := 7) (y' := 773) (st' := []) rfl H (fun r s2 H => ?_)
  obtain ⟨rfl, H⟩ := H
  show gs_E L (d + 1) 771 14 [gp_r (some 31), gp_r p0, gp_i p1, gp_i p2, gp_n, gp_n] [] s2 K
  refine gs_E.stp (pc' := 21) (ls' := [gp_r (some 31), gp_r p0, gp_i p1, gp_i p2, gp_i (gp_wr (p1 * 61)), gp_n]) (st' := [gp_r p0]) (s' := s2) 5 rfl ?_
  obtain ⟨q3, hq, H⟩ := H
  rw [hq]
  refine gs_E.ck (pc' := 24) (ls' := [gp_r (some 31), gp_r (some q3), gp_i p1, gp_i p2, gp_i (gp_wr (p1 * 61)), gp_n]) (st' := [gp_r (gp_R (gp_mk L s2) q3 7)]) (s' := s2) rfl H.1 ?_
  replace H := H.2
  refine gs_E.stp (pc' := 31) (ls' := [gp_r (some 31), gp_r (some q3), gp_i p1, gp_i p2, gp_i (gp_wr (p1 * 61)), gp_n]) (st' := [gp_i (gp_wr (p1 * 61)), gp_r (some 33), gp_i p1, gp_r (gp_R (gp_mk L s2) q3 7)]) (s' := s2) 4 rfl ?_
  refine gs_E.ck (pc' := 32) (ls' := [gp_r (some 31), gp_r (some q3), gp_i p1, gp_i p2, gp_i (gp_wr (p1 * 61)), gp_n]) (st' := [gp_i (gp_I s2 33 (gp_wr (p1 * 61)).toNat), gp_i p1, gp_r (gp_R (gp_mk L s2) q3 7)]) (s' := s2) rfl (Or.inl ⟨rfl, H.1.1, H.1.2⟩) ?_
  replace H := H.2
  obtain ⟨q4, hq, H⟩ := H
  rw [hq]
  refine gs_E.ck (pc' := 33) (ls' := [gp_r (some 31), gp_r (some q3), gp_i p1, gp_i p2, gp_i (gp_wr (p1 * 61)), gp_n]) (st' := []) (s' := gp_wI s2 q4 p1.toNat (gp_I s2 33 (gp_wr (p1 * 61)).toNat)) rfl H.1 ?_
  replace H := H.2 _ rfl
  generalize gp_wI s2 q4 p1.toNat (gp_I s2 33 (gp_wr (p1 * 61)).toNat) = s5 at H ⊢
  refine gs_E.stp (pc' := 34) (ls' := [gp_r (some 31), gp_r (some q3), gp_i p1, gp_i p2, gp_i (gp_wr (p1 * 61)), gp_n]) (st' := [gp_r (some q3)]) (s' := s5) 1 rfl ?_
  refine gs_E.ck (pc' := 37) (ls' := [gp_r (some 31), gp_r (some q3), gp_i p1, gp_i p2, gp_i (gp_wr (p1 * 61)), gp_n]) (st' := [gp_r (gp_R (gp_mk L s5) q3 8)]) (s' := s5) rfl H.1 ?_
  replace H := H.2
  refine gs_E.stp (pc' := 39) (ls' := [gp_r (some 31), gp_r (some q3), gp_i p1, gp_i p2, gp_i (gp_wr (p1 * 61)), gp_n]) (st' := [gp_i 0, gp_i p1, gp_r (gp_R (gp_mk L s5) q3 8)]) (s' := s5) 2 rfl ?_
  obtain ⟨q6, hq, H⟩ := H
  rw [hq]
  refine gs_E.ck (pc' := 40) (ls' := [gp_r (some 31), gp_r (some q3), gp_i p1, gp_i p2, gp_i (gp_wr (p1 * 61)), gp_n]) (st' := []) (s' := gp_wI s5 q6 p1.toNat 0) rfl H.1 ?_
  replace H := H.2 _ rfl
  generalize gp_wI s5 q6 p1.toNat 0 = s7 at H ⊢
  refine gs_E.stp (pc' := 41) (ls' := [gp_r (some 31), gp_r (some q3), gp_i p1, gp_i p2, gp_i (gp_wr (p1 * 61)), gp_n]) (st' := [gp_r (some q3)]) (s' := s7) 1 rfl ?_
  refine gs_E.ck (pc' := 44) (ls' := [gp_r (some 31), gp_r (some q3), gp_i p1, gp_i p2, gp_i (gp_wr (p1 * 61)), gp_n]) (st' := [gp_r (gp_R (gp_mk L s7) q3 6)]) (s' := s7) rfl H.1 ?_
  replace H := H.2
  refine gs_E.stp (pc' := 51) (ls' := [gp_r (some 31), gp_r (some q3), gp_i p1, gp_i p2, gp_i (gp_wr (p1 * 61)), gp_n]) (st' := [gp_i (gp_wr (p1 * 61)), gp_r (some 34), gp_i p1, gp_r (gp_R (gp_mk L s7) q3 6)]) (s' := s7) 4 rfl ?_
  refine gs_E.ck (pc' := 52) (ls' := [gp_r (some 31), gp_r (some q3), gp_i p1, gp_i p2, gp_i (gp_wr (p1 * 61)), gp_n]) (st' := [gp_i (gp_I s7 34 (gp_wr (p1 * 61)).toNat), gp_i p1, gp_r (gp_R (gp_mk L s7) q3 6)]) (s' := s7) rfl (Or.inl ⟨rfl, H.1.1, H.1.2⟩) ?_
  replace H := H.2
  obtain ⟨q8, hq, H⟩ := H
  rw [hq]
  refine gs_E.ck (pc' := 53) (ls' := [gp_r (some 31), gp_r (some q3), gp_i p1, gp_i p2, gp_i (gp_wr (p1 * 61)), gp_n]) (st' := []) (s' := gp_wI s7 q8 p1.toNat (gp_I s7 34 (gp_wr (p1 * 61)).toNat)) rfl H.1 ?_
  replace H := H.2 _ rfl
  generalize gp_wI s7 q8 p1.toNat (gp_I s7 34 (gp_wr (p1 * 61)).toNat) = s9 at H ⊢
  refine gs_E.stp (pc' := 54) (ls' := [gp_r (some 31), gp_r (some q3), gp_i p1, gp_i p2, gp_i (gp_wr (p1 * 61)), gp_n]) (st' := [gp_r (some q3)]) (s' := s9) 1 rfl ?_
  refine gs_E.ck (pc' := 57) (ls' := [gp_r (some 31), gp_r (some q3), gp_i p1, gp_i p2, gp_i (gp_wr (p1 * 61)), gp_n]) (st' := [gp_r (gp_R (gp_mk L s9) q3 9)]) (s' := s9) rfl H.1 ?_
  replace H := H.2
  refine gs_E.stp (pc' := 59) (ls' := [gp_r (some 31), gp_r (some q3), gp_i p1, gp_i p2, gp_i (gp_wr (p1 * 61)), gp_n]) (st' := [gp_i 0, gp_i p1, gp_r (gp_R (gp_mk L s9) q3 9)]) (s' := s9) 2 rfl ?_
  obtain ⟨q10, hq, H⟩ := H
  rw [hq]
  refine gs_E.ck (pc' := 60) (ls' := [gp_r (some 31), gp_r (some q3), gp_i p1, gp_i p2, gp_i (gp_wr (p1 * 61)), gp_n]) (st' := []) (s' := gp_wI s9 q10 p1.toNat 0) rfl H.1 ?_
  replace H := H.2 _ rfl
  generalize gp_wI s9 q10 p1.toNat 0 = s11 at H ⊢
  refine gs_E.stp (pc' := 63) (ls' := [gp_r (some 31), gp_r (some q3), gp_i p1, gp_i p2, gp_i (gp_wr (p1 * 61)), gp_i 1]) (st' := []) (s' := s11) 2 rfl ?_
  exact H

set_option maxRecDepth 100000 in
/-- Measures.measure, pc 63 -/
theorem s_771_63 {L d : Nat} {K : Option gV → gH → Prop} {s : gH} (v1 : Option Nat) (v2 : Int) (v3 : Int) (v4 : Int) (v5 : Int) (H : (∃ q1, v1 = some q1 ∧ ((gp_sh (gp_mk L s) q1).1 = 9 ∧ (∃ q2, gp_R (gp_mk L s) q1 5 = some q2 ∧ (gp_in (gp_mk L s) 100 q2 v2 ∧ (((gp_wr ((gp_I s q2 v2.toNat) + 1)) < v5 → K none s) ∧ (¬ (gp_wr ((gp_I s q2 v2.toNat) + 1)) < v5 → ((0 ≤ (gp_wr (v4 + v5)) ∧ (gp_wr (v4 + v5)) < 3721) ∧ ((gp_sh (gp_mk L s) q1).1 = 9 ∧ (∃ q3, gp_R (gp_mk L s) q1 7 = some q3 ∧ (gp_in (gp_mk L s) 100 q3 v2 ∧ (((gp_I s q3 v2.toNat) < (gp_I s 33 (gp_wr (v4 + v5)).toNat) → ((gp_sh (gp_mk L s) q1).1 = 9 ∧ ((0 ≤ (gp_wr (v4 + v5)) ∧ (gp_wr (v4 + v5)) < 3721) ∧ (∃ q4, gp_R (gp_mk L s) q1 7 = some q4 ∧ (gp_in (gp_mk L s) 100 q4 v2 ∧ ∀ s5, s5 = gp_wI s q4 v2.toNat (gp_I s 33 (gp_wr (v4 + v5)).toNat) → ((gp_sh (gp_mk L s5) q1).1 = 9 ∧ (∃ q6, gp_R (gp_mk L s5) q1 8 = some q6 ∧ (gp_in (gp_mk L s5) 100 q6 v2 ∧ ∀ s7, s7 = gp_wI s5 q6 v2.toNat v5 → gs_E L (d + 1) 771 119 [gp_r (some 31), gp_r (some q1), gp_i v2, gp_i v3, gp_i v4, gp_i v5] [] s7 K)))))))) ∧ (¬ (gp_I s q3 v2.toNat) < (gp_I s 33 (gp_wr (v4 + v5)).toNat) → gs_E L (d + 1) 771 119 [gp_r (some 31), gp_r (some q1), gp_i v2, gp_i v3, gp_i v4, gp_i v5] [] s K))))))))))))) : gs_E L (d + 1) 771 63 [gp_r (some 31), gp_r v1, gp_i v2, gp_i v3, gp_i v4, gp_i v5] [] s K := by
  refine gs_E.stp (pc' := 66) (ls' := [gp_r (some 31), gp_r v1, gp_i v2, gp_i v3, gp_i v4, gp_i v5]) (st' := [gp_r v1, gp_i v5]) (s' := s) 2 rfl ?_
  obtain ⟨q1, hq, H⟩ := H
  rw [hq]
  refine gs_E.ck (pc' := 69) (ls' := [gp_r (some 31), gp_r (some q1), gp_i v2, gp_i v3, gp_i v4, gp_i v5]) (st' := [gp_r (gp_R (gp_mk L s) q1 5), gp_i v5]) (s' := s) rfl H.1 ?_
  replace H := H.2
  refine gs_E.stp (pc' := 70) (ls' := [gp_r (some 31), gp_r (some q1), gp_i v2, gp_i v3, gp_i v4, gp_i v5]) (st' := [gp_i v2, gp_r (gp_R (gp_mk L s) q1 5), gp_i v5]) (s' := s) 1 rfl ?_
  obtain ⟨q2, hq, H⟩ := H
  rw [hq]
  refine gs_E.ck (pc' := 71) (ls' := [gp_r (some 31), gp_r (some q1), gp_i v2, gp_i v3, gp_i v4, gp_i v5]) (st' := [gp_i (gp_I s q2 v2.toNat), gp_i v5]) (s' := s) rfl (Or.inl H.1) ?_
  replace H := H.2
  refine gs_E.stp (pc' := 73) (ls' := [gp_r (some 31), gp_r (some q1), gp_i v2, gp_i v3, gp_i v4, gp_i v5]) (st' := [gp_i (gp_wr ((gp_I s q2 v2.toNat) + 1)), gp_i v5]) (s' := s) 2 rfl ?_
  refine gs_E.br (c := (gp_wr ((gp_I s q2 v2.toNat) + 1)) < v5) (p1 := 168) (p2 := 76) (l1 := [gp_r (some 31), gp_r (some q1), gp_i v2, gp_i v3, gp_i v4, gp_i v5]) (l2 := [gp_r (some 31), gp_r (some q1), gp_i v2, gp_i v3, gp_i v4, gp_i v5]) (s1 := []) (s2 := []) rfl gs_b1 (fun hc => ?_) (fun hc => ?_)
  · replace H := H.1 hc
    exact gs_E.ret (r := none) rfl H
  · replace H := H.2 hc
    refine gs_E.stp (pc' := 85) (ls' := [gp_r (some 31), gp_r (some q1), gp_i v2, gp_i v3, gp_i v4, gp_i v5]) (st' := [gp_i (gp_wr (v4 + v5)), gp_r (some 33)]) (s' := s) 5 rfl ?_
    refine gs_E.ck (pc' := 86) (ls' := [gp_r (some 31), gp_r (some q1), gp_i v2, gp_i v3, gp_i v4, gp_i v5]) (st' := [gp_i (gp_I s 33 (gp_wr (v4 + v5)).toNat)]) (s' := s) rfl (Or.inl ⟨rfl, H.1.1, H.1.2⟩) ?_
    replace H := H.2
    refine gs_E.stp (pc' := 87) (ls' := [gp_r (some 31), gp_r (some q1), gp_i v2, gp_i v3, gp_i v4, gp_i v5]) (st' := [gp_r (some q1), gp_i (gp_I s 33 (gp_wr (v4 + v5)).toNat)]) (s' := s) 1 rfl ?_
    refine gs_E.ck (pc' := 90) (ls' := [gp_r (some 31), gp_r (some q1), gp_i v2, gp_i v3, gp_i v4, gp_i v5]) (st' := [gp_r (gp_R (gp_mk L s) q1 7), gp_i (gp_I s 33 (gp_wr (v4 + v5)).toNat)]) (s' := s) rfl H.1 ?_
    replace H := H.2
    refine gs_E.stp (pc' := 91) (ls' := [gp_r (some 31), gp_r (some q1), gp_i v2, gp_i v3, gp_i v4, gp_i v5]) (st' := [gp_i v2, gp_r (gp_R (gp_mk L s) q1 7), gp_i (gp_I s 33 (gp_wr (v4 + v5)).toNat)]) (s' := s) 1 rfl ?_
    obtain ⟨q3, hq, H⟩ := H
    rw [hq]
    refine gs_E.ck (pc' := 92) (ls' := [gp_r (some 31), gp_r (some q1), gp_i v2, gp_i v3, gp_i v4, gp_i v5]) (st' := [gp_i (gp_I s q3 v2.toNat), gp_i (gp_I s 33 (gp_wr (v4 + v5)).toNat)]) (s' := s) rfl (Or.inl H.1) ?_
    replace H := H.2
    refine gs_E.br (c := ¬ (gp_I s q3 v2.toNat) < (gp_I s 33 (gp_wr (v4 + v5)).toNat)) (p1 := 119) (p2 := 95) (l1 := [gp_r (some 31), gp_r (some q1), gp_i v2, gp_i v3, gp_i v4, gp_i v5]) (l2 := [gp_r (some 31), gp_r (some q1), gp_i v2, gp_i v3, gp_i v4, gp_i v5]) (s1 := []) (s2 := []) rfl gs_b2 (fun hc => ?_) (fun hc => ?_)
    · replace H := H.2 hc
      exact H
    · replace H := H.1 (Decidable.byContradiction hc)
      refine gs_E.stp (pc' := 96) (ls' := [gp_r (some 31), gp_r (some q1), gp_i v2, gp_i v3, gp_i v4, gp_i v5]) (st' := [gp_r (some q1)]) (s' := s) 1 rfl ?_
      refine gs_E.ck (pc' := 99) (ls' := [gp_r (some 31), gp_r (some q1), gp_i v2, gp_i v3, gp_i v4, gp_i v5]) (st' := [gp_r (gp_R (gp_mk L s) q1 7)]) (s' := s) rfl H.1 ?_
      replace H := H.2
      refine gs_E.stp (pc' := 109) (ls' := [gp_r (some 31), gp_r (some q1), gp_i v2, gp_i v3, gp_i v4, gp_i v5]) (st' := [gp_i (gp_wr (v4 + v5)), gp_r (some 33), gp_i v2, gp_r (gp_R (gp_mk L s) q1 7)]) (s' := s) 6 rfl ?_
      refine gs_E.ck (pc' := 110) (ls' := [gp_r (some 31), gp_r (some q1), gp_i v2, gp_i v3, gp_i v4, gp_i v5]) (st' := [gp_i (gp_I s 33 (gp_wr (v4 + v5)).toNat), gp_i v2, gp_r (gp_R (gp_mk L s) q1 7)]) (s' := s) rfl (Or.inl ⟨rfl, H.1.1, H.1.2⟩) ?_
      replace H := H.2
      obtain ⟨q4, hq, H⟩ := H
      rw [hq]
      refine gs_E.ck (pc' := 111) (ls' := [gp_r (some 31), gp_r (some q1), gp_i v2, gp_i v3, gp_i v4, gp_i v5]) (st' := []) (s' := gp_wI s q4 v2.toNat (gp_I s 33 (gp_wr (v4 + v5)).toNat)) rfl H.1 ?_
      replace H := H.2 _ rfl
      generalize gp_wI s q4 v2.toNat (gp_I s 33 (gp_wr (v4 + v5)).toNat) = s5 at H ⊢
      refine gs_E.stp (pc' := 112) (ls' := [gp_r (some 31), gp_r (some q1), gp_i v2, gp_i v3, gp_i v4, gp_i v5]) (st' := [gp_r (some q1)]) (s' := s5) 1 rfl ?_
      refine gs_E.ck (pc' := 115) (ls' := [gp_r (some 31), gp_r (some q1), gp_i v2, gp_i v3, gp_i v4, gp_i v5]) (st' := [gp_r (gp_R (gp_mk L s5) q1 8)]) (s' := s5) rfl H.1 ?_
      replace H := H.2
      refine gs_E.stp (pc' := 118) (ls' := [gp_r (some 31), gp_r (some q1), gp_i v2, gp_i v3, gp_i v4, gp_i v5]) (st' := [gp_i v5, gp_i v2, gp_r (gp_R (gp_mk L s5) q1 8)]) (s' := s5) 2 rfl ?_
      obtain ⟨q6, hq, H⟩ := H
      rw [hq]
      refine gs_E.ck (pc' := 119) (ls' := [gp_r (some 31), gp_r (some q1), gp_i v2, gp_i v3, gp_i v4, gp_i v5]) (st' := []) (s' := gp_wI s5 q6 v2.toNat v5) rfl H.1 ?_
      replace H := H.2 _ rfl
      generalize gp_wI s5 q6 v2.toNat v5 = s7 at H ⊢
      exact H

set_option maxRecDepth 100000 in
/-- Measures.measure, pc 119 -/
theorem s_771_119 {L d : Nat} {K : Option gV → gH → Prop} {s : gH} (v1 : Option Nat) (v2 : Int) (v3 : Int) (v4 : Int) (v5 : Int) (H : ((0 ≤ (gp_wr (v4 + v5)) ∧ (gp_wr (v4 + v5)) < 3721) ∧ (∃ q1, v1 = some q1 ∧ ((gp_sh (gp_mk L s) q1).1 = 9 ∧ (∃ q2, gp_R (gp_mk L s) q1 6 = some q2 ∧ (gp_in (gp_mk L s) 100 q2 v2 ∧ (((gp_I s 34 (gp_wr (v4 + v5)).toNat) < (gp_I s q2 v2.toNat) → ((gp_sh (gp_mk L s) q1).1 = 9 ∧ ((0 ≤ (gp_wr (v4 + v5)) ∧ (gp_wr (v4 + v5)) < 3721) ∧ (∃ q3, gp_R (gp_mk L s) q1 6 = some q3 ∧ (gp_in (gp_mk L s) 100 q3 v2 ∧ ∀ s4, s4 = gp_wI s q3 v2.toNat (gp_I s 34 (gp_wr (v4 + v5)).toNat) → ((gp_sh (gp_mk L s4) q1).1 = 9 ∧ (∃ q5, gp_R (gp_mk L s4) q1 9 = some q5 ∧ (gp_in (gp_mk L s4) 100 q5 v2 ∧ ∀ s6, s6 = gp_wI s4 q5 v2.toNat v5 → gs_E L (d + 1) 771 162 [gp_r (some 31), gp_r (some q1), gp_i v2, gp_i v3, gp_i v4, gp_i v5] [] s6 K)))))))) ∧ (¬ (gp_I s 34 (gp_wr (v4 + v5)).toNat) < (gp_I s q2 v2.toNat) → gs_E L (d + 1) 771 162 [gp_r (some 31), gp_r (some q1), gp_i v2, gp_i v3, gp_i v4, gp_i v5] [] s K)))))))) : gs_E L (d + 1) 771 119 [gp_r (some 31), gp_r v1, gp_i v2, gp_i v3, gp_i v4, gp_i v5] [] s K := by
  refine gs_E.stp (pc' := 128) (ls' := [gp_r (some 31), gp_r v1, gp_i v2, gp_i v3, gp_i v4, gp_i v5]) (st' := [gp_i (gp_wr (v4 + v5)), gp_r (some 34)]) (s' := s) 5 rfl ?_
  refine gs_E.ck (pc' := 129) (ls' := [gp_r (some 31), gp_r v1, gp_i v2, gp_i v3, gp_i v4, gp_i v5]) (st' := [gp_i (gp_I s 34 (gp_wr (v4 + v5)).toNat)]) (s' := s) rfl (Or.inl ⟨rfl, H.1.1, H.1.2⟩) ?_
  replace H := H.2
  refine gs_E.stp (pc' := 130) (ls' := [gp_r (some 31), gp_r v1, gp_i v2, gp_i v3, gp_i v4, gp_i v5]) (st' := [gp_r v1, gp_i (gp_I s 34 (gp_wr (v4 + v5)).toNat)]) (s' := s) 1 rfl ?_
  obtain ⟨q1, hq, H⟩ := H
  rw [hq]
  refine gs_E.ck (pc' := 133) (ls' := [gp_r (some 31), gp_r (some q1), gp_i v2, gp_i v3, gp_i v4, gp_i v5]) (st' := [gp_r (gp_R (gp_mk L s) q1 6), gp_i (gp_I s 34 (gp_wr (v4 + v5)).toNat)]) (s' := s) rfl H.1 ?_
  replace H := H.2
  refine gs_E.stp (pc' := 134) (ls' := [gp_r (some 31), gp_r (some q1), gp_i v2, gp_i v3, gp_i v4, gp_i v5]) (st' := [gp_i v2, gp_r (gp_R (gp_mk L s) q1 6), gp_i (gp_I s 34 (gp_wr (v4 + v5)).toNat)]) (s' := s) 1 rfl ?_
  obtain ⟨q2, hq, H⟩ := H
  rw [hq]
  refine gs_E.ck (pc' := 135) (ls' := [gp_r (some 31), gp_r (some q1), gp_i v2, gp_i v3, gp_i v4, gp_i v5]) (st' := [gp_i (gp_I s q2 v2.toNat), gp_i (gp_I s 34 (gp_wr (v4 + v5)).toNat)]) (s' := s) rfl (Or.inl H.1) ?_
  replace H := H.2
  refine gs_E.br (c := ¬ (gp_I s 34 (gp_wr (v4 + v5)).toNat) < (gp_I s q2 v2.toNat)) (p1 := 162) (p2 := 138) (l1 := [gp_r (some 31), gp_r (some q1), gp_i v2, gp_i v3, gp_i v4, gp_i v5]) (l2 := [gp_r (some 31), gp_r (some q1), gp_i v2, gp_i v3, gp_i v4, gp_i v5]) (s1 := []) (s2 := []) rfl gs_b2 (fun hc => ?_) (fun hc => ?_)
  · replace H := H.2 hc
    exact H
  · replace H := H.1 (Decidable.byContradiction hc)
    refine gs_E.stp (pc' := 139) (ls' := [gp_r (some 31), gp_r (some q1), gp_i v2, gp_i v3, gp_i v4, gp_i v5]) (st' := [gp_r (some q1)]) (s' := s) 1 rfl ?_
    refine gs_E.ck (pc' := 142) (ls' := [gp_r (some 31), gp_r (some q1), gp_i v2, gp_i v3, gp_i v4, gp_i v5]) (st' := [gp_r (gp_R (gp_mk L s) q1 6)]) (s' := s) rfl H.1 ?_
    replace H := H.2
    refine gs_E.stp (pc' := 152) (ls' := [gp_r (some 31), gp_r (some q1), gp_i v2, gp_i v3, gp_i v4, gp_i v5]) (st' := [gp_i (gp_wr (v4 + v5)), gp_r (some 34), gp_i v2, gp_r (gp_R (gp_mk L s) q1 6)]) (s' := s) 6 rfl ?_
    refine gs_E.ck (pc' := 153) (ls' := [gp_r (some 31), gp_r (some q1), gp_i v2, gp_i v3, gp_i v4, gp_i v5]) (st' := [gp_i (gp_I s 34 (gp_wr (v4 + v5)).toNat), gp_i v2, gp_r (gp_R (gp_mk L s) q1 6)]) (s' := s) rfl (Or.inl ⟨rfl, H.1.1, H.1.2⟩) ?_
    replace H := H.2
    obtain ⟨q3, hq, H⟩ := H
    rw [hq]
    refine gs_E.ck (pc' := 154) (ls' := [gp_r (some 31), gp_r (some q1), gp_i v2, gp_i v3, gp_i v4, gp_i v5]) (st' := []) (s' := gp_wI s q3 v2.toNat (gp_I s 34 (gp_wr (v4 + v5)).toNat)) rfl H.1 ?_
    replace H := H.2 _ rfl
    generalize gp_wI s q3 v2.toNat (gp_I s 34 (gp_wr (v4 + v5)).toNat) = s4 at H ⊢
    refine gs_E.stp (pc' := 155) (ls' := [gp_r (some 31), gp_r (some q1), gp_i v2, gp_i v3, gp_i v4, gp_i v5]) (st' := [gp_r (some q1)]) (s' := s4) 1 rfl ?_
    refine gs_E.ck (pc' := 158) (ls' := [gp_r (some 31), gp_r (some q1), gp_i v2, gp_i v3, gp_i v4, gp_i v5]) (st' := [gp_r (gp_R (gp_mk L s4) q1 9)]) (s' := s4) rfl H.1 ?_
    replace H := H.2
    refine gs_E.stp (pc' := 161) (ls' := [gp_r (some 31), gp_r (some q1), gp_i v2, gp_i v3, gp_i v4, gp_i v5]) (st' := [gp_i v5, gp_i v2, gp_r (gp_R (gp_mk L s4) q1 9)]) (s' := s4) 2 rfl ?_
    obtain ⟨q5, hq, H⟩ := H
    rw [hq]
    refine gs_E.ck (pc' := 162) (ls' := [gp_r (some 31), gp_r (some q1), gp_i v2, gp_i v3, gp_i v4, gp_i v5]) (st' := []) (s' := gp_wI s4 q5 v2.toNat v5) rfl H.1 ?_
    replace H := H.2 _ rfl
    generalize gp_wI s4 q5 v2.toNat v5 = s6 at H ⊢
    exact H

set_option maxRecDepth 100000 in
/-- Measures.measure, pc 162 -/
theorem s_771_162 {L d : Nat} {K : Option gV → gH → Prop} {s : gH} (v1 : Option Nat) (v2 : Int) (v3 : Int) (v4 : Int) (v5 : Int) (H : gs_E L (d + 1) 771 63 [gp_r (some 31), gp_r v1, gp_i v2, gp_i v3, gp_i v4, gp_i (gp_wr (v5 + 1))] [] s K) : gs_E L (d + 1) 771 162 [gp_r (some 31), gp_r v1, gp_i v2, gp_i v3, gp_i v4, gp_i v5] [] s K := by
  refine gs_E.stp (pc' := 63) (ls' := [gp_r (some 31), gp_r v1, gp_i v2, gp_i v3, gp_i v4, gp_i (gp_wr (v5 + 1))]) (st' := []) (s' := s) 2 rfl ?_
  exact H

set_option maxRecDepth 100000 in
/-- Measures.addWaits, pc 0 -/
theorem s_772_e {L d : Nat} {K : Option gV → gH → Prop} {s : gH} (p0 : Option Nat) (p1 : Int) (p2 : Int) (H : gs_E L (d + 1) 772 9 [gp_r (some 31), gp_r p0, gp_i p1, gp_i p2, gp_i (gp_wr (p1 * 61)), gp_i 0, gp_n] [] s K) : gs_C L (d + 1) 772 7 [gp_r (some 31), gp_r p0, gp_i p1, gp_i p2] s K := by
  show gs_E L (d + 1) 772 0 [gp_r (some 31), gp_r p0, gp_i p1, gp_i p2, gp_n, gp_n, gp_n] [] s K
  refine gs_E.stp (pc' := 9) (ls' := [gp_r (some 31), gp_r p0, gp_i p1, gp_i p2, gp_i (gp_wr (p1 * 61)), gp_i 0, gp_n]) (st' := []) (s' := s) 6 rfl ?_
  exact H

set_option maxRecDepth 100000 in
/-- Measures.addWaits, pc 9 -/
theorem s_772_9 {L d : Nat} {K : Option gV → gH → Prop} {s : gH} (v1 : Option Nat) (v2 : Int) (v3 : Int) (v4 : Int) (v5 : Int) (v6 : gV) (H : ((v3 < v5 → K none s) ∧ (¬ v3 < v5 → (∃ q1, v1 = some q1 ∧ ((gp_sh (gp_mk L s) q1).1 = 9 ∧ (∃ q2, gp_R (gp_mk L s) q1 1 = some q2 ∧ (gp_in (gp_mk L s) 101 q2 v2 ∧ gs_C L d 774 7 [gp_l (gp_L s q2 v2.toNat), gp_r (some 33), gp_i v5] s (fun r s3 => ∃ x4, r = some (gp_i x4) ∧ ((0 < v5 → ((0 ≤ (gp_wr ((gp_wr (v4 + v5)) - 1)) ∧ (gp_wr ((gp_wr (v4 + v5)) - 1)) < 3721) ∧ gs_E L (d + 1) 772 78 [gp_r (some 31), gp_r (some q1), gp_i v2, gp_i v3, gp_i v4, gp_i v5, gp_i (gp_mx x4 (gp_I s3 33 (gp_wr ((gp_wr (v4 + v5)) - 1)).toNat))] [] s3 K)) ∧ (¬ 0 < v5 → ((gp_sh (gp_mk L s3) q1).1 = 9 ∧ (∃ q5, gp_R (gp_mk L s3) q1 1 = some q5 ∧ (gp_in (gp_mk L s3) 101 q5 v2 ∧ (((gp_cmp (gp_L s3 q5 v2.toNat) (0#64)) = 0 → ((gp_sh (gp_mk L s3) q1).1 = 9 ∧ (∃ q6, gp_R (gp_mk L s3) q1 3 = some q6 ∧ (gp_in (gp_mk L s3) 100 q6 v2 ∧ gs_E L (d + 1) 772 78 [gp_r (some 31), gp_r (some q1), gp_i v2, gp_i v3, gp_i v4, gp_i v5, gp_i (gp_I s3 q6 v2.toNat)] [] s3 K)))) ∧ (¬ (gp_cmp (gp_L s3 q5 v2.toNat) (0#64)) = 0 → gs_E L (d + 1) 772 78 [gp_r (some 31), gp_r (some q1), gp_i v2, gp_i v3, gp_i v4, gp_i v5, gp_i x4] [] s3 K))))))))))))))) : gs_E L (d + 1) 772 9 [gp_r (some 31), gp_r v1, gp_i v2, gp_i v3, gp_i v4, gp_i v5, v6] [] s K := by
  refine gs_E.stp (pc' := 12) (ls' := [gp_r (some 31), gp_r v1, gp_i v2, gp_i v3, gp_i v4, gp_i v5, v6]) (st' := [gp_i v3, gp_i v5]) (s' := s) 2 rfl ?_
  refine gs_E.br (c := v3 < v5) (p1 := 141) (p2 := 15) (l1 := [gp_r (some 31), gp_r v1, gp_i v2, gp_i v3, gp_i v4, gp_i v5, v6]) (l2 := [gp_r (some 31), gp_r v1, gp_i v2, gp_i v3, gp_i v4, gp_i v5, v6]) (s1 := []) (s2 := []) rfl gs_b1 (fun hc => ?_) (fun hc => ?_)
  · replace H := H.1 hc
    exact gs_E.ret (r := none) rfl H
  · replace H := H.2 hc
    refine gs_E.stp (pc' := 16) (ls' := [gp_r (some 31), gp_r v1, gp_i v2, gp_i v3, gp_i v4, gp_i v5, v6]) (st' := [gp_r v1]) (s' := s) 1 rfl ?_
    obtain ⟨q1, hq, H⟩ := H
    rw [hq]
    refine gs_E.ck (pc' := 19) (ls' := [gp_r (some 31), gp_r (some q1), gp_i v2, gp_i v3, gp_i v4, gp_i v5, v6]) (st' := [gp_r (gp_R (gp_mk L s) q1 1)]) (s' := s) rfl H.1 ?_
    replace H := H.2
    refine gs_E.stp (pc' := 20) (ls' := [gp_r (some 31), gp_r (some q1), gp_i v2, gp_i v3, gp_i v4, gp_i v5, v6]) (st' := [gp_i v2, gp_r (gp_R (gp_mk L s) q1 1)]) (s' := s) 1 rfl ?_
    obtain ⟨q2, hq, H⟩ := H
    rw [hq]
    refine gs_E.ck (pc' := 21) (ls' := [gp_r (some 31), gp_r (some q1), gp_i v2, gp_i v3, gp_i v4, gp_i v5, v6]) (st' := [gp_l (gp_L s q2 v2.toNat)]) (s' := s) rfl H.1 ?_
    replace H := H.2
    refine gs_E.stp (pc' := 27) (ls' := [gp_r (some 31), gp_r (some q1), gp_i v2, gp_i v3, gp_i v4, gp_i v5, v6]) (st' := [gp_i v5, gp_r (some 33), gp_l (gp_L s q2 v2.toNat)]) (s' := s) 3 rfl ?_
    refine gs_E.call (args := [gp_l (gp_L s q2 v2.toNat), gp_r (some 33), gp_i v5]) (m := 7) (y' := 774) (st' := []) rfl H (fun r s3 H => ?_)
    obtain ⟨x4, rfl, H⟩ := H
    show gs_E L (d + 1) 772 30 [gp_r (some 31), gp_r (some q1), gp_i v2, gp_i v3, gp_i v4, gp_i v5, v6] [gp_i x4] s3 K
    refine gs_E.stp (pc' := 34) (ls' := [gp_r (some 31), gp_r (some q1), gp_i v2, gp_i v3, gp_i v4, gp_i v5, gp_i x4]) (st' := [gp_i v5]) (s' := s3) 2 rfl ?_
    refine gs_E.br (c := ¬ 0 < v5) (p1 := 59) (p2 := 37) (l1 := [gp_r (some 31), gp_r (some q1), gp_i v2, gp_i v3, gp_i v4, gp_i v5, gp_i x4]) (l2 := [gp_r (some 31), gp_r (some q1), gp_i v2, gp_i v3, gp_i v4, gp_i v5, gp_i x4]) (s1 := []) (s2 := []) rfl gs_b2 (fun hc => ?_) (fun hc => ?_)
    · replace H := H.2 hc
      refine gs_E.stp (pc' := 60) (ls' := [gp_r (some 31), gp_r (some q1), gp_i v2, gp_i v3, gp_i v4, gp_i v5, gp_i x4]) (st' := [gp_r (some q1)]) (s' := s3) 1 rfl ?_
      refine gs_E.ck (pc' := 63) (ls' := [gp_r (some 31), gp_r (some q1), gp_i v2, gp_i v3, gp_i v4, gp_i v5, gp_i x4]) (st' := [gp_r (gp_R (gp_mk L s3) q1 1)]) (s' := s3) rfl H.1 ?_
      replace H := H.2
      refine gs_E.stp (pc' := 64) (ls' := [gp_r (some 31), gp_r (some q1), gp_i v2, gp_i v3, gp_i v4, gp_i v5, gp_i x4]) (st' := [gp_i v2, gp_r (gp_R (gp_mk L s3) q1 1)]) (s' := s3) 1 rfl ?_
      obtain ⟨q5, hq, H⟩ := H
      rw [hq]
      refine gs_E.ck (pc' := 65) (ls' := [gp_r (some 31), gp_r (some q1), gp_i v2, gp_i v3, gp_i v4, gp_i v5, gp_i x4]) (st' := [gp_l (gp_L s3 q5 v2.toNat)]) (s' := s3) rfl H.1 ?_
      replace H := H.2
      refine gs_E.stp (pc' := 67) (ls' := [gp_r (some 31), gp_r (some q1), gp_i v2, gp_i v3, gp_i v4, gp_i v5, gp_i x4]) (st' := [gp_i (gp_cmp (gp_L s3 q5 v2.toNat) (0#64))]) (s' := s3) 2 rfl ?_
      refine gs_E.br (c := ¬ (gp_cmp (gp_L s3 q5 v2.toNat) (0#64)) = 0) (p1 := 78) (p2 := 70) (l1 := [gp_r (some 31), gp_r (some q1), gp_i v2, gp_i v3, gp_i v4, gp_i v5, gp_i x4]) (l2 := [gp_r (some 31), gp_r (some q1), gp_i v2, gp_i v3, gp_i v4, gp_i v5, gp_i x4]) (s1 := []) (s2 := []) rfl gs_b2 (fun hc => ?_) (fun hc => ?_)
      · replace H := H.2 hc
        exact H
      · replace H := H.1 (Decidable.byContradiction hc)
        refine gs_E.stp (pc' := 71) (ls' := [gp_r (some 31), gp_r (some q1), gp_i v2, gp_i v3, gp_i v4, gp_i v5, gp_i x4]) (st' := [gp_r (some q1)]) (s' := s3) 1 rfl ?_
        refine gs_E.ck (pc' := 74) (ls' := [gp_r (some 31), gp_r (some q1), gp_i v2, gp_i v3, gp_i v4, gp_i v5, gp_i x4]) (st' := [gp_r (gp_R (gp_mk L s3) q1 3)]) (s' := s3) rfl H.1 ?_
        replace H := H.2
        refine gs_E.stp (pc' := 75) (ls' := [gp_r (some 31), gp_r (some q1), gp_i v2, gp_i v3, gp_i v4, gp_i v5, gp_i x4]) (st' := [gp_i v2, gp_r (gp_R (gp_mk L s3) q1 3)]) (s' := s3) 1 rfl ?_
        obtain ⟨q6, hq, H⟩ := H
        rw [hq]
        refine gs_E.ck (pc' := 76) (ls' := [gp_r (some 31), gp_r (some q1), gp_i v2, gp_i v3, gp_i v4, gp_i v5, gp_i x4]) (st' := [gp_i (gp_I s3 q6 v2.toNat)]) (s' := s3) rfl (Or.inl H.1) ?_
        replace H := H.2
        refine gs_E.stp (pc' := 78) (ls' := [gp_r (some 31), gp_r (some q1), gp_i v2, gp_i v3, gp_i v4, gp_i v5, gp_i (gp_I s3 q6 v2.toNat)]) (st' := []) (s' := s3) 1 rfl ?_
        exact H
    · replace H := H.1 (Decidable.byContradiction hc)
      refine gs_E.stp (pc' := 50) (ls' := [gp_r (some 31), gp_r (some q1), gp_i v2, gp_i v3, gp_i v4, gp_i v5, gp_i x4]) (st' := [gp_i (gp_wr ((gp_wr (v4 + v5)) - 1)), gp_r (some 33), gp_i x4]) (s' := s3) 8 rfl ?_
      refine gs_E.ck (pc' := 51) (ls' := [gp_r (some 31), gp_r (some q1), gp_i v2, gp_i v3, gp_i v4, gp_i v5, gp_i x4]) (st' := [gp_i (gp_I s3 33 (gp_wr ((gp_wr (v4 + v5)) - 1)).toNat), gp_i x4]) (s' := s3) rfl (Or.inl ⟨rfl, H.1.1, H.1.2⟩) ?_
      replace H := H.2
      refine gs_E.stp (pc' := 78) (ls' := [gp_r (some 31), gp_r (some q1), gp_i v2, gp_i v3, gp_i v4, gp_i v5, gp_i (gp_mx x4 (gp_I s3 33 (gp_wr ((gp_wr (v4 + v5)) - 1)).toNat))]) (st' := []) (s' := s3) 3 rfl ?_
      exact H

set_option maxRecDepth 100000 in
/-- Measures.addWaits, pc 78 -/
theorem s_772_78 {L d : Nat} {K : Option gV → gH → Prop} {s : gH} (v1 : Option Nat) (v2 : Int) (v3 : Int) (v4 : Int) (v5 : Int) (v6 : Int) (H : ((0 ≤ (gp_wr (v4 + v5)) ∧ (gp_wr (v4 + v5)) < 3721) ∧ (∀ s1, s1 = gp_wI s 32 (gp_wr (v4 + v5)).toNat v6 → (∃ q2, v1 = some q2 ∧ ((gp_sh (gp_mk L s1) q2).1 = 9 ∧ (∃ q3, gp_R (gp_mk L s1) q2 2 = some q3 ∧ (gp_in (gp_mk L s1) 101 q3 v2 ∧ (((gp_cmp (gp_L s1 q3 v2.toNat) (0#64)) = 0 → ((gp_sh (gp_mk L s1) q2).1 = 9 ∧ (∃ q7, gp_R (gp_mk L s1) q2 4 = some q7 ∧ (gp_in (gp_mk L s1) 100 q7 v2 ∧ gs_E L (d + 1) 772 134 [gp_r (some 31), gp_r (some q2), gp_i v2, gp_i v3, gp_i v4, gp_i v5, gp_i v6] [gp_i (gp_I s1 q7 v2.toNat), gp_i (gp_wr (v4 + v5)), gp_r (some 33)] s1 K)))) ∧ (¬ (gp_cmp (gp_L s1 q3 v2.toNat) (0#64)) = 0 → ((gp_sh (gp_mk L s1) q2).1 = 9 ∧ (∃ q4, gp_R (gp_mk L s1) q2 2 = some q4 ∧ (gp_in (gp_mk L s1) 101 q4 v2 ∧ gs_C L d 775 7 [gp_l (gp_L s1 q4 v2.toNat), gp_r (some 32), gp_i v5] s1 (fun r s5 => ∃ x6, r = some (gp_i x6) ∧ gs_E L (d + 1) 772 134 [gp_r (some 31), gp_r (some q2), gp_i v2, gp_i v3, gp_i v4, gp_i v5, gp_i v6] [gp_i x6, gp_i (gp_wr (v4 + v5)), gp_r (some 33)] s5 K))))))))))))) : gs_E L (d + 1) 772 78 [gp_r (some 31), gp_r v1, gp_i v2, gp_i v3, gp_i v4, gp_i v5, gp_i v6] [] s K := by
  refine gs_E.stp (pc' := 89) (ls' := [gp_r (some 31), gp_r v1, gp_i v2, gp_i v3, gp_i v4, gp_i v5, gp_i v6]) (st' := [gp_i v6, gp_i (gp_wr (v4 + v5)), gp_r (some 32)]) (s' := s) 6 rfl ?_
  refine gs_E.ck (pc' := 90) (ls' := [gp_r (some 31), gp_r v1, gp_i v2, gp_i v3, gp_i v4, gp_i v5, gp_i v6]) (st' := []) (s' := gp_wI s 32 (gp_wr (v4 + v5)).toNat v6) rfl ⟨rfl, H.1.1, H.1.2⟩ ?_
  replace H := H.2 _ rfl
  generalize gp_wI s 32 (gp_wr (v4 + v5)).toNat v6 = s1 at H ⊢
  refine gs_E.stp (pc' := 100) (ls' := [gp_r (some 31), gp_r v1, gp_i v2, gp_i v3, gp_i v4, gp_i v5, gp_i v6]) (st' := [gp_r v1, gp_i (gp_wr (v4 + v5)), gp_r (some 33)]) (s' := s1) 6 rfl ?_
  obtain ⟨q2, hq, H⟩ := H
  rw [hq]
  refine gs_E.ck (pc' := 103) (ls' := [gp_r (some 31), gp_r (some q2), gp_i v2, gp_i v3, gp_i v4, gp_i v5, gp_i v6]) (st' := [gp_r (gp_R (gp_mk L s1) q2 2), gp_i (gp_wr (v4 + v5)), gp_r (some 33)]) (s' := s1) rfl H.1 ?_
  replace H := H.2
  refine gs_E.stp (pc' := 104) (ls' := [gp_r (some 31), gp_r (some q2), gp_i v2, gp_i v3, gp_i v4, gp_i v5, gp_i v6]) (st' := [gp_i v2, gp_r (gp_R (gp_mk L s1) q2 2), gp_i (gp_wr (v4 + v5)), gp_r (some 33)]) (s' := s1) 1 rfl ?_
  obtain ⟨q3, hq, H⟩ := H
  rw [hq]
  refine gs_E.ck (pc' := 105) (ls' := [gp_r (some 31), gp_r (some q2), gp_i v2, gp_i v3, gp_i v4, gp_i v5, gp_i v6]) (st' := [gp_l (gp_L s1 q3 v2.toNat), gp_i (gp_wr (v4 + v5)), gp_r (some 33)]) (s' := s1) rfl H.1 ?_
  replace H := H.2
  refine gs_E.stp (pc' := 107) (ls' := [gp_r (some 31), gp_r (some q2), gp_i v2, gp_i v3, gp_i v4, gp_i v5, gp_i v6]) (st' := [gp_i (gp_cmp (gp_L s1 q3 v2.toNat) (0#64)), gp_i (gp_wr (v4 + v5)), gp_r (some 33)]) (s' := s1) 2 rfl ?_
  refine gs_E.br (c := ¬ (gp_cmp (gp_L s1 q3 v2.toNat) (0#64)) = 0) (p1 := 119) (p2 := 110) (l1 := [gp_r (some 31), gp_r (some q2), gp_i v2, gp_i v3, gp_i v4, gp_i v5, gp_i v6]) (l2 := [gp_r (some 31), gp_r (some q2), gp_i v2, gp_i v3, gp_i v4, gp_i v5, gp_i v6]) (s1 := [gp_i (gp_wr (v4 + v5)), gp_r (some 33)]) (s2 := [gp_i (gp_wr (v4 + v5)), gp_r (some 33)]) rfl gs_b2 (fun hc => ?_) (fun hc => ?_)
  · replace H := H.2 hc
    refine gs_E.stp (pc' := 120) (ls' := [gp_r (some 31), gp_r (some q2), gp_i v2, gp_i v3, gp_i v4, gp_i v5, gp_i v6]) (st' := [gp_r (some q2), gp_i (gp_wr (v4 + v5)), gp_r (some 33)]) (s' := s1) 1 rfl ?_
    refine gs_E.ck (pc' := 123) (ls' := [gp_r (some 31), gp_r (some q2), gp_i v2, gp_i v3, gp_i v4, gp_i v5, gp_i v6]) (st' := [gp_r (gp_R (gp_mk L s1) q2 2), gp_i (gp_wr (v4 + v5)), gp_r (some 33)]) (s' := s1) rfl H.1 ?_
    replace H := H.2
    refine gs_E.stp (pc' := 124) (ls' := [gp_r (some 31), gp_r (some q2), gp_i v2, gp_i v3, gp_i v4, gp_i v5, gp_i v6]) (st' := [gp_i v2, gp_r (gp_R (gp_mk L s1) q2 2), gp_i (gp_wr (v4 + v5)), gp_r (some 33)]) (s' := s1) 1 rfl ?_
    obtain ⟨q4, hq, H⟩ := H
    rw [hq]
    refine gs_E.ck (pc' := 125) (ls' := [gp_r (some 31), gp_r (some q2), gp_i v2, gp_i v3, gp_i v4, gp_i v5, gp_i v6]) (st' := [gp_l (gp_L s1 q4 v2.toNat), gp_i (gp_wr (v4 + v5)), gp_r (some 33)]) (s' := s1) rfl H.1 ?_
    replace H := H.2
    refine gs_E.stp (pc' := 131) (ls' := [gp_r (some 31), gp_r (some q2), gp_i v2, gp_i v3, gp_i v4, gp_i v5, gp_i v6]) (st' := [gp_i v5, gp_r (some 32), gp_l (gp_L s1 q4 v2.toNat), gp_i (gp_wr (v4 + v5)), gp_r (some 33)]) (s' := s1) 3 rfl ?_
    refine gs_E.call (args := [gp_l (gp_L s1 q4 v2.toNat), gp_r (some 32), gp_i v5]) (m := 7) (y' := 775) (st' := [gp_i (gp_wr (v4 + v5)), gp_r (some 33)]) rfl H (fun r s5 H => ?_)
    obtain ⟨x6, rfl, H⟩ := H
    show gs_E L (d + 1) 772 134 [gp_r (some 31), gp_r (some q2), gp_i v2, gp_i v3, gp_i v4, gp_i v5, gp_i v6] [gp_i x6, gp_i (gp_wr (v4 + v5)), gp_r (some 33)] s5 K
    exact H
  · replace H := H.1 (Decidable.byContradiction hc)
    refine gs_E.stp (pc' := 111) (ls' := [gp_r (some 31), gp_r (some q2), gp_i v2, gp_i v3, gp_i v4, gp_i v5, gp_i v6]) (st' := [gp_r (some q2), gp_i (gp_wr (v4 + v5)), gp_r (some 33)]) (s' := s1) 1 rfl ?_
    refine gs_E.ck (pc' := 114) (ls' := [gp_r (some 31), gp_r (some q2), gp_i v2, gp_i v3, gp_i v4, gp_i v5, gp_i v6]) (st' := [gp_r (gp_R (gp_mk L s1) q2 4), gp_i (gp_wr (v4 + v5)), gp_r (some 33)]) (s' := s1) rfl H.1 ?_
    replace H := H.2
    refine gs_E.stp (pc' := 115) (ls' := [gp_r (some 31), gp_r (some q2), gp_i v2, gp_i v3, gp_i v4, gp_i v5, gp_i v6]) (st' := [gp_i v2, gp_r (gp_R (gp_mk L s1) q2 4), gp_i (gp_wr (v4 + v5)), gp_r (some 33)]) (s' := s1) 1 rfl ?_
    obtain ⟨q7, hq, H⟩ := H
    rw [hq]
    refine gs_E.ck (pc' := 116) (ls' := [gp_r (some 31), gp_r (some q2), gp_i v2, gp_i v3, gp_i v4, gp_i v5, gp_i v6]) (st' := [gp_i (gp_I s1 q7 v2.toNat), gp_i (gp_wr (v4 + v5)), gp_r (some 33)]) (s' := s1) rfl (Or.inl H.1) ?_
    replace H := H.2
    refine gs_E.stp (pc' := 134) (ls' := [gp_r (some 31), gp_r (some q2), gp_i v2, gp_i v3, gp_i v4, gp_i v5, gp_i v6]) (st' := [gp_i (gp_I s1 q7 v2.toNat), gp_i (gp_wr (v4 + v5)), gp_r (some 33)]) (s' := s1) 1 rfl ?_
    exact H

set_option maxRecDepth 100000 in
/-- Measures.addWaits, pc 134 -/
theorem s_772_134 {L d : Nat} {K : Option gV → gH → Prop} {s : gH} (v1 : Option Nat) (v2 : Int) (v3 : Int) (v4 : Int) (v5 : Int) (v6 : Int) (w1 : Int) (w2 : Int) (H : ((0 ≤ w1 ∧ w1 < 3721) ∧ (∀ s1, s1 = gp_wI s 33 w1.toNat w2 → gs_E L (d + 1) 772 9 [gp_r (some 31), gp_r v1, gp_i v2, gp_i v3, gp_i v4, gp_i (gp_wr (v5 + 1)), gp_i v6] [] s1 K))) : gs_E L (d + 1) 772 134 [gp_r (some 31), gp_r v1, gp_i v2, gp_i v3, gp_i v4, gp_i v5, gp_i v6] [gp_i w2, gp_i w1, gp_r (some 33)] s K := by
  refine gs_E.ck (pc' := 135) (ls' := [gp_r (some 31), gp_r v1, gp_i v2, gp_i v3, gp_i v4, gp_i v5, gp_i v6]) (st' := []) (s' := gp_wI s 33 w1.toNat w2) rfl ⟨rfl, H.1.1, H.1.2⟩ ?_
  replace H := H.2 _ rfl
  generalize gp_wI s 33 w1.toNat w2 = s1 at H ⊢
  refine gs_E.stp (pc' := 9) (ls' := [gp_r (some 31), gp_r v1, gp_i v2, gp_i v3, gp_i v4, gp_i (gp_wr (v5 + 1)), gp_i v6]) (st' := []) (s' := s1) 2 rfl ?_
  exact H

set_option maxRecDepth 100000 in
/-- Measures.addNegatives, pc 0 -/
theorem s_773_e {L d : Nat} {K : Option gV → gH → Prop} {s : gH} (p0 : Option Nat) (p1 : Int) (p2 : Int) (H : gs_E L (d + 1) 773 9 [gp_r (some 31), gp_r p0, gp_i p1, gp_i p2, gp_i (gp_wr (p1 * 61)), gp_i 0, gp_n] [] s K) : gs_C L (d + 1) 773 7 [gp_r (some 31), gp_r p0, gp_i p1, gp_i p2] s K := by
  show gs_E L (d + 1) 773 0 [gp_r (some 31), gp_r p0, gp_i p1, gp_i p2, gp_n, gp_n, gp_n] [] s K
  refine gs_E.stp (pc' := 9) (ls' := [gp_r (some 31), gp_r p0, gp_i p1, gp_i p2, gp_i (gp_wr (p1 * 61)), gp_i 0, gp_n]) (st' := []) (s' := s) 6 rfl ?_
  exact H

set_option maxRecDepth 100000 in
/-- Measures.addNegatives, pc 9 -/
theorem s_773_9 {L d : Nat} {K : Option gV → gH → Prop} {s : gH} (v1 : Option Nat) (v2 : Int) (v3 : Int) (v4 : Int) (v5 : Int) (v6 : gV) (H : ((v3 < v5 → K none s) ∧ (¬ v3 < v5 → (∃ q1, v1 = some q1 ∧ ((gp_sh (gp_mk L s) q1).1 = 9 ∧ (∃ q2, gp_R (gp_mk L s) q1 2 = some q2 ∧ (gp_in (gp_mk L s) 101 q2 v2 ∧ gs_C L d 775 7 [gp_l (gp_L s q2 v2.toNat), gp_r (some 34), gp_i v5] s (fun r s3 => ∃ x4, r = some (gp_i x4) ∧ ((0 < v5 → ((0 ≤ (gp_wr ((gp_wr (v4 + v5)) - 1)) ∧ (gp_wr ((gp_wr (v4 + v5)) - 1)) < 3721) ∧ gs_E L (d + 1) 773 78 [gp_r (some 31), gp_r (some q1), gp_i v2, gp_i v3, gp_i v4, gp_i v5, gp_i (gp_mi x4 (gp_I s3 34 (gp_wr ((gp_wr (v4 + v5)) - 1)).toNat))] [] s3 K)) ∧ (¬ 0 < v5 → ((gp_sh (gp_mk L s3) q1).1 = 9 ∧ (∃ q5, gp_R (gp_mk L s3) q1 2 = some q5 ∧ (gp_in (gp_mk L s3) 101 q5 v2 ∧ (((gp_cmp (gp_L s3 q5 v2.toNat) (0#64)) = 0 → ((gp_sh (gp_mk L s3) q1).1 = 9 ∧ (∃ q6, gp_R (gp_mk L s3) q1 4 = some q6 ∧ (gp_in (gp_mk L s3) 100 q6 v2 ∧ gs_E L (d + 1) 773 78 [gp_r (some 31), gp_r (some q1), gp_i v2, gp_i v3, gp_i v4, gp_i v5, gp_i (gp_I s3 q6 v2.toNat)] [] s3 K)))) ∧ (¬ (gp_cmp (gp_L s3 q5 v2.toNat) (0#64)) = 0 → gs_E L (d + 1) 773 78 [gp_r (some 31), gp_r (some q1), gp_i v2, gp_i v3, gp_i v4, gp_i v5, gp_i x4] [] s3 K))))))))))))))) : gs_E L (d + 1) 773 9 [gp_r (some 31), gp_r v1, gp_i v2, gp_i v3, gp_i v4, gp_i v5, v6] [] s K := by
  refine gs_E.stp (pc' := 12) (ls' := [gp_r (some 31), gp_r v1, gp_i v2, gp_i v3, gp_i v4, gp_i v5, v6]) (st' := [gp_i v3, gp_i v5]) (s' := s) 2 rfl ?_
  refine gs_E.br (c := v3 < v5) (p1 := 141) (p2 := 15) (l1 := [gp_r (some 31), gp_r v1, gp_i v2, gp_i v3, gp_i v4, gp_i v5, v6]) (l2 := [gp_r (some 31), gp_r v1, gp_i v2, gp_i v3, gp_i v4, gp_i v5, v6]) (s1 := []) (s2 := []) rfl gs_b1 (fun hc => ?_) (fun hc => ?_)
  · replace H := H.1 hc
    exact gs_E.ret (r := none) rfl H
  · replace H := H.2 hc
    refine gs_E.stp (pc' := 16) (ls' := [gp_r (some 31), gp_r v1, gp_i v2, gp_i v3, gp_i v4, gp_i v5, v6]) (st' := [gp_r v1]) (s' := s) 1 rfl ?_
    obtain ⟨q1, hq, H⟩ := H
    rw [hq]
    refine gs_E.ck (pc' := 19) (ls' := [gp_r (some 31), gp_r (some q1), gp_i v2, gp_i v3, gp_i v4, gp_i v5, v6]) (st' := [gp_r (gp_R (gp_mk L s) q1 2)]) (s' := s) rfl H.1 ?_
    replace H := H.2
    refine gs_E.stp (pc' := 20) (ls' := [gp_r (some 31), gp_r (some q1), gp_i v2, gp_i v3, gp_i v4, gp_i v5, v6]) (st' := [gp_i v2, gp_r (gp_R (gp_mk L s) q1 2)]) (s' := s) 1 rfl ?_
    obtain ⟨q2, hq, H⟩ := H
    rw [hq]
    refine gs_E.ck (pc' := 21) (ls' := [gp_r (some 31), gp_r (some q1), gp_i v2, gp_i v3, gp_i v4, gp_i v5, v6]) (st' := [gp_l (gp_L s q2 v2.toNat)]) (s' := s) rfl H.1 ?_
    replace H := H.2
    refine gs_E.stp (pc' := 27) (ls' := [gp_r (some 31), gp_r (some q1), gp_i v2, gp_i v3, gp_i v4, gp_i v5, v6]) (st' := [gp_i v5, gp_r (some 34), gp_l (gp_L s q2 v2.toNat)]) (s' := s) 3 rfl ?_
    refine gs_E.call (args := [gp_l (gp_L s q2 v2.toNat), gp_r (some 34), gp_i v5]) (m := 7) (y' := 775) (st' := []) rfl H (fun r s3 H => ?_)
    obtain ⟨x4, rfl, H⟩ := H
    show gs_E L (d + 1) 773 30 [gp_r (some 31), gp_r (some q1), gp_i v2, gp_i v3, gp_i v4, gp_i v5, v6] [gp_i x4] s3 K
    refine gs_E.stp (pc' := 34) (ls' := [gp_r (some 31), gp_r (some q1), gp_i v2, gp_i v3, gp_i v4, gp_i v5, gp_i x4]) (st' := [gp_i v5]) (s' := s3) 2 rfl ?_
    refine gs_E.br (c := ¬ 0 < v5) (p1 := 59) (p2 := 37) (l1 := [gp_r (some 31), gp_r (some q1), gp_i v2, gp_i v3, gp_i v4, gp_i v5, gp_i x4]) (l2 := [gp_r (some 31), gp_r (some q1), gp_i v2, gp_i v3, gp_i v4, gp_i v5, gp_i x4]) (s1 := []) (s2 := []) rfl gs_b2 (fun hc => ?_) (fun hc => ?_)
    · replace H := H.2 hc
      refine gs_E.stp (pc' := 60) (ls' := [gp_r (some 31), gp_r (some q1), gp_i v2, gp_i v3, gp_i v4, gp_i v5, gp_i x4]) (st' := [gp_r (some q1)]) (s' := s3) 1 rfl ?_
      refine gs_E.ck (pc' := 63) (ls' := [gp_r (some 31), gp_r (some q1), gp_i v2, gp_i v3, gp_i v4, gp_i v5, gp_i x4]) (st' := [gp_r (gp_R (gp_mk L s3) q1 2)]) (s' := s3) rfl H.1 ?_
      replace H := H.2
      refine gs_E.stp (pc' := 64) (ls' := [gp_r (some 31), gp_r (some q1), gp_i v2, gp_i v3, gp_i v4, gp_i v5, gp_i x4]) (st' := [gp_i v2, gp_r (gp_R (gp_mk L s3) q1 2)]) (s' := s3) 1 rfl ?_
      obtain ⟨q5, hq, H⟩ := H
      rw [hq]
      refine gs_E.ck (pc' := 65) (ls' := [gp_r (some 31), gp_r (some q1), gp_i v2, gp_i v3, gp_i v4, gp_i v5, gp_i x4]) (st' := [gp_l (gp_L s3 q5 v2.toNat)]) (s' := s3) rfl H.1 ?_
      replace H := H.2
      refine gs_E.stp (pc' := 67) (ls' := [gp_r (some 31), gp_r (some q1), gp_i v2, gp_i v3, gp_i v4, gp_i v5, gp_i x4]) (st' := [gp_i (gp_cmp (gp_L s3 q5 v2.toNat) (0#64))]) (s' := s3) 2 rfl ?_
      refine gs_E.br (c := ¬ (gp_cmp (gp_L s3 q5 v2.toNat) (0#64)) = 0) (p1 := 78) (p2 := 70) (l1 := [gp_r (some 31), gp_r (some q1), gp_i v2, gp_i v3, gp_i v4, gp_i v5, gp_i x4]) (l2 := [gp_r (some 31), gp_r (some q1), gp_i v2, gp_i v3, gp_i v4, gp_i v5, gp_i x4]) (s1 := []) (s2 := []) rfl gs_b2 (fun hc => ?_) (fun hc => ?_)
      · replace H := H.2 hc
        exact H
      · replace H := H.1 (Decidable.byContradiction hc)
        refine gs_E.stp (pc' := 71) (ls' := [gp_r (some 31), gp_r (some q1), gp_i v2, gp_i v3, gp_i v4, gp_i v5, gp_i x4]) (st' := [gp_r (some q1)]) (s' := s3) 1 rfl ?_
        refine gs_E.ck (pc' := 74) (ls' := [gp_r (some 31), gp_r (some q1), gp_i v2, gp_i v3, gp_i v4, gp_i v5, gp_i x4]) (st' := [gp_r (gp_R (gp_mk L s3) q1 4)]) (s' := s3) rfl H.1 ?_
        replace H := H.2
        refine gs_E.stp (pc' := 75) (ls' := [gp_r (some 31), gp_r (some q1), gp_i v2, gp_i v3, gp_i v4, gp_i v5, gp_i x4]) (st' := [gp_i v2, gp_r (gp_R (gp_mk L s3) q1 4)]) (s' := s3) 1 rfl ?_
        obtain ⟨q6, hq, H⟩ := H
        rw [hq]
        refine gs_E.ck (pc' := 76) (ls' := [gp_r (some 31), gp_r (some q1), gp_i v2, gp_i v3, gp_i v4, gp_i v5, gp_i x4]) (st' := [gp_i (gp_I s3 q6 v2.toNat)]) (s' := s3) rfl (Or.inl H.1) ?_
        replace H := H.2
        refine gs_E.stp (pc' := 78) (ls' := [gp_r (some 31), gp_r (some q1), gp_i v2, gp_i v3, gp_i v4, gp_i v5, gp_i (gp_I s3 q6 v2.toNat)]) (st' := []) (s' := s3) 1 rfl ?_
        exact H
    · replace H := H.1 (Decidable.byContradiction hc)
      refine gs_E.stp (pc' := 50) (ls' := [gp_r (some 31), gp_r (some q1), gp_i v2, gp_i v3, gp_i v4, gp_i v5, gp_i x4]) (st' := [gp_i (gp_wr ((gp_wr (v4 + v5)) - 1)), gp_r (some 34), gp_i x4]) (s' := s3) 8 rfl ?_
      refine gs_E.ck (pc' := 51) (ls' := [gp_r (some 31), gp_r (some q1), gp_i v2, gp_i v3, gp_i v4, gp_i v5, gp_i x4]) (st' := [gp_i (gp_I s3 34 (gp_wr ((gp_wr (v4 + v5)) - 1)).toNat), gp_i x4]) (s' := s3) rfl (Or.inl ⟨rfl, H.1.1, H.1.2⟩) ?_
      replace H := H.2
      refine gs_E.stp (pc' := 78) (ls' := [gp_r (some 31), gp_r (some q1), gp_i v2, gp_i v3, gp_i v4, gp_i v5, gp_i (gp_mi x4 (gp_I s3 34 (gp_wr ((gp_wr (v4 + v5)) - 1)).toNat))]) (st' := []) (s' := s3) 3 rfl ?_
      exact H

set_option maxRecDepth 100000 in
/-- Measures.addNegatives, pc 78 -/
theorem s_773_78 {L d : Nat} {K : Option gV → gH → Prop} {s : gH} (v1 : Option Nat) (v2 : Int) (v3 : Int) (v4 : Int) (v5 : Int) (v6 : Int) (H : ((0 ≤ (gp_wr (v4 + v5)) ∧ (gp_wr (v4 + v5)) < 3721) ∧ (∀ s1, s1 = gp_wI s 35 (gp_wr (v4 + v5)).toNat v6 → (∃ q2, v1 = some q2 ∧ ((gp_sh (gp_mk L s1) q2).1 = 9 ∧ (∃ q3, gp_R (gp_mk L s1) q2 1 = some q3 ∧ (gp_in (gp_mk L s1) 101 q3 v2 ∧ (((gp_cmp (gp_L s1 q3 v2.toNat) (0#64)) = 0 → ((gp_sh (gp_mk L s1) q2).1 = 9 ∧ (∃ q7, gp_R (gp_mk L s1) q2 3 = some q7 ∧ (gp_in (gp_mk L s1) 100 q7 v2 ∧ gs_E L (d + 1) 773 134 [gp_r (some 31), gp_r (some q2), gp_i v2, gp_i v3, gp_i v4, gp_i v5, gp_i v6] [gp_i (gp_I s1 q7 v2.toNat), gp_i (gp_wr (v4 + v5)), gp_r (some 34)] s1 K)))) ∧ (¬ (gp_cmp (gp_L s1 q3 v2.toNat) (0#64)) = 0 → ((gp_sh (gp_mk L s1) q2).1 = 9 ∧ (∃ q4, gp_R (gp_mk L s1) q2 1 = some q4 ∧ (gp_in (gp_mk L s1) 101 q4 v2 ∧ gs_C L d 774 7 [gp_l (gp_L s1 q4 v2.toNat), gp_r (some 35), gp_i v5] s1 (fun r s5 => ∃ x6, r = some (gp_i x6) ∧ gs_E L (d + 1) 773 134 [gp_r (some 31), gp_r (some q2), gp_i v2, gp_i v3, gp_i v4, gp_i v5, gp_i v6] [gp_i x6, gp_i (gp_wr (v4 + v5)), gp_r (some 34)] s5 K))))))))))))) : gs_E L (d + 1) 773 78 [gp_r (some 31), gp_r v1, gp_i v2, gp_i v3, gp_i v4, gp_i v5, gp_i v6] [] s K := by
  refine gs_E.stp (pc' := 89) (ls' := [gp_r (some 31), gp_r v1, gp_i v2, gp_i v3, gp_i v4, gp_i v5, gp_i v6]) (st' := [gp_i v6, gp_i (gp_wr (v4 + v5)), gp_r (some 35)]) (s' := s) 6 rfl ?_
  refine gs_E.ck (pc' := 90) (ls' := [gp_r (some 31), gp_r v1, gp_i v2, gp_i v3, gp_i v4, gp_i v5, gp_i v6]) (st' := []) (s' := gp_wI s 35 (gp_wr (v4 + v5)).toNat v6) rfl ⟨rfl, H.1.1, H.1.2⟩ ?_
  replace H := H.2 _ rfl
  generalize gp_wI s 35 (gp_wr (v4 + v5)).toNat v6 = s1 at H ⊢
  refine gs_E.stp (pc' := 100) (ls' := [gp_r (some 31), gp_r v1, gp_i v2, gp_i v3, gp_i v4, gp_i v5, gp_i v6]) (st' := [gp_r v1, gp_i (gp_wr (v4 + v5)), gp_r (some 34)]) (s' := s1) 6 rfl ?_
  obtain ⟨q2, hq, H⟩ := H
  rw [hq]
  refine gs_E.ck (pc' := 103) (ls' := [gp_r (some 31), gp_r (some q2), gp_i v2, gp_i v3, gp_i v4, gp_i v5, gp_i v6]) (st' := [gp_r (gp_R (gp_mk L s1) q2 1), gp_i (gp_wr (v4 + v5)), gp_r (some 34)]) (s' := s1) rfl H.1 ?_
  replace H := H.2
  refine gs_E.stp (pc' := 104) (ls' := [gp_r (some 31), gp_r (some q2), gp_i v2, gp_i v3, gp_i v4, gp_i v5, gp_i v6]) (st' := [gp_i v2, gp_r (gp_R (gp_mk L s1) q2 1), gp_i (gp_wr (v4 + v5)), gp_r (some 34)]) (s' := s1) 1 rfl ?_
  obtain ⟨q3, hq, H⟩ := H
  rw [hq]
  refine gs_E.ck (pc' := 105) (ls' := [gp_r (some 31), gp_r (some q2), gp_i v2, gp_i v3, gp_i v4, gp_i v5, gp_i v6]) (st' := [gp_l (gp_L s1 q3 v2.toNat), gp_i (gp_wr (v4 + v5)), gp_r (some 34)]) (s' := s1) rfl H.1 ?_
  replace H := H.2
  refine gs_E.stp (pc' := 107) (ls' := [gp_r (some 31), gp_r (some q2), gp_i v2, gp_i v3, gp_i v4, gp_i v5, gp_i v6]) (st' := [gp_i (gp_cmp (gp_L s1 q3 v2.toNat) (0#64)), gp_i (gp_wr (v4 + v5)), gp_r (some 34)]) (s' := s1) 2 rfl ?_
  refine gs_E.br (c := ¬ (gp_cmp (gp_L s1 q3 v2.toNat) (0#64)) = 0) (p1 := 119) (p2 := 110) (l1 := [gp_r (some 31), gp_r (some q2), gp_i v2, gp_i v3, gp_i v4, gp_i v5, gp_i v6]) (l2 := [gp_r (some 31), gp_r (some q2), gp_i v2, gp_i v3, gp_i v4, gp_i v5, gp_i v6]) (s1 := [gp_i (gp_wr (v4 + v5)), gp_r (some 34)]) (s2 := [gp_i (gp_wr (v4 + v5)), gp_r (some 34)]) rfl gs_b2 (fun hc => ?_) (fun hc => ?_)
  · replace H := H.2 hc
    refine gs_E.stp (pc' := 120) (ls' := [gp_r (some 31), gp_r (some q2), gp_i v2, gp_i v3, gp_i v4, gp_i v5, gp_i v6]) (st' := [gp_r (some q2), gp_i (gp_wr (v4 + v5)), gp_r (some 34)]) (s' := s1) 1 rfl ?_
    refine gs_E.ck (pc' := 123) (ls' := [gp_r (some 31), gp_r (some q2), gp_i v2, gp_i v3, gp_i v4, gp_i v5, gp_i v6]) (st' := [gp_r (gp_R (gp_mk L s1) q2 1), gp_i (gp_wr (v4 + v5)), gp_r (some 34)]) (s' := s1) rfl H.1 ?_
    replace H := H.2
    refine gs_E.stp (pc' := 124) (ls' := [gp_r (some 31), gp_r (some q2), gp_i v2, gp_i v3, gp_i v4, gp_i v5, gp_i v6]) (st' := [gp_i v2, gp_r (gp_R (gp_mk L s1) q2 1), gp_i (gp_wr (v4 + v5)), gp_r (some 34)]) (s' := s1) 1 rfl ?_
    obtain ⟨q4, hq, H⟩ := H
    rw [hq]
    refine gs_E.ck (pc' := 125) (ls' := [gp_r (some 31), gp_r (some q2), gp_i v2, gp_i v3, gp_i v4, gp_i v5, gp_i v6]) (st' := [gp_l (gp_L s1 q4 v2.toNat), gp_i (gp_wr (v4 + v5)), gp_r (some 34)]) (s' := s1) rfl H.1 ?_
    replace H := H.2
    refine gs_E.stp (pc' := 131) (ls' := [gp_r (some 31), gp_r (some q2), gp_i v2, gp_i v3, gp_i v4, gp_i v5, gp_i v6]) (st' := [gp_i v5, gp_r (some 35), gp_l (gp_L s1 q4 v2.toNat), gp_i (gp_wr (v4 + v5)), gp_r (some 34)]) (s' := s1) 3 rfl ?_
    refine gs_E.call (args := [gp_l (gp_L s1 q4 v2.toNat), gp_r (some 35), gp_i v5]) (m := 7) (y' := 774) (st' := [gp_i (gp_wr (v4 + v5)), gp_r (some 34)]) rfl H (fun r s5 H => ?_)
    obtain ⟨x6, rfl, H⟩ := H
    show gs_E L (d + 1) 773 134 [gp_r (some 31), gp_r (some q2), gp_i v2, gp_i v3, gp_i v4, gp_i v5, gp_i v6] [gp_i x6, gp_i (gp_wr (v4 + v5)), gp_r (some 34)] s5 K
    exact H
  · replace H := H.1 (Decidable.byContradiction hc)
    refine gs_E.stp (pc' := 111) (ls' := [gp_r (some 31), gp_r (some q2), gp_i v2, gp_i v3, gp_i v4, gp_i v5, gp_i v6]) (st' := [gp_r (some q2), gp_i (gp_wr (v4 + v5)), gp_r (some 34)]) (s' := s1) 1 rfl ?_
    refine gs_E.ck (pc' := 114) (ls' := [gp_r (some 31), gp_r (some q2), gp_i v2, gp_i v3, gp_i v4, gp_i v5, gp_i v6]) (st' := [gp_r (gp_R (gp_mk L s1) q2 3), gp_i (gp_wr (v4 + v5)), gp_r (some 34)]) (s' := s1) rfl H.1 ?_
    replace H := H.2
    refine gs_E.stp (pc' := 115) (ls' := [gp_r (some 31), gp_r (some q2), gp_i v2, gp_i v3, gp_i v4, gp_i v5, gp_i v6]) (st' := [gp_i v2, gp_r (gp_R (gp_mk L s1) q2 3), gp_i (gp_wr (v4 + v5)), gp_r (some 34)]) (s' := s1) 1 rfl ?_
    obtain ⟨q7, hq, H⟩ := H
    rw [hq]
    refine gs_E.ck (pc' := 116) (ls' := [gp_r (some 31), gp_r (some q2), gp_i v2, gp_i v3, gp_i v4, gp_i v5, gp_i v6]) (st' := [gp_i (gp_I s1 q7 v2.toNat), gp_i (gp_wr (v4 + v5)), gp_r (some 34)]) (s' := s1) rfl (Or.inl H.1) ?_
    replace H := H.2
    refine gs_E.stp (pc' := 134) (ls' := [gp_r (some 31), gp_r (some q2), gp_i v2, gp_i v3, gp_i v4, gp_i v5, gp_i v6]) (st' := [gp_i (gp_I s1 q7 v2.toNat), gp_i (gp_wr (v4 + v5)), gp_r (some 34)]) (s' := s1) 1 rfl ?_
    exact H

set_option maxRecDepth 100000 in
/-- Measures.addNegatives, pc 134 -/
theorem s_773_134 {L d : Nat} {K : Option gV → gH → Prop} {s : gH} (v1 : Option Nat) (v2 : Int) (v3 : Int) (v4 : Int) (v5 : Int) (v6 : Int) (w1 : Int) (w2 : Int) (H : ((0 ≤ w1 ∧ w1 < 3721) ∧ (∀ s1, s1 = gp_wI s 34 w1.toNat w2 → gs_E L (d + 1) 773 9 [gp_r (some 31), gp_r v1, gp_i v2, gp_i v3, gp_i v4, gp_i (gp_wr (v5 + 1)), gp_i v6] [] s1 K))) : gs_E L (d + 1) 773 134 [gp_r (some 31), gp_r v1, gp_i v2, gp_i v3, gp_i v4, gp_i v5, gp_i v6] [gp_i w2, gp_i w1, gp_r (some 34)] s K := by
  refine gs_E.ck (pc' := 135) (ls' := [gp_r (some 31), gp_r v1, gp_i v2, gp_i v3, gp_i v4, gp_i v5, gp_i v6]) (st' := []) (s' := gp_wI s 34 w1.toNat w2) rfl ⟨rfl, H.1.1, H.1.2⟩ ?_
  replace H := H.2 _ rfl
  generalize gp_wI s 34 w1.toNat w2 = s1 at H ⊢
  refine gs_E.stp (pc' := 9) (ls' := [gp_r (some 31), gp_r v1, gp_i v2, gp_i v3, gp_i v4, gp_i (gp_wr (v5 + 1)), gp_i v6]) (st' := []) (s' := s1) 2 rfl ?_
  exact H

set_option maxRecDepth 100000 in
/-- Measures.highestOf, pc 0 -/
theorem s_774_e {L d : Nat} {K : Option gV → gH → Prop} {s : gH} (p0 : BitVec 64) (p1 : Option Nat) (p2 : Int) (H : gs_E L (d + 1) 774 7 [gp_l p0, gp_n, gp_r p1, gp_i p2, gp_i (-2147483648), gp_l p0, gp_n] [] s K) : gs_C L (d + 1) 774 7 [gp_l p0, gp_r p1, gp_i p2] s K := by
  show gs_E L (d + 1) 774 0 [gp_l p0, gp_n, gp_r p1, gp_i p2, gp_n, gp_n, gp_n] [] s K
  refine gs_E.stp (pc' := 7) (ls' := [gp_l p0, gp_n, gp_r p1, gp_i p2, gp_i (-2147483648), gp_l p0, gp_n]) (st' := []) (s' := s) 4 rfl ?_
  exact H

set_option maxRecDepth 100000 in
/-- Measures.highestOf, pc 7 -/
theorem s_774_7 {L d : Nat} {K : Option gV → gH → Prop} {s : gH} (v0 : BitVec 64) (v2 : Option Nat) (v3 : Int) (v4 : Int) (v5 : BitVec 64) (H : (((gp_cmp v5 (0#64)) = 0 → K (some (gp_i v4)) s) ∧ (¬ (gp_cmp v5 (0#64)) = 0 → gs_C L d 2859 2 [gp_l v5] s (fun r s1 => ∃ x2, r = some (gp_i x2) ∧ (∃ q3, v2 = some q3 ∧ (gp_in (gp_mk L s1) 100 q3 (gp_wr ((gp_wr (x2 * 61)) + v3)) ∧ gs_E L (d + 1) 774 7 [gp_l v0, gp_n, gp_r (some q3), gp_i v3, gp_i (gp_mx v4 (gp_I s1 q3 (gp_wr ((gp_wr (x2 * 61)) + v3)).toNat)), gp_l (v5 &&& (v5 - (1#64))), gp_n] [] s1 K)))))) : gs_E L (d + 1) 774 7 [gp_l v0, gp_n, gp_r v2, gp_i v3, gp_i v4, gp_l v5, gp_n] [] s K := by
  refine gs_E.stp (pc' := 11) (ls' := [gp_l v0, gp_n, gp_r v2, gp_i v3, gp_i v4, gp_l v5, gp_n]) (st' := [gp_i (gp_cmp v5 (0#64))]) (s' := s) 3 rfl ?_
  refine gs_E.br (c := (gp_cmp v5 (0#64)) = 0) (p1 := 45) (p2 := 14) (l1 := [gp_l v0, gp_n, gp_r v2, gp_i v3, gp_i v4, gp_l v5, gp_n]) (l2 := [gp_l v0, gp_n, gp_r v2, gp_i v3, gp_i v4, gp_l v5, gp_n]) (s1 := []) (s2 := []) rfl gs_b1 (fun hc => ?_) (fun hc => ?_)
  · replace H := H.1 hc
    refine gs_E.stp (pc' := 47) (ls' := [gp_l v0, gp_n, gp_r v2, gp_i v3, gp_i v4, gp_l v5, gp_n]) (st' := [gp_i v4]) (s' := s) 1 rfl ?_
    exact gs_E.ret (r := (some (gp_i v4))) rfl H
  · replace H := H.2 hc
    refine gs_E.stp (pc' := 19) (ls' := [gp_l v0, gp_n, gp_r v2, gp_i v3, gp_i v4, gp_l v5, gp_n]) (st' := [gp_l v5, gp_r v2, gp_i v4]) (s' := s) 3 rfl ?_
    refine gs_E.call (args := [gp_l v5]) (m := 2) (y' := 2859) (st' := [gp_r v2, gp_i v4]) rfl H (fun r s1 H => ?_)
    obtain ⟨x2, rfl, H⟩ := H
    show gs_E L (d + 1) 774 22 [gp_l v0, gp_n, gp_r v2, gp_i v3, gp_i v4, gp_l v5, gp_n] [gp_i x2, gp_r v2, gp_i v4] s1 K
    refine gs_E.stp (pc' := 27) (ls' := [gp_l v0, gp_n, gp_r v2, gp_i v3, gp_i v4, gp_l v5, gp_n]) (st' := [gp_i (gp_wr ((gp_wr (x2 * 61)) + v3)), gp_r v2, gp_i v4]) (s' := s1) 4 rfl ?_
    obtain ⟨q3, hq, H⟩ := H
    rw [hq]
    refine gs_E.ck (pc' := 28) (ls' := [gp_l v0, gp_n, gp_r (some q3), gp_i v3, gp_i v4, gp_l v5, gp_n]) (st' := [gp_i (gp_I s1 q3 (gp_wr ((gp_wr (x2 * 61)) + v3)).toNat), gp_i v4]) (s' := s1) rfl (Or.inl H.1) ?_
    replace H := H.2
    refine gs_E.stp (pc' := 7) (ls' := [gp_l v0, gp_n, gp_r (some q3), gp_i v3, gp_i (gp_mx v4 (gp_I s1 q3 (gp_wr ((gp_wr (x2 * 61)) + v3)).toNat)), gp_l (v5 &&& (v5 - (1#64))), gp_n]) (st' := []) (s' := s1) 9 rfl ?_
    exact H

set_option maxRecDepth 100000 in
/-- Measures.lowestOf, pc 0 -/
theorem s_775_e {L d : Nat} {K : Option gV → gH → Prop} {s : gH} (p0 : BitVec 64) (p1 : Option Nat) (p2 : Int) (H : gs_E L (d + 1) 775 7 [gp_l p0, gp_n, gp_r p1, gp_i p2, gp_i 2147483647, gp_l p0, gp_n] [] s K) : gs_C L (d + 1) 775 7 [gp_l p0, gp_r p1, gp_i p2] s K := by
  show gs_E L (d + 1) 775 0 [gp_l p0, gp_n, gp_r p1, gp_i p2, gp_n, gp_n, gp_n] [] s K
  refine gs_E.stp (pc' := 7) (ls' := [gp_l p0, gp_n, gp_r p1, gp_i p2, gp_i 2147483647, gp_l p0, gp_n]) (st' := []) (s' := s) 4 rfl ?_
  exact H

set_option maxRecDepth 100000 in
/-- Measures.lowestOf, pc 7 -/
theorem s_775_7 {L d : Nat} {K : Option gV → gH → Prop} {s : gH} (v0 : BitVec 64) (v2 : Option Nat) (v3 : Int) (v4 : Int) (v5 : BitVec 64) (H : (((gp_cmp v5 (0#64)) = 0 → K (some (gp_i v4)) s) ∧ (¬ (gp_cmp v5 (0#64)) = 0 → gs_C L d 2859 2 [gp_l v5] s (fun r s1 => ∃ x2, r = some (gp_i x2) ∧ (∃ q3, v2 = some q3 ∧ (gp_in (gp_mk L s1) 100 q3 (gp_wr ((gp_wr (x2 * 61)) + v3)) ∧ gs_E L (d + 1) 775 7 [gp_l v0, gp_n, gp_r (some q3), gp_i v3, gp_i (gp_mi v4 (gp_I s1 q3 (gp_wr ((gp_wr (x2 * 61)) + v3)).toNat)), gp_l (v5 &&& (v5 - (1#64))), gp_n] [] s1 K)))))) : gs_E L (d + 1) 775 7 [gp_l v0, gp_n, gp_r v2, gp_i v3, gp_i v4, gp_l v5, gp_n] [] s K := by
  refine gs_E.stp (pc' := 11) (ls' := [gp_l v0, gp_n, gp_r v2, gp_i v3, gp_i v4, gp_l v5, gp_n]) (st' := [gp_i (gp_cmp v5 (0#64))]) (s' := s) 3 rfl ?_
  refine gs_E.br (c := (gp_cmp v5 (0#64)) = 0) (p1 := 45) (p2 := 14) (l1 := [gp_l v0, gp_n, gp_r v2, gp_i v3, gp_i v4, gp_l v5, gp_n]) (l2 := [gp_l v0, gp_n, gp_r v2, gp_i v3, gp_i v4, gp_l v5, gp_n]) (s1 := []) (s2 := []) rfl gs_b1 (fun hc => ?_) (fun hc => ?_)
  · replace H := H.1 hc
    refine gs_E.stp (pc' := 47) (ls' := [gp_l v0, gp_n, gp_r v2, gp_i v3, gp_i v4, gp_l v5, gp_n]) (st' := [gp_i v4]) (s' := s) 1 rfl ?_
    exact gs_E.ret (r := (some (gp_i v4))) rfl H
  · replace H := H.2 hc
    refine gs_E.stp (pc' := 19) (ls' := [gp_l v0, gp_n, gp_r v2, gp_i v3, gp_i v4, gp_l v5, gp_n]) (st' := [gp_l v5, gp_r v2, gp_i v4]) (s' := s) 3 rfl ?_
    refine gs_E.call (args := [gp_l v5]) (m := 2) (y' := 2859) (st' := [gp_r v2, gp_i v4]) rfl H (fun r s1 H => ?_)
    obtain ⟨x2, rfl, H⟩ := H
    show gs_E L (d + 1) 775 22 [gp_l v0, gp_n, gp_r v2, gp_i v3, gp_i v4, gp_l v5, gp_n] [gp_i x2, gp_r v2, gp_i v4] s1 K
    refine gs_E.stp (pc' := 27) (ls' := [gp_l v0, gp_n, gp_r v2, gp_i v3, gp_i v4, gp_l v5, gp_n]) (st' := [gp_i (gp_wr ((gp_wr (x2 * 61)) + v3)), gp_r v2, gp_i v4]) (s' := s1) 4 rfl ?_
    obtain ⟨q3, hq, H⟩ := H
    rw [hq]
    refine gs_E.ck (pc' := 28) (ls' := [gp_l v0, gp_n, gp_r (some q3), gp_i v3, gp_i v4, gp_l v5, gp_n]) (st' := [gp_i (gp_I s1 q3 (gp_wr ((gp_wr (x2 * 61)) + v3)).toNat), gp_i v4]) (s' := s1) rfl (Or.inl H.1) ?_
    replace H := H.2
    refine gs_E.stp (pc' := 7) (ls' := [gp_l v0, gp_n, gp_r (some q3), gp_i v3, gp_i (gp_mi v4 (gp_I s1 q3 (gp_wr ((gp_wr (x2 * 61)) + v3)).toNat)), gp_l (v5 &&& (v5 - (1#64))), gp_n]) (st' := []) (s' := s1) 9 rfl ?_
    exact H

set_option maxRecDepth 100000 in
/-- Measures.sure, pc 0 -/
theorem s_776_e {L d : Nat} {K : Option gV → gH → Prop} {s : gH} (p0 : Option Nat) (H : gs_E L (d + 1) 776 2 [gp_r (some 31), gp_r p0, gp_i 0] [] s K) : gs_C L (d + 1) 776 3 [gp_r (some 31), gp_r p0] s K := by
  show gs_E L (d + 1) 776 0 [gp_r (some 31), gp_r p0, gp_n] [] s K
  refine gs_E.stp (pc' := 2) (ls' := [gp_r (some 31), gp_r p0, gp_i 0]) (st' := []) (s' := s) 2 rfl ?_
  exact H

set_option maxRecDepth 100000 in
/-- Measures.sure, pc 2 -/
theorem s_776_2 {L d : Nat} {K : Option gV → gH → Prop} {s : gH} (v1 : Option Nat) (v2 : Int) (H : (∃ q1, v1 = some q1 ∧ ((gp_sh (gp_mk L s) q1).1 = 9 ∧ ((v2 < (gp_I s q1 0) → gs_C L d 777 8 [gp_r (some 31), gp_r (some q1), gp_i v2] s (fun r s2 => r = none ∧ ((gp_sh (gp_mk L s2) q1).1 = 9 ∧ (∃ q3, gp_R (gp_mk L s2) q1 1 = some q3 ∧ (gp_in (gp_mk L s2) 101 q3 v2 ∧ (((gp_cmp (gp_L s2 q3 v2.toNat) (0#64)) = 0 → ((0 ≤ v2 ∧ v2 < 61) ∧ ((gp_sh (gp_mk L s2) q1).1 = 9 ∧ (∃ q4, gp_R (gp_mk L s2) q1 3 = some q4 ∧ (gp_in (gp_mk L s2) 100 q4 v2 ∧ (((gp_I s2 36 v2.toNat) < (gp_I s2 q4 v2.toNat) → gs_E L (d + 1) 776 68 [gp_r (some 31), gp_r (some q1), gp_i v2] [] s2 K) ∧ (¬ (gp_I s2 36 v2.toNat) < (gp_I s2 q4 v2.toNat) → gs_E L (d + 1) 776 42 [gp_r (some 31), gp_r (some q1), gp_i v2] [] s2 K))))))) ∧ (¬ (gp_cmp (gp_L s2 q3 v2.toNat) (0#64)) = 0 → gs_E L (d + 1) 776 42 [gp_r (some 31), gp_r (some q1), gp_i v2] [] s2 K))))))) ∧ (¬ v2 < (gp_I s q1 0) → K (some (gp_i 1)) s))))) : gs_E L (d + 1) 776 2 [gp_r (some 31), gp_r v1, gp_i v2] [] s K := by
  refine gs_E.stp (pc' := 4) (ls' := [gp_r (some 31), gp_r v1, gp_i v2]) (st' := [gp_r v1, gp_i v2]) (s' := s) 2 rfl ?_
  obtain ⟨q1, hq, H⟩ := H
  rw [hq]
  refine gs_E.ck (pc' := 7) (ls' := [gp_r (some 31), gp_r (some q1), gp_i v2]) (st' := [gp_i (gp_I s q1 0), gp_i v2]) (s' := s) rfl H.1 ?_
  replace H := H.2
  refine gs_E.br (c := ¬ v2 < (gp_I s q1 0)) (p1 := 76) (p2 := 10) (l1 := [gp_r (some 31), gp_r (some q1), gp_i v2]) (l2 := [gp_r (some 31), gp_r (some q1), gp_i v2]) (s1 := []) (s2 := []) rfl gs_b2 (fun hc => ?_) (fun hc => ?_)
  · replace H := H.2 hc
    refine gs_E.stp (pc' := 77) (ls' := [gp_r (some 31), gp_r (some q1), gp_i v2]) (st' := [gp_i 1]) (s' := s) 1 rfl ?_
    exact gs_E.ret (r := (some (gp_i 1))) rfl H
  · replace H := H.1 (Decidable.byContradiction hc)
    refine gs_E.stp (pc' := 13) (ls' := [gp_r (some 31), gp_r (some q1), gp_i v2]) (st' := [gp_i v2, gp_r (some q1), gp_r (some 31)]) (s' := s) 3 rfl ?_
    refine gs_E.call (args := [gp_r (some 31), gp_r (some q1), gp_i v2]) (m := 8) (y' := 777) (st' := []) rfl H (fun r s2 H => ?_)
    obtain ⟨rfl, H⟩ := H
    show gs_E L (d + 1) 776 16 [gp_r (some 31), gp_r (some q1), gp_i v2] [] s2 K
    refine gs_E.stp (pc' := 17) (ls' := [gp_r (some 31), gp_r (some q1), gp_i v2]) (st' := [gp_r (some q1)]) (s' := s2) 1 rfl ?_
    refine gs_E.ck (pc' := 20) (ls' := [gp_r (some 31), gp_r (some q1), gp_i v2]) (st' := [gp_r (gp_R (gp_mk L s2) q1 1)]) (s' := s2) rfl H.1 ?_
    replace H := H.2
    refine gs_E.stp (pc' := 21) (ls' := [gp_r (some 31), gp_r (some q1), gp_i v2]) (st' := [gp_i v2, gp_r (gp_R (gp_mk L s2) q1 1)]) (s' := s2) 1 rfl ?_
    obtain ⟨q3, hq, H⟩ := H
    rw [hq]
    refine gs_E.ck (pc' := 22) (ls' := [gp_r (some 31), gp_r (some q1), gp_i v2]) (st' := [gp_l (gp_L s2 q3 v2.toNat)]) (s' := s2) rfl H.1 ?_
    replace H := H.2
    refine gs_E.stp (pc' := 24) (ls' := [gp_r (some 31), gp_r (some q1), gp_i v2]) (st' := [gp_i (gp_cmp (gp_L s2 q3 v2.toNat) (0#64))]) (s' := s2) 2 rfl ?_
    refine gs_E.br (c := ¬ (gp_cmp (gp_L s2 q3 v2.toNat) (0#64)) = 0) (p1 := 42) (p2 := 27) (l1 := [gp_r (some 31), gp_r (some q1), gp_i v2]) (l2 := [gp_r (some 31), gp_r (some q1), gp_i v2]) (s1 := []) (s2 := []) rfl gs_b2 (fun hc => ?_) (fun hc => ?_)
    · replace H := H.2 hc
      exact H
    · replace H := H.1 (Decidable.byContradiction hc)
      refine gs_E.stp (pc' := 32) (ls' := [gp_r (some 31), gp_r (some q1), gp_i v2]) (st' := [gp_i v2, gp_r (some 36)]) (s' := s2) 3 rfl ?_
      refine gs_E.ck (pc' := 33) (ls' := [gp_r (some 31), gp_r (some q1), gp_i v2]) (st' := [gp_i (gp_I s2 36 v2.toNat)]) (s' := s2) rfl (Or.inl ⟨rfl, H.1.1, H.1.2⟩) ?_
      replace H := H.2
      refine gs_E.stp (pc' := 34) (ls' := [gp_r (some 31), gp_r (some q1), gp_i v2]) (st' := [gp_r (some q1), gp_i (gp_I s2 36 v2.toNat)]) (s' := s2) 1 rfl ?_
      refine gs_E.ck (pc' := 37) (ls' := [gp_r (some 31), gp_r (some q1), gp_i v2]) (st' := [gp_r (gp_R (gp_mk L s2) q1 3), gp_i (gp_I s2 36 v2.toNat)]) (s' := s2) rfl H.1 ?_
      replace H := H.2
      refine gs_E.stp (pc' := 38) (ls' := [gp_r (some 31), gp_r (some q1), gp_i v2]) (st' := [gp_i v2, gp_r (gp_R (gp_mk L s2) q1 3), gp_i (gp_I s2 36 v2.toNat)]) (s' := s2) 1 rfl ?_
      obtain ⟨q4, hq, H⟩ := H
      rw [hq]
      refine gs_E.ck (pc' := 39) (ls' := [gp_r (some 31), gp_r (some q1), gp_i v2]) (st' := [gp_i (gp_I s2 q4 v2.toNat), gp_i (gp_I s2 36 v2.toNat)]) (s' := s2) rfl (Or.inl H.1) ?_
      replace H := H.2
      refine gs_E.br (c := (gp_I s2 36 v2.toNat) < (gp_I s2 q4 v2.toNat)) (p1 := 68) (p2 := 42) (l1 := [gp_r (some 31), gp_r (some q1), gp_i v2]) (l2 := [gp_r (some 31), gp_r (some q1), gp_i v2]) (s1 := []) (s2 := []) rfl gs_b1 (fun hc => ?_) (fun hc => ?_)
      · replace H := H.1 hc
        exact H
      · replace H := H.2 hc
        exact H

set_option maxRecDepth 100000 in
/-- Measures.sure, pc 42 -/
theorem s_776_42 {L d : Nat} {K : Option gV → gH → Prop} {s : gH} (v1 : Option Nat) (v2 : Int) (H : (∃ q1, v1 = some q1 ∧ ((gp_sh (gp_mk L s) q1).1 = 9 ∧ (∃ q2, gp_R (gp_mk L s) q1 2 = some q2 ∧ (gp_in (gp_mk L s) 101 q2 v2 ∧ (((gp_cmp (gp_L s q2 v2.toNat) (0#64)) = 0 → ((0 ≤ v2 ∧ v2 < 61) ∧ ((gp_sh (gp_mk L s) q1).1 = 9 ∧ (∃ q3, gp_R (gp_mk L s) q1 4 = some q3 ∧ (gp_in (gp_mk L s) 100 q3 v2 ∧ (((gp_I s q3 v2.toNat) < (gp_I s 37 v2.toNat) → gs_E L (d + 1) 776 68 [gp_r (some 31), gp_r (some q1), gp_i v2] [] s K) ∧ (¬ (gp_I s q3 v2.toNat) < (gp_I s 37 v2.toNat) → gs_E L (d + 1) 776 70 [gp_r (some 31), gp_r (some q1), gp_i v2] [] s K))))))) ∧ (¬ (gp_cmp (gp_L s q2 v2.toNat) (0#64)) = 0 → gs_E L (d + 1) 776 70 [gp_r (some 31), gp_r (some q1), gp_i v2] [] s K))))))) : gs_E L (d + 1) 776 42 [gp_r (some 31), gp_r v1, gp_i v2] [] s K := by
  refine gs_E.stp (pc' := 43) (ls' := [gp_r (some 31), gp_r v1, gp_i v2]) (st' := [gp_r v1]) (s' := s) 1 rfl ?_
  obtain ⟨q1, hq, H⟩ := H
  rw [hq]
  refine gs_E.ck (pc' := 46) (ls' := [gp_r (some 31), gp_r (some q1), gp_i v2]) (st' := [gp_r (gp_R (gp_mk L s) q1 2)]) (s' := s) rfl H.1 ?_
  replace H := H.2
  refine gs_E.stp (pc' := 47) (ls' := [gp_r (some 31), gp_r (some q1), gp_i v2]) (st' := [gp_i v2, gp_r (gp_R (gp_mk L s) q1 2)]) (s' := s) 1 rfl ?_
  obtain ⟨q2, hq, H⟩ := H
  rw [hq]
  refine gs_E.ck (pc' := 48) (ls' := [gp_r (some 31), gp_r (some q1), gp_i v2]) (st' := [gp_l (gp_L s q2 v2.toNat)]) (s' := s) rfl H.1 ?_
  replace H := H.2
  refine gs_E.stp (pc' := 50) (ls' := [gp_r (some 31), gp_r (some q1), gp_i v2]) (st' := [gp_i (gp_cmp (gp_L s q2 v2.toNat) (0#64))]) (s' := s) 2 rfl ?_
  refine gs_E.br (c := ¬ (gp_cmp (gp_L s q2 v2.toNat) (0#64)) = 0) (p1 := 70) (p2 := 53) (l1 := [gp_r (some 31), gp_r (some q1), gp_i v2]) (l2 := [gp_r (some 31), gp_r (some q1), gp_i v2]) (s1 := []) (s2 := []) rfl gs_b2 (fun hc => ?_) (fun hc => ?_)
  · replace H := H.2 hc
    exact H
  · replace H := H.1 (Decidable.byContradiction hc)
    refine gs_E.stp (pc' := 58) (ls' := [gp_r (some 31), gp_r (some q1), gp_i v2]) (st' := [gp_i v2, gp_r (some 37)]) (s' := s) 3 rfl ?_
    refine gs_E.ck (pc' := 59) (ls' := [gp_r (some 31), gp_r (some q1), gp_i v2]) (st' := [gp_i (gp_I s 37 v2.toNat)]) (s' := s) rfl (Or.inl ⟨rfl, H.1.1, H.1.2⟩) ?_
    replace H := H.2
    refine gs_E.stp (pc' := 60) (ls' := [gp_r (some 31), gp_r (some q1), gp_i v2]) (st' := [gp_r (some q1), gp_i (gp_I s 37 v2.toNat)]) (s' := s) 1 rfl ?_
    refine gs_E.ck (pc' := 63) (ls' := [gp_r (some 31), gp_r (some q1), gp_i v2]) (st' := [gp_r (gp_R (gp_mk L s) q1 4), gp_i (gp_I s 37 v2.toNat)]) (s' := s) rfl H.1 ?_
    replace H := H.2
    refine gs_E.stp (pc' := 64) (ls' := [gp_r (some 31), gp_r (some q1), gp_i v2]) (st' := [gp_i v2, gp_r (gp_R (gp_mk L s) q1 4), gp_i (gp_I s 37 v2.toNat)]) (s' := s) 1 rfl ?_
    obtain ⟨q3, hq, H⟩ := H
    rw [hq]
    refine gs_E.ck (pc' := 65) (ls' := [gp_r (some 31), gp_r (some q1), gp_i v2]) (st' := [gp_i (gp_I s q3 v2.toNat), gp_i (gp_I s 37 v2.toNat)]) (s' := s) rfl (Or.inl H.1) ?_
    replace H := H.2
    refine gs_E.br (c := ¬ (gp_I s q3 v2.toNat) < (gp_I s 37 v2.toNat)) (p1 := 70) (p2 := 68) (l1 := [gp_r (some 31), gp_r (some q1), gp_i v2]) (l2 := [gp_r (some 31), gp_r (some q1), gp_i v2]) (s1 := []) (s2 := []) rfl gs_b2 (fun hc => ?_) (fun hc => ?_)
    · replace H := H.2 hc
      exact H
    · replace H := H.1 (Decidable.byContradiction hc)
      exact H

set_option maxRecDepth 100000 in
/-- Measures.sure, pc 68 -/
theorem s_776_68 {L d : Nat} {K : Option gV → gH → Prop} {s : gH} (v1 : Option Nat) (v2 : Int) (H : K (some (gp_i 0)) s) : gs_E L (d + 1) 776 68 [gp_r (some 31), gp_r v1, gp_i v2] [] s K := by
  refine gs_E.stp (pc' := 69) (ls' := [gp_r (some 31), gp_r v1, gp_i v2]) (st' := [gp_i 0]) (s' := s) 1 rfl ?_
  exact gs_E.ret (r := (some (gp_i 0))) rfl H

set_option maxRecDepth 100000 in
/-- Measures.sure, pc 70 -/
theorem s_776_70 {L d : Nat} {K : Option gV → gH → Prop} {s : gH} (v1 : Option Nat) (v2 : Int) (H : gs_E L (d + 1) 776 2 [gp_r (some 31), gp_r v1, gp_i (gp_wr (v2 + 1))] [] s K) : gs_E L (d + 1) 776 70 [gp_r (some 31), gp_r v1, gp_i v2] [] s K := by
  refine gs_E.stp (pc' := 2) (ls' := [gp_r (some 31), gp_r v1, gp_i (gp_wr (v2 + 1))]) (st' := []) (s' := s) 2 rfl ?_
  exact H

set_option maxRecDepth 100000 in
/-- Measures.spread, pc 0 -/
theorem s_777_e {L d : Nat} {K : Option gV → gH → Prop} {s : gH} (p0 : Option Nat) (p1 : Int) (H : gs_E L (d + 1) 777 10 [gp_r (some 31), gp_r p0, gp_i p1, gp_i 2147483647, gp_i (-2147483648), gp_i 0, gp_n, gp_n] [] s K) : gs_C L (d + 1) 777 8 [gp_r (some 31), gp_r p0, gp_i p1] s K := by
  show gs_E L (d + 1) 777 0 [gp_r (some 31), gp_r p0, gp_i p1, gp_n, gp_n, gp_n, gp_n, gp_n] [] s K
  refine gs_E.stp (pc' := 10) (ls' := [gp_r (some 31), gp_r p0, gp_i p1, gp_i 2147483647, gp_i (-2147483648), gp_i 0, gp_n, gp_n]) (st' := []) (s' := s) 6 rfl ?_
  exact H

set_option maxRecDepth 100000 in
/-- Measures.spread, pc 10 -/
theorem s_777_10 {L d : Nat} {K : Option gV → gH → Prop} {s : gH} (v1 : Option Nat) (v2 : Int) (v3 : Int) (v4 : Int) (v5 : Int) (v6 : gV) (v7 : gV) (H : ((v5 < 2 → (∃ q4, v1 = some q4 ∧ ((gp_sh (gp_mk L s) q4).1 = 9 ∧ gs_C L d 2307 3 [gp_r (some q4), gp_i v2, gp_i v5] s (fun r s5 => ∃ m6, r = some (gp_l m6) ∧ (((gp_cmp m6 (0#64)) = 0 → ((gp_sh (gp_mk L s5) q4).1 = 9 ∧ gs_C L d 2308 3 [gp_r (some q4), gp_i v2, gp_i v5] s5 (fun r s7 => ∃ x8, r = some (gp_i x8) ∧ ((gp_sh (gp_mk L s7) q4).1 = 9 ∧ gs_C L d 2308 3 [gp_r (some q4), gp_i v2, gp_i v5] s7 (fun r s9 => ∃ x10, r = some (gp_i x10) ∧ gs_E L (d + 1) 777 54 [gp_r (some 31), gp_r (some q4), gp_i v2, gp_i (gp_mi v3 x8), gp_i (gp_mx v4 x10), gp_i v5, v6, v7] [] s9 K))))) ∧ (¬ (gp_cmp m6 (0#64)) = 0 → gs_E L (d + 1) 777 54 [gp_r (some 31), gp_r (some q4), gp_i v2, gp_i v3, gp_i v4, gp_i v5, v6, v7] [] s5 K)))))) ∧ (¬ v5 < 2 → (∃ q1, v1 = some q1 ∧ ((gp_sh (gp_mk L s) q1).1 = 9 ∧ (∃ q2, gp_R (gp_mk L s) q1 1 = some q2 ∧ (gp_in (gp_mk L s) 101 q2 v2 ∧ ((gp_sh (gp_mk L s) q1).1 = 9 ∧ (∃ q3, gp_R (gp_mk L s) q1 2 = some q3 ∧ (gp_in (gp_mk L s) 101 q3 v2 ∧ gs_E L (d + 1) 777 75 [gp_r (some 31), gp_r (some q1), gp_i v2, gp_i v3, gp_i v4, gp_l ((gp_L s q2 v2.toNat) ||| (gp_L s q3 v2.toNat)), gp_n, v7] [] s K)))))))))) : gs_E L (d + 1) 777 10 [gp_r (some 31), gp_r v1, gp_i v2, gp_i v3, gp_i v4, gp_i v5, v6, v7] [] s K := by
  refine gs_E.stp (pc' := 13) (ls' := [gp_r (some 31), gp_r v1, gp_i v2, gp_i v3, gp_i v4, gp_i v5, v6, v7]) (st' := [gp_i 2, gp_i v5]) (s' := s) 2 rfl ?_
  refine gs_E.br (c := ¬ v5 < 2) (p1 := 60) (p2 := 16) (l1 := [gp_r (some 31), gp_r v1, gp_i v2, gp_i v3, gp_i v4, gp_i v5, v6, v7]) (l2 := [gp_r (some 31), gp_r v1, gp_i v2, gp_i v3, gp_i v4, gp_i v5, v6, v7]) (s1 := []) (s2 := []) rfl gs_b2 (fun hc => ?_) (fun hc => ?_)
  · replace H := H.2 hc
    refine gs_E.stp (pc' := 61) (ls' := [gp_r (some 31), gp_r v1, gp_i v2, gp_i v3, gp_i v4, gp_i v5, v6, v7]) (st' := [gp_r v1]) (s' := s) 1 rfl ?_
    obtain ⟨q1, hq, H⟩ := H
    rw [hq]
    refine gs_E.ck (pc' := 64) (ls' := [gp_r (some 31), gp_r (some q1), gp_i v2, gp_i v3, gp_i v4, gp_i v5, v6, v7]) (st' := [gp_r (gp_R (gp_mk L s) q1 1)]) (s' := s) rfl H.1 ?_
    replace H := H.2
    refine gs_E.stp (pc' := 65) (ls' := [gp_r (some 31), gp_r (some q1), gp_i v2, gp_i v3, gp_i v4, gp_i v5, v6, v7]) (st' := [gp_i v2, gp_r (gp_R (gp_mk L s) q1 1)]) (s' := s) 1 rfl ?_
    obtain ⟨q2, hq, H⟩ := H
    rw [hq]
    refine gs_E.ck (pc' := 66) (ls' := [gp_r (some 31), gp_r (some q1), gp_i v2, gp_i v3, gp_i v4, gp_i v5, v6, v7]) (st' := [gp_l (gp_L s q2 v2.toNat)]) (s' := s) rfl H.1 ?_
    replace H := H.2
    refine gs_E.stp (pc' := 67) (ls' := [gp_r (some 31), gp_r (some q1), gp_i v2, gp_i v3, gp_i v4, gp_i v5, v6, v7]) (st' := [gp_r (some q1), gp_l (gp_L s q2 v2.toNat)]) (s' := s) 1 rfl ?_
    refine gs_E.ck (pc' := 70) (ls' := [gp_r (some 31), gp_r (some q1), gp_i v2, gp_i v3, gp_i v4, gp_i v5, v6, v7]) (st' := [gp_r (gp_R (gp_mk L s) q1 2), gp_l (gp_L s q2 v2.toNat)]) (s' := s) rfl H.1 ?_
    replace H := H.2
    refine gs_E.stp (pc' := 71) (ls' := [gp_r (some 31), gp_r (some q1), gp_i v2, gp_i v3, gp_i v4, gp_i v5, v6, v7]) (st' := [gp_i v2, gp_r (gp_R (gp_mk L s) q1 2), gp_l (gp_L s q2 v2.toNat)]) (s' := s) 1 rfl ?_
    obtain ⟨q3, hq, H⟩ := H
    rw [hq]
    refine gs_E.ck (pc' := 72) (ls' := [gp_r (some 31), gp_r (some q1), gp_i v2, gp_i v3, gp_i v4, gp_i v5, v6, v7]) (st' := [gp_l (gp_L s q3 v2.toNat), gp_l (gp_L s q2 v2.toNat)]) (s' := s) rfl H.1 ?_
    replace H := H.2
    refine gs_E.stp (pc' := 75) (ls' := [gp_r (some 31), gp_r (some q1), gp_i v2, gp_i v3, gp_i v4, gp_l ((gp_L s q2 v2.toNat) ||| (gp_L s q3 v2.toNat)), gp_n, v7]) (st' := []) (s' := s) 2 rfl ?_
    exact H
  · replace H := H.1 (Decidable.byContradiction hc)
    refine gs_E.stp (pc' := 20) (ls' := [gp_r (some 31), gp_r v1, gp_i v2, gp_i v3, gp_i v4, gp_i v5, v6, v7]) (st' := [gp_i v5, gp_i v2, gp_r v1]) (s' := s) 3 rfl ?_
    obtain ⟨q4, hq, H⟩ := H
    rw [hq]
    refine gs_E.callV (args := [gp_r (some q4), gp_i v2, gp_i v5]) (m := 3) (y' := 2307) (st' := []) rfl H.1 H.2 (fun r s5 H => ?_)
    obtain ⟨m6, rfl, H⟩ := H
    show gs_E L (d + 1) 777 23 [gp_r (some 31), gp_r (some q4), gp_i v2, gp_i v3, gp_i v4, gp_i v5, v6, v7] [gp_l m6] s5 K
    refine gs_E.stp (pc' := 25) (ls' := [gp_r (some 31), gp_r (some q4), gp_i v2, gp_i v3, gp_i v4, gp_i v5, v6, v7]) (st' := [gp_i (gp_cmp m6 (0#64))]) (s' := s5) 2 rfl ?_
    refine gs_E.br (c := ¬ (gp_cmp m6 (0#64)) = 0) (p1 := 54) (p2 := 28) (l1 := [gp_r (some 31), gp_r (some q4), gp_i v2, gp_i v3, gp_i v4, gp_i v5, v6, v7]) (l2 := [gp_r (some 31), gp_r (some q4), gp_i v2, gp_i v3, gp_i v4, gp_i v5, v6, v7]) (s1 := []) (s2 := []) rfl gs_b2 (fun hc => ?_) (fun hc => ?_)
    · replace H := H.2 hc
      exact H
    · replace H := H.1 (Decidable.byContradiction hc)
      refine gs_E.stp (pc' := 33) (ls' := [gp_r (some 31), gp_r (some q4), gp_i v2, gp_i v3, gp_i v4, gp_i v5, v6, v7]) (st' := [gp_i v5, gp_i v2, gp_r (some q4), gp_i v3]) (s' := s5) 4 rfl ?_
      refine gs_E.callV (args := [gp_r (some q4), gp_i v2, gp_i v5]) (m := 3) (y' := 2308) (st' := [gp_i v3]) rfl H.1 H.2 (fun r s7 H => ?_)
      obtain ⟨x8, rfl, H⟩ := H
      show gs_E L (d + 1) 777 36 [gp_r (some 31), gp_r (some q4), gp_i v2, gp_i v3, gp_i v4, gp_i v5, v6, v7] [gp_i x8, gp_i v3] s7 K
      refine gs_E.stp (pc' := 46) (ls' := [gp_r (some 31), gp_r (some q4), gp_i v2, gp_i (gp_mi v3 x8), gp_i v4, gp_i v5, v6, v7]) (st' := [gp_i v5, gp_i v2, gp_r (some q4), gp_i v4]) (s' := s7) 6 rfl ?_
      refine gs_E.callV (args := [gp_r (some q4), gp_i v2, gp_i v5]) (m := 3) (y' := 2308) (st' := [gp_i v4]) rfl H.1 H.2 (fun r s9 H => ?_)
      obtain ⟨x10, rfl, H⟩ := H
      show gs_E L (d + 1) 777 49 [gp_r (some 31), gp_r (some q4), gp_i v2, gp_i (gp_mi v3 x8), gp_i v4, gp_i v5, v6, v7] [gp_i x10, gp_i v4] s9 K
      refine gs_E.stp (pc' := 54) (ls' := [gp_r (some 31), gp_r (some q4), gp_i v2, gp_i (gp_mi v3 x8), gp_i (gp_mx v4 x10), gp_i v5, v6, v7]) (st' := []) (s' := s9) 2 rfl ?_
      exact H

set_option maxRecDepth 100000 in
/-- Measures.spread, pc 54 -/
theorem s_777_54 {L d : Nat} {K : Option gV → gH → Prop} {s : gH} (v1 : Option Nat) (v2 : Int) (v3 : Int) (v4 : Int) (v5 : Int) (v6 : gV) (v7 : gV) (H : gs_E L (d + 1) 777 10 [gp_r (some 31), gp_r v1, gp_i v2, gp_i v3, gp_i v4, gp_i (gp_wr (v5 + 1)), v6, v7] [] s K) : gs_E L (d + 1) 777 54 [gp_r (some 31), gp_r v1, gp_i v2, gp_i v3, gp_i v4, gp_i v5, v6, v7] [] s K := by
  refine gs_E.stp (pc' := 10) (ls' := [gp_r (some 31), gp_r v1, gp_i v2, gp_i v3, gp_i v4, gp_i (gp_wr (v5 + 1)), v6, v7]) (st' := []) (s' := s) 2 rfl ?_
  exact H

set_option maxRecDepth 100000 in
/-- Measures.spread, pc 75 -/
theorem s_777_75 {L d : Nat} {K : Option gV → gH → Prop} {s : gH} (v1 : Option Nat) (v2 : Int) (v3 : Int) (v4 : Int) (v5 : BitVec 64) (v7 : gV) (H : (((gp_cmp v5 (0#64)) = 0 → ((0 ≤ v2 ∧ v2 < 61) ∧ (∀ s1, s1 = gp_wI s 36 v2.toNat v3 → ((0 ≤ v2 ∧ v2 < 61) ∧ (∀ s2, s2 = gp_wI s1 37 v2.toNat v4 → K none s2))))) ∧ (¬ (gp_cmp v5 (0#64)) = 0 → gs_C L d 2859 2 [gp_l v5] s (fun r s3 => ∃ x4, r = some (gp_i x4) ∧ ((0 ≤ x4 ∧ x4 < 61) ∧ ((0 ≤ x4 ∧ x4 < 61) ∧ gs_E L (d + 1) 777 75 [gp_r (some 31), gp_r v1, gp_i v2, gp_i (gp_mi v3 (gp_I s3 36 x4.toNat)), gp_i (gp_mx v4 (gp_I s3 37 x4.toNat)), gp_l (v5 &&& (v5 - (1#64))), gp_n, gp_i x4] [] s3 K)))))) : gs_E L (d + 1) 777 75 [gp_r (some 31), gp_r v1, gp_i v2, gp_i v3, gp_i v4, gp_l v5, gp_n, v7] [] s K := by
  refine gs_E.stp (pc' := 79) (ls' := [gp_r (some 31), gp_r v1, gp_i v2, gp_i v3, gp_i v4, gp_l v5, gp_n, v7]) (st' := [gp_i (gp_cmp v5 (0#64))]) (s' := s) 3 rfl ?_
  refine gs_E.br (c := (gp_cmp v5 (0#64)) = 0) (p1 := 127) (p2 := 82) (l1 := [gp_r (some 31), gp_r v1, gp_i v2, gp_i v3, gp_i v4, gp_l v5, gp_n, v7]) (l2 := [gp_r (some 31), gp_r v1, gp_i v2, gp_i v3, gp_i v4, gp_l v5, gp_n, v7]) (s1 := []) (s2 := []) rfl gs_b1 (fun hc => ?_) (fun hc => ?_)
  · replace H := H.1 hc
    refine gs_E.stp (pc' := 133) (ls' := [gp_r (some 31), gp_r v1, gp_i v2, gp_i v3, gp_i v4, gp_l v5, gp_n, v7]) (st' := [gp_i v3, gp_i v2, gp_r (some 36)]) (s' := s) 4 rfl ?_
    refine gs_E.ck (pc' := 134) (ls' := [gp_r (some 31), gp_r v1, gp_i v2, gp_i v3, gp_i v4, gp_l v5, gp_n, v7]) (st' := []) (s' := gp_wI s 36 v2.toNat v3) rfl ⟨rfl, H.1.1, H.1.2⟩ ?_
    replace H := H.2 _ rfl
    generalize gp_wI s 36 v2.toNat v3 = s1 at H ⊢
    refine gs_E.stp (pc' := 141) (ls' := [gp_r (some 31), gp_r v1, gp_i v2, gp_i v3, gp_i v4, gp_l v5, gp_n, v7]) (st' := [gp_i v4, gp_i v2, gp_r (some 37)]) (s' := s1) 4 rfl ?_
    refine gs_E.ck (pc' := 142) (ls' := [gp_r (some 31), gp_r v1, gp_i v2, gp_i v3, gp_i v4, gp_l v5, gp_n, v7]) (st' := []) (s' := gp_wI s1 37 v2.toNat v4) rfl ⟨rfl, H.1.1, H.1.2⟩ ?_
    replace H := H.2 _ rfl
    generalize gp_wI s1 37 v2.toNat v4 = s2 at H ⊢
    exact gs_E.ret (r := none) rfl H
  · replace H := H.2 hc
    refine gs_E.stp (pc' := 84) (ls' := [gp_r (some 31), gp_r v1, gp_i v2, gp_i v3, gp_i v4, gp_l v5, gp_n, v7]) (st' := [gp_l v5]) (s' := s) 1 rfl ?_
    refine gs_E.call (args := [gp_l v5]) (m := 2) (y' := 2859) (st' := []) rfl H (fun r s3 H => ?_)
    obtain ⟨x4, rfl, H⟩ := H
    show gs_E L (d + 1) 777 87 [gp_r (some 31), gp_r v1, gp_i v2, gp_i v3, gp_i v4, gp_l v5, gp_n, v7] [gp_i x4] s3 K
    refine gs_E.stp (pc' := 96) (ls' := [gp_r (some 31), gp_r v1, gp_i v2, gp_i v3, gp_i v4, gp_l v5, gp_n, gp_i x4]) (st' := [gp_i x4, gp_r (some 36), gp_i v3]) (s' := s3) 5 rfl ?_
    refine gs_E.ck (pc' := 97) (ls' := [gp_r (some 31), gp_r v1, gp_i v2, gp_i v3, gp_i v4, gp_l v5, gp_n, gp_i x4]) (st' := [gp_i (gp_I s3 36 x4.toNat), gp_i v3]) (s' := s3) rfl (Or.inl ⟨rfl, H.1.1, H.1.2⟩) ?_
    replace H := H.2
    refine gs_E.stp (pc' := 109) (ls' := [gp_r (some 31), gp_r v1, gp_i v2, gp_i (gp_mi v3 (gp_I s3 36 x4.toNat)), gp_i v4, gp_l v5, gp_n, gp_i x4]) (st' := [gp_i x4, gp_r (some 37), gp_i v4]) (s' := s3) 6 rfl ?_
    refine gs_E.ck (pc' := 110) (ls' := [gp_r (some 31), gp_r v1, gp_i v2, gp_i (gp_mi v3 (gp_I s3 36 x4.toNat)), gp_i v4, gp_l v5, gp_n, gp_i x4]) (st' := [gp_i (gp_I s3 37 x4.toNat), gp_i v4]) (s' := s3) rfl (Or.inl ⟨rfl, H.1.1, H.1.2⟩) ?_
    replace H := H.2
    refine gs_E.stp (pc' := 75) (ls' := [gp_r (some 31), gp_r v1, gp_i v2, gp_i (gp_mi v3 (gp_I s3 36 x4.toNat)), gp_i (gp_mx v4 (gp_I s3 37 x4.toNat)), gp_l (v5 &&& (v5 - (1#64))), gp_n, gp_i x4]) (st' := []) (s' := s3) 9 rfl ?_
    exact H

set_option maxRecDepth 100000 in
/-- Reader.read, pc 0 -/
theorem s_1281_e {L d : Nat} {K : Option gV → gH → Prop} {s : gH} (p0 : Option Nat) (p1 : Int) (H : (∀ s1, s1 = gp_wR s 46 4 p0 → (∀ s2, s2 = gp_wI s1 46 5 p1 → (∀ s3, s3 = gp_wI s2 46 6 0 → (∀ s4, s4 = gp_wI s3 46 3 0 → (∀ s5, s5 = gp_wI s4 46 7 (-1) → (∀ s6, s6 = gp_wI s5 46 8 0 → gs_C L d 1285 5 [gp_r (some 46), gp_i 0] s6 (fun r s7 => ∃ o8, r = some (gp_r o8) ∧ (((gp_I s7 46 6) < (gp_I s7 46 5) → gs_C L d 1283 1 [gp_r (some 46)] s7 (fun r s9 => r = none ∧ gs_E L (d + 1) 1281 51 [gp_r (some 46), gp_r p0, gp_i p1, gp_r o8] [] s9 K)) ∧ (¬ (gp_I s7 46 6) < (gp_I s7 46 5) → gs_E L (d + 1) 1281 51 [gp_r (some 46), gp_r p0, gp_i p1, gp_r o8] [] s7 K)))))))))) : gs_C L (d + 1) 1281 4 [gp_r (some 46), gp_r p0, gp_i p1] s K := by
  show gs_E L (d + 1) 1281 0 [gp_r (some 46), gp_r p0, gp_i p1, gp_n] [] s K
  refine gs_E.stp (pc' := 2) (ls' := [gp_r (some 46), gp_r p0, gp_i p1, gp_n]) (st' := [gp_r p0, gp_r (some 46)]) (s' := s) 2 rfl ?_
  refine gs_E.nxR (pc' := 5) (ls' := [gp_r (some 46), gp_r p0, gp_i p1, gp_n]) (st' := []) (a := 46) (f := 4) (v := p0) rfl rfl ?_
  replace H := H _ rfl
  generalize gp_wR s 46 4 p0 = s1 at H ⊢
  refine gs_E.stp (pc' := 10) (ls' := [gp_r (some 46), gp_r p0, gp_i p1, gp_n]) (st' := []) (s' := gp_wI s1 46 5 p1) 3 rfl ?_
  replace H := H _ rfl
  generalize gp_wI s1 46 5 p1 = s2 at H ⊢
  refine gs_E.stp (pc' := 15) (ls' := [gp_r (some 46), gp_r p0, gp_i p1, gp_n]) (st' := []) (s' := gp_wI s2 46 6 0) 3 rfl ?_
  replace H := H _ rfl
  generalize gp_wI s2 46 6 0 = s3 at H ⊢
  refine gs_E.stp (pc' := 20) (ls' := [gp_r (some 46), gp_r p0, gp_i p1, gp_n]) (st' := []) (s' := gp_wI s3 46 3 0) 3 rfl ?_
  replace H := H _ rfl
  generalize gp_wI s3 46 3 0 = s4 at H ⊢
  refine gs_E.stp (pc' := 25) (ls' := [gp_r (some 46), gp_r p0, gp_i p1, gp_n]) (st' := []) (s' := gp_wI s4 46 7 (-1)) 3 rfl ?_
  replace H := H _ rfl
  generalize gp_wI s4 46 7 (-1) = s5 at H ⊢
  refine gs_E.stp (pc' := 30) (ls' := [gp_r (some 46), gp_r p0, gp_i p1, gp_n]) (st' := []) (s' := gp_wI s5 46 8 0) 3 rfl ?_
  replace H := H _ rfl
  generalize gp_wI s5 46 8 0 = s6 at H ⊢
  refine gs_E.stp (pc' := 32) (ls' := [gp_r (some 46), gp_r p0, gp_i p1, gp_n]) (st' := [gp_i 0, gp_r (some 46)]) (s' := s6) 2 rfl ?_
  refine gs_E.call (args := [gp_r (some 46), gp_i 0]) (m := 5) (y' := 1285) (st' := []) rfl H (fun r s7 H => ?_)
  obtain ⟨o8, rfl, H⟩ := H
  show gs_E L (d + 1) 1281 35 [gp_r (some 46), gp_r p0, gp_i p1, gp_n] [gp_r o8] s7 K
  refine gs_E.stp (pc' := 44) (ls' := [gp_r (some 46), gp_r p0, gp_i p1, gp_r o8]) (st' := [gp_i (gp_I s7 46 5), gp_i (gp_I s7 46 6)]) (s' := s7) 5 rfl ?_
  refine gs_E.br (c := ¬ (gp_I s7 46 6) < (gp_I s7 46 5)) (p1 := 51) (p2 := 47) (l1 := [gp_r (some 46), gp_r p0, gp_i p1, gp_r o8]) (l2 := [gp_r (some 46), gp_r p0, gp_i p1, gp_r o8]) (s1 := []) (s2 := []) rfl gs_b2 (fun hc => ?_) (fun hc => ?_)
  · replace H := H.2 hc
    exact H
  · replace H := H.1 (Decidable.byContradiction hc)
    refine gs_E.stp (pc' := 48) (ls' := [gp_r (some 46), gp_r p0, gp_i p1, gp_r o8]) (st' := [gp_r (some 46)]) (s' := s7) 1 rfl ?_
    refine gs_E.call (args := [gp_r (some 46)]) (m := 1) (y' := 1283) (st' := []) rfl H (fun r s9 H => ?_)
    obtain ⟨rfl, H⟩ := H
    show gs_E L (d + 1) 1281 51 [gp_r (some 46), gp_r p0, gp_i p1, gp_r o8] [] s9 K
    exact H

set_option maxRecDepth 100000 in
/-- Reader.read, pc 51 -/
theorem s_1281_51 {L d : Nat} {K : Option gV → gH → Prop} {s : gH} (v1 : Option Nat) (v2 : Int) (v3 : Option Nat) (H : K (some (gp_r v3)) s) : gs_E L (d + 1) 1281 51 [gp_r (some 46), gp_r v1, gp_i v2, gp_r v3] [] s K := by
  refine gs_E.stp (pc' := 52) (ls' := [gp_r (some 46), gp_r v1, gp_i v2, gp_r v3]) (st' := [gp_r v3]) (s' := s) 1 rfl ?_
  exact gs_E.ret (r := (some (gp_r v3))) rfl H

set_option maxRecDepth 100000 in
/-- Reader.next, pc 0 -/
theorem s_1282_e {L d : Nat} {K : Option gV → gH → Prop} {s : gH}  (H : (((gp_I s 46 7) < 0 → (((gp_I s 46 6) < (gp_I s 46 5) → (∃ q1, gp_R s 46 4 = some q1 ∧ (gp_in (gp_mk L s) 102 q1 (gp_I s 46 6) ∧ gs_E L d 1282 31 [gp_r (some 46)] [gp_i (gp_I s q1 (gp_I s 46 6).toNat)] s K))) ∧ (¬ (gp_I s 46 6) < (gp_I s 46 5) → gs_E L d 1282 30 [gp_r (some 46)] [] s K))) ∧ (¬ (gp_I s 46 7) < 0 → gs_E L d 1282 30 [gp_r (some 46)] [] s K))) : gs_C L d 1282 1 [gp_r (some 46)] s K := by
  show gs_E L d 1282 0 [gp_r (some 46)] [] s K
  refine gs_E.stp (pc' := 4) (ls' := [gp_r (some 46)]) (st' := [gp_i (gp_I s 46 7)]) (s' := s) 2 rfl ?_
  refine gs_E.br (c := ¬ (gp_I s 46 7) < 0) (p1 := 30) (p2 := 7) (l1 := [gp_r (some 46)]) (l2 := [gp_r (some 46)]) (s1 := []) (s2 := []) rfl gs_b2 (fun hc => ?_) (fun hc => ?_)
  · replace H := H.2 hc
    exact H
  · replace H := H.1 (Decidable.byContradiction hc)
    refine gs_E.stp (pc' := 15) (ls' := [gp_r (some 46)]) (st' := [gp_i (gp_I s 46 5), gp_i (gp_I s 46 6)]) (s' := s) 4 rfl ?_
    refine gs_E.br (c := ¬ (gp_I s 46 6) < (gp_I s 46 5)) (p1 := 30) (p2 := 18) (l1 := [gp_r (some 46)]) (l2 := [gp_r (some 46)]) (s1 := []) (s2 := []) rfl gs_b2 (fun hc => ?_) (fun hc => ?_)
    · replace H := H.2 hc
      exact H
    · replace H := H.1 (Decidable.byContradiction hc)
      refine gs_E.stp (pc' := 26) (ls' := [gp_r (some 46)]) (st' := [gp_i (gp_I s 46 6), gp_r (gp_R s 46 4)]) (s' := s) 4 rfl ?_
      obtain ⟨q1, hq, H⟩ := H
      rw [hq]
      refine gs_E.ck (pc' := 27) (ls' := [gp_r (some 46)]) (st' := [gp_i (gp_I s q1 (gp_I s 46 6).toNat)]) (s' := s) rfl H.1 ?_
      replace H := H.2
      refine gs_E.stp (pc' := 31) (ls' := [gp_r (some 46)]) (st' := [gp_i (gp_I s q1 (gp_I s 46 6).toNat)]) (s' := s) 1 rfl ?_
      exact H

set_option maxRecDepth 100000 in
/-- Reader.next, pc 30 -/
theorem s_1282_30 {L d : Nat} {K : Option gV → gH → Prop} {s : gH}  (H : gs_E L d 1282 31 [gp_r (some 46)] [gp_i (-1)] s K) : gs_E L d 1282 30 [gp_r (some 46)] [] s K := by
  refine gs_E.stp (pc' := 31) (ls' := [gp_r (some 46)]) (st' := [gp_i (-1)]) (s' := s) 1 rfl ?_
  exact H

set_option maxRecDepth 100000 in
/-- Reader.next, pc 31 -/
theorem s_1282_31 {L d : Nat} {K : Option gV → gH → Prop} {s : gH} (w0 : Int) (H : K (some (gp_i w0)) s) : gs_E L d 1282 31 [gp_r (some 46)] [gp_i w0] s K := by
  exact gs_E.ret (r := (some (gp_i w0))) rfl H

set_option maxRecDepth 100000 in
/-- Reader.fail, pc 0 -/
theorem s_1283_e {L d : Nat} {K : Option gV → gH → Prop} {s : gH}  (H : (((gp_I s 46 7) < 0 → (∀ s1, s1 = gp_wI s 46 7 (gp_I s 46 6) → gs_E L d 1283 15 [gp_r (some 46)] [] s1 K)) ∧ (¬ (gp_I s 46 7) < 0 → gs_E L d 1283 15 [gp_r (some 46)] [] s K))) : gs_C L d 1283 1 [gp_r (some 46)] s K := by
  show gs_E L d 1283 0 [gp_r (some 46)] [] s K
  refine gs_E.stp (pc' := 4) (ls' := [gp_r (some 46)]) (st' := [gp_i (gp_I s 46 7)]) (s' := s) 2 rfl ?_
  refine gs_E.br (c := ¬ (gp_I s 46 7) < 0) (p1 := 15) (p2 := 7) (l1 := [gp_r (some 46)]) (l2 := [gp_r (some 46)]) (s1 := []) (s2 := []) rfl gs_b2 (fun hc => ?_) (fun hc => ?_)
  · replace H := H.2 hc
    exact H
  · replace H := H.1 (Decidable.byContradiction hc)
    refine gs_E.stp (pc' := 15) (ls' := [gp_r (some 46)]) (st' := []) (s' := gp_wI s 46 7 (gp_I s 46 6)) 4 rfl ?_
    replace H := H _ rfl
    generalize gp_wI s 46 7 (gp_I s 46 6) = s1 at H ⊢
    exact H

set_option maxRecDepth 100000 in
/-- Reader.fail, pc 15 -/
theorem s_1283_15 {L d : Nat} {K : Option gV → gH → Prop} {s : gH}  (H : K none s) : gs_E L d 1283 15 [gp_r (some 46)] [] s K := by
  exact gs_E.ret (r := none) rfl H

set_option maxRecDepth 100000 in
/-- Reader.expect, pc 0 -/
theorem s_1284_e {L d : Nat} {K : Option gV → gH → Prop} {s : gH} (p0 : Int) (H : gs_C L d 1282 1 [gp_r (some 46)] s (fun r s1 => ∃ x2, r = some (gp_i x2) ∧ ((x2 = p0 → (∀ s4, s4 = gp_wI s1 46 6 (gp_wr ((gp_I s1 46 6) + 1)) → gs_E L (d + 1) 1284 25 [gp_r (some 46), gp_i p0] [] s4 K)) ∧ (¬ x2 = p0 → gs_C L d 1283 1 [gp_r (some 46)] s1 (fun r s3 => r = none ∧ gs_E L (d + 1) 1284 25 [gp_r (some 46), gp_i p0] [] s3 K))))) : gs_C L (d + 1) 1284 2 [gp_r (some 46), gp_i p0] s K := by
  show gs_E L (d + 1) 1284 0 [gp_r (some 46), gp_i p0] [] s K
  refine gs_E.stp (pc' := 1) (ls' := [gp_r (some 46), gp_i p0]) (st' := [gp_r (some 46)]) (s' := s) 1 rfl ?_
  refine gs_E.call (args := [gp_r (some 46)]) (m := 1) (y' := 1282) (st' := []) rfl H (fun r s1 H => ?_)
  obtain ⟨x2, rfl, H⟩ := H
  show gs_E L (d + 1) 1284 4 [gp_r (some 46), gp_i p0] [gp_i x2] s1 K
  refine gs_E.stp (pc' := 5) (ls' := [gp_r (some 46), gp_i p0]) (st' := [gp_i p0, gp_i x2]) (s' := s1) 1 rfl ?_
  refine gs_E.br (c := ¬ x2 = p0) (p1 := 21) (p2 := 8) (l1 := [gp_r (some 46), gp_i p0]) (l2 := [gp_r (some 46), gp_i p0]) (s1 := []) (s2 := []) rfl gs_b2 (fun hc => ?_) (fun hc => ?_)
  · replace H := H.2 hc
    refine gs_E.stp (pc' := 22) (ls' := [gp_r (some 46), gp_i p0]) (st' := [gp_r (some 46)]) (s' := s1) 1 rfl ?_
    refine gs_E.call (args := [gp_r (some 46)]) (m := 1) (y' := 1283) (st' := []) rfl H (fun r s3 H => ?_)
    obtain ⟨rfl, H⟩ := H
    show gs_E L (d + 1) 1284 25 [gp_r (some 46), gp_i p0] [] s3 K
    exact H
  · replace H := H.1 (Decidable.byContradiction hc)
    refine gs_E.stp (pc' := 18) (ls' := [gp_r (some 46), gp_i p0]) (st' := []) (s' := gp_wI s1 46 6 (gp_wr ((gp_I s1 46 6) + 1))) 6 rfl ?_
    replace H := H _ rfl
    generalize gp_wI s1 46 6 (gp_wr ((gp_I s1 46 6) + 1)) = s4 at H ⊢
    refine gs_E.stp (pc' := 25) (ls' := [gp_r (some 46), gp_i p0]) (st' := []) (s' := s4) 1 rfl ?_
    exact H

set_option maxRecDepth 100000 in
/-- Reader.expect, pc 25 -/
theorem s_1284_25 {L d : Nat} {K : Option gV → gH → Prop} {s : gH} (v1 : Int) (H : K none s) : gs_E L (d + 1) 1284 25 [gp_r (some 46), gp_i v1] [] s K := by
  exact gs_E.ret (r := none) rfl H

set_option maxRecDepth 100000 in
/-- Reader.readSum, pc 0 -/
theorem s_1285_e {L d : Nat} {K : Option gV → gH → Prop} {s : gH} (p0 : Int) (H : gs_C L d 1286 3 [gp_r (some 46), gp_i p0] s (fun r s1 => ∃ o2, r = some (gp_r o2) ∧ gs_E L (d + 1) 1285 8 [gp_r (some 46), gp_i p0, gp_r o2, gp_i 0, gp_n] [] s1 K)) : gs_C L (d + 1) 1285 5 [gp_r (some 46), gp_i p0] s K := by
  show gs_E L (d + 1) 1285 0 [gp_r (some 46), gp_i p0, gp_n, gp_n, gp_n] [] s K
  refine gs_E.stp (pc' := 2) (ls' := [gp_r (some 46), gp_i p0, gp_n, gp_n, gp_n]) (st' := [gp_i p0, gp_r (some 46)]) (s' := s) 2 rfl ?_
  refine gs_E.call (args := [gp_r (some 46), gp_i p0]) (m := 3) (y' := 1286) (st' := []) rfl H (fun r s1 H => ?_)
  obtain ⟨o2, rfl, H⟩ := H
  show gs_E L (d + 1) 1285 5 [gp_r (some 46), gp_i p0, gp_n, gp_n, gp_n] [gp_r o2] s1 K
  refine gs_E.stp (pc' := 8) (ls' := [gp_r (some 46), gp_i p0, gp_r o2, gp_i 0, gp_n]) (st' := []) (s' := s1) 3 rfl ?_
  exact H

set_option maxRecDepth 100000 in
/-- Reader.readSum, pc 8 -/
theorem s_1285_8 {L d : Nat} {K : Option gV → gH → Prop} {s : gH} (v1 : Int) (v2 : Option Nat) (v3 : Int) (v4 : gV) (H : ((v3 < 100 → gs_C L d 1282 1 [gp_r (some 46)] s (fun r s1 => ∃ x2, r = some (gp_i x2) ∧ ((x2 = 43 → (∀ s3, s3 = gp_wI s1 46 6 (gp_wr ((gp_I s1 46 6) + 1)) → gs_C L d 1286 3 [gp_r (some 46), gp_i v1] s3 (fun r s4 => ∃ o5, r = some (gp_r o5) ∧ gs_C L d 1292 1 [gp_r (some 46)] s4 (fun r s6 => ∃ x7, r = some (gp_i x7) ∧ ((x7 = 0 → gs_C L d 262 6 [gp_r (some 20), gp_r v2, gp_r o5] s6 (fun r s8 => ∃ o9, r = some (gp_r o9) ∧ gs_C L d 1293 2 [gp_r (some 46), gp_r o9] s8 (fun r s10 => ∃ o11, r = some (gp_r o11) ∧ gs_E L (d + 1) 1285 71 [gp_r (some 46), gp_i v1, gp_r v2, gp_i v3, gp_r o5] [gp_r o11] s10 K))) ∧ (¬ x7 = 0 → gs_E L (d + 1) 1285 71 [gp_r (some 46), gp_i v1, gp_r v2, gp_i v3, gp_r o5] [gp_r (some 25)] s6 K)))))) ∧ (¬ x2 = 43 → gs_E L (d + 1) 1285 78 [gp_r (some 46), gp_i v1, gp_r v2, gp_i v3, v4] [] s1 K)))) ∧ (¬ v3 < 100 → gs_E L (d + 1) 1285 78 [gp_r (some 46), gp_i v1, gp_r v2, gp_i v3, v4] [] s K))) : gs_E L (d + 1) 1285 8 [gp_r (some 46), gp_i v1, gp_r v2, gp_i v3, v4] [] s K := by
  refine gs_E.stp (pc' := 11) (ls' := [gp_r (some 46), gp_i v1, gp_r v2, gp_i v3, v4]) (st' := [gp_i 100, gp_i v3]) (s' := s) 2 rfl ?_
  refine gs_E.br (c := ¬ v3 < 100) (p1 := 78) (p2 := 14) (l1 := [gp_r (some 46), gp_i v1, gp_r v2, gp_i v3, v4]) (l2 := [gp_r (some 46), gp_i v1, gp_r v2, gp_i v3, v4]) (s1 := []) (s2 := []) rfl gs_b2 (fun hc => ?_) (fun hc => ?_)
  · replace H := H.2 hc
    exact H
  · replace H := H.1 (Decidable.byContradiction hc)
    refine gs_E.stp (pc' := 15) (ls' := [gp_r (some 46), gp_i v1, gp_r v2, gp_i v3, v4]) (st' := [gp_r (some 46)]) (s' := s) 1 rfl ?_
    refine gs_E.call (args := [gp_r (some 46)]) (m := 1) (y' := 1282) (st' := []) rfl H (fun r s1 H => ?_)
    obtain ⟨x2, rfl, H⟩ := H
    show gs_E L (d + 1) 1285 18 [gp_r (some 46), gp_i v1, gp_r v2, gp_i v3, v4] [gp_i x2] s1 K
    refine gs_E.stp (pc' := 20) (ls' := [gp_r (some 46), gp_i v1, gp_r v2, gp_i v3, v4]) (st' := [gp_i 43, gp_i x2]) (s' := s1) 1 rfl ?_
    refine gs_E.br (c := ¬ x2 = 43) (p1 := 78) (p2 := 23) (l1 := [gp_r (some 46), gp_i v1, gp_r v2, gp_i v3, v4]) (l2 := [gp_r (some 46), gp_i v1, gp_r v2, gp_i v3, v4]) (s1 := []) (s2 := []) rfl gs_b2 (fun hc => ?_) (fun hc => ?_)
    · replace H := H.2 hc
      exact H
    · replace H := H.1 (Decidable.byContradiction hc)
      refine gs_E.stp (pc' := 33) (ls' := [gp_r (some 46), gp_i v1, gp_r v2, gp_i v3, v4]) (st' := []) (s' := gp_wI s1 46 6 (gp_wr ((gp_I s1 46 6) + 1))) 6 rfl ?_
      replace H := H _ rfl
      generalize gp_wI s1 46 6 (gp_wr ((gp_I s1 46 6) + 1)) = s3 at H ⊢
      refine gs_E.stp (pc' := 35) (ls' := [gp_r (some 46), gp_i v1, gp_r v2, gp_i v3, v4]) (st' := [gp_i v1, gp_r (some 46)]) (s' := s3) 2 rfl ?_
      refine gs_E.call (args := [gp_r (some 46), gp_i v1]) (m := 3) (y' := 1286) (st' := []) rfl H (fun r s4 H => ?_)
      obtain ⟨o5, rfl, H⟩ := H
      show gs_E L (d + 1) 1285 38 [gp_r (some 46), gp_i v1, gp_r v2, gp_i v3, v4] [gp_r o5] s4 K
      refine gs_E.stp (pc' := 41) (ls' := [gp_r (some 46), gp_i v1, gp_r v2, gp_i v3, gp_r o5]) (st' := [gp_r (some 46)]) (s' := s4) 2 rfl ?_
      refine gs_E.call (args := [gp_r (some 46)]) (m := 1) (y' := 1292) (st' := []) rfl H (fun r s6 H => ?_)
      obtain ⟨x7, rfl, H⟩ := H
      show gs_E L (d + 1) 1285 44 [gp_r (some 46), gp_i v1, gp_r v2, gp_i v3, gp_r o5] [gp_i x7] s6 K
      refine gs_E.br (c := x7 = 0) (p1 := 57) (p2 := 47) (l1 := [gp_r (some 46), gp_i v1, gp_r v2, gp_i v3, gp_r o5]) (l2 := [gp_r (some 46), gp_i v1, gp_r v2, gp_i v3, gp_r o5]) (s1 := []) (s2 := []) rfl gs_b1 (fun hc => ?_) (fun hc => ?_)
      · replace H := H.1 hc
        refine gs_E.stp (pc' := 65) (ls' := [gp_r (some 46), gp_i v1, gp_r v2, gp_i v3, gp_r o5]) (st' := [gp_r o5, gp_r v2, gp_r (some 20), gp_r (some 46)]) (s' := s6) 5 rfl ?_
        refine gs_E.call (args := [gp_r (some 20), gp_r v2, gp_r o5]) (m := 6) (y' := 262) (st' := [gp_r (some 46)]) rfl H (fun r s8 H => ?_)
        obtain ⟨o9, rfl, H⟩ := H
        show gs_E L (d + 1) 1285 68 [gp_r (some 46), gp_i v1, gp_r v2, gp_i v3, gp_r o5] [gp_r o9, gp_r (some 46)] s8 K
        refine gs_E.call (args := [gp_r (some 46), gp_r o9]) (m := 2) (y' := 1293) (st' := []) rfl H (fun r s10 H => ?_)
        obtain ⟨o11, rfl, H⟩ := H
        show gs_E L (d + 1) 1285 71 [gp_r (some 46), gp_i v1, gp_r v2, gp_i v3, gp_r o5] [gp_r o11] s10 K
        exact H
      · replace H := H.2 hc
        refine gs_E.stp (pc' := 71) (ls' := [gp_r (some 46), gp_i v1, gp_r v2, gp_i v3, gp_r o5]) (st' := [gp_r (some 25)]) (s' := s6) 4 rfl ?_
        exact H

set_option maxRecDepth 100000 in
/-- Reader.readSum, pc 71 -/
theorem s_1285_71 {L d : Nat} {K : Option gV → gH → Prop} {s : gH} (v1 : Int) (v2 : Option Nat) (v3 : Int) (v4 : Option Nat) (w0 : Option Nat) (H : gs_E L (d + 1) 1285 8 [gp_r (some 46), gp_i v1, gp_r w0, gp_i (gp_wr (v3 + 1)), gp_r v4] [] s K) : gs_E L (d + 1) 1285 71 [gp_r (some 46), gp_i v1, gp_r v2, gp_i v3, gp_r v4] [gp_r w0] s K := by
  refine gs_E.stp (pc' := 8) (ls' := [gp_r (some 46), gp_i v1, gp_r w0, gp_i (gp_wr (v3 + 1)), gp_r v4]) (st' := []) (s' := s) 3 rfl ?_
  exact H

set_option maxRecDepth 100000 in
/-- Reader.readSum, pc 78 -/
theorem s_1285_78 {L d : Nat} {K : Option gV → gH → Prop} {s : gH} (v1 : Int) (v2 : Option Nat) (v3 : Int) (v4 : gV) (H : K (some (gp_r v2)) s) : gs_E L (d + 1) 1285 78 [gp_r (some 46), gp_i v1, gp_r v2, gp_i v3, v4] [] s K := by
  refine gs_E.stp (pc' := 79) (ls' := [gp_r (some 46), gp_i v1, gp_r v2, gp_i v3, v4]) (st' := [gp_r v2]) (s' := s) 1 rfl ?_
  exact gs_E.ret (r := (some (gp_r v2))) rfl H

set_option maxRecDepth 100000 in
/-- Reader.readUnit, pc 0 -/
theorem s_1286_e {L d : Nat} {K : Option gV → gH → Prop} {s : gH} (p0 : Int) (H : gs_C L d 1282 1 [gp_r (some 46)] s (fun r s1 => ∃ x2, r = some (gp_i x2) ∧ ((x2 = 119 → (∀ s9, s9 = gp_wI s1 46 6 (gp_wr ((gp_I s1 46 6) + 1)) → gs_C L d 1290 4 [gp_r (some 46), gp_i 1] s9 (fun r s10 => ∃ x11, r = some (gp_i x11) ∧ gs_C L d 258 4 [gp_r (some 20), gp_i x11] s10 (fun r s12 => ∃ o13, r = some (gp_r o13) ∧ K (some (gp_r o13)) s12)))) ∧ (¬ x2 = 119 → gs_C L d 1291 1 [gp_i x2] s1 (fun r s3 => ∃ x4, r = some (gp_i x4) ∧ ((x4 = 0 → ((x2 = 45 → gs_E L (d + 1) 1286 66 [gp_r (some 46), gp_i p0, gp_i x2] [] s3 K) ∧ (¬ x2 = 45 → ((x2 = 60 → gs_E L (d + 1) 1286 66 [gp_r (some 46), gp_i p0, gp_i x2] [] s3 K) ∧ (¬ x2 = 60 → gs_E L (d + 1) 1286 72 [gp_r (some 46), gp_i p0, gp_i x2] [] s3 K))))) ∧ (¬ x4 = 0 → gs_C L d 1290 4 [gp_r (some 46), gp_i 3] s3 (fun r s5 => ∃ x6, r = some (gp_i x6) ∧ gs_C L d 257 3 [gp_r (some 20), gp_i x6] s5 (fun r s7 => ∃ o8, r = some (gp_r o8) ∧ K (some (gp_r o8)) s7))))))))) : gs_C L (d + 1) 1286 3 [gp_r (some 46), gp_i p0] s K := by
  show gs_E L (d + 1) 1286 0 [gp_r (some 46), gp_i p0, gp_n] [] s K
  refine gs_E.stp (pc' := 1) (ls' := [gp_r (some 46), gp_i p0, gp_n]) (st' := [gp_r (some 46)]) (s' := s) 1 rfl ?_
  refine gs_E.call (args := [gp_r (some 46)]) (m := 1) (y' := 1282) (st' := []) rfl H (fun r s1 H => ?_)
  obtain ⟨x2, rfl, H⟩ := H
  show gs_E L (d + 1) 1286 4 [gp_r (some 46), gp_i p0, gp_n] [gp_i x2] s1 K
  refine gs_E.stp (pc' := 8) (ls' := [gp_r (some 46), gp_i p0, gp_i x2]) (st' := [gp_i 119, gp_i x2]) (s' := s1) 3 rfl ?_
  refine gs_E.br (c := ¬ x2 = 119) (p1 := 34) (p2 := 11) (l1 := [gp_r (some 46), gp_i p0, gp_i x2]) (l2 := [gp_r (some 46), gp_i p0, gp_i x2]) (s1 := []) (s2 := []) rfl gs_b2 (fun hc => ?_) (fun hc => ?_)
  · replace H := H.2 hc
    refine gs_E.stp (pc' := 35) (ls' := [gp_r (some 46), gp_i p0, gp_i x2]) (st' := [gp_i x2]) (s' := s1) 1 rfl ?_
    refine gs_E.call (args := [gp_i x2]) (m := 1) (y' := 1291) (st' := []) rfl H (fun r s3 H => ?_)
    obtain ⟨x4, rfl, H⟩ := H
    show gs_E L (d + 1) 1286 38 [gp_r (some 46), gp_i p0, gp_i x2] [gp_i x4] s3 K
    refine gs_E.br (c := x4 = 0) (p1 := 54) (p2 := 41) (l1 := [gp_r (some 46), gp_i p0, gp_i x2]) (l2 := [gp_r (some 46), gp_i p0, gp_i x2]) (s1 := []) (s2 := []) rfl gs_b1 (fun hc => ?_) (fun hc => ?_)
    · replace H := H.1 hc
      refine gs_E.stp (pc' := 57) (ls' := [gp_r (some 46), gp_i p0, gp_i x2]) (st' := [gp_i 45, gp_i x2]) (s' := s3) 2 rfl ?_
      refine gs_E.br (c := x2 = 45) (p1 := 66) (p2 := 60) (l1 := [gp_r (some 46), gp_i p0, gp_i x2]) (l2 := [gp_r (some 46), gp_i p0, gp_i x2]) (s1 := []) (s2 := []) rfl gs_b1 (fun hc => ?_) (fun hc => ?_)
      · replace H := H.1 hc
        exact H
      · replace H := H.2 hc
        refine gs_E.stp (pc' := 63) (ls' := [gp_r (some 46), gp_i p0, gp_i x2]) (st' := [gp_i 60, gp_i x2]) (s' := s3) 2 rfl ?_
        refine gs_E.br (c := ¬ x2 = 60) (p1 := 72) (p2 := 66) (l1 := [gp_r (some 46), gp_i p0, gp_i x2]) (l2 := [gp_r (some 46), gp_i p0, gp_i x2]) (s1 := []) (s2 := []) rfl gs_b2 (fun hc => ?_) (fun hc => ?_)
        · replace H := H.2 hc
          exact H
        · replace H := H.1 (Decidable.byContradiction hc)
          exact H
    · replace H := H.2 hc
      refine gs_E.stp (pc' := 47) (ls' := [gp_r (some 46), gp_i p0, gp_i x2]) (st' := [gp_i 3, gp_r (some 46), gp_r (some 20)]) (s' := s3) 4 rfl ?_
      refine gs_E.call (args := [gp_r (some 46), gp_i 3]) (m := 4) (y' := 1290) (st' := [gp_r (some 20)]) rfl H (fun r s5 H => ?_)
      obtain ⟨x6, rfl, H⟩ := H
      show gs_E L (d + 1) 1286 50 [gp_r (some 46), gp_i p0, gp_i x2] [gp_i x6, gp_r (some 20)] s5 K
      refine gs_E.call (args := [gp_r (some 20), gp_i x6]) (m := 3) (y' := 257) (st' := []) rfl H (fun r s7 H => ?_)
      obtain ⟨o8, rfl, H⟩ := H
      show gs_E L (d + 1) 1286 53 [gp_r (some 46), gp_i p0, gp_i x2] [gp_r o8] s7 K
      exact gs_E.ret (r := (some (gp_r o8))) rfl H
  · replace H := H.1 (Decidable.byContradiction hc)
    refine gs_E.stp (pc' := 21) (ls' := [gp_r (some 46), gp_i p0, gp_i x2]) (st' := []) (s' := gp_wI s1 46 6 (gp_wr ((gp_I s1 46 6) + 1))) 6 rfl ?_
    replace H := H _ rfl
    generalize gp_wI s1 46 6 (gp_wr ((gp_I s1 46 6) + 1)) = s9 at H ⊢
    refine gs_E.stp (pc' := 27) (ls' := [gp_r (some 46), gp_i p0, gp_i x2]) (st' := [gp_i 1, gp_r (some 46), gp_r (some 20)]) (s' := s9) 4 rfl ?_
    refine gs_E.call (args := [gp_r (some 46), gp_i 1]) (m := 4) (y' := 1290) (st' := [gp_r (some 20)]) rfl H (fun r s10 H => ?_)
    obtain ⟨x11, rfl, H⟩ := H
    show gs_E L (d + 1) 1286 30 [gp_r (some 46), gp_i p0, gp_i x2] [gp_i x11, gp_r (some 20)] s10 K
    refine gs_E.call (args := [gp_r (some 20), gp_i x11]) (m := 4) (y' := 258) (st' := []) rfl H (fun r s12 H => ?_)
    obtain ⟨o13, rfl, H⟩ := H
    show gs_E L (d + 1) 1286 33 [gp_r (some 46), gp_i p0, gp_i x2] [gp_r o13] s12 K
    exact gs_E.ret (r := (some (gp_r o13))) rfl H

set_option maxRecDepth 100000 in
/-- Reader.readUnit, pc 66 -/
theorem s_1286_66 {L d : Nat} {K : Option gV → gH → Prop} {s : gH} (v1 : Int) (v2 : Int) (H : ((v1 < 8 → (∀ s1, s1 = gp_wI s 46 6 (gp_wr ((gp_I s 46 6) + 1)) → ((v2 = 45 → gs_C L d 1286 3 [gp_r (some 46), gp_i (gp_wr (v1 + 1))] s1 (fun r s4 => ∃ o5, r = some (gp_r o5) ∧ gs_C L d 260 3 [gp_r (some 20), gp_r o5] s4 (fun r s6 => ∃ o7, r = some (gp_r o7) ∧ gs_E L (d + 1) 1286 124 [gp_r (some 46), gp_i v1, gp_i v2] [gp_r o7] s6 K))) ∧ (¬ v2 = 45 → gs_C L d 1287 7 [gp_r (some 46), gp_i (gp_wr (v1 + 1))] s1 (fun r s2 => ∃ o3, r = some (gp_r o3) ∧ gs_E L (d + 1) 1286 124 [gp_r (some 46), gp_i v1, gp_i v2] [gp_r o3] s2 K))))) ∧ (¬ v1 < 8 → gs_E L (d + 1) 1286 72 [gp_r (some 46), gp_i v1, gp_i v2] [] s K))) : gs_E L (d + 1) 1286 66 [gp_r (some 46), gp_i v1, gp_i v2] [] s K := by
  refine gs_E.stp (pc' := 69) (ls' := [gp_r (some 46), gp_i v1, gp_i v2]) (st' := [gp_i 8, gp_i v1]) (s' := s) 2 rfl ?_
  refine gs_E.br (c := v1 < 8) (p1 := 84) (p2 := 72) (l1 := [gp_r (some 46), gp_i v1, gp_i v2]) (l2 := [gp_r (some 46), gp_i v1, gp_i v2]) (s1 := []) (s2 := []) rfl gs_b1 (fun hc => ?_) (fun hc => ?_)
  · replace H := H.1 hc
    refine gs_E.stp (pc' := 94) (ls' := [gp_r (some 46), gp_i v1, gp_i v2]) (st' := []) (s' := gp_wI s 46 6 (gp_wr ((gp_I s 46 6) + 1))) 6 rfl ?_
    replace H := H _ rfl
    generalize gp_wI s 46 6 (gp_wr ((gp_I s 46 6) + 1)) = s1 at H ⊢
    refine gs_E.stp (pc' := 97) (ls' := [gp_r (some 46), gp_i v1, gp_i v2]) (st' := [gp_i 45, gp_i v2]) (s' := s1) 2 rfl ?_
    refine gs_E.br (c := ¬ v2 = 45) (p1 := 117) (p2 := 100) (l1 := [gp_r (some 46), gp_i v1, gp_i v2]) (l2 := [gp_r (some 46), gp_i v1, gp_i v2]) (s1 := []) (s2 := []) rfl gs_b2 (fun hc => ?_) (fun hc => ?_)
    · replace H := H.2 hc
      refine gs_E.stp (pc' := 121) (ls' := [gp_r (some 46), gp_i v1, gp_i v2]) (st' := [gp_i (gp_wr (v1 + 1)), gp_r (some 46)]) (s' := s1) 4 rfl ?_
      refine gs_E.call (args := [gp_r (some 46), gp_i (gp_wr (v1 + 1))]) (m := 7) (y' := 1287) (st' := []) rfl H (fun r s2 H => ?_)
      obtain ⟨o3, rfl, H⟩ := H
      show gs_E L (d + 1) 1286 124 [gp_r (some 46), gp_i v1, gp_i v2] [gp_r o3] s2 K
      exact H
    · replace H := H.1 (Decidable.byContradiction hc)
      refine gs_E.stp (pc' := 108) (ls' := [gp_r (some 46), gp_i v1, gp_i v2]) (st' := [gp_i (gp_wr (v1 + 1)), gp_r (some 46), gp_r (some 20)]) (s' := s1) 6 rfl ?_
      refine gs_E.call (args := [gp_r (some 46), gp_i (gp_wr (v1 + 1))]) (m := 3) (y' := 1286) (st' := [gp_r (some 20)]) rfl H (fun r s4 H => ?_)
      obtain ⟨o5, rfl, H⟩ := H
      show gs_E L (d + 1) 1286 111 [gp_r (some 46), gp_i v1, gp_i v2] [gp_r o5, gp_r (some 20)] s4 K
      refine gs_E.call (args := [gp_r (some 20), gp_r o5]) (m := 3) (y' := 260) (st' := []) rfl H (fun r s6 H => ?_)
      obtain ⟨o7, rfl, H⟩ := H
      show gs_E L (d + 1) 1286 114 [gp_r (some 46), gp_i v1, gp_i v2] [gp_r o7] s6 K
      refine gs_E.stp (pc' := 124) (ls' := [gp_r (some 46), gp_i v1, gp_i v2]) (st' := [gp_r o7]) (s' := s6) 1 rfl ?_
      exact H
  · replace H := H.2 hc
    exact H

set_option maxRecDepth 100000 in
/-- Reader.readUnit, pc 72 -/
theorem s_1286_72 {L d : Nat} {K : Option gV → gH → Prop} {s : gH} (v1 : Int) (v2 : Int) (H : gs_C L d 1283 1 [gp_r (some 46)] s (fun r s1 => r = none ∧ K (some (gp_r (some 25))) s1)) : gs_E L (d + 1) 1286 72 [gp_r (some 46), gp_i v1, gp_i v2] [] s K := by
  refine gs_E.stp (pc' := 73) (ls' := [gp_r (some 46), gp_i v1, gp_i v2]) (st' := [gp_r (some 46)]) (s' := s) 1 rfl ?_
  refine gs_E.call (args := [gp_r (some 46)]) (m := 1) (y' := 1283) (st' := []) rfl H (fun r s1 H => ?_)
  obtain ⟨rfl, H⟩ := H
  show gs_E L (d + 1) 1286 76 [gp_r (some 46), gp_i v1, gp_i v2] [] s1 K
  refine gs_E.stp (pc' := 83) (ls' := [gp_r (some 46), gp_i v1, gp_i v2]) (st' := [gp_r (some 25)]) (s' := s1) 3 rfl ?_
  exact gs_E.ret (r := (some (gp_r (some 25)))) rfl H

set_option maxRecDepth 100000 in
/-- Reader.readUnit, pc 124 -/
theorem s_1286_124 {L d : Nat} {K : Option gV → gH → Prop} {s : gH} (v1 : Int) (v2 : Int) (w0 : Option Nat) (H : K (some (gp_r w0)) s) : gs_E L (d + 1) 1286 124 [gp_r (some 46), gp_i v1, gp_i v2] [gp_r w0] s K := by
  exact gs_E.ret (r := (some (gp_r w0))) rfl H

set_option maxRecDepth 100000 in
/-- Reader.readFrame, pc 0 -/
theorem s_1287_e {L d : Nat} {K : Option gV → gH → Prop} {s : gH} (p0 : Int) (H : gs_C L d 1288 3 [gp_r (some 46), gp_i p0] s (fun r s1 => ∃ x2, r = some (gp_i x2) ∧ gs_C L d 1284 2 [gp_r (some 46), gp_i 124] s1 (fun r s3 => r = none ∧ gs_C L d 1288 3 [gp_r (some 46), gp_i p0] s3 (fun r s4 => ∃ x5, r = some (gp_i x5) ∧ gs_C L d 1284 2 [gp_r (some 46), gp_i 62] s4 (fun r s6 => r = none ∧ gs_C L d 1294 11 [gp_r (some 46), gp_i (gp_I s 46 3), gp_i (gp_I s1 46 3), gp_i x2, gp_i x5] s6 (fun r s7 => ∃ o8, r = some (gp_r o8) ∧ (∀ s9, s9 = gp_wI s7 46 3 (gp_I s 46 3) → K (some (gp_r o8)) s9))))))) : gs_C L (d + 1) 1287 7 [gp_r (some 46), gp_i p0] s K := by
  show gs_E L (d + 1) 1287 0 [gp_r (some 46), gp_i p0, gp_n, gp_n, gp_n, gp_n, gp_n] [] s K
  refine gs_E.stp (pc' := 7) (ls' := [gp_r (some 46), gp_i p0, gp_i (gp_I s 46 3), gp_n, gp_n, gp_n, gp_n]) (st' := [gp_i p0, gp_r (some 46)]) (s' := s) 5 rfl ?_
  refine gs_E.call (args := [gp_r (some 46), gp_i p0]) (m := 3) (y' := 1288) (st' := []) rfl H (fun r s1 H => ?_)
  obtain ⟨x2, rfl, H⟩ := H
  show gs_E L (d + 1) 1287 10 [gp_r (some 46), gp_i p0, gp_i (gp_I s 46 3), gp_n, gp_n, gp_n, gp_n] [gp_i x2] s1 K
  refine gs_E.stp (pc' := 20) (ls' := [gp_r (some 46), gp_i p0, gp_i (gp_I s 46 3), gp_i x2, gp_i (gp_I s1 46 3), gp_n, gp_n]) (st' := [gp_i 124, gp_r (some 46)]) (s' := s1) 6 rfl ?_
  refine gs_E.call (args := [gp_r (some 46), gp_i 124]) (m := 2) (y' := 1284) (st' := []) rfl H (fun r s3 H => ?_)
  obtain ⟨rfl, H⟩ := H
  show gs_E L (d + 1) 1287 23 [gp_r (some 46), gp_i p0, gp_i (gp_I s 46 3), gp_i x2, gp_i (gp_I s1 46 3), gp_n, gp_n] [] s3 K
  refine gs_E.stp (pc' := 25) (ls' := [gp_r (some 46), gp_i p0, gp_i (gp_I s 46 3), gp_i x2, gp_i (gp_I s1 46 3), gp_n, gp_n]) (st' := [gp_i p0, gp_r (some 46)]) (s' := s3) 2 rfl ?_
  refine gs_E.call (args := [gp_r (some 46), gp_i p0]) (m := 3) (y' := 1288) (st' := []) rfl H (fun r s4 H => ?_)
  obtain ⟨x5, rfl, H⟩ := H
  show gs_E L (d + 1) 1287 28 [gp_r (some 46), gp_i p0, gp_i (gp_I s 46 3), gp_i x2, gp_i (gp_I s1 46 3), gp_n, gp_n] [gp_i x5] s4 K
  refine gs_E.stp (pc' := 33) (ls' := [gp_r (some 46), gp_i p0, gp_i (gp_I s 46 3), gp_i x2, gp_i (gp_I s1 46 3), gp_i x5, gp_n]) (st' := [gp_i 62, gp_r (some 46)]) (s' := s4) 3 rfl ?_
  refine gs_E.call (args := [gp_r (some 46), gp_i 62]) (m := 2) (y' := 1284) (st' := []) rfl H (fun r s6 H => ?_)
  obtain ⟨rfl, H⟩ := H
  show gs_E L (d + 1) 1287 36 [gp_r (some 46), gp_i p0, gp_i (gp_I s 46 3), gp_i x2, gp_i (gp_I s1 46 3), gp_i x5, gp_n] [] s6 K
  refine gs_E.stp (pc' := 43) (ls' := [gp_r (some 46), gp_i p0, gp_i (gp_I s 46 3), gp_i x2, gp_i (gp_I s1 46 3), gp_i x5, gp_n]) (st' := [gp_i x5, gp_i x2, gp_i (gp_I s1 46 3), gp_i (gp_I s 46 3), gp_r (some 46)]) (s' := s6) 5 rfl ?_
  refine gs_E.call (args := [gp_r (some 46), gp_i (gp_I s 46 3), gp_i (gp_I s1 46 3), gp_i x2, gp_i x5]) (m := 11) (y' := 1294) (st' := []) rfl H (fun r s7 H => ?_)
  obtain ⟨o8, rfl, H⟩ := H
  show gs_E L (d + 1) 1287 46 [gp_r (some 46), gp_i p0, gp_i (gp_I s 46 3), gp_i x2, gp_i (gp_I s1 46 3), gp_i x5, gp_n] [gp_r o8] s7 K
  refine gs_E.stp (pc' := 53) (ls' := [gp_r (some 46), gp_i p0, gp_i (gp_I s 46 3), gp_i x2, gp_i (gp_I s1 46 3), gp_i x5, gp_r o8]) (st' := []) (s' := gp_wI s7 46 3 (gp_I s 46 3)) 4 rfl ?_
  replace H := H _ rfl
  generalize gp_wI s7 46 3 (gp_I s 46 3) = s9 at H ⊢
  refine gs_E.stp (pc' := 55) (ls' := [gp_r (some 46), gp_i p0, gp_i (gp_I s 46 3), gp_i x2, gp_i (gp_I s1 46 3), gp_i x5, gp_r o8]) (st' := [gp_r o8]) (s' := s9) 1 rfl ?_
  exact gs_E.ret (r := (some (gp_r o8))) rfl H

set_option maxRecDepth 100000 in
/-- Reader.readSide, pc 0 -/
theorem s_1288_e {L d : Nat} {K : Option gV → gH → Prop} {s : gH} (p0 : Int) (H : gs_C L d 1282 1 [gp_r (some 46)] s (fun r s1 => ∃ x2, r = some (gp_i x2) ∧ ((x2 = 58 → (∀ s6, s6 = gp_wI s1 46 6 (gp_wr ((gp_I s1 46 6) + 1)) → gs_C L d 1282 1 [gp_r (some 46)] s6 (fun r s7 => ∃ x8, r = some (gp_i x8) ∧ ((x8 = 45 → (∀ s11, s11 = gp_wI s7 46 6 (gp_wr ((gp_I s7 46 6) + 1)) → gs_C L d 1290 4 [gp_r (some 46), gp_i 3] s11 (fun r s12 => ∃ x13, r = some (gp_i x13) ∧ K (some (gp_i (gp_wr (-x13)))) s12))) ∧ (¬ x8 = 45 → gs_C L d 1290 4 [gp_r (some 46), gp_i 3] s7 (fun r s9 => ∃ x10, r = some (gp_i x10) ∧ K (some (gp_i x10)) s9)))))) ∧ (¬ x2 = 58 → gs_C L d 1285 5 [gp_r (some 46), gp_i p0] s1 (fun r s3 => ∃ o4, r = some (gp_r o4) ∧ gs_C L d 1289 2 [gp_r (some 46), gp_r o4] s3 (fun r s5 => r = none ∧ gs_E L (d + 1) 1288 62 [gp_r (some 46), gp_i p0, gp_i 0] [] s5 K)))))) : gs_C L (d + 1) 1288 3 [gp_r (some 46), gp_i p0] s K := by
  show gs_E L (d + 1) 1288 0 [gp_r (some 46), gp_i p0, gp_n] [] s K
  refine gs_E.stp (pc' := 1) (ls' := [gp_r (some 46), gp_i p0, gp_n]) (st' := [gp_r (some 46)]) (s' := s) 1 rfl ?_
  refine gs_E.call (args := [gp_r (some 46)]) (m := 1) (y' := 1282) (st' := []) rfl H (fun r s1 H => ?_)
  obtain ⟨x2, rfl, H⟩ := H
  show gs_E L (d + 1) 1288 4 [gp_r (some 46), gp_i p0, gp_n] [gp_i x2] s1 K
  refine gs_E.stp (pc' := 6) (ls' := [gp_r (some 46), gp_i p0, gp_n]) (st' := [gp_i 58, gp_i x2]) (s' := s1) 1 rfl ?_
  refine gs_E.br (c := ¬ x2 = 58) (p1 := 51) (p2 := 9) (l1 := [gp_r (some 46), gp_i p0, gp_n]) (l2 := [gp_r (some 46), gp_i p0, gp_n]) (s1 := []) (s2 := []) rfl gs_b2 (fun hc => ?_) (fun hc => ?_)
  · replace H := H.2 hc
    refine gs_E.stp (pc' := 54) (ls' := [gp_r (some 46), gp_i p0, gp_n]) (st' := [gp_i p0, gp_r (some 46), gp_r (some 46)]) (s' := s1) 3 rfl ?_
    refine gs_E.call (args := [gp_r (some 46), gp_i p0]) (m := 5) (y' := 1285) (st' := [gp_r (some 46)]) rfl H (fun r s3 H => ?_)
    obtain ⟨o4, rfl, H⟩ := H
    show gs_E L (d + 1) 1288 57 [gp_r (some 46), gp_i p0, gp_n] [gp_r o4, gp_r (some 46)] s3 K
    refine gs_E.call (args := [gp_r (some 46), gp_r o4]) (m := 2) (y' := 1289) (st' := []) rfl H (fun r s5 H => ?_)
    obtain ⟨rfl, H⟩ := H
    show gs_E L (d + 1) 1288 60 [gp_r (some 46), gp_i p0, gp_n] [] s5 K
    refine gs_E.stp (pc' := 62) (ls' := [gp_r (some 46), gp_i p0, gp_i 0]) (st' := []) (s' := s5) 2 rfl ?_
    exact H
  · replace H := H.1 (Decidable.byContradiction hc)
    refine gs_E.stp (pc' := 19) (ls' := [gp_r (some 46), gp_i p0, gp_n]) (st' := []) (s' := gp_wI s1 46 6 (gp_wr ((gp_I s1 46 6) + 1))) 6 rfl ?_
    replace H := H _ rfl
    generalize gp_wI s1 46 6 (gp_wr ((gp_I s1 46 6) + 1)) = s6 at H ⊢
    refine gs_E.stp (pc' := 20) (ls' := [gp_r (some 46), gp_i p0, gp_n]) (st' := [gp_r (some 46)]) (s' := s6) 1 rfl ?_
    refine gs_E.call (args := [gp_r (some 46)]) (m := 1) (y' := 1282) (st' := []) rfl H (fun r s7 H => ?_)
    obtain ⟨x8, rfl, H⟩ := H
    show gs_E L (d + 1) 1288 23 [gp_r (some 46), gp_i p0, gp_n] [gp_i x8] s7 K
    refine gs_E.stp (pc' := 25) (ls' := [gp_r (some 46), gp_i p0, gp_n]) (st' := [gp_i 45, gp_i x8]) (s' := s7) 1 rfl ?_
    refine gs_E.br (c := ¬ x8 = 45) (p1 := 45) (p2 := 28) (l1 := [gp_r (some 46), gp_i p0, gp_n]) (l2 := [gp_r (some 46), gp_i p0, gp_n]) (s1 := []) (s2 := []) rfl gs_b2 (fun hc => ?_) (fun hc => ?_)
    · replace H := H.2 hc
      refine gs_E.stp (pc' := 47) (ls' := [gp_r (some 46), gp_i p0, gp_n]) (st' := [gp_i 3, gp_r (some 46)]) (s' := s7) 2 rfl ?_
      refine gs_E.call (args := [gp_r (some 46), gp_i 3]) (m := 4) (y' := 1290) (st' := []) rfl H (fun r s9 H => ?_)
      obtain ⟨x10, rfl, H⟩ := H
      show gs_E L (d + 1) 1288 50 [gp_r (some 46), gp_i p0, gp_n] [gp_i x10] s9 K
      exact gs_E.ret (r := (some (gp_i x10))) rfl H
    · replace H := H.1 (Decidable.byContradiction hc)
      refine gs_E.stp (pc' := 38) (ls' := [gp_r (some 46), gp_i p0, gp_n]) (st' := []) (s' := gp_wI s7 46 6 (gp_wr ((gp_I s7 46 6) + 1))) 6 rfl ?_
      replace H := H _ rfl
      generalize gp_wI s7 46 6 (gp_wr ((gp_I s7 46 6) + 1)) = s11 at H ⊢
      refine gs_E.stp (pc' := 40) (ls' := [gp_r (some 46), gp_i p0, gp_n]) (st' := [gp_i 3, gp_r (some 46)]) (s' := s11) 2 rfl ?_
      refine gs_E.call (args := [gp_r (some 46), gp_i 3]) (m := 4) (y' := 1290) (st' := []) rfl H (fun r s12 H => ?_)
      obtain ⟨x13, rfl, H⟩ := H
      show gs_E L (d + 1) 1288 43 [gp_r (some 46), gp_i p0, gp_n] [gp_i x13] s12 K
      refine gs_E.stp (pc' := 44) (ls' := [gp_r (some 46), gp_i p0, gp_n]) (st' := [gp_i (gp_wr (-x13))]) (s' := s12) 1 rfl ?_
      exact gs_E.ret (r := (some (gp_i (gp_wr (-x13))))) rfl H

set_option maxRecDepth 100000 in
/-- Reader.readSide, pc 62 -/
theorem s_1288_62 {L d : Nat} {K : Option gV → gH → Prop} {s : gH} (v1 : Int) (v2 : Int) (H : ((v2 < 100 → gs_C L d 1282 1 [gp_r (some 46)] s (fun r s1 => ∃ x2, r = some (gp_i x2) ∧ ((x2 = 44 → (∀ s3, s3 = gp_wI s1 46 6 (gp_wr ((gp_I s1 46 6) + 1)) → gs_C L d 1285 5 [gp_r (some 46), gp_i v1] s3 (fun r s4 => ∃ o5, r = some (gp_r o5) ∧ gs_C L d 1289 2 [gp_r (some 46), gp_r o5] s4 (fun r s6 => r = none ∧ gs_E L (d + 1) 1288 62 [gp_r (some 46), gp_i v1, gp_i (gp_wr (v2 + 1))] [] s6 K)))) ∧ (¬ x2 = 44 → gs_E L (d + 1) 1288 102 [gp_r (some 46), gp_i v1, gp_i v2] [] s1 K)))) ∧ (¬ v2 < 100 → gs_E L (d + 1) 1288 102 [gp_r (some 46), gp_i v1, gp_i v2] [] s K))) : gs_E L (d + 1) 1288 62 [gp_r (some 46), gp_i v1, gp_i v2] [] s K := by
  refine gs_E.stp (pc' := 65) (ls' := [gp_r (some 46), gp_i v1, gp_i v2]) (st' := [gp_i 100, gp_i v2]) (s' := s) 2 rfl ?_
  refine gs_E.br (c := ¬ v2 < 100) (p1 := 102) (p2 := 68) (l1 := [gp_r (some 46), gp_i v1, gp_i v2]) (l2 := [gp_r (some 46), gp_i v1, gp_i v2]) (s1 := []) (s2 := []) rfl gs_b2 (fun hc => ?_) (fun hc => ?_)
  · replace H := H.2 hc
    exact H
  · replace H := H.1 (Decidable.byContradiction hc)
    refine gs_E.stp (pc' := 69) (ls' := [gp_r (some 46), gp_i v1, gp_i v2]) (st' := [gp_r (some 46)]) (s' := s) 1 rfl ?_
    refine gs_E.call (args := [gp_r (some 46)]) (m := 1) (y' := 1282) (st' := []) rfl H (fun r s1 H => ?_)
    obtain ⟨x2, rfl, H⟩ := H
    show gs_E L (d + 1) 1288 72 [gp_r (some 46), gp_i v1, gp_i v2] [gp_i x2] s1 K
    refine gs_E.stp (pc' := 74) (ls' := [gp_r (some 46), gp_i v1, gp_i v2]) (st' := [gp_i 44, gp_i x2]) (s' := s1) 1 rfl ?_
    refine gs_E.br (c := ¬ x2 = 44) (p1 := 102) (p2 := 77) (l1 := [gp_r (some 46), gp_i v1, gp_i v2]) (l2 := [gp_r (some 46), gp_i v1, gp_i v2]) (s1 := []) (s2 := []) rfl gs_b2 (fun hc => ?_) (fun hc => ?_)
    · replace H := H.2 hc
      exact H
    · replace H := H.1 (Decidable.byContradiction hc)
      refine gs_E.stp (pc' := 87) (ls' := [gp_r (some 46), gp_i v1, gp_i v2]) (st' := []) (s' := gp_wI s1 46 6 (gp_wr ((gp_I s1 46 6) + 1))) 6 rfl ?_
      replace H := H _ rfl
      generalize gp_wI s1 46 6 (gp_wr ((gp_I s1 46 6) + 1)) = s3 at H ⊢
      refine gs_E.stp (pc' := 90) (ls' := [gp_r (some 46), gp_i v1, gp_i v2]) (st' := [gp_i v1, gp_r (some 46), gp_r (some 46)]) (s' := s3) 3 rfl ?_
      refine gs_E.call (args := [gp_r (some 46), gp_i v1]) (m := 5) (y' := 1285) (st' := [gp_r (some 46)]) rfl H (fun r s4 H => ?_)
      obtain ⟨o5, rfl, H⟩ := H
      show gs_E L (d + 1) 1288 93 [gp_r (some 46), gp_i v1, gp_i v2] [gp_r o5, gp_r (some 46)] s4 K
      refine gs_E.call (args := [gp_r (some 46), gp_r o5]) (m := 2) (y' := 1289) (st' := []) rfl H (fun r s6 H => ?_)
      obtain ⟨rfl, H⟩ := H
      show gs_E L (d + 1) 1288 96 [gp_r (some 46), gp_i v1, gp_i v2] [] s6 K
      refine gs_E.stp (pc' := 62) (ls' := [gp_r (some 46), gp_i v1, gp_i (gp_wr (v2 + 1))]) (st' := []) (s' := s6) 2 rfl ?_
      exact H

set_option maxRecDepth 100000 in
/-- Reader.readSide, pc 102 -/
theorem s_1288_102 {L d : Nat} {K : Option gV → gH → Prop} {s : gH} (v1 : Int) (v2 : Int) (H : K (some (gp_i 0)) s) : gs_E L (d + 1) 1288 102 [gp_r (some 46), gp_i v1, gp_i v2] [] s K := by
  refine gs_E.stp (pc' := 103) (ls' := [gp_r (some 46), gp_i v1, gp_i v2]) (st' := [gp_i 0]) (s' := s) 1 rfl ?_
  exact gs_E.ret (r := (some (gp_i 0))) rfl H

set_option maxRecDepth 100000 in
/-- Reader.hang, pc 0 -/
theorem s_1289_e {L d : Nat} {K : Option gV → gH → Prop} {s : gH} (p0 : Option Nat) (H : (((gp_I s 46 3) < 100 → (∃ q1, p0 = some q1 ∧ ((0 ≤ (gp_I s 46 3) ∧ (gp_I s 46 3) < 100) ∧ (gp_sh (gp_mk L s) q1).1 = 9 ∧ ∀ s2, s2 = gp_wR s 47 (gp_I s 46 3).toNat (some q1) → (∀ s3, s3 = gp_wI s2 46 3 (gp_wr ((gp_I s2 46 3) + 1)) → gs_E L d 1289 32 [gp_r (some 46), gp_r (some q1)] [] s3 K)))) ∧ (¬ (gp_I s 46 3) < 100 → gs_E L d 1289 32 [gp_r (some 46), gp_r p0] [] s K))) : gs_C L d 1289 2 [gp_r (some 46), gp_r p0] s K := by
  show gs_E L d 1289 0 [gp_r (some 46), gp_r p0] [] s K
  refine gs_E.stp (pc' := 8) (ls' := [gp_r (some 46), gp_r p0]) (st' := [gp_r (some 47), gp_i (gp_I s 46 3)]) (s' := s) 4 rfl ?_
  refine gs_E.len (v := 100) rfl (by show 100 ≤ 103 ∧ 103 ≤ 105; omega) (by show ((100 : Nat) : Int) < 2147483648; omega) rfl ?_
  refine gs_E.br (c := ¬ (gp_I s 46 3) < 100) (p1 := 32) (p2 := 12) (l1 := [gp_r (some 46), gp_r p0]) (l2 := [gp_r (some 46), gp_r p0]) (s1 := []) (s2 := []) rfl gs_b2 (fun hc => ?_) (fun hc => ?_)
  · replace H := H.2 hc
    exact H
  · replace H := H.1 (Decidable.byContradiction hc)
    refine gs_E.stp (pc' := 21) (ls' := [gp_r (some 46), gp_r p0]) (st' := [gp_r p0, gp_i (gp_I s 46 3), gp_r (some 47)]) (s' := s) 5 rfl ?_
    obtain ⟨q1, hq, H⟩ := H
    rw [hq]
    refine gs_E.ckR (pc' := 22) (ls' := [gp_r (some 46), gp_r (some q1)]) (st' := []) (a := 47) (f := (gp_I s 46 3).toNat) (v := some q1) rfl ⟨⟨rfl, H.1.1, H.1.2⟩, H.2.1⟩ rfl ?_
    replace H := H.2.2 _ rfl
    generalize gp_wR s 47 (gp_I s 46 3).toNat (some q1) = s2 at H ⊢
    refine gs_E.stp (pc' := 32) (ls' := [gp_r (some 46), gp_r (some q1)]) (st' := []) (s' := gp_wI s2 46 3 (gp_wr ((gp_I s2 46 3) + 1))) 6 rfl ?_
    replace H := H _ rfl
    generalize gp_wI s2 46 3 (gp_wr ((gp_I s2 46 3) + 1)) = s3 at H ⊢
    exact H

set_option maxRecDepth 100000 in
/-- Reader.hang, pc 32 -/
theorem s_1289_32 {L d : Nat} {K : Option gV → gH → Prop} {s : gH} (v1 : Option Nat) (H : K none s) : gs_E L d 1289 32 [gp_r (some 46), gp_r v1] [] s K := by
  exact gs_E.ret (r := none) rfl H

set_option maxRecDepth 100000 in
/-- Reader.readDigits, pc 0 -/
theorem s_1290_e {L d : Nat} {K : Option gV → gH → Prop} {s : gH} (p0 : Int) (H : gs_E L (d + 1) 1290 4 [gp_r (some 46), gp_i p0, gp_i 0, gp_i 0] [] s K) : gs_C L (d + 1) 1290 4 [gp_r (some 46), gp_i p0] s K := by
  show gs_E L (d + 1) 1290 0 [gp_r (some 46), gp_i p0, gp_n, gp_n] [] s K
  refine gs_E.stp (pc' := 4) (ls' := [gp_r (some 46), gp_i p0, gp_i 0, gp_i 0]) (st' := []) (s' := s) 4 rfl ?_
  exact H

set_option maxRecDepth 100000 in
/-- Reader.readDigits, pc 4 -/
theorem s_1290_4 {L d : Nat} {K : Option gV → gH → Prop} {s : gH} (v1 : Int) (v2 : Int) (v3 : Int) (H : ((v3 < v1 → gs_C L d 1282 1 [gp_r (some 46)] s (fun r s1 => ∃ x2, r = some (gp_i x2) ∧ gs_C L d 1291 1 [gp_i x2] s1 (fun r s3 => ∃ x4, r = some (gp_i x4) ∧ ((x4 = 0 → gs_E L (d + 1) 1290 48 [gp_r (some 46), gp_i v1, gp_i v2, gp_i v3] [] s3 K) ∧ (¬ x4 = 0 → gs_C L d 1282 1 [gp_r (some 46)] s3 (fun r s5 => ∃ x6, r = some (gp_i x6) ∧ (∀ s7, s7 = gp_wI s5 46 6 (gp_wr ((gp_I s5 46 6) + 1)) → gs_E L (d + 1) 1290 4 [gp_r (some 46), gp_i v1, gp_i (gp_wr ((gp_wr (v2 * 10)) + (gp_wr (x6 - 48)))), gp_i (gp_wr (v3 + 1))] [] s7 K))))))) ∧ (¬ v3 < v1 → gs_E L (d + 1) 1290 48 [gp_r (some 46), gp_i v1, gp_i v2, gp_i v3] [] s K))) : gs_E L (d + 1) 1290 4 [gp_r (some 46), gp_i v1, gp_i v2, gp_i v3] [] s K := by
  refine gs_E.stp (pc' := 6) (ls' := [gp_r (some 46), gp_i v1, gp_i v2, gp_i v3]) (st' := [gp_i v1, gp_i v3]) (s' := s) 2 rfl ?_
  refine gs_E.br (c := ¬ v3 < v1) (p1 := 48) (p2 := 9) (l1 := [gp_r (some 46), gp_i v1, gp_i v2, gp_i v3]) (l2 := [gp_r (some 46), gp_i v1, gp_i v2, gp_i v3]) (s1 := []) (s2 := []) rfl gs_b2 (fun hc => ?_) (fun hc => ?_)
  · replace H := H.2 hc
    exact H
  · replace H := H.1 (Decidable.byContradiction hc)
    refine gs_E.stp (pc' := 10) (ls' := [gp_r (some 46), gp_i v1, gp_i v2, gp_i v3]) (st' := [gp_r (some 46)]) (s' := s) 1 rfl ?_
    refine gs_E.call (args := [gp_r (some 46)]) (m := 1) (y' := 1282) (st' := []) rfl H (fun r s1 H => ?_)
    obtain ⟨x2, rfl, H⟩ := H
    show gs_E L (d + 1) 1290 13 [gp_r (some 46), gp_i v1, gp_i v2, gp_i v3] [gp_i x2] s1 K
    refine gs_E.call (args := [gp_i x2]) (m := 1) (y' := 1291) (st' := []) rfl H (fun r s3 H => ?_)
    obtain ⟨x4, rfl, H⟩ := H
    show gs_E L (d + 1) 1290 16 [gp_r (some 46), gp_i v1, gp_i v2, gp_i v3] [gp_i x4] s3 K
    refine gs_E.br (c := x4 = 0) (p1 := 48) (p2 := 19) (l1 := [gp_r (some 46), gp_i v1, gp_i v2, gp_i v3]) (l2 := [gp_r (some 46), gp_i v1, gp_i v2, gp_i v3]) (s1 := []) (s2 := []) rfl gs_b1 (fun hc => ?_) (fun hc => ?_)
    · replace H := H.1 hc
      exact H
    · replace H := H.2 hc
      refine gs_E.stp (pc' := 24) (ls' := [gp_r (some 46), gp_i v1, gp_i v2, gp_i v3]) (st' := [gp_r (some 46), gp_i (gp_wr (v2 * 10))]) (s' := s3) 4 rfl ?_
      refine gs_E.call (args := [gp_r (some 46)]) (m := 1) (y' := 1282) (st' := [gp_i (gp_wr (v2 * 10))]) rfl H (fun r s5 H => ?_)
      obtain ⟨x6, rfl, H⟩ := H
      show gs_E L (d + 1) 1290 27 [gp_r (some 46), gp_i v1, gp_i v2, gp_i v3] [gp_i x6, gp_i (gp_wr (v2 * 10))] s5 K
      refine gs_E.stp (pc' := 42) (ls' := [gp_r (some 46), gp_i v1, gp_i (gp_wr ((gp_wr (v2 * 10)) + (gp_wr (x6 - 48)))), gp_i v3]) (st' := []) (s' := gp_wI s5 46 6 (gp_wr ((gp_I s5 46 6) + 1))) 10 rfl ?_
      replace H := H _ rfl
      generalize gp_wI s5 46 6 (gp_wr ((gp_I s5 46 6) + 1)) = s7 at H ⊢
      refine gs_E.stp (pc' := 4) (ls' := [gp_r (some 46), gp_i v1, gp_i (gp_wr ((gp_wr (v2 * 10)) + (gp_wr (x6 - 48)))), gp_i (gp_wr (v3 + 1))]) (st' := []) (s' := s7) 2 rfl ?_
      exact H

set_option maxRecDepth 100000 in
/-- Reader.readDigits, pc 48 -/
theorem s_1290_48 {L d : Nat} {K : Option gV → gH → Prop} {s : gH} (v1 : Int) (v2 : Int) (v3 : Int) (H : ((v3 = 0 → gs_C L d 1283 1 [gp_r (some 46)] s (fun r s1 => r = none ∧ gs_E L (d + 1) 1290 56 [gp_r (some 46), gp_i v1, gp_i v2, gp_i v3] [] s1 K)) ∧ (¬ v3 = 0 → gs_E L (d + 1) 1290 56 [gp_r (some 46), gp_i v1, gp_i v2, gp_i v3] [] s K))) : gs_E L (d + 1) 1290 48 [gp_r (some 46), gp_i v1, gp_i v2, gp_i v3] [] s K := by
  refine gs_E.stp (pc' := 49) (ls' := [gp_r (some 46), gp_i v1, gp_i v2, gp_i v3]) (st' := [gp_i v3]) (s' := s) 1 rfl ?_
  refine gs_E.br (c := ¬ v3 = 0) (p1 := 56) (p2 := 52) (l1 := [gp_r (some 46), gp_i v1, gp_i v2, gp_i v3]) (l2 := [gp_r (some 46), gp_i v1, gp_i v2, gp_i v3]) (s1 := []) (s2 := []) rfl gs_b2 (fun hc => ?_) (fun hc => ?_)
  · replace H := H.2 hc
    exact H
  · replace H := H.1 (Decidable.byContradiction hc)
    refine gs_E.stp (pc' := 53) (ls' := [gp_r (some 46), gp_i v1, gp_i v2, gp_i v3]) (st' := [gp_r (some 46)]) (s' := s) 1 rfl ?_
    refine gs_E.call (args := [gp_r (some 46)]) (m := 1) (y' := 1283) (st' := []) rfl H (fun r s1 H => ?_)
    obtain ⟨rfl, H⟩ := H
    show gs_E L (d + 1) 1290 56 [gp_r (some 46), gp_i v1, gp_i v2, gp_i v3] [] s1 K
    exact H

set_option maxRecDepth 100000 in
/-- Reader.readDigits, pc 56 -/
theorem s_1290_56 {L d : Nat} {K : Option gV → gH → Prop} {s : gH} (v1 : Int) (v2 : Int) (v3 : Int) (H : K (some (gp_i v2)) s) : gs_E L (d + 1) 1290 56 [gp_r (some 46), gp_i v1, gp_i v2, gp_i v3] [] s K := by
  refine gs_E.stp (pc' := 57) (ls' := [gp_r (some 46), gp_i v1, gp_i v2, gp_i v3]) (st' := [gp_i v2]) (s' := s) 1 rfl ?_
  exact gs_E.ret (r := (some (gp_i v2))) rfl H

set_option maxRecDepth 100000 in
/-- Reader.digit, pc 0 -/
theorem s_1291_e {L d : Nat} {K : Option gV → gH → Prop} {s : gH} (p0 : Int) (H : ((p0 < 48 → gs_E L d 1291 16 [gp_i p0] [] s K) ∧ (¬ p0 < 48 → ((57 < p0 → gs_E L d 1291 16 [gp_i p0] [] s K) ∧ (¬ 57 < p0 → gs_E L d 1291 17 [gp_i p0] [gp_i 1] s K))))) : gs_C L d 1291 1 [gp_i p0] s K := by
  show gs_E L d 1291 0 [gp_i p0] [] s K
  refine gs_E.stp (pc' := 3) (ls' := [gp_i p0]) (st' := [gp_i 48, gp_i p0]) (s' := s) 2 rfl ?_
  refine gs_E.br (c := p0 < 48) (p1 := 16) (p2 := 6) (l1 := [gp_i p0]) (l2 := [gp_i p0]) (s1 := []) (s2 := []) rfl gs_b1 (fun hc => ?_) (fun hc => ?_)
  · replace H := H.1 hc
    exact H
  · replace H := H.2 hc
    refine gs_E.stp (pc' := 9) (ls' := [gp_i p0]) (st' := [gp_i 57, gp_i p0]) (s' := s) 2 rfl ?_
    refine gs_E.br (c := 57 < p0) (p1 := 16) (p2 := 12) (l1 := [gp_i p0]) (l2 := [gp_i p0]) (s1 := []) (s2 := []) rfl gs_b1 (fun hc => ?_) (fun hc => ?_)
    · replace H := H.1 hc
      exact H
    · replace H := H.2 hc
      refine gs_E.stp (pc' := 17) (ls' := [gp_i p0]) (st' := [gp_i 1]) (s' := s) 2 rfl ?_
      exact H

set_option maxRecDepth 100000 in
/-- Reader.digit, pc 16 -/
theorem s_1291_16 {L d : Nat} {K : Option gV → gH → Prop} {s : gH} (v0 : Int) (H : gs_E L d 1291 17 [gp_i v0] [gp_i 0] s K) : gs_E L d 1291 16 [gp_i v0] [] s K := by
  refine gs_E.stp (pc' := 17) (ls' := [gp_i v0]) (st' := [gp_i 0]) (s' := s) 1 rfl ?_
  exact H

set_option maxRecDepth 100000 in
/-- Reader.digit, pc 17 -/
theorem s_1291_17 {L d : Nat} {K : Option gV → gH → Prop} {s : gH} (v0 : Int) (w0 : Int) (H : ((w0 = 0 ∨ w0 = 1) ∧ K (some (gp_i w0)) s)) : gs_E L d 1291 17 [gp_i v0] [gp_i w0] s K := by
  exact gs_E.retz (r := (some (gp_i w0))) rfl H.1 H.2

set_option maxRecDepth 100000 in
/-- Reader.unfit, pc 0 -/
theorem s_1292_e {L d : Nat} {K : Option gV → gH → Prop} {s : gH}  (H : (((gp_I s 46 7) < 0 → (((gp_I s 46 8) = 0 → gs_E L d 1292 19 [gp_r (some 46)] [gp_i 0] s K) ∧ (¬ (gp_I s 46 8) = 0 → gs_E L d 1292 14 [gp_r (some 46)] [] s K))) ∧ (¬ (gp_I s 46 7) < 0 → gs_E L d 1292 14 [gp_r (some 46)] [] s K))) : gs_C L d 1292 1 [gp_r (some 46)] s K := by
  show gs_E L d 1292 0 [gp_r (some 46)] [] s K
  refine gs_E.stp (pc' := 4) (ls' := [gp_r (some 46)]) (st' := [gp_i (gp_I s 46 7)]) (s' := s) 2 rfl ?_
  refine gs_E.br (c := ¬ (gp_I s 46 7) < 0) (p1 := 14) (p2 := 7) (l1 := [gp_r (some 46)]) (l2 := [gp_r (some 46)]) (s1 := []) (s2 := []) rfl gs_b2 (fun hc => ?_) (fun hc => ?_)
  · replace H := H.2 hc
    exact H
  · replace H := H.1 (Decidable.byContradiction hc)
    refine gs_E.stp (pc' := 11) (ls' := [gp_r (some 46)]) (st' := [gp_i (gp_I s 46 8)]) (s' := s) 2 rfl ?_
    refine gs_E.br (c := (gp_I s 46 8) = 0) (p1 := 18) (p2 := 14) (l1 := [gp_r (some 46)]) (l2 := [gp_r (some 46)]) (s1 := []) (s2 := []) rfl gs_b1 (fun hc => ?_) (fun hc => ?_)
    · replace H := H.1 hc
      refine gs_E.stp (pc' := 19) (ls' := [gp_r (some 46)]) (st' := [gp_i 0]) (s' := s) 1 rfl ?_
      exact H
    · replace H := H.2 hc
      exact H

set_option maxRecDepth 100000 in
/-- Reader.unfit, pc 14 -/
theorem s_1292_14 {L d : Nat} {K : Option gV → gH → Prop} {s : gH}  (H : gs_E L d 1292 19 [gp_r (some 46)] [gp_i 1] s K) : gs_E L d 1292 14 [gp_r (some 46)] [] s K := by
  refine gs_E.stp (pc' := 19) (ls' := [gp_r (some 46)]) (st' := [gp_i 1]) (s' := s) 2 rfl ?_
  exact H

set_option maxRecDepth 100000 in
/-- Reader.unfit, pc 19 -/
theorem s_1292_19 {L d : Nat} {K : Option gV → gH → Prop} {s : gH} (w0 : Int) (H : ((w0 = 0 ∨ w0 = 1) ∧ K (some (gp_i w0)) s)) : gs_E L d 1292 19 [gp_r (some 46)] [gp_i w0] s K := by
  exact gs_E.retz (r := (some (gp_i w0))) rfl H.1 H.2

set_option maxRecDepth 100000 in
/-- Reader.fitting, pc 0 -/
theorem s_1293_e {L d : Nat} {K : Option gV → gH → Prop} {s : gH} (p0 : Option Nat) (H : ((p0 = none → (∀ s2, s2 = gp_wI s 46 8 4 → K (some (gp_r (some 25))) s2)) ∧ ∀ q1, p0 = some q1 → ((gp_sh (gp_mk L s) q1).1 = 9 ∧ gs_C L d 2310 2 [gp_r (some q1)] s (fun r s3 => ∃ x4, r = some (gp_i x4) ∧ ((x4 = 0 → gs_E L (d + 1) 1293 30 [gp_r (some 46), gp_r (some q1)] [] s3 K) ∧ (¬ x4 = 0 → (∀ s5, s5 = gp_wI s3 46 8 6 → gs_E L (d + 1) 1293 30 [gp_r (some 46), gp_r (some q1)] [] s5 K))))))) : gs_C L (d + 1) 1293 2 [gp_r (some 46), gp_r p0] s K := by
  show gs_E L (d + 1) 1293 0 [gp_r (some 46), gp_r p0] [] s K
  refine gs_E.stp (pc' := 1) (ls' := [gp_r (some 46), gp_r p0]) (st' := [gp_r p0]) (s' := s) 1 rfl ?_
  cases hq : p0 with
  | none =>
    replace H := H.1 hq
    refine gs_E.stp (pc' := 4) (ls' := [gp_r (some 46), gp_r none]) (st' := []) (s' := s) 1 rfl ?_
    refine gs_E.stp (pc' := 9) (ls' := [gp_r (some 46), gp_r none]) (st' := []) (s' := gp_wI s 46 8 4) 3 rfl ?_
    replace H := H _ rfl
    generalize gp_wI s 46 8 4 = s2 at H ⊢
    refine gs_E.stp (pc' := 16) (ls' := [gp_r (some 46), gp_r none]) (st' := [gp_r (some 25)]) (s' := s2) 3 rfl ?_
    exact gs_E.ret (r := (some (gp_r (some 25)))) rfl H
  | some q1 =>
    replace H := H.2 q1 hq
    refine gs_E.stp (pc' := 17) (ls' := [gp_r (some 46), gp_r (some q1)]) (st' := []) (s' := s) 1 rfl ?_
    refine gs_E.stp (pc' := 18) (ls' := [gp_r (some 46), gp_r (some q1)]) (st' := [gp_r (some q1)]) (s' := s) 1 rfl ?_
    refine gs_E.callV (args := [gp_r (some q1)]) (m := 2) (y' := 2310) (st' := []) rfl H.1 H.2 (fun r s3 H => ?_)
    obtain ⟨x4, rfl, H⟩ := H
    show gs_E L (d + 1) 1293 21 [gp_r (some 46), gp_r (some q1)] [gp_i x4] s3 K
    refine gs_E.br (c := x4 = 0) (p1 := 30) (p2 := 24) (l1 := [gp_r (some 46), gp_r (some q1)]) (l2 := [gp_r (some 46), gp_r (some q1)]) (s1 := []) (s2 := []) rfl gs_b1 (fun hc => ?_) (fun hc => ?_)
    · replace H := H.1 hc
      exact H
    · replace H := H.2 hc
      refine gs_E.stp (pc' := 30) (ls' := [gp_r (some 46), gp_r (some q1)]) (st' := []) (s' := gp_wI s3 46 8 6) 3 rfl ?_
      replace H := H _ rfl
      generalize gp_wI s3 46 8 6 = s5 at H ⊢
      exact H

set_option maxRecDepth 100000 in
/-- Reader.fitting, pc 30 -/
theorem s_1293_30 {L d : Nat} {K : Option gV → gH → Prop} {s : gH} (v1 : Option Nat) (H : K (some (gp_r v1)) s) : gs_E L (d + 1) 1293 30 [gp_r (some 46), gp_r v1] [] s K := by
  refine gs_E.stp (pc' := 31) (ls' := [gp_r (some 46), gp_r v1]) (st' := [gp_r v1]) (s' := s) 1 rfl ?_
  exact gs_E.ret (r := (some (gp_r v1))) rfl H

set_option maxRecDepth 100000 in
/-- Reader.framed, pc 0 -/
theorem s_1294_e {L d : Nat} {K : Option gV → gH → Prop} {s : gH} (p0 : Int) (p1 : Int) (p2 : Int) (p3 : Int) (H : gs_C L d 1292 1 [gp_r (some 46)] s (fun r s1 => ∃ x2, r = some (gp_i x2) ∧ ((x2 = 0 → gs_C L d 1025 1 [gp_r (some 6)] s1 (fun r s3 => r = none ∧ gs_E L (d + 1) 1294 31 [gp_r (some 46), gp_i p0, gp_i p1, gp_i p2, gp_i p3, gp_l (0#64), gp_n, gp_l (0#64), gp_n, gp_i p0, gp_n] [] s3 K)) ∧ (¬ x2 = 0 → K (some (gp_r (some 25))) s1)))) : gs_C L (d + 1) 1294 11 [gp_r (some 46), gp_i p0, gp_i p1, gp_i p2, gp_i p3] s K := by
  show gs_E L (d + 1) 1294 0 [gp_r (some 46), gp_i p0, gp_i p1, gp_i p2, gp_i p3, gp_n, gp_n, gp_n, gp_n, gp_n, gp_n] [] s K
  refine gs_E.stp (pc' := 1) (ls' := [gp_r (some 46), gp_i p0, gp_i p1, gp_i p2, gp_i p3, gp_n, gp_n, gp_n, gp_n, gp_n, gp_n]) (st' := [gp_r (some 46)]) (s' := s) 1 rfl ?_
  refine gs_E.call (args := [gp_r (some 46)]) (m := 1) (y' := 1292) (st' := []) rfl H (fun r s1 H => ?_)
  obtain ⟨x2, rfl, H⟩ := H
  show gs_E L (d + 1) 1294 4 [gp_r (some 46), gp_i p0, gp_i p1, gp_i p2, gp_i p3, gp_n, gp_n, gp_n, gp_n, gp_n, gp_n] [gp_i x2] s1 K
  refine gs_E.br (c := x2 = 0) (p1 := 15) (p2 := 7) (l1 := [gp_r (some 46), gp_i p0, gp_i p1, gp_i p2, gp_i p3, gp_n, gp_n, gp_n, gp_n, gp_n, gp_n]) (l2 := [gp_r (some 46), gp_i p0, gp_i p1, gp_i p2, gp_i p3, gp_n, gp_n, gp_n, gp_n, gp_n, gp_n]) (s1 := []) (s2 := []) rfl gs_b1 (fun hc => ?_) (fun hc => ?_)
  · replace H := H.1 hc
    refine gs_E.stp (pc' := 19) (ls' := [gp_r (some 46), gp_i p0, gp_i p1, gp_i p2, gp_i p3, gp_n, gp_n, gp_n, gp_n, gp_n, gp_n]) (st' := [gp_r (some 6)]) (s' := s1) 2 rfl ?_
    refine gs_E.call (args := [gp_r (some 6)]) (m := 1) (y' := 1025) (st' := []) rfl H (fun r s3 H => ?_)
    obtain ⟨rfl, H⟩ := H
    show gs_E L (d + 1) 1294 22 [gp_r (some 46), gp_i p0, gp_i p1, gp_i p2, gp_i p3, gp_n, gp_n, gp_n, gp_n, gp_n, gp_n] [] s3 K
    refine gs_E.stp (pc' := 31) (ls' := [gp_r (some 46), gp_i p0, gp_i p1, gp_i p2, gp_i p3, gp_l (0#64), gp_n, gp_l (0#64), gp_n, gp_i p0, gp_n]) (st' := []) (s' := s3) 6 rfl ?_
    exact H
  · replace H := H.2 hc
    refine gs_E.stp (pc' := 14) (ls' := [gp_r (some 46), gp_i p0, gp_i p1, gp_i p2, gp_i p3, gp_n, gp_n, gp_n, gp_n, gp_n, gp_n]) (st' := [gp_r (some 25)]) (s' := s1) 3 rfl ?_
    exact gs_E.ret (r := (some (gp_r (some 25)))) rfl H

set_option maxRecDepth 100000 in
/-- Reader.framed, pc 31 -/
theorem s_1294_31 {L d : Nat} {K : Option gV → gH → Prop} {s : gH} (v1 : Int) (v2 : Int) (v3 : Int) (v4 : Int) (v5 : BitVec 64) (v7 : BitVec 64) (v9 : Int) (v10 : gV) (H : ((v9 < (gp_I s 46 3) → ((0 ≤ v9 ∧ v9 < 100) ∧ ((0 ≤ v9 ∧ v9 < 100) ∧ (∃ q6, gp_R (gp_mk L s) 47 v9.toNat = some q6 ∧ ((gp_sh (gp_mk L s) q6).1 = 9 ∧ gs_C L d 2306 1 [gp_r (some q6)] s (fun r s7 => ∃ x8, r = some (gp_i x8) ∧ gs_C L d 1031 6 [gp_r (some 6), gp_r (some q6), gp_i x8] s7 (fun r s9 => ∃ x10, r = some (gp_i x10) ∧ ((x10 < 0 → (∀ s11, s11 = gp_wI s9 46 8 4 → K (some (gp_r (some 25))) s11)) ∧ (¬ x10 < 0 → ((v9 < v2 → gs_E L (d + 1) 1294 100 [gp_r (some 46), gp_i v1, gp_i v2, gp_i v3, gp_i v4, gp_l v5, gp_n, gp_l v7, gp_n, gp_i v9, gp_i x10] [gp_l ((1#64) <<< (x10 % 64).toNat), gp_l v5] s9 K) ∧ (¬ v9 < v2 → gs_E L (d + 1) 1294 100 [gp_r (some 46), gp_i v1, gp_i v2, gp_i v3, gp_i v4, gp_l v5, gp_n, gp_l v7, gp_n, gp_i v9, gp_i x10] [gp_l (0#64), gp_l v5] s9 K))))))))))) ∧ (¬ v9 < (gp_I s 46 3) → gs_C L d 1028 7 [gp_r (some 6), gp_l v5, gp_l v7, gp_i v3, gp_i v4] s (fun r s1 => ∃ x2, r = some (gp_i x2) ∧ ((x2 < 0 → (∀ s5, s5 = gp_wI s1 46 8 4 → K (some (gp_r (some 25))) s5)) ∧ (¬ x2 < 0 → gs_C L d 1032 8 [gp_r (some 6), gp_i x2] s1 (fun r s3 => ∃ o4, r = some (gp_r o4) ∧ K (some (gp_r o4)) s3))))))) : gs_E L (d + 1) 1294 31 [gp_r (some 46), gp_i v1, gp_i v2, gp_i v3, gp_i v4, gp_l v5, gp_n, gp_l v7, gp_n, gp_i v9, v10] [] s K := by
  refine gs_E.stp (pc' := 37) (ls' := [gp_r (some 46), gp_i v1, gp_i v2, gp_i v3, gp_i v4, gp_l v5, gp_n, gp_l v7, gp_n, gp_i v9, v10]) (st' := [gp_i (gp_I s 46 3), gp_i v9]) (s' := s) 3 rfl ?_
  refine gs_E.br (c := ¬ v9 < (gp_I s 46 3)) (p1 := 128) (p2 := 40) (l1 := [gp_r (some 46), gp_i v1, gp_i v2, gp_i v3, gp_i v4, gp_l v5, gp_n, gp_l v7, gp_n, gp_i v9, v10]) (l2 := [gp_r (some 46), gp_i v1, gp_i v2, gp_i v3, gp_i v4, gp_l v5, gp_n, gp_l v7, gp_n, gp_i v9, v10]) (s1 := []) (s2 := []) rfl gs_b2 (fun hc => ?_) (fun hc => ?_)
  · replace H := H.2 hc
    refine gs_E.stp (pc' := 139) (ls' := [gp_r (some 46), gp_i v1, gp_i v2, gp_i v3, gp_i v4, gp_l v5, gp_n, gp_l v7, gp_n, gp_i v9, v10]) (st' := [gp_i v4, gp_i v3, gp_l v7, gp_l v5, gp_r (some 6)]) (s' := s) 6 rfl ?_
    refine gs_E.call (args := [gp_r (some 6), gp_l v5, gp_l v7, gp_i v3, gp_i v4]) (m := 7) (y' := 1028) (st' := []) rfl H (fun r s1 H => ?_)
    obtain ⟨x2, rfl, H⟩ := H
    show gs_E L (d + 1) 1294 142 [gp_r (some 46), gp_i v1, gp_i v2, gp_i v3, gp_i v4, gp_l v5, gp_n, gp_l v7, gp_n, gp_i v9, v10] [gp_i x2] s1 K
    refine gs_E.stp (pc' := 146) (ls' := [gp_r (some 46), gp_i v1, gp_i v2, gp_i v3, gp_i v4, gp_l v5, gp_n, gp_l v7, gp_n, gp_i x2, v10]) (st' := [gp_i x2]) (s' := s1) 2 rfl ?_
    refine gs_E.br (c := ¬ x2 < 0) (p1 := 162) (p2 := 149) (l1 := [gp_r (some 46), gp_i v1, gp_i v2, gp_i v3, gp_i v4, gp_l v5, gp_n, gp_l v7, gp_n, gp_i x2, v10]) (l2 := [gp_r (some 46), gp_i v1, gp_i v2, gp_i v3, gp_i v4, gp_l v5, gp_n, gp_l v7, gp_n, gp_i x2, v10]) (s1 := []) (s2 := []) rfl gs_b2 (fun hc => ?_) (fun hc => ?_)
    · replace H := H.2 hc
      refine gs_E.stp (pc' := 168) (ls' := [gp_r (some 46), gp_i v1, gp_i v2, gp_i v3, gp_i v4, gp_l v5, gp_n, gp_l v7, gp_n, gp_i x2, v10]) (st' := [gp_i x2, gp_r (some 6)]) (s' := s1) 3 rfl ?_
      refine gs_E.call (args := [gp_r (some 6), gp_i x2]) (m := 8) (y' := 1032) (st' := []) rfl H (fun r s3 H => ?_)
      obtain ⟨o4, rfl, H⟩ := H
      show gs_E L (d + 1) 1294 171 [gp_r (some 46), gp_i v1, gp_i v2, gp_i v3, gp_i v4, gp_l v5, gp_n, gp_l v7, gp_n, gp_i x2, v10] [gp_r o4] s3 K
      exact gs_E.ret (r := (some (gp_r o4))) rfl H
    · replace H := H.1 (Decidable.byContradiction hc)
      refine gs_E.stp (pc' := 154) (ls' := [gp_r (some 46), gp_i v1, gp_i v2, gp_i v3, gp_i v4, gp_l v5, gp_n, gp_l v7, gp_n, gp_i x2, v10]) (st' := []) (s' := gp_wI s1 46 8 4) 3 rfl ?_
      replace H := H _ rfl
      generalize gp_wI s1 46 8 4 = s5 at H ⊢
      refine gs_E.stp (pc' := 161) (ls' := [gp_r (some 46), gp_i v1, gp_i v2, gp_i v3, gp_i v4, gp_l v5, gp_n, gp_l v7, gp_n, gp_i x2, v10]) (st' := [gp_r (some 25)]) (s' := s5) 3 rfl ?_
      exact gs_E.ret (r := (some (gp_r (some 25)))) rfl H
  · replace H := H.1 (Decidable.byContradiction hc)
    refine gs_E.stp (pc' := 50) (ls' := [gp_r (some 46), gp_i v1, gp_i v2, gp_i v3, gp_i v4, gp_l v5, gp_n, gp_l v7, gp_n, gp_i v9, v10]) (st' := [gp_i v9, gp_r (some 47), gp_r (some 6)]) (s' := s) 5 rfl ?_
    refine gs_E.ck (pc' := 51) (ls' := [gp_r (some 46), gp_i v1, gp_i v2, gp_i v3, gp_i v4, gp_l v5, gp_n, gp_l v7, gp_n, gp_i v9, v10]) (st' := [gp_r (gp_R (gp_mk L s) 47 v9.toNat), gp_r (some 6)]) (s' := s) rfl (Or.inl ⟨rfl, H.1.1, H.1.2⟩) ?_
    replace H := H.2
    refine gs_E.stp (pc' := 57) (ls' := [gp_r (some 46), gp_i v1, gp_i v2, gp_i v3, gp_i v4, gp_l v5, gp_n, gp_l v7, gp_n, gp_i v9, v10]) (st' := [gp_i v9, gp_r (some 47), gp_r (gp_R (gp_mk L s) 47 v9.toNat), gp_r (some 6)]) (s' := s) 3 rfl ?_
    refine gs_E.ck (pc' := 58) (ls' := [gp_r (some 46), gp_i v1, gp_i v2, gp_i v3, gp_i v4, gp_l v5, gp_n, gp_l v7, gp_n, gp_i v9, v10]) (st' := [gp_r (gp_R (gp_mk L s) 47 v9.toNat), gp_r (gp_R (gp_mk L s) 47 v9.toNat), gp_r (some 6)]) (s' := s) rfl (Or.inl ⟨rfl, H.1.1, H.1.2⟩) ?_
    replace H := H.2
    obtain ⟨q6, hq, H⟩ := H
    rw [hq]
    refine gs_E.callV (args := [gp_r (some q6)]) (m := 1) (y' := 2306) (st' := [gp_r (some q6), gp_r (some 6)]) rfl H.1 H.2 (fun r s7 H => ?_)
    obtain ⟨x8, rfl, H⟩ := H
    show gs_E L (d + 1) 1294 61 [gp_r (some 46), gp_i v1, gp_i v2, gp_i v3, gp_i v4, gp_l v5, gp_n, gp_l v7, gp_n, gp_i v9, v10] [gp_i x8, gp_r (some q6), gp_r (some 6)] s7 K
    refine gs_E.call (args := [gp_r (some 6), gp_r (some q6), gp_i x8]) (m := 6) (y' := 1031) (st' := []) rfl H (fun r s9 H => ?_)
    obtain ⟨x10, rfl, H⟩ := H
    show gs_E L (d + 1) 1294 64 [gp_r (some 46), gp_i v1, gp_i v2, gp_i v3, gp_i v4, gp_l v5, gp_n, gp_l v7, gp_n, gp_i v9, v10] [gp_i x10] s9 K
    refine gs_E.stp (pc' := 68) (ls' := [gp_r (some 46), gp_i v1, gp_i v2, gp_i v3, gp_i v4, gp_l v5, gp_n, gp_l v7, gp_n, gp_i v9, gp_i x10]) (st' := [gp_i x10]) (s' := s9) 2 rfl ?_
    refine gs_E.br (c := ¬ x10 < 0) (p1 := 84) (p2 := 71) (l1 := [gp_r (some 46), gp_i v1, gp_i v2, gp_i v3, gp_i v4, gp_l v5, gp_n, gp_l v7, gp_n, gp_i v9, gp_i x10]) (l2 := [gp_r (some 46), gp_i v1, gp_i v2, gp_i v3, gp_i v4, gp_l v5, gp_n, gp_l v7, gp_n, gp_i v9, gp_i x10]) (s1 := []) (s2 := []) rfl gs_b2 (fun hc => ?_) (fun hc => ?_)
    · replace H := H.2 hc
      refine gs_E.stp (pc' := 89) (ls' := [gp_r (some 46), gp_i v1, gp_i v2, gp_i v3, gp_i v4, gp_l v5, gp_n, gp_l v7, gp_n, gp_i v9, gp_i x10]) (st' := [gp_i v2, gp_i v9, gp_l v5]) (s' := s9) 3 rfl ?_
      refine gs_E.br (c := ¬ v9 < v2) (p1 := 99) (p2 := 92) (l1 := [gp_r (some 46), gp_i v1, gp_i v2, gp_i v3, gp_i v4, gp_l v5, gp_n, gp_l v7, gp_n, gp_i v9, gp_i x10]) (l2 := [gp_r (some 46), gp_i v1, gp_i v2, gp_i v3, gp_i v4, gp_l v5, gp_n, gp_l v7, gp_n, gp_i v9, gp_i x10]) (s1 := [gp_l v5]) (s2 := [gp_l v5]) rfl gs_b2 (fun hc => ?_) (fun hc => ?_)
      · replace H := H.2 hc
        refine gs_E.stp (pc' := 100) (ls' := [gp_r (some 46), gp_i v1, gp_i v2, gp_i v3, gp_i v4, gp_l v5, gp_n, gp_l v7, gp_n, gp_i v9, gp_i x10]) (st' := [gp_l (0#64), gp_l v5]) (s' := s9) 1 rfl ?_
        exact H
      · replace H := H.1 (Decidable.byContradiction hc)
        refine gs_E.stp (pc' := 100) (ls' := [gp_r (some 46), gp_i v1, gp_i v2, gp_i v3, gp_i v4, gp_l v5, gp_n, gp_l v7, gp_n, gp_i v9, gp_i x10]) (st' := [gp_l ((1#64) <<< (x10 % 64).toNat), gp_l v5]) (s' := s9) 4 rfl ?_
        exact H
    · replace H := H.1 (Decidable.byContradiction hc)
      refine gs_E.stp (pc' := 76) (ls' := [gp_r (some 46), gp_i v1, gp_i v2, gp_i v3, gp_i v4, gp_l v5, gp_n, gp_l v7, gp_n, gp_i v9, gp_i x10]) (st' := []) (s' := gp_wI s9 46 8 4) 3 rfl ?_
      replace H := H _ rfl
      generalize gp_wI s9 46 8 4 = s11 at H ⊢
      refine gs_E.stp (pc' := 83) (ls' := [gp_r (some 46), gp_i v1, gp_i v2, gp_i v3, gp_i v4, gp_l v5, gp_n, gp_l v7, gp_n, gp_i v9, gp_i x10]) (st' := [gp_r (some 25)]) (s' := s11) 3 rfl ?_
      exact gs_E.ret (r := (some (gp_r (some 25)))) rfl H

set_option maxRecDepth 100000 in
/-- Reader.framed, pc 100 -/
theorem s_1294_100 {L d : Nat} {K : Option gV → gH → Prop} {s : gH} (v1 : Int) (v2 : Int) (v3 : Int) (v4 : Int) (v5 : BitVec 64) (v7 : BitVec 64) (v9 : Int) (v10 : Int) (w0 : BitVec 64) (w1 : BitVec 64) (H : ((v9 < v2 → gs_E L (d + 1) 1294 119 [gp_r (some 46), gp_i v1, gp_i v2, gp_i v3, gp_i v4, gp_l (w0 ||| w1), gp_n, gp_l v7, gp_n, gp_i v9, gp_i v10] [gp_l (0#64), gp_l v7] s K) ∧ (¬ v9 < v2 → gs_E L (d + 1) 1294 119 [gp_r (some 46), gp_i v1, gp_i v2, gp_i v3, gp_i v4, gp_l (w0 ||| w1), gp_n, gp_l v7, gp_n, gp_i v9, gp_i v10] [gp_l ((1#64) <<< (v10 % 64).toNat), gp_l v7] s K))) : gs_E L (d + 1) 1294 100 [gp_r (some 46), gp_i v1, gp_i v2, gp_i v3, gp_i v4, gp_l v5, gp_n, gp_l v7, gp_n, gp_i v9, gp_i v10] [gp_l w1, gp_l w0] s K := by
  refine gs_E.stp (pc' := 108) (ls' := [gp_r (some 46), gp_i v1, gp_i v2, gp_i v3, gp_i v4, gp_l (w0 ||| w1), gp_n, gp_l v7, gp_n, gp_i v9, gp_i v10]) (st' := [gp_i v2, gp_i v9, gp_l v7]) (s' := s) 5 rfl ?_
  refine gs_E.br (c := ¬ v9 < v2) (p1 := 115) (p2 := 111) (l1 := [gp_r (some 46), gp_i v1, gp_i v2, gp_i v3, gp_i v4, gp_l (w0 ||| w1), gp_n, gp_l v7, gp_n, gp_i v9, gp_i v10]) (l2 := [gp_r (some 46), gp_i v1, gp_i v2, gp_i v3, gp_i v4, gp_l (w0 ||| w1), gp_n, gp_l v7, gp_n, gp_i v9, gp_i v10]) (s1 := [gp_l v7]) (s2 := [gp_l v7]) rfl gs_b2 (fun hc => ?_) (fun hc => ?_)
  · replace H := H.2 hc
    refine gs_E.stp (pc' := 119) (ls' := [gp_r (some 46), gp_i v1, gp_i v2, gp_i v3, gp_i v4, gp_l (w0 ||| w1), gp_n, gp_l v7, gp_n, gp_i v9, gp_i v10]) (st' := [gp_l ((1#64) <<< (v10 % 64).toNat), gp_l v7]) (s' := s) 3 rfl ?_
    exact H
  · replace H := H.1 (Decidable.byContradiction hc)
    refine gs_E.stp (pc' := 119) (ls' := [gp_r (some 46), gp_i v1, gp_i v2, gp_i v3, gp_i v4, gp_l (w0 ||| w1), gp_n, gp_l v7, gp_n, gp_i v9, gp_i v10]) (st' := [gp_l (0#64), gp_l v7]) (s' := s) 2 rfl ?_
    exact H

set_option maxRecDepth 100000 in
/-- Reader.framed, pc 119 -/
theorem s_1294_119 {L d : Nat} {K : Option gV → gH → Prop} {s : gH} (v1 : Int) (v2 : Int) (v3 : Int) (v4 : Int) (v5 : BitVec 64) (v7 : BitVec 64) (v9 : Int) (v10 : Int) (w0 : BitVec 64) (w1 : BitVec 64) (H : gs_E L (d + 1) 1294 31 [gp_r (some 46), gp_i v1, gp_i v2, gp_i v3, gp_i v4, gp_l v5, gp_n, gp_l (w0 ||| w1), gp_n, gp_i (gp_wr (v9 + 1)), gp_i v10] [] s K) : gs_E L (d + 1) 1294 119 [gp_r (some 46), gp_i v1, gp_i v2, gp_i v3, gp_i v4, gp_l v5, gp_n, gp_l v7, gp_n, gp_i v9, gp_i v10] [gp_l w1, gp_l w0] s K := by
  refine gs_E.stp (pc' := 31) (ls' := [gp_r (some 46), gp_i v1, gp_i v2, gp_i v3, gp_i v4, gp_l v5, gp_n, gp_l (w0 ||| w1), gp_n, gp_i (gp_wr (v9 + 1)), gp_i v10]) (st' := []) (s' := s) 4 rfl ?_
  exact H

set_option maxRecDepth 100000 in
/-- Reducer.reduced, pc 0 -/
theorem s_1537_e {L d : Nat} {K : Option gV → gH → Prop} {s : gH} (p0 : Option Nat) (H : gs_C L d 1025 1 [gp_r (some 6)] s (fun r s1 => r = none ∧ (∃ q2, p0 = some q2 ∧ ((gp_sh (gp_mk L s1) q2).1 = 9 ∧ ((gp_sh (gp_mk L s1) q2).1 = 9 ∧ gs_C L d 2306 1 [gp_r (some q2)] s1 (fun r s3 => ∃ x4, r = some (gp_i x4) ∧ (∃ q5, gp_R (gp_mk L s1) q2 5 = some q5 ∧ (gp_in (gp_mk L s3) 100 q5 x4 ∧ gs_E L (d + 1) 1537 21 [gp_r (some 41), gp_r (some q2), gp_i (gp_wr ((gp_I s3 q5 x4.toNat) + 1)), gp_i 0, gp_n, gp_n] [] s3 K)))))))) : gs_C L (d + 1) 1537 6 [gp_r (some 41), gp_r p0] s K := by
  show gs_E L (d + 1) 1537 0 [gp_r (some 41), gp_r p0, gp_n, gp_n, gp_n, gp_n] [] s K
  refine gs_E.stp (pc' := 4) (ls' := [gp_r (some 41), gp_r p0, gp_n, gp_n, gp_n, gp_n]) (st' := [gp_r (some 6)]) (s' := s) 2 rfl ?_
  refine gs_E.call (args := [gp_r (some 6)]) (m := 1) (y' := 1025) (st' := []) rfl H (fun r s1 H => ?_)
  obtain ⟨rfl, H⟩ := H
  show gs_E L (d + 1) 1537 7 [gp_r (some 41), gp_r p0, gp_n, gp_n, gp_n, gp_n] [] s1 K
  refine gs_E.stp (pc' := 8) (ls' := [gp_r (some 41), gp_r p0, gp_n, gp_n, gp_n, gp_n]) (st' := [gp_r p0]) (s' := s1) 1 rfl ?_
  obtain ⟨q2, hq, H⟩ := H
  rw [hq]
  refine gs_E.ck (pc' := 11) (ls' := [gp_r (some 41), gp_r (some q2), gp_n, gp_n, gp_n, gp_n]) (st' := [gp_r (gp_R (gp_mk L s1) q2 5)]) (s' := s1) rfl H.1 ?_
  replace H := H.2
  refine gs_E.stp (pc' := 12) (ls' := [gp_r (some 41), gp_r (some q2), gp_n, gp_n, gp_n, gp_n]) (st' := [gp_r (some q2), gp_r (gp_R (gp_mk L s1) q2 5)]) (s' := s1) 1 rfl ?_
  refine gs_E.callV (args := [gp_r (some q2)]) (m := 1) (y' := 2306) (st' := [gp_r (gp_R (gp_mk L s1) q2 5)]) rfl H.1 H.2 (fun r s3 H => ?_)
  obtain ⟨x4, rfl, H⟩ := H
  show gs_E L (d + 1) 1537 15 [gp_r (some 41), gp_r (some q2), gp_n, gp_n, gp_n, gp_n] [gp_i x4, gp_r (gp_R (gp_mk L s1) q2 5)] s3 K
  obtain ⟨q5, hq, H⟩ := H
  rw [hq]
  refine gs_E.ck (pc' := 16) (ls' := [gp_r (some 41), gp_r (some q2), gp_n, gp_n, gp_n, gp_n]) (st' := [gp_i (gp_I s3 q5 x4.toNat)]) (s' := s3) rfl (Or.inl H.1) ?_
  replace H := H.2
  refine gs_E.stp (pc' := 21) (ls' := [gp_r (some 41), gp_r (some q2), gp_i (gp_wr ((gp_I s3 q5 x4.toNat) + 1)), gp_i 0, gp_n, gp_n]) (st' := []) (s' := s3) 5 rfl ?_
  exact H

set_option maxRecDepth 100000 in
/-- Reducer.reduced, pc 21 -/
theorem s_1537_21 {L d : Nat} {K : Option gV → gH → Prop} {s : gH} (v1 : Option Nat) (v2 : Int) (v3 : Int) (v4 : gV) (v5 : gV) (H : (∃ q1, v1 = some q1 ∧ ((gp_sh (gp_mk L s) q1).1 = 9 ∧ ((v3 < (gp_I s q1 0) → ((gp_sh (gp_mk L s) q1).1 = 9 ∧ (∃ q6, gp_R (gp_mk L s) q1 1 = some q6 ∧ (gp_in (gp_mk L s) 101 q6 v3 ∧ gs_C L d 2863 7 [gp_l (gp_L s q6 v3.toNat), gp_r (some 45)] s (fun r s7 => ∃ m8, r = some (gp_l m8) ∧ (∀ s9, s9 = gp_wL s7 41 4 m8 → ((gp_sh (gp_mk L s9) q1).1 = 9 ∧ (∃ q10, gp_R (gp_mk L s9) q1 2 = some q10 ∧ (gp_in (gp_mk L s9) 101 q10 v3 ∧ gs_C L d 2863 7 [gp_l (gp_L s9 q10 v3.toNat), gp_r (some 45)] s9 (fun r s11 => ∃ m12, r = some (gp_l m12) ∧ (∀ s13, s13 = gp_wL s11 41 5 m12 → gs_E L (d + 1) 1537 69 [gp_r (some 41), gp_r (some q1), gp_i v2, gp_i v3, gp_i 1, gp_i 0] [] s13 K))))))))))) ∧ (¬ v3 < (gp_I s q1 0) → ((gp_sh (gp_mk L s) q1).1 = 9 ∧ gs_C L d 2306 1 [gp_r (some q1)] s (fun r s2 => ∃ x3, r = some (gp_i x3) ∧ ((0 ≤ x3 ∧ x3 < 60) ∧ gs_C L d 1032 8 [gp_r (some 6), gp_i (gp_I s2 45 x3.toNat)] s2 (fun r s4 => ∃ o5, r = some (gp_r o5) ∧ K (some (gp_r o5)) s4))))))))) : gs_E L (d + 1) 1537 21 [gp_r (some 41), gp_r v1, gp_i v2, gp_i v3, v4, v5] [] s K := by
  refine gs_E.stp (pc' := 23) (ls' := [gp_r (some 41), gp_r v1, gp_i v2, gp_i v3, v4, v5]) (st' := [gp_r v1, gp_i v3]) (s' := s) 2 rfl ?_
  obtain ⟨q1, hq, H⟩ := H
  rw [hq]
  refine gs_E.ck (pc' := 26) (ls' := [gp_r (some 41), gp_r (some q1), gp_i v2, gp_i v3, v4, v5]) (st' := [gp_i (gp_I s q1 0), gp_i v3]) (s' := s) rfl H.1 ?_
  replace H := H.2
  refine gs_E.br (c := ¬ v3 < (gp_I s q1 0)) (p1 := 241) (p2 := 29) (l1 := [gp_r (some 41), gp_r (some q1), gp_i v2, gp_i v3, v4, v5]) (l2 := [gp_r (some 41), gp_r (some q1), gp_i v2, gp_i v3, v4, v5]) (s1 := []) (s2 := []) rfl gs_b2 (fun hc => ?_) (fun hc => ?_)
  · replace H := H.2 hc
    refine gs_E.stp (pc' := 250) (ls' := [gp_r (some 41), gp_r (some q1), gp_i v2, gp_i v3, v4, v5]) (st' := [gp_r (some q1), gp_r (some 45), gp_r (some 6)]) (s' := s) 5 rfl ?_
    refine gs_E.callV (args := [gp_r (some q1)]) (m := 1) (y' := 2306) (st' := [gp_r (some 45), gp_r (some 6)]) rfl H.1 H.2 (fun r s2 H => ?_)
    obtain ⟨x3, rfl, H⟩ := H
    show gs_E L (d + 1) 1537 253 [gp_r (some 41), gp_r (some q1), gp_i v2, gp_i v3, v4, v5] [gp_i x3, gp_r (some 45), gp_r (some 6)] s2 K
    refine gs_E.ck (pc' := 254) (ls' := [gp_r (some 41), gp_r (some q1), gp_i v2, gp_i v3, v4, v5]) (st' := [gp_i (gp_I s2 45 x3.toNat), gp_r (some 6)]) (s' := s2) rfl (Or.inl ⟨rfl, H.1.1, H.1.2⟩) ?_
    replace H := H.2
    refine gs_E.call (args := [gp_r (some 6), gp_i (gp_I s2 45 x3.toNat)]) (m := 8) (y' := 1032) (st' := []) rfl H (fun r s4 H => ?_)
    obtain ⟨o5, rfl, H⟩ := H
    show gs_E L (d + 1) 1537 257 [gp_r (some 41), gp_r (some q1), gp_i v2, gp_i v3, v4, v5] [gp_r o5] s4 K
    exact gs_E.ret (r := (some (gp_r o5))) rfl H
  · replace H := H.1 (Decidable.byContradiction hc)
    refine gs_E.stp (pc' := 31) (ls' := [gp_r (some 41), gp_r (some q1), gp_i v2, gp_i v3, v4, v5]) (st' := [gp_r (some q1), gp_r (some 41)]) (s' := s) 2 rfl ?_
    refine gs_E.ck (pc' := 34) (ls' := [gp_r (some 41), gp_r (some q1), gp_i v2, gp_i v3, v4, v5]) (st' := [gp_r (gp_R (gp_mk L s) q1 1), gp_r (some 41)]) (s' := s) rfl H.1 ?_
    replace H := H.2
    refine gs_E.stp (pc' := 35) (ls' := [gp_r (some 41), gp_r (some q1), gp_i v2, gp_i v3, v4, v5]) (st' := [gp_i v3, gp_r (gp_R (gp_mk L s) q1 1), gp_r (some 41)]) (s' := s) 1 rfl ?_
    obtain ⟨q6, hq, H⟩ := H
    rw [hq]
    refine gs_E.ck (pc' := 36) (ls' := [gp_r (some 41), gp_r (some q1), gp_i v2, gp_i v3, v4, v5]) (st' := [gp_l (gp_L s q6 v3.toNat), gp_r (some 41)]) (s' := s) rfl H.1 ?_
    replace H := H.2
    refine gs_E.stp (pc' := 40) (ls' := [gp_r (some 41), gp_r (some q1), gp_i v2, gp_i v3, v4, v5]) (st' := [gp_r (some 45), gp_l (gp_L s q6 v3.toNat), gp_r (some 41)]) (s' := s) 2 rfl ?_
    refine gs_E.call (args := [gp_l (gp_L s q6 v3.toNat), gp_r (some 45)]) (m := 7) (y' := 2863) (st' := [gp_r (some 41)]) rfl H (fun r s7 H => ?_)
    obtain ⟨m8, rfl, H⟩ := H
    show gs_E L (d + 1) 1537 43 [gp_r (some 41), gp_r (some q1), gp_i v2, gp_i v3, v4, v5] [gp_l m8, gp_r (some 41)] s7 K
    refine gs_E.stp (pc' := 46) (ls' := [gp_r (some 41), gp_r (some q1), gp_i v2, gp_i v3, v4, v5]) (st' := []) (s' := gp_wL s7 41 4 m8) 1 rfl ?_
    replace H := H _ rfl
    generalize gp_wL s7 41 4 m8 = s9 at H ⊢
    refine gs_E.stp (pc' := 48) (ls' := [gp_r (some 41), gp_r (some q1), gp_i v2, gp_i v3, v4, v5]) (st' := [gp_r (some q1), gp_r (some 41)]) (s' := s9) 2 rfl ?_
    refine gs_E.ck (pc' := 51) (ls' := [gp_r (some 41), gp_r (some q1), gp_i v2, gp_i v3, v4, v5]) (st' := [gp_r (gp_R (gp_mk L s9) q1 2), gp_r (some 41)]) (s' := s9) rfl H.1 ?_
    replace H := H.2
    refine gs_E.stp (pc' := 52) (ls' := [gp_r (some 41), gp_r (some q1), gp_i v2, gp_i v3, v4, v5]) (st' := [gp_i v3, gp_r (gp_R (gp_mk L s9) q1 2), gp_r (some 41)]) (s' := s9) 1 rfl ?_
    obtain ⟨q10, hq, H⟩ := H
    rw [hq]
    refine gs_E.ck (pc' := 53) (ls' := [gp_r (some 41), gp_r (some q1), gp_i v2, gp_i v3, v4, v5]) (st' := [gp_l (gp_L s9 q10 v3.toNat), gp_r (some 41)]) (s' := s9) rfl H.1 ?_
    replace H := H.2
    refine gs_E.stp (pc' := 57) (ls' := [gp_r (some 41), gp_r (some q1), gp_i v2, gp_i v3, v4, v5]) (st' := [gp_r (some 45), gp_l (gp_L s9 q10 v3.toNat), gp_r (some 41)]) (s' := s9) 2 rfl ?_
    refine gs_E.call (args := [gp_l (gp_L s9 q10 v3.toNat), gp_r (some 45)]) (m := 7) (y' := 2863) (st' := [gp_r (some 41)]) rfl H (fun r s11 H => ?_)
    obtain ⟨m12, rfl, H⟩ := H
    show gs_E L (d + 1) 1537 60 [gp_r (some 41), gp_r (some q1), gp_i v2, gp_i v3, v4, v5] [gp_l m12, gp_r (some 41)] s11 K
    refine gs_E.stp (pc' := 63) (ls' := [gp_r (some 41), gp_r (some q1), gp_i v2, gp_i v3, v4, v5]) (st' := []) (s' := gp_wL s11 41 5 m12) 1 rfl ?_
    replace H := H _ rfl
    generalize gp_wL s11 41 5 m12 = s13 at H ⊢
    refine gs_E.stp (pc' := 69) (ls' := [gp_r (some 41), gp_r (some q1), gp_i v2, gp_i v3, gp_i 1, gp_i 0]) (st' := []) (s' := s13) 4 rfl ?_
    exact H

set_option maxRecDepth 100000 in
/-- Reducer.reduced, pc 69 -/
theorem s_1537_69 {L d : Nat} {K : Option gV → gH → Prop} {s : gH} (v1 : Option Nat) (v2 : Int) (v3 : Int) (v4 : Int) (v5 : Int) (H : ((v5 < 1000000 → ((v4 = 0 → gs_E L (d + 1) 1537 192 [gp_r (some 41), gp_r v1, gp_i v2, gp_i v3, gp_i v4, gp_i v5] [] s K) ∧ (¬ v4 = 0 → (∃ q1, v1 = some q1 ∧ ((gp_sh (gp_mk L s) q1).1 = 9 ∧ (∃ q2, gp_R (gp_mk L s) q1 3 = some q2 ∧ (gp_in (gp_mk L s) 100 q2 v3 ∧ ((gp_sh (gp_mk L s) q1).1 = 9 ∧ (∃ q3, gp_R (gp_mk L s) q1 4 = some q3 ∧ (gp_in (gp_mk L s) 100 q3 v3 ∧ gs_C L d 1026 10 [gp_r (some 6), gp_l (gp_L s 41 4), gp_l (gp_L s 41 5), gp_i (gp_I s q2 v3.toNat), gp_i (gp_I s q3 v3.toNat)] s (fun r s4 => r = none ∧ gs_C L d 771 6 [gp_r (some 31), gp_r (some 7), gp_i (gp_I s4 6 4), gp_i v2] s4 (fun r s5 => r = none ∧ gs_C L d 2 6 [gp_r (some 42), gp_r (some 7), gp_i (gp_I s5 6 4)] s5 (fun r s6 => r = none ∧ gs_C L d 1538 8 [gp_r (some 41)] s6 (fun r s7 => ∃ x8, r = some (gp_i x8) ∧ ((x8 = 0 → gs_C L d 1539 8 [gp_r (some 41)] s7 (fun r s9 => ∃ x10, r = some (gp_i x10) ∧ ((x10 = 0 → gs_C L d 1541 2 [gp_r (some 41)] s9 (fun r s11 => ∃ x12, r = some (gp_i x12) ∧ ((x12 = 0 → gs_C L d 1542 2 [gp_r (some 41)] s11 (fun r s13 => ∃ x14, r = some (gp_i x14) ∧ ((x14 = 0 → gs_E L (d + 1) 1537 184 [gp_r (some 41), gp_r (some q1), gp_i v2, gp_i v3, gp_i v4, gp_i v5] [gp_i 0] s13 K) ∧ (¬ x14 = 0 → gs_E L (d + 1) 1537 179 [gp_r (some 41), gp_r (some q1), gp_i v2, gp_i v3, gp_i v4, gp_i v5] [] s13 K)))) ∧ (¬ x12 = 0 → gs_E L (d + 1) 1537 179 [gp_r (some 41), gp_r (some q1), gp_i v2, gp_i v3, gp_i v4, gp_i v5] [] s11 K)))) ∧ (¬ x10 = 0 → gs_E L (d + 1) 1537 179 [gp_r (some 41), gp_r (some q1), gp_i v2, gp_i v3, gp_i v4, gp_i v5] [] s9 K)))) ∧ (¬ x8 = 0 → gs_E L (d + 1) 1537 179 [gp_r (some 41), gp_r (some q1), gp_i v2, gp_i v3, gp_i v4, gp_i v5] [] s7 K)))))))))))))))) ∧ (¬ v5 < 1000000 → gs_E L (d + 1) 1537 192 [gp_r (some 41), gp_r v1, gp_i v2, gp_i v3, gp_i v4, gp_i v5] [] s K))) : gs_E L (d + 1) 1537 69 [gp_r (some 41), gp_r v1, gp_i v2, gp_i v3, gp_i v4, gp_i v5] [] s K := by
  refine gs_E.stp (pc' := 73) (ls' := [gp_r (some 41), gp_r v1, gp_i v2, gp_i v3, gp_i v4, gp_i v5]) (st' := [gp_i 1000000, gp_i v5]) (s' := s) 2 rfl ?_
  refine gs_E.br (c := ¬ v5 < 1000000) (p1 := 192) (p2 := 76) (l1 := [gp_r (some 41), gp_r v1, gp_i v2, gp_i v3, gp_i v4, gp_i v5]) (l2 := [gp_r (some 41), gp_r v1, gp_i v2, gp_i v3, gp_i v4, gp_i v5]) (s1 := []) (s2 := []) rfl gs_b2 (fun hc => ?_) (fun hc => ?_)
  · replace H := H.2 hc
    exact H
  · replace H := H.1 (Decidable.byContradiction hc)
    refine gs_E.stp (pc' := 78) (ls' := [gp_r (some 41), gp_r v1, gp_i v2, gp_i v3, gp_i v4, gp_i v5]) (st' := [gp_i v4]) (s' := s) 1 rfl ?_
    refine gs_E.br (c := v4 = 0) (p1 := 192) (p2 := 81) (l1 := [gp_r (some 41), gp_r v1, gp_i v2, gp_i v3, gp_i v4, gp_i v5]) (l2 := [gp_r (some 41), gp_r v1, gp_i v2, gp_i v3, gp_i v4, gp_i v5]) (s1 := []) (s2 := []) rfl gs_b1 (fun hc => ?_) (fun hc => ?_)
    · replace H := H.1 hc
      exact H
    · replace H := H.2 hc
      refine gs_E.stp (pc' := 94) (ls' := [gp_r (some 41), gp_r v1, gp_i v2, gp_i v3, gp_i v4, gp_i v5]) (st' := [gp_r v1, gp_l (gp_L s 41 5), gp_l (gp_L s 41 4), gp_r (some 6)]) (s' := s) 7 rfl ?_
      obtain ⟨q1, hq, H⟩ := H
      rw [hq]
      refine gs_E.ck (pc' := 97) (ls' := [gp_r (some 41), gp_r (some q1), gp_i v2, gp_i v3, gp_i v4, gp_i v5]) (st' := [gp_r (gp_R (gp_mk L s) q1 3), gp_l (gp_L s 41 5), gp_l (gp_L s 41 4), gp_r (some 6)]) (s' := s) rfl H.1 ?_
      replace H := H.2
      refine gs_E.stp (pc' := 98) (ls' := [gp_r (some 41), gp_r (some q1), gp_i v2, gp_i v3, gp_i v4, gp_i v5]) (st' := [gp_i v3, gp_r (gp_R (gp_mk L s) q1 3), gp_l (gp_L s 41 5), gp_l (gp_L s 41 4), gp_r (some 6)]) (s' := s) 1 rfl ?_
      obtain ⟨q2, hq, H⟩ := H
      rw [hq]
      refine gs_E.ck (pc' := 99) (ls' := [gp_r (some 41), gp_r (some q1), gp_i v2, gp_i v3, gp_i v4, gp_i v5]) (st' := [gp_i (gp_I s q2 v3.toNat), gp_l (gp_L s 41 5), gp_l (gp_L s 41 4), gp_r (some 6)]) (s' := s) rfl (Or.inl H.1) ?_
      replace H := H.2
      refine gs_E.stp (pc' := 100) (ls' := [gp_r (some 41), gp_r (some q1), gp_i v2, gp_i v3, gp_i v4, gp_i v5]) (st' := [gp_r (some q1), gp_i (gp_I s q2 v3.toNat), gp_l (gp_L s 41 5), gp_l (gp_L s 41 4), gp_r (some 6)]) (s' := s) 1 rfl ?_
      refine gs_E.ck (pc' := 103) (ls' := [gp_r (some 41), gp_r (some q1), gp_i v2, gp_i v3, gp_i v4, gp_i v5]) (st' := [gp_r (gp_R (gp_mk L s) q1 4), gp_i (gp_I s q2 v3.toNat), gp_l (gp_L s 41 5), gp_l (gp_L s 41 4), gp_r (some 6)]) (s' := s) rfl H.1 ?_
      replace H := H.2
      refine gs_E.stp (pc' := 104) (ls' := [gp_r (some 41), gp_r (some q1), gp_i v2, gp_i v3, gp_i v4, gp_i v5]) (st' := [gp_i v3, gp_r (gp_R (gp_mk L s) q1 4), gp_i (gp_I s q2 v3.toNat), gp_l (gp_L s 41 5), gp_l (gp_L s 41 4), gp_r (some 6)]) (s' := s) 1 rfl ?_
      obtain ⟨q3, hq, H⟩ := H
      rw [hq]
      refine gs_E.ck (pc' := 105) (ls' := [gp_r (some 41), gp_r (some q1), gp_i v2, gp_i v3, gp_i v4, gp_i v5]) (st' := [gp_i (gp_I s q3 v3.toNat), gp_i (gp_I s q2 v3.toNat), gp_l (gp_L s 41 5), gp_l (gp_L s 41 4), gp_r (some 6)]) (s' := s) rfl (Or.inl H.1) ?_
      replace H := H.2
      refine gs_E.call (args := [gp_r (some 6), gp_l (gp_L s 41 4), gp_l (gp_L s 41 5), gp_i (gp_I s q2 v3.toNat), gp_i (gp_I s q3 v3.toNat)]) (m := 10) (y' := 1026) (st' := []) rfl H (fun r s4 H => ?_)
      obtain ⟨rfl, H⟩ := H
      show gs_E L (d + 1) 1537 108 [gp_r (some 41), gp_r (some q1), gp_i v2, gp_i v3, gp_i v4, gp_i v5] [] s4 K
      refine gs_E.stp (pc' := 127) (ls' := [gp_r (some 41), gp_r (some q1), gp_i v2, gp_i v3, gp_i v4, gp_i v5]) (st' := [gp_i v2, gp_i (gp_I s4 6 4), gp_r (some 7), gp_r (some 31)]) (s' := s4) 9 rfl ?_
      refine gs_E.call (args := [gp_r (some 31), gp_r (some 7), gp_i (gp_I s4 6 4), gp_i v2]) (m := 6) (y' := 771) (st' := []) rfl H (fun r s5 H => ?_)
      obtain ⟨rfl, H⟩ := H
      show gs_E L (d + 1) 1537 130 [gp_r (some 41), gp_r (some q1), gp_i v2, gp_i v3, gp_i v4, gp_i v5] [] s5 K
      refine gs_E.stp (pc' := 148) (ls' := [gp_r (some 41), gp_r (some q1), gp_i v2, gp_i v3, gp_i v4, gp_i v5]) (st' := [gp_i (gp_I s5 6 4), gp_r (some 7), gp_r (some 42)]) (s' := s5) 8 rfl ?_
      refine gs_E.call (args := [gp_r (some 42), gp_r (some 7), gp_i (gp_I s5 6 4)]) (m := 6) (y' := 2) (st' := []) rfl H (fun r s6 H => ?_)
      obtain ⟨rfl, H⟩ := H
      show gs_E L (d + 1) 1537 151 [gp_r (some 41), gp_r (some q1), gp_i v2, gp_i v3, gp_i v4, gp_i v5] [] s6 K
      refine gs_E.stp (pc' := 152) (ls' := [gp_r (some 41), gp_r (some q1), gp_i v2, gp_i v3, gp_i v4, gp_i v5]) (st' := [gp_r (some 41)]) (s' := s6) 1 rfl ?_
      refine gs_E.call (args := [gp_r (some 41)]) (m := 8) (y' := 1538) (st' := []) rfl H (fun r s7 H => ?_)
      obtain ⟨x8, rfl, H⟩ := H
      show gs_E L (d + 1) 1537 155 [gp_r (some 41), gp_r (some q1), gp_i v2, gp_i v3, gp_i v4, gp_i v5] [gp_i x8] s7 K
      refine gs_E.br (c := ¬ x8 = 0) (p1 := 179) (p2 := 158) (l1 := [gp_r (some 41), gp_r (some q1), gp_i v2, gp_i v3, gp_i v4, gp_i v5]) (l2 := [gp_r (some 41), gp_r (some q1), gp_i v2, gp_i v3, gp_i v4, gp_i v5]) (s1 := []) (s2 := []) rfl gs_b2 (fun hc => ?_) (fun hc => ?_)
      · replace H := H.2 hc
        exact H
      · replace H := H.1 (Decidable.byContradiction hc)
        refine gs_E.stp (pc' := 159) (ls' := [gp_r (some 41), gp_r (some q1), gp_i v2, gp_i v3, gp_i v4, gp_i v5]) (st' := [gp_r (some 41)]) (s' := s7) 1 rfl ?_
        refine gs_E.call (args := [gp_r (some 41)]) (m := 8) (y' := 1539) (st' := []) rfl H (fun r s9 H => ?_)
        obtain ⟨x10, rfl, H⟩ := H
        show gs_E L (d + 1) 1537 162 [gp_r (some 41), gp_r (some q1), gp_i v2, gp_i v3, gp_i v4, gp_i v5] [gp_i x10] s9 K
        refine gs_E.br (c := ¬ x10 = 0) (p1 := 179) (p2 := 165) (l1 := [gp_r (some 41), gp_r (some q1), gp_i v2, gp_i v3, gp_i v4, gp_i v5]) (l2 := [gp_r (some 41), gp_r (some q1), gp_i v2, gp_i v3, gp_i v4, gp_i v5]) (s1 := []) (s2 := []) rfl gs_b2 (fun hc => ?_) (fun hc => ?_)
        · replace H := H.2 hc
          exact H
        · replace H := H.1 (Decidable.byContradiction hc)
          refine gs_E.stp (pc' := 166) (ls' := [gp_r (some 41), gp_r (some q1), gp_i v2, gp_i v3, gp_i v4, gp_i v5]) (st' := [gp_r (some 41)]) (s' := s9) 1 rfl ?_
          refine gs_E.call (args := [gp_r (some 41)]) (m := 2) (y' := 1541) (st' := []) rfl H (fun r s11 H => ?_)
          obtain ⟨x12, rfl, H⟩ := H
          show gs_E L (d + 1) 1537 169 [gp_r (some 41), gp_r (some q1), gp_i v2, gp_i v3, gp_i v4, gp_i v5] [gp_i x12] s11 K
          refine gs_E.br (c := ¬ x12 = 0) (p1 := 179) (p2 := 172) (l1 := [gp_r (some 41), gp_r (some q1), gp_i v2, gp_i v3, gp_i v4, gp_i v5]) (l2 := [gp_r (some 41), gp_r (some q1), gp_i v2, gp_i v3, gp_i v4, gp_i v5]) (s1 := []) (s2 := []) rfl gs_b2 (fun hc => ?_) (fun hc => ?_)
          · replace H := H.2 hc
            exact H
          · replace H := H.1 (Decidable.byContradiction hc)
            refine gs_E.stp (pc' := 173) (ls' := [gp_r (some 41), gp_r (some q1), gp_i v2, gp_i v3, gp_i v4, gp_i v5]) (st' := [gp_r (some 41)]) (s' := s11) 1 rfl ?_
            refine gs_E.call (args := [gp_r (some 41)]) (m := 2) (y' := 1542) (st' := []) rfl H (fun r s13 H => ?_)
            obtain ⟨x14, rfl, H⟩ := H
            show gs_E L (d + 1) 1537 176 [gp_r (some 41), gp_r (some q1), gp_i v2, gp_i v3, gp_i v4, gp_i v5] [gp_i x14] s13 K
            refine gs_E.br (c := x14 = 0) (p1 := 183) (p2 := 179) (l1 := [gp_r (some 41), gp_r (some q1), gp_i v2, gp_i v3, gp_i v4, gp_i v5]) (l2 := [gp_r (some 41), gp_r (some q1), gp_i v2, gp_i v3, gp_i v4, gp_i v5]) (s1 := []) (s2 := []) rfl gs_b1 (fun hc => ?_) (fun hc => ?_)
            · replace H := H.1 hc
              refine gs_E.stp (pc' := 184) (ls' := [gp_r (some 41), gp_r (some q1), gp_i v2, gp_i v3, gp_i v4, gp_i v5]) (st' := [gp_i 0]) (s' := s13) 1 rfl ?_
              exact H
            · replace H := H.2 hc
              exact H

set_option maxRecDepth 100000 in
/-- Reducer.reduced, pc 179 -/
theorem s_1537_179 {L d : Nat} {K : Option gV → gH → Prop} {s : gH} (v1 : Option Nat) (v2 : Int) (v3 : Int) (v4 : Int) (v5 : Int) (H : gs_E L (d + 1) 1537 184 [gp_r (some 41), gp_r v1, gp_i v2, gp_i v3, gp_i v4, gp_i v5] [gp_i 1] s K) : gs_E L (d + 1) 1537 179 [gp_r (some 41), gp_r v1, gp_i v2, gp_i v3, gp_i v4, gp_i v5] [] s K := by
  refine gs_E.stp (pc' := 184) (ls' := [gp_r (some 41), gp_r v1, gp_i v2, gp_i v3, gp_i v4, gp_i v5]) (st' := [gp_i 1]) (s' := s) 2 rfl ?_
  exact H

set_option maxRecDepth 100000 in
/-- Reducer.reduced, pc 184 -/
theorem s_1537_184 {L d : Nat} {K : Option gV → gH → Prop} {s : gH} (v1 : Option Nat) (v2 : Int) (v3 : Int) (v4 : Int) (v5 : Int) (w0 : Int) (H : gs_E L (d + 1) 1537 69 [gp_r (some 41), gp_r v1, gp_i v2, gp_i v3, gp_i w0, gp_i (gp_wr (v5 + 1))] [] s K) : gs_E L (d + 1) 1537 184 [gp_r (some 41), gp_r v1, gp_i v2, gp_i v3, gp_i v4, gp_i v5] [gp_i w0] s K := by
  refine gs_E.stp (pc' := 69) (ls' := [gp_r (some 41), gp_r v1, gp_i v2, gp_i v3, gp_i w0, gp_i (gp_wr (v5 + 1))]) (st' := []) (s' := s) 3 rfl ?_
  exact H

set_option maxRecDepth 100000 in
/-- Reducer.reduced, pc 192 -/
theorem s_1537_192 {L d : Nat} {K : Option gV → gH → Prop} {s : gH} (v1 : Option Nat) (v2 : Int) (v3 : Int) (v4 : Int) (v5 : Int) (H : gs_C L d 1027 6 [gp_r (some 6)] s (fun r s1 => ∃ x2, r = some (gp_i x2) ∧ ((0 ≤ v3 ∧ v3 < 60) ∧ (∀ s3, s3 = gp_wI s1 45 v3.toNat x2 → ((0 ≤ v3 ∧ v3 < 60) ∧ (((gp_I s3 45 v3.toNat) < 0 → K (some (gp_r v1)) s3) ∧ (¬ (gp_I s3 45 v3.toNat) < 0 → ((0 ≤ v3 ∧ v3 < 60) ∧ ((0 ≤ v3 ∧ v3 < 60) ∧ gs_C L d 3 3 [gp_r (some 42), gp_i (gp_I s3 45 v3.toNat), gp_i (gp_I s3 45 v3.toNat)] s3 (fun r s4 => r = none ∧ gs_E L (d + 1) 1537 21 [gp_r (some 41), gp_r v1, gp_i v2, gp_i (gp_wr (v3 + 1)), gp_i v4, gp_i v5] [] s4 K)))))))))) : gs_E L (d + 1) 1537 192 [gp_r (some 41), gp_r v1, gp_i v2, gp_i v3, gp_i v4, gp_i v5] [] s K := by
  refine gs_E.stp (pc' := 201) (ls' := [gp_r (some 41), gp_r v1, gp_i v2, gp_i v3, gp_i v4, gp_i v5]) (st' := [gp_r (some 6), gp_i v3, gp_r (some 45)]) (s' := s) 5 rfl ?_
  refine gs_E.call (args := [gp_r (some 6)]) (m := 6) (y' := 1027) (st' := [gp_i v3, gp_r (some 45)]) rfl H (fun r s1 H => ?_)
  obtain ⟨x2, rfl, H⟩ := H
  show gs_E L (d + 1) 1537 204 [gp_r (some 41), gp_r v1, gp_i v2, gp_i v3, gp_i v4, gp_i v5] [gp_i x2, gp_i v3, gp_r (some 45)] s1 K
  refine gs_E.ck (pc' := 205) (ls' := [gp_r (some 41), gp_r v1, gp_i v2, gp_i v3, gp_i v4, gp_i v5]) (st' := []) (s' := gp_wI s1 45 v3.toNat x2) rfl ⟨rfl, H.1.1, H.1.2⟩ ?_
  replace H := H.2 _ rfl
  generalize gp_wI s1 45 v3.toNat x2 = s3 at H ⊢
  refine gs_E.stp (pc' := 210) (ls' := [gp_r (some 41), gp_r v1, gp_i v2, gp_i v3, gp_i v4, gp_i v5]) (st' := [gp_i v3, gp_r (some 45)]) (s' := s3) 3 rfl ?_
  refine gs_E.ck (pc' := 211) (ls' := [gp_r (some 41), gp_r v1, gp_i v2, gp_i v3, gp_i v4, gp_i v5]) (st' := [gp_i (gp_I s3 45 v3.toNat)]) (s' := s3) rfl (Or.inl ⟨rfl, H.1.1, H.1.2⟩) ?_
  replace H := H.2
  refine gs_E.br (c := ¬ (gp_I s3 45 v3.toNat) < 0) (p1 := 216) (p2 := 214) (l1 := [gp_r (some 41), gp_r v1, gp_i v2, gp_i v3, gp_i v4, gp_i v5]) (l2 := [gp_r (some 41), gp_r v1, gp_i v2, gp_i v3, gp_i v4, gp_i v5]) (s1 := []) (s2 := []) rfl gs_b2 (fun hc => ?_) (fun hc => ?_)
  · replace H := H.2 hc
    refine gs_E.stp (pc' := 225) (ls' := [gp_r (some 41), gp_r v1, gp_i v2, gp_i v3, gp_i v4, gp_i v5]) (st' := [gp_i v3, gp_r (some 45), gp_r (some 42)]) (s' := s3) 5 rfl ?_
    refine gs_E.ck (pc' := 226) (ls' := [gp_r (some 41), gp_r v1, gp_i v2, gp_i v3, gp_i v4, gp_i v5]) (st' := [gp_i (gp_I s3 45 v3.toNat), gp_r (some 42)]) (s' := s3) rfl (Or.inl ⟨rfl, H.1.1, H.1.2⟩) ?_
    replace H := H.2
    refine gs_E.stp (pc' := 231) (ls' := [gp_r (some 41), gp_r v1, gp_i v2, gp_i v3, gp_i v4, gp_i v5]) (st' := [gp_i v3, gp_r (some 45), gp_i (gp_I s3 45 v3.toNat), gp_r (some 42)]) (s' := s3) 3 rfl ?_
    refine gs_E.ck (pc' := 232) (ls' := [gp_r (some 41), gp_r v1, gp_i v2, gp_i v3, gp_i v4, gp_i v5]) (st' := [gp_i (gp_I s3 45 v3.toNat), gp_i (gp_I s3 45 v3.toNat), gp_r (some 42)]) (s' := s3) rfl (Or.inl ⟨rfl, H.1.1, H.1.2⟩) ?_
    replace H := H.2
    refine gs_E.call (args := [gp_r (some 42), gp_i (gp_I s3 45 v3.toNat), gp_i (gp_I s3 45 v3.toNat)]) (m := 3) (y' := 3) (st' := []) rfl H (fun r s4 H => ?_)
    obtain ⟨rfl, H⟩ := H
    show gs_E L (d + 1) 1537 235 [gp_r (some 41), gp_r v1, gp_i v2, gp_i v3, gp_i v4, gp_i v5] [] s4 K
    refine gs_E.stp (pc' := 21) (ls' := [gp_r (some 41), gp_r v1, gp_i v2, gp_i (gp_wr (v3 + 1)), gp_i v4, gp_i v5]) (st' := []) (s' := s4) 2 rfl ?_
    exact H
  · replace H := H.1 (Decidable.byContradiction hc)
    refine gs_E.stp (pc' := 215) (ls' := [gp_r (some 41), gp_r v1, gp_i v2, gp_i v3, gp_i v4, gp_i v5]) (st' := [gp_r v1]) (s' := s3) 1 rfl ?_
    exact gs_E.ret (r := (some (gp_r v1))) rfl H

set_option maxRecDepth 100000 in
/-- Reducer.leftTurned, pc 0 -/
theorem s_1538_e {L d : Nat} {K : Option gV → gH → Prop} {s : gH}  (H : gs_C L d 3585 2 [gp_l (gp_L s 41 4)] s (fun r s1 => ∃ x2, r = some (gp_i x2) ∧ gs_E L (d + 1) 1538 22 [gp_r (some 41), gp_r (some 7), gp_l (gp_L s 41 4), gp_n, gp_i x2, gp_n, gp_n, gp_n] [] s1 K)) : gs_C L (d + 1) 1538 8 [gp_r (some 41)] s K := by
  show gs_E L (d + 1) 1538 0 [gp_r (some 41), gp_n, gp_n, gp_n, gp_n, gp_n, gp_n, gp_n] [] s K
  refine gs_E.stp (pc' := 17) (ls' := [gp_r (some 41), gp_r (some 7), gp_l (gp_L s 41 4), gp_n, gp_n, gp_n, gp_n, gp_n]) (st' := [gp_l (gp_L s 41 4)]) (s' := s) 9 rfl ?_
  refine gs_E.call (args := [gp_l (gp_L s 41 4)]) (m := 2) (y' := 3585) (st' := []) rfl H (fun r s1 H => ?_)
  obtain ⟨x2, rfl, H⟩ := H
  show gs_E L (d + 1) 1538 20 [gp_r (some 41), gp_r (some 7), gp_l (gp_L s 41 4), gp_n, gp_n, gp_n, gp_n, gp_n] [gp_i x2] s1 K
  refine gs_E.stp (pc' := 22) (ls' := [gp_r (some 41), gp_r (some 7), gp_l (gp_L s 41 4), gp_n, gp_i x2, gp_n, gp_n, gp_n]) (st' := []) (s' := s1) 1 rfl ?_
  exact H

set_option maxRecDepth 100000 in
/-- Reducer.leftTurned, pc 22 -/
theorem s_1538_22 {L d : Nat} {K : Option gV → gH → Prop} {s : gH} (v2 : BitVec 64) (v4 : Int) (v5 : gV) (v6 : gV) (v7 : gV) (H : ((0 < v4 → gs_C L d 1029 7 [gp_r (some 6), gp_l v2] s (fun r s1 => ∃ x2, r = some (gp_i x2) ∧ ((0 ≤ x2 ∧ x2 < 61) ∧ ((0 ≤ (gp_I s1 6 4) ∧ (gp_I s1 6 4) < 61) ∧ gs_C L d 1540 8 [gp_l ((gp_L s1 9 x2.toNat) &&& (gp_L s1 43 (gp_I s1 6 4).toNat)), gp_r (some 8)] s1 (fun r s3 => ∃ m4, r = some (gp_l m4) ∧ (((gp_cmp m4 (0#64)) = 0 → gs_E L (d + 1) 1538 22 [gp_r (some 41), gp_r (some 7), gp_l (v2 &&& (((1#64) <<< (x2 % 64).toNat) ^^^ (BitVec.ofInt 64 (-1)))), gp_n, gp_i (gp_wr (v4 + (-1))), gp_i x2, gp_l m4, gp_n] [] s3 K) ∧ (¬ (gp_cmp m4 (0#64)) = 0 → gs_C L d 1029 7 [gp_r (some 6), gp_l m4] s3 (fun r s5 => ∃ x6, r = some (gp_i x6) ∧ ((0 ≤ x6 ∧ x6 < 61) ∧ (∀ s7, s7 = gp_wL s5 41 4 (((gp_L s3 41 4) &&& (((1#64) <<< (x2 % 64).toNat) ^^^ (BitVec.ofInt 64 (-1)))) ||| (gp_L s5 8 x6.toNat)) → K (some (gp_i 1)) s7)))))))))) ∧ (¬ 0 < v4 → K (some (gp_i 0)) s))) : gs_E L (d + 1) 1538 22 [gp_r (some 41), gp_r (some 7), gp_l v2, gp_n, gp_i v4, v5, v6, v7] [] s K := by
  refine gs_E.stp (pc' := 24) (ls' := [gp_r (some 41), gp_r (some 7), gp_l v2, gp_n, gp_i v4, v5, v6, v7]) (st' := [gp_i v4]) (s' := s) 1 rfl ?_
  refine gs_E.br (c := ¬ 0 < v4) (p1 := 127) (p2 := 27) (l1 := [gp_r (some 41), gp_r (some 7), gp_l v2, gp_n, gp_i v4, v5, v6, v7]) (l2 := [gp_r (some 41), gp_r (some 7), gp_l v2, gp_n, gp_i v4, v5, v6, v7]) (s1 := []) (s2 := []) rfl gs_b2 (fun hc => ?_) (fun hc => ?_)
  · replace H := H.2 hc
    refine gs_E.stp (pc' := 128) (ls' := [gp_r (some 41), gp_r (some 7), gp_l v2, gp_n, gp_i v4, v5, v6, v7]) (st' := [gp_i 0]) (s' := s) 1 rfl ?_
    exact gs_E.ret (r := (some (gp_i 0))) rfl H
  · replace H := H.1 (Decidable.byContradiction hc)
    refine gs_E.stp (pc' := 32) (ls' := [gp_r (some 41), gp_r (some 7), gp_l v2, gp_n, gp_i v4, v5, v6, v7]) (st' := [gp_l v2, gp_r (some 6)]) (s' := s) 3 rfl ?_
    refine gs_E.call (args := [gp_r (some 6), gp_l v2]) (m := 7) (y' := 1029) (st' := []) rfl H (fun r s1 H => ?_)
    obtain ⟨x2, rfl, H⟩ := H
    show gs_E L (d + 1) 1538 35 [gp_r (some 41), gp_r (some 7), gp_l v2, gp_n, gp_i v4, v5, v6, v7] [gp_i x2] s1 K
    refine gs_E.stp (pc' := 54) (ls' := [gp_r (some 41), gp_r (some 7), gp_l (v2 &&& (((1#64) <<< (x2 % 64).toNat) ^^^ (BitVec.ofInt 64 (-1)))), gp_n, gp_i v4, gp_i x2, v6, v7]) (st' := [gp_i x2, gp_r (some 9)]) (s' := s1) 12 rfl ?_
    refine gs_E.ck (pc' := 55) (ls' := [gp_r (some 41), gp_r (some 7), gp_l (v2 &&& (((1#64) <<< (x2 % 64).toNat) ^^^ (BitVec.ofInt 64 (-1)))), gp_n, gp_i v4, gp_i x2, v6, v7]) (st' := [gp_l (gp_L s1 9 x2.toNat)]) (s' := s1) rfl ⟨rfl, H.1.1, H.1.2⟩ ?_
    replace H := H.2
    refine gs_E.stp (pc' := 69) (ls' := [gp_r (some 41), gp_r (some 7), gp_l (v2 &&& (((1#64) <<< (x2 % 64).toNat) ^^^ (BitVec.ofInt 64 (-1)))), gp_n, gp_i v4, gp_i x2, v6, v7]) (st' := [gp_i (gp_I s1 6 4), gp_r (some 43), gp_l (gp_L s1 9 x2.toNat)]) (s' := s1) 6 rfl ?_
    refine gs_E.ck (pc' := 70) (ls' := [gp_r (some 41), gp_r (some 7), gp_l (v2 &&& (((1#64) <<< (x2 % 64).toNat) ^^^ (BitVec.ofInt 64 (-1)))), gp_n, gp_i v4, gp_i x2, v6, v7]) (st' := [gp_l (gp_L s1 43 (gp_I s1 6 4).toNat), gp_l (gp_L s1 9 x2.toNat)]) (s' := s1) rfl ⟨rfl, H.1.1, H.1.2⟩ ?_
    replace H := H.2
    refine gs_E.stp (pc' := 75) (ls' := [gp_r (some 41), gp_r (some 7), gp_l (v2 &&& (((1#64) <<< (x2 % 64).toNat) ^^^ (BitVec.ofInt 64 (-1)))), gp_n, gp_i v4, gp_i x2, v6, v7]) (st' := [gp_r (some 8), gp_l ((gp_L s1 9 x2.toNat) &&& (gp_L s1 43 (gp_I s1 6 4).toNat))]) (s' := s1) 3 rfl ?_
    refine gs_E.call (args := [gp_l ((gp_L s1 9 x2.toNat) &&& (gp_L s1 43 (gp_I s1 6 4).toNat)), gp_r (some 8)]) (m := 8) (y' := 1540) (st' := []) rfl H (fun r s3 H => ?_)
    obtain ⟨m4, rfl, H⟩ := H
    show gs_E L (d + 1) 1538 78 [gp_r (some 41), gp_r (some 7), gp_l (v2 &&& (((1#64) <<< (x2 % 64).toNat) ^^^ (BitVec.ofInt 64 (-1)))), gp_n, gp_i v4, gp_i x2, v6, v7] [gp_l m4] s3 K
    refine gs_E.stp (pc' := 84) (ls' := [gp_r (some 41), gp_r (some 7), gp_l (v2 &&& (((1#64) <<< (x2 % 64).toNat) ^^^ (BitVec.ofInt 64 (-1)))), gp_n, gp_i v4, gp_i x2, gp_l m4, gp_n]) (st' := [gp_i (gp_cmp m4 (0#64))]) (s' := s3) 4 rfl ?_
    refine gs_E.br (c := (gp_cmp m4 (0#64)) = 0) (p1 := 121) (p2 := 87) (l1 := [gp_r (some 41), gp_r (some 7), gp_l (v2 &&& (((1#64) <<< (x2 % 64).toNat) ^^^ (BitVec.ofInt 64 (-1)))), gp_n, gp_i v4, gp_i x2, gp_l m4, gp_n]) (l2 := [gp_r (some 41), gp_r (some 7), gp_l (v2 &&& (((1#64) <<< (x2 % 64).toNat) ^^^ (BitVec.ofInt 64 (-1)))), gp_n, gp_i v4, gp_i x2, gp_l m4, gp_n]) (s1 := []) (s2 := []) rfl gs_b1 (fun hc => ?_) (fun hc => ?_)
    · replace H := H.1 hc
      refine gs_E.stp (pc' := 22) (ls' := [gp_r (some 41), gp_r (some 7), gp_l (v2 &&& (((1#64) <<< (x2 % 64).toNat) ^^^ (BitVec.ofInt 64 (-1)))), gp_n, gp_i (gp_wr (v4 + (-1))), gp_i x2, gp_l m4, gp_n]) (st' := []) (s' := s3) 2 rfl ?_
      exact H
    · replace H := H.2 hc
      refine gs_E.stp (pc' := 111) (ls' := [gp_r (some 41), gp_r (some 7), gp_l (v2 &&& (((1#64) <<< (x2 % 64).toNat) ^^^ (BitVec.ofInt 64 (-1)))), gp_n, gp_i v4, gp_i x2, gp_l m4, gp_n]) (st' := [gp_l m4, gp_r (some 6), gp_r (some 8), gp_l ((gp_L s3 41 4) &&& (((1#64) <<< (x2 % 64).toNat) ^^^ (BitVec.ofInt 64 (-1)))), gp_r (some 41)]) (s' := s3) 14 rfl ?_
      refine gs_E.call (args := [gp_r (some 6), gp_l m4]) (m := 7) (y' := 1029) (st' := [gp_r (some 8), gp_l ((gp_L s3 41 4) &&& (((1#64) <<< (x2 % 64).toNat) ^^^ (BitVec.ofInt 64 (-1)))), gp_r (some 41)]) rfl H (fun r s5 H => ?_)
      obtain ⟨x6, rfl, H⟩ := H
      show gs_E L (d + 1) 1538 114 [gp_r (some 41), gp_r (some 7), gp_l (v2 &&& (((1#64) <<< (x2 % 64).toNat) ^^^ (BitVec.ofInt 64 (-1)))), gp_n, gp_i v4, gp_i x2, gp_l m4, gp_n] [gp_i x6, gp_r (some 8), gp_l ((gp_L s3 41 4) &&& (((1#64) <<< (x2 % 64).toNat) ^^^ (BitVec.ofInt 64 (-1)))), gp_r (some 41)] s5 K
      refine gs_E.ck (pc' := 115) (ls' := [gp_r (some 41), gp_r (some 7), gp_l (v2 &&& (((1#64) <<< (x2 % 64).toNat) ^^^ (BitVec.ofInt 64 (-1)))), gp_n, gp_i v4, gp_i x2, gp_l m4, gp_n]) (st' := [gp_l (gp_L s5 8 x6.toNat), gp_l ((gp_L s3 41 4) &&& (((1#64) <<< (x2 % 64).toNat) ^^^ (BitVec.ofInt 64 (-1)))), gp_r (some 41)]) (s' := s5) rfl ⟨rfl, H.1.1, H.1.2⟩ ?_
      replace H := H.2
      refine gs_E.stp (pc' := 119) (ls' := [gp_r (some 41), gp_r (some 7), gp_l (v2 &&& (((1#64) <<< (x2 % 64).toNat) ^^^ (BitVec.ofInt 64 (-1)))), gp_n, gp_i v4, gp_i x2, gp_l m4, gp_n]) (st' := []) (s' := gp_wL s5 41 4 (((gp_L s3 41 4) &&& (((1#64) <<< (x2 % 64).toNat) ^^^ (BitVec.ofInt 64 (-1)))) ||| (gp_L s5 8 x6.toNat))) 2 rfl ?_
      replace H := H _ rfl
      generalize gp_wL s5 41 4 (((gp_L s3 41 4) &&& (((1#64) <<< (x2 % 64).toNat) ^^^ (BitVec.ofInt 64 (-1)))) ||| (gp_L s5 8 x6.toNat)) = s7 at H ⊢
      refine gs_E.stp (pc' := 120) (ls' := [gp_r (some 41), gp_r (some 7), gp_l (v2 &&& (((1#64) <<< (x2 % 64).toNat) ^^^ (BitVec.ofInt 64 (-1)))), gp_n, gp_i v4, gp_i x2, gp_l m4, gp_n]) (st' := [gp_i 1]) (s' := s7) 1 rfl ?_
      exact gs_E.ret (r := (some (gp_i 1))) rfl H

set_option maxRecDepth 100000 in
/-- Reducer.rightTurned, pc 0 -/
theorem s_1539_e {L d : Nat} {K : Option gV → gH → Prop} {s : gH}  (H : gs_C L d 3585 2 [gp_l (gp_L s 41 5)] s (fun r s1 => ∃ x2, r = some (gp_i x2) ∧ gs_E L (d + 1) 1539 22 [gp_r (some 41), gp_r (some 7), gp_l (gp_L s 41 5), gp_n, gp_i x2, gp_n, gp_n, gp_n] [] s1 K)) : gs_C L (d + 1) 1539 8 [gp_r (some 41)] s K := by
  show gs_E L (d + 1) 1539 0 [gp_r (some 41), gp_n, gp_n, gp_n, gp_n, gp_n, gp_n, gp_n] [] s K
  refine gs_E.stp (pc' := 17) (ls' := [gp_r (some 41), gp_r (some 7), gp_l (gp_L s 41 5), gp_n, gp_n, gp_n, gp_n, gp_n]) (st' := [gp_l (gp_L s 41 5)]) (s' := s) 9 rfl ?_
  refine gs_E.call (args := [gp_l (gp_L s 41 5)]) (m := 2) (y' := 3585) (st' := []) rfl H (fun r s1 H => ?_)
  obtain ⟨x2, rfl, H⟩ := H
  show gs_E L (d + 1) 1539 20 [gp_r (some 41), gp_r (some 7), gp_l (gp_L s 41 5), gp_n, gp_n, gp_n, gp_n, gp_n] [gp_i x2] s1 K
  refine gs_E.stp (pc' := 22) (ls' := [gp_r (some 41), gp_r (some 7), gp_l (gp_L s 41 5), gp_n, gp_i x2, gp_n, gp_n, gp_n]) (st' := []) (s' := s1) 1 rfl ?_
  exact H

set_option maxRecDepth 100000 in
/-- Reducer.rightTurned, pc 22 -/
theorem s_1539_22 {L d : Nat} {K : Option gV → gH → Prop} {s : gH} (v2 : BitVec 64) (v4 : Int) (v5 : gV) (v6 : gV) (v7 : gV) (H : ((0 < v4 → gs_C L d 1029 7 [gp_r (some 6), gp_l v2] s (fun r s1 => ∃ x2, r = some (gp_i x2) ∧ ((0 ≤ x2 ∧ x2 < 61) ∧ ((0 ≤ (gp_I s1 6 4) ∧ (gp_I s1 6 4) < 61) ∧ gs_C L d 1540 8 [gp_l ((gp_L s1 8 x2.toNat) &&& (gp_L s1 44 (gp_I s1 6 4).toNat)), gp_r (some 9)] s1 (fun r s3 => ∃ m4, r = some (gp_l m4) ∧ (((gp_cmp m4 (0#64)) = 0 → gs_E L (d + 1) 1539 22 [gp_r (some 41), gp_r (some 7), gp_l (v2 &&& (((1#64) <<< (x2 % 64).toNat) ^^^ (BitVec.ofInt 64 (-1)))), gp_n, gp_i (gp_wr (v4 + (-1))), gp_i x2, gp_l m4, gp_n] [] s3 K) ∧ (¬ (gp_cmp m4 (0#64)) = 0 → gs_C L d 1029 7 [gp_r (some 6), gp_l m4] s3 (fun r s5 => ∃ x6, r = some (gp_i x6) ∧ ((0 ≤ x6 ∧ x6 < 61) ∧ (∀ s7, s7 = gp_wL s5 41 5 (((gp_L s3 41 5) &&& (((1#64) <<< (x2 % 64).toNat) ^^^ (BitVec.ofInt 64 (-1)))) ||| (gp_L s5 9 x6.toNat)) → K (some (gp_i 1)) s7)))))))))) ∧ (¬ 0 < v4 → K (some (gp_i 0)) s))) : gs_E L (d + 1) 1539 22 [gp_r (some 41), gp_r (some 7), gp_l v2, gp_n, gp_i v4, v5, v6, v7] [] s K := by
  refine gs_E.stp (pc' := 24) (ls' := [gp_r (some 41), gp_r (some 7), gp_l v2, gp_n, gp_i v4, v5, v6, v7]) (st' := [gp_i v4]) (s' := s) 1 rfl ?_
  refine gs_E.br (c := ¬ 0 < v4) (p1 := 127) (p2 := 27) (l1 := [gp_r (some 41), gp_r (some 7), gp_l v2, gp_n, gp_i v4, v5, v6, v7]) (l2 := [gp_r (some 41), gp_r (some 7), gp_l v2, gp_n, gp_i v4, v5, v6, v7]) (s1 := []) (s2 := []) rfl gs_b2 (fun hc => ?_) (fun hc => ?_)
  · replace H := H.2 hc
    refine gs_E.stp (pc' := 128) (ls' := [gp_r (some 41), gp_r (some 7), gp_l v2, gp_n, gp_i v4, v5, v6, v7]) (st' := [gp_i 0]) (s' := s) 1 rfl ?_
    exact gs_E.ret (r := (some (gp_i 0))) rfl H
  · replace H := H.1 (Decidable.byContradiction hc)
    refine gs_E.stp (pc' := 32) (ls' := [gp_r (some 41), gp_r (some 7), gp_l v2, gp_n, gp_i v4, v5, v6, v7]) (st' := [gp_l v2, gp_r (some 6)]) (s' := s) 3 rfl ?_
    refine gs_E.call (args := [gp_r (some 6), gp_l v2]) (m := 7) (y' := 1029) (st' := []) rfl H (fun r s1 H => ?_)
    obtain ⟨x2, rfl, H⟩ := H
    show gs_E L (d + 1) 1539 35 [gp_r (some 41), gp_r (some 7), gp_l v2, gp_n, gp_i v4, v5, v6, v7] [gp_i x2] s1 K
    refine gs_E.stp (pc' := 54) (ls' := [gp_r (some 41), gp_r (some 7), gp_l (v2 &&& (((1#64) <<< (x2 % 64).toNat) ^^^ (BitVec.ofInt 64 (-1)))), gp_n, gp_i v4, gp_i x2, v6, v7]) (st' := [gp_i x2, gp_r (some 8)]) (s' := s1) 12 rfl ?_
    refine gs_E.ck (pc' := 55) (ls' := [gp_r (some 41), gp_r (some 7), gp_l (v2 &&& (((1#64) <<< (x2 % 64).toNat) ^^^ (BitVec.ofInt 64 (-1)))), gp_n, gp_i v4, gp_i x2, v6, v7]) (st' := [gp_l (gp_L s1 8 x2.toNat)]) (s' := s1) rfl ⟨rfl, H.1.1, H.1.2⟩ ?_
    replace H := H.2
    refine gs_E.stp (pc' := 69) (ls' := [gp_r (some 41), gp_r (some 7), gp_l (v2 &&& (((1#64) <<< (x2 % 64).toNat) ^^^ (BitVec.ofInt 64 (-1)))), gp_n, gp_i v4, gp_i x2, v6, v7]) (st' := [gp_i (gp_I s1 6 4), gp_r (some 44), gp_l (gp_L s1 8 x2.toNat)]) (s' := s1) 6 rfl ?_
    refine gs_E.ck (pc' := 70) (ls' := [gp_r (some 41), gp_r (some 7), gp_l (v2 &&& (((1#64) <<< (x2 % 64).toNat) ^^^ (BitVec.ofInt 64 (-1)))), gp_n, gp_i v4, gp_i x2, v6, v7]) (st' := [gp_l (gp_L s1 44 (gp_I s1 6 4).toNat), gp_l (gp_L s1 8 x2.toNat)]) (s' := s1) rfl ⟨rfl, H.1.1, H.1.2⟩ ?_
    replace H := H.2
    refine gs_E.stp (pc' := 75) (ls' := [gp_r (some 41), gp_r (some 7), gp_l (v2 &&& (((1#64) <<< (x2 % 64).toNat) ^^^ (BitVec.ofInt 64 (-1)))), gp_n, gp_i v4, gp_i x2, v6, v7]) (st' := [gp_r (some 9), gp_l ((gp_L s1 8 x2.toNat) &&& (gp_L s1 44 (gp_I s1 6 4).toNat))]) (s' := s1) 3 rfl ?_
    refine gs_E.call (args := [gp_l ((gp_L s1 8 x2.toNat) &&& (gp_L s1 44 (gp_I s1 6 4).toNat)), gp_r (some 9)]) (m := 8) (y' := 1540) (st' := []) rfl H (fun r s3 H => ?_)
    obtain ⟨m4, rfl, H⟩ := H
    show gs_E L (d + 1) 1539 78 [gp_r (some 41), gp_r (some 7), gp_l (v2 &&& (((1#64) <<< (x2 % 64).toNat) ^^^ (BitVec.ofInt 64 (-1)))), gp_n, gp_i v4, gp_i x2, v6, v7] [gp_l m4] s3 K
    refine gs_E.stp (pc' := 84) (ls' := [gp_r (some 41), gp_r (some 7), gp_l (v2 &&& (((1#64) <<< (x2 % 64).toNat) ^^^ (BitVec.ofInt 64 (-1)))), gp_n, gp_i v4, gp_i x2, gp_l m4, gp_n]) (st' := [gp_i (gp_cmp m4 (0#64))]) (s' := s3) 4 rfl ?_
    refine gs_E.br (c := (gp_cmp m4 (0#64)) = 0) (p1 := 121) (p2 := 87) (l1 := [gp_r (some 41), gp_r (some 7), gp_l (v2 &&& (((1#64) <<< (x2 % 64).toNat) ^^^ (BitVec.ofInt 64 (-1)))), gp_n, gp_i v4, gp_i x2, gp_l m4, gp_n]) (l2 := [gp_r (some 41), gp_r (some 7), gp_l (v2 &&& (((1#64) <<< (x2 % 64).toNat) ^^^ (BitVec.ofInt 64 (-1)))), gp_n, gp_i v4, gp_i x2, gp_l m4, gp_n]) (s1 := []) (s2 := []) rfl gs_b1 (fun hc => ?_) (fun hc => ?_)
    · replace H := H.1 hc
      refine gs_E.stp (pc' := 22) (ls' := [gp_r (some 41), gp_r (some 7), gp_l (v2 &&& (((1#64) <<< (x2 % 64).toNat) ^^^ (BitVec.ofInt 64 (-1)))), gp_n, gp_i (gp_wr (v4 + (-1))), gp_i x2, gp_l m4, gp_n]) (st' := []) (s' := s3) 2 rfl ?_
      exact H
    · replace H := H.2 hc
      refine gs_E.stp (pc' := 111) (ls' := [gp_r (some 41), gp_r (some 7), gp_l (v2 &&& (((1#64) <<< (x2 % 64).toNat) ^^^ (BitVec.ofInt 64 (-1)))), gp_n, gp_i v4, gp_i x2, gp_l m4, gp_n]) (st' := [gp_l m4, gp_r (some 6), gp_r (some 9), gp_l ((gp_L s3 41 5) &&& (((1#64) <<< (x2 % 64).toNat) ^^^ (BitVec.ofInt 64 (-1)))), gp_r (some 41)]) (s' := s3) 14 rfl ?_
      refine gs_E.call (args := [gp_r (some 6), gp_l m4]) (m := 7) (y' := 1029) (st' := [gp_r (some 9), gp_l ((gp_L s3 41 5) &&& (((1#64) <<< (x2 % 64).toNat) ^^^ (BitVec.ofInt 64 (-1)))), gp_r (some 41)]) rfl H (fun r s5 H => ?_)
      obtain ⟨x6, rfl, H⟩ := H
      show gs_E L (d + 1) 1539 114 [gp_r (some 41), gp_r (some 7), gp_l (v2 &&& (((1#64) <<< (x2 % 64).toNat) ^^^ (BitVec.ofInt 64 (-1)))), gp_n, gp_i v4, gp_i x2, gp_l m4, gp_n] [gp_i x6, gp_r (some 9), gp_l ((gp_L s3 41 5) &&& (((1#64) <<< (x2 % 64).toNat) ^^^ (BitVec.ofInt 64 (-1)))), gp_r (some 41)] s5 K
      refine gs_E.ck (pc' := 115) (ls' := [gp_r (some 41), gp_r (some 7), gp_l (v2 &&& (((1#64) <<< (x2 % 64).toNat) ^^^ (BitVec.ofInt 64 (-1)))), gp_n, gp_i v4, gp_i x2, gp_l m4, gp_n]) (st' := [gp_l (gp_L s5 9 x6.toNat), gp_l ((gp_L s3 41 5) &&& (((1#64) <<< (x2 % 64).toNat) ^^^ (BitVec.ofInt 64 (-1)))), gp_r (some 41)]) (s' := s5) rfl ⟨rfl, H.1.1, H.1.2⟩ ?_
      replace H := H.2
      refine gs_E.stp (pc' := 119) (ls' := [gp_r (some 41), gp_r (some 7), gp_l (v2 &&& (((1#64) <<< (x2 % 64).toNat) ^^^ (BitVec.ofInt 64 (-1)))), gp_n, gp_i v4, gp_i x2, gp_l m4, gp_n]) (st' := []) (s' := gp_wL s5 41 5 (((gp_L s3 41 5) &&& (((1#64) <<< (x2 % 64).toNat) ^^^ (BitVec.ofInt 64 (-1)))) ||| (gp_L s5 9 x6.toNat))) 2 rfl ?_
      replace H := H _ rfl
      generalize gp_wL s5 41 5 (((gp_L s3 41 5) &&& (((1#64) <<< (x2 % 64).toNat) ^^^ (BitVec.ofInt 64 (-1)))) ||| (gp_L s5 9 x6.toNat)) = s7 at H ⊢
      refine gs_E.stp (pc' := 120) (ls' := [gp_r (some 41), gp_r (some 7), gp_l (v2 &&& (((1#64) <<< (x2 % 64).toNat) ^^^ (BitVec.ofInt 64 (-1)))), gp_n, gp_i v4, gp_i x2, gp_l m4, gp_n]) (st' := [gp_i 1]) (s' := s7) 1 rfl ?_
      exact gs_E.ret (r := (some (gp_i 1))) rfl H

set_option maxRecDepth 100000 in
/-- Reducer.open, pc 0 -/
theorem s_1540_e {L d : Nat} {K : Option gV → gH → Prop} {s : gH} (p0 : BitVec 64) (p1 : Option Nat) (H : gs_E L (d + 1) 1540 5 [gp_l p0, gp_n, gp_r p1, gp_l (0#64), gp_n, gp_l p0, gp_n, gp_n] [] s K) : gs_C L (d + 1) 1540 8 [gp_l p0, gp_r p1] s K := by
  show gs_E L (d + 1) 1540 0 [gp_l p0, gp_n, gp_r p1, gp_n, gp_n, gp_n, gp_n, gp_n] [] s K
  refine gs_E.stp (pc' := 5) (ls' := [gp_l p0, gp_n, gp_r p1, gp_l (0#64), gp_n, gp_l p0, gp_n, gp_n]) (st' := []) (s' := s) 4 rfl ?_
  exact H

set_option maxRecDepth 100000 in
/-- Reducer.open, pc 5 -/
theorem s_1540_5 {L d : Nat} {K : Option gV → gH → Prop} {s : gH} (v0 : BitVec 64) (v2 : Option Nat) (v3 : BitVec 64) (v5 : BitVec 64) (v7 : gV) (H : (((gp_cmp v5 (0#64)) = 0 → K (some (gp_l v3)) s) ∧ (¬ (gp_cmp v5 (0#64)) = 0 → gs_C L d 2859 2 [gp_l v5] s (fun r s1 => ∃ x2, r = some (gp_i x2) ∧ (∃ q3, v2 = some q3 ∧ (gp_in (gp_mk L s1) 101 q3 x2 ∧ (((gp_cmp (gp_L s1 q3 x2.toNat) (0#64)) = 0 → gs_E L (d + 1) 1540 35 [gp_l v0, gp_n, gp_r (some q3), gp_l v3, gp_n, gp_l v5, gp_n, gp_i x2] [] s1 K) ∧ (¬ (gp_cmp (gp_L s1 q3 x2.toNat) (0#64)) = 0 → gs_E L (d + 1) 1540 35 [gp_l v0, gp_n, gp_r (some q3), gp_l (v3 ||| ((1#64) <<< (x2 % 64).toNat)), gp_n, gp_l v5, gp_n, gp_i x2] [] s1 K)))))))) : gs_E L (d + 1) 1540 5 [gp_l v0, gp_n, gp_r v2, gp_l v3, gp_n, gp_l v5, gp_n, v7] [] s K := by
  refine gs_E.stp (pc' := 9) (ls' := [gp_l v0, gp_n, gp_r v2, gp_l v3, gp_n, gp_l v5, gp_n, v7]) (st' := [gp_i (gp_cmp v5 (0#64))]) (s' := s) 3 rfl ?_
  refine gs_E.br (c := (gp_cmp v5 (0#64)) = 0) (p1 := 47) (p2 := 12) (l1 := [gp_l v0, gp_n, gp_r v2, gp_l v3, gp_n, gp_l v5, gp_n, v7]) (l2 := [gp_l v0, gp_n, gp_r v2, gp_l v3, gp_n, gp_l v5, gp_n, v7]) (s1 := []) (s2 := []) rfl gs_b1 (fun hc => ?_) (fun hc => ?_)
  · replace H := H.1 hc
    refine gs_E.stp (pc' := 48) (ls' := [gp_l v0, gp_n, gp_r v2, gp_l v3, gp_n, gp_l v5, gp_n, v7]) (st' := [gp_l v3]) (s' := s) 1 rfl ?_
    exact gs_E.ret (r := (some (gp_l v3))) rfl H
  · replace H := H.2 hc
    refine gs_E.stp (pc' := 14) (ls' := [gp_l v0, gp_n, gp_r v2, gp_l v3, gp_n, gp_l v5, gp_n, v7]) (st' := [gp_l v5]) (s' := s) 1 rfl ?_
    refine gs_E.call (args := [gp_l v5]) (m := 2) (y' := 2859) (st' := []) rfl H (fun r s1 H => ?_)
    obtain ⟨x2, rfl, H⟩ := H
    show gs_E L (d + 1) 1540 17 [gp_l v0, gp_n, gp_r v2, gp_l v3, gp_n, gp_l v5, gp_n, v7] [gp_i x2] s1 K
    refine gs_E.stp (pc' := 22) (ls' := [gp_l v0, gp_n, gp_r v2, gp_l v3, gp_n, gp_l v5, gp_n, gp_i x2]) (st' := [gp_i x2, gp_r v2]) (s' := s1) 3 rfl ?_
    obtain ⟨q3, hq, H⟩ := H
    rw [hq]
    refine gs_E.ck (pc' := 23) (ls' := [gp_l v0, gp_n, gp_r (some q3), gp_l v3, gp_n, gp_l v5, gp_n, gp_i x2]) (st' := [gp_l (gp_L s1 q3 x2.toNat)]) (s' := s1) rfl H.1 ?_
    replace H := H.2
    refine gs_E.stp (pc' := 25) (ls' := [gp_l v0, gp_n, gp_r (some q3), gp_l v3, gp_n, gp_l v5, gp_n, gp_i x2]) (st' := [gp_i (gp_cmp (gp_L s1 q3 x2.toNat) (0#64))]) (s' := s1) 2 rfl ?_
    refine gs_E.br (c := (gp_cmp (gp_L s1 q3 x2.toNat) (0#64)) = 0) (p1 := 35) (p2 := 28) (l1 := [gp_l v0, gp_n, gp_r (some q3), gp_l v3, gp_n, gp_l v5, gp_n, gp_i x2]) (l2 := [gp_l v0, gp_n, gp_r (some q3), gp_l v3, gp_n, gp_l v5, gp_n, gp_i x2]) (s1 := []) (s2 := []) rfl gs_b1 (fun hc => ?_) (fun hc => ?_)
    · replace H := H.1 hc
      exact H
    · replace H := H.2 hc
      refine gs_E.stp (pc' := 35) (ls' := [gp_l v0, gp_n, gp_r (some q3), gp_l (v3 ||| ((1#64) <<< (x2 % 64).toNat)), gp_n, gp_l v5, gp_n, gp_i x2]) (st' := []) (s' := s1) 6 rfl ?_
      exact H

set_option maxRecDepth 100000 in
/-- Reducer.open, pc 35 -/
theorem s_1540_35 {L d : Nat} {K : Option gV → gH → Prop} {s : gH} (v0 : BitVec 64) (v2 : Option Nat) (v3 : BitVec 64) (v5 : BitVec 64) (v7 : Int) (H : gs_E L (d + 1) 1540 5 [gp_l v0, gp_n, gp_r v2, gp_l v3, gp_n, gp_l (v5 &&& (v5 - (1#64))), gp_n, gp_i v7] [] s K) : gs_E L (d + 1) 1540 35 [gp_l v0, gp_n, gp_r v2, gp_l v3, gp_n, gp_l v5, gp_n, gp_i v7] [] s K := by
  refine gs_E.stp (pc' := 5) (ls' := [gp_l v0, gp_n, gp_r v2, gp_l v3, gp_n, gp_l (v5 &&& (v5 - (1#64))), gp_n, gp_i v7]) (st' := []) (s' := s) 7 rfl ?_
  exact H

set_option maxRecDepth 100000 in
/-- Reducer.leftThinned, pc 0 -/
theorem s_1541_e {L d : Nat} {K : Option gV → gH → Prop} {s : gH}  (H : gs_C L d 1543 11 [gp_r (some 41), gp_l (gp_L s 41 4), gp_r (some 44), gp_r (some 43)] s (fun r s1 => ∃ x2, r = some (gp_i x2) ∧ ((x2 < 0 → gs_E L (d + 1) 1541 43 [gp_r (some 41), gp_i x2] [] s1 K) ∧ (¬ x2 < 0 → (∀ s3, s3 = gp_wL s1 41 4 ((gp_L s1 41 4) &&& (((1#64) <<< (x2 % 64).toNat) ^^^ (BitVec.ofInt 64 (-1)))) → gs_E L (d + 1) 1541 43 [gp_r (some 41), gp_i x2] [] s3 K))))) : gs_C L (d + 1) 1541 2 [gp_r (some 41)] s K := by
  show gs_E L (d + 1) 1541 0 [gp_r (some 41), gp_n] [] s K
  refine gs_E.stp (pc' := 19) (ls' := [gp_r (some 41), gp_n]) (st' := [gp_r (some 43), gp_r (some 44), gp_l (gp_L s 41 4), gp_r (some 41)]) (s' := s) 9 rfl ?_
  refine gs_E.call (args := [gp_r (some 41), gp_l (gp_L s 41 4), gp_r (some 44), gp_r (some 43)]) (m := 11) (y' := 1543) (st' := []) rfl H (fun r s1 H => ?_)
  obtain ⟨x2, rfl, H⟩ := H
  show gs_E L (d + 1) 1541 22 [gp_r (some 41), gp_n] [gp_i x2] s1 K
  refine gs_E.stp (pc' := 24) (ls' := [gp_r (some 41), gp_i x2]) (st' := [gp_i x2]) (s' := s1) 2 rfl ?_
  refine gs_E.br (c := x2 < 0) (p1 := 43) (p2 := 27) (l1 := [gp_r (some 41), gp_i x2]) (l2 := [gp_r (some 41), gp_i x2]) (s1 := []) (s2 := []) rfl gs_b1 (fun hc => ?_) (fun hc => ?_)
  · replace H := H.1 hc
    exact H
  · replace H := H.2 hc
    refine gs_E.stp (pc' := 43) (ls' := [gp_r (some 41), gp_i x2]) (st' := []) (s' := gp_wL s1 41 4 ((gp_L s1 41 4) &&& (((1#64) <<< (x2 % 64).toNat) ^^^ (BitVec.ofInt 64 (-1))))) 10 rfl ?_
    replace H := H _ rfl
    generalize gp_wL s1 41 4 ((gp_L s1 41 4) &&& (((1#64) <<< (x2 % 64).toNat) ^^^ (BitVec.ofInt 64 (-1)))) = s3 at H ⊢
    exact H

set_option maxRecDepth 100000 in
/-- Reducer.leftThinned, pc 43 -/
theorem s_1541_43 {L d : Nat} {K : Option gV → gH → Prop} {s : gH} (v1 : Int) (H : ((v1 < 0 → gs_E L (d + 1) 1541 52 [gp_r (some 41), gp_i v1] [gp_i 0] s K) ∧ (¬ v1 < 0 → gs_E L (d + 1) 1541 52 [gp_r (some 41), gp_i v1] [gp_i 1] s K))) : gs_E L (d + 1) 1541 43 [gp_r (some 41), gp_i v1] [] s K := by
  refine gs_E.stp (pc' := 44) (ls' := [gp_r (some 41), gp_i v1]) (st' := [gp_i v1]) (s' := s) 1 rfl ?_
  refine gs_E.br (c := v1 < 0) (p1 := 51) (p2 := 47) (l1 := [gp_r (some 41), gp_i v1]) (l2 := [gp_r (some 41), gp_i v1]) (s1 := []) (s2 := []) rfl gs_b1 (fun hc => ?_) (fun hc => ?_)
  · replace H := H.1 hc
    refine gs_E.stp (pc' := 52) (ls' := [gp_r (some 41), gp_i v1]) (st' := [gp_i 0]) (s' := s) 1 rfl ?_
    exact H
  · replace H := H.2 hc
    refine gs_E.stp (pc' := 52) (ls' := [gp_r (some 41), gp_i v1]) (st' := [gp_i 1]) (s' := s) 2 rfl ?_
    exact H

set_option maxRecDepth 100000 in
/-- Reducer.leftThinned, pc 52 -/
theorem s_1541_52 {L d : Nat} {K : Option gV → gH → Prop} {s : gH} (v1 : Int) (w0 : Int) (H : ((w0 = 0 ∨ w0 = 1) ∧ K (some (gp_i w0)) s)) : gs_E L (d + 1) 1541 52 [gp_r (some 41), gp_i v1] [gp_i w0] s K := by
  exact gs_E.retz (r := (some (gp_i w0))) rfl H.1 H.2

set_option maxRecDepth 100000 in
/-- Reducer.rightThinned, pc 0 -/
theorem s_1542_e {L d : Nat} {K : Option gV → gH → Prop} {s : gH}  (H : gs_C L d 1543 11 [gp_r (some 41), gp_l (gp_L s 41 5), gp_r (some 43), gp_r (some 44)] s (fun r s1 => ∃ x2, r = some (gp_i x2) ∧ ((x2 < 0 → gs_E L (d + 1) 1542 43 [gp_r (some 41), gp_i x2] [] s1 K) ∧ (¬ x2 < 0 → (∀ s3, s3 = gp_wL s1 41 5 ((gp_L s1 41 5) &&& (((1#64) <<< (x2 % 64).toNat) ^^^ (BitVec.ofInt 64 (-1)))) → gs_E L (d + 1) 1542 43 [gp_r (some 41), gp_i x2] [] s3 K))))) : gs_C L (d + 1) 1542 2 [gp_r (some 41)] s K := by
  show gs_E L (d + 1) 1542 0 [gp_r (some 41), gp_n] [] s K
  refine gs_E.stp (pc' := 19) (ls' := [gp_r (some 41), gp_n]) (st' := [gp_r (some 44), gp_r (some 43), gp_l (gp_L s 41 5), gp_r (some 41)]) (s' := s) 9 rfl ?_
  refine gs_E.call (args := [gp_r (some 41), gp_l (gp_L s 41 5), gp_r (some 43), gp_r (some 44)]) (m := 11) (y' := 1543) (st' := []) rfl H (fun r s1 H => ?_)
  obtain ⟨x2, rfl, H⟩ := H
  show gs_E L (d + 1) 1542 22 [gp_r (some 41), gp_n] [gp_i x2] s1 K
  refine gs_E.stp (pc' := 24) (ls' := [gp_r (some 41), gp_i x2]) (st' := [gp_i x2]) (s' := s1) 2 rfl ?_
  refine gs_E.br (c := x2 < 0) (p1 := 43) (p2 := 27) (l1 := [gp_r (some 41), gp_i x2]) (l2 := [gp_r (some 41), gp_i x2]) (s1 := []) (s2 := []) rfl gs_b1 (fun hc => ?_) (fun hc => ?_)
  · replace H := H.1 hc
    exact H
  · replace H := H.2 hc
    refine gs_E.stp (pc' := 43) (ls' := [gp_r (some 41), gp_i x2]) (st' := []) (s' := gp_wL s1 41 5 ((gp_L s1 41 5) &&& (((1#64) <<< (x2 % 64).toNat) ^^^ (BitVec.ofInt 64 (-1))))) 10 rfl ?_
    replace H := H _ rfl
    generalize gp_wL s1 41 5 ((gp_L s1 41 5) &&& (((1#64) <<< (x2 % 64).toNat) ^^^ (BitVec.ofInt 64 (-1)))) = s3 at H ⊢
    exact H

set_option maxRecDepth 100000 in
/-- Reducer.rightThinned, pc 43 -/
theorem s_1542_43 {L d : Nat} {K : Option gV → gH → Prop} {s : gH} (v1 : Int) (H : ((v1 < 0 → gs_E L (d + 1) 1542 52 [gp_r (some 41), gp_i v1] [gp_i 0] s K) ∧ (¬ v1 < 0 → gs_E L (d + 1) 1542 52 [gp_r (some 41), gp_i v1] [gp_i 1] s K))) : gs_E L (d + 1) 1542 43 [gp_r (some 41), gp_i v1] [] s K := by
  refine gs_E.stp (pc' := 44) (ls' := [gp_r (some 41), gp_i v1]) (st' := [gp_i v1]) (s' := s) 1 rfl ?_
  refine gs_E.br (c := v1 < 0) (p1 := 51) (p2 := 47) (l1 := [gp_r (some 41), gp_i v1]) (l2 := [gp_r (some 41), gp_i v1]) (s1 := []) (s2 := []) rfl gs_b1 (fun hc => ?_) (fun hc => ?_)
  · replace H := H.1 hc
    refine gs_E.stp (pc' := 52) (ls' := [gp_r (some 41), gp_i v1]) (st' := [gp_i 0]) (s' := s) 1 rfl ?_
    exact H
  · replace H := H.2 hc
    refine gs_E.stp (pc' := 52) (ls' := [gp_r (some 41), gp_i v1]) (st' := [gp_i 1]) (s' := s) 2 rfl ?_
    exact H

set_option maxRecDepth 100000 in
/-- Reducer.rightThinned, pc 52 -/
theorem s_1542_52 {L d : Nat} {K : Option gV → gH → Prop} {s : gH} (v1 : Int) (w0 : Int) (H : ((w0 = 0 ∨ w0 = 1) ∧ K (some (gp_i w0)) s)) : gs_E L (d + 1) 1542 52 [gp_r (some 41), gp_i v1] [gp_i w0] s K := by
  exact gs_E.retz (r := (some (gp_i w0))) rfl H.1 H.2

set_option maxRecDepth 100000 in
/-- Reducer.firstBeaten, pc 0 -/
theorem s_1543_e {L d : Nat} {K : Option gV → gH → Prop} {s : gH} (p0 : BitVec 64) (p1 : Option Nat) (p2 : Option Nat) (H : gs_C L d 3585 2 [gp_l p0] s (fun r s1 => ∃ x2, r = some (gp_i x2) ∧ gs_E L (d + 1) 1543 9 [gp_r (some 41), gp_l p0, gp_n, gp_r p1, gp_r p2, gp_l p0, gp_n, gp_i x2, gp_n, gp_n, gp_n] [] s1 K)) : gs_C L (d + 1) 1543 11 [gp_r (some 41), gp_l p0, gp_r p1, gp_r p2] s K := by
  show gs_E L (d + 1) 1543 0 [gp_r (some 41), gp_l p0, gp_n, gp_r p1, gp_r p2, gp_n, gp_n, gp_n, gp_n, gp_n, gp_n] [] s K
  refine gs_E.stp (pc' := 4) (ls' := [gp_r (some 41), gp_l p0, gp_n, gp_r p1, gp_r p2, gp_l p0, gp_n, gp_n, gp_n, gp_n, gp_n]) (st' := [gp_l p0]) (s' := s) 3 rfl ?_
  refine gs_E.call (args := [gp_l p0]) (m := 2) (y' := 3585) (st' := []) rfl H (fun r s1 H => ?_)
  obtain ⟨x2, rfl, H⟩ := H
  show gs_E L (d + 1) 1543 7 [gp_r (some 41), gp_l p0, gp_n, gp_r p1, gp_r p2, gp_l p0, gp_n, gp_n, gp_n, gp_n, gp_n] [gp_i x2] s1 K
  refine gs_E.stp (pc' := 9) (ls' := [gp_r (some 41), gp_l p0, gp_n, gp_r p1, gp_r p2, gp_l p0, gp_n, gp_i x2, gp_n, gp_n, gp_n]) (st' := []) (s' := s1) 1 rfl ?_
  exact H

set_option maxRecDepth 100000 in
/-- Reducer.firstBeaten, pc 9 -/
theorem s_1543_9 {L d : Nat} {K : Option gV → gH → Prop} {s : gH} (v1 : BitVec 64) (v3 : Option Nat) (v4 : Option Nat) (v5 : BitVec 64) (v7 : Int) (v8 : gV) (v9 : gV) (v10 : gV) (H : ((0 < v7 → gs_C L d 1029 7 [gp_r (some 6), gp_l v5] s (fun r s1 => ∃ x2, r = some (gp_i x2) ∧ (∃ q3, v3 = some q3 ∧ (gp_in (gp_mk L s1) 101 q3 x2 ∧ (((gp_cmp ((v1 &&& (gp_L s1 q3 x2.toNat)) &&& (((1#64) <<< (x2 % 64).toNat) ^^^ (BitVec.ofInt 64 (-1)))) (0#64)) = 0 → gs_E L (d + 1) 1543 112 [gp_r (some 41), gp_l v1, gp_n, gp_r (some q3), gp_r v4, gp_l (v5 &&& (((1#64) <<< (x2 % 64).toNat) ^^^ (BitVec.ofInt 64 (-1)))), gp_n, gp_i v7, gp_i x2, gp_l ((v1 &&& (gp_L s1 q3 x2.toNat)) &&& (((1#64) <<< (x2 % 64).toNat) ^^^ (BitVec.ofInt 64 (-1)))), gp_n] [] s1 K) ∧ (¬ (gp_cmp ((v1 &&& (gp_L s1 q3 x2.toNat)) &&& (((1#64) <<< (x2 % 64).toNat) ^^^ (BitVec.ofInt 64 (-1)))) (0#64)) = 0 → (∃ q4, v4 = some q4 ∧ (gp_in (gp_mk L s1) 101 q4 x2 ∧ (((gp_cmp (((v1 &&& (gp_L s1 q3 x2.toNat)) &&& (((1#64) <<< (x2 % 64).toNat) ^^^ (BitVec.ofInt 64 (-1)))) &&& ((gp_L s1 q4 x2.toNat) ^^^ (BitVec.ofInt 64 (-1)))) (0#64)) = 0 → gs_C L d 1029 7 [gp_r (some 6), gp_l ((v1 &&& (gp_L s1 q3 x2.toNat)) &&& (((1#64) <<< (x2 % 64).toNat) ^^^ (BitVec.ofInt 64 (-1))))] s1 (fun r s5 => ∃ x6, r = some (gp_i x6) ∧ ((0 ≤ x6 ∧ x6 < 61) ∧ ((0 ≤ x2 ∧ x2 < 61) ∧ (((gp_I s5 13 x6.toNat) < (gp_I s5 13 x2.toNat) → gs_E L (d + 1) 1543 109 [gp_r (some 41), gp_l v1, gp_n, gp_r (some q3), gp_r (some q4), gp_l (v5 &&& (((1#64) <<< (x2 % 64).toNat) ^^^ (BitVec.ofInt 64 (-1)))), gp_n, gp_i v7, gp_i x2, gp_l ((v1 &&& (gp_L s1 q3 x2.toNat)) &&& (((1#64) <<< (x2 % 64).toNat) ^^^ (BitVec.ofInt 64 (-1)))), gp_n] [] s5 K) ∧ (¬ (gp_I s5 13 x6.toNat) < (gp_I s5 13 x2.toNat) → gs_E L (d + 1) 1543 112 [gp_r (some 41), gp_l v1, gp_n, gp_r (some q3), gp_r (some q4), gp_l (v5 &&& (((1#64) <<< (x2 % 64).toNat) ^^^ (BitVec.ofInt 64 (-1)))), gp_n, gp_i v7, gp_i x2, gp_l ((v1 &&& (gp_L s1 q3 x2.toNat)) &&& (((1#64) <<< (x2 % 64).toNat) ^^^ (BitVec.ofInt 64 (-1)))), gp_n] [] s5 K)))))) ∧ (¬ (gp_cmp (((v1 &&& (gp_L s1 q3 x2.toNat)) &&& (((1#64) <<< (x2 % 64).toNat) ^^^ (BitVec.ofInt 64 (-1)))) &&& ((gp_L s1 q4 x2.toNat) ^^^ (BitVec.ofInt 64 (-1)))) (0#64)) = 0 → gs_E L (d + 1) 1543 109 [gp_r (some 41), gp_l v1, gp_n, gp_r (some q3), gp_r (some q4), gp_l (v5 &&& (((1#64) <<< (x2 % 64).toNat) ^^^ (BitVec.ofInt 64 (-1)))), gp_n, gp_i v7, gp_i x2, gp_l ((v1 &&& (gp_L s1 q3 x2.toNat)) &&& (((1#64) <<< (x2 % 64).toNat) ^^^ (BitVec.ofInt 64 (-1)))), gp_n] [] s1 K)))))))))) ∧ (¬ 0 < v7 → K (some (gp_i (-1))) s))) : gs_E L (d + 1) 1543 9 [gp_r (some 41), gp_l v1, gp_n, gp_r v3, gp_r v4, gp_l v5, gp_n, gp_i v7, v8, v9, v10] [] s K := by
  refine gs_E.stp (pc' := 11) (ls' := [gp_r (some 41), gp_l v1, gp_n, gp_r v3, gp_r v4, gp_l v5, gp_n, gp_i v7, v8, v9, v10]) (st' := [gp_i v7]) (s' := s) 1 rfl ?_
  refine gs_E.br (c := ¬ 0 < v7) (p1 := 118) (p2 := 14) (l1 := [gp_r (some 41), gp_l v1, gp_n, gp_r v3, gp_r v4, gp_l v5, gp_n, gp_i v7, v8, v9, v10]) (l2 := [gp_r (some 41), gp_l v1, gp_n, gp_r v3, gp_r v4, gp_l v5, gp_n, gp_i v7, v8, v9, v10]) (s1 := []) (s2 := []) rfl gs_b2 (fun hc => ?_) (fun hc => ?_)
  · replace H := H.2 hc
    refine gs_E.stp (pc' := 119) (ls' := [gp_r (some 41), gp_l v1, gp_n, gp_r v3, gp_r v4, gp_l v5, gp_n, gp_i v7, v8, v9, v10]) (st' := [gp_i (-1)]) (s' := s) 1 rfl ?_
    exact gs_E.ret (r := (some (gp_i (-1)))) rfl H
  · replace H := H.1 (Decidable.byContradiction hc)
    refine gs_E.stp (pc' := 20) (ls' := [gp_r (some 41), gp_l v1, gp_n, gp_r v3, gp_r v4, gp_l v5, gp_n, gp_i v7, v8, v9, v10]) (st' := [gp_l v5, gp_r (some 6)]) (s' := s) 3 rfl ?_
    refine gs_E.call (args := [gp_r (some 6), gp_l v5]) (m := 7) (y' := 1029) (st' := []) rfl H (fun r s1 H => ?_)
    obtain ⟨x2, rfl, H⟩ := H
    show gs_E L (d + 1) 1543 23 [gp_r (some 41), gp_l v1, gp_n, gp_r v3, gp_r v4, gp_l v5, gp_n, gp_i v7, v8, v9, v10] [gp_i x2] s1 K
    refine gs_E.stp (pc' := 42) (ls' := [gp_r (some 41), gp_l v1, gp_n, gp_r v3, gp_r v4, gp_l (v5 &&& (((1#64) <<< (x2 % 64).toNat) ^^^ (BitVec.ofInt 64 (-1)))), gp_n, gp_i v7, gp_i x2, v9, v10]) (st' := [gp_i x2, gp_r v3, gp_l v1]) (s' := s1) 12 rfl ?_
    obtain ⟨q3, hq, H⟩ := H
    rw [hq]
    refine gs_E.ck (pc' := 43) (ls' := [gp_r (some 41), gp_l v1, gp_n, gp_r (some q3), gp_r v4, gp_l (v5 &&& (((1#64) <<< (x2 % 64).toNat) ^^^ (BitVec.ofInt 64 (-1)))), gp_n, gp_i v7, gp_i x2, v9, v10]) (st' := [gp_l (gp_L s1 q3 x2.toNat), gp_l v1]) (s' := s1) rfl H.1 ?_
    replace H := H.2
    refine gs_E.stp (pc' := 59) (ls' := [gp_r (some 41), gp_l v1, gp_n, gp_r (some q3), gp_r v4, gp_l (v5 &&& (((1#64) <<< (x2 % 64).toNat) ^^^ (BitVec.ofInt 64 (-1)))), gp_n, gp_i v7, gp_i x2, gp_l ((v1 &&& (gp_L s1 q3 x2.toNat)) &&& (((1#64) <<< (x2 % 64).toNat) ^^^ (BitVec.ofInt 64 (-1)))), gp_n]) (st' := [gp_i (gp_cmp ((v1 &&& (gp_L s1 q3 x2.toNat)) &&& (((1#64) <<< (x2 % 64).toNat) ^^^ (BitVec.ofInt 64 (-1)))) (0#64))]) (s' := s1) 11 rfl ?_
    refine gs_E.br (c := (gp_cmp ((v1 &&& (gp_L s1 q3 x2.toNat)) &&& (((1#64) <<< (x2 % 64).toNat) ^^^ (BitVec.ofInt 64 (-1)))) (0#64)) = 0) (p1 := 112) (p2 := 62) (l1 := [gp_r (some 41), gp_l v1, gp_n, gp_r (some q3), gp_r v4, gp_l (v5 &&& (((1#64) <<< (x2 % 64).toNat) ^^^ (BitVec.ofInt 64 (-1)))), gp_n, gp_i v7, gp_i x2, gp_l ((v1 &&& (gp_L s1 q3 x2.toNat)) &&& (((1#64) <<< (x2 % 64).toNat) ^^^ (BitVec.ofInt 64 (-1)))), gp_n]) (l2 := [gp_r (some 41), gp_l v1, gp_n, gp_r (some q3), gp_r v4, gp_l (v5 &&& (((1#64) <<< (x2 % 64).toNat) ^^^ (BitVec.ofInt 64 (-1)))), gp_n, gp_i v7, gp_i x2, gp_l ((v1 &&& (gp_L s1 q3 x2.toNat)) &&& (((1#64) <<< (x2 % 64).toNat) ^^^ (BitVec.ofInt 64 (-1)))), gp_n]) (s1 := []) (s2 := []) rfl gs_b1 (fun hc => ?_) (fun hc => ?_)
    · replace H := H.1 hc
      exact H
    · replace H := H.2 hc
      refine gs_E.stp (pc' := 68) (ls' := [gp_r (some 41), gp_l v1, gp_n, gp_r (some q3), gp_r v4, gp_l (v5 &&& (((1#64) <<< (x2 % 64).toNat) ^^^ (BitVec.ofInt 64 (-1)))), gp_n, gp_i v7, gp_i x2, gp_l ((v1 &&& (gp_L s1 q3 x2.toNat)) &&& (((1#64) <<< (x2 % 64).toNat) ^^^ (BitVec.ofInt 64 (-1)))), gp_n]) (st' := [gp_i x2, gp_r v4, gp_l ((v1 &&& (gp_L s1 q3 x2.toNat)) &&& (((1#64) <<< (x2 % 64).toNat) ^^^ (BitVec.ofInt 64 (-1))))]) (s' := s1) 3 rfl ?_
      obtain ⟨q4, hq, H⟩ := H
      rw [hq]
      refine gs_E.ck (pc' := 69) (ls' := [gp_r (some 41), gp_l v1, gp_n, gp_r (some q3), gp_r (some q4), gp_l (v5 &&& (((1#64) <<< (x2 % 64).toNat) ^^^ (BitVec.ofInt 64 (-1)))), gp_n, gp_i v7, gp_i x2, gp_l ((v1 &&& (gp_L s1 q3 x2.toNat)) &&& (((1#64) <<< (x2 % 64).toNat) ^^^ (BitVec.ofInt 64 (-1)))), gp_n]) (st' := [gp_l (gp_L s1 q4 x2.toNat), gp_l ((v1 &&& (gp_L s1 q3 x2.toNat)) &&& (((1#64) <<< (x2 % 64).toNat) ^^^ (BitVec.ofInt 64 (-1))))]) (s' := s1) rfl H.1 ?_
      replace H := H.2
      refine gs_E.stp (pc' := 76) (ls' := [gp_r (some 41), gp_l v1, gp_n, gp_r (some q3), gp_r (some q4), gp_l (v5 &&& (((1#64) <<< (x2 % 64).toNat) ^^^ (BitVec.ofInt 64 (-1)))), gp_n, gp_i v7, gp_i x2, gp_l ((v1 &&& (gp_L s1 q3 x2.toNat)) &&& (((1#64) <<< (x2 % 64).toNat) ^^^ (BitVec.ofInt 64 (-1)))), gp_n]) (st' := [gp_i (gp_cmp (((v1 &&& (gp_L s1 q3 x2.toNat)) &&& (((1#64) <<< (x2 % 64).toNat) ^^^ (BitVec.ofInt 64 (-1)))) &&& ((gp_L s1 q4 x2.toNat) ^^^ (BitVec.ofInt 64 (-1)))) (0#64))]) (s' := s1) 5 rfl ?_
      refine gs_E.br (c := ¬ (gp_cmp (((v1 &&& (gp_L s1 q3 x2.toNat)) &&& (((1#64) <<< (x2 % 64).toNat) ^^^ (BitVec.ofInt 64 (-1)))) &&& ((gp_L s1 q4 x2.toNat) ^^^ (BitVec.ofInt 64 (-1)))) (0#64)) = 0) (p1 := 109) (p2 := 79) (l1 := [gp_r (some 41), gp_l v1, gp_n, gp_r (some q3), gp_r (some q4), gp_l (v5 &&& (((1#64) <<< (x2 % 64).toNat) ^^^ (BitVec.ofInt 64 (-1)))), gp_n, gp_i v7, gp_i x2, gp_l ((v1 &&& (gp_L s1 q3 x2.toNat)) &&& (((1#64) <<< (x2 % 64).toNat) ^^^ (BitVec.ofInt 64 (-1)))), gp_n]) (l2 := [gp_r (some 41), gp_l v1, gp_n, gp_r (some q3), gp_r (some q4), gp_l (v5 &&& (((1#64) <<< (x2 % 64).toNat) ^^^ (BitVec.ofInt 64 (-1)))), gp_n, gp_i v7, gp_i x2, gp_l ((v1 &&& (gp_L s1 q3 x2.toNat)) &&& (((1#64) <<< (x2 % 64).toNat) ^^^ (BitVec.ofInt 64 (-1)))), gp_n]) (s1 := []) (s2 := []) rfl gs_b2 (fun hc => ?_) (fun hc => ?_)
      · replace H := H.2 hc
        exact H
      · replace H := H.1 (Decidable.byContradiction hc)
        refine gs_E.stp (pc' := 92) (ls' := [gp_r (some 41), gp_l v1, gp_n, gp_r (some q3), gp_r (some q4), gp_l (v5 &&& (((1#64) <<< (x2 % 64).toNat) ^^^ (BitVec.ofInt 64 (-1)))), gp_n, gp_i v7, gp_i x2, gp_l ((v1 &&& (gp_L s1 q3 x2.toNat)) &&& (((1#64) <<< (x2 % 64).toNat) ^^^ (BitVec.ofInt 64 (-1)))), gp_n]) (st' := [gp_l ((v1 &&& (gp_L s1 q3 x2.toNat)) &&& (((1#64) <<< (x2 % 64).toNat) ^^^ (BitVec.ofInt 64 (-1)))), gp_r (some 6), gp_r (some 13)]) (s' := s1) 6 rfl ?_
        refine gs_E.call (args := [gp_r (some 6), gp_l ((v1 &&& (gp_L s1 q3 x2.toNat)) &&& (((1#64) <<< (x2 % 64).toNat) ^^^ (BitVec.ofInt 64 (-1))))]) (m := 7) (y' := 1029) (st' := [gp_r (some 13)]) rfl H (fun r s5 H => ?_)
        obtain ⟨x6, rfl, H⟩ := H
        show gs_E L (d + 1) 1543 95 [gp_r (some 41), gp_l v1, gp_n, gp_r (some q3), gp_r (some q4), gp_l (v5 &&& (((1#64) <<< (x2 % 64).toNat) ^^^ (BitVec.ofInt 64 (-1)))), gp_n, gp_i v7, gp_i x2, gp_l ((v1 &&& (gp_L s1 q3 x2.toNat)) &&& (((1#64) <<< (x2 % 64).toNat) ^^^ (BitVec.ofInt 64 (-1)))), gp_n] [gp_i x6, gp_r (some 13)] s5 K
        refine gs_E.ck (pc' := 96) (ls' := [gp_r (some 41), gp_l v1, gp_n, gp_r (some q3), gp_r (some q4), gp_l (v5 &&& (((1#64) <<< (x2 % 64).toNat) ^^^ (BitVec.ofInt 64 (-1)))), gp_n, gp_i v7, gp_i x2, gp_l ((v1 &&& (gp_L s1 q3 x2.toNat)) &&& (((1#64) <<< (x2 % 64).toNat) ^^^ (BitVec.ofInt 64 (-1)))), gp_n]) (st' := [gp_i (gp_I s5 13 x6.toNat)]) (s' := s5) rfl (Or.inl ⟨rfl, H.1.1, H.1.2⟩) ?_
        replace H := H.2
        refine gs_E.stp (pc' := 105) (ls' := [gp_r (some 41), gp_l v1, gp_n, gp_r (some q3), gp_r (some q4), gp_l (v5 &&& (((1#64) <<< (x2 % 64).toNat) ^^^ (BitVec.ofInt 64 (-1)))), gp_n, gp_i v7, gp_i x2, gp_l ((v1 &&& (gp_L s1 q3 x2.toNat)) &&& (((1#64) <<< (x2 % 64).toNat) ^^^ (BitVec.ofInt 64 (-1)))), gp_n]) (st' := [gp_i x2, gp_r (some 13), gp_i (gp_I s5 13 x6.toNat)]) (s' := s5) 4 rfl ?_
        refine gs_E.ck (pc' := 106) (ls' := [gp_r (some 41), gp_l v1, gp_n, gp_r (some q3), gp_r (some q4), gp_l (v5 &&& (((1#64) <<< (x2 % 64).toNat) ^^^ (BitVec.ofInt 64 (-1)))), gp_n, gp_i v7, gp_i x2, gp_l ((v1 &&& (gp_L s1 q3 x2.toNat)) &&& (((1#64) <<< (x2 % 64).toNat) ^^^ (BitVec.ofInt 64 (-1)))), gp_n]) (st' := [gp_i (gp_I s5 13 x2.toNat), gp_i (gp_I s5 13 x6.toNat)]) (s' := s5) rfl (Or.inl ⟨rfl, H.1.1, H.1.2⟩) ?_
        replace H := H.2
        refine gs_E.br (c := ¬ (gp_I s5 13 x6.toNat) < (gp_I s5 13 x2.toNat)) (p1 := 112) (p2 := 109) (l1 := [gp_r (some 41), gp_l v1, gp_n, gp_r (some q3), gp_r (some q4), gp_l (v5 &&& (((1#64) <<< (x2 % 64).toNat) ^^^ (BitVec.ofInt 64 (-1)))), gp_n, gp_i v7, gp_i x2, gp_l ((v1 &&& (gp_L s1 q3 x2.toNat)) &&& (((1#64) <<< (x2 % 64).toNat) ^^^ (BitVec.ofInt 64 (-1)))), gp_n]) (l2 := [gp_r (some 41), gp_l v1, gp_n, gp_r (some q3), gp_r (some q4), gp_l (v5 &&& (((1#64) <<< (x2 % 64).toNat) ^^^ (BitVec.ofInt 64 (-1)))), gp_n, gp_i v7, gp_i x2, gp_l ((v1 &&& (gp_L s1 q3 x2.toNat)) &&& (((1#64) <<< (x2 % 64).toNat) ^^^ (BitVec.ofInt 64 (-1)))), gp_n]) (s1 := []) (s2 := []) rfl gs_b2 (fun hc => ?_) (fun hc => ?_)
        · replace H := H.2 hc
          exact H
        · replace H := H.1 (Decidable.byContradiction hc)
          exact H

set_option maxRecDepth 100000 in
/-- Reducer.firstBeaten, pc 109 -/
theorem s_1543_109 {L d : Nat} {K : Option gV → gH → Prop} {s : gH} (v1 : BitVec 64) (v3 : Option Nat) (v4 : Option Nat) (v5 : BitVec 64) (v7 : Int) (v8 : Int) (v9 : BitVec 64) (H : K (some (gp_i v8)) s) : gs_E L (d + 1) 1543 109 [gp_r (some 41), gp_l v1, gp_n, gp_r v3, gp_r v4, gp_l v5, gp_n, gp_i v7, gp_i v8, gp_l v9, gp_n] [] s K := by
  refine gs_E.stp (pc' := 111) (ls' := [gp_r (some 41), gp_l v1, gp_n, gp_r v3, gp_r v4, gp_l v5, gp_n, gp_i v7, gp_i v8, gp_l v9, gp_n]) (st' := [gp_i v8]) (s' := s) 1 rfl ?_
  exact gs_E.ret (r := (some (gp_i v8))) rfl H

set_option maxRecDepth 100000 in
/-- Reducer.firstBeaten, pc 112 -/
theorem s_1543_112 {L d : Nat} {K : Option gV → gH → Prop} {s : gH} (v1 : BitVec 64) (v3 : Option Nat) (v4 : Option Nat) (v5 : BitVec 64) (v7 : Int) (v8 : Int) (v9 : BitVec 64) (H : gs_E L (d + 1) 1543 9 [gp_r (some 41), gp_l v1, gp_n, gp_r v3, gp_r v4, gp_l v5, gp_n, gp_i (gp_wr (v7 + (-1))), gp_i v8, gp_l v9, gp_n] [] s K) : gs_E L (d + 1) 1543 112 [gp_r (some 41), gp_l v1, gp_n, gp_r v3, gp_r v4, gp_l v5, gp_n, gp_i v7, gp_i v8, gp_l v9, gp_n] [] s K := by
  refine gs_E.stp (pc' := 9) (ls' := [gp_r (some 41), gp_l v1, gp_n, gp_r v3, gp_r v4, gp_l v5, gp_n, gp_i (gp_wr (v7 + (-1))), gp_i v8, gp_l v9, gp_n]) (st' := []) (s' := s) 2 rfl ?_
  exact H

set_option maxRecDepth 100000 in
/-- Sheets.beyond, pc 0 -/
theorem s_1793_e {L d : Nat} {K : Option gV → gH → Prop} {s : gH} (p0 : Int) (H : ((p0 < 0 → gs_E L d 1793 9 [gp_r (some 66), gp_i p0] [] s K) ∧ (¬ p0 < 0 → ((p0 < 4 → gs_E L d 1793 14 [gp_r (some 66), gp_i p0] [gp_i 0] s K) ∧ (¬ p0 < 4 → gs_E L d 1793 9 [gp_r (some 66), gp_i p0] [] s K))))) : gs_C L d 1793 2 [gp_r (some 66), gp_i p0] s K := by
  show gs_E L d 1793 0 [gp_r (some 66), gp_i p0] [] s K
  refine gs_E.stp (pc' := 1) (ls' := [gp_r (some 66), gp_i p0]) (st' := [gp_i p0]) (s' := s) 1 rfl ?_
  refine gs_E.br (c := p0 < 0) (p1 := 9) (p2 := 4) (l1 := [gp_r (some 66), gp_i p0]) (l2 := [gp_r (some 66), gp_i p0]) (s1 := []) (s2 := []) rfl gs_b1 (fun hc => ?_) (fun hc => ?_)
  · replace H := H.1 hc
    exact H
  · replace H := H.2 hc
    refine gs_E.stp (pc' := 6) (ls' := [gp_r (some 66), gp_i p0]) (st' := [gp_i 4, gp_i p0]) (s' := s) 2 rfl ?_
    refine gs_E.br (c := p0 < 4) (p1 := 13) (p2 := 9) (l1 := [gp_r (some 66), gp_i p0]) (l2 := [gp_r (some 66), gp_i p0]) (s1 := []) (s2 := []) rfl gs_b1 (fun hc => ?_) (fun hc => ?_)
    · replace H := H.1 hc
      refine gs_E.stp (pc' := 14) (ls' := [gp_r (some 66), gp_i p0]) (st' := [gp_i 0]) (s' := s) 1 rfl ?_
      exact H
    · replace H := H.2 hc
      exact H

set_option maxRecDepth 100000 in
/-- Sheets.beyond, pc 9 -/
theorem s_1793_9 {L d : Nat} {K : Option gV → gH → Prop} {s : gH} (v1 : Int) (H : gs_E L d 1793 14 [gp_r (some 66), gp_i v1] [gp_i 1] s K) : gs_E L d 1793 9 [gp_r (some 66), gp_i v1] [] s K := by
  refine gs_E.stp (pc' := 14) (ls' := [gp_r (some 66), gp_i v1]) (st' := [gp_i 1]) (s' := s) 2 rfl ?_
  exact H

set_option maxRecDepth 100000 in
/-- Sheets.beyond, pc 14 -/
theorem s_1793_14 {L d : Nat} {K : Option gV → gH → Prop} {s : gH} (v1 : Int) (w0 : Int) (H : ((w0 = 0 ∨ w0 = 1) ∧ K (some (gp_i w0)) s)) : gs_E L d 1793 14 [gp_r (some 66), gp_i v1] [gp_i w0] s K := by
  exact gs_E.retz (r := (some (gp_i w0))) rfl H.1 H.2

set_option maxRecDepth 100000 in
/-- Sheets.missing, pc 0 -/
theorem s_1794_e {L d : Nat} {K : Option gV → gH → Prop} {s : gH} (p0 : Int) (H : ((0 ≤ p0 ∧ p0 < 4) ∧ (((gp_I s 72 p0.toNat) = 0 → gs_E L d 1794 14 [gp_r (some 66), gp_i p0] [gp_i 1] s K) ∧ (¬ (gp_I s 72 p0.toNat) = 0 → gs_E L d 1794 14 [gp_r (some 66), gp_i p0] [gp_i 0] s K)))) : gs_C L d 1794 2 [gp_r (some 66), gp_i p0] s K := by
  show gs_E L d 1794 0 [gp_r (some 66), gp_i p0] [] s K
  refine gs_E.stp (pc' := 5) (ls' := [gp_r (some 66), gp_i p0]) (st' := [gp_i p0, gp_r (some 72)]) (s' := s) 3 rfl ?_
  refine gs_E.ck (pc' := 6) (ls' := [gp_r (some 66), gp_i p0]) (st' := [gp_i (gp_I s 72 p0.toNat)]) (s' := s) rfl (Or.inl ⟨rfl, H.1.1, H.1.2⟩) ?_
  replace H := H.2
  refine gs_E.br (c := ¬ (gp_I s 72 p0.toNat) = 0) (p1 := 13) (p2 := 9) (l1 := [gp_r (some 66), gp_i p0]) (l2 := [gp_r (some 66), gp_i p0]) (s1 := []) (s2 := []) rfl gs_b2 (fun hc => ?_) (fun hc => ?_)
  · replace H := H.2 hc
    refine gs_E.stp (pc' := 14) (ls' := [gp_r (some 66), gp_i p0]) (st' := [gp_i 0]) (s' := s) 1 rfl ?_
    exact H
  · replace H := H.1 (Decidable.byContradiction hc)
    refine gs_E.stp (pc' := 14) (ls' := [gp_r (some 66), gp_i p0]) (st' := [gp_i 1]) (s' := s) 2 rfl ?_
    exact H

set_option maxRecDepth 100000 in
/-- Sheets.missing, pc 14 -/
theorem s_1794_14 {L d : Nat} {K : Option gV → gH → Prop} {s : gH} (v1 : Int) (w0 : Int) (H : ((w0 = 0 ∨ w0 = 1) ∧ K (some (gp_i w0)) s)) : gs_E L d 1794 14 [gp_r (some 66), gp_i v1] [gp_i w0] s K := by
  exact gs_E.retz (r := (some (gp_i w0))) rfl H.1 H.2

set_option maxRecDepth 100000 in
/-- Sheets.lay, pc 0 -/
theorem s_1795_e {L d : Nat} {K : Option gV → gH → Prop} {s : gH} (p0 : Int) (p1 : Int) (p2 : Int) (H : ((0 ≤ p0 ∧ p0 < 4) ∧ (∀ s1, s1 = gp_wI s 72 p0.toNat p1 → ((0 ≤ p0 ∧ p0 < 4) ∧ (∀ s2, s2 = gp_wI s1 73 p0.toNat p2 → gs_E L d 1795 17 [gp_r (some 66), gp_i p0, gp_i p1, gp_i p2, gp_i 0] [] s2 K))))) : gs_C L d 1795 5 [gp_r (some 66), gp_i p0, gp_i p1, gp_i p2] s K := by
  show gs_E L d 1795 0 [gp_r (some 66), gp_i p0, gp_i p1, gp_i p2, gp_n] [] s K
  refine gs_E.stp (pc' := 6) (ls' := [gp_r (some 66), gp_i p0, gp_i p1, gp_i p2, gp_n]) (st' := [gp_i p1, gp_i p0, gp_r (some 72)]) (s' := s) 4 rfl ?_
  refine gs_E.ck (pc' := 7) (ls' := [gp_r (some 66), gp_i p0, gp_i p1, gp_i p2, gp_n]) (st' := []) (s' := gp_wI s 72 p0.toNat p1) rfl ⟨rfl, H.1.1, H.1.2⟩ ?_
  replace H := H.2 _ rfl
  generalize gp_wI s 72 p0.toNat p1 = s1 at H ⊢
  refine gs_E.stp (pc' := 13) (ls' := [gp_r (some 66), gp_i p0, gp_i p1, gp_i p2, gp_n]) (st' := [gp_i p2, gp_i p0, gp_r (some 73)]) (s' := s1) 4 rfl ?_
  refine gs_E.ck (pc' := 14) (ls' := [gp_r (some 66), gp_i p0, gp_i p1, gp_i p2, gp_n]) (st' := []) (s' := gp_wI s1 73 p0.toNat p2) rfl ⟨rfl, H.1.1, H.1.2⟩ ?_
  replace H := H.2 _ rfl
  generalize gp_wI s1 73 p0.toNat p2 = s2 at H ⊢
  refine gs_E.stp (pc' := 17) (ls' := [gp_r (some 66), gp_i p0, gp_i p1, gp_i p2, gp_i 0]) (st' := []) (s' := s2) 2 rfl ?_
  exact H

set_option maxRecDepth 100000 in
/-- Sheets.lay, pc 17 -/
theorem s_1795_17 {L d : Nat} {K : Option gV → gH → Prop} {s : gH} (v1 : Int) (v2 : Int) (v3 : Int) (v4 : Int) (H : ((v4 < 20 → ((0 ≤ v1 ∧ v1 < 4) ∧ (∃ q1, gp_R (gp_mk L s) 67 v1.toNat = some q1 ∧ (gp_in (gp_mk L s) 100 q1 v4 ∧ ∀ s2, s2 = gp_wI s q1 v4.toNat 0 → gs_E L d 1795 17 [gp_r (some 66), gp_i v1, gp_i v2, gp_i v3, gp_i (gp_wr (v4 + 1))] [] s2 K)))) ∧ (¬ v4 < 20 → K none s))) : gs_E L d 1795 17 [gp_r (some 66), gp_i v1, gp_i v2, gp_i v3, gp_i v4] [] s K := by
  refine gs_E.stp (pc' := 21) (ls' := [gp_r (some 66), gp_i v1, gp_i v2, gp_i v3, gp_i v4]) (st' := [gp_i 20, gp_i v4]) (s' := s) 2 rfl ?_
  refine gs_E.br (c := ¬ v4 < 20) (p1 := 40) (p2 := 24) (l1 := [gp_r (some 66), gp_i v1, gp_i v2, gp_i v3, gp_i v4]) (l2 := [gp_r (some 66), gp_i v1, gp_i v2, gp_i v3, gp_i v4]) (s1 := []) (s2 := []) rfl gs_b2 (fun hc => ?_) (fun hc => ?_)
  · replace H := H.2 hc
    exact gs_E.ret (r := none) rfl H
  · replace H := H.1 (Decidable.byContradiction hc)
    refine gs_E.stp (pc' := 29) (ls' := [gp_r (some 66), gp_i v1, gp_i v2, gp_i v3, gp_i v4]) (st' := [gp_i v1, gp_r (some 67)]) (s' := s) 3 rfl ?_
    refine gs_E.ck (pc' := 30) (ls' := [gp_r (some 66), gp_i v1, gp_i v2, gp_i v3, gp_i v4]) (st' := [gp_r (gp_R (gp_mk L s) 67 v1.toNat)]) (s' := s) rfl (Or.inr ⟨rfl, H.1.1, H.1.2⟩) ?_
    replace H := H.2
    refine gs_E.stp (pc' := 33) (ls' := [gp_r (some 66), gp_i v1, gp_i v2, gp_i v3, gp_i v4]) (st' := [gp_i 0, gp_i v4, gp_r (gp_R (gp_mk L s) 67 v1.toNat)]) (s' := s) 2 rfl ?_
    obtain ⟨q1, hq, H⟩ := H
    rw [hq]
    refine gs_E.ck (pc' := 34) (ls' := [gp_r (some 66), gp_i v1, gp_i v2, gp_i v3, gp_i v4]) (st' := []) (s' := gp_wI s q1 v4.toNat 0) rfl H.1 ?_
    replace H := H.2 _ rfl
    generalize gp_wI s q1 v4.toNat 0 = s2 at H ⊢
    refine gs_E.stp (pc' := 17) (ls' := [gp_r (some 66), gp_i v1, gp_i v2, gp_i v3, gp_i (gp_wr (v4 + 1))]) (st' := []) (s' := s2) 2 rfl ?_
    exact H

set_option maxRecDepth 100000 in
/-- Sheets.write, pc 0 -/
theorem s_1796_e {L d : Nat} {K : Option gV → gH → Prop} {s : gH} (p0 : Int) (p1 : Int) (p2 : Int) (H : ((0 ≤ p0 ∧ p0 < 4) ∧ ((0 ≤ p0 ∧ p0 < 4) ∧ (((gp_I s 72 p0.toNat) = 8 → gs_E L d 1796 40 [gp_r (some 66), gp_i p0, gp_i p1, gp_i p2] [gp_i (gp_b p2), gp_i p1, gp_r (gp_R (gp_mk L s) 67 p0.toNat)] s K) ∧ (¬ (gp_I s 72 p0.toNat) = 8 → ((0 ≤ p0 ∧ p0 < 4) ∧ (((gp_I s 72 p0.toNat) = 16 → gs_E L d 1796 40 [gp_r (some 66), gp_i p0, gp_i p1, gp_i p2] [gp_i (gp_s p2), gp_i p1, gp_r (gp_R (gp_mk L s) 67 p0.toNat)] s K) ∧ (¬ (gp_I s 72 p0.toNat) = 16 → gs_E L d 1796 40 [gp_r (some 66), gp_i p0, gp_i p1, gp_i p2] [gp_i p2, gp_i p1, gp_r (gp_R (gp_mk L s) 67 p0.toNat)] s K)))))))) : gs_C L d 1796 4 [gp_r (some 66), gp_i p0, gp_i p1, gp_i p2] s K := by
  show gs_E L d 1796 0 [gp_r (some 66), gp_i p0, gp_i p1, gp_i p2] [] s K
  refine gs_E.stp (pc' := 5) (ls' := [gp_r (some 66), gp_i p0, gp_i p1, gp_i p2]) (st' := [gp_i p0, gp_r (some 67)]) (s' := s) 3 rfl ?_
  refine gs_E.ck (pc' := 6) (ls' := [gp_r (some 66), gp_i p0, gp_i p1, gp_i p2]) (st' := [gp_r (gp_R (gp_mk L s) 67 p0.toNat)]) (s' := s) rfl (Or.inr ⟨rfl, H.1.1, H.1.2⟩) ?_
  replace H := H.2
  refine gs_E.stp (pc' := 12) (ls' := [gp_r (some 66), gp_i p0, gp_i p1, gp_i p2]) (st' := [gp_i p0, gp_r (some 72), gp_i p1, gp_r (gp_R (gp_mk L s) 67 p0.toNat)]) (s' := s) 4 rfl ?_
  refine gs_E.ck (pc' := 13) (ls' := [gp_r (some 66), gp_i p0, gp_i p1, gp_i p2]) (st' := [gp_i (gp_I s 72 p0.toNat), gp_i p1, gp_r (gp_R (gp_mk L s) 67 p0.toNat)]) (s' := s) rfl (Or.inl ⟨rfl, H.1.1, H.1.2⟩) ?_
  replace H := H.2
  refine gs_E.stp (pc' := 15) (ls' := [gp_r (some 66), gp_i p0, gp_i p1, gp_i p2]) (st' := [gp_i 8, gp_i (gp_I s 72 p0.toNat), gp_i p1, gp_r (gp_R (gp_mk L s) 67 p0.toNat)]) (s' := s) 1 rfl ?_
  refine gs_E.br (c := ¬ (gp_I s 72 p0.toNat) = 8) (p1 := 23) (p2 := 18) (l1 := [gp_r (some 66), gp_i p0, gp_i p1, gp_i p2]) (l2 := [gp_r (some 66), gp_i p0, gp_i p1, gp_i p2]) (s1 := [gp_i p1, gp_r (gp_R (gp_mk L s) 67 p0.toNat)]) (s2 := [gp_i p1, gp_r (gp_R (gp_mk L s) 67 p0.toNat)]) rfl gs_b2 (fun hc => ?_) (fun hc => ?_)
  · replace H := H.2 hc
    refine gs_E.stp (pc' := 28) (ls' := [gp_r (some 66), gp_i p0, gp_i p1, gp_i p2]) (st' := [gp_i p0, gp_r (some 72), gp_i p1, gp_r (gp_R (gp_mk L s) 67 p0.toNat)]) (s' := s) 3 rfl ?_
    refine gs_E.ck (pc' := 29) (ls' := [gp_r (some 66), gp_i p0, gp_i p1, gp_i p2]) (st' := [gp_i (gp_I s 72 p0.toNat), gp_i p1, gp_r (gp_R (gp_mk L s) 67 p0.toNat)]) (s' := s) rfl (Or.inl ⟨rfl, H.1.1, H.1.2⟩) ?_
    replace H := H.2
    refine gs_E.stp (pc' := 31) (ls' := [gp_r (some 66), gp_i p0, gp_i p1, gp_i p2]) (st' := [gp_i 16, gp_i (gp_I s 72 p0.toNat), gp_i p1, gp_r (gp_R (gp_mk L s) 67 p0.toNat)]) (s' := s) 1 rfl ?_
    refine gs_E.br (c := ¬ (gp_I s 72 p0.toNat) = 16) (p1 := 39) (p2 := 34) (l1 := [gp_r (some 66), gp_i p0, gp_i p1, gp_i p2]) (l2 := [gp_r (some 66), gp_i p0, gp_i p1, gp_i p2]) (s1 := [gp_i p1, gp_r (gp_R (gp_mk L s) 67 p0.toNat)]) (s2 := [gp_i p1, gp_r (gp_R (gp_mk L s) 67 p0.toNat)]) rfl gs_b2 (fun hc => ?_) (fun hc => ?_)
    · replace H := H.2 hc
      refine gs_E.stp (pc' := 40) (ls' := [gp_r (some 66), gp_i p0, gp_i p1, gp_i p2]) (st' := [gp_i p2, gp_i p1, gp_r (gp_R (gp_mk L s) 67 p0.toNat)]) (s' := s) 1 rfl ?_
      exact H
    · replace H := H.1 (Decidable.byContradiction hc)
      refine gs_E.stp (pc' := 40) (ls' := [gp_r (some 66), gp_i p0, gp_i p1, gp_i p2]) (st' := [gp_i (gp_s p2), gp_i p1, gp_r (gp_R (gp_mk L s) 67 p0.toNat)]) (s' := s) 3 rfl ?_
      exact H
  · replace H := H.1 (Decidable.byContradiction hc)
    refine gs_E.stp (pc' := 40) (ls' := [gp_r (some 66), gp_i p0, gp_i p1, gp_i p2]) (st' := [gp_i (gp_b p2), gp_i p1, gp_r (gp_R (gp_mk L s) 67 p0.toNat)]) (s' := s) 3 rfl ?_
    exact H

set_option maxRecDepth 100000 in
/-- Sheets.write, pc 40 -/
theorem s_1796_40 {L d : Nat} {K : Option gV → gH → Prop} {s : gH} (v1 : Int) (v2 : Int) (v3 : Int) (w0 : Option Nat) (w1 : Int) (w2 : Int) (H : (∃ q1, w0 = some q1 ∧ (gp_in (gp_mk L s) 100 q1 w1 ∧ ∀ s2, s2 = gp_wI s q1 w1.toNat w2 → K none s2))) : gs_E L d 1796 40 [gp_r (some 66), gp_i v1, gp_i v2, gp_i v3] [gp_i w2, gp_i w1, gp_r w0] s K := by
  obtain ⟨q1, hq, H⟩ := H
  rw [hq]
  refine gs_E.ck (pc' := 41) (ls' := [gp_r (some 66), gp_i v1, gp_i v2, gp_i v3]) (st' := []) (s' := gp_wI s q1 w1.toNat w2) rfl H.1 ?_
  replace H := H.2 _ rfl
  generalize gp_wI s q1 w1.toNat w2 = s2 at H ⊢
  exact gs_E.ret (r := none) rfl H

set_option maxRecDepth 100000 in
/-- Sheets.stand, pc 0 -/
theorem s_1797_e {L d : Nat} {K : Option gV → gH → Prop} {s : gH} (p0 : Int) (p1 : Int) (p2 : Int) (H : ((p2 < 0 → gs_E L d 1797 34 [gp_r (some 66), gp_i p0, gp_i p1, gp_i p2] [] s K) ∧ (¬ p2 < 0 → ((p1 < 0 → gs_E L d 1797 34 [gp_r (some 66), gp_i p0, gp_i p1, gp_i p2] [] s K) ∧ (¬ p1 < 0 → ((0 ≤ p0 ∧ p0 < 4) ∧ (((gp_I s 73 p0.toNat) < p1 → gs_E L d 1797 34 [gp_r (some 66), gp_i p0, gp_i p1, gp_i p2] [] s K) ∧ (¬ (gp_I s 73 p0.toNat) < p1 → ((0 ≤ p0 ∧ p0 < 4) ∧ (((gp_wr ((gp_I s 73 p0.toNat) - p1)) < p2 → gs_E L d 1797 34 [gp_r (some 66), gp_i p0, gp_i p1, gp_i p2] [] s K) ∧ (¬ (gp_wr ((gp_I s 73 p0.toNat) - p1)) < p2 → gs_E L d 1797 35 [gp_r (some 66), gp_i p0, gp_i p1, gp_i p2] [gp_i 1] s K))))))))))) : gs_C L d 1797 4 [gp_r (some 66), gp_i p0, gp_i p1, gp_i p2] s K := by
  show gs_E L d 1797 0 [gp_r (some 66), gp_i p0, gp_i p1, gp_i p2] [] s K
  refine gs_E.stp (pc' := 1) (ls' := [gp_r (some 66), gp_i p0, gp_i p1, gp_i p2]) (st' := [gp_i p2]) (s' := s) 1 rfl ?_
  refine gs_E.br (c := p2 < 0) (p1 := 34) (p2 := 4) (l1 := [gp_r (some 66), gp_i p0, gp_i p1, gp_i p2]) (l2 := [gp_r (some 66), gp_i p0, gp_i p1, gp_i p2]) (s1 := []) (s2 := []) rfl gs_b1 (fun hc => ?_) (fun hc => ?_)
  · replace H := H.1 hc
    exact H
  · replace H := H.2 hc
    refine gs_E.stp (pc' := 5) (ls' := [gp_r (some 66), gp_i p0, gp_i p1, gp_i p2]) (st' := [gp_i p1]) (s' := s) 1 rfl ?_
    refine gs_E.br (c := p1 < 0) (p1 := 34) (p2 := 8) (l1 := [gp_r (some 66), gp_i p0, gp_i p1, gp_i p2]) (l2 := [gp_r (some 66), gp_i p0, gp_i p1, gp_i p2]) (s1 := []) (s2 := []) rfl gs_b1 (fun hc => ?_) (fun hc => ?_)
    · replace H := H.1 hc
      exact H
    · replace H := H.2 hc
      refine gs_E.stp (pc' := 14) (ls' := [gp_r (some 66), gp_i p0, gp_i p1, gp_i p2]) (st' := [gp_i p0, gp_r (some 73), gp_i p1]) (s' := s) 4 rfl ?_
      refine gs_E.ck (pc' := 15) (ls' := [gp_r (some 66), gp_i p0, gp_i p1, gp_i p2]) (st' := [gp_i (gp_I s 73 p0.toNat), gp_i p1]) (s' := s) rfl (Or.inl ⟨rfl, H.1.1, H.1.2⟩) ?_
      replace H := H.2
      refine gs_E.br (c := (gp_I s 73 p0.toNat) < p1) (p1 := 34) (p2 := 18) (l1 := [gp_r (some 66), gp_i p0, gp_i p1, gp_i p2]) (l2 := [gp_r (some 66), gp_i p0, gp_i p1, gp_i p2]) (s1 := []) (s2 := []) rfl gs_b1 (fun hc => ?_) (fun hc => ?_)
      · replace H := H.1 hc
        exact H
      · replace H := H.2 hc
        refine gs_E.stp (pc' := 24) (ls' := [gp_r (some 66), gp_i p0, gp_i p1, gp_i p2]) (st' := [gp_i p0, gp_r (some 73), gp_i p2]) (s' := s) 4 rfl ?_
        refine gs_E.ck (pc' := 25) (ls' := [gp_r (some 66), gp_i p0, gp_i p1, gp_i p2]) (st' := [gp_i (gp_I s 73 p0.toNat), gp_i p2]) (s' := s) rfl (Or.inl ⟨rfl, H.1.1, H.1.2⟩) ?_
        replace H := H.2
        refine gs_E.stp (pc' := 27) (ls' := [gp_r (some 66), gp_i p0, gp_i p1, gp_i p2]) (st' := [gp_i (gp_wr ((gp_I s 73 p0.toNat) - p1)), gp_i p2]) (s' := s) 2 rfl ?_
        refine gs_E.br (c := (gp_wr ((gp_I s 73 p0.toNat) - p1)) < p2) (p1 := 34) (p2 := 30) (l1 := [gp_r (some 66), gp_i p0, gp_i p1, gp_i p2]) (l2 := [gp_r (some 66), gp_i p0, gp_i p1, gp_i p2]) (s1 := []) (s2 := []) rfl gs_b1 (fun hc => ?_) (fun hc => ?_)
        · replace H := H.1 hc
          exact H
        · replace H := H.2 hc
          refine gs_E.stp (pc' := 35) (ls' := [gp_r (some 66), gp_i p0, gp_i p1, gp_i p2]) (st' := [gp_i 1]) (s' := s) 2 rfl ?_
          exact H

set_option maxRecDepth 100000 in
/-- Sheets.stand, pc 34 -/
theorem s_1797_34 {L d : Nat} {K : Option gV → gH → Prop} {s : gH} (v1 : Int) (v2 : Int) (v3 : Int) (H : gs_E L d 1797 35 [gp_r (some 66), gp_i v1, gp_i v2, gp_i v3] [gp_i 0] s K) : gs_E L d 1797 34 [gp_r (some 66), gp_i v1, gp_i v2, gp_i v3] [] s K := by
  refine gs_E.stp (pc' := 35) (ls' := [gp_r (some 66), gp_i v1, gp_i v2, gp_i v3]) (st' := [gp_i 0]) (s' := s) 1 rfl ?_
  exact H

set_option maxRecDepth 100000 in
/-- Sheets.stand, pc 35 -/
theorem s_1797_35 {L d : Nat} {K : Option gV → gH → Prop} {s : gH} (v1 : Int) (v2 : Int) (v3 : Int) (w0 : Int) (H : ((w0 = 0 ∨ w0 = 1) ∧ K (some (gp_i w0)) s)) : gs_E L d 1797 35 [gp_r (some 66), gp_i v1, gp_i v2, gp_i v3] [gp_i w0] s K := by
  exact gs_E.retz (r := (some (gp_i w0))) rfl H.1 H.2

set_option maxRecDepth 100000 in
/-- Sheets.tooBig, pc 0 -/
theorem s_1798_e {L d : Nat} {K : Option gV → gH → Prop} {s : gH} (p0 : Int) (H : gs_E L d 1798 2 [gp_r (some 66), gp_i p0, gp_i 0] [] s K) : gs_C L d 1798 3 [gp_r (some 66), gp_i p0] s K := by
  show gs_E L d 1798 0 [gp_r (some 66), gp_i p0, gp_n] [] s K
  refine gs_E.stp (pc' := 2) (ls' := [gp_r (some 66), gp_i p0, gp_i 0]) (st' := []) (s' := s) 2 rfl ?_
  exact H

set_option maxRecDepth 100000 in
/-- Sheets.tooBig, pc 2 -/
theorem s_1798_2 {L d : Nat} {K : Option gV → gH → Prop} {s : gH} (v1 : Int) (v2 : Int) (H : ((0 ≤ v1 ∧ v1 < 4) ∧ ((v2 < (gp_I s 73 v1.toNat) → ((0 ≤ v1 ∧ v1 < 4) ∧ (∃ q1, gp_R (gp_mk L s) 67 v1.toNat = some q1 ∧ (gp_in (gp_mk L s) 100 q1 v2 ∧ ((99999 < (gp_I s q1 v2.toNat) → gs_E L d 1798 38 [gp_r (some 66), gp_i v1, gp_i v2] [] s K) ∧ (¬ 99999 < (gp_I s q1 v2.toNat) → ((0 ≤ v1 ∧ v1 < 4) ∧ (∃ q2, gp_R (gp_mk L s) 67 v1.toNat = some q2 ∧ (gp_in (gp_mk L s) 100 q2 v2 ∧ (((gp_I s q2 v2.toNat) < (-99999) → gs_E L d 1798 38 [gp_r (some 66), gp_i v1, gp_i v2] [] s K) ∧ (¬ (gp_I s q2 v2.toNat) < (-99999) → gs_E L d 1798 2 [gp_r (some 66), gp_i v1, gp_i (gp_wr (v2 + 1))] [] s K))))))))))) ∧ (¬ v2 < (gp_I s 73 v1.toNat) → K (some (gp_i 0)) s)))) : gs_E L d 1798 2 [gp_r (some 66), gp_i v1, gp_i v2] [] s K := by
  refine gs_E.stp (pc' := 8) (ls' := [gp_r (some 66), gp_i v1, gp_i v2]) (st' := [gp_i v1, gp_r (some 73), gp_i v2]) (s' := s) 4 rfl ?_
  refine gs_E.ck (pc' := 9) (ls' := [gp_r (some 66), gp_i v1, gp_i v2]) (st' := [gp_i (gp_I s 73 v1.toNat), gp_i v2]) (s' := s) rfl (Or.inl ⟨rfl, H.1.1, H.1.2⟩) ?_
  replace H := H.2
  refine gs_E.br (c := ¬ v2 < (gp_I s 73 v1.toNat)) (p1 := 46) (p2 := 12) (l1 := [gp_r (some 66), gp_i v1, gp_i v2]) (l2 := [gp_r (some 66), gp_i v1, gp_i v2]) (s1 := []) (s2 := []) rfl gs_b2 (fun hc => ?_) (fun hc => ?_)
  · replace H := H.2 hc
    refine gs_E.stp (pc' := 47) (ls' := [gp_r (some 66), gp_i v1, gp_i v2]) (st' := [gp_i 0]) (s' := s) 1 rfl ?_
    exact gs_E.ret (r := (some (gp_i 0))) rfl H
  · replace H := H.1 (Decidable.byContradiction hc)
    refine gs_E.stp (pc' := 17) (ls' := [gp_r (some 66), gp_i v1, gp_i v2]) (st' := [gp_i v1, gp_r (some 67)]) (s' := s) 3 rfl ?_
    refine gs_E.ck (pc' := 18) (ls' := [gp_r (some 66), gp_i v1, gp_i v2]) (st' := [gp_r (gp_R (gp_mk L s) 67 v1.toNat)]) (s' := s) rfl (Or.inr ⟨rfl, H.1.1, H.1.2⟩) ?_
    replace H := H.2
    refine gs_E.stp (pc' := 19) (ls' := [gp_r (some 66), gp_i v1, gp_i v2]) (st' := [gp_i v2, gp_r (gp_R (gp_mk L s) 67 v1.toNat)]) (s' := s) 1 rfl ?_
    obtain ⟨q1, hq, H⟩ := H
    rw [hq]
    refine gs_E.ck (pc' := 20) (ls' := [gp_r (some 66), gp_i v1, gp_i v2]) (st' := [gp_i (gp_I s q1 v2.toNat)]) (s' := s) rfl (Or.inl H.1) ?_
    replace H := H.2
    refine gs_E.stp (pc' := 22) (ls' := [gp_r (some 66), gp_i v1, gp_i v2]) (st' := [gp_i 99999, gp_i (gp_I s q1 v2.toNat)]) (s' := s) 1 rfl ?_
    refine gs_E.br (c := 99999 < (gp_I s q1 v2.toNat)) (p1 := 38) (p2 := 25) (l1 := [gp_r (some 66), gp_i v1, gp_i v2]) (l2 := [gp_r (some 66), gp_i v1, gp_i v2]) (s1 := []) (s2 := []) rfl gs_b1 (fun hc => ?_) (fun hc => ?_)
    · replace H := H.1 hc
      exact H
    · replace H := H.2 hc
      refine gs_E.stp (pc' := 30) (ls' := [gp_r (some 66), gp_i v1, gp_i v2]) (st' := [gp_i v1, gp_r (some 67)]) (s' := s) 3 rfl ?_
      refine gs_E.ck (pc' := 31) (ls' := [gp_r (some 66), gp_i v1, gp_i v2]) (st' := [gp_r (gp_R (gp_mk L s) 67 v1.toNat)]) (s' := s) rfl (Or.inr ⟨rfl, H.1.1, H.1.2⟩) ?_
      replace H := H.2
      refine gs_E.stp (pc' := 32) (ls' := [gp_r (some 66), gp_i v1, gp_i v2]) (st' := [gp_i v2, gp_r (gp_R (gp_mk L s) 67 v1.toNat)]) (s' := s) 1 rfl ?_
      obtain ⟨q2, hq, H⟩ := H
      rw [hq]
      refine gs_E.ck (pc' := 33) (ls' := [gp_r (some 66), gp_i v1, gp_i v2]) (st' := [gp_i (gp_I s q2 v2.toNat)]) (s' := s) rfl (Or.inl H.1) ?_
      replace H := H.2
      refine gs_E.stp (pc' := 35) (ls' := [gp_r (some 66), gp_i v1, gp_i v2]) (st' := [gp_i (-99999), gp_i (gp_I s q2 v2.toNat)]) (s' := s) 1 rfl ?_
      refine gs_E.br (c := ¬ (gp_I s q2 v2.toNat) < (-99999)) (p1 := 40) (p2 := 38) (l1 := [gp_r (some 66), gp_i v1, gp_i v2]) (l2 := [gp_r (some 66), gp_i v1, gp_i v2]) (s1 := []) (s2 := []) rfl gs_b2 (fun hc => ?_) (fun hc => ?_)
      · replace H := H.2 hc
        refine gs_E.stp (pc' := 2) (ls' := [gp_r (some 66), gp_i v1, gp_i (gp_wr (v2 + 1))]) (st' := []) (s' := s) 2 rfl ?_
        exact H
      · replace H := H.1 (Decidable.byContradiction hc)
        exact H

set_option maxRecDepth 100000 in
/-- Sheets.tooBig, pc 38 -/
theorem s_1798_38 {L d : Nat} {K : Option gV → gH → Prop} {s : gH} (v1 : Int) (v2 : Int) (H : K (some (gp_i 1)) s) : gs_E L d 1798 38 [gp_r (some 66), gp_i v1, gp_i v2] [] s K := by
  refine gs_E.stp (pc' := 39) (ls' := [gp_r (some 66), gp_i v1, gp_i v2]) (st' := [gp_i 1]) (s' := s) 1 rfl ?_
  exact gs_E.ret (r := (some (gp_i 1))) rfl H

set_option maxRecDepth 100000 in
/-- Sum.lay, pc 0 -/
theorem s_2049_e {L d : Nat} {K : Option gV → gH → Prop} {s : gH} (this : Option Nat) (p0 : Int) (p1 : Option Nat) (H : (∃ q1, this = some q1 ∧ ((gp_sh (gp_mk L s) q1).1 = 8 ∧ ∀ s2, s2 = gp_wI s q1 2 p0 → ((gp_sh (gp_mk L s2) q1).1 = 8 ∧ ∀ s3, s3 = gp_wI s2 q1 4 0 → gs_E L (d + 1) 2049 12 [gp_r (some q1), gp_i p0, gp_r p1, gp_i 0] [] s3 K)))) : gs_C L (d + 1) 2049 4 [gp_r this, gp_i p0, gp_r p1] s K := by
  show gs_E L (d + 1) 2049 0 [gp_r this, gp_i p0, gp_r p1, gp_n] [] s K
  refine gs_E.stp (pc' := 2) (ls' := [gp_r this, gp_i p0, gp_r p1, gp_n]) (st' := [gp_i p0, gp_r this]) (s' := s) 2 rfl ?_
  obtain ⟨q1, hq, H⟩ := H
  rw [hq]
  refine gs_E.ck (pc' := 5) (ls' := [gp_r (some q1), gp_i p0, gp_r p1, gp_n]) (st' := []) (s' := gp_wI s q1 2 p0) rfl ⟨H.1, Or.inl rfl⟩ ?_
  replace H := H.2 _ rfl
  generalize gp_wI s q1 2 p0 = s2 at H ⊢
  refine gs_E.stp (pc' := 7) (ls' := [gp_r (some q1), gp_i p0, gp_r p1, gp_n]) (st' := [gp_i 0, gp_r (some q1)]) (s' := s2) 2 rfl ?_
  refine gs_E.ck (pc' := 10) (ls' := [gp_r (some q1), gp_i p0, gp_r p1, gp_n]) (st' := []) (s' := gp_wI s2 q1 4 0) rfl ⟨H.1, Or.inl rfl⟩ ?_
  replace H := H.2 _ rfl
  generalize gp_wI s2 q1 4 0 = s3 at H ⊢
  refine gs_E.stp (pc' := 12) (ls' := [gp_r (some q1), gp_i p0, gp_r p1, gp_i 0]) (st' := []) (s' := s3) 2 rfl ?_
  exact H

set_option maxRecDepth 100000 in
/-- Sum.lay, pc 12 -/
theorem s_2049_12 {L d : Nat} {K : Option gV → gH → Prop} {s : gH} (v0 : Option Nat) (v1 : Int) (v2 : Option Nat) (v3 : Int) (H : ((v3 < 8 → (∃ q1, v0 = some q1 ∧ ((gp_sh (gp_mk L s) q1).1 = 8 ∧ (((gp_I s q1 4) < 3 → (((gp_and (gp_shr v1 v3) 1) = 0 → gs_E L (d + 1) 2049 65 [gp_r (some q1), gp_i v1, gp_r v2, gp_i v3] [] s K) ∧ (¬ (gp_and (gp_shr v1 v3) 1) = 0 → ((gp_sh (gp_mk L s) q1).1 = 8 ∧ ((gp_sh (gp_mk L s) q1).1 = 8 ∧ (∃ q2, gp_R (gp_mk L s) q1 3 = some q2 ∧ (gp_in (gp_mk L s) 100 q2 (gp_I s q1 4) ∧ ∀ s3, s3 = gp_wI s q2 (gp_I s q1 4).toNat v3 → ((gp_sh (gp_mk L s3) q1).1 = 8 ∧ (∃ q4, v2 = some q4 ∧ (gp_in (gp_mk L s3) 103 q4 v3 ∧ ((gp_sh (gp_mk L s3) q1).1 = 8 ∧ gs_C L d 2050 3 [gp_r (some q1), gp_i (gp_I s3 q1 4), gp_r (gp_R (gp_mk L s3) q4 v3.toNat)] s3 (fun r s5 => r = none ∧ ((gp_sh (gp_mk L s5) q1).1 = 8 ∧ ((gp_sh (gp_mk L s5) q1).1 = 8 ∧ ∀ s6, s6 = gp_wI s5 q1 4 (gp_wr ((gp_I s5 q1 4) + 1)) → gs_E L (d + 1) 2049 65 [gp_r (some q1), gp_i v1, gp_r (some q4), gp_i v3] [] s6 K)))))))))))))) ∧ (¬ (gp_I s q1 4) < 3 → gs_E L (d + 1) 2049 71 [gp_r (some q1), gp_i v1, gp_r v2, gp_i v3] [] s K))))) ∧ (¬ v3 < 8 → gs_E L (d + 1) 2049 71 [gp_r v0, gp_i v1, gp_r v2, gp_i v3] [] s K))) : gs_E L (d + 1) 2049 12 [gp_r v0, gp_i v1, gp_r v2, gp_i v3] [] s K := by
  refine gs_E.stp (pc' := 15) (ls' := [gp_r v0, gp_i v1, gp_r v2, gp_i v3]) (st' := [gp_i 8, gp_i v3]) (s' := s) 2 rfl ?_
  refine gs_E.br (c := ¬ v3 < 8) (p1 := 71) (p2 := 18) (l1 := [gp_r v0, gp_i v1, gp_r v2, gp_i v3]) (l2 := [gp_r v0, gp_i v1, gp_r v2, gp_i v3]) (s1 := []) (s2 := []) rfl gs_b2 (fun hc => ?_) (fun hc => ?_)
  · replace H := H.2 hc
    exact H
  · replace H := H.1 (Decidable.byContradiction hc)
    refine gs_E.stp (pc' := 19) (ls' := [gp_r v0, gp_i v1, gp_r v2, gp_i v3]) (st' := [gp_r v0]) (s' := s) 1 rfl ?_
    obtain ⟨q1, hq, H⟩ := H
    rw [hq]
    refine gs_E.ck (pc' := 22) (ls' := [gp_r (some q1), gp_i v1, gp_r v2, gp_i v3]) (st' := [gp_i (gp_I s q1 4)]) (s' := s) rfl H.1 ?_
    replace H := H.2
    refine gs_E.stp (pc' := 23) (ls' := [gp_r (some q1), gp_i v1, gp_r v2, gp_i v3]) (st' := [gp_i 3, gp_i (gp_I s q1 4)]) (s' := s) 1 rfl ?_
    refine gs_E.br (c := ¬ (gp_I s q1 4) < 3) (p1 := 71) (p2 := 26) (l1 := [gp_r (some q1), gp_i v1, gp_r v2, gp_i v3]) (l2 := [gp_r (some q1), gp_i v1, gp_r v2, gp_i v3]) (s1 := []) (s2 := []) rfl gs_b2 (fun hc => ?_) (fun hc => ?_)
    · replace H := H.2 hc
      exact H
    · replace H := H.1 (Decidable.byContradiction hc)
      refine gs_E.stp (pc' := 31) (ls' := [gp_r (some q1), gp_i v1, gp_r v2, gp_i v3]) (st' := [gp_i (gp_and (gp_shr v1 v3) 1)]) (s' := s) 5 rfl ?_
      refine gs_E.br (c := (gp_and (gp_shr v1 v3) 1) = 0) (p1 := 65) (p2 := 34) (l1 := [gp_r (some q1), gp_i v1, gp_r v2, gp_i v3]) (l2 := [gp_r (some q1), gp_i v1, gp_r v2, gp_i v3]) (s1 := []) (s2 := []) rfl gs_b1 (fun hc => ?_) (fun hc => ?_)
      · replace H := H.1 hc
        exact H
      · replace H := H.2 hc
        refine gs_E.stp (pc' := 35) (ls' := [gp_r (some q1), gp_i v1, gp_r v2, gp_i v3]) (st' := [gp_r (some q1)]) (s' := s) 1 rfl ?_
        refine gs_E.ck (pc' := 38) (ls' := [gp_r (some q1), gp_i v1, gp_r v2, gp_i v3]) (st' := [gp_r (gp_R (gp_mk L s) q1 3)]) (s' := s) rfl H.1 ?_
        replace H := H.2
        refine gs_E.stp (pc' := 39) (ls' := [gp_r (some q1), gp_i v1, gp_r v2, gp_i v3]) (st' := [gp_r (some q1), gp_r (gp_R (gp_mk L s) q1 3)]) (s' := s) 1 rfl ?_
        refine gs_E.ck (pc' := 42) (ls' := [gp_r (some q1), gp_i v1, gp_r v2, gp_i v3]) (st' := [gp_i (gp_I s q1 4), gp_r (gp_R (gp_mk L s) q1 3)]) (s' := s) rfl H.1 ?_
        replace H := H.2
        refine gs_E.stp (pc' := 43) (ls' := [gp_r (some q1), gp_i v1, gp_r v2, gp_i v3]) (st' := [gp_i v3, gp_i (gp_I s q1 4), gp_r (gp_R (gp_mk L s) q1 3)]) (s' := s) 1 rfl ?_
        obtain ⟨q2, hq, H⟩ := H
        rw [hq]
        refine gs_E.ck (pc' := 44) (ls' := [gp_r (some q1), gp_i v1, gp_r v2, gp_i v3]) (st' := []) (s' := gp_wI s q2 (gp_I s q1 4).toNat v3) rfl H.1 ?_
        replace H := H.2 _ rfl
        generalize gp_wI s q2 (gp_I s q1 4).toNat v3 = s3 at H ⊢
        refine gs_E.stp (pc' := 46) (ls' := [gp_r (some q1), gp_i v1, gp_r v2, gp_i v3]) (st' := [gp_r (some q1), gp_r (some q1)]) (s' := s3) 2 rfl ?_
        refine gs_E.ck (pc' := 49) (ls' := [gp_r (some q1), gp_i v1, gp_r v2, gp_i v3]) (st' := [gp_i (gp_I s3 q1 4), gp_r (some q1)]) (s' := s3) rfl H.1 ?_
        replace H := H.2
        refine gs_E.stp (pc' := 51) (ls' := [gp_r (some q1), gp_i v1, gp_r v2, gp_i v3]) (st' := [gp_i v3, gp_r v2, gp_i (gp_I s3 q1 4), gp_r (some q1)]) (s' := s3) 2 rfl ?_
        obtain ⟨q4, hq, H⟩ := H
        rw [hq]
        refine gs_E.ck (pc' := 52) (ls' := [gp_r (some q1), gp_i v1, gp_r (some q4), gp_i v3]) (st' := [gp_r (gp_R (gp_mk L s3) q4 v3.toNat), gp_i (gp_I s3 q1 4), gp_r (some q1)]) (s' := s3) rfl (Or.inl H.1) ?_
        replace H := H.2
        refine gs_E.callV (args := [gp_r (some q1), gp_i (gp_I s3 q1 4), gp_r (gp_R (gp_mk L s3) q4 v3.toNat)]) (m := 3) (y' := 2050) (st' := []) rfl H.1 H.2 (fun r s5 H => ?_)
        obtain ⟨rfl, H⟩ := H
        show gs_E L (d + 1) 2049 55 [gp_r (some q1), gp_i v1, gp_r (some q4), gp_i v3] [] s5 K
        refine gs_E.stp (pc' := 57) (ls' := [gp_r (some q1), gp_i v1, gp_r (some q4), gp_i v3]) (st' := [gp_r (some q1), gp_r (some q1)]) (s' := s5) 2 rfl ?_
        refine gs_E.ck (pc' := 60) (ls' := [gp_r (some q1), gp_i v1, gp_r (some q4), gp_i v3]) (st' := [gp_i (gp_I s5 q1 4), gp_r (some q1)]) (s' := s5) rfl H.1 ?_
        replace H := H.2
        refine gs_E.stp (pc' := 62) (ls' := [gp_r (some q1), gp_i v1, gp_r (some q4), gp_i v3]) (st' := [gp_i (gp_wr ((gp_I s5 q1 4) + 1)), gp_r (some q1)]) (s' := s5) 2 rfl ?_
        refine gs_E.ck (pc' := 65) (ls' := [gp_r (some q1), gp_i v1, gp_r (some q4), gp_i v3]) (st' := []) (s' := gp_wI s5 q1 4 (gp_wr ((gp_I s5 q1 4) + 1))) rfl ⟨H.1, Or.inl rfl⟩ ?_
        replace H := H.2 _ rfl
        generalize gp_wI s5 q1 4 (gp_wr ((gp_I s5 q1 4) + 1)) = s6 at H ⊢
        exact H

set_option maxRecDepth 100000 in
/-- Sum.lay, pc 65 -/
theorem s_2049_65 {L d : Nat} {K : Option gV → gH → Prop} {s : gH} (v0 : Option Nat) (v1 : Int) (v2 : Option Nat) (v3 : Int) (H : gs_E L (d + 1) 2049 12 [gp_r v0, gp_i v1, gp_r v2, gp_i (gp_wr (v3 + 1))] [] s K) : gs_E L (d + 1) 2049 65 [gp_r v0, gp_i v1, gp_r v2, gp_i v3] [] s K := by
  refine gs_E.stp (pc' := 12) (ls' := [gp_r v0, gp_i v1, gp_r v2, gp_i (gp_wr (v3 + 1))]) (st' := []) (s' := s) 2 rfl ?_
  exact H

set_option maxRecDepth 100000 in
/-- Sum.lay, pc 71 -/
theorem s_2049_71 {L d : Nat} {K : Option gV → gH → Prop} {s : gH} (v0 : Option Nat) (v1 : Int) (v2 : Option Nat) (v3 : Int) (H : (∃ q1, v0 = some q1 ∧ ((gp_sh (gp_mk L s) q1).1 = 8 ∧ gs_E L (d + 1) 2049 76 [gp_r (some q1), gp_i v1, gp_r v2, gp_i (gp_I s q1 4)] [] s K))) : gs_E L (d + 1) 2049 71 [gp_r v0, gp_i v1, gp_r v2, gp_i v3] [] s K := by
  refine gs_E.stp (pc' := 72) (ls' := [gp_r v0, gp_i v1, gp_r v2, gp_i v3]) (st' := [gp_r v0]) (s' := s) 1 rfl ?_
  obtain ⟨q1, hq, H⟩ := H
  rw [hq]
  refine gs_E.ck (pc' := 75) (ls' := [gp_r (some q1), gp_i v1, gp_r v2, gp_i v3]) (st' := [gp_i (gp_I s q1 4)]) (s' := s) rfl H.1 ?_
  replace H := H.2
  refine gs_E.stp (pc' := 76) (ls' := [gp_r (some q1), gp_i v1, gp_r v2, gp_i (gp_I s q1 4)]) (st' := []) (s' := s) 1 rfl ?_
  exact H

set_option maxRecDepth 100000 in
/-- Sum.lay, pc 76 -/
theorem s_2049_76 {L d : Nat} {K : Option gV → gH → Prop} {s : gH} (v0 : Option Nat) (v1 : Int) (v2 : Option Nat) (v3 : Int) (H : ((v3 < 3 → (∃ q1, v0 = some q1 ∧ ((gp_sh (gp_mk L s) q1).1 = 8 ∧ ((gp_sh (gp_mk L s) q1).1 = 8 ∧ gs_C L d 2050 3 [gp_r (some q1), gp_i v3, gp_r (gp_R (gp_mk L s) q1 5)] s (fun r s2 => r = none ∧ gs_E L (d + 1) 2049 76 [gp_r (some q1), gp_i v1, gp_r v2, gp_i (gp_wr (v3 + 1))] [] s2 K))))) ∧ (¬ v3 < 3 → K none s))) : gs_E L (d + 1) 2049 76 [gp_r v0, gp_i v1, gp_r v2, gp_i v3] [] s K := by
  refine gs_E.stp (pc' := 78) (ls' := [gp_r v0, gp_i v1, gp_r v2, gp_i v3]) (st' := [gp_i 3, gp_i v3]) (s' := s) 2 rfl ?_
  refine gs_E.br (c := ¬ v3 < 3) (p1 := 96) (p2 := 81) (l1 := [gp_r v0, gp_i v1, gp_r v2, gp_i v3]) (l2 := [gp_r v0, gp_i v1, gp_r v2, gp_i v3]) (s1 := []) (s2 := []) rfl gs_b2 (fun hc => ?_) (fun hc => ?_)
  · replace H := H.2 hc
    exact gs_E.ret (r := none) rfl H
  · replace H := H.1 (Decidable.byContradiction hc)
    refine gs_E.stp (pc' := 84) (ls' := [gp_r v0, gp_i v1, gp_r v2, gp_i v3]) (st' := [gp_r v0, gp_i v3, gp_r v0]) (s' := s) 3 rfl ?_
    obtain ⟨q1, hq, H⟩ := H
    rw [hq]
    refine gs_E.ck (pc' := 87) (ls' := [gp_r (some q1), gp_i v1, gp_r v2, gp_i v3]) (st' := [gp_r (gp_R (gp_mk L s) q1 5), gp_i v3, gp_r (some q1)]) (s' := s) rfl H.1 ?_
    replace H := H.2
    refine gs_E.callV (args := [gp_r (some q1), gp_i v3, gp_r (gp_R (gp_mk L s) q1 5)]) (m := 3) (y' := 2050) (st' := []) rfl H.1 H.2 (fun r s2 H => ?_)
    obtain ⟨rfl, H⟩ := H
    show gs_E L (d + 1) 2049 90 [gp_r (some q1), gp_i v1, gp_r v2, gp_i v3] [] s2 K
    refine gs_E.stp (pc' := 76) (ls' := [gp_r (some q1), gp_i v1, gp_r v2, gp_i (gp_wr (v3 + 1))]) (st' := []) (s' := s2) 2 rfl ?_
    exact H

set_option maxRecDepth 100000 in
/-- Sum.stand, pc 0 -/
theorem s_2050_e {L d : Nat} {K : Option gV → gH → Prop} {s : gH} (this : Option Nat) (p0 : Int) (p1 : Option Nat) (H : (∃ q1, this = some q1 ∧ ((gp_sh (gp_mk L s) q1).1 = 8 ∧ (((gp_I s q1 8) = 0 → gs_E L (d + 1) 2050 22 [gp_r (some q1), gp_i p0, gp_r p1] [gp_r (some q1)] s K) ∧ (¬ (gp_I s q1 8) = 0 → ((gp_sh (gp_mk L s) q1).1 = 8 ∧ (∃ q2, gp_R (gp_mk L s) q1 0 = some q2 ∧ (gp_in (gp_mk L s) 103 q2 p0 ∧ (((gp_R (gp_mk L s) q2 p0.toNat) = p1 → gs_E L (d + 1) 2050 23 [gp_r (some q1), gp_i p0, gp_r p1] [gp_i 1, gp_r (some q1)] s K) ∧ (¬ (gp_R (gp_mk L s) q2 p0.toNat) = p1 → gs_E L (d + 1) 2050 22 [gp_r (some q1), gp_i p0, gp_r p1] [gp_r (some q1)] s K)))))))))) : gs_C L (d + 1) 2050 3 [gp_r this, gp_i p0, gp_r p1] s K := by
  show gs_E L (d + 1) 2050 0 [gp_r this, gp_i p0, gp_r p1] [] s K
  refine gs_E.stp (pc' := 2) (ls' := [gp_r this, gp_i p0, gp_r p1]) (st' := [gp_r this, gp_r this]) (s' := s) 2 rfl ?_
  obtain ⟨q1, hq, H⟩ := H
  rw [hq]
  refine gs_E.ck (pc' := 5) (ls' := [gp_r (some q1), gp_i p0, gp_r p1]) (st' := [gp_i (gp_I s q1 8), gp_r (some q1)]) (s' := s) rfl H.1 ?_
  replace H := H.2
  refine gs_E.br (c := (gp_I s q1 8) = 0) (p1 := 22) (p2 := 8) (l1 := [gp_r (some q1), gp_i p0, gp_r p1]) (l2 := [gp_r (some q1), gp_i p0, gp_r p1]) (s1 := [gp_r (some q1)]) (s2 := [gp_r (some q1)]) rfl gs_b1 (fun hc => ?_) (fun hc => ?_)
  · replace H := H.1 hc
    exact H
  · replace H := H.2 hc
    refine gs_E.stp (pc' := 9) (ls' := [gp_r (some q1), gp_i p0, gp_r p1]) (st' := [gp_r (some q1), gp_r (some q1)]) (s' := s) 1 rfl ?_
    refine gs_E.ck (pc' := 12) (ls' := [gp_r (some q1), gp_i p0, gp_r p1]) (st' := [gp_r (gp_R (gp_mk L s) q1 0), gp_r (some q1)]) (s' := s) rfl H.1 ?_
    replace H := H.2
    refine gs_E.stp (pc' := 13) (ls' := [gp_r (some q1), gp_i p0, gp_r p1]) (st' := [gp_i p0, gp_r (gp_R (gp_mk L s) q1 0), gp_r (some q1)]) (s' := s) 1 rfl ?_
    obtain ⟨q2, hq, H⟩ := H
    rw [hq]
    refine gs_E.ck (pc' := 14) (ls' := [gp_r (some q1), gp_i p0, gp_r p1]) (st' := [gp_r (gp_R (gp_mk L s) q2 p0.toNat), gp_r (some q1)]) (s' := s) rfl (Or.inl H.1) ?_
    replace H := H.2
    refine gs_E.stp (pc' := 15) (ls' := [gp_r (some q1), gp_i p0, gp_r p1]) (st' := [gp_r p1, gp_r (gp_R (gp_mk L s) q2 p0.toNat), gp_r (some q1)]) (s' := s) 1 rfl ?_
    refine gs_E.br (c := ¬ (gp_R (gp_mk L s) q2 p0.toNat) = p1) (p1 := 22) (p2 := 18) (l1 := [gp_r (some q1), gp_i p0, gp_r p1]) (l2 := [gp_r (some q1), gp_i p0, gp_r p1]) (s1 := [gp_r (some q1)]) (s2 := [gp_r (some q1)]) rfl gs_b2 (fun hc => ?_) (fun hc => ?_)
    · replace H := H.2 hc
      exact H
    · replace H := H.1 (Decidable.byContradiction hc)
      refine gs_E.stp (pc' := 23) (ls' := [gp_r (some q1), gp_i p0, gp_r p1]) (st' := [gp_i 1, gp_r (some q1)]) (s' := s) 2 rfl ?_
      exact H

set_option maxRecDepth 100000 in
/-- Sum.stand, pc 22 -/
theorem s_2050_22 {L d : Nat} {K : Option gV → gH → Prop} {s : gH} (v0 : Option Nat) (v1 : Int) (v2 : Option Nat) (w0 : Option Nat) (H : gs_E L (d + 1) 2050 23 [gp_r v0, gp_i v1, gp_r v2] [gp_i 0, gp_r w0] s K) : gs_E L (d + 1) 2050 22 [gp_r v0, gp_i v1, gp_r v2] [gp_r w0] s K := by
  refine gs_E.stp (pc' := 23) (ls' := [gp_r v0, gp_i v1, gp_r v2]) (st' := [gp_i 0, gp_r w0]) (s' := s) 1 rfl ?_
  exact H

set_option maxRecDepth 100000 in
/-- Sum.stand, pc 23 -/
theorem s_2050_23 {L d : Nat} {K : Option gV → gH → Prop} {s : gH} (v0 : Option Nat) (v1 : Int) (v2 : Option Nat) (w0 : Option Nat) (w1 : Int) (H : (∃ q1, w0 = some q1 ∧ ((gp_sh (gp_mk L s) q1).1 = 8 ∧ (w1 = 0 ∨ w1 = 1) ∧ ∀ s2, s2 = gp_wI s q1 8 w1 → (∃ q3, v0 = some q3 ∧ ((gp_sh (gp_mk L s2) q3).1 = 8 ∧ (∃ q4, v2 = some q4 ∧ (∃ q5, gp_R (gp_mk L s2) q3 0 = some q5 ∧ (gp_in (gp_mk L s2) 103 q5 v1 ∧ (gp_sh (gp_mk L s2) q4).1 = 9 ∧ gp_sR q5 v1.toNat = none ∧ ∀ s6, s6 = gp_wR s2 q5 v1.toNat (some q4) → ((gp_sh (gp_mk L s6) q3).1 = 8 ∧ ((gp_sh (gp_mk L s6) q4).1 = 9 ∧ gs_C L d 2306 1 [gp_r (some q4)] s6 (fun r s7 => ∃ x8, r = some (gp_i x8) ∧ (∃ q9, gp_R (gp_mk L s6) q3 1 = some q9 ∧ (gp_in (gp_mk L s7) 100 q9 v1 ∧ ∀ s10, s10 = gp_wI s7 q9 v1.toNat x8 → K none s10))))))))))))) : gs_E L (d + 1) 2050 23 [gp_r v0, gp_i v1, gp_r v2] [gp_i w1, gp_r w0] s K := by
  obtain ⟨q1, hq, H⟩ := H
  rw [hq]
  refine gs_E.ck (pc' := 26) (ls' := [gp_r v0, gp_i v1, gp_r v2]) (st' := []) (s' := gp_wI s q1 8 w1) rfl ⟨H.1, Or.inr ⟨rfl, H.2.1⟩⟩ ?_
  replace H := H.2.2 _ rfl
  generalize gp_wI s q1 8 w1 = s2 at H ⊢
  refine gs_E.stp (pc' := 27) (ls' := [gp_r v0, gp_i v1, gp_r v2]) (st' := [gp_r v0]) (s' := s2) 1 rfl ?_
  obtain ⟨q3, hq, H⟩ := H
  rw [hq]
  refine gs_E.ck (pc' := 30) (ls' := [gp_r (some q3), gp_i v1, gp_r v2]) (st' := [gp_r (gp_R (gp_mk L s2) q3 0)]) (s' := s2) rfl H.1 ?_
  replace H := H.2
  refine gs_E.stp (pc' := 32) (ls' := [gp_r (some q3), gp_i v1, gp_r v2]) (st' := [gp_r v2, gp_i v1, gp_r (gp_R (gp_mk L s2) q3 0)]) (s' := s2) 2 rfl ?_
  obtain ⟨q4, hq, H⟩ := H
  rw [hq]
  obtain ⟨q5, hq, H⟩ := H
  rw [hq]
  refine gs_E.ckR (pc' := 33) (ls' := [gp_r (some q3), gp_i v1, gp_r (some q4)]) (st' := []) (a := q5) (f := v1.toNat) (v := some q4) rfl ⟨H.1, H.2.1⟩ H.2.2.1 ?_
  replace H := H.2.2.2 _ rfl
  generalize gp_wR s2 q5 v1.toNat (some q4) = s6 at H ⊢
  refine gs_E.stp (pc' := 34) (ls' := [gp_r (some q3), gp_i v1, gp_r (some q4)]) (st' := [gp_r (some q3)]) (s' := s6) 1 rfl ?_
  refine gs_E.ck (pc' := 37) (ls' := [gp_r (some q3), gp_i v1, gp_r (some q4)]) (st' := [gp_r (gp_R (gp_mk L s6) q3 1)]) (s' := s6) rfl H.1 ?_
  replace H := H.2
  refine gs_E.stp (pc' := 39) (ls' := [gp_r (some q3), gp_i v1, gp_r (some q4)]) (st' := [gp_r (some q4), gp_i v1, gp_r (gp_R (gp_mk L s6) q3 1)]) (s' := s6) 2 rfl ?_
  refine gs_E.callV (args := [gp_r (some q4)]) (m := 1) (y' := 2306) (st' := [gp_i v1, gp_r (gp_R (gp_mk L s6) q3 1)]) rfl H.1 H.2 (fun r s7 H => ?_)
  obtain ⟨x8, rfl, H⟩ := H
  show gs_E L (d + 1) 2050 42 [gp_r (some q3), gp_i v1, gp_r (some q4)] [gp_i x8, gp_i v1, gp_r (gp_R (gp_mk L s6) q3 1)] s7 K
  obtain ⟨q9, hq, H⟩ := H
  rw [hq]
  refine gs_E.ck (pc' := 43) (ls' := [gp_r (some q3), gp_i v1, gp_r (some q4)]) (st' := []) (s' := gp_wI s7 q9 v1.toNat x8) rfl H.1 ?_
  replace H := H.2 _ rfl
  generalize gp_wI s7 q9 v1.toNat x8 = s10 at H ⊢
  exact gs_E.ret (r := none) rfl H

set_option maxRecDepth 100000 in
/-- Sum.placeOf, pc 0 -/
theorem s_2051_e {L d : Nat} {K : Option gV → gH → Prop} {s : gH} (this : Option Nat) (p0 : Int) (H : gs_E L d 2051 2 [gp_r this, gp_i p0, gp_i 0] [] s K) : gs_C L d 2051 3 [gp_r this, gp_i p0] s K := by
  show gs_E L d 2051 0 [gp_r this, gp_i p0, gp_n] [] s K
  refine gs_E.stp (pc' := 2) (ls' := [gp_r this, gp_i p0, gp_i 0]) (st' := []) (s' := s) 2 rfl ?_
  exact H

set_option maxRecDepth 100000 in
/-- Sum.placeOf, pc 2 -/
theorem s_2051_2 {L d : Nat} {K : Option gV → gH → Prop} {s : gH} (v0 : Option Nat) (v1 : Int) (v2 : Int) (H : (∃ q1, v0 = some q1 ∧ ((gp_sh (gp_mk L s) q1).1 = 8 ∧ ((v2 < (gp_I s q1 4) → ((gp_sh (gp_mk L s) q1).1 = 8 ∧ (∃ q2, gp_R (gp_mk L s) q1 3 = some q2 ∧ (gp_in (gp_mk L s) 100 q2 v2 ∧ (((gp_I s q2 v2.toNat) = v1 → K (some (gp_i v2)) s) ∧ (¬ (gp_I s q2 v2.toNat) = v1 → gs_E L d 2051 2 [gp_r (some q1), gp_i v1, gp_i (gp_wr (v2 + 1))] [] s K)))))) ∧ (¬ v2 < (gp_I s q1 4) → K (some (gp_i (-1))) s))))) : gs_E L d 2051 2 [gp_r v0, gp_i v1, gp_i v2] [] s K := by
  refine gs_E.stp (pc' := 4) (ls' := [gp_r v0, gp_i v1, gp_i v2]) (st' := [gp_r v0, gp_i v2]) (s' := s) 2 rfl ?_
  obtain ⟨q1, hq, H⟩ := H
  rw [hq]
  refine gs_E.ck (pc' := 7) (ls' := [gp_r (some q1), gp_i v1, gp_i v2]) (st' := [gp_i (gp_I s q1 4), gp_i v2]) (s' := s) rfl H.1 ?_
  replace H := H.2
  refine gs_E.br (c := ¬ v2 < (gp_I s q1 4)) (p1 := 28) (p2 := 10) (l1 := [gp_r (some q1), gp_i v1, gp_i v2]) (l2 := [gp_r (some q1), gp_i v1, gp_i v2]) (s1 := []) (s2 := []) rfl gs_b2 (fun hc => ?_) (fun hc => ?_)
  · replace H := H.2 hc
    refine gs_E.stp (pc' := 29) (ls' := [gp_r (some q1), gp_i v1, gp_i v2]) (st' := [gp_i (-1)]) (s' := s) 1 rfl ?_
    exact gs_E.ret (r := (some (gp_i (-1)))) rfl H
  · replace H := H.1 (Decidable.byContradiction hc)
    refine gs_E.stp (pc' := 11) (ls' := [gp_r (some q1), gp_i v1, gp_i v2]) (st' := [gp_r (some q1)]) (s' := s) 1 rfl ?_
    refine gs_E.ck (pc' := 14) (ls' := [gp_r (some q1), gp_i v1, gp_i v2]) (st' := [gp_r (gp_R (gp_mk L s) q1 3)]) (s' := s) rfl H.1 ?_
    replace H := H.2
    refine gs_E.stp (pc' := 15) (ls' := [gp_r (some q1), gp_i v1, gp_i v2]) (st' := [gp_i v2, gp_r (gp_R (gp_mk L s) q1 3)]) (s' := s) 1 rfl ?_
    obtain ⟨q2, hq, H⟩ := H
    rw [hq]
    refine gs_E.ck (pc' := 16) (ls' := [gp_r (some q1), gp_i v1, gp_i v2]) (st' := [gp_i (gp_I s q2 v2.toNat)]) (s' := s) rfl (Or.inl H.1) ?_
    replace H := H.2
    refine gs_E.stp (pc' := 17) (ls' := [gp_r (some q1), gp_i v1, gp_i v2]) (st' := [gp_i v1, gp_i (gp_I s q2 v2.toNat)]) (s' := s) 1 rfl ?_
    refine gs_E.br (c := ¬ (gp_I s q2 v2.toNat) = v1) (p1 := 22) (p2 := 20) (l1 := [gp_r (some q1), gp_i v1, gp_i v2]) (l2 := [gp_r (some q1), gp_i v1, gp_i v2]) (s1 := []) (s2 := []) rfl gs_b2 (fun hc => ?_) (fun hc => ?_)
    · replace H := H.2 hc
      refine gs_E.stp (pc' := 2) (ls' := [gp_r (some q1), gp_i v1, gp_i (gp_wr (v2 + 1))]) (st' := []) (s' := s) 2 rfl ?_
      exact H
    · replace H := H.1 (Decidable.byContradiction hc)
      refine gs_E.stp (pc' := 21) (ls' := [gp_r (some q1), gp_i v1, gp_i v2]) (st' := [gp_i v2]) (s' := s) 1 rfl ?_
      exact gs_E.ret (r := (some (gp_i v2))) rfl H

set_option maxRecDepth 100000 in
/-- Sum.named, pc 0 -/
theorem s_2052_e {L d : Nat} {K : Option gV → gH → Prop} {s : gH} (this : Option Nat) (p0 : Int) (H : (∃ q1, this = some q1 ∧ ((gp_sh (gp_mk L s) q1).1 = 8 ∧ (∃ q2, gp_R (gp_mk L s) q1 3 = some q2 ∧ (gp_in (gp_mk L s) 100 q2 (gp_wr (p0.tdiv 100)) ∧ K (some (gp_i (gp_wr ((gp_wr ((gp_I s q2 (gp_wr (p0.tdiv 100)).toNat) * 100)) + (p0.tmod 100))))) s))))) : gs_C L d 2052 2 [gp_r this, gp_i p0] s K := by
  show gs_E L d 2052 0 [gp_r this, gp_i p0] [] s K
  refine gs_E.stp (pc' := 1) (ls' := [gp_r this, gp_i p0]) (st' := [gp_r this]) (s' := s) 1 rfl ?_
  obtain ⟨q1, hq, H⟩ := H
  rw [hq]
  refine gs_E.ck (pc' := 4) (ls' := [gp_r (some q1), gp_i p0]) (st' := [gp_r (gp_R (gp_mk L s) q1 3)]) (s' := s) rfl H.1 ?_
  replace H := H.2
  refine gs_E.stp (pc' := 8) (ls' := [gp_r (some q1), gp_i p0]) (st' := [gp_i (gp_wr (p0.tdiv 100)), gp_r (gp_R (gp_mk L s) q1 3)]) (s' := s) 3 rfl ?_
  obtain ⟨q2, hq, H⟩ := H
  rw [hq]
  refine gs_E.ck (pc' := 9) (ls' := [gp_r (some q1), gp_i p0]) (st' := [gp_i (gp_I s q2 (gp_wr (p0.tdiv 100)).toNat)]) (s' := s) rfl (Or.inl H.1) ?_
  replace H := H.2
  refine gs_E.stp (pc' := 17) (ls' := [gp_r (some q1), gp_i p0]) (st' := [gp_i (gp_wr ((gp_wr ((gp_I s q2 (gp_wr (p0.tdiv 100)).toNat) * 100)) + (p0.tmod 100)))]) (s' := s) 6 rfl ?_
  exact gs_E.ret (r := (some (gp_i (gp_wr ((gp_wr ((gp_I s q2 (gp_wr (p0.tdiv 100)).toNat) * 100)) + (p0.tmod 100)))))) rfl H

set_option maxRecDepth 100000 in
/-- Sum.choices, pc 0 -/
theorem s_2053_e {L d : Nat} {K : Option gV → gH → Prop} {s : gH} (this : Option Nat) (p0 : Int) (p1 : Int) (H : (∃ q1, this = some q1 ∧ ((gp_sh (gp_mk L s) q1).1 = 8 ∧ (∃ q2, gp_R (gp_mk L s) q1 0 = some q2 ∧ (gp_in (gp_mk L s) 103 q2 p0 ∧ ((gp_sh (gp_mk L s) q1).1 = 8 ∧ (∃ q3, gp_R (gp_mk L s) q1 1 = some q3 ∧ (gp_in (gp_mk L s) 100 q3 p0 ∧ (∃ q4, gp_R (gp_mk L s) q2 p0.toNat = some q4 ∧ ((gp_sh (gp_mk L s) q4).1 = 9 ∧ gs_C L d 2307 3 [gp_r (some q4), gp_i (gp_I s q3 p0.toNat), gp_i p1] s (fun r s5 => ∃ m6, r = some (gp_l m6) ∧ gs_C L d 3585 2 [gp_l m6] s5 (fun r s7 => ∃ x8, r = some (gp_i x8) ∧ K (some (gp_i x8)) s7)))))))))))) : gs_C L (d + 1) 2053 3 [gp_r this, gp_i p0, gp_i p1] s K := by
  show gs_E L (d + 1) 2053 0 [gp_r this, gp_i p0, gp_i p1] [] s K
  refine gs_E.stp (pc' := 1) (ls' := [gp_r this, gp_i p0, gp_i p1]) (st' := [gp_r this]) (s' := s) 1 rfl ?_
  obtain ⟨q1, hq, H⟩ := H
  rw [hq]
  refine gs_E.ck (pc' := 4) (ls' := [gp_r (some q1), gp_i p0, gp_i p1]) (st' := [gp_r (gp_R (gp_mk L s) q1 0)]) (s' := s) rfl H.1 ?_
  replace H := H.2
  refine gs_E.stp (pc' := 5) (ls' := [gp_r (some q1), gp_i p0, gp_i p1]) (st' := [gp_i p0, gp_r (gp_R (gp_mk L s) q1 0)]) (s' := s) 1 rfl ?_
  obtain ⟨q2, hq, H⟩ := H
  rw [hq]
  refine gs_E.ck (pc' := 6) (ls' := [gp_r (some q1), gp_i p0, gp_i p1]) (st' := [gp_r (gp_R (gp_mk L s) q2 p0.toNat)]) (s' := s) rfl (Or.inl H.1) ?_
  replace H := H.2
  refine gs_E.stp (pc' := 7) (ls' := [gp_r (some q1), gp_i p0, gp_i p1]) (st' := [gp_r (some q1), gp_r (gp_R (gp_mk L s) q2 p0.toNat)]) (s' := s) 1 rfl ?_
  refine gs_E.ck (pc' := 10) (ls' := [gp_r (some q1), gp_i p0, gp_i p1]) (st' := [gp_r (gp_R (gp_mk L s) q1 1), gp_r (gp_R (gp_mk L s) q2 p0.toNat)]) (s' := s) rfl H.1 ?_
  replace H := H.2
  refine gs_E.stp (pc' := 11) (ls' := [gp_r (some q1), gp_i p0, gp_i p1]) (st' := [gp_i p0, gp_r (gp_R (gp_mk L s) q1 1), gp_r (gp_R (gp_mk L s) q2 p0.toNat)]) (s' := s) 1 rfl ?_
  obtain ⟨q3, hq, H⟩ := H
  rw [hq]
  refine gs_E.ck (pc' := 12) (ls' := [gp_r (some q1), gp_i p0, gp_i p1]) (st' := [gp_i (gp_I s q3 p0.toNat), gp_r (gp_R (gp_mk L s) q2 p0.toNat)]) (s' := s) rfl (Or.inl H.1) ?_
  replace H := H.2
  refine gs_E.stp (pc' := 13) (ls' := [gp_r (some q1), gp_i p0, gp_i p1]) (st' := [gp_i p1, gp_i (gp_I s q3 p0.toNat), gp_r (gp_R (gp_mk L s) q2 p0.toNat)]) (s' := s) 1 rfl ?_
  obtain ⟨q4, hq, H⟩ := H
  rw [hq]
  refine gs_E.callV (args := [gp_r (some q4), gp_i (gp_I s q3 p0.toNat), gp_i p1]) (m := 3) (y' := 2307) (st' := []) rfl H.1 H.2 (fun r s5 H => ?_)
  obtain ⟨m6, rfl, H⟩ := H
  show gs_E L (d + 1) 2053 16 [gp_r (some q1), gp_i p0, gp_i p1] [gp_l m6] s5 K
  refine gs_E.call (args := [gp_l m6]) (m := 2) (y' := 3585) (st' := []) rfl H (fun r s7 H => ?_)
  obtain ⟨x8, rfl, H⟩ := H
  show gs_E L (d + 1) 2053 19 [gp_r (some q1), gp_i p0, gp_i p1] [gp_i x8] s7 K
  exact gs_E.ret (r := (some (gp_i x8))) rfl H

set_option maxRecDepth 100000 in
/-- Sum.allChoices, pc 0 -/
theorem s_2054_e {L d : Nat} {K : Option gV → gH → Prop} {s : gH} (this : Option Nat) (p0 : Int) (H : gs_E L (d + 1) 2054 4 [gp_r this, gp_i p0, gp_i 0, gp_i 0] [] s K) : gs_C L (d + 1) 2054 4 [gp_r this, gp_i p0] s K := by
  show gs_E L (d + 1) 2054 0 [gp_r this, gp_i p0, gp_n, gp_n] [] s K
  refine gs_E.stp (pc' := 4) (ls' := [gp_r this, gp_i p0, gp_i 0, gp_i 0]) (st' := []) (s' := s) 4 rfl ?_
  exact H

set_option maxRecDepth 100000 in
/-- Sum.allChoices, pc 4 -/
theorem s_2054_4 {L d : Nat} {K : Option gV → gH → Prop} {s : gH} (v0 : Option Nat) (v1 : Int) (v2 : Int) (v3 : Int) (H : (∃ q1, v0 = some q1 ∧ ((gp_sh (gp_mk L s) q1).1 = 8 ∧ ((v3 < (gp_I s q1 4) → ((gp_sh (gp_mk L s) q1).1 = 8 ∧ gs_C L d 2053 3 [gp_r (some q1), gp_i v3, gp_i v1] s (fun r s2 => ∃ x3, r = some (gp_i x3) ∧ gs_E L (d + 1) 2054 4 [gp_r (some q1), gp_i v1, gp_i (gp_wr (v2 + x3)), gp_i (gp_wr (v3 + 1))] [] s2 K))) ∧ (¬ v3 < (gp_I s q1 4) → K (some (gp_i v2)) s))))) : gs_E L (d + 1) 2054 4 [gp_r v0, gp_i v1, gp_i v2, gp_i v3] [] s K := by
  refine gs_E.stp (pc' := 6) (ls' := [gp_r v0, gp_i v1, gp_i v2, gp_i v3]) (st' := [gp_r v0, gp_i v3]) (s' := s) 2 rfl ?_
  obtain ⟨q1, hq, H⟩ := H
  rw [hq]
  refine gs_E.ck (pc' := 9) (ls' := [gp_r (some q1), gp_i v1, gp_i v2, gp_i v3]) (st' := [gp_i (gp_I s q1 4), gp_i v3]) (s' := s) rfl H.1 ?_
  replace H := H.2
  refine gs_E.br (c := ¬ v3 < (gp_I s q1 4)) (p1 := 27) (p2 := 12) (l1 := [gp_r (some q1), gp_i v1, gp_i v2, gp_i v3]) (l2 := [gp_r (some q1), gp_i v1, gp_i v2, gp_i v3]) (s1 := []) (s2 := []) rfl gs_b2 (fun hc => ?_) (fun hc => ?_)
  · replace H := H.2 hc
    refine gs_E.stp (pc' := 28) (ls' := [gp_r (some q1), gp_i v1, gp_i v2, gp_i v3]) (st' := [gp_i v2]) (s' := s) 1 rfl ?_
    exact gs_E.ret (r := (some (gp_i v2))) rfl H
  · replace H := H.1 (Decidable.byContradiction hc)
    refine gs_E.stp (pc' := 16) (ls' := [gp_r (some q1), gp_i v1, gp_i v2, gp_i v3]) (st' := [gp_i v1, gp_i v3, gp_r (some q1), gp_i v2]) (s' := s) 4 rfl ?_
    refine gs_E.callV (args := [gp_r (some q1), gp_i v3, gp_i v1]) (m := 3) (y' := 2053) (st' := [gp_i v2]) rfl H.1 H.2 (fun r s2 H => ?_)
    obtain ⟨x3, rfl, H⟩ := H
    show gs_E L (d + 1) 2054 19 [gp_r (some q1), gp_i v1, gp_i v2, gp_i v3] [gp_i x3, gp_i v2] s2 K
    refine gs_E.stp (pc' := 4) (ls' := [gp_r (some q1), gp_i v1, gp_i (gp_wr (v2 + x3)), gp_i (gp_wr (v3 + 1))]) (st' := []) (s' := s2) 4 rfl ?_
    exact H

set_option maxRecDepth 100000 in
/-- Sum.points, pc 0 -/
theorem s_2055_e {L d : Nat} {K : Option gV → gH → Prop} {s : gH} (this : Option Nat) (p0 : Int) (H : gs_E L (d + 1) 2055 4 [gp_r this, gp_i p0, gp_i 0, gp_i 0] [] s K) : gs_C L (d + 1) 2055 4 [gp_r this, gp_i p0] s K := by
  show gs_E L (d + 1) 2055 0 [gp_r this, gp_i p0, gp_n, gp_n] [] s K
  refine gs_E.stp (pc' := 4) (ls' := [gp_r this, gp_i p0, gp_i 0, gp_i 0]) (st' := []) (s' := s) 4 rfl ?_
  exact H

set_option maxRecDepth 100000 in
/-- Sum.points, pc 4 -/
theorem s_2055_4 {L d : Nat} {K : Option gV → gH → Prop} {s : gH} (v0 : Option Nat) (v1 : Int) (v2 : Int) (v3 : Int) (H : (∃ q1, v0 = some q1 ∧ ((gp_sh (gp_mk L s) q1).1 = 8 ∧ ((v3 < (gp_I s q1 4) → ((gp_sh (gp_mk L s) q1).1 = 8 ∧ (∃ q2, gp_R (gp_mk L s) q1 0 = some q2 ∧ (gp_in (gp_mk L s) 103 q2 v3 ∧ ((gp_sh (gp_mk L s) q1).1 = 8 ∧ (∃ q3, gp_R (gp_mk L s) q1 1 = some q3 ∧ (gp_in (gp_mk L s) 100 q3 v3 ∧ (∃ q4, gp_R (gp_mk L s) q2 v3.toNat = some q4 ∧ ((gp_sh (gp_mk L s) q4).1 = 9 ∧ gs_C L d 2308 3 [gp_r (some q4), gp_i (gp_I s q3 v3.toNat), gp_i v1] s (fun r s5 => ∃ x6, r = some (gp_i x6) ∧ gs_E L (d + 1) 2055 4 [gp_r (some q1), gp_i v1, gp_i (gp_wr (v2 + x6)), gp_i (gp_wr (v3 + 1))] [] s5 K)))))))))) ∧ (¬ v3 < (gp_I s q1 4) → K (some (gp_i v2)) s))))) : gs_E L (d + 1) 2055 4 [gp_r v0, gp_i v1, gp_i v2, gp_i v3] [] s K := by
  refine gs_E.stp (pc' := 6) (ls' := [gp_r v0, gp_i v1, gp_i v2, gp_i v3]) (st' := [gp_r v0, gp_i v3]) (s' := s) 2 rfl ?_
  obtain ⟨q1, hq, H⟩ := H
  rw [hq]
  refine gs_E.ck (pc' := 9) (ls' := [gp_r (some q1), gp_i v1, gp_i v2, gp_i v3]) (st' := [gp_i (gp_I s q1 4), gp_i v3]) (s' := s) rfl H.1 ?_
  replace H := H.2
  refine gs_E.br (c := ¬ v3 < (gp_I s q1 4)) (p1 := 37) (p2 := 12) (l1 := [gp_r (some q1), gp_i v1, gp_i v2, gp_i v3]) (l2 := [gp_r (some q1), gp_i v1, gp_i v2, gp_i v3]) (s1 := []) (s2 := []) rfl gs_b2 (fun hc => ?_) (fun hc => ?_)
  · replace H := H.2 hc
    refine gs_E.stp (pc' := 38) (ls' := [gp_r (some q1), gp_i v1, gp_i v2, gp_i v3]) (st' := [gp_i v2]) (s' := s) 1 rfl ?_
    exact gs_E.ret (r := (some (gp_i v2))) rfl H
  · replace H := H.1 (Decidable.byContradiction hc)
    refine gs_E.stp (pc' := 14) (ls' := [gp_r (some q1), gp_i v1, gp_i v2, gp_i v3]) (st' := [gp_r (some q1), gp_i v2]) (s' := s) 2 rfl ?_
    refine gs_E.ck (pc' := 17) (ls' := [gp_r (some q1), gp_i v1, gp_i v2, gp_i v3]) (st' := [gp_r (gp_R (gp_mk L s) q1 0), gp_i v2]) (s' := s) rfl H.1 ?_
    replace H := H.2
    refine gs_E.stp (pc' := 18) (ls' := [gp_r (some q1), gp_i v1, gp_i v2, gp_i v3]) (st' := [gp_i v3, gp_r (gp_R (gp_mk L s) q1 0), gp_i v2]) (s' := s) 1 rfl ?_
    obtain ⟨q2, hq, H⟩ := H
    rw [hq]
    refine gs_E.ck (pc' := 19) (ls' := [gp_r (some q1), gp_i v1, gp_i v2, gp_i v3]) (st' := [gp_r (gp_R (gp_mk L s) q2 v3.toNat), gp_i v2]) (s' := s) rfl (Or.inl H.1) ?_
    replace H := H.2
    refine gs_E.stp (pc' := 20) (ls' := [gp_r (some q1), gp_i v1, gp_i v2, gp_i v3]) (st' := [gp_r (some q1), gp_r (gp_R (gp_mk L s) q2 v3.toNat), gp_i v2]) (s' := s) 1 rfl ?_
    refine gs_E.ck (pc' := 23) (ls' := [gp_r (some q1), gp_i v1, gp_i v2, gp_i v3]) (st' := [gp_r (gp_R (gp_mk L s) q1 1), gp_r (gp_R (gp_mk L s) q2 v3.toNat), gp_i v2]) (s' := s) rfl H.1 ?_
    replace H := H.2
    refine gs_E.stp (pc' := 24) (ls' := [gp_r (some q1), gp_i v1, gp_i v2, gp_i v3]) (st' := [gp_i v3, gp_r (gp_R (gp_mk L s) q1 1), gp_r (gp_R (gp_mk L s) q2 v3.toNat), gp_i v2]) (s' := s) 1 rfl ?_
    obtain ⟨q3, hq, H⟩ := H
    rw [hq]
    refine gs_E.ck (pc' := 25) (ls' := [gp_r (some q1), gp_i v1, gp_i v2, gp_i v3]) (st' := [gp_i (gp_I s q3 v3.toNat), gp_r (gp_R (gp_mk L s) q2 v3.toNat), gp_i v2]) (s' := s) rfl (Or.inl H.1) ?_
    replace H := H.2
    refine gs_E.stp (pc' := 26) (ls' := [gp_r (some q1), gp_i v1, gp_i v2, gp_i v3]) (st' := [gp_i v1, gp_i (gp_I s q3 v3.toNat), gp_r (gp_R (gp_mk L s) q2 v3.toNat), gp_i v2]) (s' := s) 1 rfl ?_
    obtain ⟨q4, hq, H⟩ := H
    rw [hq]
    refine gs_E.callV (args := [gp_r (some q4), gp_i (gp_I s q3 v3.toNat), gp_i v1]) (m := 3) (y' := 2308) (st' := [gp_i v2]) rfl H.1 H.2 (fun r s5 H => ?_)
    obtain ⟨x6, rfl, H⟩ := H
    show gs_E L (d + 1) 2055 29 [gp_r (some q1), gp_i v1, gp_i v2, gp_i v3] [gp_i x6, gp_i v2] s5 K
    refine gs_E.stp (pc' := 4) (ls' := [gp_r (some q1), gp_i v1, gp_i (gp_wr (v2 + x6)), gp_i (gp_wr (v3 + 1))]) (st' := []) (s' := s5) 4 rfl ?_
    exact H

set_option maxRecDepth 100000 in
/-- Sum.worth, pc 0 -/
theorem s_2056_e {L d : Nat} {K : Option gV → gH → Prop} {s : gH} (this : Option Nat) (p0 : Int) (H : (∃ q1, this = some q1 ∧ ((gp_sh (gp_mk L s) q1).1 = 8 ∧ gs_C L d 2060 4 [gp_r (some q1)] s (fun r s2 => r = none ∧ ((p0 = 0 → ((gp_sh (gp_mk L s2) q1).1 = 8 ∧ ((gp_sh (gp_mk L s2) q1).1 = 8 ∧ gs_C L d 2059 1 [gp_r (some q1)] s2 (fun r s6 => ∃ x7, r = some (gp_i x7) ∧ (∃ q8, gp_R (gp_mk L s2) q1 6 = some q8 ∧ (gp_in (gp_mk L s6) 100 q8 x7 ∧ gs_E L (d + 1) 2056 29 [gp_r (some q1), gp_i p0] [gp_i (gp_I s6 q8 x7.toNat)] s6 K)))))) ∧ (¬ p0 = 0 → ((gp_sh (gp_mk L s2) q1).1 = 8 ∧ ((gp_sh (gp_mk L s2) q1).1 = 8 ∧ gs_C L d 2059 1 [gp_r (some q1)] s2 (fun r s3 => ∃ x4, r = some (gp_i x4) ∧ (∃ q5, gp_R (gp_mk L s2) q1 7 = some q5 ∧ (gp_in (gp_mk L s3) 100 q5 x4 ∧ gs_E L (d + 1) 2056 29 [gp_r (some q1), gp_i p0] [gp_i (gp_I s3 q5 x4.toNat)] s3 K))))))))))) : gs_C L (d + 1) 2056 2 [gp_r this, gp_i p0] s K := by
  show gs_E L (d + 1) 2056 0 [gp_r this, gp_i p0] [] s K
  refine gs_E.stp (pc' := 1) (ls' := [gp_r this, gp_i p0]) (st' := [gp_r this]) (s' := s) 1 rfl ?_
  obtain ⟨q1, hq, H⟩ := H
  rw [hq]
  refine gs_E.callV (args := [gp_r (some q1)]) (m := 4) (y' := 2060) (st' := []) rfl H.1 H.2 (fun r s2 H => ?_)
  obtain ⟨rfl, H⟩ := H
  show gs_E L (d + 1) 2056 4 [gp_r (some q1), gp_i p0] [] s2 K
  refine gs_E.stp (pc' := 5) (ls' := [gp_r (some q1), gp_i p0]) (st' := [gp_i p0]) (s' := s2) 1 rfl ?_
  refine gs_E.br (c := ¬ p0 = 0) (p1 := 20) (p2 := 8) (l1 := [gp_r (some q1), gp_i p0]) (l2 := [gp_r (some q1), gp_i p0]) (s1 := []) (s2 := []) rfl gs_b2 (fun hc => ?_) (fun hc => ?_)
  · replace H := H.2 hc
    refine gs_E.stp (pc' := 21) (ls' := [gp_r (some q1), gp_i p0]) (st' := [gp_r (some q1)]) (s' := s2) 1 rfl ?_
    refine gs_E.ck (pc' := 24) (ls' := [gp_r (some q1), gp_i p0]) (st' := [gp_r (gp_R (gp_mk L s2) q1 7)]) (s' := s2) rfl H.1 ?_
    replace H := H.2
    refine gs_E.stp (pc' := 25) (ls' := [gp_r (some q1), gp_i p0]) (st' := [gp_r (some q1), gp_r (gp_R (gp_mk L s2) q1 7)]) (s' := s2) 1 rfl ?_
    refine gs_E.callV (args := [gp_r (some q1)]) (m := 1) (y' := 2059) (st' := [gp_r (gp_R (gp_mk L s2) q1 7)]) rfl H.1 H.2 (fun r s3 H => ?_)
    obtain ⟨x4, rfl, H⟩ := H
    show gs_E L (d + 1) 2056 28 [gp_r (some q1), gp_i p0] [gp_i x4, gp_r (gp_R (gp_mk L s2) q1 7)] s3 K
    obtain ⟨q5, hq, H⟩ := H
    rw [hq]
    refine gs_E.ck (pc' := 29) (ls' := [gp_r (some q1), gp_i p0]) (st' := [gp_i (gp_I s3 q5 x4.toNat)]) (s' := s3) rfl (Or.inl H.1) ?_
    replace H := H.2
    exact H
  · replace H := H.1 (Decidable.byContradiction hc)
    refine gs_E.stp (pc' := 9) (ls' := [gp_r (some q1), gp_i p0]) (st' := [gp_r (some q1)]) (s' := s2) 1 rfl ?_
    refine gs_E.ck (pc' := 12) (ls' := [gp_r (some q1), gp_i p0]) (st' := [gp_r (gp_R (gp_mk L s2) q1 6)]) (s' := s2) rfl H.1 ?_
    replace H := H.2
    refine gs_E.stp (pc' := 13) (ls' := [gp_r (some q1), gp_i p0]) (st' := [gp_r (some q1), gp_r (gp_R (gp_mk L s2) q1 6)]) (s' := s2) 1 rfl ?_
    refine gs_E.callV (args := [gp_r (some q1)]) (m := 1) (y' := 2059) (st' := [gp_r (gp_R (gp_mk L s2) q1 6)]) rfl H.1 H.2 (fun r s6 H => ?_)
    obtain ⟨x7, rfl, H⟩ := H
    show gs_E L (d + 1) 2056 16 [gp_r (some q1), gp_i p0] [gp_i x7, gp_r (gp_R (gp_mk L s2) q1 6)] s6 K
    obtain ⟨q8, hq, H⟩ := H
    rw [hq]
    refine gs_E.ck (pc' := 17) (ls' := [gp_r (some q1), gp_i p0]) (st' := [gp_i (gp_I s6 q8 x7.toNat)]) (s' := s6) rfl (Or.inl H.1) ?_
    replace H := H.2
    refine gs_E.stp (pc' := 29) (ls' := [gp_r (some q1), gp_i p0]) (st' := [gp_i (gp_I s6 q8 x7.toNat)]) (s' := s6) 1 rfl ?_
    exact H

set_option maxRecDepth 100000 in
/-- Sum.worth, pc 29 -/
theorem s_2056_29 {L d : Nat} {K : Option gV → gH → Prop} {s : gH} (v0 : Option Nat) (v1 : Int) (w0 : Int) (H : K (some (gp_i w0)) s) : gs_E L (d + 1) 2056 29 [gp_r v0, gp_i v1] [gp_i w0] s K := by
  exact gs_E.ret (r := (some (gp_i w0))) rfl H

set_option maxRecDepth 100000 in
/-- Sum.bestMove, pc 0 -/
theorem s_2057_e {L d : Nat} {K : Option gV → gH → Prop} {s : gH} (this : Option Nat) (p0 : Int) (H : (∃ q1, this = some q1 ∧ ((gp_sh (gp_mk L s) q1).1 = 8 ∧ gs_C L d 2060 4 [gp_r (some q1)] s (fun r s2 => r = none ∧ gs_E L (d + 1) 2057 11 [gp_r (some q1), gp_i p0, gp_i (-1), gp_i 0, gp_i 0, gp_n, gp_n, gp_n, gp_n, gp_n] [] s2 K)))) : gs_C L (d + 1) 2057 10 [gp_r this, gp_i p0] s K := by
  show gs_E L (d + 1) 2057 0 [gp_r this, gp_i p0, gp_n, gp_n, gp_n, gp_n, gp_n, gp_n, gp_n, gp_n] [] s K
  refine gs_E.stp (pc' := 1) (ls' := [gp_r this, gp_i p0, gp_n, gp_n, gp_n, gp_n, gp_n, gp_n, gp_n, gp_n]) (st' := [gp_r this]) (s' := s) 1 rfl ?_
  obtain ⟨q1, hq, H⟩ := H
  rw [hq]
  refine gs_E.callV (args := [gp_r (some q1)]) (m := 4) (y' := 2060) (st' := []) rfl H.1 H.2 (fun r s2 H => ?_)
  obtain ⟨rfl, H⟩ := H
  show gs_E L (d + 1) 2057 4 [gp_r (some q1), gp_i p0, gp_n, gp_n, gp_n, gp_n, gp_n, gp_n, gp_n, gp_n] [] s2 K
  refine gs_E.stp (pc' := 11) (ls' := [gp_r (some q1), gp_i p0, gp_i (-1), gp_i 0, gp_i 0, gp_n, gp_n, gp_n, gp_n, gp_n]) (st' := []) (s' := s2) 6 rfl ?_
  exact H

set_option maxRecDepth 100000 in
/-- Sum.bestMove, pc 11 -/
theorem s_2057_11 {L d : Nat} {K : Option gV → gH → Prop} {s : gH} (v0 : Option Nat) (v1 : Int) (v2 : Int) (v3 : Int) (v4 : Int) (v5 : gV) (v6 : gV) (v7 : gV) (v8 : gV) (v9 : gV) (H : (∃ q1, v0 = some q1 ∧ ((gp_sh (gp_mk L s) q1).1 = 8 ∧ ((v4 < (gp_I s q1 4) → ((gp_sh (gp_mk L s) q1).1 = 8 ∧ (∃ q2, gp_R (gp_mk L s) q1 1 = some q2 ∧ (gp_in (gp_mk L s) 100 q2 v4 ∧ ((gp_sh (gp_mk L s) q1).1 = 8 ∧ (∃ q3, gp_R (gp_mk L s) q1 0 = some q3 ∧ (gp_in (gp_mk L s) 103 q3 v4 ∧ (∃ q4, gp_R (gp_mk L s) q3 v4.toNat = some q4 ∧ ((gp_sh (gp_mk L s) q4).1 = 9 ∧ gs_C L d 2307 3 [gp_r (some q4), gp_i (gp_I s q2 v4.toNat), gp_i v1] s (fun r s5 => ∃ m6, r = some (gp_l m6) ∧ gs_E L (d + 1) 2057 47 [gp_r (some q1), gp_i v1, gp_i v2, gp_i v3, gp_i v4, gp_i (gp_I s q2 v4.toNat), gp_i 0, gp_l m6, gp_n, v9] [] s5 K)))))))))) ∧ (¬ v4 < (gp_I s q1 4) → K (some (gp_i v2)) s))))) : gs_E L (d + 1) 2057 11 [gp_r v0, gp_i v1, gp_i v2, gp_i v3, gp_i v4, v5, v6, v7, v8, v9] [] s K := by
  refine gs_E.stp (pc' := 14) (ls' := [gp_r v0, gp_i v1, gp_i v2, gp_i v3, gp_i v4, v5, v6, v7, v8, v9]) (st' := [gp_r v0, gp_i v4]) (s' := s) 2 rfl ?_
  obtain ⟨q1, hq, H⟩ := H
  rw [hq]
  refine gs_E.ck (pc' := 17) (ls' := [gp_r (some q1), gp_i v1, gp_i v2, gp_i v3, gp_i v4, v5, v6, v7, v8, v9]) (st' := [gp_i (gp_I s q1 4), gp_i v4]) (s' := s) rfl H.1 ?_
  replace H := H.2
  refine gs_E.br (c := ¬ v4 < (gp_I s q1 4)) (p1 := 158) (p2 := 20) (l1 := [gp_r (some q1), gp_i v1, gp_i v2, gp_i v3, gp_i v4, v5, v6, v7, v8, v9]) (l2 := [gp_r (some q1), gp_i v1, gp_i v2, gp_i v3, gp_i v4, v5, v6, v7, v8, v9]) (s1 := []) (s2 := []) rfl gs_b2 (fun hc => ?_) (fun hc => ?_)
  · replace H := H.2 hc
    refine gs_E.stp (pc' := 159) (ls' := [gp_r (some q1), gp_i v1, gp_i v2, gp_i v3, gp_i v4, v5, v6, v7, v8, v9]) (st' := [gp_i v2]) (s' := s) 1 rfl ?_
    exact gs_E.ret (r := (some (gp_i v2))) rfl H
  · replace H := H.1 (Decidable.byContradiction hc)
    refine gs_E.stp (pc' := 21) (ls' := [gp_r (some q1), gp_i v1, gp_i v2, gp_i v3, gp_i v4, v5, v6, v7, v8, v9]) (st' := [gp_r (some q1)]) (s' := s) 1 rfl ?_
    refine gs_E.ck (pc' := 24) (ls' := [gp_r (some q1), gp_i v1, gp_i v2, gp_i v3, gp_i v4, v5, v6, v7, v8, v9]) (st' := [gp_r (gp_R (gp_mk L s) q1 1)]) (s' := s) rfl H.1 ?_
    replace H := H.2
    refine gs_E.stp (pc' := 26) (ls' := [gp_r (some q1), gp_i v1, gp_i v2, gp_i v3, gp_i v4, v5, v6, v7, v8, v9]) (st' := [gp_i v4, gp_r (gp_R (gp_mk L s) q1 1)]) (s' := s) 1 rfl ?_
    obtain ⟨q2, hq, H⟩ := H
    rw [hq]
    refine gs_E.ck (pc' := 27) (ls' := [gp_r (some q1), gp_i v1, gp_i v2, gp_i v3, gp_i v4, v5, v6, v7, v8, v9]) (st' := [gp_i (gp_I s q2 v4.toNat)]) (s' := s) rfl (Or.inl H.1) ?_
    replace H := H.2
    refine gs_E.stp (pc' := 33) (ls' := [gp_r (some q1), gp_i v1, gp_i v2, gp_i v3, gp_i v4, gp_i (gp_I s q2 v4.toNat), gp_i 0, v7, v8, v9]) (st' := [gp_r (some q1)]) (s' := s) 4 rfl ?_
    refine gs_E.ck (pc' := 36) (ls' := [gp_r (some q1), gp_i v1, gp_i v2, gp_i v3, gp_i v4, gp_i (gp_I s q2 v4.toNat), gp_i 0, v7, v8, v9]) (st' := [gp_r (gp_R (gp_mk L s) q1 0)]) (s' := s) rfl H.1 ?_
    replace H := H.2
    refine gs_E.stp (pc' := 38) (ls' := [gp_r (some q1), gp_i v1, gp_i v2, gp_i v3, gp_i v4, gp_i (gp_I s q2 v4.toNat), gp_i 0, v7, v8, v9]) (st' := [gp_i v4, gp_r (gp_R (gp_mk L s) q1 0)]) (s' := s) 1 rfl ?_
    obtain ⟨q3, hq, H⟩ := H
    rw [hq]
    refine gs_E.ck (pc' := 39) (ls' := [gp_r (some q1), gp_i v1, gp_i v2, gp_i v3, gp_i v4, gp_i (gp_I s q2 v4.toNat), gp_i 0, v7, v8, v9]) (st' := [gp_r (gp_R (gp_mk L s) q3 v4.toNat)]) (s' := s) rfl (Or.inl H.1) ?_
    replace H := H.2
    refine gs_E.stp (pc' := 42) (ls' := [gp_r (some q1), gp_i v1, gp_i v2, gp_i v3, gp_i v4, gp_i (gp_I s q2 v4.toNat), gp_i 0, v7, v8, v9]) (st' := [gp_i v1, gp_i (gp_I s q2 v4.toNat), gp_r (gp_R (gp_mk L s) q3 v4.toNat)]) (s' := s) 2 rfl ?_
    obtain ⟨q4, hq, H⟩ := H
    rw [hq]
    refine gs_E.callV (args := [gp_r (some q4), gp_i (gp_I s q2 v4.toNat), gp_i v1]) (m := 3) (y' := 2307) (st' := []) rfl H.1 H.2 (fun r s5 H => ?_)
    obtain ⟨m6, rfl, H⟩ := H
    show gs_E L (d + 1) 2057 45 [gp_r (some q1), gp_i v1, gp_i v2, gp_i v3, gp_i v4, gp_i (gp_I s q2 v4.toNat), gp_i 0, v7, v8, v9] [gp_l m6] s5 K
    refine gs_E.stp (pc' := 47) (ls' := [gp_r (some q1), gp_i v1, gp_i v2, gp_i v3, gp_i v4, gp_i (gp_I s q2 v4.toNat), gp_i 0, gp_l m6, gp_n, v9]) (st' := []) (s' := s5) 1 rfl ?_
    exact H

set_option maxRecDepth 100000 in
/-- Sum.bestMove, pc 47 -/
theorem s_2057_47 {L d : Nat} {K : Option gV → gH → Prop} {s : gH} (v0 : Option Nat) (v1 : Int) (v2 : Int) (v3 : Int) (v4 : Int) (v5 : Int) (v6 : Int) (v7 : BitVec 64) (v9 : gV) (H : (((gp_cmp v7 (0#64)) = 0 → (∃ q1, v0 = some q1 ∧ ((gp_sh (gp_mk L s) q1).1 = 8 ∧ (∃ q2, gp_R (gp_mk L s) q1 1 = some q2 ∧ (gp_in (gp_mk L s) 100 q2 v4 ∧ ∀ s3, s3 = gp_wI s q2 v4.toNat v5 → gs_E L (d + 1) 2057 11 [gp_r (some q1), gp_i v1, gp_i v2, gp_i v3, gp_i (gp_wr (v4 + 1)), gp_i v5, gp_i v6, gp_l v7, gp_n, v9] [] s3 K))))) ∧ (¬ (gp_cmp v7 (0#64)) = 0 → (∃ q4, v0 = some q4 ∧ ((gp_sh (gp_mk L s) q4).1 = 8 ∧ gs_C L d 2859 2 [gp_l v7] s (fun r s5 => ∃ x6, r = some (gp_i x6) ∧ (∃ q7, gp_R (gp_mk L s) q4 1 = some q7 ∧ (gp_in (gp_mk L s5) 100 q7 v4 ∧ ∀ s8, s8 = gp_wI s5 q7 v4.toNat x6 → ((v1 = 0 → ((gp_sh (gp_mk L s8) q4).1 = 8 ∧ ((gp_sh (gp_mk L s8) q4).1 = 8 ∧ gs_C L d 2059 1 [gp_r (some q4)] s8 (fun r s12 => ∃ x13, r = some (gp_i x13) ∧ (∃ q14, gp_R (gp_mk L s8) q4 7 = some q14 ∧ (gp_in (gp_mk L s12) 100 q14 x13 ∧ gs_E L (d + 1) 2057 91 [gp_r (some q4), gp_i v1, gp_i v2, gp_i v3, gp_i v4, gp_i v5, gp_i v6, gp_l v7, gp_n, v9] [gp_i (gp_I s12 q14 x13.toNat)] s12 K)))))) ∧ (¬ v1 = 0 → ((gp_sh (gp_mk L s8) q4).1 = 8 ∧ ((gp_sh (gp_mk L s8) q4).1 = 8 ∧ gs_C L d 2059 1 [gp_r (some q4)] s8 (fun r s9 => ∃ x10, r = some (gp_i x10) ∧ (∃ q11, gp_R (gp_mk L s8) q4 6 = some q11 ∧ (gp_in (gp_mk L s9) 100 q11 x10 ∧ gs_E L (d + 1) 2057 91 [gp_r (some q4), gp_i v1, gp_i v2, gp_i v3, gp_i v4, gp_i v5, gp_i v6, gp_l v7, gp_n, v9] [gp_i (gp_I s9 q11 x10.toNat)] s9 K))))))))))))))) : gs_E L (d + 1) 2057 47 [gp_r v0, gp_i v1, gp_i v2, gp_i v3, gp_i v4, gp_i v5, gp_i v6, gp_l v7, gp_n, v9] [] s K := by
  refine gs_E.stp (pc' := 51) (ls' := [gp_r v0, gp_i v1, gp_i v2, gp_i v3, gp_i v4, gp_i v5, gp_i v6, gp_l v7, gp_n, v9]) (st' := [gp_i (gp_cmp v7 (0#64))]) (s' := s) 3 rfl ?_
  refine gs_E.br (c := (gp_cmp v7 (0#64)) = 0) (p1 := 143) (p2 := 54) (l1 := [gp_r v0, gp_i v1, gp_i v2, gp_i v3, gp_i v4, gp_i v5, gp_i v6, gp_l v7, gp_n, v9]) (l2 := [gp_r v0, gp_i v1, gp_i v2, gp_i v3, gp_i v4, gp_i v5, gp_i v6, gp_l v7, gp_n, v9]) (s1 := []) (s2 := []) rfl gs_b1 (fun hc => ?_) (fun hc => ?_)
  · replace H := H.1 hc
    refine gs_E.stp (pc' := 144) (ls' := [gp_r v0, gp_i v1, gp_i v2, gp_i v3, gp_i v4, gp_i v5, gp_i v6, gp_l v7, gp_n, v9]) (st' := [gp_r v0]) (s' := s) 1 rfl ?_
    obtain ⟨q1, hq, H⟩ := H
    rw [hq]
    refine gs_E.ck (pc' := 147) (ls' := [gp_r (some q1), gp_i v1, gp_i v2, gp_i v3, gp_i v4, gp_i v5, gp_i v6, gp_l v7, gp_n, v9]) (st' := [gp_r (gp_R (gp_mk L s) q1 1)]) (s' := s) rfl H.1 ?_
    replace H := H.2
    refine gs_E.stp (pc' := 151) (ls' := [gp_r (some q1), gp_i v1, gp_i v2, gp_i v3, gp_i v4, gp_i v5, gp_i v6, gp_l v7, gp_n, v9]) (st' := [gp_i v5, gp_i v4, gp_r (gp_R (gp_mk L s) q1 1)]) (s' := s) 2 rfl ?_
    obtain ⟨q2, hq, H⟩ := H
    rw [hq]
    refine gs_E.ck (pc' := 152) (ls' := [gp_r (some q1), gp_i v1, gp_i v2, gp_i v3, gp_i v4, gp_i v5, gp_i v6, gp_l v7, gp_n, v9]) (st' := []) (s' := gp_wI s q2 v4.toNat v5) rfl H.1 ?_
    replace H := H.2 _ rfl
    generalize gp_wI s q2 v4.toNat v5 = s3 at H ⊢
    refine gs_E.stp (pc' := 11) (ls' := [gp_r (some q1), gp_i v1, gp_i v2, gp_i v3, gp_i (gp_wr (v4 + 1)), gp_i v5, gp_i v6, gp_l v7, gp_n, v9]) (st' := []) (s' := s3) 2 rfl ?_
    exact H
  · replace H := H.2 hc
    refine gs_E.stp (pc' := 55) (ls' := [gp_r v0, gp_i v1, gp_i v2, gp_i v3, gp_i v4, gp_i v5, gp_i v6, gp_l v7, gp_n, v9]) (st' := [gp_r v0]) (s' := s) 1 rfl ?_
    obtain ⟨q4, hq, H⟩ := H
    rw [hq]
    refine gs_E.ck (pc' := 58) (ls' := [gp_r (some q4), gp_i v1, gp_i v2, gp_i v3, gp_i v4, gp_i v5, gp_i v6, gp_l v7, gp_n, v9]) (st' := [gp_r (gp_R (gp_mk L s) q4 1)]) (s' := s) rfl H.1 ?_
    replace H := H.2
    refine gs_E.stp (pc' := 62) (ls' := [gp_r (some q4), gp_i v1, gp_i v2, gp_i v3, gp_i v4, gp_i v5, gp_i v6, gp_l v7, gp_n, v9]) (st' := [gp_l v7, gp_i v4, gp_r (gp_R (gp_mk L s) q4 1)]) (s' := s) 2 rfl ?_
    refine gs_E.call (args := [gp_l v7]) (m := 2) (y' := 2859) (st' := [gp_i v4, gp_r (gp_R (gp_mk L s) q4 1)]) rfl H (fun r s5 H => ?_)
    obtain ⟨x6, rfl, H⟩ := H
    show gs_E L (d + 1) 2057 65 [gp_r (some q4), gp_i v1, gp_i v2, gp_i v3, gp_i v4, gp_i v5, gp_i v6, gp_l v7, gp_n, v9] [gp_i x6, gp_i v4, gp_r (gp_R (gp_mk L s) q4 1)] s5 K
    obtain ⟨q7, hq, H⟩ := H
    rw [hq]
    refine gs_E.ck (pc' := 66) (ls' := [gp_r (some q4), gp_i v1, gp_i v2, gp_i v3, gp_i v4, gp_i v5, gp_i v6, gp_l v7, gp_n, v9]) (st' := []) (s' := gp_wI s5 q7 v4.toNat x6) rfl H.1 ?_
    replace H := H.2 _ rfl
    generalize gp_wI s5 q7 v4.toNat x6 = s8 at H ⊢
    refine gs_E.stp (pc' := 67) (ls' := [gp_r (some q4), gp_i v1, gp_i v2, gp_i v3, gp_i v4, gp_i v5, gp_i v6, gp_l v7, gp_n, v9]) (st' := [gp_i v1]) (s' := s8) 1 rfl ?_
    refine gs_E.br (c := ¬ v1 = 0) (p1 := 82) (p2 := 70) (l1 := [gp_r (some q4), gp_i v1, gp_i v2, gp_i v3, gp_i v4, gp_i v5, gp_i v6, gp_l v7, gp_n, v9]) (l2 := [gp_r (some q4), gp_i v1, gp_i v2, gp_i v3, gp_i v4, gp_i v5, gp_i v6, gp_l v7, gp_n, v9]) (s1 := []) (s2 := []) rfl gs_b2 (fun hc => ?_) (fun hc => ?_)
    · replace H := H.2 hc
      refine gs_E.stp (pc' := 83) (ls' := [gp_r (some q4), gp_i v1, gp_i v2, gp_i v3, gp_i v4, gp_i v5, gp_i v6, gp_l v7, gp_n, v9]) (st' := [gp_r (some q4)]) (s' := s8) 1 rfl ?_
      refine gs_E.ck (pc' := 86) (ls' := [gp_r (some q4), gp_i v1, gp_i v2, gp_i v3, gp_i v4, gp_i v5, gp_i v6, gp_l v7, gp_n, v9]) (st' := [gp_r (gp_R (gp_mk L s8) q4 6)]) (s' := s8) rfl H.1 ?_
      replace H := H.2
      refine gs_E.stp (pc' := 87) (ls' := [gp_r (some q4), gp_i v1, gp_i v2, gp_i v3, gp_i v4, gp_i v5, gp_i v6, gp_l v7, gp_n, v9]) (st' := [gp_r (some q4), gp_r (gp_R (gp_mk L s8) q4 6)]) (s' := s8) 1 rfl ?_
      refine gs_E.callV (args := [gp_r (some q4)]) (m := 1) (y' := 2059) (st' := [gp_r (gp_R (gp_mk L s8) q4 6)]) rfl H.1 H.2 (fun r s9 H => ?_)
      obtain ⟨x10, rfl, H⟩ := H
      show gs_E L (d + 1) 2057 90 [gp_r (some q4), gp_i v1, gp_i v2, gp_i v3, gp_i v4, gp_i v5, gp_i v6, gp_l v7, gp_n, v9] [gp_i x10, gp_r (gp_R (gp_mk L s8) q4 6)] s9 K
      obtain ⟨q11, hq, H⟩ := H
      rw [hq]
      refine gs_E.ck (pc' := 91) (ls' := [gp_r (some q4), gp_i v1, gp_i v2, gp_i v3, gp_i v4, gp_i v5, gp_i v6, gp_l v7, gp_n, v9]) (st' := [gp_i (gp_I s9 q11 x10.toNat)]) (s' := s9) rfl (Or.inl H.1) ?_
      replace H := H.2
      exact H
    · replace H := H.1 (Decidable.byContradiction hc)
      refine gs_E.stp (pc' := 71) (ls' := [gp_r (some q4), gp_i v1, gp_i v2, gp_i v3, gp_i v4, gp_i v5, gp_i v6, gp_l v7, gp_n, v9]) (st' := [gp_r (some q4)]) (s' := s8) 1 rfl ?_
      refine gs_E.ck (pc' := 74) (ls' := [gp_r (some q4), gp_i v1, gp_i v2, gp_i v3, gp_i v4, gp_i v5, gp_i v6, gp_l v7, gp_n, v9]) (st' := [gp_r (gp_R (gp_mk L s8) q4 7)]) (s' := s8) rfl H.1 ?_
      replace H := H.2
      refine gs_E.stp (pc' := 75) (ls' := [gp_r (some q4), gp_i v1, gp_i v2, gp_i v3, gp_i v4, gp_i v5, gp_i v6, gp_l v7, gp_n, v9]) (st' := [gp_r (some q4), gp_r (gp_R (gp_mk L s8) q4 7)]) (s' := s8) 1 rfl ?_
      refine gs_E.callV (args := [gp_r (some q4)]) (m := 1) (y' := 2059) (st' := [gp_r (gp_R (gp_mk L s8) q4 7)]) rfl H.1 H.2 (fun r s12 H => ?_)
      obtain ⟨x13, rfl, H⟩ := H
      show gs_E L (d + 1) 2057 78 [gp_r (some q4), gp_i v1, gp_i v2, gp_i v3, gp_i v4, gp_i v5, gp_i v6, gp_l v7, gp_n, v9] [gp_i x13, gp_r (gp_R (gp_mk L s8) q4 7)] s12 K
      obtain ⟨q14, hq, H⟩ := H
      rw [hq]
      refine gs_E.ck (pc' := 79) (ls' := [gp_r (some q4), gp_i v1, gp_i v2, gp_i v3, gp_i v4, gp_i v5, gp_i v6, gp_l v7, gp_n, v9]) (st' := [gp_i (gp_I s12 q14 x13.toNat)]) (s' := s12) rfl (Or.inl H.1) ?_
      replace H := H.2
      refine gs_E.stp (pc' := 91) (ls' := [gp_r (some q4), gp_i v1, gp_i v2, gp_i v3, gp_i v4, gp_i v5, gp_i v6, gp_l v7, gp_n, v9]) (st' := [gp_i (gp_I s12 q14 x13.toNat)]) (s' := s12) 1 rfl ?_
      exact H

set_option maxRecDepth 100000 in
/-- Sum.bestMove, pc 91 -/
theorem s_2057_91 {L d : Nat} {K : Option gV → gH → Prop} {s : gH} (v0 : Option Nat) (v1 : Int) (v2 : Int) (v3 : Int) (v4 : Int) (v5 : Int) (v6 : Int) (v7 : BitVec 64) (v9 : gV) (w0 : Int) (H : ((v2 < 0 → gs_E L (d + 1) 2057 116 [gp_r v0, gp_i v1, gp_i v2, gp_i v3, gp_i v4, gp_i v5, gp_i v6, gp_l v7, gp_n, gp_i w0] [] s K) ∧ (¬ v2 < 0 → ((v1 = 0 → ((v3 < w0 → gs_E L (d + 1) 2057 116 [gp_r v0, gp_i v1, gp_i v2, gp_i v3, gp_i v4, gp_i v5, gp_i v6, gp_l v7, gp_n, gp_i w0] [] s K) ∧ (¬ v3 < w0 → gs_E L (d + 1) 2057 128 [gp_r v0, gp_i v1, gp_i v2, gp_i v3, gp_i v4, gp_i v5, gp_i v6, gp_l v7, gp_n, gp_i w0] [] s K))) ∧ (¬ v1 = 0 → ((w0 < v3 → gs_E L (d + 1) 2057 116 [gp_r v0, gp_i v1, gp_i v2, gp_i v3, gp_i v4, gp_i v5, gp_i v6, gp_l v7, gp_n, gp_i w0] [] s K) ∧ (¬ w0 < v3 → gs_E L (d + 1) 2057 128 [gp_r v0, gp_i v1, gp_i v2, gp_i v3, gp_i v4, gp_i v5, gp_i v6, gp_l v7, gp_n, gp_i w0] [] s K))))))) : gs_E L (d + 1) 2057 91 [gp_r v0, gp_i v1, gp_i v2, gp_i v3, gp_i v4, gp_i v5, gp_i v6, gp_l v7, gp_n, v9] [gp_i w0] s K := by
  refine gs_E.stp (pc' := 94) (ls' := [gp_r v0, gp_i v1, gp_i v2, gp_i v3, gp_i v4, gp_i v5, gp_i v6, gp_l v7, gp_n, gp_i w0]) (st' := [gp_i v2]) (s' := s) 2 rfl ?_
  refine gs_E.br (c := v2 < 0) (p1 := 116) (p2 := 97) (l1 := [gp_r v0, gp_i v1, gp_i v2, gp_i v3, gp_i v4, gp_i v5, gp_i v6, gp_l v7, gp_n, gp_i w0]) (l2 := [gp_r v0, gp_i v1, gp_i v2, gp_i v3, gp_i v4, gp_i v5, gp_i v6, gp_l v7, gp_n, gp_i w0]) (s1 := []) (s2 := []) rfl gs_b1 (fun hc => ?_) (fun hc => ?_)
  · replace H := H.1 hc
    exact H
  · replace H := H.2 hc
    refine gs_E.stp (pc' := 98) (ls' := [gp_r v0, gp_i v1, gp_i v2, gp_i v3, gp_i v4, gp_i v5, gp_i v6, gp_l v7, gp_n, gp_i w0]) (st' := [gp_i v1]) (s' := s) 1 rfl ?_
    refine gs_E.br (c := ¬ v1 = 0) (p1 := 110) (p2 := 101) (l1 := [gp_r v0, gp_i v1, gp_i v2, gp_i v3, gp_i v4, gp_i v5, gp_i v6, gp_l v7, gp_n, gp_i w0]) (l2 := [gp_r v0, gp_i v1, gp_i v2, gp_i v3, gp_i v4, gp_i v5, gp_i v6, gp_l v7, gp_n, gp_i w0]) (s1 := []) (s2 := []) rfl gs_b2 (fun hc => ?_) (fun hc => ?_)
    · replace H := H.2 hc
      refine gs_E.stp (pc' := 113) (ls' := [gp_r v0, gp_i v1, gp_i v2, gp_i v3, gp_i v4, gp_i v5, gp_i v6, gp_l v7, gp_n, gp_i w0]) (st' := [gp_i v3, gp_i w0]) (s' := s) 2 rfl ?_
      refine gs_E.br (c := ¬ w0 < v3) (p1 := 128) (p2 := 116) (l1 := [gp_r v0, gp_i v1, gp_i v2, gp_i v3, gp_i v4, gp_i v5, gp_i v6, gp_l v7, gp_n, gp_i w0]) (l2 := [gp_r v0, gp_i v1, gp_i v2, gp_i v3, gp_i v4, gp_i v5, gp_i v6, gp_l v7, gp_n, gp_i w0]) (s1 := []) (s2 := []) rfl gs_b2 (fun hc => ?_) (fun hc => ?_)
      · replace H := H.2 hc
        exact H
      · replace H := H.1 (Decidable.byContradiction hc)
        exact H
    · replace H := H.1 (Decidable.byContradiction hc)
      refine gs_E.stp (pc' := 104) (ls' := [gp_r v0, gp_i v1, gp_i v2, gp_i v3, gp_i v4, gp_i v5, gp_i v6, gp_l v7, gp_n, gp_i w0]) (st' := [gp_i v3, gp_i w0]) (s' := s) 2 rfl ?_
      refine gs_E.br (c := ¬ v3 < w0) (p1 := 128) (p2 := 107) (l1 := [gp_r v0, gp_i v1, gp_i v2, gp_i v3, gp_i v4, gp_i v5, gp_i v6, gp_l v7, gp_n, gp_i w0]) (l2 := [gp_r v0, gp_i v1, gp_i v2, gp_i v3, gp_i v4, gp_i v5, gp_i v6, gp_l v7, gp_n, gp_i w0]) (s1 := []) (s2 := []) rfl gs_b2 (fun hc => ?_) (fun hc => ?_)
      · replace H := H.2 hc
        exact H
      · replace H := H.1 (Decidable.byContradiction hc)
        refine gs_E.stp (pc' := 116) (ls' := [gp_r v0, gp_i v1, gp_i v2, gp_i v3, gp_i v4, gp_i v5, gp_i v6, gp_l v7, gp_n, gp_i w0]) (st' := []) (s' := s) 1 rfl ?_
        exact H

set_option maxRecDepth 100000 in
/-- Sum.bestMove, pc 116 -/
theorem s_2057_116 {L d : Nat} {K : Option gV → gH → Prop} {s : gH} (v0 : Option Nat) (v1 : Int) (v2 : Int) (v3 : Int) (v4 : Int) (v5 : Int) (v6 : Int) (v7 : BitVec 64) (v9 : Int) (H : gs_E L (d + 1) 2057 128 [gp_r v0, gp_i v1, gp_i (gp_wr ((gp_wr (v4 * 100)) + v6)), gp_i v9, gp_i v4, gp_i v5, gp_i v6, gp_l v7, gp_n, gp_i v9] [] s K) : gs_E L (d + 1) 2057 116 [gp_r v0, gp_i v1, gp_i v2, gp_i v3, gp_i v4, gp_i v5, gp_i v6, gp_l v7, gp_n, gp_i v9] [] s K := by
  refine gs_E.stp (pc' := 128) (ls' := [gp_r v0, gp_i v1, gp_i (gp_wr ((gp_wr (v4 * 100)) + v6)), gp_i v9, gp_i v4, gp_i v5, gp_i v6, gp_l v7, gp_n, gp_i v9]) (st' := []) (s' := s) 8 rfl ?_
  exact H

set_option maxRecDepth 100000 in
/-- Sum.bestMove, pc 128 -/
theorem s_2057_128 {L d : Nat} {K : Option gV → gH → Prop} {s : gH} (v0 : Option Nat) (v1 : Int) (v2 : Int) (v3 : Int) (v4 : Int) (v5 : Int) (v6 : Int) (v7 : BitVec 64) (v9 : Int) (H : gs_E L (d + 1) 2057 47 [gp_r v0, gp_i v1, gp_i v2, gp_i v3, gp_i v4, gp_i v5, gp_i (gp_wr (v6 + 1)), gp_l (v7 &&& (v7 - (1#64))), gp_n, gp_i v9] [] s K) : gs_E L (d + 1) 2057 128 [gp_r v0, gp_i v1, gp_i v2, gp_i v3, gp_i v4, gp_i v5, gp_i v6, gp_l v7, gp_n, gp_i v9] [] s K := by
  refine gs_E.stp (pc' := 47) (ls' := [gp_r v0, gp_i v1, gp_i v2, gp_i v3, gp_i v4, gp_i v5, gp_i (gp_wr (v6 + 1)), gp_l (v7 &&& (v7 - (1#64))), gp_n, gp_i v9]) (st' := []) (s' := s) 8 rfl ?_
  exact H

set_option maxRecDepth 100000 in
/-- Sum.drawn, pc 0 -/
theorem s_2058_e {L d : Nat} {K : Option gV → gH → Prop} {s : gH} (this : Option Nat) (p0 : Int) (p1 : Int) (H : (∃ q1, this = some q1 ∧ ((gp_sh (gp_mk L s) q1).1 = 8 ∧ gs_C L d 2054 4 [gp_r (some q1), gp_i p0] s (fun r s2 => ∃ x3, r = some (gp_i x3) ∧ ((0 < x3 → (x3 ≠ 0 ∧ gs_E L (d + 1) 2058 17 [gp_r (some q1), gp_i p0, gp_i p1, gp_i x3, gp_n, gp_n, gp_n] [gp_i (p1.tmod x3)] s2 K)) ∧ (¬ 0 < x3 → gs_E L (d + 1) 2058 17 [gp_r (some q1), gp_i p0, gp_i p1, gp_i x3, gp_n, gp_n, gp_n] [gp_i 0] s2 K)))))) : gs_C L (d + 1) 2058 7 [gp_r this, gp_i p0, gp_i p1] s K := by
  show gs_E L (d + 1) 2058 0 [gp_r this, gp_i p0, gp_i p1, gp_n, gp_n, gp_n, gp_n] [] s K
  refine gs_E.stp (pc' := 2) (ls' := [gp_r this, gp_i p0, gp_i p1, gp_n, gp_n, gp_n, gp_n]) (st' := [gp_i p0, gp_r this]) (s' := s) 2 rfl ?_
  obtain ⟨q1, hq, H⟩ := H
  rw [hq]
  refine gs_E.callV (args := [gp_r (some q1), gp_i p0]) (m := 4) (y' := 2054) (st' := []) rfl H.1 H.2 (fun r s2 H => ?_)
  obtain ⟨x3, rfl, H⟩ := H
  show gs_E L (d + 1) 2058 5 [gp_r (some q1), gp_i p0, gp_i p1, gp_n, gp_n, gp_n, gp_n] [gp_i x3] s2 K
  refine gs_E.stp (pc' := 7) (ls' := [gp_r (some q1), gp_i p0, gp_i p1, gp_i x3, gp_n, gp_n, gp_n]) (st' := [gp_i x3]) (s' := s2) 2 rfl ?_
  refine gs_E.br (c := ¬ 0 < x3) (p1 := 16) (p2 := 10) (l1 := [gp_r (some q1), gp_i p0, gp_i p1, gp_i x3, gp_n, gp_n, gp_n]) (l2 := [gp_r (some q1), gp_i p0, gp_i p1, gp_i x3, gp_n, gp_n, gp_n]) (s1 := []) (s2 := []) rfl gs_b2 (fun hc => ?_) (fun hc => ?_)
  · replace H := H.2 hc
    refine gs_E.stp (pc' := 17) (ls' := [gp_r (some q1), gp_i p0, gp_i p1, gp_i x3, gp_n, gp_n, gp_n]) (st' := [gp_i 0]) (s' := s2) 1 rfl ?_
    exact H
  · replace H := H.1 (Decidable.byContradiction hc)
    refine gs_E.stp (pc' := 12) (ls' := [gp_r (some q1), gp_i p0, gp_i p1, gp_i x3, gp_n, gp_n, gp_n]) (st' := [gp_i x3, gp_i p1]) (s' := s2) 2 rfl ?_
    refine gs_E.ck (pc' := 13) (ls' := [gp_r (some q1), gp_i p0, gp_i p1, gp_i x3, gp_n, gp_n, gp_n]) (st' := [gp_i (p1.tmod x3)]) (s' := s2) rfl H.1 ?_
    replace H := H.2
    refine gs_E.stp (pc' := 17) (ls' := [gp_r (some q1), gp_i p0, gp_i p1, gp_i x3, gp_n, gp_n, gp_n]) (st' := [gp_i (p1.tmod x3)]) (s' := s2) 1 rfl ?_
    exact H

set_option maxRecDepth 100000 in
/-- Sum.drawn, pc 17 -/
theorem s_2058_17 {L d : Nat} {K : Option gV → gH → Prop} {s : gH} (v0 : Option Nat) (v1 : Int) (v2 : Int) (v3 : Int) (v4 : gV) (v5 : gV) (v6 : gV) (w0 : Int) (H : gs_E L (d + 1) 2058 22 [gp_r v0, gp_i v1, gp_i v2, gp_i v3, gp_i w0, gp_i 0, v6] [] s K) : gs_E L (d + 1) 2058 17 [gp_r v0, gp_i v1, gp_i v2, gp_i v3, v4, v5, v6] [gp_i w0] s K := by
  refine gs_E.stp (pc' := 22) (ls' := [gp_r v0, gp_i v1, gp_i v2, gp_i v3, gp_i w0, gp_i 0, v6]) (st' := []) (s' := s) 3 rfl ?_
  exact H

set_option maxRecDepth 100000 in
/-- Sum.drawn, pc 22 -/
theorem s_2058_22 {L d : Nat} {K : Option gV → gH → Prop} {s : gH} (v0 : Option Nat) (v1 : Int) (v2 : Int) (v3 : Int) (v4 : Int) (v5 : Int) (v6 : gV) (H : (∃ q1, v0 = some q1 ∧ ((gp_sh (gp_mk L s) q1).1 = 8 ∧ ((v5 < (gp_I s q1 4) → ((gp_sh (gp_mk L s) q1).1 = 8 ∧ gs_C L d 2053 3 [gp_r (some q1), gp_i v5, gp_i v1] s (fun r s2 => ∃ x3, r = some (gp_i x3) ∧ ((v4 < x3 → K (some (gp_i (gp_wr ((gp_wr (v5 * 100)) + v4)))) s2) ∧ (¬ v4 < x3 → gs_E L (d + 1) 2058 22 [gp_r (some q1), gp_i v1, gp_i v2, gp_i v3, gp_i (gp_wr (v4 - x3)), gp_i (gp_wr (v5 + 1)), gp_i x3] [] s2 K))))) ∧ (¬ v5 < (gp_I s q1 4) → K (some (gp_i (-1))) s))))) : gs_E L (d + 1) 2058 22 [gp_r v0, gp_i v1, gp_i v2, gp_i v3, gp_i v4, gp_i v5, v6] [] s K := by
  refine gs_E.stp (pc' := 25) (ls' := [gp_r v0, gp_i v1, gp_i v2, gp_i v3, gp_i v4, gp_i v5, v6]) (st' := [gp_r v0, gp_i v5]) (s' := s) 2 rfl ?_
  obtain ⟨q1, hq, H⟩ := H
  rw [hq]
  refine gs_E.ck (pc' := 28) (ls' := [gp_r (some q1), gp_i v1, gp_i v2, gp_i v3, gp_i v4, gp_i v5, v6]) (st' := [gp_i (gp_I s q1 4), gp_i v5]) (s' := s) rfl H.1 ?_
  replace H := H.2
  refine gs_E.br (c := ¬ v5 < (gp_I s q1 4)) (p1 := 69) (p2 := 31) (l1 := [gp_r (some q1), gp_i v1, gp_i v2, gp_i v3, gp_i v4, gp_i v5, v6]) (l2 := [gp_r (some q1), gp_i v1, gp_i v2, gp_i v3, gp_i v4, gp_i v5, v6]) (s1 := []) (s2 := []) rfl gs_b2 (fun hc => ?_) (fun hc => ?_)
  · replace H := H.2 hc
    refine gs_E.stp (pc' := 70) (ls' := [gp_r (some q1), gp_i v1, gp_i v2, gp_i v3, gp_i v4, gp_i v5, v6]) (st' := [gp_i (-1)]) (s' := s) 1 rfl ?_
    exact gs_E.ret (r := (some (gp_i (-1)))) rfl H
  · replace H := H.1 (Decidable.byContradiction hc)
    refine gs_E.stp (pc' := 35) (ls' := [gp_r (some q1), gp_i v1, gp_i v2, gp_i v3, gp_i v4, gp_i v5, v6]) (st' := [gp_i v1, gp_i v5, gp_r (some q1)]) (s' := s) 3 rfl ?_
    refine gs_E.callV (args := [gp_r (some q1), gp_i v5, gp_i v1]) (m := 3) (y' := 2053) (st' := []) rfl H.1 H.2 (fun r s2 H => ?_)
    obtain ⟨x3, rfl, H⟩ := H
    show gs_E L (d + 1) 2058 38 [gp_r (some q1), gp_i v1, gp_i v2, gp_i v3, gp_i v4, gp_i v5, v6] [gp_i x3] s2 K
    refine gs_E.stp (pc' := 44) (ls' := [gp_r (some q1), gp_i v1, gp_i v2, gp_i v3, gp_i v4, gp_i v5, gp_i x3]) (st' := [gp_i x3, gp_i v4]) (s' := s2) 3 rfl ?_
    refine gs_E.br (c := ¬ v4 < x3) (p1 := 56) (p2 := 47) (l1 := [gp_r (some q1), gp_i v1, gp_i v2, gp_i v3, gp_i v4, gp_i v5, gp_i x3]) (l2 := [gp_r (some q1), gp_i v1, gp_i v2, gp_i v3, gp_i v4, gp_i v5, gp_i x3]) (s1 := []) (s2 := []) rfl gs_b2 (fun hc => ?_) (fun hc => ?_)
    · replace H := H.2 hc
      refine gs_E.stp (pc' := 22) (ls' := [gp_r (some q1), gp_i v1, gp_i v2, gp_i v3, gp_i (gp_wr (v4 - x3)), gp_i (gp_wr (v5 + 1)), gp_i x3]) (st' := []) (s' := s2) 6 rfl ?_
      exact H
    · replace H := H.1 (Decidable.byContradiction hc)
      refine gs_E.stp (pc' := 55) (ls' := [gp_r (some q1), gp_i v1, gp_i v2, gp_i v3, gp_i v4, gp_i v5, gp_i x3]) (st' := [gp_i (gp_wr ((gp_wr (v5 * 100)) + v4))]) (s' := s2) 5 rfl ?_
      exact gs_E.ret (r := (some (gp_i (gp_wr ((gp_wr (v5 * 100)) + v4))))) rfl H

set_option maxRecDepth 100000 in
/-- Sum.place, pc 0 -/
theorem s_2059_e {L d : Nat} {K : Option gV → gH → Prop} {s : gH} (this : Option Nat) (H : (∃ q1, this = some q1 ∧ ((gp_sh (gp_mk L s) q1).1 = 8 ∧ (∃ q2, gp_R (gp_mk L s) q1 1 = some q2 ∧ (gp_in (gp_mk L s) 100 q2 0 ∧ ((gp_sh (gp_mk L s) q1).1 = 8 ∧ (∃ q3, gp_R (gp_mk L s) q1 0 = some q3 ∧ (gp_in (gp_mk L s) 103 q3 1 ∧ (∃ q4, gp_R (gp_mk L s) q3 1 = some q4 ∧ ((gp_sh (gp_mk L s) q4).1 = 9 ∧ ((gp_sh (gp_mk L s) q1).1 = 8 ∧ (∃ q5, gp_R (gp_mk L s) q1 1 = some q5 ∧ (gp_in (gp_mk L s) 100 q5 1 ∧ ((gp_sh (gp_mk L s) q1).1 = 8 ∧ (∃ q6, gp_R (gp_mk L s) q1 0 = some q6 ∧ (gp_in (gp_mk L s) 103 q6 2 ∧ (∃ q7, gp_R (gp_mk L s) q6 2 = some q7 ∧ ((gp_sh (gp_mk L s) q7).1 = 9 ∧ ((gp_sh (gp_mk L s) q1).1 = 8 ∧ (∃ q8, gp_R (gp_mk L s) q1 1 = some q8 ∧ (gp_in (gp_mk L s) 100 q8 2 ∧ K (some (gp_i (gp_wr ((gp_wr ((gp_wr ((gp_wr ((gp_I s q2 0) * (gp_I s q4 0))) + (gp_I s q5 1))) * (gp_I s q7 0))) + (gp_I s q8 2))))) s))))))))))))))))))))) : gs_C L d 2059 1 [gp_r this] s K := by
  show gs_E L d 2059 0 [gp_r this] [] s K
  refine gs_E.stp (pc' := 1) (ls' := [gp_r this]) (st' := [gp_r this]) (s' := s) 1 rfl ?_
  obtain ⟨q1, hq, H⟩ := H
  rw [hq]
  refine gs_E.ck (pc' := 4) (ls' := [gp_r (some q1)]) (st' := [gp_r (gp_R (gp_mk L s) q1 1)]) (s' := s) rfl H.1 ?_
  replace H := H.2
  refine gs_E.stp (pc' := 5) (ls' := [gp_r (some q1)]) (st' := [gp_i 0, gp_r (gp_R (gp_mk L s) q1 1)]) (s' := s) 1 rfl ?_
  obtain ⟨q2, hq, H⟩ := H
  rw [hq]
  refine gs_E.ck (pc' := 6) (ls' := [gp_r (some q1)]) (st' := [gp_i (gp_I s q2 0)]) (s' := s) rfl (Or.inl H.1) ?_
  replace H := H.2
  refine gs_E.stp (pc' := 7) (ls' := [gp_r (some q1)]) (st' := [gp_r (some q1), gp_i (gp_I s q2 0)]) (s' := s) 1 rfl ?_
  refine gs_E.ck (pc' := 10) (ls' := [gp_r (some q1)]) (st' := [gp_r (gp_R (gp_mk L s) q1 0), gp_i (gp_I s q2 0)]) (s' := s) rfl H.1 ?_
  replace H := H.2
  refine gs_E.stp (pc' := 11) (ls' := [gp_r (some q1)]) (st' := [gp_i 1, gp_r (gp_R (gp_mk L s) q1 0), gp_i (gp_I s q2 0)]) (s' := s) 1 rfl ?_
  obtain ⟨q3, hq, H⟩ := H
  rw [hq]
  refine gs_E.ck (pc' := 12) (ls' := [gp_r (some q1)]) (st' := [gp_r (gp_R (gp_mk L s) q3 1), gp_i (gp_I s q2 0)]) (s' := s) rfl (Or.inl H.1) ?_
  replace H := H.2
  obtain ⟨q4, hq, H⟩ := H
  rw [hq]
  refine gs_E.ck (pc' := 15) (ls' := [gp_r (some q1)]) (st' := [gp_i (gp_I s q4 0), gp_i (gp_I s q2 0)]) (s' := s) rfl H.1 ?_
  replace H := H.2
  refine gs_E.stp (pc' := 17) (ls' := [gp_r (some q1)]) (st' := [gp_r (some q1), gp_i (gp_wr ((gp_I s q2 0) * (gp_I s q4 0)))]) (s' := s) 2 rfl ?_
  refine gs_E.ck (pc' := 20) (ls' := [gp_r (some q1)]) (st' := [gp_r (gp_R (gp_mk L s) q1 1), gp_i (gp_wr ((gp_I s q2 0) * (gp_I s q4 0)))]) (s' := s) rfl H.1 ?_
  replace H := H.2
  refine gs_E.stp (pc' := 21) (ls' := [gp_r (some q1)]) (st' := [gp_i 1, gp_r (gp_R (gp_mk L s) q1 1), gp_i (gp_wr ((gp_I s q2 0) * (gp_I s q4 0)))]) (s' := s) 1 rfl ?_
  obtain ⟨q5, hq, H⟩ := H
  rw [hq]
  refine gs_E.ck (pc' := 22) (ls' := [gp_r (some q1)]) (st' := [gp_i (gp_I s q5 1), gp_i (gp_wr ((gp_I s q2 0) * (gp_I s q4 0)))]) (s' := s) rfl (Or.inl H.1) ?_
  replace H := H.2
  refine gs_E.stp (pc' := 24) (ls' := [gp_r (some q1)]) (st' := [gp_r (some q1), gp_i (gp_wr ((gp_wr ((gp_I s q2 0) * (gp_I s q4 0))) + (gp_I s q5 1)))]) (s' := s) 2 rfl ?_
  refine gs_E.ck (pc' := 27) (ls' := [gp_r (some q1)]) (st' := [gp_r (gp_R (gp_mk L s) q1 0), gp_i (gp_wr ((gp_wr ((gp_I s q2 0) * (gp_I s q4 0))) + (gp_I s q5 1)))]) (s' := s) rfl H.1 ?_
  replace H := H.2
  refine gs_E.stp (pc' := 28) (ls' := [gp_r (some q1)]) (st' := [gp_i 2, gp_r (gp_R (gp_mk L s) q1 0), gp_i (gp_wr ((gp_wr ((gp_I s q2 0) * (gp_I s q4 0))) + (gp_I s q5 1)))]) (s' := s) 1 rfl ?_
  obtain ⟨q6, hq, H⟩ := H
  rw [hq]
  refine gs_E.ck (pc' := 29) (ls' := [gp_r (some q1)]) (st' := [gp_r (gp_R (gp_mk L s) q6 2), gp_i (gp_wr ((gp_wr ((gp_I s q2 0) * (gp_I s q4 0))) + (gp_I s q5 1)))]) (s' := s) rfl (Or.inl H.1) ?_
  replace H := H.2
  obtain ⟨q7, hq, H⟩ := H
  rw [hq]
  refine gs_E.ck (pc' := 32) (ls' := [gp_r (some q1)]) (st' := [gp_i (gp_I s q7 0), gp_i (gp_wr ((gp_wr ((gp_I s q2 0) * (gp_I s q4 0))) + (gp_I s q5 1)))]) (s' := s) rfl H.1 ?_
  replace H := H.2
  refine gs_E.stp (pc' := 34) (ls' := [gp_r (some q1)]) (st' := [gp_r (some q1), gp_i (gp_wr ((gp_wr ((gp_wr ((gp_I s q2 0) * (gp_I s q4 0))) + (gp_I s q5 1))) * (gp_I s q7 0)))]) (s' := s) 2 rfl ?_
  refine gs_E.ck (pc' := 37) (ls' := [gp_r (some q1)]) (st' := [gp_r (gp_R (gp_mk L s) q1 1), gp_i (gp_wr ((gp_wr ((gp_wr ((gp_I s q2 0) * (gp_I s q4 0))) + (gp_I s q5 1))) * (gp_I s q7 0)))]) (s' := s) rfl H.1 ?_
  replace H := H.2
  refine gs_E.stp (pc' := 38) (ls' := [gp_r (some q1)]) (st' := [gp_i 2, gp_r (gp_R (gp_mk L s) q1 1), gp_i (gp_wr ((gp_wr ((gp_wr ((gp_I s q2 0) * (gp_I s q4 0))) + (gp_I s q5 1))) * (gp_I s q7 0)))]) (s' := s) 1 rfl ?_
  obtain ⟨q8, hq, H⟩ := H
  rw [hq]
  refine gs_E.ck (pc' := 39) (ls' := [gp_r (some q1)]) (st' := [gp_i (gp_I s q8 2), gp_i (gp_wr ((gp_wr ((gp_wr ((gp_I s q2 0) * (gp_I s q4 0))) + (gp_I s q5 1))) * (gp_I s q7 0)))]) (s' := s) rfl (Or.inl H.1) ?_
  replace H := H.2
  refine gs_E.stp (pc' := 40) (ls' := [gp_r (some q1)]) (st' := [gp_i (gp_wr ((gp_wr ((gp_wr ((gp_wr ((gp_I s q2 0) * (gp_I s q4 0))) + (gp_I s q5 1))) * (gp_I s q7 0))) + (gp_I s q8 2)))]) (s' := s) 1 rfl ?_
  exact gs_E.ret (r := (some (gp_i (gp_wr ((gp_wr ((gp_wr ((gp_wr ((gp_I s q2 0) * (gp_I s q4 0))) + (gp_I s q5 1))) * (gp_I s q7 0))) + (gp_I s q8 2)))))) rfl H

set_option maxRecDepth 100000 in
/-- Sum.fill, pc 0 -/
theorem s_2060_e {L d : Nat} {K : Option gV → gH → Prop} {s : gH} (this : Option Nat) (H : (∃ q1, this = some q1 ∧ ((gp_sh (gp_mk L s) q1).1 = 8 ∧ (((gp_I s q1 8) = 0 → ((gp_sh (gp_mk L s) q1).1 = 8 ∧ (∃ q2, gp_R (gp_mk L s) q1 0 = some q2 ∧ (gp_in (gp_mk L s) 103 q2 0 ∧ (∃ q3, gp_R (gp_mk L s) q2 0 = some q3 ∧ ((gp_sh (gp_mk L s) q3).1 = 9 ∧ ((gp_sh (gp_mk L s) q1).1 = 8 ∧ (∃ q4, gp_R (gp_mk L s) q1 0 = some q4 ∧ (gp_in (gp_mk L s) 103 q4 1 ∧ (∃ q5, gp_R (gp_mk L s) q4 1 = some q5 ∧ ((gp_sh (gp_mk L s) q5).1 = 9 ∧ ((gp_sh (gp_mk L s) q1).1 = 8 ∧ (∃ q6, gp_R (gp_mk L s) q1 0 = some q6 ∧ (gp_in (gp_mk L s) 103 q6 2 ∧ (∃ q7, gp_R (gp_mk L s) q6 2 = some q7 ∧ ((gp_sh (gp_mk L s) q7).1 = 9 ∧ ((gp_sh (gp_mk L s) q1).1 = 8 ∧ (∃ q8, gp_R (gp_mk L s) q1 6 = some q8 ∧ (((100 ≤ (gp_sh (gp_mk L s) q8).1 ∧ (gp_sh (gp_mk L s) q8).1 ≤ 105) ∧ ((gp_sh (gp_mk L s) q8).2 : Int) < 2147483648) ∧ ((((gp_sh (gp_mk L s) q8).2 : Int) < (gp_wr ((gp_wr ((gp_I s q3 0) * (gp_I s q5 0))) * (gp_I s q7 0))) → ((gp_sh (gp_mk L s) q1).1 = 8 ∧ (∃ q9, gp_R (gp_mk L s) q1 6 = some q9 ∧ (((100 ≤ (gp_sh (gp_mk L s) q9).1 ∧ (gp_sh (gp_mk L s) q9).1 ≤ 105) ∧ ((gp_sh (gp_mk L s) q9).2 : Int) < 2147483648) ∧ ((0 ≤ (gp_mi 216000 (gp_mx (gp_wr ((gp_wr ((gp_I s q3 0) * (gp_I s q5 0))) * (gp_I s q7 0))) (gp_wr (2 * ((gp_sh (gp_mk L s) q9).2 : Int))))) ∧ (gp_mi 216000 (gp_mx (gp_wr ((gp_wr ((gp_I s q3 0) * (gp_I s q5 0))) * (gp_I s q7 0))) (gp_wr (2 * ((gp_sh (gp_mk L s) q9).2 : Int))))) ≤ 1000000) ∧ 117 ≤ gp_sz s ∧ ∀ s10, s10 = gp_new s 100 (gp_mi 216000 (gp_mx (gp_wr ((gp_wr ((gp_I s q3 0) * (gp_I s q5 0))) * (gp_I s q7 0))) (gp_wr (2 * ((gp_sh (gp_mk L s) q9).2 : Int))))).toNat → ((gp_sh (gp_mk L s10) q1).1 = 8 ∧ gp_sR q1 6 = none ∧ ∀ s11, s11 = gp_wR s10 q1 6 (some (gp_sz s)) → ((0 ≤ (gp_mi 216000 (gp_mx (gp_wr ((gp_wr ((gp_I s q3 0) * (gp_I s q5 0))) * (gp_I s q7 0))) (gp_wr (2 * ((gp_sh (gp_mk L s) q9).2 : Int))))) ∧ (gp_mi 216000 (gp_mx (gp_wr ((gp_wr ((gp_I s q3 0) * (gp_I s q5 0))) * (gp_I s q7 0))) (gp_wr (2 * ((gp_sh (gp_mk L s) q9).2 : Int))))) ≤ 1000000) ∧ 117 ≤ gp_sz s11 ∧ ∀ s12, s12 = gp_new s11 100 (gp_mi 216000 (gp_mx (gp_wr ((gp_wr ((gp_I s q3 0) * (gp_I s q5 0))) * (gp_I s q7 0))) (gp_wr (2 * ((gp_sh (gp_mk L s) q9).2 : Int))))).toNat → ((gp_sh (gp_mk L s12) q1).1 = 8 ∧ gp_sR q1 7 = none ∧ ∀ s13, s13 = gp_wR s12 q1 7 (some (gp_sz s11)) → gs_E L (d + 1) 2060 78 [gp_r (some q1), gp_i (gp_wr ((gp_wr ((gp_I s q3 0) * (gp_I s q5 0))) * (gp_I s q7 0))), gp_i (gp_mi 216000 (gp_mx (gp_wr ((gp_wr ((gp_I s q3 0) * (gp_I s q5 0))) * (gp_I s q7 0))) (gp_wr (2 * ((gp_sh (gp_mk L s) q9).2 : Int))))), gp_n] [] s13 K)))))))) ∧ (¬ ((gp_sh (gp_mk L s) q8).2 : Int) < (gp_wr ((gp_wr ((gp_I s q3 0) * (gp_I s q5 0))) * (gp_I s q7 0))) → gs_E L (d + 1) 2060 78 [gp_r (some q1), gp_i (gp_wr ((gp_wr ((gp_I s q3 0) * (gp_I s q5 0))) * (gp_I s q7 0))), gp_n, gp_n] [] s K))))))))))))))))))))) ∧ (¬ (gp_I s q1 8) = 0 → K none s))))) : gs_C L (d + 1) 2060 4 [gp_r this] s K := by
  show gs_E L (d + 1) 2060 0 [gp_r this, gp_n, gp_n, gp_n] [] s K
  refine gs_E.stp (pc' := 1) (ls' := [gp_r this, gp_n, gp_n, gp_n]) (st' := [gp_r this]) (s' := s) 1 rfl ?_
  obtain ⟨q1, hq, H⟩ := H
  rw [hq]
  refine gs_E.ck (pc' := 4) (ls' := [gp_r (some q1), gp_n, gp_n, gp_n]) (st' := [gp_i (gp_I s q1 8)]) (s' := s) rfl H.1 ?_
  replace H := H.2
  refine gs_E.br (c := (gp_I s q1 8) = 0) (p1 := 8) (p2 := 7) (l1 := [gp_r (some q1), gp_n, gp_n, gp_n]) (l2 := [gp_r (some q1), gp_n, gp_n, gp_n]) (s1 := []) (s2 := []) rfl gs_b1 (fun hc => ?_) (fun hc => ?_)
  · replace H := H.1 hc
    refine gs_E.stp (pc' := 9) (ls' := [gp_r (some q1), gp_n, gp_n, gp_n]) (st' := [gp_r (some q1)]) (s' := s) 1 rfl ?_
    refine gs_E.ck (pc' := 12) (ls' := [gp_r (some q1), gp_n, gp_n, gp_n]) (st' := [gp_r (gp_R (gp_mk L s) q1 0)]) (s' := s) rfl H.1 ?_
    replace H := H.2
    refine gs_E.stp (pc' := 13) (ls' := [gp_r (some q1), gp_n, gp_n, gp_n]) (st' := [gp_i 0, gp_r (gp_R (gp_mk L s) q1 0)]) (s' := s) 1 rfl ?_
    obtain ⟨q2, hq, H⟩ := H
    rw [hq]
    refine gs_E.ck (pc' := 14) (ls' := [gp_r (some q1), gp_n, gp_n, gp_n]) (st' := [gp_r (gp_R (gp_mk L s) q2 0)]) (s' := s) rfl (Or.inl H.1) ?_
    replace H := H.2
    obtain ⟨q3, hq, H⟩ := H
    rw [hq]
    refine gs_E.ck (pc' := 17) (ls' := [gp_r (some q1), gp_n, gp_n, gp_n]) (st' := [gp_i (gp_I s q3 0)]) (s' := s) rfl H.1 ?_
    replace H := H.2
    refine gs_E.stp (pc' := 18) (ls' := [gp_r (some q1), gp_n, gp_n, gp_n]) (st' := [gp_r (some q1), gp_i (gp_I s q3 0)]) (s' := s) 1 rfl ?_
    refine gs_E.ck (pc' := 21) (ls' := [gp_r (some q1), gp_n, gp_n, gp_n]) (st' := [gp_r (gp_R (gp_mk L s) q1 0), gp_i (gp_I s q3 0)]) (s' := s) rfl H.1 ?_
    replace H := H.2
    refine gs_E.stp (pc' := 22) (ls' := [gp_r (some q1), gp_n, gp_n, gp_n]) (st' := [gp_i 1, gp_r (gp_R (gp_mk L s) q1 0), gp_i (gp_I s q3 0)]) (s' := s) 1 rfl ?_
    obtain ⟨q4, hq, H⟩ := H
    rw [hq]
    refine gs_E.ck (pc' := 23) (ls' := [gp_r (some q1), gp_n, gp_n, gp_n]) (st' := [gp_r (gp_R (gp_mk L s) q4 1), gp_i (gp_I s q3 0)]) (s' := s) rfl (Or.inl H.1) ?_
    replace H := H.2
    obtain ⟨q5, hq, H⟩ := H
    rw [hq]
    refine gs_E.ck (pc' := 26) (ls' := [gp_r (some q1), gp_n, gp_n, gp_n]) (st' := [gp_i (gp_I s q5 0), gp_i (gp_I s q3 0)]) (s' := s) rfl H.1 ?_
    replace H := H.2
    refine gs_E.stp (pc' := 28) (ls' := [gp_r (some q1), gp_n, gp_n, gp_n]) (st' := [gp_r (some q1), gp_i (gp_wr ((gp_I s q3 0) * (gp_I s q5 0)))]) (s' := s) 2 rfl ?_
    refine gs_E.ck (pc' := 31) (ls' := [gp_r (some q1), gp_n, gp_n, gp_n]) (st' := [gp_r (gp_R (gp_mk L s) q1 0), gp_i (gp_wr ((gp_I s q3 0) * (gp_I s q5 0)))]) (s' := s) rfl H.1 ?_
    replace H := H.2
    refine gs_E.stp (pc' := 32) (ls' := [gp_r (some q1), gp_n, gp_n, gp_n]) (st' := [gp_i 2, gp_r (gp_R (gp_mk L s) q1 0), gp_i (gp_wr ((gp_I s q3 0) * (gp_I s q5 0)))]) (s' := s) 1 rfl ?_
    obtain ⟨q6, hq, H⟩ := H
    rw [hq]
    refine gs_E.ck (pc' := 33) (ls' := [gp_r (some q1), gp_n, gp_n, gp_n]) (st' := [gp_r (gp_R (gp_mk L s) q6 2), gp_i (gp_wr ((gp_I s q3 0) * (gp_I s q5 0)))]) (s' := s) rfl (Or.inl H.1) ?_
    replace H := H.2
    obtain ⟨q7, hq, H⟩ := H
    rw [hq]
    refine gs_E.ck (pc' := 36) (ls' := [gp_r (some q1), gp_n, gp_n, gp_n]) (st' := [gp_i (gp_I s q7 0), gp_i (gp_wr ((gp_I s q3 0) * (gp_I s q5 0)))]) (s' := s) rfl H.1 ?_
    replace H := H.2
    refine gs_E.stp (pc' := 39) (ls' := [gp_r (some q1), gp_i (gp_wr ((gp_wr ((gp_I s q3 0) * (gp_I s q5 0))) * (gp_I s q7 0))), gp_n, gp_n]) (st' := [gp_r (some q1)]) (s' := s) 3 rfl ?_
    refine gs_E.ck (pc' := 42) (ls' := [gp_r (some q1), gp_i (gp_wr ((gp_wr ((gp_I s q3 0) * (gp_I s q5 0))) * (gp_I s q7 0))), gp_n, gp_n]) (st' := [gp_r (gp_R (gp_mk L s) q1 6)]) (s' := s) rfl H.1 ?_
    replace H := H.2
    obtain ⟨q8, hq, H⟩ := H
    rw [hq]
    refine gs_E.len rfl H.1.1 H.1.2 rfl ?_
    replace H := H.2
    refine gs_E.stp (pc' := 44) (ls' := [gp_r (some q1), gp_i (gp_wr ((gp_wr ((gp_I s q3 0) * (gp_I s q5 0))) * (gp_I s q7 0))), gp_n, gp_n]) (st' := [gp_i (gp_wr ((gp_wr ((gp_I s q3 0) * (gp_I s q5 0))) * (gp_I s q7 0))), gp_i ((gp_sh (gp_mk L s) q8).2 : Int)]) (s' := s) 1 rfl ?_
    refine gs_E.br (c := ¬ ((gp_sh (gp_mk L s) q8).2 : Int) < (gp_wr ((gp_wr ((gp_I s q3 0) * (gp_I s q5 0))) * (gp_I s q7 0)))) (p1 := 78) (p2 := 47) (l1 := [gp_r (some q1), gp_i (gp_wr ((gp_wr ((gp_I s q3 0) * (gp_I s q5 0))) * (gp_I s q7 0))), gp_n, gp_n]) (l2 := [gp_r (some q1), gp_i (gp_wr ((gp_wr ((gp_I s q3 0) * (gp_I s q5 0))) * (gp_I s q7 0))), gp_n, gp_n]) (s1 := []) (s2 := []) rfl gs_b2 (fun hc => ?_) (fun hc => ?_)
    · replace H := H.2 hc
      exact H
    · replace H := H.1 (Decidable.byContradiction hc)
      refine gs_E.stp (pc' := 52) (ls' := [gp_r (some q1), gp_i (gp_wr ((gp_wr ((gp_I s q3 0) * (gp_I s q5 0))) * (gp_I s q7 0))), gp_n, gp_n]) (st' := [gp_r (some q1), gp_i 2, gp_i (gp_wr ((gp_wr ((gp_I s q3 0) * (gp_I s q5 0))) * (gp_I s q7 0))), gp_i 216000]) (s' := s) 4 rfl ?_
      refine gs_E.ck (pc' := 55) (ls' := [gp_r (some q1), gp_i (gp_wr ((gp_wr ((gp_I s q3 0) * (gp_I s q5 0))) * (gp_I s q7 0))), gp_n, gp_n]) (st' := [gp_r (gp_R (gp_mk L s) q1 6), gp_i 2, gp_i (gp_wr ((gp_wr ((gp_I s q3 0) * (gp_I s q5 0))) * (gp_I s q7 0))), gp_i 216000]) (s' := s) rfl H.1 ?_
      replace H := H.2
      obtain ⟨q9, hq, H⟩ := H
      rw [hq]
      refine gs_E.len rfl H.1.1 H.1.2 rfl ?_
      replace H := H.2
      refine gs_E.stp (pc' := 66) (ls' := [gp_r (some q1), gp_i (gp_wr ((gp_wr ((gp_I s q3 0) * (gp_I s q5 0))) * (gp_I s q7 0))), gp_i (gp_mi 216000 (gp_mx (gp_wr ((gp_wr ((gp_I s q3 0) * (gp_I s q5 0))) * (gp_I s q7 0))) (gp_wr (2 * ((gp_sh (gp_mk L s) q9).2 : Int))))), gp_n]) (st' := [gp_i (gp_mi 216000 (gp_mx (gp_wr ((gp_wr ((gp_I s q3 0) * (gp_I s q5 0))) * (gp_I s q7 0))) (gp_wr (2 * ((gp_sh (gp_mk L s) q9).2 : Int))))), gp_r (some q1)]) (s' := s) 6 rfl ?_
      refine gs_E.newi rfl H.1 H.2.1 ?_
      replace H := H.2.2 _ rfl
      generalize gp_new s 100 (gp_mi 216000 (gp_mx (gp_wr ((gp_wr ((gp_I s q3 0) * (gp_I s q5 0))) * (gp_I s q7 0))) (gp_wr (2 * ((gp_sh (gp_mk L s) q9).2 : Int))))).toNat = s10 at H ⊢
      refine gs_E.ckR (pc' := 71) (ls' := [gp_r (some q1), gp_i (gp_wr ((gp_wr ((gp_I s q3 0) * (gp_I s q5 0))) * (gp_I s q7 0))), gp_i (gp_mi 216000 (gp_mx (gp_wr ((gp_wr ((gp_I s q3 0) * (gp_I s q5 0))) * (gp_I s q7 0))) (gp_wr (2 * ((gp_sh (gp_mk L s) q9).2 : Int))))), gp_n]) (st' := []) (a := q1) (f := 6) (v := (some (gp_sz s))) rfl ⟨H.1, rfl⟩ H.2.1 ?_
      replace H := H.2.2 _ rfl
      generalize gp_wR s10 q1 6 (some (gp_sz s)) = s11 at H ⊢
      refine gs_E.stp (pc' := 73) (ls' := [gp_r (some q1), gp_i (gp_wr ((gp_wr ((gp_I s q3 0) * (gp_I s q5 0))) * (gp_I s q7 0))), gp_i (gp_mi 216000 (gp_mx (gp_wr ((gp_wr ((gp_I s q3 0) * (gp_I s q5 0))) * (gp_I s q7 0))) (gp_wr (2 * ((gp_sh (gp_mk L s) q9).2 : Int))))), gp_n]) (st' := [gp_i (gp_mi 216000 (gp_mx (gp_wr ((gp_wr ((gp_I s q3 0) * (gp_I s q5 0))) * (gp_I s q7 0))) (gp_wr (2 * ((gp_sh (gp_mk L s) q9).2 : Int))))), gp_r (some q1)]) (s' := s11) 2 rfl ?_
      refine gs_E.newi rfl H.1 H.2.1 ?_
      replace H := H.2.2 _ rfl
      generalize gp_new s11 100 (gp_mi 216000 (gp_mx (gp_wr ((gp_wr ((gp_I s q3 0) * (gp_I s q5 0))) * (gp_I s q7 0))) (gp_wr (2 * ((gp_sh (gp_mk L s) q9).2 : Int))))).toNat = s12 at H ⊢
      refine gs_E.ckR (pc' := 78) (ls' := [gp_r (some q1), gp_i (gp_wr ((gp_wr ((gp_I s q3 0) * (gp_I s q5 0))) * (gp_I s q7 0))), gp_i (gp_mi 216000 (gp_mx (gp_wr ((gp_wr ((gp_I s q3 0) * (gp_I s q5 0))) * (gp_I s q7 0))) (gp_wr (2 * ((gp_sh (gp_mk L s) q9).2 : Int))))), gp_n]) (st' := []) (a := q1) (f := 7) (v := (some (gp_sz s11))) rfl ⟨H.1, rfl⟩ H.2.1 ?_
      replace H := H.2.2 _ rfl
      generalize gp_wR s12 q1 7 (some (gp_sz s11)) = s13 at H ⊢
      exact H
  · replace H := H.2 hc
    exact gs_E.ret (r := none) rfl H

set_option maxRecDepth 100000 in
/-- Sum.fill, pc 78 -/
theorem s_2060_78 {L d : Nat} {K : Option gV → gH → Prop} {s : gH} (v0 : Option Nat) (v1 : Int) (v2 : gV) (v3 : gV) (H : gs_E L (d + 1) 2060 80 [gp_r v0, gp_i v1, gp_i 0, v3] [] s K) : gs_E L (d + 1) 2060 78 [gp_r v0, gp_i v1, v2, v3] [] s K := by
  refine gs_E.stp (pc' := 80) (ls' := [gp_r v0, gp_i v1, gp_i 0, v3]) (st' := []) (s' := s) 2 rfl ?_
  exact H

set_option maxRecDepth 100000 in
/-- Sum.fill, pc 80 -/
theorem s_2060_80 {L d : Nat} {K : Option gV → gH → Prop} {s : gH} (v0 : Option Nat) (v1 : Int) (v2 : Int) (v3 : gV) (H : (∃ q1, v0 = some q1 ∧ ((gp_sh (gp_mk L s) q1).1 = 8 ∧ (∃ q2, gp_R (gp_mk L s) q1 0 = some q2 ∧ (gp_in (gp_mk L s) 103 q2 0 ∧ (∃ q3, gp_R (gp_mk L s) q2 0 = some q3 ∧ ((gp_sh (gp_mk L s) q3).1 = 9 ∧ ((v2 < (gp_I s q3 0) → gs_E L (d + 1) 2060 95 [gp_r (some q1), gp_i v1, gp_i v2, gp_i 0] [] s K) ∧ (¬ v2 < (gp_I s q3 0) → ((gp_sh (gp_mk L s) q1).1 = 8 ∧ ∀ s4, s4 = gp_wI s q1 8 1 → K none s4)))))))))) : gs_E L (d + 1) 2060 80 [gp_r v0, gp_i v1, gp_i v2, v3] [] s K := by
  refine gs_E.stp (pc' := 82) (ls' := [gp_r v0, gp_i v1, gp_i v2, v3]) (st' := [gp_r v0, gp_i v2]) (s' := s) 2 rfl ?_
  obtain ⟨q1, hq, H⟩ := H
  rw [hq]
  refine gs_E.ck (pc' := 85) (ls' := [gp_r (some q1), gp_i v1, gp_i v2, v3]) (st' := [gp_r (gp_R (gp_mk L s) q1 0), gp_i v2]) (s' := s) rfl H.1 ?_
  replace H := H.2
  refine gs_E.stp (pc' := 86) (ls' := [gp_r (some q1), gp_i v1, gp_i v2, v3]) (st' := [gp_i 0, gp_r (gp_R (gp_mk L s) q1 0), gp_i v2]) (s' := s) 1 rfl ?_
  obtain ⟨q2, hq, H⟩ := H
  rw [hq]
  refine gs_E.ck (pc' := 87) (ls' := [gp_r (some q1), gp_i v1, gp_i v2, v3]) (st' := [gp_r (gp_R (gp_mk L s) q2 0), gp_i v2]) (s' := s) rfl (Or.inl H.1) ?_
  replace H := H.2
  obtain ⟨q3, hq, H⟩ := H
  rw [hq]
  refine gs_E.ck (pc' := 90) (ls' := [gp_r (some q1), gp_i v1, gp_i v2, v3]) (st' := [gp_i (gp_I s q3 0), gp_i v2]) (s' := s) rfl H.1 ?_
  replace H := H.2
  refine gs_E.br (c := ¬ v2 < (gp_I s q3 0)) (p1 := 126) (p2 := 93) (l1 := [gp_r (some q1), gp_i v1, gp_i v2, v3]) (l2 := [gp_r (some q1), gp_i v1, gp_i v2, v3]) (s1 := []) (s2 := []) rfl gs_b2 (fun hc => ?_) (fun hc => ?_)
  · replace H := H.2 hc
    refine gs_E.stp (pc' := 128) (ls' := [gp_r (some q1), gp_i v1, gp_i v2, v3]) (st' := [gp_i 1, gp_r (some q1)]) (s' := s) 2 rfl ?_
    refine gs_E.ck (pc' := 131) (ls' := [gp_r (some q1), gp_i v1, gp_i v2, v3]) (st' := []) (s' := gp_wI s q1 8 1) rfl ⟨H.1, Or.inr ⟨rfl, Or.inr rfl⟩⟩ ?_
    replace H := H.2 _ rfl
    generalize gp_wI s q1 8 1 = s4 at H ⊢
    exact gs_E.ret (r := none) rfl H
  · replace H := H.1 (Decidable.byContradiction hc)
    refine gs_E.stp (pc' := 95) (ls' := [gp_r (some q1), gp_i v1, gp_i v2, gp_i 0]) (st' := []) (s' := s) 2 rfl ?_
    exact H

set_option maxRecDepth 100000 in
/-- Sum.fill, pc 95 -/
theorem s_2060_95 {L d : Nat} {K : Option gV → gH → Prop} {s : gH} (v0 : Option Nat) (v1 : Int) (v2 : Int) (v3 : Int) (H : (∃ q1, v0 = some q1 ∧ ((gp_sh (gp_mk L s) q1).1 = 8 ∧ (∃ q2, gp_R (gp_mk L s) q1 0 = some q2 ∧ (gp_in (gp_mk L s) 103 q2 1 ∧ (∃ q3, gp_R (gp_mk L s) q2 1 = some q3 ∧ ((gp_sh (gp_mk L s) q3).1 = 9 ∧ ((v3 < (gp_I s q3 0) → ((gp_sh (gp_mk L s) q1).1 = 8 ∧ gs_C L d 2061 9 [gp_r (some q1), gp_i v2, gp_i v3] s (fun r s4 => r = none ∧ gs_E L (d + 1) 2060 95 [gp_r (some q1), gp_i v1, gp_i v2, gp_i (gp_wr (v3 + 1))] [] s4 K))) ∧ (¬ v3 < (gp_I s q3 0) → gs_E L (d + 1) 2060 80 [gp_r (some q1), gp_i v1, gp_i (gp_wr (v2 + 1)), gp_i v3] [] s K))))))))) : gs_E L (d + 1) 2060 95 [gp_r v0, gp_i v1, gp_i v2, gp_i v3] [] s K := by
  refine gs_E.stp (pc' := 97) (ls' := [gp_r v0, gp_i v1, gp_i v2, gp_i v3]) (st' := [gp_r v0, gp_i v3]) (s' := s) 2 rfl ?_
  obtain ⟨q1, hq, H⟩ := H
  rw [hq]
  refine gs_E.ck (pc' := 100) (ls' := [gp_r (some q1), gp_i v1, gp_i v2, gp_i v3]) (st' := [gp_r (gp_R (gp_mk L s) q1 0), gp_i v3]) (s' := s) rfl H.1 ?_
  replace H := H.2
  refine gs_E.stp (pc' := 101) (ls' := [gp_r (some q1), gp_i v1, gp_i v2, gp_i v3]) (st' := [gp_i 1, gp_r (gp_R (gp_mk L s) q1 0), gp_i v3]) (s' := s) 1 rfl ?_
  obtain ⟨q2, hq, H⟩ := H
  rw [hq]
  refine gs_E.ck (pc' := 102) (ls' := [gp_r (some q1), gp_i v1, gp_i v2, gp_i v3]) (st' := [gp_r (gp_R (gp_mk L s) q2 1), gp_i v3]) (s' := s) rfl (Or.inl H.1) ?_
  replace H := H.2
  obtain ⟨q3, hq, H⟩ := H
  rw [hq]
  refine gs_E.ck (pc' := 105) (ls' := [gp_r (some q1), gp_i v1, gp_i v2, gp_i v3]) (st' := [gp_i (gp_I s q3 0), gp_i v3]) (s' := s) rfl H.1 ?_
  replace H := H.2
  refine gs_E.br (c := ¬ v3 < (gp_I s q3 0)) (p1 := 120) (p2 := 108) (l1 := [gp_r (some q1), gp_i v1, gp_i v2, gp_i v3]) (l2 := [gp_r (some q1), gp_i v1, gp_i v2, gp_i v3]) (s1 := []) (s2 := []) rfl gs_b2 (fun hc => ?_) (fun hc => ?_)
  · replace H := H.2 hc
    refine gs_E.stp (pc' := 80) (ls' := [gp_r (some q1), gp_i v1, gp_i (gp_wr (v2 + 1)), gp_i v3]) (st' := []) (s' := s) 2 rfl ?_
    exact H
  · replace H := H.1 (Decidable.byContradiction hc)
    refine gs_E.stp (pc' := 111) (ls' := [gp_r (some q1), gp_i v1, gp_i v2, gp_i v3]) (st' := [gp_i v3, gp_i v2, gp_r (some q1)]) (s' := s) 3 rfl ?_
    refine gs_E.callV (args := [gp_r (some q1), gp_i v2, gp_i v3]) (m := 9) (y' := 2061) (st' := []) rfl H.1 H.2 (fun r s4 H => ?_)
    obtain ⟨rfl, H⟩ := H
    show gs_E L (d + 1) 2060 114 [gp_r (some q1), gp_i v1, gp_i v2, gp_i v3] [] s4 K
    refine gs_E.stp (pc' := 95) (ls' := [gp_r (some q1), gp_i v1, gp_i v2, gp_i (gp_wr (v3 + 1))]) (st' := []) (s' := s4) 2 rfl ?_
    exact H

set_option maxRecDepth 100000 in
/-- Sum.fillRow, pc 0 -/
theorem s_2061_e {L d : Nat} {K : Option gV → gH → Prop} {s : gH} (this : Option Nat) (p0 : Int) (p1 : Int) (H : (∃ q1, this = some q1 ∧ ((gp_sh (gp_mk L s) q1).1 = 8 ∧ (∃ q2, gp_R (gp_mk L s) q1 0 = some q2 ∧ (gp_in (gp_mk L s) 103 q2 2 ∧ (∃ q3, gp_R (gp_mk L s) q2 2 = some q3 ∧ ((gp_sh (gp_mk L s) q3).1 = 9 ∧ ((gp_sh (gp_mk L s) q1).1 = 8 ∧ (∃ q4, gp_R (gp_mk L s) q1 0 = some q4 ∧ (gp_in (gp_mk L s) 103 q4 1 ∧ (∃ q5, gp_R (gp_mk L s) q4 1 = some q5 ∧ ((gp_sh (gp_mk L s) q5).1 = 9 ∧ gs_E L (d + 1) 2061 34 [gp_r (some q1), gp_i p0, gp_i p1, gp_i (gp_I s q3 0), gp_i (gp_I s q5 0), gp_i (gp_wr ((gp_wr ((gp_wr (p0 * (gp_I s q5 0))) + p1)) * (gp_I s q3 0))), gp_i 0, gp_n, gp_n] [] s K)))))))))))) : gs_C L (d + 1) 2061 9 [gp_r this, gp_i p0, gp_i p1] s K := by
  show gs_E L (d + 1) 2061 0 [gp_r this, gp_i p0, gp_i p1, gp_n, gp_n, gp_n, gp_n, gp_n, gp_n] [] s K
  refine gs_E.stp (pc' := 1) (ls' := [gp_r this, gp_i p0, gp_i p1, gp_n, gp_n, gp_n, gp_n, gp_n, gp_n]) (st' := [gp_r this]) (s' := s) 1 rfl ?_
  obtain ⟨q1, hq, H⟩ := H
  rw [hq]
  refine gs_E.ck (pc' := 4) (ls' := [gp_r (some q1), gp_i p0, gp_i p1, gp_n, gp_n, gp_n, gp_n, gp_n, gp_n]) (st' := [gp_r (gp_R (gp_mk L s) q1 0)]) (s' := s) rfl H.1 ?_
  replace H := H.2
  refine gs_E.stp (pc' := 5) (ls' := [gp_r (some q1), gp_i p0, gp_i p1, gp_n, gp_n, gp_n, gp_n, gp_n, gp_n]) (st' := [gp_i 2, gp_r (gp_R (gp_mk L s) q1 0)]) (s' := s) 1 rfl ?_
  obtain ⟨q2, hq, H⟩ := H
  rw [hq]
  refine gs_E.ck (pc' := 6) (ls' := [gp_r (some q1), gp_i p0, gp_i p1, gp_n, gp_n, gp_n, gp_n, gp_n, gp_n]) (st' := [gp_r (gp_R (gp_mk L s) q2 2)]) (s' := s) rfl (Or.inl H.1) ?_
  replace H := H.2
  obtain ⟨q3, hq, H⟩ := H
  rw [hq]
  refine gs_E.ck (pc' := 9) (ls' := [gp_r (some q1), gp_i p0, gp_i p1, gp_n, gp_n, gp_n, gp_n, gp_n, gp_n]) (st' := [gp_i (gp_I s q3 0)]) (s' := s) rfl H.1 ?_
  replace H := H.2
  refine gs_E.stp (pc' := 11) (ls' := [gp_r (some q1), gp_i p0, gp_i p1, gp_i (gp_I s q3 0), gp_n, gp_n, gp_n, gp_n, gp_n]) (st' := [gp_r (some q1)]) (s' := s) 2 rfl ?_
  refine gs_E.ck (pc' := 14) (ls' := [gp_r (some q1), gp_i p0, gp_i p1, gp_i (gp_I s q3 0), gp_n, gp_n, gp_n, gp_n, gp_n]) (st' := [gp_r (gp_R (gp_mk L s) q1 0)]) (s' := s) rfl H.1 ?_
  replace H := H.2
  refine gs_E.stp (pc' := 15) (ls' := [gp_r (some q1), gp_i p0, gp_i p1, gp_i (gp_I s q3 0), gp_n, gp_n, gp_n, gp_n, gp_n]) (st' := [gp_i 1, gp_r (gp_R (gp_mk L s) q1 0)]) (s' := s) 1 rfl ?_
  obtain ⟨q4, hq, H⟩ := H
  rw [hq]
  refine gs_E.ck (pc' := 16) (ls' := [gp_r (some q1), gp_i p0, gp_i p1, gp_i (gp_I s q3 0), gp_n, gp_n, gp_n, gp_n, gp_n]) (st' := [gp_r (gp_R (gp_mk L s) q4 1)]) (s' := s) rfl (Or.inl H.1) ?_
  replace H := H.2
  obtain ⟨q5, hq, H⟩ := H
  rw [hq]
  refine gs_E.ck (pc' := 19) (ls' := [gp_r (some q1), gp_i p0, gp_i p1, gp_i (gp_I s q3 0), gp_n, gp_n, gp_n, gp_n, gp_n]) (st' := [gp_i (gp_I s q5 0)]) (s' := s) rfl H.1 ?_
  replace H := H.2
  refine gs_E.stp (pc' := 34) (ls' := [gp_r (some q1), gp_i p0, gp_i p1, gp_i (gp_I s q3 0), gp_i (gp_I s q5 0), gp_i (gp_wr ((gp_wr ((gp_wr (p0 * (gp_I s q5 0))) + p1)) * (gp_I s q3 0))), gp_i 0, gp_n, gp_n]) (st' := []) (s' := s) 11 rfl ?_
  exact H

set_option maxRecDepth 100000 in
/-- Sum.fillRow, pc 34 -/
theorem s_2061_34 {L d : Nat} {K : Option gV → gH → Prop} {s : gH} (v0 : Option Nat) (v1 : Int) (v2 : Int) (v3 : Int) (v4 : Int) (v5 : Int) (v6 : Int) (v7 : gV) (v8 : gV) (H : ((v6 < v3 → (∃ q1, v0 = some q1 ∧ ((gp_sh (gp_mk L s) q1).1 = 8 ∧ (∃ q2, gp_R (gp_mk L s) q1 6 = some q2 ∧ (gp_in (gp_mk L s) 100 q2 (gp_wr (v5 + v6)) ∧ ∀ s3, s3 = gp_wI s q2 (gp_wr (v5 + v6)).toNat (-2147483648) → ((gp_sh (gp_mk L s3) q1).1 = 8 ∧ (∃ q4, gp_R (gp_mk L s3) q1 7 = some q4 ∧ (gp_in (gp_mk L s3) 100 q4 (gp_wr (v5 + v6)) ∧ ∀ s5, s5 = gp_wI s3 q4 (gp_wr (v5 + v6)).toNat 2147483647 → gs_E L (d + 1) 2061 34 [gp_r (some q1), gp_i v1, gp_i v2, gp_i v3, gp_i v4, gp_i v5, gp_i (gp_wr (v6 + 1)), v7, v8] [] s5 K)))))))) ∧ (¬ v6 < v3 → gs_E L (d + 1) 2061 73 [gp_r v0, gp_i v1, gp_i v2, gp_i v3, gp_i v4, gp_i v5, gp_i 0, v7, v8] [] s K))) : gs_E L (d + 1) 2061 34 [gp_r v0, gp_i v1, gp_i v2, gp_i v3, gp_i v4, gp_i v5, gp_i v6, v7, v8] [] s K := by
  refine gs_E.stp (pc' := 37) (ls' := [gp_r v0, gp_i v1, gp_i v2, gp_i v3, gp_i v4, gp_i v5, gp_i v6, v7, v8]) (st' := [gp_i v3, gp_i v6]) (s' := s) 2 rfl ?_
  refine gs_E.br (c := ¬ v6 < v3) (p1 := 70) (p2 := 40) (l1 := [gp_r v0, gp_i v1, gp_i v2, gp_i v3, gp_i v4, gp_i v5, gp_i v6, v7, v8]) (l2 := [gp_r v0, gp_i v1, gp_i v2, gp_i v3, gp_i v4, gp_i v5, gp_i v6, v7, v8]) (s1 := []) (s2 := []) rfl gs_b2 (fun hc => ?_) (fun hc => ?_)
  · replace H := H.2 hc
    refine gs_E.stp (pc' := 73) (ls' := [gp_r v0, gp_i v1, gp_i v2, gp_i v3, gp_i v4, gp_i v5, gp_i 0, v7, v8]) (st' := []) (s' := s) 2 rfl ?_
    exact H
  · replace H := H.1 (Decidable.byContradiction hc)
    refine gs_E.stp (pc' := 41) (ls' := [gp_r v0, gp_i v1, gp_i v2, gp_i v3, gp_i v4, gp_i v5, gp_i v6, v7, v8]) (st' := [gp_r v0]) (s' := s) 1 rfl ?_
    obtain ⟨q1, hq, H⟩ := H
    rw [hq]
    refine gs_E.ck (pc' := 44) (ls' := [gp_r (some q1), gp_i v1, gp_i v2, gp_i v3, gp_i v4, gp_i v5, gp_i v6, v7, v8]) (st' := [gp_r (gp_R (gp_mk L s) q1 6)]) (s' := s) rfl H.1 ?_
    replace H := H.2
    refine gs_E.stp (pc' := 51) (ls' := [gp_r (some q1), gp_i v1, gp_i v2, gp_i v3, gp_i v4, gp_i v5, gp_i v6, v7, v8]) (st' := [gp_i (-2147483648), gp_i (gp_wr (v5 + v6)), gp_r (gp_R (gp_mk L s) q1 6)]) (s' := s) 4 rfl ?_
    obtain ⟨q2, hq, H⟩ := H
    rw [hq]
    refine gs_E.ck (pc' := 52) (ls' := [gp_r (some q1), gp_i v1, gp_i v2, gp_i v3, gp_i v4, gp_i v5, gp_i v6, v7, v8]) (st' := []) (s' := gp_wI s q2 (gp_wr (v5 + v6)).toNat (-2147483648)) rfl H.1 ?_
    replace H := H.2 _ rfl
    generalize gp_wI s q2 (gp_wr (v5 + v6)).toNat (-2147483648) = s3 at H ⊢
    refine gs_E.stp (pc' := 53) (ls' := [gp_r (some q1), gp_i v1, gp_i v2, gp_i v3, gp_i v4, gp_i v5, gp_i v6, v7, v8]) (st' := [gp_r (some q1)]) (s' := s3) 1 rfl ?_
    refine gs_E.ck (pc' := 56) (ls' := [gp_r (some q1), gp_i v1, gp_i v2, gp_i v3, gp_i v4, gp_i v5, gp_i v6, v7, v8]) (st' := [gp_r (gp_R (gp_mk L s3) q1 7)]) (s' := s3) rfl H.1 ?_
    replace H := H.2
    refine gs_E.stp (pc' := 63) (ls' := [gp_r (some q1), gp_i v1, gp_i v2, gp_i v3, gp_i v4, gp_i v5, gp_i v6, v7, v8]) (st' := [gp_i 2147483647, gp_i (gp_wr (v5 + v6)), gp_r (gp_R (gp_mk L s3) q1 7)]) (s' := s3) 4 rfl ?_
    obtain ⟨q4, hq, H⟩ := H
    rw [hq]
    refine gs_E.ck (pc' := 64) (ls' := [gp_r (some q1), gp_i v1, gp_i v2, gp_i v3, gp_i v4, gp_i v5, gp_i v6, v7, v8]) (st' := []) (s' := gp_wI s3 q4 (gp_wr (v5 + v6)).toNat 2147483647) rfl H.1 ?_
    replace H := H.2 _ rfl
    generalize gp_wI s3 q4 (gp_wr (v5 + v6)).toNat 2147483647 = s5 at H ⊢
    refine gs_E.stp (pc' := 34) (ls' := [gp_r (some q1), gp_i v1, gp_i v2, gp_i v3, gp_i v4, gp_i v5, gp_i (gp_wr (v6 + 1)), v7, v8]) (st' := []) (s' := s5) 2 rfl ?_
    exact H

set_option maxRecDepth 100000 in
/-- Sum.fillRow, pc 73 -/
theorem s_2061_73 {L d : Nat} {K : Option gV → gH → Prop} {s : gH} (v0 : Option Nat) (v1 : Int) (v2 : Int) (v3 : Int) (v4 : Int) (v5 : Int) (v6 : Int) (v7 : gV) (v8 : gV) (H : ((v6 < 2 → (∃ q14, v0 = some q14 ∧ ((gp_sh (gp_mk L s) q14).1 = 8 ∧ (∃ q15, gp_R (gp_mk L s) q14 0 = some q15 ∧ (gp_in (gp_mk L s) 103 q15 0 ∧ (∃ q16, gp_R (gp_mk L s) q15 0 = some q16 ∧ ((gp_sh (gp_mk L s) q16).1 = 9 ∧ gs_C L d 2307 3 [gp_r (some q16), gp_i v1, gp_i v6] s (fun r s17 => ∃ m18, r = some (gp_l m18) ∧ gs_E L (d + 1) 2061 93 [gp_r (some q14), gp_i v1, gp_i v2, gp_i v3, gp_i v4, gp_i v5, gp_i v6, gp_l m18, gp_n] [] s17 K)))))))) ∧ (¬ v6 < 2 → (∃ q1, v0 = some q1 ∧ ((gp_sh (gp_mk L s) q1).1 = 8 ∧ (∃ q2, gp_R (gp_mk L s) q1 0 = some q2 ∧ (gp_in (gp_mk L s) 103 q2 0 ∧ (∃ q3, gp_R (gp_mk L s) q2 0 = some q3 ∧ ((gp_sh (gp_mk L s) q3).1 = 9 ∧ (∃ q4, gp_R (gp_mk L s) q3 3 = some q4 ∧ (gp_in (gp_mk L s) 100 q4 v1 ∧ ((gp_sh (gp_mk L s) q1).1 = 8 ∧ (∃ q5, gp_R (gp_mk L s) q1 0 = some q5 ∧ (gp_in (gp_mk L s) 103 q5 1 ∧ (∃ q6, gp_R (gp_mk L s) q5 1 = some q6 ∧ ((gp_sh (gp_mk L s) q6).1 = 9 ∧ (∃ q7, gp_R (gp_mk L s) q6 3 = some q7 ∧ (gp_in (gp_mk L s) 100 q7 v2 ∧ ((gp_sh (gp_mk L s) q1).1 = 8 ∧ (∃ q8, gp_R (gp_mk L s) q1 0 = some q8 ∧ (gp_in (gp_mk L s) 103 q8 0 ∧ (∃ q9, gp_R (gp_mk L s) q8 0 = some q9 ∧ ((gp_sh (gp_mk L s) q9).1 = 9 ∧ (∃ q10, gp_R (gp_mk L s) q9 4 = some q10 ∧ (gp_in (gp_mk L s) 100 q10 v1 ∧ ((gp_sh (gp_mk L s) q1).1 = 8 ∧ (∃ q11, gp_R (gp_mk L s) q1 0 = some q11 ∧ (gp_in (gp_mk L s) 103 q11 1 ∧ (∃ q12, gp_R (gp_mk L s) q11 1 = some q12 ∧ ((gp_sh (gp_mk L s) q12).1 = 9 ∧ (∃ q13, gp_R (gp_mk L s) q12 4 = some q13 ∧ (gp_in (gp_mk L s) 100 q13 v2 ∧ gs_E L (d + 1) 2061 246 [gp_r (some q1), gp_i v1, gp_i v2, gp_i v3, gp_i v4, gp_i v5, gp_i (gp_wr ((gp_I s q4 v1.toNat) + (gp_I s q7 v2.toNat))), gp_i (gp_wr ((gp_I s q10 v1.toNat) + (gp_I s q13 v2.toNat))), gp_i 0] [] s K)))))))))))))))))))))))))))))))) : gs_E L (d + 1) 2061 73 [gp_r v0, gp_i v1, gp_i v2, gp_i v3, gp_i v4, gp_i v5, gp_i v6, v7, v8] [] s K := by
  refine gs_E.stp (pc' := 76) (ls' := [gp_r v0, gp_i v1, gp_i v2, gp_i v3, gp_i v4, gp_i v5, gp_i v6, v7, v8]) (st' := [gp_i 2, gp_i v6]) (s' := s) 2 rfl ?_
  refine gs_E.br (c := ¬ v6 < 2) (p1 := 193) (p2 := 79) (l1 := [gp_r v0, gp_i v1, gp_i v2, gp_i v3, gp_i v4, gp_i v5, gp_i v6, v7, v8]) (l2 := [gp_r v0, gp_i v1, gp_i v2, gp_i v3, gp_i v4, gp_i v5, gp_i v6, v7, v8]) (s1 := []) (s2 := []) rfl gs_b2 (fun hc => ?_) (fun hc => ?_)
  · replace H := H.2 hc
    refine gs_E.stp (pc' := 194) (ls' := [gp_r v0, gp_i v1, gp_i v2, gp_i v3, gp_i v4, gp_i v5, gp_i v6, v7, v8]) (st' := [gp_r v0]) (s' := s) 1 rfl ?_
    obtain ⟨q1, hq, H⟩ := H
    rw [hq]
    refine gs_E.ck (pc' := 197) (ls' := [gp_r (some q1), gp_i v1, gp_i v2, gp_i v3, gp_i v4, gp_i v5, gp_i v6, v7, v8]) (st' := [gp_r (gp_R (gp_mk L s) q1 0)]) (s' := s) rfl H.1 ?_
    replace H := H.2
    refine gs_E.stp (pc' := 198) (ls' := [gp_r (some q1), gp_i v1, gp_i v2, gp_i v3, gp_i v4, gp_i v5, gp_i v6, v7, v8]) (st' := [gp_i 0, gp_r (gp_R (gp_mk L s) q1 0)]) (s' := s) 1 rfl ?_
    obtain ⟨q2, hq, H⟩ := H
    rw [hq]
    refine gs_E.ck (pc' := 199) (ls' := [gp_r (some q1), gp_i v1, gp_i v2, gp_i v3, gp_i v4, gp_i v5, gp_i v6, v7, v8]) (st' := [gp_r (gp_R (gp_mk L s) q2 0)]) (s' := s) rfl (Or.inl H.1) ?_
    replace H := H.2
    obtain ⟨q3, hq, H⟩ := H
    rw [hq]
    refine gs_E.ck (pc' := 202) (ls' := [gp_r (some q1), gp_i v1, gp_i v2, gp_i v3, gp_i v4, gp_i v5, gp_i v6, v7, v8]) (st' := [gp_r (gp_R (gp_mk L s) q3 3)]) (s' := s) rfl H.1 ?_
    replace H := H.2
    refine gs_E.stp (pc' := 203) (ls' := [gp_r (some q1), gp_i v1, gp_i v2, gp_i v3, gp_i v4, gp_i v5, gp_i v6, v7, v8]) (st' := [gp_i v1, gp_r (gp_R (gp_mk L s) q3 3)]) (s' := s) 1 rfl ?_
    obtain ⟨q4, hq, H⟩ := H
    rw [hq]
    refine gs_E.ck (pc' := 204) (ls' := [gp_r (some q1), gp_i v1, gp_i v2, gp_i v3, gp_i v4, gp_i v5, gp_i v6, v7, v8]) (st' := [gp_i (gp_I s q4 v1.toNat)]) (s' := s) rfl (Or.inl H.1) ?_
    replace H := H.2
    refine gs_E.stp (pc' := 205) (ls' := [gp_r (some q1), gp_i v1, gp_i v2, gp_i v3, gp_i v4, gp_i v5, gp_i v6, v7, v8]) (st' := [gp_r (some q1), gp_i (gp_I s q4 v1.toNat)]) (s' := s) 1 rfl ?_
    refine gs_E.ck (pc' := 208) (ls' := [gp_r (some q1), gp_i v1, gp_i v2, gp_i v3, gp_i v4, gp_i v5, gp_i v6, v7, v8]) (st' := [gp_r (gp_R (gp_mk L s) q1 0), gp_i (gp_I s q4 v1.toNat)]) (s' := s) rfl H.1 ?_
    replace H := H.2
    refine gs_E.stp (pc' := 209) (ls' := [gp_r (some q1), gp_i v1, gp_i v2, gp_i v3, gp_i v4, gp_i v5, gp_i v6, v7, v8]) (st' := [gp_i 1, gp_r (gp_R (gp_mk L s) q1 0), gp_i (gp_I s q4 v1.toNat)]) (s' := s) 1 rfl ?_
    obtain ⟨q5, hq, H⟩ := H
    rw [hq]
    refine gs_E.ck (pc' := 210) (ls' := [gp_r (some q1), gp_i v1, gp_i v2, gp_i v3, gp_i v4, gp_i v5, gp_i v6, v7, v8]) (st' := [gp_r (gp_R (gp_mk L s) q5 1), gp_i (gp_I s q4 v1.toNat)]) (s' := s) rfl (Or.inl H.1) ?_
    replace H := H.2
    obtain ⟨q6, hq, H⟩ := H
    rw [hq]
    refine gs_E.ck (pc' := 213) (ls' := [gp_r (some q1), gp_i v1, gp_i v2, gp_i v3, gp_i v4, gp_i v5, gp_i v6, v7, v8]) (st' := [gp_r (gp_R (gp_mk L s) q6 3), gp_i (gp_I s q4 v1.toNat)]) (s' := s) rfl H.1 ?_
    replace H := H.2
    refine gs_E.stp (pc' := 214) (ls' := [gp_r (some q1), gp_i v1, gp_i v2, gp_i v3, gp_i v4, gp_i v5, gp_i v6, v7, v8]) (st' := [gp_i v2, gp_r (gp_R (gp_mk L s) q6 3), gp_i (gp_I s q4 v1.toNat)]) (s' := s) 1 rfl ?_
    obtain ⟨q7, hq, H⟩ := H
    rw [hq]
    refine gs_E.ck (pc' := 215) (ls' := [gp_r (some q1), gp_i v1, gp_i v2, gp_i v3, gp_i v4, gp_i v5, gp_i v6, v7, v8]) (st' := [gp_i (gp_I s q7 v2.toNat), gp_i (gp_I s q4 v1.toNat)]) (s' := s) rfl (Or.inl H.1) ?_
    replace H := H.2
    refine gs_E.stp (pc' := 219) (ls' := [gp_r (some q1), gp_i v1, gp_i v2, gp_i v3, gp_i v4, gp_i v5, gp_i (gp_wr ((gp_I s q4 v1.toNat) + (gp_I s q7 v2.toNat))), v7, v8]) (st' := [gp_r (some q1)]) (s' := s) 3 rfl ?_
    refine gs_E.ck (pc' := 222) (ls' := [gp_r (some q1), gp_i v1, gp_i v2, gp_i v3, gp_i v4, gp_i v5, gp_i (gp_wr ((gp_I s q4 v1.toNat) + (gp_I s q7 v2.toNat))), v7, v8]) (st' := [gp_r (gp_R (gp_mk L s) q1 0)]) (s' := s) rfl H.1 ?_
    replace H := H.2
    refine gs_E.stp (pc' := 223) (ls' := [gp_r (some q1), gp_i v1, gp_i v2, gp_i v3, gp_i v4, gp_i v5, gp_i (gp_wr ((gp_I s q4 v1.toNat) + (gp_I s q7 v2.toNat))), v7, v8]) (st' := [gp_i 0, gp_r (gp_R (gp_mk L s) q1 0)]) (s' := s) 1 rfl ?_
    obtain ⟨q8, hq, H⟩ := H
    rw [hq]
    refine gs_E.ck (pc' := 224) (ls' := [gp_r (some q1), gp_i v1, gp_i v2, gp_i v3, gp_i v4, gp_i v5, gp_i (gp_wr ((gp_I s q4 v1.toNat) + (gp_I s q7 v2.toNat))), v7, v8]) (st' := [gp_r (gp_R (gp_mk L s) q8 0)]) (s' := s) rfl (Or.inl H.1) ?_
    replace H := H.2
    obtain ⟨q9, hq, H⟩ := H
    rw [hq]
    refine gs_E.ck (pc' := 227) (ls' := [gp_r (some q1), gp_i v1, gp_i v2, gp_i v3, gp_i v4, gp_i v5, gp_i (gp_wr ((gp_I s q4 v1.toNat) + (gp_I s q7 v2.toNat))), v7, v8]) (st' := [gp_r (gp_R (gp_mk L s) q9 4)]) (s' := s) rfl H.1 ?_
    replace H := H.2
    refine gs_E.stp (pc' := 228) (ls' := [gp_r (some q1), gp_i v1, gp_i v2, gp_i v3, gp_i v4, gp_i v5, gp_i (gp_wr ((gp_I s q4 v1.toNat) + (gp_I s q7 v2.toNat))), v7, v8]) (st' := [gp_i v1, gp_r (gp_R (gp_mk L s) q9 4)]) (s' := s) 1 rfl ?_
    obtain ⟨q10, hq, H⟩ := H
    rw [hq]
    refine gs_E.ck (pc' := 229) (ls' := [gp_r (some q1), gp_i v1, gp_i v2, gp_i v3, gp_i v4, gp_i v5, gp_i (gp_wr ((gp_I s q4 v1.toNat) + (gp_I s q7 v2.toNat))), v7, v8]) (st' := [gp_i (gp_I s q10 v1.toNat)]) (s' := s) rfl (Or.inl H.1) ?_
    replace H := H.2
    refine gs_E.stp (pc' := 230) (ls' := [gp_r (some q1), gp_i v1, gp_i v2, gp_i v3, gp_i v4, gp_i v5, gp_i (gp_wr ((gp_I s q4 v1.toNat) + (gp_I s q7 v2.toNat))), v7, v8]) (st' := [gp_r (some q1), gp_i (gp_I s q10 v1.toNat)]) (s' := s) 1 rfl ?_
    refine gs_E.ck (pc' := 233) (ls' := [gp_r (some q1), gp_i v1, gp_i v2, gp_i v3, gp_i v4, gp_i v5, gp_i (gp_wr ((gp_I s q4 v1.toNat) + (gp_I s q7 v2.toNat))), v7, v8]) (st' := [gp_r (gp_R (gp_mk L s) q1 0), gp_i (gp_I s q10 v1.toNat)]) (s' := s) rfl H.1 ?_
    replace H := H.2
    refine gs_E.stp (pc' := 234) (ls' := [gp_r (some q1), gp_i v1, gp_i v2, gp_i v3, gp_i v4, gp_i v5, gp_i (gp_wr ((gp_I s q4 v1.toNat) + (gp_I s q7 v2.toNat))), v7, v8]) (st' := [gp_i 1, gp_r (gp_R (gp_mk L s) q1 0), gp_i (gp_I s q10 v1.toNat)]) (s' := s) 1 rfl ?_
    obtain ⟨q11, hq, H⟩ := H
    rw [hq]
    refine gs_E.ck (pc' := 235) (ls' := [gp_r (some q1), gp_i v1, gp_i v2, gp_i v3, gp_i v4, gp_i v5, gp_i (gp_wr ((gp_I s q4 v1.toNat) + (gp_I s q7 v2.toNat))), v7, v8]) (st' := [gp_r (gp_R (gp_mk L s) q11 1), gp_i (gp_I s q10 v1.toNat)]) (s' := s) rfl (Or.inl H.1) ?_
    replace H := H.2
    obtain ⟨q12, hq, H⟩ := H
    rw [hq]
    refine gs_E.ck (pc' := 238) (ls' := [gp_r (some q1), gp_i v1, gp_i v2, gp_i v3, gp_i v4, gp_i v5, gp_i (gp_wr ((gp_I s q4 v1.toNat) + (gp_I s q7 v2.toNat))), v7, v8]) (st' := [gp_r (gp_R (gp_mk L s) q12 4), gp_i (gp_I s q10 v1.toNat)]) (s' := s) rfl H.1 ?_
    replace H := H.2
    refine gs_E.stp (pc' := 239) (ls' := [gp_r (some q1), gp_i v1, gp_i v2, gp_i v3, gp_i v4, gp_i v5, gp_i (gp_wr ((gp_I s q4 v1.toNat) + (gp_I s q7 v2.toNat))), v7, v8]) (st' := [gp_i v2, gp_r (gp_R (gp_mk L s) q12 4), gp_i (gp_I s q10 v1.toNat)]) (s' := s) 1 rfl ?_
    obtain ⟨q13, hq, H⟩ := H
    rw [hq]
    refine gs_E.ck (pc' := 240) (ls' := [gp_r (some q1), gp_i v1, gp_i v2, gp_i v3, gp_i v4, gp_i v5, gp_i (gp_wr ((gp_I s q4 v1.toNat) + (gp_I s q7 v2.toNat))), v7, v8]) (st' := [gp_i (gp_I s q13 v2.toNat), gp_i (gp_I s q10 v1.toNat)]) (s' := s) rfl (Or.inl H.1) ?_
    replace H := H.2
    refine gs_E.stp (pc' := 246) (ls' := [gp_r (some q1), gp_i v1, gp_i v2, gp_i v3, gp_i v4, gp_i v5, gp_i (gp_wr ((gp_I s q4 v1.toNat) + (gp_I s q7 v2.toNat))), gp_i (gp_wr ((gp_I s q10 v1.toNat) + (gp_I s q13 v2.toNat))), gp_i 0]) (st' := []) (s' := s) 4 rfl ?_
    exact H
  · replace H := H.1 (Decidable.byContradiction hc)
    refine gs_E.stp (pc' := 80) (ls' := [gp_r v0, gp_i v1, gp_i v2, gp_i v3, gp_i v4, gp_i v5, gp_i v6, v7, v8]) (st' := [gp_r v0]) (s' := s) 1 rfl ?_
    obtain ⟨q14, hq, H⟩ := H
    rw [hq]
    refine gs_E.ck (pc' := 83) (ls' := [gp_r (some q14), gp_i v1, gp_i v2, gp_i v3, gp_i v4, gp_i v5, gp_i v6, v7, v8]) (st' := [gp_r (gp_R (gp_mk L s) q14 0)]) (s' := s) rfl H.1 ?_
    replace H := H.2
    refine gs_E.stp (pc' := 84) (ls' := [gp_r (some q14), gp_i v1, gp_i v2, gp_i v3, gp_i v4, gp_i v5, gp_i v6, v7, v8]) (st' := [gp_i 0, gp_r (gp_R (gp_mk L s) q14 0)]) (s' := s) 1 rfl ?_
    obtain ⟨q15, hq, H⟩ := H
    rw [hq]
    refine gs_E.ck (pc' := 85) (ls' := [gp_r (some q14), gp_i v1, gp_i v2, gp_i v3, gp_i v4, gp_i v5, gp_i v6, v7, v8]) (st' := [gp_r (gp_R (gp_mk L s) q15 0)]) (s' := s) rfl (Or.inl H.1) ?_
    replace H := H.2
    refine gs_E.stp (pc' := 88) (ls' := [gp_r (some q14), gp_i v1, gp_i v2, gp_i v3, gp_i v4, gp_i v5, gp_i v6, v7, v8]) (st' := [gp_i v6, gp_i v1, gp_r (gp_R (gp_mk L s) q15 0)]) (s' := s) 2 rfl ?_
    obtain ⟨q16, hq, H⟩ := H
    rw [hq]
    refine gs_E.callV (args := [gp_r (some q16), gp_i v1, gp_i v6]) (m := 3) (y' := 2307) (st' := []) rfl H.1 H.2 (fun r s17 H => ?_)
    obtain ⟨m18, rfl, H⟩ := H
    show gs_E L (d + 1) 2061 91 [gp_r (some q14), gp_i v1, gp_i v2, gp_i v3, gp_i v4, gp_i v5, gp_i v6, v7, v8] [gp_l m18] s17 K
    refine gs_E.stp (pc' := 93) (ls' := [gp_r (some q14), gp_i v1, gp_i v2, gp_i v3, gp_i v4, gp_i v5, gp_i v6, gp_l m18, gp_n]) (st' := []) (s' := s17) 1 rfl ?_
    exact H

set_option maxRecDepth 100000 in
/-- Sum.fillRow, pc 93 -/
theorem s_2061_93 {L d : Nat} {K : Option gV → gH → Prop} {s : gH} (v0 : Option Nat) (v1 : Int) (v2 : Int) (v3 : Int) (v4 : Int) (v5 : Int) (v6 : Int) (v7 : BitVec 64) (H : (((gp_cmp v7 (0#64)) = 0 → (∃ q1, v0 = some q1 ∧ ((gp_sh (gp_mk L s) q1).1 = 8 ∧ (∃ q2, gp_R (gp_mk L s) q1 0 = some q2 ∧ (gp_in (gp_mk L s) 103 q2 1 ∧ (∃ q3, gp_R (gp_mk L s) q2 1 = some q3 ∧ ((gp_sh (gp_mk L s) q3).1 = 9 ∧ gs_C L d 2307 3 [gp_r (some q3), gp_i v2, gp_i v6] s (fun r s4 => ∃ m5, r = some (gp_l m5) ∧ gs_E L (d + 1) 2061 147 [gp_r (some q1), gp_i v1, gp_i v2, gp_i v3, gp_i v4, gp_i v5, gp_i v6, gp_l m5, gp_n] [] s4 K)))))))) ∧ (¬ (gp_cmp v7 (0#64)) = 0 → gs_C L d 2859 2 [gp_l v7] s (fun r s6 => ∃ x7, r = some (gp_i x7) ∧ (∃ q8, v0 = some q8 ∧ ((gp_sh (gp_mk L s6) q8).1 = 8 ∧ gs_C L d 2062 6 [gp_r (some q8), gp_i v6, gp_i v5, gp_i (gp_wr ((gp_wr ((gp_wr (x7 * v4)) + v2)) * v3)), gp_i v3] s6 (fun r s9 => r = none ∧ gs_E L (d + 1) 2061 93 [gp_r (some q8), gp_i v1, gp_i v2, gp_i v3, gp_i v4, gp_i v5, gp_i v6, gp_l (v7 &&& (v7 - (1#64))), gp_n] [] s9 K))))))) : gs_E L (d + 1) 2061 93 [gp_r v0, gp_i v1, gp_i v2, gp_i v3, gp_i v4, gp_i v5, gp_i v6, gp_l v7, gp_n] [] s K := by
  refine gs_E.stp (pc' := 97) (ls' := [gp_r v0, gp_i v1, gp_i v2, gp_i v3, gp_i v4, gp_i v5, gp_i v6, gp_l v7, gp_n]) (st' := [gp_i (gp_cmp v7 (0#64))]) (s' := s) 3 rfl ?_
  refine gs_E.br (c := (gp_cmp v7 (0#64)) = 0) (p1 := 133) (p2 := 100) (l1 := [gp_r v0, gp_i v1, gp_i v2, gp_i v3, gp_i v4, gp_i v5, gp_i v6, gp_l v7, gp_n]) (l2 := [gp_r v0, gp_i v1, gp_i v2, gp_i v3, gp_i v4, gp_i v5, gp_i v6, gp_l v7, gp_n]) (s1 := []) (s2 := []) rfl gs_b1 (fun hc => ?_) (fun hc => ?_)
  · replace H := H.1 hc
    refine gs_E.stp (pc' := 134) (ls' := [gp_r v0, gp_i v1, gp_i v2, gp_i v3, gp_i v4, gp_i v5, gp_i v6, gp_l v7, gp_n]) (st' := [gp_r v0]) (s' := s) 1 rfl ?_
    obtain ⟨q1, hq, H⟩ := H
    rw [hq]
    refine gs_E.ck (pc' := 137) (ls' := [gp_r (some q1), gp_i v1, gp_i v2, gp_i v3, gp_i v4, gp_i v5, gp_i v6, gp_l v7, gp_n]) (st' := [gp_r (gp_R (gp_mk L s) q1 0)]) (s' := s) rfl H.1 ?_
    replace H := H.2
    refine gs_E.stp (pc' := 138) (ls' := [gp_r (some q1), gp_i v1, gp_i v2, gp_i v3, gp_i v4, gp_i v5, gp_i v6, gp_l v7, gp_n]) (st' := [gp_i 1, gp_r (gp_R (gp_mk L s) q1 0)]) (s' := s) 1 rfl ?_
    obtain ⟨q2, hq, H⟩ := H
    rw [hq]
    refine gs_E.ck (pc' := 139) (ls' := [gp_r (some q1), gp_i v1, gp_i v2, gp_i v3, gp_i v4, gp_i v5, gp_i v6, gp_l v7, gp_n]) (st' := [gp_r (gp_R (gp_mk L s) q2 1)]) (s' := s) rfl (Or.inl H.1) ?_
    replace H := H.2
    refine gs_E.stp (pc' := 142) (ls' := [gp_r (some q1), gp_i v1, gp_i v2, gp_i v3, gp_i v4, gp_i v5, gp_i v6, gp_l v7, gp_n]) (st' := [gp_i v6, gp_i v2, gp_r (gp_R (gp_mk L s) q2 1)]) (s' := s) 2 rfl ?_
    obtain ⟨q3, hq, H⟩ := H
    rw [hq]
    refine gs_E.callV (args := [gp_r (some q3), gp_i v2, gp_i v6]) (m := 3) (y' := 2307) (st' := []) rfl H.1 H.2 (fun r s4 H => ?_)
    obtain ⟨m5, rfl, H⟩ := H
    show gs_E L (d + 1) 2061 145 [gp_r (some q1), gp_i v1, gp_i v2, gp_i v3, gp_i v4, gp_i v5, gp_i v6, gp_l v7, gp_n] [gp_l m5] s4 K
    refine gs_E.stp (pc' := 147) (ls' := [gp_r (some q1), gp_i v1, gp_i v2, gp_i v3, gp_i v4, gp_i v5, gp_i v6, gp_l m5, gp_n]) (st' := []) (s' := s4) 1 rfl ?_
    exact H
  · replace H := H.2 hc
    refine gs_E.stp (pc' := 107) (ls' := [gp_r v0, gp_i v1, gp_i v2, gp_i v3, gp_i v4, gp_i v5, gp_i v6, gp_l v7, gp_n]) (st' := [gp_l v7, gp_i v5, gp_i v6, gp_r v0]) (s' := s) 4 rfl ?_
    refine gs_E.call (args := [gp_l v7]) (m := 2) (y' := 2859) (st' := [gp_i v5, gp_i v6, gp_r v0]) rfl H (fun r s6 H => ?_)
    obtain ⟨x7, rfl, H⟩ := H
    show gs_E L (d + 1) 2061 110 [gp_r v0, gp_i v1, gp_i v2, gp_i v3, gp_i v4, gp_i v5, gp_i v6, gp_l v7, gp_n] [gp_i x7, gp_i v5, gp_i v6, gp_r v0] s6 K
    refine gs_E.stp (pc' := 118) (ls' := [gp_r v0, gp_i v1, gp_i v2, gp_i v3, gp_i v4, gp_i v5, gp_i v6, gp_l v7, gp_n]) (st' := [gp_i v3, gp_i (gp_wr ((gp_wr ((gp_wr (x7 * v4)) + v2)) * v3)), gp_i v5, gp_i v6, gp_r v0]) (s' := s6) 7 rfl ?_
    obtain ⟨q8, hq, H⟩ := H
    rw [hq]
    refine gs_E.callV (args := [gp_r (some q8), gp_i v6, gp_i v5, gp_i (gp_wr ((gp_wr ((gp_wr (x7 * v4)) + v2)) * v3)), gp_i v3]) (m := 6) (y' := 2062) (st' := []) rfl H.1 H.2 (fun r s9 H => ?_)
    obtain ⟨rfl, H⟩ := H
    show gs_E L (d + 1) 2061 121 [gp_r (some q8), gp_i v1, gp_i v2, gp_i v3, gp_i v4, gp_i v5, gp_i v6, gp_l v7, gp_n] [] s9 K
    refine gs_E.stp (pc' := 93) (ls' := [gp_r (some q8), gp_i v1, gp_i v2, gp_i v3, gp_i v4, gp_i v5, gp_i v6, gp_l (v7 &&& (v7 - (1#64))), gp_n]) (st' := []) (s' := s9) 7 rfl ?_
    exact H

set_option maxRecDepth 100000 in
/-- Sum.fillRow, pc 147 -/
theorem s_2061_147 {L d : Nat} {K : Option gV → gH → Prop} {s : gH} (v0 : Option Nat) (v1 : Int) (v2 : Int) (v3 : Int) (v4 : Int) (v5 : Int) (v6 : Int) (v7 : BitVec 64) (H : (((gp_cmp v7 (0#64)) = 0 → gs_E L (d + 1) 2061 73 [gp_r v0, gp_i v1, gp_i v2, gp_i v3, gp_i v4, gp_i v5, gp_i (gp_wr (v6 + 1)), gp_l v7, gp_n] [] s K) ∧ (¬ (gp_cmp v7 (0#64)) = 0 → gs_C L d 2859 2 [gp_l v7] s (fun r s1 => ∃ x2, r = some (gp_i x2) ∧ (∃ q3, v0 = some q3 ∧ ((gp_sh (gp_mk L s1) q3).1 = 8 ∧ gs_C L d 2062 6 [gp_r (some q3), gp_i v6, gp_i v5, gp_i (gp_wr ((gp_wr ((gp_wr (v1 * v4)) + x2)) * v3)), gp_i v3] s1 (fun r s4 => r = none ∧ gs_E L (d + 1) 2061 147 [gp_r (some q3), gp_i v1, gp_i v2, gp_i v3, gp_i v4, gp_i v5, gp_i v6, gp_l (v7 &&& (v7 - (1#64))), gp_n] [] s4 K))))))) : gs_E L (d + 1) 2061 147 [gp_r v0, gp_i v1, gp_i v2, gp_i v3, gp_i v4, gp_i v5, gp_i v6, gp_l v7, gp_n] [] s K := by
  refine gs_E.stp (pc' := 151) (ls' := [gp_r v0, gp_i v1, gp_i v2, gp_i v3, gp_i v4, gp_i v5, gp_i v6, gp_l v7, gp_n]) (st' := [gp_i (gp_cmp v7 (0#64))]) (s' := s) 3 rfl ?_
  refine gs_E.br (c := (gp_cmp v7 (0#64)) = 0) (p1 := 187) (p2 := 154) (l1 := [gp_r v0, gp_i v1, gp_i v2, gp_i v3, gp_i v4, gp_i v5, gp_i v6, gp_l v7, gp_n]) (l2 := [gp_r v0, gp_i v1, gp_i v2, gp_i v3, gp_i v4, gp_i v5, gp_i v6, gp_l v7, gp_n]) (s1 := []) (s2 := []) rfl gs_b1 (fun hc => ?_) (fun hc => ?_)
  · replace H := H.1 hc
    refine gs_E.stp (pc' := 73) (ls' := [gp_r v0, gp_i v1, gp_i v2, gp_i v3, gp_i v4, gp_i v5, gp_i (gp_wr (v6 + 1)), gp_l v7, gp_n]) (st' := []) (s' := s) 2 rfl ?_
    exact H
  · replace H := H.2 hc
    refine gs_E.stp (pc' := 165) (ls' := [gp_r v0, gp_i v1, gp_i v2, gp_i v3, gp_i v4, gp_i v5, gp_i v6, gp_l v7, gp_n]) (st' := [gp_l v7, gp_i (gp_wr (v1 * v4)), gp_i v5, gp_i v6, gp_r v0]) (s' := s) 7 rfl ?_
    refine gs_E.call (args := [gp_l v7]) (m := 2) (y' := 2859) (st' := [gp_i (gp_wr (v1 * v4)), gp_i v5, gp_i v6, gp_r v0]) rfl H (fun r s1 H => ?_)
    obtain ⟨x2, rfl, H⟩ := H
    show gs_E L (d + 1) 2061 168 [gp_r v0, gp_i v1, gp_i v2, gp_i v3, gp_i v4, gp_i v5, gp_i v6, gp_l v7, gp_n] [gp_i x2, gp_i (gp_wr (v1 * v4)), gp_i v5, gp_i v6, gp_r v0] s1 K
    refine gs_E.stp (pc' := 172) (ls' := [gp_r v0, gp_i v1, gp_i v2, gp_i v3, gp_i v4, gp_i v5, gp_i v6, gp_l v7, gp_n]) (st' := [gp_i v3, gp_i (gp_wr ((gp_wr ((gp_wr (v1 * v4)) + x2)) * v3)), gp_i v5, gp_i v6, gp_r v0]) (s' := s1) 4 rfl ?_
    obtain ⟨q3, hq, H⟩ := H
    rw [hq]
    refine gs_E.callV (args := [gp_r (some q3), gp_i v6, gp_i v5, gp_i (gp_wr ((gp_wr ((gp_wr (v1 * v4)) + x2)) * v3)), gp_i v3]) (m := 6) (y' := 2062) (st' := []) rfl H.1 H.2 (fun r s4 H => ?_)
    obtain ⟨rfl, H⟩ := H
    show gs_E L (d + 1) 2061 175 [gp_r (some q3), gp_i v1, gp_i v2, gp_i v3, gp_i v4, gp_i v5, gp_i v6, gp_l v7, gp_n] [] s4 K
    refine gs_E.stp (pc' := 147) (ls' := [gp_r (some q3), gp_i v1, gp_i v2, gp_i v3, gp_i v4, gp_i v5, gp_i v6, gp_l (v7 &&& (v7 - (1#64))), gp_n]) (st' := []) (s' := s4) 7 rfl ?_
    exact H

set_option maxRecDepth 100000 in
/-- Sum.fillRow, pc 246 -/
theorem s_2061_246 {L d : Nat} {K : Option gV → gH → Prop} {s : gH} (v0 : Option Nat) (v1 : Int) (v2 : Int) (v3 : Int) (v4 : Int) (v5 : Int) (v6 : Int) (v7 : Int) (v8 : Int) (H : ((v8 < v3 → (∃ q1, v0 = some q1 ∧ ((gp_sh (gp_mk L s) q1).1 = 8 ∧ gs_C L d 2063 10 [gp_r (some q1), gp_i v5, gp_i v8, gp_i v6, gp_i v7] s (fun r s2 => r = none ∧ gs_E L (d + 1) 2061 246 [gp_r (some q1), gp_i v1, gp_i v2, gp_i v3, gp_i v4, gp_i v5, gp_i v6, gp_i v7, gp_i (gp_wr (v8 + 1))] [] s2 K)))) ∧ (¬ v8 < v3 → K none s))) : gs_E L (d + 1) 2061 246 [gp_r v0, gp_i v1, gp_i v2, gp_i v3, gp_i v4, gp_i v5, gp_i v6, gp_i v7, gp_i v8] [] s K := by
  refine gs_E.stp (pc' := 249) (ls' := [gp_r v0, gp_i v1, gp_i v2, gp_i v3, gp_i v4, gp_i v5, gp_i v6, gp_i v7, gp_i v8]) (st' := [gp_i v3, gp_i v8]) (s' := s) 2 rfl ?_
  refine gs_E.br (c := ¬ v8 < v3) (p1 := 270) (p2 := 252) (l1 := [gp_r v0, gp_i v1, gp_i v2, gp_i v3, gp_i v4, gp_i v5, gp_i v6, gp_i v7, gp_i v8]) (l2 := [gp_r v0, gp_i v1, gp_i v2, gp_i v3, gp_i v4, gp_i v5, gp_i v6, gp_i v7, gp_i v8]) (s1 := []) (s2 := []) rfl gs_b2 (fun hc => ?_) (fun hc => ?_)
  · replace H := H.2 hc
    exact gs_E.ret (r := none) rfl H
  · replace H := H.1 (Decidable.byContradiction hc)
    refine gs_E.stp (pc' := 261) (ls' := [gp_r v0, gp_i v1, gp_i v2, gp_i v3, gp_i v4, gp_i v5, gp_i v6, gp_i v7, gp_i v8]) (st' := [gp_i v7, gp_i v6, gp_i v8, gp_i v5, gp_r v0]) (s' := s) 5 rfl ?_
    obtain ⟨q1, hq, H⟩ := H
    rw [hq]
    refine gs_E.callV (args := [gp_r (some q1), gp_i v5, gp_i v8, gp_i v6, gp_i v7]) (m := 10) (y' := 2063) (st' := []) rfl H.1 H.2 (fun r s2 H => ?_)
    obtain ⟨rfl, H⟩ := H
    show gs_E L (d + 1) 2061 264 [gp_r (some q1), gp_i v1, gp_i v2, gp_i v3, gp_i v4, gp_i v5, gp_i v6, gp_i v7, gp_i v8] [] s2 K
    refine gs_E.stp (pc' := 246) (ls' := [gp_r (some q1), gp_i v1, gp_i v2, gp_i v3, gp_i v4, gp_i v5, gp_i v6, gp_i v7, gp_i (gp_wr (v8 + 1))]) (st' := []) (s' := s2) 2 rfl ?_
    exact H

set_option maxRecDepth 100000 in
/-- Sum.weigh, pc 0 -/
theorem s_2062_e {L d : Nat} {K : Option gV → gH → Prop} {s : gH} (this : Option Nat) (p0 : Int) (p1 : Int) (p2 : Int) (p3 : Int) (H : gs_E L d 2062 3 [gp_r this, gp_i p0, gp_i p1, gp_i p2, gp_i p3, gp_i 0] [] s K) : gs_C L d 2062 6 [gp_r this, gp_i p0, gp_i p1, gp_i p2, gp_i p3] s K := by
  show gs_E L d 2062 0 [gp_r this, gp_i p0, gp_i p1, gp_i p2, gp_i p3, gp_n] [] s K
  refine gs_E.stp (pc' := 3) (ls' := [gp_r this, gp_i p0, gp_i p1, gp_i p2, gp_i p3, gp_i 0]) (st' := []) (s' := s) 2 rfl ?_
  exact H

set_option maxRecDepth 100000 in
/-- Sum.weigh, pc 3 -/
theorem s_2062_3 {L d : Nat} {K : Option gV → gH → Prop} {s : gH} (v0 : Option Nat) (v1 : Int) (v2 : Int) (v3 : Int) (v4 : Int) (v5 : Int) (H : ((v5 < v4 → ((v1 = 0 → (∃ q5, v0 = some q5 ∧ ((gp_sh (gp_mk L s) q5).1 = 8 ∧ ((gp_sh (gp_mk L s) q5).1 = 8 ∧ (∃ q6, gp_R (gp_mk L s) q5 6 = some q6 ∧ (gp_in (gp_mk L s) 100 q6 (gp_wr (v2 + v5)) ∧ ((gp_sh (gp_mk L s) q5).1 = 8 ∧ (∃ q7, gp_R (gp_mk L s) q5 7 = some q7 ∧ (gp_in (gp_mk L s) 100 q7 (gp_wr (v3 + v5)) ∧ (gp_in (gp_mk L s) 100 q6 (gp_wr (v2 + v5)) ∧ ∀ s8, s8 = gp_wI s q6 (gp_wr (v2 + v5)).toNat (gp_mx (gp_I s q6 (gp_wr (v2 + v5)).toNat) (gp_I s q7 (gp_wr (v3 + v5)).toNat)) → gs_E L d 2062 77 [gp_r (some q5), gp_i v1, gp_i v2, gp_i v3, gp_i v4, gp_i v5] [] s8 K)))))))))) ∧ (¬ v1 = 0 → (∃ q1, v0 = some q1 ∧ ((gp_sh (gp_mk L s) q1).1 = 8 ∧ ((gp_sh (gp_mk L s) q1).1 = 8 ∧ (∃ q2, gp_R (gp_mk L s) q1 7 = some q2 ∧ (gp_in (gp_mk L s) 100 q2 (gp_wr (v2 + v5)) ∧ ((gp_sh (gp_mk L s) q1).1 = 8 ∧ (∃ q3, gp_R (gp_mk L s) q1 6 = some q3 ∧ (gp_in (gp_mk L s) 100 q3 (gp_wr (v3 + v5)) ∧ (gp_in (gp_mk L s) 100 q2 (gp_wr (v2 + v5)) ∧ ∀ s4, s4 = gp_wI s q2 (gp_wr (v2 + v5)).toNat (gp_mi (gp_I s q2 (gp_wr (v2 + v5)).toNat) (gp_I s q3 (gp_wr (v3 + v5)).toNat)) → gs_E L d 2062 77 [gp_r (some q1), gp_i v1, gp_i v2, gp_i v3, gp_i v4, gp_i v5] [] s4 K)))))))))))) ∧ (¬ v5 < v4 → K none s))) : gs_E L d 2062 3 [gp_r v0, gp_i v1, gp_i v2, gp_i v3, gp_i v4, gp_i v5] [] s K := by
  refine gs_E.stp (pc' := 7) (ls' := [gp_r v0, gp_i v1, gp_i v2, gp_i v3, gp_i v4, gp_i v5]) (st' := [gp_i v4, gp_i v5]) (s' := s) 2 rfl ?_
  refine gs_E.br (c := ¬ v5 < v4) (p1 := 83) (p2 := 10) (l1 := [gp_r v0, gp_i v1, gp_i v2, gp_i v3, gp_i v4, gp_i v5]) (l2 := [gp_r v0, gp_i v1, gp_i v2, gp_i v3, gp_i v4, gp_i v5]) (s1 := []) (s2 := []) rfl gs_b2 (fun hc => ?_) (fun hc => ?_)
  · replace H := H.2 hc
    exact gs_E.ret (r := none) rfl H
  · replace H := H.1 (Decidable.byContradiction hc)
    refine gs_E.stp (pc' := 11) (ls' := [gp_r v0, gp_i v1, gp_i v2, gp_i v3, gp_i v4, gp_i v5]) (st' := [gp_i v1]) (s' := s) 1 rfl ?_
    refine gs_E.br (c := ¬ v1 = 0) (p1 := 47) (p2 := 14) (l1 := [gp_r v0, gp_i v1, gp_i v2, gp_i v3, gp_i v4, gp_i v5]) (l2 := [gp_r v0, gp_i v1, gp_i v2, gp_i v3, gp_i v4, gp_i v5]) (s1 := []) (s2 := []) rfl gs_b2 (fun hc => ?_) (fun hc => ?_)
    · replace H := H.2 hc
      refine gs_E.stp (pc' := 48) (ls' := [gp_r v0, gp_i v1, gp_i v2, gp_i v3, gp_i v4, gp_i v5]) (st' := [gp_r v0]) (s' := s) 1 rfl ?_
      obtain ⟨q1, hq, H⟩ := H
      rw [hq]
      refine gs_E.ck (pc' := 51) (ls' := [gp_r (some q1), gp_i v1, gp_i v2, gp_i v3, gp_i v4, gp_i v5]) (st' := [gp_r (gp_R (gp_mk L s) q1 7)]) (s' := s) rfl H.1 ?_
      replace H := H.2
      refine gs_E.stp (pc' := 56) (ls' := [gp_r (some q1), gp_i v1, gp_i v2, gp_i v3, gp_i v4, gp_i v5]) (st' := [gp_r (some q1), gp_i (gp_wr (v2 + v5)), gp_r (gp_R (gp_mk L s) q1 7)]) (s' := s) 4 rfl ?_
      refine gs_E.ck (pc' := 59) (ls' := [gp_r (some q1), gp_i v1, gp_i v2, gp_i v3, gp_i v4, gp_i v5]) (st' := [gp_r (gp_R (gp_mk L s) q1 7), gp_i (gp_wr (v2 + v5)), gp_r (gp_R (gp_mk L s) q1 7)]) (s' := s) rfl H.1 ?_
      replace H := H.2
      refine gs_E.stp (pc' := 63) (ls' := [gp_r (some q1), gp_i v1, gp_i v2, gp_i v3, gp_i v4, gp_i v5]) (st' := [gp_i (gp_wr (v2 + v5)), gp_r (gp_R (gp_mk L s) q1 7), gp_i (gp_wr (v2 + v5)), gp_r (gp_R (gp_mk L s) q1 7)]) (s' := s) 3 rfl ?_
      obtain ⟨q2, hq, H⟩ := H
      rw [hq]
      refine gs_E.ck (pc' := 64) (ls' := [gp_r (some q1), gp_i v1, gp_i v2, gp_i v3, gp_i v4, gp_i v5]) (st' := [gp_i (gp_I s q2 (gp_wr (v2 + v5)).toNat), gp_i (gp_wr (v2 + v5)), gp_r (some q2)]) (s' := s) rfl (Or.inl H.1) ?_
      replace H := H.2
      refine gs_E.stp (pc' := 65) (ls' := [gp_r (some q1), gp_i v1, gp_i v2, gp_i v3, gp_i v4, gp_i v5]) (st' := [gp_r (some q1), gp_i (gp_I s q2 (gp_wr (v2 + v5)).toNat), gp_i (gp_wr (v2 + v5)), gp_r (some q2)]) (s' := s) 1 rfl ?_
      refine gs_E.ck (pc' := 68) (ls' := [gp_r (some q1), gp_i v1, gp_i v2, gp_i v3, gp_i v4, gp_i v5]) (st' := [gp_r (gp_R (gp_mk L s) q1 6), gp_i (gp_I s q2 (gp_wr (v2 + v5)).toNat), gp_i (gp_wr (v2 + v5)), gp_r (some q2)]) (s' := s) rfl H.1 ?_
      replace H := H.2
      refine gs_E.stp (pc' := 72) (ls' := [gp_r (some q1), gp_i v1, gp_i v2, gp_i v3, gp_i v4, gp_i v5]) (st' := [gp_i (gp_wr (v3 + v5)), gp_r (gp_R (gp_mk L s) q1 6), gp_i (gp_I s q2 (gp_wr (v2 + v5)).toNat), gp_i (gp_wr (v2 + v5)), gp_r (some q2)]) (s' := s) 3 rfl ?_
      obtain ⟨q3, hq, H⟩ := H
      rw [hq]
      refine gs_E.ck (pc' := 73) (ls' := [gp_r (some q1), gp_i v1, gp_i v2, gp_i v3, gp_i v4, gp_i v5]) (st' := [gp_i (gp_I s q3 (gp_wr (v3 + v5)).toNat), gp_i (gp_I s q2 (gp_wr (v2 + v5)).toNat), gp_i (gp_wr (v2 + v5)), gp_r (some q2)]) (s' := s) rfl (Or.inl H.1) ?_
      replace H := H.2
      refine gs_E.stp (pc' := 76) (ls' := [gp_r (some q1), gp_i v1, gp_i v2, gp_i v3, gp_i v4, gp_i v5]) (st' := [gp_i (gp_mi (gp_I s q2 (gp_wr (v2 + v5)).toNat) (gp_I s q3 (gp_wr (v3 + v5)).toNat)), gp_i (gp_wr (v2 + v5)), gp_r (some q2)]) (s' := s) 1 rfl ?_
      refine gs_E.ck (pc' := 77) (ls' := [gp_r (some q1), gp_i v1, gp_i v2, gp_i v3, gp_i v4, gp_i v5]) (st' := []) (s' := gp_wI s q2 (gp_wr (v2 + v5)).toNat (gp_mi (gp_I s q2 (gp_wr (v2 + v5)).toNat) (gp_I s q3 (gp_wr (v3 + v5)).toNat))) rfl H.1 ?_
      replace H := H.2 _ rfl
      generalize gp_wI s q2 (gp_wr (v2 + v5)).toNat (gp_mi (gp_I s q2 (gp_wr (v2 + v5)).toNat) (gp_I s q3 (gp_wr (v3 + v5)).toNat)) = s4 at H ⊢
      exact H
    · replace H := H.1 (Decidable.byContradiction hc)
      refine gs_E.stp (pc' := 15) (ls' := [gp_r v0, gp_i v1, gp_i v2, gp_i v3, gp_i v4, gp_i v5]) (st' := [gp_r v0]) (s' := s) 1 rfl ?_
      obtain ⟨q5, hq, H⟩ := H
      rw [hq]
      refine gs_E.ck (pc' := 18) (ls' := [gp_r (some q5), gp_i v1, gp_i v2, gp_i v3, gp_i v4, gp_i v5]) (st' := [gp_r (gp_R (gp_mk L s) q5 6)]) (s' := s) rfl H.1 ?_
      replace H := H.2
      refine gs_E.stp (pc' := 23) (ls' := [gp_r (some q5), gp_i v1, gp_i v2, gp_i v3, gp_i v4, gp_i v5]) (st' := [gp_r (some q5), gp_i (gp_wr (v2 + v5)), gp_r (gp_R (gp_mk L s) q5 6)]) (s' := s) 4 rfl ?_
      refine gs_E.ck (pc' := 26) (ls' := [gp_r (some q5), gp_i v1, gp_i v2, gp_i v3, gp_i v4, gp_i v5]) (st' := [gp_r (gp_R (gp_mk L s) q5 6), gp_i (gp_wr (v2 + v5)), gp_r (gp_R (gp_mk L s) q5 6)]) (s' := s) rfl H.1 ?_
      replace H := H.2
      refine gs_E.stp (pc' := 30) (ls' := [gp_r (some q5), gp_i v1, gp_i v2, gp_i v3, gp_i v4, gp_i v5]) (st' := [gp_i (gp_wr (v2 + v5)), gp_r (gp_R (gp_mk L s) q5 6), gp_i (gp_wr (v2 + v5)), gp_r (gp_R (gp_mk L s) q5 6)]) (s' := s) 3 rfl ?_
      obtain ⟨q6, hq, H⟩ := H
      rw [hq]
      refine gs_E.ck (pc' := 31) (ls' := [gp_r (some q5), gp_i v1, gp_i v2, gp_i v3, gp_i v4, gp_i v5]) (st' := [gp_i (gp_I s q6 (gp_wr (v2 + v5)).toNat), gp_i (gp_wr (v2 + v5)), gp_r (some q6)]) (s' := s) rfl (Or.inl H.1) ?_
      replace H := H.2
      refine gs_E.stp (pc' := 32) (ls' := [gp_r (some q5), gp_i v1, gp_i v2, gp_i v3, gp_i v4, gp_i v5]) (st' := [gp_r (some q5), gp_i (gp_I s q6 (gp_wr (v2 + v5)).toNat), gp_i (gp_wr (v2 + v5)), gp_r (some q6)]) (s' := s) 1 rfl ?_
      refine gs_E.ck (pc' := 35) (ls' := [gp_r (some q5), gp_i v1, gp_i v2, gp_i v3, gp_i v4, gp_i v5]) (st' := [gp_r (gp_R (gp_mk L s) q5 7), gp_i (gp_I s q6 (gp_wr (v2 + v5)).toNat), gp_i (gp_wr (v2 + v5)), gp_r (some q6)]) (s' := s) rfl H.1 ?_
      replace H := H.2
      refine gs_E.stp (pc' := 39) (ls' := [gp_r (some q5), gp_i v1, gp_i v2, gp_i v3, gp_i v4, gp_i v5]) (st' := [gp_i (gp_wr (v3 + v5)), gp_r (gp_R (gp_mk L s) q5 7), gp_i (gp_I s q6 (gp_wr (v2 + v5)).toNat), gp_i (gp_wr (v2 + v5)), gp_r (some q6)]) (s' := s) 3 rfl ?_
      obtain ⟨q7, hq, H⟩ := H
      rw [hq]
      refine gs_E.ck (pc' := 40) (ls' := [gp_r (some q5), gp_i v1, gp_i v2, gp_i v3, gp_i v4, gp_i v5]) (st' := [gp_i (gp_I s q7 (gp_wr (v3 + v5)).toNat), gp_i (gp_I s q6 (gp_wr (v2 + v5)).toNat), gp_i (gp_wr (v2 + v5)), gp_r (some q6)]) (s' := s) rfl (Or.inl H.1) ?_
      replace H := H.2
      refine gs_E.stp (pc' := 43) (ls' := [gp_r (some q5), gp_i v1, gp_i v2, gp_i v3, gp_i v4, gp_i v5]) (st' := [gp_i (gp_mx (gp_I s q6 (gp_wr (v2 + v5)).toNat) (gp_I s q7 (gp_wr (v3 + v5)).toNat)), gp_i (gp_wr (v2 + v5)), gp_r (some q6)]) (s' := s) 1 rfl ?_
      refine gs_E.ck (pc' := 44) (ls' := [gp_r (some q5), gp_i v1, gp_i v2, gp_i v3, gp_i v4, gp_i v5]) (st' := []) (s' := gp_wI s q6 (gp_wr (v2 + v5)).toNat (gp_mx (gp_I s q6 (gp_wr (v2 + v5)).toNat) (gp_I s q7 (gp_wr (v3 + v5)).toNat))) rfl H.1 ?_
      replace H := H.2 _ rfl
      generalize gp_wI s q6 (gp_wr (v2 + v5)).toNat (gp_mx (gp_I s q6 (gp_wr (v2 + v5)).toNat) (gp_I s q7 (gp_wr (v3 + v5)).toNat)) = s8 at H ⊢
      refine gs_E.stp (pc' := 77) (ls' := [gp_r (some q5), gp_i v1, gp_i v2, gp_i v3, gp_i v4, gp_i v5]) (st' := []) (s' := s8) 1 rfl ?_
      exact H

set_option maxRecDepth 100000 in
/-- Sum.weigh, pc 77 -/
theorem s_2062_77 {L d : Nat} {K : Option gV → gH → Prop} {s : gH} (v0 : Option Nat) (v1 : Int) (v2 : Int) (v3 : Int) (v4 : Int) (v5 : Int) (H : gs_E L d 2062 3 [gp_r v0, gp_i v1, gp_i v2, gp_i v3, gp_i v4, gp_i (gp_wr (v5 + 1))] [] s K) : gs_E L d 2062 77 [gp_r v0, gp_i v1, gp_i v2, gp_i v3, gp_i v4, gp_i v5] [] s K := by
  refine gs_E.stp (pc' := 3) (ls' := [gp_r v0, gp_i v1, gp_i v2, gp_i v3, gp_i v4, gp_i (gp_wr (v5 + 1))]) (st' := []) (s' := s) 2 rfl ?_
  exact H

set_option maxRecDepth 100000 in
/-- Sum.fillPlace, pc 0 -/
theorem s_2063_e {L d : Nat} {K : Option gV → gH → Prop} {s : gH} (this : Option Nat) (p0 : Int) (p1 : Int) (p2 : Int) (p3 : Int) (H : (∃ q1, this = some q1 ∧ ((gp_sh (gp_mk L s) q1).1 = 8 ∧ (∃ q2, gp_R (gp_mk L s) q1 0 = some q2 ∧ (gp_in (gp_mk L s) 103 q2 2 ∧ ((gp_sh (gp_mk L s) q1).1 = 8 ∧ (∃ q3, gp_R (gp_mk L s) q1 6 = some q3 ∧ (gp_in (gp_mk L s) 100 q3 (gp_wr (p0 + p1)) ∧ (∃ q4, gp_R (gp_mk L s) q2 2 = some q4 ∧ ((gp_sh (gp_mk L s) q4).1 = 9 ∧ (∃ q5, gp_R (gp_mk L s) q4 1 = some q5 ∧ (gp_in (gp_mk L s) 101 q5 p1 ∧ gs_E L (d + 1) 2063 27 [gp_r (some q1), gp_i p0, gp_i p1, gp_i p2, gp_i p3, gp_r (some q4), gp_i (gp_I s q3 (gp_wr (p0 + p1)).toNat), gp_l (gp_L s q5 p1.toNat), gp_n, gp_n] [] s K)))))))))))) : gs_C L (d + 1) 2063 10 [gp_r this, gp_i p0, gp_i p1, gp_i p2, gp_i p3] s K := by
  show gs_E L (d + 1) 2063 0 [gp_r this, gp_i p0, gp_i p1, gp_i p2, gp_i p3, gp_n, gp_n, gp_n, gp_n, gp_n] [] s K
  refine gs_E.stp (pc' := 1) (ls' := [gp_r this, gp_i p0, gp_i p1, gp_i p2, gp_i p3, gp_n, gp_n, gp_n, gp_n, gp_n]) (st' := [gp_r this]) (s' := s) 1 rfl ?_
  obtain ⟨q1, hq, H⟩ := H
  rw [hq]
  refine gs_E.ck (pc' := 4) (ls' := [gp_r (some q1), gp_i p0, gp_i p1, gp_i p2, gp_i p3, gp_n, gp_n, gp_n, gp_n, gp_n]) (st' := [gp_r (gp_R (gp_mk L s) q1 0)]) (s' := s) rfl H.1 ?_
  replace H := H.2
  refine gs_E.stp (pc' := 5) (ls' := [gp_r (some q1), gp_i p0, gp_i p1, gp_i p2, gp_i p3, gp_n, gp_n, gp_n, gp_n, gp_n]) (st' := [gp_i 2, gp_r (gp_R (gp_mk L s) q1 0)]) (s' := s) 1 rfl ?_
  obtain ⟨q2, hq, H⟩ := H
  rw [hq]
  refine gs_E.ck (pc' := 6) (ls' := [gp_r (some q1), gp_i p0, gp_i p1, gp_i p2, gp_i p3, gp_n, gp_n, gp_n, gp_n, gp_n]) (st' := [gp_r (gp_R (gp_mk L s) q2 2)]) (s' := s) rfl (Or.inl H.1) ?_
  replace H := H.2
  refine gs_E.stp (pc' := 9) (ls' := [gp_r (some q1), gp_i p0, gp_i p1, gp_i p2, gp_i p3, gp_r (gp_R (gp_mk L s) q2 2), gp_n, gp_n, gp_n, gp_n]) (st' := [gp_r (some q1)]) (s' := s) 2 rfl ?_
  refine gs_E.ck (pc' := 12) (ls' := [gp_r (some q1), gp_i p0, gp_i p1, gp_i p2, gp_i p3, gp_r (gp_R (gp_mk L s) q2 2), gp_n, gp_n, gp_n, gp_n]) (st' := [gp_r (gp_R (gp_mk L s) q1 6)]) (s' := s) rfl H.1 ?_
  replace H := H.2
  refine gs_E.stp (pc' := 15) (ls' := [gp_r (some q1), gp_i p0, gp_i p1, gp_i p2, gp_i p3, gp_r (gp_R (gp_mk L s) q2 2), gp_n, gp_n, gp_n, gp_n]) (st' := [gp_i (gp_wr (p0 + p1)), gp_r (gp_R (gp_mk L s) q1 6)]) (s' := s) 3 rfl ?_
  obtain ⟨q3, hq, H⟩ := H
  rw [hq]
  refine gs_E.ck (pc' := 16) (ls' := [gp_r (some q1), gp_i p0, gp_i p1, gp_i p2, gp_i p3, gp_r (gp_R (gp_mk L s) q2 2), gp_n, gp_n, gp_n, gp_n]) (st' := [gp_i (gp_I s q3 (gp_wr (p0 + p1)).toNat)]) (s' := s) rfl (Or.inl H.1) ?_
  replace H := H.2
  refine gs_E.stp (pc' := 20) (ls' := [gp_r (some q1), gp_i p0, gp_i p1, gp_i p2, gp_i p3, gp_r (gp_R (gp_mk L s) q2 2), gp_i (gp_I s q3 (gp_wr (p0 + p1)).toNat), gp_n, gp_n, gp_n]) (st' := [gp_r (gp_R (gp_mk L s) q2 2)]) (s' := s) 2 rfl ?_
  obtain ⟨q4, hq, H⟩ := H
  rw [hq]
  refine gs_E.ck (pc' := 23) (ls' := [gp_r (some q1), gp_i p0, gp_i p1, gp_i p2, gp_i p3, gp_r (some q4), gp_i (gp_I s q3 (gp_wr (p0 + p1)).toNat), gp_n, gp_n, gp_n]) (st' := [gp_r (gp_R (gp_mk L s) q4 1)]) (s' := s) rfl H.1 ?_
  replace H := H.2
  refine gs_E.stp (pc' := 24) (ls' := [gp_r (some q1), gp_i p0, gp_i p1, gp_i p2, gp_i p3, gp_r (some q4), gp_i (gp_I s q3 (gp_wr (p0 + p1)).toNat), gp_n, gp_n, gp_n]) (st' := [gp_i p1, gp_r (gp_R (gp_mk L s) q4 1)]) (s' := s) 1 rfl ?_
  obtain ⟨q5, hq, H⟩ := H
  rw [hq]
  refine gs_E.ck (pc' := 25) (ls' := [gp_r (some q1), gp_i p0, gp_i p1, gp_i p2, gp_i p3, gp_r (some q4), gp_i (gp_I s q3 (gp_wr (p0 + p1)).toNat), gp_n, gp_n, gp_n]) (st' := [gp_l (gp_L s q5 p1.toNat)]) (s' := s) rfl H.1 ?_
  replace H := H.2
  refine gs_E.stp (pc' := 27) (ls' := [gp_r (some q1), gp_i p0, gp_i p1, gp_i p2, gp_i p3, gp_r (some q4), gp_i (gp_I s q3 (gp_wr (p0 + p1)).toNat), gp_l (gp_L s q5 p1.toNat), gp_n, gp_n]) (st' := []) (s' := s) 1 rfl ?_
  exact H

set_option maxRecDepth 100000 in
/-- Sum.fillPlace, pc 27 -/
theorem s_2063_27 {L d : Nat} {K : Option gV → gH → Prop} {s : gH} (v0 : Option Nat) (v1 : Int) (v2 : Int) (v3 : Int) (v4 : Int) (v5 : Option Nat) (v6 : Int) (v7 : BitVec 64) (v9 : gV) (H : (((gp_cmp v7 (0#64)) = 0 → (∃ q1, v0 = some q1 ∧ ((gp_sh (gp_mk L s) q1).1 = 8 ∧ (∃ q2, gp_R (gp_mk L s) q1 7 = some q2 ∧ (gp_in (gp_mk L s) 100 q2 (gp_wr (v1 + v2)) ∧ (∃ q3, v5 = some q3 ∧ ((gp_sh (gp_mk L s) q3).1 = 9 ∧ (∃ q4, gp_R (gp_mk L s) q3 2 = some q4 ∧ (gp_in (gp_mk L s) 101 q4 v2 ∧ gs_E L (d + 1) 2063 84 [gp_r (some q1), gp_i v1, gp_i v2, gp_i v3, gp_i v4, gp_r (some q3), gp_i v6, gp_i (gp_I s q2 (gp_wr (v1 + v2)).toNat), gp_l (gp_L s q4 v2.toNat), gp_n] [] s K))))))))) ∧ (¬ (gp_cmp v7 (0#64)) = 0 → (∃ q5, v0 = some q5 ∧ ((gp_sh (gp_mk L s) q5).1 = 8 ∧ gs_C L d 2859 2 [gp_l v7] s (fun r s6 => ∃ x7, r = some (gp_i x7) ∧ (∃ q8, gp_R (gp_mk L s) q5 7 = some q8 ∧ (gp_in (gp_mk L s6) 100 q8 (gp_wr (v1 + x7)) ∧ gs_E L (d + 1) 2063 27 [gp_r (some q5), gp_i v1, gp_i v2, gp_i v3, gp_i v4, gp_r v5, gp_i (gp_mx v6 (gp_I s6 q8 (gp_wr (v1 + x7)).toNat)), gp_l (v7 &&& (v7 - (1#64))), gp_n, v9] [] s6 K)))))))) : gs_E L (d + 1) 2063 27 [gp_r v0, gp_i v1, gp_i v2, gp_i v3, gp_i v4, gp_r v5, gp_i v6, gp_l v7, gp_n, v9] [] s K := by
  refine gs_E.stp (pc' := 31) (ls' := [gp_r v0, gp_i v1, gp_i v2, gp_i v3, gp_i v4, gp_r v5, gp_i v6, gp_l v7, gp_n, v9]) (st' := [gp_i (gp_cmp v7 (0#64))]) (s' := s) 3 rfl ?_
  refine gs_E.br (c := (gp_cmp v7 (0#64)) = 0) (p1 := 65) (p2 := 34) (l1 := [gp_r v0, gp_i v1, gp_i v2, gp_i v3, gp_i v4, gp_r v5, gp_i v6, gp_l v7, gp_n, v9]) (l2 := [gp_r v0, gp_i v1, gp_i v2, gp_i v3, gp_i v4, gp_r v5, gp_i v6, gp_l v7, gp_n, v9]) (s1 := []) (s2 := []) rfl gs_b1 (fun hc => ?_) (fun hc => ?_)
  · replace H := H.1 hc
    refine gs_E.stp (pc' := 66) (ls' := [gp_r v0, gp_i v1, gp_i v2, gp_i v3, gp_i v4, gp_r v5, gp_i v6, gp_l v7, gp_n, v9]) (st' := [gp_r v0]) (s' := s) 1 rfl ?_
    obtain ⟨q1, hq, H⟩ := H
    rw [hq]
    refine gs_E.ck (pc' := 69) (ls' := [gp_r (some q1), gp_i v1, gp_i v2, gp_i v3, gp_i v4, gp_r v5, gp_i v6, gp_l v7, gp_n, v9]) (st' := [gp_r (gp_R (gp_mk L s) q1 7)]) (s' := s) rfl H.1 ?_
    replace H := H.2
    refine gs_E.stp (pc' := 72) (ls' := [gp_r (some q1), gp_i v1, gp_i v2, gp_i v3, gp_i v4, gp_r v5, gp_i v6, gp_l v7, gp_n, v9]) (st' := [gp_i (gp_wr (v1 + v2)), gp_r (gp_R (gp_mk L s) q1 7)]) (s' := s) 3 rfl ?_
    obtain ⟨q2, hq, H⟩ := H
    rw [hq]
    refine gs_E.ck (pc' := 73) (ls' := [gp_r (some q1), gp_i v1, gp_i v2, gp_i v3, gp_i v4, gp_r v5, gp_i v6, gp_l v7, gp_n, v9]) (st' := [gp_i (gp_I s q2 (gp_wr (v1 + v2)).toNat)]) (s' := s) rfl (Or.inl H.1) ?_
    replace H := H.2
    refine gs_E.stp (pc' := 77) (ls' := [gp_r (some q1), gp_i v1, gp_i v2, gp_i v3, gp_i v4, gp_r v5, gp_i v6, gp_i (gp_I s q2 (gp_wr (v1 + v2)).toNat), gp_n, v9]) (st' := [gp_r v5]) (s' := s) 2 rfl ?_
    obtain ⟨q3, hq, H⟩ := H
    rw [hq]
    refine gs_E.ck (pc' := 80) (ls' := [gp_r (some q1), gp_i v1, gp_i v2, gp_i v3, gp_i v4, gp_r (some q3), gp_i v6, gp_i (gp_I s q2 (gp_wr (v1 + v2)).toNat), gp_n, v9]) (st' := [gp_r (gp_R (gp_mk L s) q3 2)]) (s' := s) rfl H.1 ?_
    replace H := H.2
    refine gs_E.stp (pc' := 81) (ls' := [gp_r (some q1), gp_i v1, gp_i v2, gp_i v3, gp_i v4, gp_r (some q3), gp_i v6, gp_i (gp_I s q2 (gp_wr (v1 + v2)).toNat), gp_n, v9]) (st' := [gp_i v2, gp_r (gp_R (gp_mk L s) q3 2)]) (s' := s) 1 rfl ?_
    obtain ⟨q4, hq, H⟩ := H
    rw [hq]
    refine gs_E.ck (pc' := 82) (ls' := [gp_r (some q1), gp_i v1, gp_i v2, gp_i v3, gp_i v4, gp_r (some q3), gp_i v6, gp_i (gp_I s q2 (gp_wr (v1 + v2)).toNat), gp_n, v9]) (st' := [gp_l (gp_L s q4 v2.toNat)]) (s' := s) rfl H.1 ?_
    replace H := H.2
    refine gs_E.stp (pc' := 84) (ls' := [gp_r (some q1), gp_i v1, gp_i v2, gp_i v3, gp_i v4, gp_r (some q3), gp_i v6, gp_i (gp_I s q2 (gp_wr (v1 + v2)).toNat), gp_l (gp_L s q4 v2.toNat), gp_n]) (st' := []) (s' := s) 1 rfl ?_
    exact H
  · replace H := H.2 hc
    refine gs_E.stp (pc' := 37) (ls' := [gp_r v0, gp_i v1, gp_i v2, gp_i v3, gp_i v4, gp_r v5, gp_i v6, gp_l v7, gp_n, v9]) (st' := [gp_r v0, gp_i v6]) (s' := s) 2 rfl ?_
    obtain ⟨q5, hq, H⟩ := H
    rw [hq]
    refine gs_E.ck (pc' := 40) (ls' := [gp_r (some q5), gp_i v1, gp_i v2, gp_i v3, gp_i v4, gp_r v5, gp_i v6, gp_l v7, gp_n, v9]) (st' := [gp_r (gp_R (gp_mk L s) q5 7), gp_i v6]) (s' := s) rfl H.1 ?_
    replace H := H.2
    refine gs_E.stp (pc' := 43) (ls' := [gp_r (some q5), gp_i v1, gp_i v2, gp_i v3, gp_i v4, gp_r v5, gp_i v6, gp_l v7, gp_n, v9]) (st' := [gp_l v7, gp_i v1, gp_r (gp_R (gp_mk L s) q5 7), gp_i v6]) (s' := s) 2 rfl ?_
    refine gs_E.call (args := [gp_l v7]) (m := 2) (y' := 2859) (st' := [gp_i v1, gp_r (gp_R (gp_mk L s) q5 7), gp_i v6]) rfl H (fun r s6 H => ?_)
    obtain ⟨x7, rfl, H⟩ := H
    show gs_E L (d + 1) 2063 46 [gp_r (some q5), gp_i v1, gp_i v2, gp_i v3, gp_i v4, gp_r v5, gp_i v6, gp_l v7, gp_n, v9] [gp_i x7, gp_i v1, gp_r (gp_R (gp_mk L s) q5 7), gp_i v6] s6 K
    refine gs_E.stp (pc' := 47) (ls' := [gp_r (some q5), gp_i v1, gp_i v2, gp_i v3, gp_i v4, gp_r v5, gp_i v6, gp_l v7, gp_n, v9]) (st' := [gp_i (gp_wr (v1 + x7)), gp_r (gp_R (gp_mk L s) q5 7), gp_i v6]) (s' := s6) 1 rfl ?_
    obtain ⟨q8, hq, H⟩ := H
    rw [hq]
    refine gs_E.ck (pc' := 48) (ls' := [gp_r (some q5), gp_i v1, gp_i v2, gp_i v3, gp_i v4, gp_r v5, gp_i v6, gp_l v7, gp_n, v9]) (st' := [gp_i (gp_I s6 q8 (gp_wr (v1 + x7)).toNat), gp_i v6]) (s' := s6) rfl (Or.inl H.1) ?_
    replace H := H.2
    refine gs_E.stp (pc' := 27) (ls' := [gp_r (some q5), gp_i v1, gp_i v2, gp_i v3, gp_i v4, gp_r v5, gp_i (gp_mx v6 (gp_I s6 q8 (gp_wr (v1 + x7)).toNat)), gp_l (v7 &&& (v7 - (1#64))), gp_n, v9]) (st' := []) (s' := s6) 9 rfl ?_
    exact H

set_option maxRecDepth 100000 in
/-- Sum.fillPlace, pc 84 -/
theorem s_2063_84 {L d : Nat} {K : Option gV → gH → Prop} {s : gH} (v0 : Option Nat) (v1 : Int) (v2 : Int) (v3 : Int) (v4 : Int) (v5 : Option Nat) (v6 : Int) (v7 : Int) (v8 : BitVec 64) (H : (((gp_cmp v8 (0#64)) = 0 → (∃ q1, v0 = some q1 ∧ ((gp_sh (gp_mk L s) q1).1 = 8 ∧ ((v6 = (-2147483648) → (∃ q2, v5 = some q2 ∧ ((gp_sh (gp_mk L s) q2).1 = 9 ∧ (∃ q3, gp_R (gp_mk L s) q2 3 = some q3 ∧ (gp_in (gp_mk L s) 100 q3 v2 ∧ gs_E L (d + 1) 2063 150 [gp_r (some q1), gp_i v1, gp_i v2, gp_i v3, gp_i v4, gp_r (some q2), gp_i v6, gp_i v7, gp_l v8, gp_n] [gp_i (gp_wr (v3 + (gp_I s q3 v2.toNat))), gp_i (gp_wr (v1 + v2)), gp_r (gp_R (gp_mk L s) q1 6)] s K))))) ∧ (¬ v6 = (-2147483648) → gs_E L (d + 1) 2063 150 [gp_r (some q1), gp_i v1, gp_i v2, gp_i v3, gp_i v4, gp_r v5, gp_i v6, gp_i v7, gp_l v8, gp_n] [gp_i v6, gp_i (gp_wr (v1 + v2)), gp_r (gp_R (gp_mk L s) q1 6)] s K))))) ∧ (¬ (gp_cmp v8 (0#64)) = 0 → (∃ q4, v0 = some q4 ∧ ((gp_sh (gp_mk L s) q4).1 = 8 ∧ gs_C L d 2859 2 [gp_l v8] s (fun r s5 => ∃ x6, r = some (gp_i x6) ∧ (∃ q7, gp_R (gp_mk L s) q4 6 = some q7 ∧ (gp_in (gp_mk L s5) 100 q7 (gp_wr (v1 + x6)) ∧ gs_E L (d + 1) 2063 84 [gp_r (some q4), gp_i v1, gp_i v2, gp_i v3, gp_i v4, gp_r v5, gp_i v6, gp_i (gp_mi v7 (gp_I s5 q7 (gp_wr (v1 + x6)).toNat)), gp_l (v8 &&& (v8 - (1#64))), gp_n] [] s5 K)))))))) : gs_E L (d + 1) 2063 84 [gp_r v0, gp_i v1, gp_i v2, gp_i v3, gp_i v4, gp_r v5, gp_i v6, gp_i v7, gp_l v8, gp_n] [] s K := by
  refine gs_E.stp (pc' := 88) (ls' := [gp_r v0, gp_i v1, gp_i v2, gp_i v3, gp_i v4, gp_r v5, gp_i v6, gp_i v7, gp_l v8, gp_n]) (st' := [gp_i (gp_cmp v8 (0#64))]) (s' := s) 3 rfl ?_
  refine gs_E.br (c := (gp_cmp v8 (0#64)) = 0) (p1 := 122) (p2 := 91) (l1 := [gp_r v0, gp_i v1, gp_i v2, gp_i v3, gp_i v4, gp_r v5, gp_i v6, gp_i v7, gp_l v8, gp_n]) (l2 := [gp_r v0, gp_i v1, gp_i v2, gp_i v3, gp_i v4, gp_r v5, gp_i v6, gp_i v7, gp_l v8, gp_n]) (s1 := []) (s2 := []) rfl gs_b1 (fun hc => ?_) (fun hc => ?_)
  · replace H := H.1 hc
    refine gs_E.stp (pc' := 123) (ls' := [gp_r v0, gp_i v1, gp_i v2, gp_i v3, gp_i v4, gp_r v5, gp_i v6, gp_i v7, gp_l v8, gp_n]) (st' := [gp_r v0]) (s' := s) 1 rfl ?_
    obtain ⟨q1, hq, H⟩ := H
    rw [hq]
    refine gs_E.ck (pc' := 126) (ls' := [gp_r (some q1), gp_i v1, gp_i v2, gp_i v3, gp_i v4, gp_r v5, gp_i v6, gp_i v7, gp_l v8, gp_n]) (st' := [gp_r (gp_R (gp_mk L s) q1 6)]) (s' := s) rfl H.1 ?_
    replace H := H.2
    refine gs_E.stp (pc' := 133) (ls' := [gp_r (some q1), gp_i v1, gp_i v2, gp_i v3, gp_i v4, gp_r v5, gp_i v6, gp_i v7, gp_l v8, gp_n]) (st' := [gp_i (-2147483648), gp_i v6, gp_i (gp_wr (v1 + v2)), gp_r (gp_R (gp_mk L s) q1 6)]) (s' := s) 5 rfl ?_
    refine gs_E.br (c := ¬ v6 = (-2147483648)) (p1 := 148) (p2 := 136) (l1 := [gp_r (some q1), gp_i v1, gp_i v2, gp_i v3, gp_i v4, gp_r v5, gp_i v6, gp_i v7, gp_l v8, gp_n]) (l2 := [gp_r (some q1), gp_i v1, gp_i v2, gp_i v3, gp_i v4, gp_r v5, gp_i v6, gp_i v7, gp_l v8, gp_n]) (s1 := [gp_i (gp_wr (v1 + v2)), gp_r (gp_R (gp_mk L s) q1 6)]) (s2 := [gp_i (gp_wr (v1 + v2)), gp_r (gp_R (gp_mk L s) q1 6)]) rfl gs_b2 (fun hc => ?_) (fun hc => ?_)
    · replace H := H.2 hc
      refine gs_E.stp (pc' := 150) (ls' := [gp_r (some q1), gp_i v1, gp_i v2, gp_i v3, gp_i v4, gp_r v5, gp_i v6, gp_i v7, gp_l v8, gp_n]) (st' := [gp_i v6, gp_i (gp_wr (v1 + v2)), gp_r (gp_R (gp_mk L s) q1 6)]) (s' := s) 1 rfl ?_
      exact H
    · replace H := H.1 (Decidable.byContradiction hc)
      refine gs_E.stp (pc' := 139) (ls' := [gp_r (some q1), gp_i v1, gp_i v2, gp_i v3, gp_i v4, gp_r v5, gp_i v6, gp_i v7, gp_l v8, gp_n]) (st' := [gp_r v5, gp_i v3, gp_i (gp_wr (v1 + v2)), gp_r (gp_R (gp_mk L s) q1 6)]) (s' := s) 2 rfl ?_
      obtain ⟨q2, hq, H⟩ := H
      rw [hq]
      refine gs_E.ck (pc' := 142) (ls' := [gp_r (some q1), gp_i v1, gp_i v2, gp_i v3, gp_i v4, gp_r (some q2), gp_i v6, gp_i v7, gp_l v8, gp_n]) (st' := [gp_r (gp_R (gp_mk L s) q2 3), gp_i v3, gp_i (gp_wr (v1 + v2)), gp_r (gp_R (gp_mk L s) q1 6)]) (s' := s) rfl H.1 ?_
      replace H := H.2
      refine gs_E.stp (pc' := 143) (ls' := [gp_r (some q1), gp_i v1, gp_i v2, gp_i v3, gp_i v4, gp_r (some q2), gp_i v6, gp_i v7, gp_l v8, gp_n]) (st' := [gp_i v2, gp_r (gp_R (gp_mk L s) q2 3), gp_i v3, gp_i (gp_wr (v1 + v2)), gp_r (gp_R (gp_mk L s) q1 6)]) (s' := s) 1 rfl ?_
      obtain ⟨q3, hq, H⟩ := H
      rw [hq]
      refine gs_E.ck (pc' := 144) (ls' := [gp_r (some q1), gp_i v1, gp_i v2, gp_i v3, gp_i v4, gp_r (some q2), gp_i v6, gp_i v7, gp_l v8, gp_n]) (st' := [gp_i (gp_I s q3 v2.toNat), gp_i v3, gp_i (gp_wr (v1 + v2)), gp_r (gp_R (gp_mk L s) q1 6)]) (s' := s) rfl (Or.inl H.1) ?_
      replace H := H.2
      refine gs_E.stp (pc' := 150) (ls' := [gp_r (some q1), gp_i v1, gp_i v2, gp_i v3, gp_i v4, gp_r (some q2), gp_i v6, gp_i v7, gp_l v8, gp_n]) (st' := [gp_i (gp_wr (v3 + (gp_I s q3 v2.toNat))), gp_i (gp_wr (v1 + v2)), gp_r (gp_R (gp_mk L s) q1 6)]) (s' := s) 2 rfl ?_
      exact H
  · replace H := H.2 hc
    refine gs_E.stp (pc' := 94) (ls' := [gp_r v0, gp_i v1, gp_i v2, gp_i v3, gp_i v4, gp_r v5, gp_i v6, gp_i v7, gp_l v8, gp_n]) (st' := [gp_r v0, gp_i v7]) (s' := s) 2 rfl ?_
    obtain ⟨q4, hq, H⟩ := H
    rw [hq]
    refine gs_E.ck (pc' := 97) (ls' := [gp_r (some q4), gp_i v1, gp_i v2, gp_i v3, gp_i v4, gp_r v5, gp_i v6, gp_i v7, gp_l v8, gp_n]) (st' := [gp_r (gp_R (gp_mk L s) q4 6), gp_i v7]) (s' := s) rfl H.1 ?_
    replace H := H.2
    refine gs_E.stp (pc' := 100) (ls' := [gp_r (some q4), gp_i v1, gp_i v2, gp_i v3, gp_i v4, gp_r v5, gp_i v6, gp_i v7, gp_l v8, gp_n]) (st' := [gp_l v8, gp_i v1, gp_r (gp_R (gp_mk L s) q4 6), gp_i v7]) (s' := s) 2 rfl ?_
    refine gs_E.call (args := [gp_l v8]) (m := 2) (y' := 2859) (st' := [gp_i v1, gp_r (gp_R (gp_mk L s) q4 6), gp_i v7]) rfl H (fun r s5 H => ?_)
    obtain ⟨x6, rfl, H⟩ := H
    show gs_E L (d + 1) 2063 103 [gp_r (some q4), gp_i v1, gp_i v2, gp_i v3, gp_i v4, gp_r v5, gp_i v6, gp_i v7, gp_l v8, gp_n] [gp_i x6, gp_i v1, gp_r (gp_R (gp_mk L s) q4 6), gp_i v7] s5 K
    refine gs_E.stp (pc' := 104) (ls' := [gp_r (some q4), gp_i v1, gp_i v2, gp_i v3, gp_i v4, gp_r v5, gp_i v6, gp_i v7, gp_l v8, gp_n]) (st' := [gp_i (gp_wr (v1 + x6)), gp_r (gp_R (gp_mk L s) q4 6), gp_i v7]) (s' := s5) 1 rfl ?_
    obtain ⟨q7, hq, H⟩ := H
    rw [hq]
    refine gs_E.ck (pc' := 105) (ls' := [gp_r (some q4), gp_i v1, gp_i v2, gp_i v3, gp_i v4, gp_r v5, gp_i v6, gp_i v7, gp_l v8, gp_n]) (st' := [gp_i (gp_I s5 q7 (gp_wr (v1 + x6)).toNat), gp_i v7]) (s' := s5) rfl (Or.inl H.1) ?_
    replace H := H.2
    refine gs_E.stp (pc' := 84) (ls' := [gp_r (some q4), gp_i v1, gp_i v2, gp_i v3, gp_i v4, gp_r v5, gp_i v6, gp_i (gp_mi v7 (gp_I s5 q7 (gp_wr (v1 + x6)).toNat)), gp_l (v8 &&& (v8 - (1#64))), gp_n]) (st' := []) (s' := s5) 9 rfl ?_
    exact H

set_option maxRecDepth 100000 in
/-- Sum.fillPlace, pc 150 -/
theorem s_2063_150 {L d : Nat} {K : Option gV → gH → Prop} {s : gH} (v0 : Option Nat) (v1 : Int) (v2 : Int) (v3 : Int) (v4 : Int) (v5 : Option Nat) (v6 : Int) (v7 : Int) (v8 : BitVec 64) (w0 : Option Nat) (w1 : Int) (w2 : Int) (H : (∃ q1, w0 = some q1 ∧ (gp_in (gp_mk L s) 100 q1 w1 ∧ ∀ s2, s2 = gp_wI s q1 w1.toNat w2 → (∃ q3, v0 = some q3 ∧ ((gp_sh (gp_mk L s2) q3).1 = 8 ∧ ((v7 = 2147483647 → (∃ q4, v5 = some q4 ∧ ((gp_sh (gp_mk L s2) q4).1 = 9 ∧ (∃ q5, gp_R (gp_mk L s2) q4 4 = some q5 ∧ (gp_in (gp_mk L s2) 100 q5 v2 ∧ gs_E L (d + 1) 2063 180 [gp_r (some q3), gp_i v1, gp_i v2, gp_i v3, gp_i v4, gp_r (some q4), gp_i v6, gp_i v7, gp_l v8, gp_n] [gp_i (gp_wr (v4 + (gp_I s2 q5 v2.toNat))), gp_i (gp_wr (v1 + v2)), gp_r (gp_R (gp_mk L s2) q3 7)] s2 K))))) ∧ (¬ v7 = 2147483647 → gs_E L (d + 1) 2063 180 [gp_r (some q3), gp_i v1, gp_i v2, gp_i v3, gp_i v4, gp_r v5, gp_i v6, gp_i v7, gp_l v8, gp_n] [gp_i v7, gp_i (gp_wr (v1 + v2)), gp_r (gp_R (gp_mk L s2) q3 7)] s2 K))))))) : gs_E L (d + 1) 2063 150 [gp_r v0, gp_i v1, gp_i v2, gp_i v3, gp_i v4, gp_r v5, gp_i v6, gp_i v7, gp_l v8, gp_n] [gp_i w2, gp_i w1, gp_r w0] s K := by
  obtain ⟨q1, hq, H⟩ := H
  rw [hq]
  refine gs_E.ck (pc' := 151) (ls' := [gp_r v0, gp_i v1, gp_i v2, gp_i v3, gp_i v4, gp_r v5, gp_i v6, gp_i v7, gp_l v8, gp_n]) (st' := []) (s' := gp_wI s q1 w1.toNat w2) rfl H.1 ?_
  replace H := H.2 _ rfl
  generalize gp_wI s q1 w1.toNat w2 = s2 at H ⊢
  refine gs_E.stp (pc' := 152) (ls' := [gp_r v0, gp_i v1, gp_i v2, gp_i v3, gp_i v4, gp_r v5, gp_i v6, gp_i v7, gp_l v8, gp_n]) (st' := [gp_r v0]) (s' := s2) 1 rfl ?_
  obtain ⟨q3, hq, H⟩ := H
  rw [hq]
  refine gs_E.ck (pc' := 155) (ls' := [gp_r (some q3), gp_i v1, gp_i v2, gp_i v3, gp_i v4, gp_r v5, gp_i v6, gp_i v7, gp_l v8, gp_n]) (st' := [gp_r (gp_R (gp_mk L s2) q3 7)]) (s' := s2) rfl H.1 ?_
  replace H := H.2
  refine gs_E.stp (pc' := 162) (ls' := [gp_r (some q3), gp_i v1, gp_i v2, gp_i v3, gp_i v4, gp_r v5, gp_i v6, gp_i v7, gp_l v8, gp_n]) (st' := [gp_i 2147483647, gp_i v7, gp_i (gp_wr (v1 + v2)), gp_r (gp_R (gp_mk L s2) q3 7)]) (s' := s2) 5 rfl ?_
  refine gs_E.br (c := ¬ v7 = 2147483647) (p1 := 178) (p2 := 165) (l1 := [gp_r (some q3), gp_i v1, gp_i v2, gp_i v3, gp_i v4, gp_r v5, gp_i v6, gp_i v7, gp_l v8, gp_n]) (l2 := [gp_r (some q3), gp_i v1, gp_i v2, gp_i v3, gp_i v4, gp_r v5, gp_i v6, gp_i v7, gp_l v8, gp_n]) (s1 := [gp_i (gp_wr (v1 + v2)), gp_r (gp_R (gp_mk L s2) q3 7)]) (s2 := [gp_i (gp_wr (v1 + v2)), gp_r (gp_R (gp_mk L s2) q3 7)]) rfl gs_b2 (fun hc => ?_) (fun hc => ?_)
  · replace H := H.2 hc
    refine gs_E.stp (pc' := 180) (ls' := [gp_r (some q3), gp_i v1, gp_i v2, gp_i v3, gp_i v4, gp_r v5, gp_i v6, gp_i v7, gp_l v8, gp_n]) (st' := [gp_i v7, gp_i (gp_wr (v1 + v2)), gp_r (gp_R (gp_mk L s2) q3 7)]) (s' := s2) 1 rfl ?_
    exact H
  · replace H := H.1 (Decidable.byContradiction hc)
    refine gs_E.stp (pc' := 169) (ls' := [gp_r (some q3), gp_i v1, gp_i v2, gp_i v3, gp_i v4, gp_r v5, gp_i v6, gp_i v7, gp_l v8, gp_n]) (st' := [gp_r v5, gp_i v4, gp_i (gp_wr (v1 + v2)), gp_r (gp_R (gp_mk L s2) q3 7)]) (s' := s2) 2 rfl ?_
    obtain ⟨q4, hq, H⟩ := H
    rw [hq]
    refine gs_E.ck (pc' := 172) (ls' := [gp_r (some q3), gp_i v1, gp_i v2, gp_i v3, gp_i v4, gp_r (some q4), gp_i v6, gp_i v7, gp_l v8, gp_n]) (st' := [gp_r (gp_R (gp_mk L s2) q4 4), gp_i v4, gp_i (gp_wr (v1 + v2)), gp_r (gp_R (gp_mk L s2) q3 7)]) (s' := s2) rfl H.1 ?_
    replace H := H.2
    refine gs_E.stp (pc' := 173) (ls' := [gp_r (some q3), gp_i v1, gp_i v2, gp_i v3, gp_i v4, gp_r (some q4), gp_i v6, gp_i v7, gp_l v8, gp_n]) (st' := [gp_i v2, gp_r (gp_R (gp_mk L s2) q4 4), gp_i v4, gp_i (gp_wr (v1 + v2)), gp_r (gp_R (gp_mk L s2) q3 7)]) (s' := s2) 1 rfl ?_
    obtain ⟨q5, hq, H⟩ := H
    rw [hq]
    refine gs_E.ck (pc' := 174) (ls' := [gp_r (some q3), gp_i v1, gp_i v2, gp_i v3, gp_i v4, gp_r (some q4), gp_i v6, gp_i v7, gp_l v8, gp_n]) (st' := [gp_i (gp_I s2 q5 v2.toNat), gp_i v4, gp_i (gp_wr (v1 + v2)), gp_r (gp_R (gp_mk L s2) q3 7)]) (s' := s2) rfl (Or.inl H.1) ?_
    replace H := H.2
    refine gs_E.stp (pc' := 180) (ls' := [gp_r (some q3), gp_i v1, gp_i v2, gp_i v3, gp_i v4, gp_r (some q4), gp_i v6, gp_i v7, gp_l v8, gp_n]) (st' := [gp_i (gp_wr (v4 + (gp_I s2 q5 v2.toNat))), gp_i (gp_wr (v1 + v2)), gp_r (gp_R (gp_mk L s2) q3 7)]) (s' := s2) 2 rfl ?_
    exact H

set_option maxRecDepth 100000 in
/-- Sum.fillPlace, pc 180 -/
theorem s_2063_180 {L d : Nat} {K : Option gV → gH → Prop} {s : gH} (v0 : Option Nat) (v1 : Int) (v2 : Int) (v3 : Int) (v4 : Int) (v5 : Option Nat) (v6 : Int) (v7 : Int) (v8 : BitVec 64) (w0 : Option Nat) (w1 : Int) (w2 : Int) (H : (∃ q1, w0 = some q1 ∧ (gp_in (gp_mk L s) 100 q1 w1 ∧ ∀ s2, s2 = gp_wI s q1 w1.toNat w2 → K none s2))) : gs_E L (d + 1) 2063 180 [gp_r v0, gp_i v1, gp_i v2, gp_i v3, gp_i v4, gp_r v5, gp_i v6, gp_i v7, gp_l v8, gp_n] [gp_i w2, gp_i w1, gp_r w0] s K := by
  obtain ⟨q1, hq, H⟩ := H
  rw [hq]
  refine gs_E.ck (pc' := 181) (ls' := [gp_r v0, gp_i v1, gp_i v2, gp_i v3, gp_i v4, gp_r v5, gp_i v6, gp_i v7, gp_l v8, gp_n]) (st' := []) (s' := gp_wI s q1 w1.toNat w2) rfl H.1 ?_
  replace H := H.2 _ rfl
  generalize gp_wI s q1 w1.toNat w2 = s2 at H ⊢
  exact gs_E.ret (r := none) rfl H

set_option maxRecDepth 100000 in
/-- Walker.firstWrong, pc 0 -/
theorem s_2561_e {L d : Nat} {K : Option gV → gH → Prop} {s : gH} (p0 : Option Nat) (p1 : Int) (H : gs_E L d 2561 2 [gp_r (some 48), gp_r p0, gp_i p1, gp_i 0, gp_n, gp_n] [] s K) : gs_C L d 2561 6 [gp_r (some 48), gp_r p0, gp_i p1] s K := by
  show gs_E L d 2561 0 [gp_r (some 48), gp_r p0, gp_i p1, gp_n, gp_n, gp_n] [] s K
  refine gs_E.stp (pc' := 2) (ls' := [gp_r (some 48), gp_r p0, gp_i p1, gp_i 0, gp_n, gp_n]) (st' := []) (s' := s) 2 rfl ?_
  exact H

set_option maxRecDepth 100000 in
/-- Walker.firstWrong, pc 2 -/
theorem s_2561_2 {L d : Nat} {K : Option gV → gH → Prop} {s : gH} (v1 : Option Nat) (v2 : Int) (v3 : Int) (v4 : gV) (v5 : gV) (H : ((v3 < v2 → (∃ q1, v1 = some q1 ∧ (gp_in (gp_mk L s) 102 q1 v3 ∧ (((gp_I s q1 v3.toNat) = 108 → gs_E L d 2561 40 [gp_r (some 48), gp_r (some q1), gp_i v2, gp_i v3, gp_i (gp_I s q1 v3.toNat), v5] [] s K) ∧ (¬ (gp_I s q1 v3.toNat) = 108 → (((gp_I s q1 v3.toNat) = 114 → gs_E L d 2561 40 [gp_r (some 48), gp_r (some q1), gp_i v2, gp_i v3, gp_i (gp_I s q1 v3.toNat), v5] [] s K) ∧ (¬ (gp_I s q1 v3.toNat) = 114 → (((gp_I s q1 v3.toNat) < 48 → gs_E L d 2561 44 [gp_r (some 48), gp_r (some q1), gp_i v2, gp_i v3, gp_i (gp_I s q1 v3.toNat), v5] [] s K) ∧ (¬ (gp_I s q1 v3.toNat) < 48 → ((57 < (gp_I s q1 v3.toNat) → gs_E L d 2561 44 [gp_r (some 48), gp_r (some q1), gp_i v2, gp_i v3, gp_i (gp_I s q1 v3.toNat), v5] [] s K) ∧ (¬ 57 < (gp_I s q1 v3.toNat) → gs_E L d 2561 40 [gp_r (some 48), gp_r (some q1), gp_i v2, gp_i v3, gp_i (gp_I s q1 v3.toNat), v5] [] s K))))))))))) ∧ (¬ v3 < v2 → ((v2 = 0 → gs_E L d 2561 75 [gp_r (some 48), gp_r v1, gp_i v2, gp_i v3, v4, v5] [gp_i 0] s K) ∧ (¬ v2 = 0 → gs_E L d 2561 75 [gp_r (some 48), gp_r v1, gp_i v2, gp_i v3, v4, v5] [gp_i (-1)] s K))))) : gs_E L d 2561 2 [gp_r (some 48), gp_r v1, gp_i v2, gp_i v3, v4, v5] [] s K := by
  refine gs_E.stp (pc' := 4) (ls' := [gp_r (some 48), gp_r v1, gp_i v2, gp_i v3, v4, v5]) (st' := [gp_i v2, gp_i v3]) (s' := s) 2 rfl ?_
  refine gs_E.br (c := ¬ v3 < v2) (p1 := 66) (p2 := 7) (l1 := [gp_r (some 48), gp_r v1, gp_i v2, gp_i v3, v4, v5]) (l2 := [gp_r (some 48), gp_r v1, gp_i v2, gp_i v3, v4, v5]) (s1 := []) (s2 := []) rfl gs_b2 (fun hc => ?_) (fun hc => ?_)
  · replace H := H.2 hc
    refine gs_E.stp (pc' := 67) (ls' := [gp_r (some 48), gp_r v1, gp_i v2, gp_i v3, v4, v5]) (st' := [gp_i v2]) (s' := s) 1 rfl ?_
    refine gs_E.br (c := ¬ v2 = 0) (p1 := 74) (p2 := 70) (l1 := [gp_r (some 48), gp_r v1, gp_i v2, gp_i v3, v4, v5]) (l2 := [gp_r (some 48), gp_r v1, gp_i v2, gp_i v3, v4, v5]) (s1 := []) (s2 := []) rfl gs_b2 (fun hc => ?_) (fun hc => ?_)
    · replace H := H.2 hc
      refine gs_E.stp (pc' := 75) (ls' := [gp_r (some 48), gp_r v1, gp_i v2, gp_i v3, v4, v5]) (st' := [gp_i (-1)]) (s' := s) 1 rfl ?_
      exact H
    · replace H := H.1 (Decidable.byContradiction hc)
      refine gs_E.stp (pc' := 75) (ls' := [gp_r (some 48), gp_r v1, gp_i v2, gp_i v3, v4, v5]) (st' := [gp_i 0]) (s' := s) 2 rfl ?_
      exact H
  · replace H := H.1 (Decidable.byContradiction hc)
    refine gs_E.stp (pc' := 9) (ls' := [gp_r (some 48), gp_r v1, gp_i v2, gp_i v3, v4, v5]) (st' := [gp_i v3, gp_r v1]) (s' := s) 2 rfl ?_
    obtain ⟨q1, hq, H⟩ := H
    rw [hq]
    refine gs_E.ck (pc' := 10) (ls' := [gp_r (some 48), gp_r (some q1), gp_i v2, gp_i v3, v4, v5]) (st' := [gp_i (gp_I s q1 v3.toNat)]) (s' := s) rfl H.1 ?_
    replace H := H.2
    refine gs_E.stp (pc' := 16) (ls' := [gp_r (some 48), gp_r (some q1), gp_i v2, gp_i v3, gp_i (gp_I s q1 v3.toNat), v5]) (st' := [gp_i 108, gp_i (gp_I s q1 v3.toNat)]) (s' := s) 3 rfl ?_
    refine gs_E.br (c := (gp_I s q1 v3.toNat) = 108) (p1 := 40) (p2 := 19) (l1 := [gp_r (some 48), gp_r (some q1), gp_i v2, gp_i v3, gp_i (gp_I s q1 v3.toNat), v5]) (l2 := [gp_r (some 48), gp_r (some q1), gp_i v2, gp_i v3, gp_i (gp_I s q1 v3.toNat), v5]) (s1 := []) (s2 := []) rfl gs_b1 (fun hc => ?_) (fun hc => ?_)
    · replace H := H.1 hc
      exact H
    · replace H := H.2 hc
      refine gs_E.stp (pc' := 23) (ls' := [gp_r (some 48), gp_r (some q1), gp_i v2, gp_i v3, gp_i (gp_I s q1 v3.toNat), v5]) (st' := [gp_i 114, gp_i (gp_I s q1 v3.toNat)]) (s' := s) 2 rfl ?_
      refine gs_E.br (c := (gp_I s q1 v3.toNat) = 114) (p1 := 40) (p2 := 26) (l1 := [gp_r (some 48), gp_r (some q1), gp_i v2, gp_i v3, gp_i (gp_I s q1 v3.toNat), v5]) (l2 := [gp_r (some 48), gp_r (some q1), gp_i v2, gp_i v3, gp_i (gp_I s q1 v3.toNat), v5]) (s1 := []) (s2 := []) rfl gs_b1 (fun hc => ?_) (fun hc => ?_)
      · replace H := H.1 hc
        exact H
      · replace H := H.2 hc
        refine gs_E.stp (pc' := 30) (ls' := [gp_r (some 48), gp_r (some q1), gp_i v2, gp_i v3, gp_i (gp_I s q1 v3.toNat), v5]) (st' := [gp_i 48, gp_i (gp_I s q1 v3.toNat)]) (s' := s) 2 rfl ?_
        refine gs_E.br (c := (gp_I s q1 v3.toNat) < 48) (p1 := 44) (p2 := 33) (l1 := [gp_r (some 48), gp_r (some q1), gp_i v2, gp_i v3, gp_i (gp_I s q1 v3.toNat), v5]) (l2 := [gp_r (some 48), gp_r (some q1), gp_i v2, gp_i v3, gp_i (gp_I s q1 v3.toNat), v5]) (s1 := []) (s2 := []) rfl gs_b1 (fun hc => ?_) (fun hc => ?_)
        · replace H := H.1 hc
          exact H
        · replace H := H.2 hc
          refine gs_E.stp (pc' := 37) (ls' := [gp_r (some 48), gp_r (some q1), gp_i v2, gp_i v3, gp_i (gp_I s q1 v3.toNat), v5]) (st' := [gp_i 57, gp_i (gp_I s q1 v3.toNat)]) (s' := s) 2 rfl ?_
          refine gs_E.br (c := 57 < (gp_I s q1 v3.toNat)) (p1 := 44) (p2 := 40) (l1 := [gp_r (some 48), gp_r (some q1), gp_i v2, gp_i v3, gp_i (gp_I s q1 v3.toNat), v5]) (l2 := [gp_r (some 48), gp_r (some q1), gp_i v2, gp_i v3, gp_i (gp_I s q1 v3.toNat), v5]) (s1 := []) (s2 := []) rfl gs_b1 (fun hc => ?_) (fun hc => ?_)
          · replace H := H.1 hc
            exact H
          · replace H := H.2 hc
            exact H

set_option maxRecDepth 100000 in
/-- Walker.firstWrong, pc 40 -/
theorem s_2561_40 {L d : Nat} {K : Option gV → gH → Prop} {s : gH} (v1 : Option Nat) (v2 : Int) (v3 : Int) (v4 : Int) (v5 : gV) (H : gs_E L d 2561 45 [gp_r (some 48), gp_r v1, gp_i v2, gp_i v3, gp_i v4, v5] [gp_i 1] s K) : gs_E L d 2561 40 [gp_r (some 48), gp_r v1, gp_i v2, gp_i v3, gp_i v4, v5] [] s K := by
  refine gs_E.stp (pc' := 45) (ls' := [gp_r (some 48), gp_r v1, gp_i v2, gp_i v3, gp_i v4, v5]) (st' := [gp_i 1]) (s' := s) 2 rfl ?_
  exact H

set_option maxRecDepth 100000 in
/-- Walker.firstWrong, pc 44 -/
theorem s_2561_44 {L d : Nat} {K : Option gV → gH → Prop} {s : gH} (v1 : Option Nat) (v2 : Int) (v3 : Int) (v4 : Int) (v5 : gV) (H : gs_E L d 2561 45 [gp_r (some 48), gp_r v1, gp_i v2, gp_i v3, gp_i v4, v5] [gp_i 0] s K) : gs_E L d 2561 44 [gp_r (some 48), gp_r v1, gp_i v2, gp_i v3, gp_i v4, v5] [] s K := by
  refine gs_E.stp (pc' := 45) (ls' := [gp_r (some 48), gp_r v1, gp_i v2, gp_i v3, gp_i v4, v5]) (st' := [gp_i 0]) (s' := s) 1 rfl ?_
  exact H

set_option maxRecDepth 100000 in
/-- Walker.firstWrong, pc 45 -/
theorem s_2561_45 {L d : Nat} {K : Option gV → gH → Prop} {s : gH} (v1 : Option Nat) (v2 : Int) (v3 : Int) (v4 : Int) (v5 : gV) (w0 : Int) (H : ((w0 = 0 → gs_E L d 2561 58 [gp_r (some 48), gp_r v1, gp_i v2, gp_i v3, gp_i v4, gp_i w0] [] s K) ∧ (¬ w0 = 0 → ((v3 < 8 → gs_E L d 2561 2 [gp_r (some 48), gp_r v1, gp_i v2, gp_i (gp_wr (v3 + 1)), gp_i v4, gp_i w0] [] s K) ∧ (¬ v3 < 8 → gs_E L d 2561 58 [gp_r (some 48), gp_r v1, gp_i v2, gp_i v3, gp_i v4, gp_i w0] [] s K))))) : gs_E L d 2561 45 [gp_r (some 48), gp_r v1, gp_i v2, gp_i v3, gp_i v4, v5] [gp_i w0] s K := by
  refine gs_E.stp (pc' := 49) (ls' := [gp_r (some 48), gp_r v1, gp_i v2, gp_i v3, gp_i v4, gp_i w0]) (st' := [gp_i w0]) (s' := s) 2 rfl ?_
  refine gs_E.br (c := w0 = 0) (p1 := 58) (p2 := 52) (l1 := [gp_r (some 48), gp_r v1, gp_i v2, gp_i v3, gp_i v4, gp_i w0]) (l2 := [gp_r (some 48), gp_r v1, gp_i v2, gp_i v3, gp_i v4, gp_i w0]) (s1 := []) (s2 := []) rfl gs_b1 (fun hc => ?_) (fun hc => ?_)
  · replace H := H.1 hc
    exact H
  · replace H := H.2 hc
    refine gs_E.stp (pc' := 55) (ls' := [gp_r (some 48), gp_r v1, gp_i v2, gp_i v3, gp_i v4, gp_i w0]) (st' := [gp_i 8, gp_i v3]) (s' := s) 2 rfl ?_
    refine gs_E.br (c := v3 < 8) (p1 := 60) (p2 := 58) (l1 := [gp_r (some 48), gp_r v1, gp_i v2, gp_i v3, gp_i v4, gp_i w0]) (l2 := [gp_r (some 48), gp_r v1, gp_i v2, gp_i v3, gp_i v4, gp_i w0]) (s1 := []) (s2 := []) rfl gs_b1 (fun hc => ?_) (fun hc => ?_)
    · replace H := H.1 hc
      refine gs_E.stp (pc' := 2) (ls' := [gp_r (some 48), gp_r v1, gp_i v2, gp_i (gp_wr (v3 + 1)), gp_i v4, gp_i w0]) (st' := []) (s' := s) 2 rfl ?_
      exact H
    · replace H := H.2 hc
      exact H

set_option maxRecDepth 100000 in
/-- Walker.firstWrong, pc 58 -/
theorem s_2561_58 {L d : Nat} {K : Option gV → gH → Prop} {s : gH} (v1 : Option Nat) (v2 : Int) (v3 : Int) (v4 : Int) (v5 : Int) (H : K (some (gp_i v3)) s) : gs_E L d 2561 58 [gp_r (some 48), gp_r v1, gp_i v2, gp_i v3, gp_i v4, gp_i v5] [] s K := by
  refine gs_E.stp (pc' := 59) (ls' := [gp_r (some 48), gp_r v1, gp_i v2, gp_i v3, gp_i v4, gp_i v5]) (st' := [gp_i v3]) (s' := s) 1 rfl ?_
  exact gs_E.ret (r := (some (gp_i v3))) rfl H

set_option maxRecDepth 100000 in
/-- Walker.firstWrong, pc 75 -/
theorem s_2561_75 {L d : Nat} {K : Option gV → gH → Prop} {s : gH} (v1 : Option Nat) (v2 : Int) (v3 : Int) (v4 : gV) (v5 : gV) (w0 : Int) (H : K (some (gp_i w0)) s) : gs_E L d 2561 75 [gp_r (some 48), gp_r v1, gp_i v2, gp_i v3, v4, v5] [gp_i w0] s K := by
  exact gs_E.ret (r := (some (gp_i w0))) rfl H

set_option maxRecDepth 100000 in
/-- Walker.walk, pc 0 -/
theorem s_2562_e {L d : Nat} {K : Option gV → gH → Prop} {s : gH} (p0 : Option Nat) (p1 : Int) (H : (∀ s1, s1 = gp_wI s 48 2 p1 → gs_E L (d + 1) 2562 7 [gp_r (some 48), gp_r p0, gp_i p1, gp_i 0, gp_n] [] s1 K)) : gs_C L (d + 1) 2562 5 [gp_r (some 48), gp_r p0, gp_i p1] s K := by
  show gs_E L (d + 1) 2562 0 [gp_r (some 48), gp_r p0, gp_i p1, gp_n, gp_n] [] s K
  refine gs_E.stp (pc' := 5) (ls' := [gp_r (some 48), gp_r p0, gp_i p1, gp_n, gp_n]) (st' := []) (s' := gp_wI s 48 2 p1) 3 rfl ?_
  replace H := H _ rfl
  generalize gp_wI s 48 2 p1 = s1 at H ⊢
  refine gs_E.stp (pc' := 7) (ls' := [gp_r (some 48), gp_r p0, gp_i p1, gp_i 0, gp_n]) (st' := []) (s' := s1) 2 rfl ?_
  exact H

set_option maxRecDepth 100000 in
/-- Walker.walk, pc 7 -/
theorem s_2562_7 {L d : Nat} {K : Option gV → gH → Prop} {s : gH} (v1 : Option Nat) (v2 : Int) (v3 : Int) (v4 : gV) (H : ((v3 < v2 → (∃ q1, v1 = some q1 ∧ (gp_in (gp_mk L s) 102 q1 v3 ∧ (((gp_I s q1 v3.toNat) = 108 → gs_E L (d + 1) 2562 50 [gp_r (some 48), gp_r (some q1), gp_i v2, gp_i v3, gp_i (gp_I s q1 v3.toNat)] [gp_i (-1), gp_i v3, gp_r (some 49)] s K) ∧ (¬ (gp_I s q1 v3.toNat) = 108 → (((gp_I s q1 v3.toNat) = 114 → gs_E L (d + 1) 2562 50 [gp_r (some 48), gp_r (some q1), gp_i v2, gp_i v3, gp_i (gp_I s q1 v3.toNat)] [gp_i (-2), gp_i v3, gp_r (some 49)] s K) ∧ (¬ (gp_I s q1 v3.toNat) = 114 → gs_E L (d + 1) 2562 50 [gp_r (some 48), gp_r (some q1), gp_i v2, gp_i v3, gp_i (gp_I s q1 v3.toNat)] [gp_i (gp_wr ((gp_I s q1 v3.toNat) - 48)), gp_i v3, gp_r (some 49)] s K))))))) ∧ (¬ v3 < v2 → gs_E L (d + 1) 2562 59 [gp_r (some 48), gp_r v1, gp_i v2, gp_i 0, v4] [] s K))) : gs_E L (d + 1) 2562 7 [gp_r (some 48), gp_r v1, gp_i v2, gp_i v3, v4] [] s K := by
  refine gs_E.stp (pc' := 9) (ls' := [gp_r (some 48), gp_r v1, gp_i v2, gp_i v3, v4]) (st' := [gp_i v2, gp_i v3]) (s' := s) 2 rfl ?_
  refine gs_E.br (c := ¬ v3 < v2) (p1 := 57) (p2 := 12) (l1 := [gp_r (some 48), gp_r v1, gp_i v2, gp_i v3, v4]) (l2 := [gp_r (some 48), gp_r v1, gp_i v2, gp_i v3, v4]) (s1 := []) (s2 := []) rfl gs_b2 (fun hc => ?_) (fun hc => ?_)
  · replace H := H.2 hc
    refine gs_E.stp (pc' := 59) (ls' := [gp_r (some 48), gp_r v1, gp_i v2, gp_i 0, v4]) (st' := []) (s' := s) 2 rfl ?_
    exact H
  · replace H := H.1 (Decidable.byContradiction hc)
    refine gs_E.stp (pc' := 14) (ls' := [gp_r (some 48), gp_r v1, gp_i v2, gp_i v3, v4]) (st' := [gp_i v3, gp_r v1]) (s' := s) 2 rfl ?_
    obtain ⟨q1, hq, H⟩ := H
    rw [hq]
    refine gs_E.ck (pc' := 15) (ls' := [gp_r (some 48), gp_r (some q1), gp_i v2, gp_i v3, v4]) (st' := [gp_i (gp_I s q1 v3.toNat)]) (s' := s) rfl H.1 ?_
    replace H := H.2
    refine gs_E.stp (pc' := 26) (ls' := [gp_r (some 48), gp_r (some q1), gp_i v2, gp_i v3, gp_i (gp_I s q1 v3.toNat)]) (st' := [gp_i 108, gp_i (gp_I s q1 v3.toNat), gp_i v3, gp_r (some 49)]) (s' := s) 6 rfl ?_
    refine gs_E.br (c := ¬ (gp_I s q1 v3.toNat) = 108) (p1 := 33) (p2 := 29) (l1 := [gp_r (some 48), gp_r (some q1), gp_i v2, gp_i v3, gp_i (gp_I s q1 v3.toNat)]) (l2 := [gp_r (some 48), gp_r (some q1), gp_i v2, gp_i v3, gp_i (gp_I s q1 v3.toNat)]) (s1 := [gp_i v3, gp_r (some 49)]) (s2 := [gp_i v3, gp_r (some 49)]) rfl gs_b2 (fun hc => ?_) (fun hc => ?_)
    · replace H := H.2 hc
      refine gs_E.stp (pc' := 37) (ls' := [gp_r (some 48), gp_r (some q1), gp_i v2, gp_i v3, gp_i (gp_I s q1 v3.toNat)]) (st' := [gp_i 114, gp_i (gp_I s q1 v3.toNat), gp_i v3, gp_r (some 49)]) (s' := s) 2 rfl ?_
      refine gs_E.br (c := ¬ (gp_I s q1 v3.toNat) = 114) (p1 := 45) (p2 := 40) (l1 := [gp_r (some 48), gp_r (some q1), gp_i v2, gp_i v3, gp_i (gp_I s q1 v3.toNat)]) (l2 := [gp_r (some 48), gp_r (some q1), gp_i v2, gp_i v3, gp_i (gp_I s q1 v3.toNat)]) (s1 := [gp_i v3, gp_r (some 49)]) (s2 := [gp_i v3, gp_r (some 49)]) rfl gs_b2 (fun hc => ?_) (fun hc => ?_)
      · replace H := H.2 hc
        refine gs_E.stp (pc' := 50) (ls' := [gp_r (some 48), gp_r (some q1), gp_i v2, gp_i v3, gp_i (gp_I s q1 v3.toNat)]) (st' := [gp_i (gp_wr ((gp_I s q1 v3.toNat) - 48)), gp_i v3, gp_r (some 49)]) (s' := s) 3 rfl ?_
        exact H
      · replace H := H.1 (Decidable.byContradiction hc)
        refine gs_E.stp (pc' := 50) (ls' := [gp_r (some 48), gp_r (some q1), gp_i v2, gp_i v3, gp_i (gp_I s q1 v3.toNat)]) (st' := [gp_i (-2), gp_i v3, gp_r (some 49)]) (s' := s) 2 rfl ?_
        exact H
    · replace H := H.1 (Decidable.byContradiction hc)
      refine gs_E.stp (pc' := 50) (ls' := [gp_r (some 48), gp_r (some q1), gp_i v2, gp_i v3, gp_i (gp_I s q1 v3.toNat)]) (st' := [gp_i (-1), gp_i v3, gp_r (some 49)]) (s' := s) 2 rfl ?_
      exact H

set_option maxRecDepth 100000 in
/-- Walker.walk, pc 50 -/
theorem s_2562_50 {L d : Nat} {K : Option gV → gH → Prop} {s : gH} (v1 : Option Nat) (v2 : Int) (v3 : Int) (v4 : Int) (w1 : Int) (w2 : Int) (H : ((0 ≤ w1 ∧ w1 < 8) ∧ (∀ s1, s1 = gp_wI s 49 w1.toNat w2 → gs_E L (d + 1) 2562 7 [gp_r (some 48), gp_r v1, gp_i v2, gp_i (gp_wr (v3 + 1)), gp_i v4] [] s1 K))) : gs_E L (d + 1) 2562 50 [gp_r (some 48), gp_r v1, gp_i v2, gp_i v3, gp_i v4] [gp_i w2, gp_i w1, gp_r (some 49)] s K := by
  refine gs_E.ck (pc' := 51) (ls' := [gp_r (some 48), gp_r v1, gp_i v2, gp_i v3, gp_i v4]) (st' := []) (s' := gp_wI s 49 w1.toNat w2) rfl ⟨rfl, H.1.1, H.1.2⟩ ?_
  replace H := H.2 _ rfl
  generalize gp_wI s 49 w1.toNat w2 = s1 at H ⊢
  refine gs_E.stp (pc' := 7) (ls' := [gp_r (some 48), gp_r v1, gp_i v2, gp_i (gp_wr (v3 + 1)), gp_i v4]) (st' := []) (s' := s1) 2 rfl ?_
  exact H

set_option maxRecDepth 100000 in
/-- Walker.walk, pc 59 -/
theorem s_2562_59 {L d : Nat} {K : Option gV → gH → Prop} {s : gH} (v1 : Option Nat) (v2 : Int) (v3 : Int) (v4 : gV) (H : ((v3 < 256 → ((0 ≤ v3 ∧ v3 < 256) ∧ (∀ s6, s6 = gp_wI s 50 v3.toNat (-1) → gs_E L (d + 1) 2562 59 [gp_r (some 48), gp_r v1, gp_i v2, gp_i (gp_wr (v3 + 1)), v4] [] s6 K))) ∧ (¬ v3 < 256 → gs_C L d 1025 1 [gp_r (some 6)] s (fun r s1 => r = none ∧ gs_C L d 2563 12 [gp_r (some 48), gp_i 0, gp_i 0] s1 (fun r s2 => ∃ x3, r = some (gp_i x3) ∧ ((x3 < 0 → gs_E L (d + 1) 2562 111 [gp_r (some 48), gp_r v1, gp_i v2, gp_i x3, v4] [gp_r none] s2 K) ∧ (¬ x3 < 0 → gs_C L d 1032 8 [gp_r (some 6), gp_i x3] s2 (fun r s4 => ∃ o5, r = some (gp_r o5) ∧ gs_E L (d + 1) 2562 111 [gp_r (some 48), gp_r v1, gp_i v2, gp_i x3, v4] [gp_r o5] s4 K)))))))) : gs_E L (d + 1) 2562 59 [gp_r (some 48), gp_r v1, gp_i v2, gp_i v3, v4] [] s K := by
  refine gs_E.stp (pc' := 64) (ls' := [gp_r (some 48), gp_r v1, gp_i v2, gp_i v3, v4]) (st' := [gp_r (some 50), gp_i v3]) (s' := s) 3 rfl ?_
  refine gs_E.len (v := 256) rfl (by show 100 ≤ 100 ∧ 100 ≤ 105; omega) (by show ((256 : Nat) : Int) < 2147483648; omega) rfl ?_
  refine gs_E.br (c := ¬ v3 < 256) (p1 := 81) (p2 := 68) (l1 := [gp_r (some 48), gp_r v1, gp_i v2, gp_i v3, v4]) (l2 := [gp_r (some 48), gp_r v1, gp_i v2, gp_i v3, v4]) (s1 := []) (s2 := []) rfl gs_b2 (fun hc => ?_) (fun hc => ?_)
  · replace H := H.2 hc
    refine gs_E.stp (pc' := 85) (ls' := [gp_r (some 48), gp_r v1, gp_i v2, gp_i v3, v4]) (st' := [gp_r (some 6)]) (s' := s) 2 rfl ?_
    refine gs_E.call (args := [gp_r (some 6)]) (m := 1) (y' := 1025) (st' := []) rfl H (fun r s1 H => ?_)
    obtain ⟨rfl, H⟩ := H
    show gs_E L (d + 1) 2562 88 [gp_r (some 48), gp_r v1, gp_i v2, gp_i v3, v4] [] s1 K
    refine gs_E.stp (pc' := 91) (ls' := [gp_r (some 48), gp_r v1, gp_i v2, gp_i v3, v4]) (st' := [gp_i 0, gp_i 0, gp_r (some 48)]) (s' := s1) 3 rfl ?_
    refine gs_E.call (args := [gp_r (some 48), gp_i 0, gp_i 0]) (m := 12) (y' := 2563) (st' := []) rfl H (fun r s2 H => ?_)
    obtain ⟨x3, rfl, H⟩ := H
    show gs_E L (d + 1) 2562 94 [gp_r (some 48), gp_r v1, gp_i v2, gp_i v3, v4] [gp_i x3] s2 K
    refine gs_E.stp (pc' := 96) (ls' := [gp_r (some 48), gp_r v1, gp_i v2, gp_i x3, v4]) (st' := [gp_i x3]) (s' := s2) 2 rfl ?_
    refine gs_E.br (c := ¬ x3 < 0) (p1 := 103) (p2 := 99) (l1 := [gp_r (some 48), gp_r v1, gp_i v2, gp_i x3, v4]) (l2 := [gp_r (some 48), gp_r v1, gp_i v2, gp_i x3, v4]) (s1 := []) (s2 := []) rfl gs_b2 (fun hc => ?_) (fun hc => ?_)
    · replace H := H.2 hc
      refine gs_E.stp (pc' := 108) (ls' := [gp_r (some 48), gp_r v1, gp_i v2, gp_i x3, v4]) (st' := [gp_i x3, gp_r (some 6)]) (s' := s2) 3 rfl ?_
      refine gs_E.call (args := [gp_r (some 6), gp_i x3]) (m := 8) (y' := 1032) (st' := []) rfl H (fun r s4 H => ?_)
      obtain ⟨o5, rfl, H⟩ := H
      show gs_E L (d + 1) 2562 111 [gp_r (some 48), gp_r v1, gp_i v2, gp_i x3, v4] [gp_r o5] s4 K
      exact H
    · replace H := H.1 (Decidable.byContradiction hc)
      refine gs_E.stp (pc' := 111) (ls' := [gp_r (some 48), gp_r v1, gp_i v2, gp_i x3, v4]) (st' := [gp_r none]) (s' := s2) 2 rfl ?_
      exact H
  · replace H := H.1 (Decidable.byContradiction hc)
    refine gs_E.stp (pc' := 74) (ls' := [gp_r (some 48), gp_r v1, gp_i v2, gp_i v3, v4]) (st' := [gp_i (-1), gp_i v3, gp_r (some 50)]) (s' := s) 4 rfl ?_
    refine gs_E.ck (pc' := 75) (ls' := [gp_r (some 48), gp_r v1, gp_i v2, gp_i v3, v4]) (st' := []) (s' := gp_wI s 50 v3.toNat (-1)) rfl ⟨rfl, H.1.1, H.1.2⟩ ?_
    replace H := H.2 _ rfl
    generalize gp_wI s 50 v3.toNat (-1) = s6 at H ⊢
    refine gs_E.stp (pc' := 59) (ls' := [gp_r (some 48), gp_r v1, gp_i v2, gp_i (gp_wr (v3 + 1)), v4]) (st' := []) (s' := s6) 2 rfl ?_
    exact H

set_option maxRecDepth 100000 in
/-- Walker.walk, pc 111 -/
theorem s_2562_111 {L d : Nat} {K : Option gV → gH → Prop} {s : gH} (v1 : Option Nat) (v2 : Int) (v3 : Int) (v4 : gV) (w0 : Option Nat) (H : K (some (gp_r w0)) s) : gs_E L (d + 1) 2562 111 [gp_r (some 48), gp_r v1, gp_i v2, gp_i v3, v4] [gp_r w0] s K := by
  exact gs_E.ret (r := (some (gp_r w0))) rfl H

set_option maxRecDepth 100000 in
/-- Walker.stand, pc 0 -/
theorem s_2563_e {L d : Nat} {K : Option gV → gH → Prop} {s : gH} (p0 : Int) (p1 : Int) (H : gs_E L (d + 1) 2563 8 [gp_r (some 48), gp_i p0, gp_i p1, gp_i 0, gp_i 0, gp_i 0, gp_n, gp_n, gp_n, gp_n, gp_n, gp_n] [] s K) : gs_C L (d + 1) 2563 12 [gp_r (some 48), gp_i p0, gp_i p1] s K := by
  show gs_E L (d + 1) 2563 0 [gp_r (some 48), gp_i p0, gp_i p1, gp_n, gp_n, gp_n, gp_n, gp_n, gp_n, gp_n, gp_n, gp_n] [] s K
  refine gs_E.stp (pc' := 8) (ls' := [gp_r (some 48), gp_i p0, gp_i p1, gp_i 0, gp_i 0, gp_i 0, gp_n, gp_n, gp_n, gp_n, gp_n, gp_n]) (st' := []) (s' := s) 6 rfl ?_
  exact H

set_option maxRecDepth 100000 in
/-- Walker.stand, pc 8 -/
theorem s_2563_8 {L d : Nat} {K : Option gV → gH → Prop} {s : gH} (v1 : Int) (v2 : Int) (v3 : Int) (v4 : Int) (v5 : Int) (v6 : gV) (v7 : gV) (v8 : gV) (v9 : gV) (v10 : gV) (v11 : gV) (H : ((v5 < (gp_I s 48 2) → ((0 ≤ v5 ∧ v5 < 8) ∧ (((gp_I s 49 v5.toNat) < 0 → gs_E L (d + 1) 2563 49 [gp_r (some 48), gp_i v1, gp_i v2, gp_i (gp_or v3 (gp_shl 1 v5)), gp_i v4, gp_i v5, v6, v7, v8, v9, v10, v11] [] s K) ∧ (¬ (gp_I s 49 v5.toNat) < 0 → ((0 ≤ v5 ∧ v5 < 8) ∧ gs_E L (d + 1) 2563 49 [gp_r (some 48), gp_i v1, gp_i v2, gp_i v3, gp_i (gp_wr (v4 + (gp_I s 49 v5.toNat))), gp_i v5, v6, v7, v8, v9, v10, v11] [] s K))))) ∧ (¬ v5 < (gp_I s 48 2) → ((0 ≤ v3 ∧ v3 < 256) ∧ (((gp_I s 50 v3.toNat) < 0 → ((20 < v2 → gs_E L (d + 1) 2563 70 [gp_r (some 48), gp_i v1, gp_i v2, gp_i v3, gp_i v4, gp_i v5, v6, v7, v8, v9, v10, v11] [] s K) ∧ (¬ 20 < v2 → gs_E L (d + 1) 2563 86 [gp_r (some 48), gp_i v1, gp_i v2, gp_i v3, gp_i v4, gp_l (0#64), gp_n, gp_l (0#64), gp_n, gp_i 0, v10, v11] [] s K))) ∧ (¬ (gp_I s 50 v3.toNat) < 0 → gs_E L (d + 1) 2563 70 [gp_r (some 48), gp_i v1, gp_i v2, gp_i v3, gp_i v4, gp_i v5, v6, v7, v8, v9, v10, v11] [] s K)))))) : gs_E L (d + 1) 2563 8 [gp_r (some 48), gp_i v1, gp_i v2, gp_i v3, gp_i v4, gp_i v5, v6, v7, v8, v9, v10, v11] [] s K := by
  refine gs_E.stp (pc' := 14) (ls' := [gp_r (some 48), gp_i v1, gp_i v2, gp_i v3, gp_i v4, gp_i v5, v6, v7, v8, v9, v10, v11]) (st' := [gp_i (gp_I s 48 2), gp_i v5]) (s' := s) 3 rfl ?_
  refine gs_E.br (c := ¬ v5 < (gp_I s 48 2)) (p1 := 55) (p2 := 17) (l1 := [gp_r (some 48), gp_i v1, gp_i v2, gp_i v3, gp_i v4, gp_i v5, v6, v7, v8, v9, v10, v11]) (l2 := [gp_r (some 48), gp_i v1, gp_i v2, gp_i v3, gp_i v4, gp_i v5, v6, v7, v8, v9, v10, v11]) (s1 := []) (s2 := []) rfl gs_b2 (fun hc => ?_) (fun hc => ?_)
  · replace H := H.2 hc
    refine gs_E.stp (pc' := 60) (ls' := [gp_r (some 48), gp_i v1, gp_i v2, gp_i v3, gp_i v4, gp_i v5, v6, v7, v8, v9, v10, v11]) (st' := [gp_i v3, gp_r (some 50)]) (s' := s) 3 rfl ?_
    refine gs_E.ck (pc' := 61) (ls' := [gp_r (some 48), gp_i v1, gp_i v2, gp_i v3, gp_i v4, gp_i v5, v6, v7, v8, v9, v10, v11]) (st' := [gp_i (gp_I s 50 v3.toNat)]) (s' := s) rfl (Or.inl ⟨rfl, H.1.1, H.1.2⟩) ?_
    replace H := H.2
    refine gs_E.br (c := ¬ (gp_I s 50 v3.toNat) < 0) (p1 := 70) (p2 := 64) (l1 := [gp_r (some 48), gp_i v1, gp_i v2, gp_i v3, gp_i v4, gp_i v5, v6, v7, v8, v9, v10, v11]) (l2 := [gp_r (some 48), gp_i v1, gp_i v2, gp_i v3, gp_i v4, gp_i v5, v6, v7, v8, v9, v10, v11]) (s1 := []) (s2 := []) rfl gs_b2 (fun hc => ?_) (fun hc => ?_)
    · replace H := H.2 hc
      exact H
    · replace H := H.1 (Decidable.byContradiction hc)
      refine gs_E.stp (pc' := 67) (ls' := [gp_r (some 48), gp_i v1, gp_i v2, gp_i v3, gp_i v4, gp_i v5, v6, v7, v8, v9, v10, v11]) (st' := [gp_i 20, gp_i v2]) (s' := s) 2 rfl ?_
      refine gs_E.br (c := ¬ 20 < v2) (p1 := 77) (p2 := 70) (l1 := [gp_r (some 48), gp_i v1, gp_i v2, gp_i v3, gp_i v4, gp_i v5, v6, v7, v8, v9, v10, v11]) (l2 := [gp_r (some 48), gp_i v1, gp_i v2, gp_i v3, gp_i v4, gp_i v5, v6, v7, v8, v9, v10, v11]) (s1 := []) (s2 := []) rfl gs_b2 (fun hc => ?_) (fun hc => ?_)
      · replace H := H.2 hc
        refine gs_E.stp (pc' := 86) (ls' := [gp_r (some 48), gp_i v1, gp_i v2, gp_i v3, gp_i v4, gp_l (0#64), gp_n, gp_l (0#64), gp_n, gp_i 0, v10, v11]) (st' := []) (s' := s) 6 rfl ?_
        exact H
      · replace H := H.1 (Decidable.byContradiction hc)
        exact H
  · replace H := H.1 (Decidable.byContradiction hc)
    refine gs_E.stp (pc' := 23) (ls' := [gp_r (some 48), gp_i v1, gp_i v2, gp_i v3, gp_i v4, gp_i v5, v6, v7, v8, v9, v10, v11]) (st' := [gp_i v5, gp_r (some 49)]) (s' := s) 3 rfl ?_
    refine gs_E.ck (pc' := 24) (ls' := [gp_r (some 48), gp_i v1, gp_i v2, gp_i v3, gp_i v4, gp_i v5, v6, v7, v8, v9, v10, v11]) (st' := [gp_i (gp_I s 49 v5.toNat)]) (s' := s) rfl (Or.inl ⟨rfl, H.1.1, H.1.2⟩) ?_
    replace H := H.2
    refine gs_E.br (c := ¬ (gp_I s 49 v5.toNat) < 0) (p1 := 37) (p2 := 27) (l1 := [gp_r (some 48), gp_i v1, gp_i v2, gp_i v3, gp_i v4, gp_i v5, v6, v7, v8, v9, v10, v11]) (l2 := [gp_r (some 48), gp_i v1, gp_i v2, gp_i v3, gp_i v4, gp_i v5, v6, v7, v8, v9, v10, v11]) (s1 := []) (s2 := []) rfl gs_b2 (fun hc => ?_) (fun hc => ?_)
    · replace H := H.2 hc
      refine gs_E.stp (pc' := 45) (ls' := [gp_r (some 48), gp_i v1, gp_i v2, gp_i v3, gp_i v4, gp_i v5, v6, v7, v8, v9, v10, v11]) (st' := [gp_i v5, gp_r (some 49), gp_i v4]) (s' := s) 4 rfl ?_
      refine gs_E.ck (pc' := 46) (ls' := [gp_r (some 48), gp_i v1, gp_i v2, gp_i v3, gp_i v4, gp_i v5, v6, v7, v8, v9, v10, v11]) (st' := [gp_i (gp_I s 49 v5.toNat), gp_i v4]) (s' := s) rfl (Or.inl ⟨rfl, H.1.1, H.1.2⟩) ?_
      replace H := H.2
      refine gs_E.stp (pc' := 49) (ls' := [gp_r (some 48), gp_i v1, gp_i v2, gp_i v3, gp_i (gp_wr (v4 + (gp_I s 49 v5.toNat))), gp_i v5, v6, v7, v8, v9, v10, v11]) (st' := []) (s' := s) 2 rfl ?_
      exact H
    · replace H := H.1 (Decidable.byContradiction hc)
      refine gs_E.stp (pc' := 49) (ls' := [gp_r (some 48), gp_i v1, gp_i v2, gp_i (gp_or v3 (gp_shl 1 v5)), gp_i v4, gp_i v5, v6, v7, v8, v9, v10, v11]) (st' := []) (s' := s) 7 rfl ?_
      exact H

set_option maxRecDepth 100000 in
/-- Walker.stand, pc 49 -/
theorem s_2563_49 {L d : Nat} {K : Option gV → gH → Prop} {s : gH} (v1 : Int) (v2 : Int) (v3 : Int) (v4 : Int) (v5 : Int) (v6 : gV) (v7 : gV) (v8 : gV) (v9 : gV) (v10 : gV) (v11 : gV) (H : gs_E L (d + 1) 2563 8 [gp_r (some 48), gp_i v1, gp_i v2, gp_i v3, gp_i v4, gp_i (gp_wr (v5 + 1)), v6, v7, v8, v9, v10, v11] [] s K) : gs_E L (d + 1) 2563 49 [gp_r (some 48), gp_i v1, gp_i v2, gp_i v3, gp_i v4, gp_i v5, v6, v7, v8, v9, v10, v11] [] s K := by
  refine gs_E.stp (pc' := 8) (ls' := [gp_r (some 48), gp_i v1, gp_i v2, gp_i v3, gp_i v4, gp_i (gp_wr (v5 + 1)), v6, v7, v8, v9, v10, v11]) (st' := []) (s' := s) 2 rfl ?_
  exact H

set_option maxRecDepth 100000 in
/-- Walker.stand, pc 70 -/
theorem s_2563_70 {L d : Nat} {K : Option gV → gH → Prop} {s : gH} (v1 : Int) (v2 : Int) (v3 : Int) (v4 : Int) (v5 : Int) (v6 : gV) (v7 : gV) (v8 : gV) (v9 : gV) (v10 : gV) (v11 : gV) (H : ((0 ≤ v3 ∧ v3 < 256) ∧ K (some (gp_i (gp_I s 50 v3.toNat))) s)) : gs_E L (d + 1) 2563 70 [gp_r (some 48), gp_i v1, gp_i v2, gp_i v3, gp_i v4, gp_i v5, v6, v7, v8, v9, v10, v11] [] s K := by
  refine gs_E.stp (pc' := 75) (ls' := [gp_r (some 48), gp_i v1, gp_i v2, gp_i v3, gp_i v4, gp_i v5, v6, v7, v8, v9, v10, v11]) (st' := [gp_i v3, gp_r (some 50)]) (s' := s) 3 rfl ?_
  refine gs_E.ck (pc' := 76) (ls' := [gp_r (some 48), gp_i v1, gp_i v2, gp_i v3, gp_i v4, gp_i v5, v6, v7, v8, v9, v10, v11]) (st' := [gp_i (gp_I s 50 v3.toNat)]) (s' := s) rfl (Or.inl ⟨rfl, H.1.1, H.1.2⟩) ?_
  replace H := H.2
  exact gs_E.ret (r := (some (gp_i (gp_I s 50 v3.toNat)))) rfl H

set_option maxRecDepth 100000 in
/-- Walker.stand, pc 86 -/
theorem s_2563_86 {L d : Nat} {K : Option gV → gH → Prop} {s : gH} (v1 : Int) (v2 : Int) (v3 : Int) (v4 : Int) (v5 : BitVec 64) (v7 : BitVec 64) (v9 : Int) (v10 : gV) (v11 : gV) (H : ((v9 < (gp_I s 48 2) → ((0 ≤ v9 ∧ v9 < 8) ∧ (((gp_I s 49 v9.toNat) = (-1) → gs_E L (d + 1) 2563 133 [gp_r (some 48), gp_i v1, gp_i v2, gp_i v3, gp_i v4, gp_l v5, gp_n, gp_l v7, gp_n, gp_i v9, v10, v11] [gp_i (gp_wr (v9 + 1))] s K) ∧ (¬ (gp_I s 49 v9.toNat) = (-1) → ((0 ≤ v9 ∧ v9 < 8) ∧ (((gp_I s 49 v9.toNat) = (-2) → gs_E L (d + 1) 2563 133 [gp_r (some 48), gp_i v1, gp_i v2, gp_i v3, gp_i v4, gp_l v5, gp_n, gp_l v7, gp_n, gp_i v9, v10, v11] [gp_i (gp_wr (v9 - 1))] s K) ∧ (¬ (gp_I s 49 v9.toNat) = (-2) → gs_E L (d + 1) 2563 133 [gp_r (some 48), gp_i v1, gp_i v2, gp_i v3, gp_i v4, gp_l v5, gp_n, gp_l v7, gp_n, gp_i v9, v10, v11] [gp_i (-1)] s K))))))) ∧ (¬ v9 < (gp_I s 48 2) → gs_C L d 1028 7 [gp_r (some 6), gp_l v5, gp_l v7, gp_i (gp_wr (v1 - v4)), gp_i (gp_wr (v1 + v4))] s (fun r s1 => ∃ x2, r = some (gp_i x2) ∧ ((0 ≤ v3 ∧ v3 < 256) ∧ (∀ s3, s3 = gp_wI s1 50 v3.toNat x2 → ((0 ≤ v3 ∧ v3 < 256) ∧ K (some (gp_i (gp_I s3 50 v3.toNat))) s3))))))) : gs_E L (d + 1) 2563 86 [gp_r (some 48), gp_i v1, gp_i v2, gp_i v3, gp_i v4, gp_l v5, gp_n, gp_l v7, gp_n, gp_i v9, v10, v11] [] s K := by
  refine gs_E.stp (pc' := 92) (ls' := [gp_r (some 48), gp_i v1, gp_i v2, gp_i v3, gp_i v4, gp_l v5, gp_n, gp_l v7, gp_n, gp_i v9, v10, v11]) (st' := [gp_i (gp_I s 48 2), gp_i v9]) (s' := s) 3 rfl ?_
  refine gs_E.br (c := ¬ v9 < (gp_I s 48 2)) (p1 := 233) (p2 := 95) (l1 := [gp_r (some 48), gp_i v1, gp_i v2, gp_i v3, gp_i v4, gp_l v5, gp_n, gp_l v7, gp_n, gp_i v9, v10, v11]) (l2 := [gp_r (some 48), gp_i v1, gp_i v2, gp_i v3, gp_i v4, gp_l v5, gp_n, gp_l v7, gp_n, gp_i v9, v10, v11]) (s1 := []) (s2 := []) rfl gs_b2 (fun hc => ?_) (fun hc => ?_)
  · replace H := H.2 hc
    refine gs_E.stp (pc' := 254) (ls' := [gp_r (some 48), gp_i v1, gp_i v2, gp_i v3, gp_i v4, gp_l v5, gp_n, gp_l v7, gp_n, gp_i v9, v10, v11]) (st' := [gp_i (gp_wr (v1 + v4)), gp_i (gp_wr (v1 - v4)), gp_l v7, gp_l v5, gp_r (some 6), gp_i v3, gp_r (some 50)]) (s' := s) 13 rfl ?_
    refine gs_E.call (args := [gp_r (some 6), gp_l v5, gp_l v7, gp_i (gp_wr (v1 - v4)), gp_i (gp_wr (v1 + v4))]) (m := 7) (y' := 1028) (st' := [gp_i v3, gp_r (some 50)]) rfl H (fun r s1 H => ?_)
    obtain ⟨x2, rfl, H⟩ := H
    show gs_E L (d + 1) 2563 257 [gp_r (some 48), gp_i v1, gp_i v2, gp_i v3, gp_i v4, gp_l v5, gp_n, gp_l v7, gp_n, gp_i v9, v10, v11] [gp_i x2, gp_i v3, gp_r (some 50)] s1 K
    refine gs_E.ck (pc' := 258) (ls' := [gp_r (some 48), gp_i v1, gp_i v2, gp_i v3, gp_i v4, gp_l v5, gp_n, gp_l v7, gp_n, gp_i v9, v10, v11]) (st' := []) (s' := gp_wI s1 50 v3.toNat x2) rfl ⟨rfl, H.1.1, H.1.2⟩ ?_
    replace H := H.2 _ rfl
    generalize gp_wI s1 50 v3.toNat x2 = s3 at H ⊢
    refine gs_E.stp (pc' := 263) (ls' := [gp_r (some 48), gp_i v1, gp_i v2, gp_i v3, gp_i v4, gp_l v5, gp_n, gp_l v7, gp_n, gp_i v9, v10, v11]) (st' := [gp_i v3, gp_r (some 50)]) (s' := s3) 3 rfl ?_
    refine gs_E.ck (pc' := 264) (ls' := [gp_r (some 48), gp_i v1, gp_i v2, gp_i v3, gp_i v4, gp_l v5, gp_n, gp_l v7, gp_n, gp_i v9, v10, v11]) (st' := [gp_i (gp_I s3 50 v3.toNat)]) (s' := s3) rfl (Or.inl ⟨rfl, H.1.1, H.1.2⟩) ?_
    replace H := H.2
    exact gs_E.ret (r := (some (gp_i (gp_I s3 50 v3.toNat)))) rfl H
  · replace H := H.1 (Decidable.byContradiction hc)
    refine gs_E.stp (pc' := 101) (ls' := [gp_r (some 48), gp_i v1, gp_i v2, gp_i v3, gp_i v4, gp_l v5, gp_n, gp_l v7, gp_n, gp_i v9, v10, v11]) (st' := [gp_i v9, gp_r (some 49)]) (s' := s) 3 rfl ?_
    refine gs_E.ck (pc' := 102) (ls' := [gp_r (some 48), gp_i v1, gp_i v2, gp_i v3, gp_i v4, gp_l v5, gp_n, gp_l v7, gp_n, gp_i v9, v10, v11]) (st' := [gp_i (gp_I s 49 v9.toNat)]) (s' := s) rfl (Or.inl ⟨rfl, H.1.1, H.1.2⟩) ?_
    replace H := H.2
    refine gs_E.stp (pc' := 103) (ls' := [gp_r (some 48), gp_i v1, gp_i v2, gp_i v3, gp_i v4, gp_l v5, gp_n, gp_l v7, gp_n, gp_i v9, v10, v11]) (st' := [gp_i (-1), gp_i (gp_I s 49 v9.toNat)]) (s' := s) 1 rfl ?_
    refine gs_E.br (c := ¬ (gp_I s 49 v9.toNat) = (-1)) (p1 := 113) (p2 := 106) (l1 := [gp_r (some 48), gp_i v1, gp_i v2, gp_i v3, gp_i v4, gp_l v5, gp_n, gp_l v7, gp_n, gp_i v9, v10, v11]) (l2 := [gp_r (some 48), gp_i v1, gp_i v2, gp_i v3, gp_i v4, gp_l v5, gp_n, gp_l v7, gp_n, gp_i v9, v10, v11]) (s1 := []) (s2 := []) rfl gs_b2 (fun hc => ?_) (fun hc => ?_)
    · replace H := H.2 hc
      refine gs_E.stp (pc' := 119) (ls' := [gp_r (some 48), gp_i v1, gp_i v2, gp_i v3, gp_i v4, gp_l v5, gp_n, gp_l v7, gp_n, gp_i v9, v10, v11]) (st' := [gp_i v9, gp_r (some 49)]) (s' := s) 3 rfl ?_
      refine gs_E.ck (pc' := 120) (ls' := [gp_r (some 48), gp_i v1, gp_i v2, gp_i v3, gp_i v4, gp_l v5, gp_n, gp_l v7, gp_n, gp_i v9, v10, v11]) (st' := [gp_i (gp_I s 49 v9.toNat)]) (s' := s) rfl (Or.inl ⟨rfl, H.1.1, H.1.2⟩) ?_
      replace H := H.2
      refine gs_E.stp (pc' := 122) (ls' := [gp_r (some 48), gp_i v1, gp_i v2, gp_i v3, gp_i v4, gp_l v5, gp_n, gp_l v7, gp_n, gp_i v9, v10, v11]) (st' := [gp_i (-2), gp_i (gp_I s 49 v9.toNat)]) (s' := s) 1 rfl ?_
      refine gs_E.br (c := ¬ (gp_I s 49 v9.toNat) = (-2)) (p1 := 132) (p2 := 125) (l1 := [gp_r (some 48), gp_i v1, gp_i v2, gp_i v3, gp_i v4, gp_l v5, gp_n, gp_l v7, gp_n, gp_i v9, v10, v11]) (l2 := [gp_r (some 48), gp_i v1, gp_i v2, gp_i v3, gp_i v4, gp_l v5, gp_n, gp_l v7, gp_n, gp_i v9, v10, v11]) (s1 := []) (s2 := []) rfl gs_b2 (fun hc => ?_) (fun hc => ?_)
      · replace H := H.2 hc
        refine gs_E.stp (pc' := 133) (ls' := [gp_r (some 48), gp_i v1, gp_i v2, gp_i v3, gp_i v4, gp_l v5, gp_n, gp_l v7, gp_n, gp_i v9, v10, v11]) (st' := [gp_i (-1)]) (s' := s) 1 rfl ?_
        exact H
      · replace H := H.1 (Decidable.byContradiction hc)
        refine gs_E.stp (pc' := 133) (ls' := [gp_r (some 48), gp_i v1, gp_i v2, gp_i v3, gp_i v4, gp_l v5, gp_n, gp_l v7, gp_n, gp_i v9, v10, v11]) (st' := [gp_i (gp_wr (v9 - 1))]) (s' := s) 4 rfl ?_
        exact H
    · replace H := H.1 (Decidable.byContradiction hc)
      refine gs_E.stp (pc' := 133) (ls' := [gp_r (some 48), gp_i v1, gp_i v2, gp_i v3, gp_i v4, gp_l v5, gp_n, gp_l v7, gp_n, gp_i v9, v10, v11]) (st' := [gp_i (gp_wr (v9 + 1))]) (s' := s) 4 rfl ?_
      exact H

set_option maxRecDepth 100000 in
/-- Walker.stand, pc 133 -/
theorem s_2563_133 {L d : Nat} {K : Option gV → gH → Prop} {s : gH} (v1 : Int) (v2 : Int) (v3 : Int) (v4 : Int) (v5 : BitVec 64) (v7 : BitVec 64) (v9 : Int) (v10 : gV) (v11 : gV) (w0 : Int) (H : ((w0 < 0 → gs_E L (d + 1) 2563 227 [gp_r (some 48), gp_i v1, gp_i v2, gp_i v3, gp_i v4, gp_l v5, gp_n, gp_l v7, gp_n, gp_i v9, gp_i w0, v11] [] s K) ∧ (¬ w0 < 0 → ((w0 < (gp_I s 48 2) → ((0 ≤ w0 ∧ w0 < 8) ∧ (((gp_I s 49 w0.toNat) < 0 → gs_E L (d + 1) 2563 227 [gp_r (some 48), gp_i v1, gp_i v2, gp_i v3, gp_i v4, gp_l v5, gp_n, gp_l v7, gp_n, gp_i v9, gp_i w0, v11] [] s K) ∧ (¬ (gp_I s 49 w0.toNat) < 0 → gs_C L d 2564 8 [gp_r (some 48), gp_i v9, gp_i w0, gp_i v1, gp_i v2] s (fun r s1 => ∃ x2, r = some (gp_i x2) ∧ ((x2 < 0 → K (some (gp_i (-1))) s1) ∧ (¬ x2 < 0 → ((0 ≤ v9 ∧ v9 < 8) ∧ (((gp_I s1 49 v9.toNat) = (-1) → gs_E L (d + 1) 2563 199 [gp_r (some 48), gp_i v1, gp_i v2, gp_i v3, gp_i v4, gp_l v5, gp_n, gp_l v7, gp_n, gp_i v9, gp_i w0, gp_i x2] [gp_l ((1#64) <<< (x2 % 64).toNat), gp_l v5] s1 K) ∧ (¬ (gp_I s1 49 v9.toNat) = (-1) → gs_E L (d + 1) 2563 199 [gp_r (some 48), gp_i v1, gp_i v2, gp_i v3, gp_i v4, gp_l v5, gp_n, gp_l v7, gp_n, gp_i v9, gp_i w0, gp_i x2] [gp_l (0#64), gp_l v5] s1 K)))))))))) ∧ (¬ w0 < (gp_I s 48 2) → gs_E L (d + 1) 2563 227 [gp_r (some 48), gp_i v1, gp_i v2, gp_i v3, gp_i v4, gp_l v5, gp_n, gp_l v7, gp_n, gp_i v9, gp_i w0, v11] [] s K))))) : gs_E L (d + 1) 2563 133 [gp_r (some 48), gp_i v1, gp_i v2, gp_i v3, gp_i v4, gp_l v5, gp_n, gp_l v7, gp_n, gp_i v9, v10, v11] [gp_i w0] s K := by
  refine gs_E.stp (pc' := 137) (ls' := [gp_r (some 48), gp_i v1, gp_i v2, gp_i v3, gp_i v4, gp_l v5, gp_n, gp_l v7, gp_n, gp_i v9, gp_i w0, v11]) (st' := [gp_i w0]) (s' := s) 2 rfl ?_
  refine gs_E.br (c := w0 < 0) (p1 := 227) (p2 := 140) (l1 := [gp_r (some 48), gp_i v1, gp_i v2, gp_i v3, gp_i v4, gp_l v5, gp_n, gp_l v7, gp_n, gp_i v9, gp_i w0, v11]) (l2 := [gp_r (some 48), gp_i v1, gp_i v2, gp_i v3, gp_i v4, gp_l v5, gp_n, gp_l v7, gp_n, gp_i v9, gp_i w0, v11]) (s1 := []) (s2 := []) rfl gs_b1 (fun hc => ?_) (fun hc => ?_)
  · replace H := H.1 hc
    exact H
  · replace H := H.2 hc
    refine gs_E.stp (pc' := 146) (ls' := [gp_r (some 48), gp_i v1, gp_i v2, gp_i v3, gp_i v4, gp_l v5, gp_n, gp_l v7, gp_n, gp_i v9, gp_i w0, v11]) (st' := [gp_i (gp_I s 48 2), gp_i w0]) (s' := s) 3 rfl ?_
    refine gs_E.br (c := ¬ w0 < (gp_I s 48 2)) (p1 := 227) (p2 := 149) (l1 := [gp_r (some 48), gp_i v1, gp_i v2, gp_i v3, gp_i v4, gp_l v5, gp_n, gp_l v7, gp_n, gp_i v9, gp_i w0, v11]) (l2 := [gp_r (some 48), gp_i v1, gp_i v2, gp_i v3, gp_i v4, gp_l v5, gp_n, gp_l v7, gp_n, gp_i v9, gp_i w0, v11]) (s1 := []) (s2 := []) rfl gs_b2 (fun hc => ?_) (fun hc => ?_)
    · replace H := H.2 hc
      exact H
    · replace H := H.1 (Decidable.byContradiction hc)
      refine gs_E.stp (pc' := 155) (ls' := [gp_r (some 48), gp_i v1, gp_i v2, gp_i v3, gp_i v4, gp_l v5, gp_n, gp_l v7, gp_n, gp_i v9, gp_i w0, v11]) (st' := [gp_i w0, gp_r (some 49)]) (s' := s) 3 rfl ?_
      refine gs_E.ck (pc' := 156) (ls' := [gp_r (some 48), gp_i v1, gp_i v2, gp_i v3, gp_i v4, gp_l v5, gp_n, gp_l v7, gp_n, gp_i v9, gp_i w0, v11]) (st' := [gp_i (gp_I s 49 w0.toNat)]) (s' := s) rfl (Or.inl ⟨rfl, H.1.1, H.1.2⟩) ?_
      replace H := H.2
      refine gs_E.br (c := (gp_I s 49 w0.toNat) < 0) (p1 := 227) (p2 := 159) (l1 := [gp_r (some 48), gp_i v1, gp_i v2, gp_i v3, gp_i v4, gp_l v5, gp_n, gp_l v7, gp_n, gp_i v9, gp_i w0, v11]) (l2 := [gp_r (some 48), gp_i v1, gp_i v2, gp_i v3, gp_i v4, gp_l v5, gp_n, gp_l v7, gp_n, gp_i v9, gp_i w0, v11]) (s1 := []) (s2 := []) rfl gs_b1 (fun hc => ?_) (fun hc => ?_)
      · replace H := H.1 hc
        exact H
      · replace H := H.2 hc
        refine gs_E.stp (pc' := 166) (ls' := [gp_r (some 48), gp_i v1, gp_i v2, gp_i v3, gp_i v4, gp_l v5, gp_n, gp_l v7, gp_n, gp_i v9, gp_i w0, v11]) (st' := [gp_i v2, gp_i v1, gp_i w0, gp_i v9, gp_r (some 48)]) (s' := s) 5 rfl ?_
        refine gs_E.call (args := [gp_r (some 48), gp_i v9, gp_i w0, gp_i v1, gp_i v2]) (m := 8) (y' := 2564) (st' := []) rfl H (fun r s1 H => ?_)
        obtain ⟨x2, rfl, H⟩ := H
        show gs_E L (d + 1) 2563 169 [gp_r (some 48), gp_i v1, gp_i v2, gp_i v3, gp_i v4, gp_l v5, gp_n, gp_l v7, gp_n, gp_i v9, gp_i w0, v11] [gp_i x2] s1 K
        refine gs_E.stp (pc' := 173) (ls' := [gp_r (some 48), gp_i v1, gp_i v2, gp_i v3, gp_i v4, gp_l v5, gp_n, gp_l v7, gp_n, gp_i v9, gp_i w0, gp_i x2]) (st' := [gp_i x2]) (s' := s1) 2 rfl ?_
        refine gs_E.br (c := ¬ x2 < 0) (p1 := 178) (p2 := 176) (l1 := [gp_r (some 48), gp_i v1, gp_i v2, gp_i v3, gp_i v4, gp_l v5, gp_n, gp_l v7, gp_n, gp_i v9, gp_i w0, gp_i x2]) (l2 := [gp_r (some 48), gp_i v1, gp_i v2, gp_i v3, gp_i v4, gp_l v5, gp_n, gp_l v7, gp_n, gp_i v9, gp_i w0, gp_i x2]) (s1 := []) (s2 := []) rfl gs_b2 (fun hc => ?_) (fun hc => ?_)
        · replace H := H.2 hc
          refine gs_E.stp (pc' := 186) (ls' := [gp_r (some 48), gp_i v1, gp_i v2, gp_i v3, gp_i v4, gp_l v5, gp_n, gp_l v7, gp_n, gp_i v9, gp_i w0, gp_i x2]) (st' := [gp_i v9, gp_r (some 49), gp_l v5]) (s' := s1) 4 rfl ?_
          refine gs_E.ck (pc' := 187) (ls' := [gp_r (some 48), gp_i v1, gp_i v2, gp_i v3, gp_i v4, gp_l v5, gp_n, gp_l v7, gp_n, gp_i v9, gp_i w0, gp_i x2]) (st' := [gp_i (gp_I s1 49 v9.toNat), gp_l v5]) (s' := s1) rfl (Or.inl ⟨rfl, H.1.1, H.1.2⟩) ?_
          replace H := H.2
          refine gs_E.stp (pc' := 188) (ls' := [gp_r (some 48), gp_i v1, gp_i v2, gp_i v3, gp_i v4, gp_l v5, gp_n, gp_l v7, gp_n, gp_i v9, gp_i w0, gp_i x2]) (st' := [gp_i (-1), gp_i (gp_I s1 49 v9.toNat), gp_l v5]) (s' := s1) 1 rfl ?_
          refine gs_E.br (c := ¬ (gp_I s1 49 v9.toNat) = (-1)) (p1 := 198) (p2 := 191) (l1 := [gp_r (some 48), gp_i v1, gp_i v2, gp_i v3, gp_i v4, gp_l v5, gp_n, gp_l v7, gp_n, gp_i v9, gp_i w0, gp_i x2]) (l2 := [gp_r (some 48), gp_i v1, gp_i v2, gp_i v3, gp_i v4, gp_l v5, gp_n, gp_l v7, gp_n, gp_i v9, gp_i w0, gp_i x2]) (s1 := [gp_l v5]) (s2 := [gp_l v5]) rfl gs_b2 (fun hc => ?_) (fun hc => ?_)
          · replace H := H.2 hc
            refine gs_E.stp (pc' := 199) (ls' := [gp_r (some 48), gp_i v1, gp_i v2, gp_i v3, gp_i v4, gp_l v5, gp_n, gp_l v7, gp_n, gp_i v9, gp_i w0, gp_i x2]) (st' := [gp_l (0#64), gp_l v5]) (s' := s1) 1 rfl ?_
            exact H
          · replace H := H.1 (Decidable.byContradiction hc)
            refine gs_E.stp (pc' := 199) (ls' := [gp_r (some 48), gp_i v1, gp_i v2, gp_i v3, gp_i v4, gp_l v5, gp_n, gp_l v7, gp_n, gp_i v9, gp_i w0, gp_i x2]) (st' := [gp_l ((1#64) <<< (x2 % 64).toNat), gp_l v5]) (s' := s1) 4 rfl ?_
            exact H
        · replace H := H.1 (Decidable.byContradiction hc)
          refine gs_E.stp (pc' := 177) (ls' := [gp_r (some 48), gp_i v1, gp_i v2, gp_i v3, gp_i v4, gp_l v5, gp_n, gp_l v7, gp_n, gp_i v9, gp_i w0, gp_i x2]) (st' := [gp_i (-1)]) (s' := s1) 1 rfl ?_
          exact gs_E.ret (r := (some (gp_i (-1)))) rfl H

set_option maxRecDepth 100000 in
/-- Walker.stand, pc 199 -/
theorem s_2563_199 {L d : Nat} {K : Option gV → gH → Prop} {s : gH} (v1 : Int) (v2 : Int) (v3 : Int) (v4 : Int) (v5 : BitVec 64) (v7 : BitVec 64) (v9 : Int) (v10 : Int) (v11 : Int) (w0 : BitVec 64) (w1 : BitVec 64) (H : ((0 ≤ v9 ∧ v9 < 8) ∧ (((gp_I s 49 v9.toNat) = (-2) → gs_E L (d + 1) 2563 224 [gp_r (some 48), gp_i v1, gp_i v2, gp_i v3, gp_i v4, gp_l (w0 ||| w1), gp_n, gp_l v7, gp_n, gp_i v9, gp_i v10, gp_i v11] [gp_l ((1#64) <<< (v11 % 64).toNat), gp_l v7] s K) ∧ (¬ (gp_I s 49 v9.toNat) = (-2) → gs_E L (d + 1) 2563 224 [gp_r (some 48), gp_i v1, gp_i v2, gp_i v3, gp_i v4, gp_l (w0 ||| w1), gp_n, gp_l v7, gp_n, gp_i v9, gp_i v10, gp_i v11] [gp_l (0#64), gp_l v7] s K)))) : gs_E L (d + 1) 2563 199 [gp_r (some 48), gp_i v1, gp_i v2, gp_i v3, gp_i v4, gp_l v5, gp_n, gp_l v7, gp_n, gp_i v9, gp_i v10, gp_i v11] [gp_l w1, gp_l w0] s K := by
  refine gs_E.stp (pc' := 210) (ls' := [gp_r (some 48), gp_i v1, gp_i v2, gp_i v3, gp_i v4, gp_l (w0 ||| w1), gp_n, gp_l v7, gp_n, gp_i v9, gp_i v10, gp_i v11]) (st' := [gp_i v9, gp_r (some 49), gp_l v7]) (s' := s) 6 rfl ?_
  refine gs_E.ck (pc' := 211) (ls' := [gp_r (some 48), gp_i v1, gp_i v2, gp_i v3, gp_i v4, gp_l (w0 ||| w1), gp_n, gp_l v7, gp_n, gp_i v9, gp_i v10, gp_i v11]) (st' := [gp_i (gp_I s 49 v9.toNat), gp_l v7]) (s' := s) rfl (Or.inl ⟨rfl, H.1.1, H.1.2⟩) ?_
  replace H := H.2
  refine gs_E.stp (pc' := 213) (ls' := [gp_r (some 48), gp_i v1, gp_i v2, gp_i v3, gp_i v4, gp_l (w0 ||| w1), gp_n, gp_l v7, gp_n, gp_i v9, gp_i v10, gp_i v11]) (st' := [gp_i (-2), gp_i (gp_I s 49 v9.toNat), gp_l v7]) (s' := s) 1 rfl ?_
  refine gs_E.br (c := ¬ (gp_I s 49 v9.toNat) = (-2)) (p1 := 223) (p2 := 216) (l1 := [gp_r (some 48), gp_i v1, gp_i v2, gp_i v3, gp_i v4, gp_l (w0 ||| w1), gp_n, gp_l v7, gp_n, gp_i v9, gp_i v10, gp_i v11]) (l2 := [gp_r (some 48), gp_i v1, gp_i v2, gp_i v3, gp_i v4, gp_l (w0 ||| w1), gp_n, gp_l v7, gp_n, gp_i v9, gp_i v10, gp_i v11]) (s1 := [gp_l v7]) (s2 := [gp_l v7]) rfl gs_b2 (fun hc => ?_) (fun hc => ?_)
  · replace H := H.2 hc
    refine gs_E.stp (pc' := 224) (ls' := [gp_r (some 48), gp_i v1, gp_i v2, gp_i v3, gp_i v4, gp_l (w0 ||| w1), gp_n, gp_l v7, gp_n, gp_i v9, gp_i v10, gp_i v11]) (st' := [gp_l (0#64), gp_l v7]) (s' := s) 1 rfl ?_
    exact H
  · replace H := H.1 (Decidable.byContradiction hc)
    refine gs_E.stp (pc' := 224) (ls' := [gp_r (some 48), gp_i v1, gp_i v2, gp_i v3, gp_i v4, gp_l (w0 ||| w1), gp_n, gp_l v7, gp_n, gp_i v9, gp_i v10, gp_i v11]) (st' := [gp_l ((1#64) <<< (v11 % 64).toNat), gp_l v7]) (s' := s) 4 rfl ?_
    exact H

set_option maxRecDepth 100000 in
/-- Walker.stand, pc 224 -/
theorem s_2563_224 {L d : Nat} {K : Option gV → gH → Prop} {s : gH} (v1 : Int) (v2 : Int) (v3 : Int) (v4 : Int) (v5 : BitVec 64) (v7 : BitVec 64) (v9 : Int) (v10 : Int) (v11 : Int) (w0 : BitVec 64) (w1 : BitVec 64) (H : gs_E L (d + 1) 2563 227 [gp_r (some 48), gp_i v1, gp_i v2, gp_i v3, gp_i v4, gp_l v5, gp_n, gp_l (w0 ||| w1), gp_n, gp_i v9, gp_i v10, gp_i v11] [] s K) : gs_E L (d + 1) 2563 224 [gp_r (some 48), gp_i v1, gp_i v2, gp_i v3, gp_i v4, gp_l v5, gp_n, gp_l v7, gp_n, gp_i v9, gp_i v10, gp_i v11] [gp_l w1, gp_l w0] s K := by
  refine gs_E.stp (pc' := 227) (ls' := [gp_r (some 48), gp_i v1, gp_i v2, gp_i v3, gp_i v4, gp_l v5, gp_n, gp_l (w0 ||| w1), gp_n, gp_i v9, gp_i v10, gp_i v11]) (st' := []) (s' := s) 2 rfl ?_
  exact H

set_option maxRecDepth 100000 in
/-- Walker.stand, pc 227 -/
theorem s_2563_227 {L d : Nat} {K : Option gV → gH → Prop} {s : gH} (v1 : Int) (v2 : Int) (v3 : Int) (v4 : Int) (v5 : BitVec 64) (v7 : BitVec 64) (v9 : Int) (v10 : Int) (v11 : gV) (H : gs_E L (d + 1) 2563 86 [gp_r (some 48), gp_i v1, gp_i v2, gp_i v3, gp_i v4, gp_l v5, gp_n, gp_l v7, gp_n, gp_i (gp_wr (v9 + 1)), gp_i v10, v11] [] s K) : gs_E L (d + 1) 2563 227 [gp_r (some 48), gp_i v1, gp_i v2, gp_i v3, gp_i v4, gp_l v5, gp_n, gp_l v7, gp_n, gp_i v9, gp_i v10, v11] [] s K := by
  refine gs_E.stp (pc' := 86) (ls' := [gp_r (some 48), gp_i v1, gp_i v2, gp_i v3, gp_i v4, gp_l v5, gp_n, gp_l v7, gp_n, gp_i (gp_wr (v9 + 1)), gp_i v10, v11]) (st' := []) (s' := s) 2 rfl ?_
  exact H

set_option maxRecDepth 100000 in
/-- Walker.step, pc 0 -/
theorem s_2564_e {L d : Nat} {K : Option gV → gH → Prop} {s : gH} (p0 : Int) (p1 : Int) (p2 : Int) (p3 : Int) (H : ((0 ≤ p0 ∧ p0 < 8) ∧ ((0 ≤ p1 ∧ p1 < 8) ∧ ((0 ≤ p1 ∧ p1 < 8) ∧ (∀ s1, s1 = gp_wI s 49 p1.toNat (gp_I s 49 p0.toNat) → ((0 ≤ p0 ∧ p0 < 8) ∧ (∀ s2, s2 = gp_wI s1 49 p0.toNat 0 → (((gp_I s 49 p0.toNat) = (-1) → gs_E L (d + 1) 2564 49 [gp_r (some 48), gp_i p0, gp_i p1, gp_i p2, gp_i p3, gp_i (gp_I s 49 p0.toNat), gp_i (gp_I s 49 p1.toNat), gp_n] [gp_i (gp_wr (p2 + (gp_I s 49 p1.toNat))), gp_r (some 48)] s2 K) ∧ (¬ (gp_I s 49 p0.toNat) = (-1) → gs_E L (d + 1) 2564 49 [gp_r (some 48), gp_i p0, gp_i p1, gp_i p2, gp_i p3, gp_i (gp_I s 49 p0.toNat), gp_i (gp_I s 49 p1.toNat), gp_n] [gp_i (gp_wr (p2 - (gp_I s 49 p1.toNat))), gp_r (some 48)] s2 K))))))))) : gs_C L (d + 1) 2564 8 [gp_r (some 48), gp_i p0, gp_i p1, gp_i p2, gp_i p3] s K := by
  show gs_E L (d + 1) 2564 0 [gp_r (some 48), gp_i p0, gp_i p1, gp_i p2, gp_i p3, gp_n, gp_n, gp_n] [] s K
  refine gs_E.stp (pc' := 5) (ls' := [gp_r (some 48), gp_i p0, gp_i p1, gp_i p2, gp_i p3, gp_n, gp_n, gp_n]) (st' := [gp_i p0, gp_r (some 49)]) (s' := s) 3 rfl ?_
  refine gs_E.ck (pc' := 6) (ls' := [gp_r (some 48), gp_i p0, gp_i p1, gp_i p2, gp_i p3, gp_n, gp_n, gp_n]) (st' := [gp_i (gp_I s 49 p0.toNat)]) (s' := s) rfl (Or.inl ⟨rfl, H.1.1, H.1.2⟩) ?_
  replace H := H.2
  refine gs_E.stp (pc' := 13) (ls' := [gp_r (some 48), gp_i p0, gp_i p1, gp_i p2, gp_i p3, gp_i (gp_I s 49 p0.toNat), gp_n, gp_n]) (st' := [gp_i p1, gp_r (some 49)]) (s' := s) 4 rfl ?_
  refine gs_E.ck (pc' := 14) (ls' := [gp_r (some 48), gp_i p0, gp_i p1, gp_i p2, gp_i p3, gp_i (gp_I s 49 p0.toNat), gp_n, gp_n]) (st' := [gp_i (gp_I s 49 p1.toNat)]) (s' := s) rfl (Or.inl ⟨rfl, H.1.1, H.1.2⟩) ?_
  replace H := H.2
  refine gs_E.stp (pc' := 23) (ls' := [gp_r (some 48), gp_i p0, gp_i p1, gp_i p2, gp_i p3, gp_i (gp_I s 49 p0.toNat), gp_i (gp_I s 49 p1.toNat), gp_n]) (st' := [gp_i (gp_I s 49 p0.toNat), gp_i p1, gp_r (some 49)]) (s' := s) 5 rfl ?_
  refine gs_E.ck (pc' := 24) (ls' := [gp_r (some 48), gp_i p0, gp_i p1, gp_i p2, gp_i p3, gp_i (gp_I s 49 p0.toNat), gp_i (gp_I s 49 p1.toNat), gp_n]) (st' := []) (s' := gp_wI s 49 p1.toNat (gp_I s 49 p0.toNat)) rfl ⟨rfl, H.1.1, H.1.2⟩ ?_
  replace H := H.2 _ rfl
  generalize gp_wI s 49 p1.toNat (gp_I s 49 p0.toNat) = s1 at H ⊢
  refine gs_E.stp (pc' := 30) (ls' := [gp_r (some 48), gp_i p0, gp_i p1, gp_i p2, gp_i p3, gp_i (gp_I s 49 p0.toNat), gp_i (gp_I s 49 p1.toNat), gp_n]) (st' := [gp_i 0, gp_i p0, gp_r (some 49)]) (s' := s1) 4 rfl ?_
  refine gs_E.ck (pc' := 31) (ls' := [gp_r (some 48), gp_i p0, gp_i p1, gp_i p2, gp_i p3, gp_i (gp_I s 49 p0.toNat), gp_i (gp_I s 49 p1.toNat), gp_n]) (st' := []) (s' := gp_wI s1 49 p0.toNat 0) rfl ⟨rfl, H.1.1, H.1.2⟩ ?_
  replace H := H.2 _ rfl
  generalize gp_wI s1 49 p0.toNat 0 = s2 at H ⊢
  refine gs_E.stp (pc' := 35) (ls' := [gp_r (some 48), gp_i p0, gp_i p1, gp_i p2, gp_i p3, gp_i (gp_I s 49 p0.toNat), gp_i (gp_I s 49 p1.toNat), gp_n]) (st' := [gp_i (-1), gp_i (gp_I s 49 p0.toNat), gp_r (some 48)]) (s' := s2) 3 rfl ?_
  refine gs_E.br (c := ¬ (gp_I s 49 p0.toNat) = (-1)) (p1 := 45) (p2 := 38) (l1 := [gp_r (some 48), gp_i p0, gp_i p1, gp_i p2, gp_i p3, gp_i (gp_I s 49 p0.toNat), gp_i (gp_I s 49 p1.toNat), gp_n]) (l2 := [gp_r (some 48), gp_i p0, gp_i p1, gp_i p2, gp_i p3, gp_i (gp_I s 49 p0.toNat), gp_i (gp_I s 49 p1.toNat), gp_n]) (s1 := [gp_r (some 48)]) (s2 := [gp_r (some 48)]) rfl gs_b2 (fun hc => ?_) (fun hc => ?_)
  · replace H := H.2 hc
    refine gs_E.stp (pc' := 49) (ls' := [gp_r (some 48), gp_i p0, gp_i p1, gp_i p2, gp_i p3, gp_i (gp_I s 49 p0.toNat), gp_i (gp_I s 49 p1.toNat), gp_n]) (st' := [gp_i (gp_wr (p2 - (gp_I s 49 p1.toNat))), gp_r (some 48)]) (s' := s2) 3 rfl ?_
    exact H
  · replace H := H.1 (Decidable.byContradiction hc)
    refine gs_E.stp (pc' := 49) (ls' := [gp_r (some 48), gp_i p0, gp_i p1, gp_i p2, gp_i p3, gp_i (gp_I s 49 p0.toNat), gp_i (gp_I s 49 p1.toNat), gp_n]) (st' := [gp_i (gp_wr (p2 + (gp_I s 49 p1.toNat))), gp_r (some 48)]) (s' := s2) 4 rfl ?_
    exact H

set_option maxRecDepth 100000 in
/-- Walker.step, pc 49 -/
theorem s_2564_49 {L d : Nat} {K : Option gV → gH → Prop} {s : gH} (v1 : Int) (v2 : Int) (v3 : Int) (v4 : Int) (v5 : Int) (v6 : Int) (v7 : gV) (w1 : Int) (H : gs_C L d 2563 12 [gp_r (some 48), gp_i w1, gp_i (gp_wr (v4 + 1))] s (fun r s1 => ∃ x2, r = some (gp_i x2) ∧ ((0 ≤ v1 ∧ v1 < 8) ∧ (∀ s3, s3 = gp_wI s1 49 v1.toNat v5 → ((0 ≤ v2 ∧ v2 < 8) ∧ (∀ s4, s4 = gp_wI s3 49 v2.toNat v6 → K (some (gp_i x2)) s4)))))) : gs_E L (d + 1) 2564 49 [gp_r (some 48), gp_i v1, gp_i v2, gp_i v3, gp_i v4, gp_i v5, gp_i v6, v7] [gp_i w1, gp_r (some 48)] s K := by
  refine gs_E.stp (pc' := 53) (ls' := [gp_r (some 48), gp_i v1, gp_i v2, gp_i v3, gp_i v4, gp_i v5, gp_i v6, v7]) (st' := [gp_i (gp_wr (v4 + 1)), gp_i w1, gp_r (some 48)]) (s' := s) 3 rfl ?_
  refine gs_E.call (args := [gp_r (some 48), gp_i w1, gp_i (gp_wr (v4 + 1))]) (m := 12) (y' := 2563) (st' := []) rfl H (fun r s1 H => ?_)
  obtain ⟨x2, rfl, H⟩ := H
  show gs_E L (d + 1) 2564 56 [gp_r (some 48), gp_i v1, gp_i v2, gp_i v3, gp_i v4, gp_i v5, gp_i v6, v7] [gp_i x2] s1 K
  refine gs_E.stp (pc' := 65) (ls' := [gp_r (some 48), gp_i v1, gp_i v2, gp_i v3, gp_i v4, gp_i v5, gp_i v6, gp_i x2]) (st' := [gp_i v5, gp_i v1, gp_r (some 49)]) (s' := s1) 5 rfl ?_
  refine gs_E.ck (pc' := 66) (ls' := [gp_r (some 48), gp_i v1, gp_i v2, gp_i v3, gp_i v4, gp_i v5, gp_i v6, gp_i x2]) (st' := []) (s' := gp_wI s1 49 v1.toNat v5) rfl ⟨rfl, H.1.1, H.1.2⟩ ?_
  replace H := H.2 _ rfl
  generalize gp_wI s1 49 v1.toNat v5 = s3 at H ⊢
  refine gs_E.stp (pc' := 73) (ls' := [gp_r (some 48), gp_i v1, gp_i v2, gp_i v3, gp_i v4, gp_i v5, gp_i v6, gp_i x2]) (st' := [gp_i v6, gp_i v2, gp_r (some 49)]) (s' := s3) 4 rfl ?_
  refine gs_E.ck (pc' := 74) (ls' := [gp_r (some 48), gp_i v1, gp_i v2, gp_i v3, gp_i v4, gp_i v5, gp_i v6, gp_i x2]) (st' := []) (s' := gp_wI s3 49 v2.toNat v6) rfl ⟨rfl, H.1.1, H.1.2⟩ ?_
  replace H := H.2 _ rfl
  generalize gp_wI s3 49 v2.toNat v6 = s4 at H ⊢
  refine gs_E.stp (pc' := 76) (ls' := [gp_r (some 48), gp_i v1, gp_i v2, gp_i v3, gp_i v4, gp_i v5, gp_i v6, gp_i x2]) (st' := [gp_i x2]) (s' := s4) 1 rfl ?_
  exact gs_E.ret (r := (some (gp_i x2))) rfl H
