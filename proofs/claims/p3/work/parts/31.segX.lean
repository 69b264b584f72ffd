set_option maxRecDepth 100000 in
/-- Least.relate, pc 0 -/
theorem s_1_e {L d : Nat} {K : Option gV → gH → Prop} {s : gH} (this : Option Nat) (p0 : Option Nat) (p1 : Option Nat) (H : gs_E L (d + 1) 1 2 [gp_r this, gp_r p0, gp_r p1, gp_i 0, gp_n] [] s K) : gs_C L (d + 1) 1 5 [gp_r this, gp_r p0, gp_r p1] s K := by
  show gs_E L (d + 1) 1 0 [gp_r this, gp_r p0, gp_r p1, gp_n, gp_n] [] s K
  refine gs_E.stp (pc' := 2) (ls' := [gp_r this, gp_r p0, gp_r p1, gp_i 0, gp_n]) (st' := []) (s' := s) 2 rfl ?_
  exact H

set_option maxRecDepth 100000 in
/-- Least.relate, pc 2 -/
theorem s_1_2 {L d : Nat} {K : Option gV → gH → Prop} {s : gH} (v0 : Option Nat) (v1 : Option Nat) (v2 : Option Nat) (v3 : Int) (v4 : gV) (H : (∃ q1, v1 = some q1 ∧ ((gp_sh (gp_mk L s) q1).1 = 9 ∧ ((v3 < (gp_I s q1 0) → (∃ q2, v0 = some q2 ∧ ((gp_sh (gp_mk L s) q2).1 = 0 ∧ (∃ q3, gp_R (gp_mk L s) q2 0 = some q3 ∧ (gp_in (gp_mk L s) 101 q3 v3 ∧ ∀ s4, s4 = gp_wL s q3 v3.toNat (0#64) → gs_E L (d + 1) 1 2 [gp_r (some q2), gp_r (some q1), gp_r v2, gp_i (gp_wr (v3 + 1)), v4] [] s4 K))))) ∧ (¬ v3 < (gp_I s q1 0) → gs_E L (d + 1) 1 25 [gp_r v0, gp_r (some q1), gp_r v2, gp_i 0, v4] [] s K))))) : gs_E L (d + 1) 1 2 [gp_r v0, gp_r v1, gp_r v2, gp_i v3, v4] [] s K := by
  refine gs_E.stp (pc' := 4) (ls' := [gp_r v0, gp_r v1, gp_r v2, gp_i v3, v4]) (st' := [gp_r v1, gp_i v3]) (s' := s) 2 rfl ?_
  obtain ⟨q1, hq, H⟩ := H
  rw [hq]
  refine gs_E.ck (pc' := 7) (ls' := [gp_r v0, gp_r (some q1), gp_r v2, gp_i v3, v4]) (st' := [gp_i (gp_I s q1 0), gp_i v3]) (s' := s) rfl H.1 ?_
  replace H := H.2
  refine gs_E.br (c := ¬ v3 < (gp_I s q1 0)) (p1 := 23) (p2 := 10) (l1 := [gp_r v0, gp_r (some q1), gp_r v2, gp_i v3, v4]) (l2 := [gp_r v0, gp_r (some q1), gp_r v2, gp_i v3, v4]) (s1 := []) (s2 := []) rfl gs_b2 (fun hc => ?_) (fun hc => ?_)
  · replace H := H.2 hc
    refine gs_E.stp (pc' := 25) (ls' := [gp_r v0, gp_r (some q1), gp_r v2, gp_i 0, v4]) (st' := []) (s' := s) 2 rfl ?_
    exact H
  · replace H := H.1 (Decidable.byContradiction hc)
    refine gs_E.stp (pc' := 11) (ls' := [gp_r v0, gp_r (some q1), gp_r v2, gp_i v3, v4]) (st' := [gp_r v0]) (s' := s) 1 rfl ?_
    obtain ⟨q2, hq, H⟩ := H
    rw [hq]
    refine gs_E.ck (pc' := 14) (ls' := [gp_r (some q2), gp_r (some q1), gp_r v2, gp_i v3, v4]) (st' := [gp_r (gp_R (gp_mk L s) q2 0)]) (s' := s) rfl H.1 ?_
    replace H := H.2
    refine gs_E.stp (pc' := 16) (ls' := [gp_r (some q2), gp_r (some q1), gp_r v2, gp_i v3, v4]) (st' := [gp_l (0#64), gp_i v3, gp_r (gp_R (gp_mk L s) q2 0)]) (s' := s) 2 rfl ?_
    obtain ⟨q3, hq, H⟩ := H
    rw [hq]
    refine gs_E.ck (pc' := 17) (ls' := [gp_r (some q2), gp_r (some q1), gp_r v2, gp_i v3, v4]) (st' := []) (s' := gp_wL s q3 v3.toNat (0#64)) rfl H.1 ?_
    replace H := H.2 _ rfl
    generalize gp_wL s q3 v3.toNat (0#64) = s4 at H ⊢
    refine gs_E.stp (pc' := 2) (ls' := [gp_r (some q2), gp_r (some q1), gp_r v2, gp_i (gp_wr (v3 + 1)), v4]) (st' := []) (s' := s4) 2 rfl ?_
    exact H

set_option maxRecDepth 100000 in
/-- Least.relate, pc 25 -/
theorem s_1_25 {L d : Nat} {K : Option gV → gH → Prop} {s : gH} (v0 : Option Nat) (v1 : Option Nat) (v2 : Option Nat) (v3 : Int) (v4 : gV) (H : (∃ q1, v2 = some q1 ∧ ((gp_sh (gp_mk L s) q1).1 = 9 ∧ ((v3 < (gp_I s q1 0) → (∃ q2, v0 = some q2 ∧ ((gp_sh (gp_mk L s) q2).1 = 0 ∧ (∃ q3, gp_R (gp_mk L s) q2 1 = some q3 ∧ (gp_in (gp_mk L s) 101 q3 v3 ∧ ∀ s4, s4 = gp_wL s q3 v3.toNat (0#64) → gs_E L (d + 1) 1 25 [gp_r (some q2), gp_r v1, gp_r (some q1), gp_i (gp_wr (v3 + 1)), v4] [] s4 K))))) ∧ (¬ v3 < (gp_I s q1 0) → gs_E L (d + 1) 1 48 [gp_r v0, gp_r v1, gp_r (some q1), gp_i 0, v4] [] s K))))) : gs_E L (d + 1) 1 25 [gp_r v0, gp_r v1, gp_r v2, gp_i v3, v4] [] s K := by
  refine gs_E.stp (pc' := 27) (ls' := [gp_r v0, gp_r v1, gp_r v2, gp_i v3, v4]) (st' := [gp_r v2, gp_i v3]) (s' := s) 2 rfl ?_
  obtain ⟨q1, hq, H⟩ := H
  rw [hq]
  refine gs_E.ck (pc' := 30) (ls' := [gp_r v0, gp_r v1, gp_r (some q1), gp_i v3, v4]) (st' := [gp_i (gp_I s q1 0), gp_i v3]) (s' := s) rfl H.1 ?_
  replace H := H.2
  refine gs_E.br (c := ¬ v3 < (gp_I s q1 0)) (p1 := 46) (p2 := 33) (l1 := [gp_r v0, gp_r v1, gp_r (some q1), gp_i v3, v4]) (l2 := [gp_r v0, gp_r v1, gp_r (some q1), gp_i v3, v4]) (s1 := []) (s2 := []) rfl gs_b2 (fun hc => ?_) (fun hc => ?_)
  · replace H := H.2 hc
    refine gs_E.stp (pc' := 48) (ls' := [gp_r v0, gp_r v1, gp_r (some q1), gp_i 0, v4]) (st' := []) (s' := s) 2 rfl ?_
    exact H
  · replace H := H.1 (Decidable.byContradiction hc)
    refine gs_E.stp (pc' := 34) (ls' := [gp_r v0, gp_r v1, gp_r (some q1), gp_i v3, v4]) (st' := [gp_r v0]) (s' := s) 1 rfl ?_
    obtain ⟨q2, hq, H⟩ := H
    rw [hq]
    refine gs_E.ck (pc' := 37) (ls' := [gp_r (some q2), gp_r v1, gp_r (some q1), gp_i v3, v4]) (st' := [gp_r (gp_R (gp_mk L s) q2 1)]) (s' := s) rfl H.1 ?_
    replace H := H.2
    refine gs_E.stp (pc' := 39) (ls' := [gp_r (some q2), gp_r v1, gp_r (some q1), gp_i v3, v4]) (st' := [gp_l (0#64), gp_i v3, gp_r (gp_R (gp_mk L s) q2 1)]) (s' := s) 2 rfl ?_
    obtain ⟨q3, hq, H⟩ := H
    rw [hq]
    refine gs_E.ck (pc' := 40) (ls' := [gp_r (some q2), gp_r v1, gp_r (some q1), gp_i v3, v4]) (st' := []) (s' := gp_wL s q3 v3.toNat (0#64)) rfl H.1 ?_
    replace H := H.2 _ rfl
    generalize gp_wL s q3 v3.toNat (0#64) = s4 at H ⊢
    refine gs_E.stp (pc' := 25) (ls' := [gp_r (some q2), gp_r v1, gp_r (some q1), gp_i (gp_wr (v3 + 1)), v4]) (st' := []) (s' := s4) 2 rfl ?_
    exact H

set_option maxRecDepth 100000 in
/-- Least.relate, pc 48 -/
theorem s_1_48 {L d : Nat} {K : Option gV → gH → Prop} {s : gH} (v0 : Option Nat) (v1 : Option Nat) (v2 : Option Nat) (v3 : Int) (v4 : gV) (H : (∃ q1, v1 = some q1 ∧ ((gp_sh (gp_mk L s) q1).1 = 9 ∧ ((v3 < (gp_I s q1 0) → gs_E L (d + 1) 1 59 [gp_r v0, gp_r (some q1), gp_r v2, gp_i v3, gp_i 0] [] s K) ∧ (¬ v3 < (gp_I s q1 0) → (∃ q2, v0 = some q2 ∧ ((gp_sh (gp_mk L s) q2).1 = 0 ∧ ((gp_sh (gp_mk L s) q1).1 = 9 ∧ gs_C L d 2306 1 [gp_r (some q1)] s (fun r s3 => ∃ x4, r = some (gp_i x4) ∧ (∃ q5, gp_R (gp_mk L s) q2 0 = some q5 ∧ (gp_in (gp_mk L s3) 101 q5 x4 ∧ (∃ q6, v2 = some q6 ∧ ((gp_sh (gp_mk L s3) q6).1 = 9 ∧ gs_C L d 2306 1 [gp_r (some q6)] s3 (fun r s7 => ∃ x8, r = some (gp_i x8) ∧ gs_C L d 2862 3 [gp_l (gp_L s3 q5 x4.toNat), gp_i x8] s7 (fun r s9 => ∃ x10, r = some (gp_i x10) ∧ ((x10 = 0 ∨ x10 = 1) ∧ K (some (gp_i x10)) s9)))))))))))))))) : gs_E L (d + 1) 1 48 [gp_r v0, gp_r v1, gp_r v2, gp_i v3, v4] [] s K := by
  refine gs_E.stp (pc' := 50) (ls' := [gp_r v0, gp_r v1, gp_r v2, gp_i v3, v4]) (st' := [gp_r v1, gp_i v3]) (s' := s) 2 rfl ?_
  obtain ⟨q1, hq, H⟩ := H
  rw [hq]
  refine gs_E.ck (pc' := 53) (ls' := [gp_r v0, gp_r (some q1), gp_r v2, gp_i v3, v4]) (st' := [gp_i (gp_I s q1 0), gp_i v3]) (s' := s) rfl H.1 ?_
  replace H := H.2
  refine gs_E.br (c := ¬ v3 < (gp_I s q1 0)) (p1 := 99) (p2 := 56) (l1 := [gp_r v0, gp_r (some q1), gp_r v2, gp_i v3, v4]) (l2 := [gp_r v0, gp_r (some q1), gp_r v2, gp_i v3, v4]) (s1 := []) (s2 := []) rfl gs_b2 (fun hc => ?_) (fun hc => ?_)
  · replace H := H.2 hc
    refine gs_E.stp (pc' := 100) (ls' := [gp_r v0, gp_r (some q1), gp_r v2, gp_i v3, v4]) (st' := [gp_r v0]) (s' := s) 1 rfl ?_
    obtain ⟨q2, hq, H⟩ := H
    rw [hq]
    refine gs_E.ck (pc' := 103) (ls' := [gp_r (some q2), gp_r (some q1), gp_r v2, gp_i v3, v4]) (st' := [gp_r (gp_R (gp_mk L s) q2 0)]) (s' := s) rfl H.1 ?_
    replace H := H.2
    refine gs_E.stp (pc' := 104) (ls' := [gp_r (some q2), gp_r (some q1), gp_r v2, gp_i v3, v4]) (st' := [gp_r (some q1), gp_r (gp_R (gp_mk L s) q2 0)]) (s' := s) 1 rfl ?_
    refine gs_E.callV (args := [gp_r (some q1)]) (m := 1) (y' := 2306) (st' := [gp_r (gp_R (gp_mk L s) q2 0)]) rfl H.1 H.2 (fun r s3 H => ?_)
    obtain ⟨x4, rfl, H⟩ := H
    show gs_E L (d + 1) 1 107 [gp_r (some q2), gp_r (some q1), gp_r v2, gp_i v3, v4] [gp_i x4, gp_r (gp_R (gp_mk L s) q2 0)] s3 K
    obtain ⟨q5, hq, H⟩ := H
    rw [hq]
    refine gs_E.ck (pc' := 108) (ls' := [gp_r (some q2), gp_r (some q1), gp_r v2, gp_i v3, v4]) (st' := [gp_l (gp_L s3 q5 x4.toNat)]) (s' := s3) rfl H.1 ?_
    replace H := H.2
    refine gs_E.stp (pc' := 109) (ls' := [gp_r (some q2), gp_r (some q1), gp_r v2, gp_i v3, v4]) (st' := [gp_r v2, gp_l (gp_L s3 q5 x4.toNat)]) (s' := s3) 1 rfl ?_
    obtain ⟨q6, hq, H⟩ := H
    rw [hq]
    refine gs_E.callV (args := [gp_r (some q6)]) (m := 1) (y' := 2306) (st' := [gp_l (gp_L s3 q5 x4.toNat)]) rfl H.1 H.2 (fun r s7 H => ?_)
    obtain ⟨x8, rfl, H⟩ := H
    show gs_E L (d + 1) 1 112 [gp_r (some q2), gp_r (some q1), gp_r (some q6), gp_i v3, v4] [gp_i x8, gp_l (gp_L s3 q5 x4.toNat)] s7 K
    refine gs_E.call (args := [gp_l (gp_L s3 q5 x4.toNat), gp_i x8]) (m := 3) (y' := 2862) (st' := []) rfl H (fun r s9 H => ?_)
    obtain ⟨x10, rfl, H⟩ := H
    show gs_E L (d + 1) 1 115 [gp_r (some q2), gp_r (some q1), gp_r (some q6), gp_i v3, v4] [gp_i x10] s9 K
    exact gs_E.retz (r := (some (gp_i x10))) rfl H.1 H.2
  · replace H := H.1 (Decidable.byContradiction hc)
    refine gs_E.stp (pc' := 59) (ls' := [gp_r v0, gp_r (some q1), gp_r v2, gp_i v3, gp_i 0]) (st' := []) (s' := s) 2 rfl ?_
    exact H

set_option maxRecDepth 100000 in
/-- Least.relate, pc 59 -/
theorem s_1_59 {L d : Nat} {K : Option gV → gH → Prop} {s : gH} (v0 : Option Nat) (v1 : Option Nat) (v2 : Option Nat) (v3 : Int) (v4 : Int) (H : (∃ q1, v2 = some q1 ∧ ((gp_sh (gp_mk L s) q1).1 = 9 ∧ ((v4 < (gp_I s q1 0) → (∃ q2, v0 = some q2 ∧ ((gp_sh (gp_mk L s) q2).1 = 0 ∧ gs_C L d 4 8 [gp_r (some q2), gp_r v1, gp_i v3, gp_r (some q1), gp_i v4] s (fun r s3 => ∃ x4, r = some (gp_i x4) ∧ ((x4 = 0 → gs_E L (d + 1) 1 87 [gp_r (some q2), gp_r v1, gp_r (some q1), gp_i v3, gp_i v4] [] s3 K) ∧ (¬ x4 = 0 → ((gp_sh (gp_mk L s3) q2).1 = 0 ∧ gs_C L d 3 3 [gp_r (some q2), gp_i v3, gp_i v4] s3 (fun r s5 => r = none ∧ gs_E L (d + 1) 1 87 [gp_r (some q2), gp_r v1, gp_r (some q1), gp_i v3, gp_i v4] [] s5 K)))))))) ∧ (¬ v4 < (gp_I s q1 0) → gs_E L (d + 1) 1 48 [gp_r v0, gp_r v1, gp_r (some q1), gp_i (gp_wr (v3 + 1)), gp_i v4] [] s K))))) : gs_E L (d + 1) 1 59 [gp_r v0, gp_r v1, gp_r v2, gp_i v3, gp_i v4] [] s K := by
  refine gs_E.stp (pc' := 62) (ls' := [gp_r v0, gp_r v1, gp_r v2, gp_i v3, gp_i v4]) (st' := [gp_r v2, gp_i v4]) (s' := s) 2 rfl ?_
  obtain ⟨q1, hq, H⟩ := H
  rw [hq]
  refine gs_E.ck (pc' := 65) (ls' := [gp_r v0, gp_r v1, gp_r (some q1), gp_i v3, gp_i v4]) (st' := [gp_i (gp_I s q1 0), gp_i v4]) (s' := s) rfl H.1 ?_
  replace H := H.2
  refine gs_E.br (c := ¬ v4 < (gp_I s q1 0)) (p1 := 93) (p2 := 68) (l1 := [gp_r v0, gp_r v1, gp_r (some q1), gp_i v3, gp_i v4]) (l2 := [gp_r v0, gp_r v1, gp_r (some q1), gp_i v3, gp_i v4]) (s1 := []) (s2 := []) rfl gs_b2 (fun hc => ?_) (fun hc => ?_)
  · replace H := H.2 hc
    refine gs_E.stp (pc' := 48) (ls' := [gp_r v0, gp_r v1, gp_r (some q1), gp_i (gp_wr (v3 + 1)), gp_i v4]) (st' := []) (s' := s) 2 rfl ?_
    exact H
  · replace H := H.1 (Decidable.byContradiction hc)
    refine gs_E.stp (pc' := 74) (ls' := [gp_r v0, gp_r v1, gp_r (some q1), gp_i v3, gp_i v4]) (st' := [gp_i v4, gp_r (some q1), gp_i v3, gp_r v1, gp_r v0]) (s' := s) 5 rfl ?_
    obtain ⟨q2, hq, H⟩ := H
    rw [hq]
    refine gs_E.callV (args := [gp_r (some q2), gp_r v1, gp_i v3, gp_r (some q1), gp_i v4]) (m := 8) (y' := 4) (st' := []) rfl H.1 H.2 (fun r s3 H => ?_)
    obtain ⟨x4, rfl, H⟩ := H
    show gs_E L (d + 1) 1 77 [gp_r (some q2), gp_r v1, gp_r (some q1), gp_i v3, gp_i v4] [gp_i x4] s3 K
    refine gs_E.br (c := x4 = 0) (p1 := 87) (p2 := 80) (l1 := [gp_r (some q2), gp_r v1, gp_r (some q1), gp_i v3, gp_i v4]) (l2 := [gp_r (some q2), gp_r v1, gp_r (some q1), gp_i v3, gp_i v4]) (s1 := []) (s2 := []) rfl gs_b1 (fun hc => ?_) (fun hc => ?_)
    · replace H := H.1 hc
      exact H
    · replace H := H.2 hc
      refine gs_E.stp (pc' := 84) (ls' := [gp_r (some q2), gp_r v1, gp_r (some q1), gp_i v3, gp_i v4]) (st' := [gp_i v4, gp_i v3, gp_r (some q2)]) (s' := s3) 3 rfl ?_
      refine gs_E.callV (args := [gp_r (some q2), gp_i v3, gp_i v4]) (m := 3) (y' := 3) (st' := []) rfl H.1 H.2 (fun r s5 H => ?_)
      obtain ⟨rfl, H⟩ := H
      show gs_E L (d + 1) 1 87 [gp_r (some q2), gp_r v1, gp_r (some q1), gp_i v3, gp_i v4] [] s5 K
      exact H

set_option maxRecDepth 100000 in
/-- Least.relate, pc 87 -/
theorem s_1_87 {L d : Nat} {K : Option gV → gH → Prop} {s : gH} (v0 : Option Nat) (v1 : Option Nat) (v2 : Option Nat) (v3 : Int) (v4 : Int) (H : gs_E L (d + 1) 1 59 [gp_r v0, gp_r v1, gp_r v2, gp_i v3, gp_i (gp_wr (v4 + 1))] [] s K) : gs_E L (d + 1) 1 87 [gp_r v0, gp_r v1, gp_r v2, gp_i v3, gp_i v4] [] s K := by
  refine gs_E.stp (pc' := 59) (ls' := [gp_r v0, gp_r v1, gp_r v2, gp_i v3, gp_i (gp_wr (v4 + 1))]) (st' := []) (s' := s) 2 rfl ?_
  exact H

set_option maxRecDepth 100000 in
/-- Least.relateLast, pc 0 -/
theorem s_2_e {L d : Nat} {K : Option gV → gH → Prop} {s : gH} (this : Option Nat) (p0 : Option Nat) (p1 : Int) (H : (∃ q1, this = some q1 ∧ ((gp_sh (gp_mk L s) q1).1 = 0 ∧ (∃ q2, gp_R (gp_mk L s) q1 0 = some q2 ∧ (gp_in (gp_mk L s) 101 q2 p1 ∧ ∀ s3, s3 = gp_wL s q2 p1.toNat (0#64) → ((gp_sh (gp_mk L s3) q1).1 = 0 ∧ (∃ q4, gp_R (gp_mk L s3) q1 1 = some q4 ∧ (gp_in (gp_mk L s3) 101 q4 p1 ∧ ∀ s5, s5 = gp_wL s3 q4 p1.toNat (0#64) → gs_E L (d + 1) 2 25 [gp_r (some q1), gp_r p0, gp_i p1, gp_l (((1#64) <<< (p1 % 64).toNat) ^^^ (BitVec.ofInt 64 (-1))), gp_n, gp_i 0] [] s5 K)))))))) : gs_C L (d + 1) 2 6 [gp_r this, gp_r p0, gp_i p1] s K := by
  show gs_E L (d + 1) 2 0 [gp_r this, gp_r p0, gp_i p1, gp_n, gp_n, gp_n] [] s K
  refine gs_E.stp (pc' := 1) (ls' := [gp_r this, gp_r p0, gp_i p1, gp_n, gp_n, gp_n]) (st' := [gp_r this]) (s' := s) 1 rfl ?_
  obtain ⟨q1, hq, H⟩ := H
  rw [hq]
  refine gs_E.ck (pc' := 4) (ls' := [gp_r (some q1), gp_r p0, gp_i p1, gp_n, gp_n, gp_n]) (st' := [gp_r (gp_R (gp_mk L s) q1 0)]) (s' := s) rfl H.1 ?_
  replace H := H.2
  refine gs_E.stp (pc' := 6) (ls' := [gp_r (some q1), gp_r p0, gp_i p1, gp_n, gp_n, gp_n]) (st' := [gp_l (0#64), gp_i p1, gp_r (gp_R (gp_mk L s) q1 0)]) (s' := s) 2 rfl ?_
  obtain ⟨q2, hq, H⟩ := H
  rw [hq]
  refine gs_E.ck (pc' := 7) (ls' := [gp_r (some q1), gp_r p0, gp_i p1, gp_n, gp_n, gp_n]) (st' := []) (s' := gp_wL s q2 p1.toNat (0#64)) rfl H.1 ?_
  replace H := H.2 _ rfl
  generalize gp_wL s q2 p1.toNat (0#64) = s3 at H ⊢
  refine gs_E.stp (pc' := 8) (ls' := [gp_r (some q1), gp_r p0, gp_i p1, gp_n, gp_n, gp_n]) (st' := [gp_r (some q1)]) (s' := s3) 1 rfl ?_
  refine gs_E.ck (pc' := 11) (ls' := [gp_r (some q1), gp_r p0, gp_i p1, gp_n, gp_n, gp_n]) (st' := [gp_r (gp_R (gp_mk L s3) q1 1)]) (s' := s3) rfl H.1 ?_
  replace H := H.2
  refine gs_E.stp (pc' := 13) (ls' := [gp_r (some q1), gp_r p0, gp_i p1, gp_n, gp_n, gp_n]) (st' := [gp_l (0#64), gp_i p1, gp_r (gp_R (gp_mk L s3) q1 1)]) (s' := s3) 2 rfl ?_
  obtain ⟨q4, hq, H⟩ := H
  rw [hq]
  refine gs_E.ck (pc' := 14) (ls' := [gp_r (some q1), gp_r p0, gp_i p1, gp_n, gp_n, gp_n]) (st' := []) (s' := gp_wL s3 q4 p1.toNat (0#64)) rfl H.1 ?_
  replace H := H.2 _ rfl
  generalize gp_wL s3 q4 p1.toNat (0#64) = s5 at H ⊢
  refine gs_E.stp (pc' := 25) (ls' := [gp_r (some q1), gp_r p0, gp_i p1, gp_l (((1#64) <<< (p1 % 64).toNat) ^^^ (BitVec.ofInt 64 (-1))), gp_n, gp_i 0]) (st' := []) (s' := s5) 8 rfl ?_
  exact H

set_option maxRecDepth 100000 in
/-- Least.relateLast, pc 25 -/
theorem s_2_25 {L d : Nat} {K : Option gV → gH → Prop} {s : gH} (v0 : Option Nat) (v1 : Option Nat) (v2 : Int) (v3 : BitVec 64) (v5 : Int) (H : ((v5 < v2 → (∃ q1, v0 = some q1 ∧ ((gp_sh (gp_mk L s) q1).1 = 0 ∧ (∃ q2, gp_R (gp_mk L s) q1 0 = some q2 ∧ (gp_in (gp_mk L s) 101 q2 v5 ∧ (gp_in (gp_mk L s) 101 q2 v5 ∧ ∀ s3, s3 = gp_wL s q2 v5.toNat ((gp_L s q2 v5.toNat) &&& v3) → ((gp_sh (gp_mk L s3) q1).1 = 0 ∧ (∃ q4, gp_R (gp_mk L s3) q1 1 = some q4 ∧ (gp_in (gp_mk L s3) 101 q4 v5 ∧ (gp_in (gp_mk L s3) 101 q4 v5 ∧ ∀ s5, s5 = gp_wL s3 q4 v5.toNat ((gp_L s3 q4 v5.toNat) &&& v3) → ((gp_sh (gp_mk L s5) q1).1 = 0 ∧ gs_C L d 4 8 [gp_r (some q1), gp_r v1, gp_i v2, gp_r v1, gp_i v5] s5 (fun r s6 => ∃ x7, r = some (gp_i x7) ∧ ((x7 = 0 → gs_E L (d + 1) 2 72 [gp_r (some q1), gp_r v1, gp_i v2, gp_l v3, gp_n, gp_i v5] [] s6 K) ∧ (¬ x7 = 0 → ((gp_sh (gp_mk L s6) q1).1 = 0 ∧ gs_C L d 3 3 [gp_r (some q1), gp_i v2, gp_i v5] s6 (fun r s8 => r = none ∧ gs_E L (d + 1) 2 72 [gp_r (some q1), gp_r v1, gp_i v2, gp_l v3, gp_n, gp_i v5] [] s8 K)))))))))))))))) ∧ (¬ v5 < v2 → K none s))) : gs_E L (d + 1) 2 25 [gp_r v0, gp_r v1, gp_i v2, gp_l v3, gp_n, gp_i v5] [] s K := by
  refine gs_E.stp (pc' := 28) (ls' := [gp_r v0, gp_r v1, gp_i v2, gp_l v3, gp_n, gp_i v5]) (st' := [gp_i v2, gp_i v5]) (s' := s) 2 rfl ?_
  refine gs_E.br (c := ¬ v5 < v2) (p1 := 97) (p2 := 31) (l1 := [gp_r v0, gp_r v1, gp_i v2, gp_l v3, gp_n, gp_i v5]) (l2 := [gp_r v0, gp_r v1, gp_i v2, gp_l v3, gp_n, gp_i v5]) (s1 := []) (s2 := []) rfl gs_b2 (fun hc => ?_) (fun hc => ?_)
  · replace H := H.2 hc
    exact gs_E.ret (r := none) rfl H
  · replace H := H.1 (Decidable.byContradiction hc)
    refine gs_E.stp (pc' := 32) (ls' := [gp_r v0, gp_r v1, gp_i v2, gp_l v3, gp_n, gp_i v5]) (st' := [gp_r v0]) (s' := s) 1 rfl ?_
    obtain ⟨q1, hq, H⟩ := H
    rw [hq]
    refine gs_E.ck (pc' := 35) (ls' := [gp_r (some q1), gp_r v1, gp_i v2, gp_l v3, gp_n, gp_i v5]) (st' := [gp_r (gp_R (gp_mk L s) q1 0)]) (s' := s) rfl H.1 ?_
    replace H := H.2
    refine gs_E.stp (pc' := 38) (ls' := [gp_r (some q1), gp_r v1, gp_i v2, gp_l v3, gp_n, gp_i v5]) (st' := [gp_i v5, gp_r (gp_R (gp_mk L s) q1 0), gp_i v5, gp_r (gp_R (gp_mk L s) q1 0)]) (s' := s) 2 rfl ?_
    obtain ⟨q2, hq, H⟩ := H
    rw [hq]
    refine gs_E.ck (pc' := 39) (ls' := [gp_r (some q1), gp_r v1, gp_i v2, gp_l v3, gp_n, gp_i v5]) (st' := [gp_l (gp_L s q2 v5.toNat), gp_i v5, gp_r (some q2)]) (s' := s) rfl H.1 ?_
    replace H := H.2
    refine gs_E.stp (pc' := 41) (ls' := [gp_r (some q1), gp_r v1, gp_i v2, gp_l v3, gp_n, gp_i v5]) (st' := [gp_l ((gp_L s q2 v5.toNat) &&& v3), gp_i v5, gp_r (some q2)]) (s' := s) 2 rfl ?_
    refine gs_E.ck (pc' := 42) (ls' := [gp_r (some q1), gp_r v1, gp_i v2, gp_l v3, gp_n, gp_i v5]) (st' := []) (s' := gp_wL s q2 v5.toNat ((gp_L s q2 v5.toNat) &&& v3)) rfl H.1 ?_
    replace H := H.2 _ rfl
    generalize gp_wL s q2 v5.toNat ((gp_L s q2 v5.toNat) &&& v3) = s3 at H ⊢
    refine gs_E.stp (pc' := 43) (ls' := [gp_r (some q1), gp_r v1, gp_i v2, gp_l v3, gp_n, gp_i v5]) (st' := [gp_r (some q1)]) (s' := s3) 1 rfl ?_
    refine gs_E.ck (pc' := 46) (ls' := [gp_r (some q1), gp_r v1, gp_i v2, gp_l v3, gp_n, gp_i v5]) (st' := [gp_r (gp_R (gp_mk L s3) q1 1)]) (s' := s3) rfl H.1 ?_
    replace H := H.2
    refine gs_E.stp (pc' := 49) (ls' := [gp_r (some q1), gp_r v1, gp_i v2, gp_l v3, gp_n, gp_i v5]) (st' := [gp_i v5, gp_r (gp_R (gp_mk L s3) q1 1), gp_i v5, gp_r (gp_R (gp_mk L s3) q1 1)]) (s' := s3) 2 rfl ?_
    obtain ⟨q4, hq, H⟩ := H
    rw [hq]
    refine gs_E.ck (pc' := 50) (ls' := [gp_r (some q1), gp_r v1, gp_i v2, gp_l v3, gp_n, gp_i v5]) (st' := [gp_l (gp_L s3 q4 v5.toNat), gp_i v5, gp_r (some q4)]) (s' := s3) rfl H.1 ?_
    replace H := H.2
    refine gs_E.stp (pc' := 52) (ls' := [gp_r (some q1), gp_r v1, gp_i v2, gp_l v3, gp_n, gp_i v5]) (st' := [gp_l ((gp_L s3 q4 v5.toNat) &&& v3), gp_i v5, gp_r (some q4)]) (s' := s3) 2 rfl ?_
    refine gs_E.ck (pc' := 53) (ls' := [gp_r (some q1), gp_r v1, gp_i v2, gp_l v3, gp_n, gp_i v5]) (st' := []) (s' := gp_wL s3 q4 v5.toNat ((gp_L s3 q4 v5.toNat) &&& v3)) rfl H.1 ?_
    replace H := H.2 _ rfl
    generalize gp_wL s3 q4 v5.toNat ((gp_L s3 q4 v5.toNat) &&& v3) = s5 at H ⊢
    refine gs_E.stp (pc' := 59) (ls' := [gp_r (some q1), gp_r v1, gp_i v2, gp_l v3, gp_n, gp_i v5]) (st' := [gp_i v5, gp_r v1, gp_i v2, gp_r v1, gp_r (some q1)]) (s' := s5) 5 rfl ?_
    refine gs_E.callV (args := [gp_r (some q1), gp_r v1, gp_i v2, gp_r v1, gp_i v5]) (m := 8) (y' := 4) (st' := []) rfl H.1 H.2 (fun r s6 H => ?_)
    obtain ⟨x7, rfl, H⟩ := H
    show gs_E L (d + 1) 2 62 [gp_r (some q1), gp_r v1, gp_i v2, gp_l v3, gp_n, gp_i v5] [gp_i x7] s6 K
    refine gs_E.br (c := x7 = 0) (p1 := 72) (p2 := 65) (l1 := [gp_r (some q1), gp_r v1, gp_i v2, gp_l v3, gp_n, gp_i v5]) (l2 := [gp_r (some q1), gp_r v1, gp_i v2, gp_l v3, gp_n, gp_i v5]) (s1 := []) (s2 := []) rfl gs_b1 (fun hc => ?_) (fun hc => ?_)
    · replace H := H.1 hc
      exact H
    · replace H := H.2 hc
      refine gs_E.stp (pc' := 69) (ls' := [gp_r (some q1), gp_r v1, gp_i v2, gp_l v3, gp_n, gp_i v5]) (st' := [gp_i v5, gp_i v2, gp_r (some q1)]) (s' := s6) 3 rfl ?_
      refine gs_E.callV (args := [gp_r (some q1), gp_i v2, gp_i v5]) (m := 3) (y' := 3) (st' := []) rfl H.1 H.2 (fun r s8 H => ?_)
      obtain ⟨rfl, H⟩ := H
      show gs_E L (d + 1) 2 72 [gp_r (some q1), gp_r v1, gp_i v2, gp_l v3, gp_n, gp_i v5] [] s8 K
      exact H

set_option maxRecDepth 100000 in
/-- Least.relateLast, pc 72 -/
theorem s_2_72 {L d : Nat} {K : Option gV → gH → Prop} {s : gH} (v0 : Option Nat) (v1 : Option Nat) (v2 : Int) (v3 : BitVec 64) (v5 : Int) (H : (∃ q1, v0 = some q1 ∧ ((gp_sh (gp_mk L s) q1).1 = 0 ∧ gs_C L d 4 8 [gp_r (some q1), gp_r v1, gp_i v5, gp_r v1, gp_i v2] s (fun r s2 => ∃ x3, r = some (gp_i x3) ∧ ((x3 = 0 → gs_E L (d + 1) 2 91 [gp_r (some q1), gp_r v1, gp_i v2, gp_l v3, gp_n, gp_i v5] [] s2 K) ∧ (¬ x3 = 0 → ((gp_sh (gp_mk L s2) q1).1 = 0 ∧ gs_C L d 3 3 [gp_r (some q1), gp_i v5, gp_i v2] s2 (fun r s4 => r = none ∧ gs_E L (d + 1) 2 91 [gp_r (some q1), gp_r v1, gp_i v2, gp_l v3, gp_n, gp_i v5] [] s4 K)))))))) : gs_E L (d + 1) 2 72 [gp_r v0, gp_r v1, gp_i v2, gp_l v3, gp_n, gp_i v5] [] s K := by
  refine gs_E.stp (pc' := 78) (ls' := [gp_r v0, gp_r v1, gp_i v2, gp_l v3, gp_n, gp_i v5]) (st' := [gp_i v2, gp_r v1, gp_i v5, gp_r v1, gp_r v0]) (s' := s) 5 rfl ?_
  obtain ⟨q1, hq, H⟩ := H
  rw [hq]
  refine gs_E.callV (args := [gp_r (some q1), gp_r v1, gp_i v5, gp_r v1, gp_i v2]) (m := 8) (y' := 4) (st' := []) rfl H.1 H.2 (fun r s2 H => ?_)
  obtain ⟨x3, rfl, H⟩ := H
  show gs_E L (d + 1) 2 81 [gp_r (some q1), gp_r v1, gp_i v2, gp_l v3, gp_n, gp_i v5] [gp_i x3] s2 K
  refine gs_E.br (c := x3 = 0) (p1 := 91) (p2 := 84) (l1 := [gp_r (some q1), gp_r v1, gp_i v2, gp_l v3, gp_n, gp_i v5]) (l2 := [gp_r (some q1), gp_r v1, gp_i v2, gp_l v3, gp_n, gp_i v5]) (s1 := []) (s2 := []) rfl gs_b1 (fun hc => ?_) (fun hc => ?_)
  · replace H := H.1 hc
    exact H
  · replace H := H.2 hc
    refine gs_E.stp (pc' := 88) (ls' := [gp_r (some q1), gp_r v1, gp_i v2, gp_l v3, gp_n, gp_i v5]) (st' := [gp_i v2, gp_i v5, gp_r (some q1)]) (s' := s2) 3 rfl ?_
    refine gs_E.callV (args := [gp_r (some q1), gp_i v5, gp_i v2]) (m := 3) (y' := 3) (st' := []) rfl H.1 H.2 (fun r s4 H => ?_)
    obtain ⟨rfl, H⟩ := H
    show gs_E L (d + 1) 2 91 [gp_r (some q1), gp_r v1, gp_i v2, gp_l v3, gp_n, gp_i v5] [] s4 K
    exact H

set_option maxRecDepth 100000 in
/-- Least.relateLast, pc 91 -/
theorem s_2_91 {L d : Nat} {K : Option gV → gH → Prop} {s : gH} (v0 : Option Nat) (v1 : Option Nat) (v2 : Int) (v3 : BitVec 64) (v5 : Int) (H : gs_E L (d + 1) 2 25 [gp_r v0, gp_r v1, gp_i v2, gp_l v3, gp_n, gp_i (gp_wr (v5 + 1))] [] s K) : gs_E L (d + 1) 2 91 [gp_r v0, gp_r v1, gp_i v2, gp_l v3, gp_n, gp_i v5] [] s K := by
  refine gs_E.stp (pc' := 25) (ls' := [gp_r v0, gp_r v1, gp_i v2, gp_l v3, gp_n, gp_i (gp_wr (v5 + 1))]) (st' := []) (s' := s) 2 rfl ?_
  exact H

set_option maxRecDepth 100000 in
/-- Least.note, pc 0 -/
theorem s_3_e {L d : Nat} {K : Option gV → gH → Prop} {s : gH} (this : Option Nat) (p0 : Int) (p1 : Int) (H : (∃ q1, this = some q1 ∧ ((gp_sh (gp_mk L s) q1).1 = 0 ∧ (∃ q2, gp_R (gp_mk L s) q1 0 = some q2 ∧ (gp_in (gp_mk L s) 101 q2 p0 ∧ (gp_in (gp_mk L s) 101 q2 p0 ∧ ∀ s3, s3 = gp_wL s q2 p0.toNat ((gp_L s q2 p0.toNat) ||| ((1#64) <<< (p1 % 64).toNat)) → ((gp_sh (gp_mk L s3) q1).1 = 0 ∧ (∃ q4, gp_R (gp_mk L s3) q1 1 = some q4 ∧ (gp_in (gp_mk L s3) 101 q4 p1 ∧ (gp_in (gp_mk L s3) 101 q4 p1 ∧ ∀ s5, s5 = gp_wL s3 q4 p1.toNat ((gp_L s3 q4 p1.toNat) ||| ((1#64) <<< (p0 % 64).toNat)) → K none s5)))))))))) : gs_C L d 3 3 [gp_r this, gp_i p0, gp_i p1] s K := by
  show gs_E L d 3 0 [gp_r this, gp_i p0, gp_i p1] [] s K
  refine gs_E.stp (pc' := 1) (ls' := [gp_r this, gp_i p0, gp_i p1]) (st' := [gp_r this]) (s' := s) 1 rfl ?_
  obtain ⟨q1, hq, H⟩ := H
  rw [hq]
  refine gs_E.ck (pc' := 4) (ls' := [gp_r (some q1), gp_i p0, gp_i p1]) (st' := [gp_r (gp_R (gp_mk L s) q1 0)]) (s' := s) rfl H.1 ?_
  replace H := H.2
  refine gs_E.stp (pc' := 6) (ls' := [gp_r (some q1), gp_i p0, gp_i p1]) (st' := [gp_i p0, gp_r (gp_R (gp_mk L s) q1 0), gp_i p0, gp_r (gp_R (gp_mk L s) q1 0)]) (s' := s) 2 rfl ?_
  obtain ⟨q2, hq, H⟩ := H
  rw [hq]
  refine gs_E.ck (pc' := 7) (ls' := [gp_r (some q1), gp_i p0, gp_i p1]) (st' := [gp_l (gp_L s q2 p0.toNat), gp_i p0, gp_r (some q2)]) (s' := s) rfl H.1 ?_
  replace H := H.2
  refine gs_E.stp (pc' := 11) (ls' := [gp_r (some q1), gp_i p0, gp_i p1]) (st' := [gp_l ((gp_L s q2 p0.toNat) ||| ((1#64) <<< (p1 % 64).toNat)), gp_i p0, gp_r (some q2)]) (s' := s) 4 rfl ?_
  refine gs_E.ck (pc' := 12) (ls' := [gp_r (some q1), gp_i p0, gp_i p1]) (st' := []) (s' := gp_wL s q2 p0.toNat ((gp_L s q2 p0.toNat) ||| ((1#64) <<< (p1 % 64).toNat))) rfl H.1 ?_
  replace H := H.2 _ rfl
  generalize gp_wL s q2 p0.toNat ((gp_L s q2 p0.toNat) ||| ((1#64) <<< (p1 % 64).toNat)) = s3 at H ⊢
  refine gs_E.stp (pc' := 13) (ls' := [gp_r (some q1), gp_i p0, gp_i p1]) (st' := [gp_r (some q1)]) (s' := s3) 1 rfl ?_
  refine gs_E.ck (pc' := 16) (ls' := [gp_r (some q1), gp_i p0, gp_i p1]) (st' := [gp_r (gp_R (gp_mk L s3) q1 1)]) (s' := s3) rfl H.1 ?_
  replace H := H.2
  refine gs_E.stp (pc' := 18) (ls' := [gp_r (some q1), gp_i p0, gp_i p1]) (st' := [gp_i p1, gp_r (gp_R (gp_mk L s3) q1 1), gp_i p1, gp_r (gp_R (gp_mk L s3) q1 1)]) (s' := s3) 2 rfl ?_
  obtain ⟨q4, hq, H⟩ := H
  rw [hq]
  refine gs_E.ck (pc' := 19) (ls' := [gp_r (some q1), gp_i p0, gp_i p1]) (st' := [gp_l (gp_L s3 q4 p1.toNat), gp_i p1, gp_r (some q4)]) (s' := s3) rfl H.1 ?_
  replace H := H.2
  refine gs_E.stp (pc' := 23) (ls' := [gp_r (some q1), gp_i p0, gp_i p1]) (st' := [gp_l ((gp_L s3 q4 p1.toNat) ||| ((1#64) <<< (p0 % 64).toNat)), gp_i p1, gp_r (some q4)]) (s' := s3) 4 rfl ?_
  refine gs_E.ck (pc' := 24) (ls' := [gp_r (some q1), gp_i p0, gp_i p1]) (st' := []) (s' := gp_wL s3 q4 p1.toNat ((gp_L s3 q4 p1.toNat) ||| ((1#64) <<< (p0 % 64).toNat))) rfl H.1 ?_
  replace H := H.2 _ rfl
  generalize gp_wL s3 q4 p1.toNat ((gp_L s3 q4 p1.toNat) ||| ((1#64) <<< (p0 % 64).toNat)) = s5 at H ⊢
  exact gs_E.ret (r := none) rfl H

set_option maxRecDepth 100000 in
/-- Least.shown, pc 0 -/
theorem s_4_e {L d : Nat} {K : Option gV → gH → Prop} {s : gH} (this : Option Nat) (p0 : Option Nat) (p1 : Int) (p2 : Option Nat) (p3 : Int) (H : (∃ q1, p0 = some q1 ∧ ((gp_sh (gp_mk L s) q1).1 = 9 ∧ (∃ q2, gp_R (gp_mk L s) q1 6 = some q2 ∧ (gp_in (gp_mk L s) 100 q2 p1 ∧ (∃ q3, p2 = some q3 ∧ ((gp_sh (gp_mk L s) q3).1 = 9 ∧ (∃ q4, gp_R (gp_mk L s) q3 6 = some q4 ∧ (gp_in (gp_mk L s) 100 q4 p3 ∧ (((gp_I s q2 p1.toNat) < (gp_I s q4 p3.toNat) → gs_E L (d + 1) 4 32 [gp_r this, gp_r (some q1), gp_i p1, gp_r (some q3), gp_i p3, gp_n, gp_n, gp_n] [] s K) ∧ (¬ (gp_I s q2 p1.toNat) < (gp_I s q4 p3.toNat) → ((gp_sh (gp_mk L s) q1).1 = 9 ∧ (∃ q5, gp_R (gp_mk L s) q1 7 = some q5 ∧ (gp_in (gp_mk L s) 100 q5 p1 ∧ ((gp_sh (gp_mk L s) q3).1 = 9 ∧ (∃ q6, gp_R (gp_mk L s) q3 7 = some q6 ∧ (gp_in (gp_mk L s) 100 q6 p3 ∧ (((gp_I s q5 p1.toNat) < (gp_I s q6 p3.toNat) → gs_E L (d + 1) 4 32 [gp_r this, gp_r (some q1), gp_i p1, gp_r (some q3), gp_i p3, gp_n, gp_n, gp_n] [] s K) ∧ (¬ (gp_I s q5 p1.toNat) < (gp_I s q6 p3.toNat) → ((gp_sh (gp_mk L s) q3).1 = 9 ∧ (∃ q7, gp_R (gp_mk L s) q3 1 = some q7 ∧ (gp_in (gp_mk L s) 101 q7 p3 ∧ gs_E L (d + 1) 4 43 [gp_r this, gp_r (some q1), gp_i p1, gp_r (some q3), gp_i p3, gp_l (gp_L s q7 p3.toNat), gp_n, gp_n] [] s K)))))))))))))))))))))) : gs_C L (d + 1) 4 8 [gp_r this, gp_r p0, gp_i p1, gp_r p2, gp_i p3] s K := by
  show gs_E L (d + 1) 4 0 [gp_r this, gp_r p0, gp_i p1, gp_r p2, gp_i p3, gp_n, gp_n, gp_n] [] s K
  refine gs_E.stp (pc' := 1) (ls' := [gp_r this, gp_r p0, gp_i p1, gp_r p2, gp_i p3, gp_n, gp_n, gp_n]) (st' := [gp_r p0]) (s' := s) 1 rfl ?_
  obtain ⟨q1, hq, H⟩ := H
  rw [hq]
  refine gs_E.ck (pc' := 4) (ls' := [gp_r this, gp_r (some q1), gp_i p1, gp_r p2, gp_i p3, gp_n, gp_n, gp_n]) (st' := [gp_r (gp_R (gp_mk L s) q1 6)]) (s' := s) rfl H.1 ?_
  replace H := H.2
  refine gs_E.stp (pc' := 5) (ls' := [gp_r this, gp_r (some q1), gp_i p1, gp_r p2, gp_i p3, gp_n, gp_n, gp_n]) (st' := [gp_i p1, gp_r (gp_R (gp_mk L s) q1 6)]) (s' := s) 1 rfl ?_
  obtain ⟨q2, hq, H⟩ := H
  rw [hq]
  refine gs_E.ck (pc' := 6) (ls' := [gp_r this, gp_r (some q1), gp_i p1, gp_r p2, gp_i p3, gp_n, gp_n, gp_n]) (st' := [gp_i (gp_I s q2 p1.toNat)]) (s' := s) rfl (Or.inl H.1) ?_
  replace H := H.2
  refine gs_E.stp (pc' := 7) (ls' := [gp_r this, gp_r (some q1), gp_i p1, gp_r p2, gp_i p3, gp_n, gp_n, gp_n]) (st' := [gp_r p2, gp_i (gp_I s q2 p1.toNat)]) (s' := s) 1 rfl ?_
  obtain ⟨q3, hq, H⟩ := H
  rw [hq]
  refine gs_E.ck (pc' := 10) (ls' := [gp_r this, gp_r (some q1), gp_i p1, gp_r (some q3), gp_i p3, gp_n, gp_n, gp_n]) (st' := [gp_r (gp_R (gp_mk L s) q3 6), gp_i (gp_I s q2 p1.toNat)]) (s' := s) rfl H.1 ?_
  replace H := H.2
  refine gs_E.stp (pc' := 12) (ls' := [gp_r this, gp_r (some q1), gp_i p1, gp_r (some q3), gp_i p3, gp_n, gp_n, gp_n]) (st' := [gp_i p3, gp_r (gp_R (gp_mk L s) q3 6), gp_i (gp_I s q2 p1.toNat)]) (s' := s) 1 rfl ?_
  obtain ⟨q4, hq, H⟩ := H
  rw [hq]
  refine gs_E.ck (pc' := 13) (ls' := [gp_r this, gp_r (some q1), gp_i p1, gp_r (some q3), gp_i p3, gp_n, gp_n, gp_n]) (st' := [gp_i (gp_I s q4 p3.toNat), gp_i (gp_I s q2 p1.toNat)]) (s' := s) rfl (Or.inl H.1) ?_
  replace H := H.2
  refine gs_E.br (c := (gp_I s q2 p1.toNat) < (gp_I s q4 p3.toNat)) (p1 := 32) (p2 := 16) (l1 := [gp_r this, gp_r (some q1), gp_i p1, gp_r (some q3), gp_i p3, gp_n, gp_n, gp_n]) (l2 := [gp_r this, gp_r (some q1), gp_i p1, gp_r (some q3), gp_i p3, gp_n, gp_n, gp_n]) (s1 := []) (s2 := []) rfl gs_b1 (fun hc => ?_) (fun hc => ?_)
  · replace H := H.1 hc
    exact H
  · replace H := H.2 hc
    refine gs_E.stp (pc' := 17) (ls' := [gp_r this, gp_r (some q1), gp_i p1, gp_r (some q3), gp_i p3, gp_n, gp_n, gp_n]) (st' := [gp_r (some q1)]) (s' := s) 1 rfl ?_
    refine gs_E.ck (pc' := 20) (ls' := [gp_r this, gp_r (some q1), gp_i p1, gp_r (some q3), gp_i p3, gp_n, gp_n, gp_n]) (st' := [gp_r (gp_R (gp_mk L s) q1 7)]) (s' := s) rfl H.1 ?_
    replace H := H.2
    refine gs_E.stp (pc' := 21) (ls' := [gp_r this, gp_r (some q1), gp_i p1, gp_r (some q3), gp_i p3, gp_n, gp_n, gp_n]) (st' := [gp_i p1, gp_r (gp_R (gp_mk L s) q1 7)]) (s' := s) 1 rfl ?_
    obtain ⟨q5, hq, H⟩ := H
    rw [hq]
    refine gs_E.ck (pc' := 22) (ls' := [gp_r this, gp_r (some q1), gp_i p1, gp_r (some q3), gp_i p3, gp_n, gp_n, gp_n]) (st' := [gp_i (gp_I s q5 p1.toNat)]) (s' := s) rfl (Or.inl H.1) ?_
    replace H := H.2
    refine gs_E.stp (pc' := 23) (ls' := [gp_r this, gp_r (some q1), gp_i p1, gp_r (some q3), gp_i p3, gp_n, gp_n, gp_n]) (st' := [gp_r (some q3), gp_i (gp_I s q5 p1.toNat)]) (s' := s) 1 rfl ?_
    refine gs_E.ck (pc' := 26) (ls' := [gp_r this, gp_r (some q1), gp_i p1, gp_r (some q3), gp_i p3, gp_n, gp_n, gp_n]) (st' := [gp_r (gp_R (gp_mk L s) q3 7), gp_i (gp_I s q5 p1.toNat)]) (s' := s) rfl H.1 ?_
    replace H := H.2
    refine gs_E.stp (pc' := 28) (ls' := [gp_r this, gp_r (some q1), gp_i p1, gp_r (some q3), gp_i p3, gp_n, gp_n, gp_n]) (st' := [gp_i p3, gp_r (gp_R (gp_mk L s) q3 7), gp_i (gp_I s q5 p1.toNat)]) (s' := s) 1 rfl ?_
    obtain ⟨q6, hq, H⟩ := H
    rw [hq]
    refine gs_E.ck (pc' := 29) (ls' := [gp_r this, gp_r (some q1), gp_i p1, gp_r (some q3), gp_i p3, gp_n, gp_n, gp_n]) (st' := [gp_i (gp_I s q6 p3.toNat), gp_i (gp_I s q5 p1.toNat)]) (s' := s) rfl (Or.inl H.1) ?_
    replace H := H.2
    refine gs_E.br (c := ¬ (gp_I s q5 p1.toNat) < (gp_I s q6 p3.toNat)) (p1 := 34) (p2 := 32) (l1 := [gp_r this, gp_r (some q1), gp_i p1, gp_r (some q3), gp_i p3, gp_n, gp_n, gp_n]) (l2 := [gp_r this, gp_r (some q1), gp_i p1, gp_r (some q3), gp_i p3, gp_n, gp_n, gp_n]) (s1 := []) (s2 := []) rfl gs_b2 (fun hc => ?_) (fun hc => ?_)
    · replace H := H.2 hc
      refine gs_E.stp (pc' := 35) (ls' := [gp_r this, gp_r (some q1), gp_i p1, gp_r (some q3), gp_i p3, gp_n, gp_n, gp_n]) (st' := [gp_r (some q3)]) (s' := s) 1 rfl ?_
      refine gs_E.ck (pc' := 38) (ls' := [gp_r this, gp_r (some q1), gp_i p1, gp_r (some q3), gp_i p3, gp_n, gp_n, gp_n]) (st' := [gp_r (gp_R (gp_mk L s) q3 1)]) (s' := s) rfl H.1 ?_
      replace H := H.2
      refine gs_E.stp (pc' := 40) (ls' := [gp_r this, gp_r (some q1), gp_i p1, gp_r (some q3), gp_i p3, gp_n, gp_n, gp_n]) (st' := [gp_i p3, gp_r (gp_R (gp_mk L s) q3 1)]) (s' := s) 1 rfl ?_
      obtain ⟨q7, hq, H⟩ := H
      rw [hq]
      refine gs_E.ck (pc' := 41) (ls' := [gp_r this, gp_r (some q1), gp_i p1, gp_r (some q3), gp_i p3, gp_n, gp_n, gp_n]) (st' := [gp_l (gp_L s q7 p3.toNat)]) (s' := s) rfl H.1 ?_
      replace H := H.2
      refine gs_E.stp (pc' := 43) (ls' := [gp_r this, gp_r (some q1), gp_i p1, gp_r (some q3), gp_i p3, gp_l (gp_L s q7 p3.toNat), gp_n, gp_n]) (st' := []) (s' := s) 1 rfl ?_
      exact H
    · replace H := H.1 (Decidable.byContradiction hc)
      exact H

set_option maxRecDepth 100000 in
/-- Least.shown, pc 32 -/
theorem s_4_32 {L d : Nat} {K : Option gV → gH → Prop} {s : gH} (v0 : Option Nat) (v1 : Option Nat) (v2 : Int) (v3 : Option Nat) (v4 : Int) (v5 : gV) (v6 : gV) (v7 : gV) (H : K (some (gp_i 0)) s) : gs_E L (d + 1) 4 32 [gp_r v0, gp_r v1, gp_i v2, gp_r v3, gp_i v4, v5, v6, v7] [] s K := by
  refine gs_E.stp (pc' := 33) (ls' := [gp_r v0, gp_r v1, gp_i v2, gp_r v3, gp_i v4, v5, v6, v7]) (st' := [gp_i 0]) (s' := s) 1 rfl ?_
  exact gs_E.ret (r := (some (gp_i 0))) rfl H

set_option maxRecDepth 100000 in
/-- Least.shown, pc 43 -/
theorem s_4_43 {L d : Nat} {K : Option gV → gH → Prop} {s : gH} (v0 : Option Nat) (v1 : Option Nat) (v2 : Int) (v3 : Option Nat) (v4 : Int) (v5 : BitVec 64) (v7 : gV) (H : (((gp_cmp v5 (0#64)) = 0 → (∃ q1, v1 = some q1 ∧ ((gp_sh (gp_mk L s) q1).1 = 9 ∧ (∃ q2, gp_R (gp_mk L s) q1 2 = some q2 ∧ (gp_in (gp_mk L s) 101 q2 v2 ∧ gs_E L (d + 1) 4 117 [gp_r v0, gp_r (some q1), gp_i v2, gp_r v3, gp_i v4, gp_l (gp_L s q2 v2.toNat), gp_n, v7] [] s K))))) ∧ (¬ (gp_cmp v5 (0#64)) = 0 → gs_C L d 2859 2 [gp_l v5] s (fun r s3 => ∃ x4, r = some (gp_i x4) ∧ (∃ q5, v1 = some q5 ∧ ((gp_sh (gp_mk L s3) q5).1 = 9 ∧ (∃ q6, gp_R (gp_mk L s3) q5 1 = some q6 ∧ (gp_in (gp_mk L s3) 101 q6 v2 ∧ (∃ q7, v0 = some q7 ∧ ((gp_sh (gp_mk L s3) q7).1 = 0 ∧ (∃ q8, gp_R (gp_mk L s3) q7 1 = some q8 ∧ (gp_in (gp_mk L s3) 101 q8 x4 ∧ (((gp_cmp ((gp_L s3 q6 v2.toNat) &&& (gp_L s3 q8 x4.toNat)) (0#64)) = 0 → (∃ q9, v3 = some q9 ∧ ((gp_sh (gp_mk L s3) q9).1 = 9 ∧ (∃ q10, gp_R (gp_mk L s3) q9 2 = some q10 ∧ (gp_in (gp_mk L s3) 101 q10 x4 ∧ ((gp_sh (gp_mk L s3) q7).1 = 0 ∧ (∃ q11, gp_R (gp_mk L s3) q7 0 = some q11 ∧ (gp_in (gp_mk L s3) 101 q11 v2 ∧ (((gp_cmp ((gp_L s3 q10 x4.toNat) &&& (gp_L s3 q11 v2.toNat)) (0#64)) = 0 → K (some (gp_i 0)) s3) ∧ (¬ (gp_cmp ((gp_L s3 q10 x4.toNat) &&& (gp_L s3 q11 v2.toNat)) (0#64)) = 0 → gs_E L (d + 1) 4 97 [gp_r (some q7), gp_r (some q5), gp_i v2, gp_r (some q9), gp_i v4, gp_l v5, gp_n, gp_i x4] [] s3 K)))))))))) ∧ (¬ (gp_cmp ((gp_L s3 q6 v2.toNat) &&& (gp_L s3 q8 x4.toNat)) (0#64)) = 0 → gs_E L (d + 1) 4 97 [gp_r (some q7), gp_r (some q5), gp_i v2, gp_r v3, gp_i v4, gp_l v5, gp_n, gp_i x4] [] s3 K)))))))))))))) : gs_E L (d + 1) 4 43 [gp_r v0, gp_r v1, gp_i v2, gp_r v3, gp_i v4, gp_l v5, gp_n, v7] [] s K := by
  refine gs_E.stp (pc' := 47) (ls' := [gp_r v0, gp_r v1, gp_i v2, gp_r v3, gp_i v4, gp_l v5, gp_n, v7]) (st' := [gp_i (gp_cmp v5 (0#64))]) (s' := s) 3 rfl ?_
  refine gs_E.br (c := (gp_cmp v5 (0#64)) = 0) (p1 := 109) (p2 := 50) (l1 := [gp_r v0, gp_r v1, gp_i v2, gp_r v3, gp_i v4, gp_l v5, gp_n, v7]) (l2 := [gp_r v0, gp_r v1, gp_i v2, gp_r v3, gp_i v4, gp_l v5, gp_n, v7]) (s1 := []) (s2 := []) rfl gs_b1 (fun hc => ?_) (fun hc => ?_)
  · replace H := H.1 hc
    refine gs_E.stp (pc' := 110) (ls' := [gp_r v0, gp_r v1, gp_i v2, gp_r v3, gp_i v4, gp_l v5, gp_n, v7]) (st' := [gp_r v1]) (s' := s) 1 rfl ?_
    obtain ⟨q1, hq, H⟩ := H
    rw [hq]
    refine gs_E.ck (pc' := 113) (ls' := [gp_r v0, gp_r (some q1), gp_i v2, gp_r v3, gp_i v4, gp_l v5, gp_n, v7]) (st' := [gp_r (gp_R (gp_mk L s) q1 2)]) (s' := s) rfl H.1 ?_
    replace H := H.2
    refine gs_E.stp (pc' := 114) (ls' := [gp_r v0, gp_r (some q1), gp_i v2, gp_r v3, gp_i v4, gp_l v5, gp_n, v7]) (st' := [gp_i v2, gp_r (gp_R (gp_mk L s) q1 2)]) (s' := s) 1 rfl ?_
    obtain ⟨q2, hq, H⟩ := H
    rw [hq]
    refine gs_E.ck (pc' := 115) (ls' := [gp_r v0, gp_r (some q1), gp_i v2, gp_r v3, gp_i v4, gp_l v5, gp_n, v7]) (st' := [gp_l (gp_L s q2 v2.toNat)]) (s' := s) rfl H.1 ?_
    replace H := H.2
    refine gs_E.stp (pc' := 117) (ls' := [gp_r v0, gp_r (some q1), gp_i v2, gp_r v3, gp_i v4, gp_l (gp_L s q2 v2.toNat), gp_n, v7]) (st' := []) (s' := s) 1 rfl ?_
    exact H
  · replace H := H.2 hc
    refine gs_E.stp (pc' := 52) (ls' := [gp_r v0, gp_r v1, gp_i v2, gp_r v3, gp_i v4, gp_l v5, gp_n, v7]) (st' := [gp_l v5]) (s' := s) 1 rfl ?_
    refine gs_E.call (args := [gp_l v5]) (m := 2) (y' := 2859) (st' := []) rfl H (fun r s3 H => ?_)
    obtain ⟨x4, rfl, H⟩ := H
    show gs_E L (d + 1) 4 55 [gp_r v0, gp_r v1, gp_i v2, gp_r v3, gp_i v4, gp_l v5, gp_n, v7] [gp_i x4] s3 K
    refine gs_E.stp (pc' := 58) (ls' := [gp_r v0, gp_r v1, gp_i v2, gp_r v3, gp_i v4, gp_l v5, gp_n, gp_i x4]) (st' := [gp_r v1]) (s' := s3) 2 rfl ?_
    obtain ⟨q5, hq, H⟩ := H
    rw [hq]
    refine gs_E.ck (pc' := 61) (ls' := [gp_r v0, gp_r (some q5), gp_i v2, gp_r v3, gp_i v4, gp_l v5, gp_n, gp_i x4]) (st' := [gp_r (gp_R (gp_mk L s3) q5 1)]) (s' := s3) rfl H.1 ?_
    replace H := H.2
    refine gs_E.stp (pc' := 62) (ls' := [gp_r v0, gp_r (some q5), gp_i v2, gp_r v3, gp_i v4, gp_l v5, gp_n, gp_i x4]) (st' := [gp_i v2, gp_r (gp_R (gp_mk L s3) q5 1)]) (s' := s3) 1 rfl ?_
    obtain ⟨q6, hq, H⟩ := H
    rw [hq]
    refine gs_E.ck (pc' := 63) (ls' := [gp_r v0, gp_r (some q5), gp_i v2, gp_r v3, gp_i v4, gp_l v5, gp_n, gp_i x4]) (st' := [gp_l (gp_L s3 q6 v2.toNat)]) (s' := s3) rfl H.1 ?_
    replace H := H.2
    refine gs_E.stp (pc' := 64) (ls' := [gp_r v0, gp_r (some q5), gp_i v2, gp_r v3, gp_i v4, gp_l v5, gp_n, gp_i x4]) (st' := [gp_r v0, gp_l (gp_L s3 q6 v2.toNat)]) (s' := s3) 1 rfl ?_
    obtain ⟨q7, hq, H⟩ := H
    rw [hq]
    refine gs_E.ck (pc' := 67) (ls' := [gp_r (some q7), gp_r (some q5), gp_i v2, gp_r v3, gp_i v4, gp_l v5, gp_n, gp_i x4]) (st' := [gp_r (gp_R (gp_mk L s3) q7 1), gp_l (gp_L s3 q6 v2.toNat)]) (s' := s3) rfl H.1 ?_
    replace H := H.2
    refine gs_E.stp (pc' := 69) (ls' := [gp_r (some q7), gp_r (some q5), gp_i v2, gp_r v3, gp_i v4, gp_l v5, gp_n, gp_i x4]) (st' := [gp_i x4, gp_r (gp_R (gp_mk L s3) q7 1), gp_l (gp_L s3 q6 v2.toNat)]) (s' := s3) 1 rfl ?_
    obtain ⟨q8, hq, H⟩ := H
    rw [hq]
    refine gs_E.ck (pc' := 70) (ls' := [gp_r (some q7), gp_r (some q5), gp_i v2, gp_r v3, gp_i v4, gp_l v5, gp_n, gp_i x4]) (st' := [gp_l (gp_L s3 q8 x4.toNat), gp_l (gp_L s3 q6 v2.toNat)]) (s' := s3) rfl H.1 ?_
    replace H := H.2
    refine gs_E.stp (pc' := 73) (ls' := [gp_r (some q7), gp_r (some q5), gp_i v2, gp_r v3, gp_i v4, gp_l v5, gp_n, gp_i x4]) (st' := [gp_i (gp_cmp ((gp_L s3 q6 v2.toNat) &&& (gp_L s3 q8 x4.toNat)) (0#64))]) (s' := s3) 3 rfl ?_
    refine gs_E.br (c := ¬ (gp_cmp ((gp_L s3 q6 v2.toNat) &&& (gp_L s3 q8 x4.toNat)) (0#64)) = 0) (p1 := 97) (p2 := 76) (l1 := [gp_r (some q7), gp_r (some q5), gp_i v2, gp_r v3, gp_i v4, gp_l v5, gp_n, gp_i x4]) (l2 := [gp_r (some q7), gp_r (some q5), gp_i v2, gp_r v3, gp_i v4, gp_l v5, gp_n, gp_i x4]) (s1 := []) (s2 := []) rfl gs_b2 (fun hc => ?_) (fun hc => ?_)
    · replace H := H.2 hc
      exact H
    · replace H := H.1 (Decidable.byContradiction hc)
      refine gs_E.stp (pc' := 77) (ls' := [gp_r (some q7), gp_r (some q5), gp_i v2, gp_r v3, gp_i v4, gp_l v5, gp_n, gp_i x4]) (st' := [gp_r v3]) (s' := s3) 1 rfl ?_
      obtain ⟨q9, hq, H⟩ := H
      rw [hq]
      refine gs_E.ck (pc' := 80) (ls' := [gp_r (some q7), gp_r (some q5), gp_i v2, gp_r (some q9), gp_i v4, gp_l v5, gp_n, gp_i x4]) (st' := [gp_r (gp_R (gp_mk L s3) q9 2)]) (s' := s3) rfl H.1 ?_
      replace H := H.2
      refine gs_E.stp (pc' := 82) (ls' := [gp_r (some q7), gp_r (some q5), gp_i v2, gp_r (some q9), gp_i v4, gp_l v5, gp_n, gp_i x4]) (st' := [gp_i x4, gp_r (gp_R (gp_mk L s3) q9 2)]) (s' := s3) 1 rfl ?_
      obtain ⟨q10, hq, H⟩ := H
      rw [hq]
      refine gs_E.ck (pc' := 83) (ls' := [gp_r (some q7), gp_r (some q5), gp_i v2, gp_r (some q9), gp_i v4, gp_l v5, gp_n, gp_i x4]) (st' := [gp_l (gp_L s3 q10 x4.toNat)]) (s' := s3) rfl H.1 ?_
      replace H := H.2
      refine gs_E.stp (pc' := 84) (ls' := [gp_r (some q7), gp_r (some q5), gp_i v2, gp_r (some q9), gp_i v4, gp_l v5, gp_n, gp_i x4]) (st' := [gp_r (some q7), gp_l (gp_L s3 q10 x4.toNat)]) (s' := s3) 1 rfl ?_
      refine gs_E.ck (pc' := 87) (ls' := [gp_r (some q7), gp_r (some q5), gp_i v2, gp_r (some q9), gp_i v4, gp_l v5, gp_n, gp_i x4]) (st' := [gp_r (gp_R (gp_mk L s3) q7 0), gp_l (gp_L s3 q10 x4.toNat)]) (s' := s3) rfl H.1 ?_
      replace H := H.2
      refine gs_E.stp (pc' := 88) (ls' := [gp_r (some q7), gp_r (some q5), gp_i v2, gp_r (some q9), gp_i v4, gp_l v5, gp_n, gp_i x4]) (st' := [gp_i v2, gp_r (gp_R (gp_mk L s3) q7 0), gp_l (gp_L s3 q10 x4.toNat)]) (s' := s3) 1 rfl ?_
      obtain ⟨q11, hq, H⟩ := H
      rw [hq]
      refine gs_E.ck (pc' := 89) (ls' := [gp_r (some q7), gp_r (some q5), gp_i v2, gp_r (some q9), gp_i v4, gp_l v5, gp_n, gp_i x4]) (st' := [gp_l (gp_L s3 q11 v2.toNat), gp_l (gp_L s3 q10 x4.toNat)]) (s' := s3) rfl H.1 ?_
      replace H := H.2
      refine gs_E.stp (pc' := 92) (ls' := [gp_r (some q7), gp_r (some q5), gp_i v2, gp_r (some q9), gp_i v4, gp_l v5, gp_n, gp_i x4]) (st' := [gp_i (gp_cmp ((gp_L s3 q10 x4.toNat) &&& (gp_L s3 q11 v2.toNat)) (0#64))]) (s' := s3) 3 rfl ?_
      refine gs_E.br (c := ¬ (gp_cmp ((gp_L s3 q10 x4.toNat) &&& (gp_L s3 q11 v2.toNat)) (0#64)) = 0) (p1 := 97) (p2 := 95) (l1 := [gp_r (some q7), gp_r (some q5), gp_i v2, gp_r (some q9), gp_i v4, gp_l v5, gp_n, gp_i x4]) (l2 := [gp_r (some q7), gp_r (some q5), gp_i v2, gp_r (some q9), gp_i v4, gp_l v5, gp_n, gp_i x4]) (s1 := []) (s2 := []) rfl gs_b2 (fun hc => ?_) (fun hc => ?_)
      · replace H := H.2 hc
        exact H
      · replace H := H.1 (Decidable.byContradiction hc)
        refine gs_E.stp (pc' := 96) (ls' := [gp_r (some q7), gp_r (some q5), gp_i v2, gp_r (some q9), gp_i v4, gp_l v5, gp_n, gp_i x4]) (st' := [gp_i 0]) (s' := s3) 1 rfl ?_
        exact gs_E.ret (r := (some (gp_i 0))) rfl H

set_option maxRecDepth 100000 in
/-- Least.shown, pc 97 -/
theorem s_4_97 {L d : Nat} {K : Option gV → gH → Prop} {s : gH} (v0 : Option Nat) (v1 : Option Nat) (v2 : Int) (v3 : Option Nat) (v4 : Int) (v5 : BitVec 64) (v7 : Int) (H : gs_E L (d + 1) 4 43 [gp_r v0, gp_r v1, gp_i v2, gp_r v3, gp_i v4, gp_l (v5 &&& (v5 - (1#64))), gp_n, gp_i v7] [] s K) : gs_E L (d + 1) 4 97 [gp_r v0, gp_r v1, gp_i v2, gp_r v3, gp_i v4, gp_l v5, gp_n, gp_i v7] [] s K := by
  refine gs_E.stp (pc' := 43) (ls' := [gp_r v0, gp_r v1, gp_i v2, gp_r v3, gp_i v4, gp_l (v5 &&& (v5 - (1#64))), gp_n, gp_i v7]) (st' := []) (s' := s) 7 rfl ?_
  exact H

set_option maxRecDepth 100000 in
/-- Least.shown, pc 117 -/
theorem s_4_117 {L d : Nat} {K : Option gV → gH → Prop} {s : gH} (v0 : Option Nat) (v1 : Option Nat) (v2 : Int) (v3 : Option Nat) (v4 : Int) (v5 : BitVec 64) (v7 : gV) (H : (((gp_cmp v5 (0#64)) = 0 → K (some (gp_i 1)) s) ∧ (¬ (gp_cmp v5 (0#64)) = 0 → gs_C L d 2859 2 [gp_l v5] s (fun r s1 => ∃ x2, r = some (gp_i x2) ∧ (∃ q3, v3 = some q3 ∧ ((gp_sh (gp_mk L s1) q3).1 = 9 ∧ (∃ q4, gp_R (gp_mk L s1) q3 2 = some q4 ∧ (gp_in (gp_mk L s1) 101 q4 v4 ∧ (∃ q5, v0 = some q5 ∧ ((gp_sh (gp_mk L s1) q5).1 = 0 ∧ (∃ q6, gp_R (gp_mk L s1) q5 0 = some q6 ∧ (gp_in (gp_mk L s1) 101 q6 x2 ∧ (((gp_cmp ((gp_L s1 q4 v4.toNat) &&& (gp_L s1 q6 x2.toNat)) (0#64)) = 0 → (∃ q7, v1 = some q7 ∧ ((gp_sh (gp_mk L s1) q7).1 = 9 ∧ (∃ q8, gp_R (gp_mk L s1) q7 1 = some q8 ∧ (gp_in (gp_mk L s1) 101 q8 x2 ∧ ((gp_sh (gp_mk L s1) q5).1 = 0 ∧ (∃ q9, gp_R (gp_mk L s1) q5 1 = some q9 ∧ (gp_in (gp_mk L s1) 101 q9 v4 ∧ (((gp_cmp ((gp_L s1 q8 x2.toNat) &&& (gp_L s1 q9 v4.toNat)) (0#64)) = 0 → K (some (gp_i 0)) s1) ∧ (¬ (gp_cmp ((gp_L s1 q8 x2.toNat) &&& (gp_L s1 q9 v4.toNat)) (0#64)) = 0 → gs_E L (d + 1) 4 173 [gp_r (some q5), gp_r (some q7), gp_i v2, gp_r (some q3), gp_i v4, gp_l v5, gp_n, gp_i x2] [] s1 K)))))))))) ∧ (¬ (gp_cmp ((gp_L s1 q4 v4.toNat) &&& (gp_L s1 q6 x2.toNat)) (0#64)) = 0 → gs_E L (d + 1) 4 173 [gp_r (some q5), gp_r v1, gp_i v2, gp_r (some q3), gp_i v4, gp_l v5, gp_n, gp_i x2] [] s1 K)))))))))))))) : gs_E L (d + 1) 4 117 [gp_r v0, gp_r v1, gp_i v2, gp_r v3, gp_i v4, gp_l v5, gp_n, v7] [] s K := by
  refine gs_E.stp (pc' := 121) (ls' := [gp_r v0, gp_r v1, gp_i v2, gp_r v3, gp_i v4, gp_l v5, gp_n, v7]) (st' := [gp_i (gp_cmp v5 (0#64))]) (s' := s) 3 rfl ?_
  refine gs_E.br (c := (gp_cmp v5 (0#64)) = 0) (p1 := 185) (p2 := 124) (l1 := [gp_r v0, gp_r v1, gp_i v2, gp_r v3, gp_i v4, gp_l v5, gp_n, v7]) (l2 := [gp_r v0, gp_r v1, gp_i v2, gp_r v3, gp_i v4, gp_l v5, gp_n, v7]) (s1 := []) (s2 := []) rfl gs_b1 (fun hc => ?_) (fun hc => ?_)
  · replace H := H.1 hc
    refine gs_E.stp (pc' := 186) (ls' := [gp_r v0, gp_r v1, gp_i v2, gp_r v3, gp_i v4, gp_l v5, gp_n, v7]) (st' := [gp_i 1]) (s' := s) 1 rfl ?_
    exact gs_E.ret (r := (some (gp_i 1))) rfl H
  · replace H := H.2 hc
    refine gs_E.stp (pc' := 126) (ls' := [gp_r v0, gp_r v1, gp_i v2, gp_r v3, gp_i v4, gp_l v5, gp_n, v7]) (st' := [gp_l v5]) (s' := s) 1 rfl ?_
    refine gs_E.call (args := [gp_l v5]) (m := 2) (y' := 2859) (st' := []) rfl H (fun r s1 H => ?_)
    obtain ⟨x2, rfl, H⟩ := H
    show gs_E L (d + 1) 4 129 [gp_r v0, gp_r v1, gp_i v2, gp_r v3, gp_i v4, gp_l v5, gp_n, v7] [gp_i x2] s1 K
    refine gs_E.stp (pc' := 132) (ls' := [gp_r v0, gp_r v1, gp_i v2, gp_r v3, gp_i v4, gp_l v5, gp_n, gp_i x2]) (st' := [gp_r v3]) (s' := s1) 2 rfl ?_
    obtain ⟨q3, hq, H⟩ := H
    rw [hq]
    refine gs_E.ck (pc' := 135) (ls' := [gp_r v0, gp_r v1, gp_i v2, gp_r (some q3), gp_i v4, gp_l v5, gp_n, gp_i x2]) (st' := [gp_r (gp_R (gp_mk L s1) q3 2)]) (s' := s1) rfl H.1 ?_
    replace H := H.2
    refine gs_E.stp (pc' := 137) (ls' := [gp_r v0, gp_r v1, gp_i v2, gp_r (some q3), gp_i v4, gp_l v5, gp_n, gp_i x2]) (st' := [gp_i v4, gp_r (gp_R (gp_mk L s1) q3 2)]) (s' := s1) 1 rfl ?_
    obtain ⟨q4, hq, H⟩ := H
    rw [hq]
    refine gs_E.ck (pc' := 138) (ls' := [gp_r v0, gp_r v1, gp_i v2, gp_r (some q3), gp_i v4, gp_l v5, gp_n, gp_i x2]) (st' := [gp_l (gp_L s1 q4 v4.toNat)]) (s' := s1) rfl H.1 ?_
    replace H := H.2
    refine gs_E.stp (pc' := 139) (ls' := [gp_r v0, gp_r v1, gp_i v2, gp_r (some q3), gp_i v4, gp_l v5, gp_n, gp_i x2]) (st' := [gp_r v0, gp_l (gp_L s1 q4 v4.toNat)]) (s' := s1) 1 rfl ?_
    obtain ⟨q5, hq, H⟩ := H
    rw [hq]
    refine gs_E.ck (pc' := 142) (ls' := [gp_r (some q5), gp_r v1, gp_i v2, gp_r (some q3), gp_i v4, gp_l v5, gp_n, gp_i x2]) (st' := [gp_r (gp_R (gp_mk L s1) q5 0), gp_l (gp_L s1 q4 v4.toNat)]) (s' := s1) rfl H.1 ?_
    replace H := H.2
    refine gs_E.stp (pc' := 144) (ls' := [gp_r (some q5), gp_r v1, gp_i v2, gp_r (some q3), gp_i v4, gp_l v5, gp_n, gp_i x2]) (st' := [gp_i x2, gp_r (gp_R (gp_mk L s1) q5 0), gp_l (gp_L s1 q4 v4.toNat)]) (s' := s1) 1 rfl ?_
    obtain ⟨q6, hq, H⟩ := H
    rw [hq]
    refine gs_E.ck (pc' := 145) (ls' := [gp_r (some q5), gp_r v1, gp_i v2, gp_r (some q3), gp_i v4, gp_l v5, gp_n, gp_i x2]) (st' := [gp_l (gp_L s1 q6 x2.toNat), gp_l (gp_L s1 q4 v4.toNat)]) (s' := s1) rfl H.1 ?_
    replace H := H.2
    refine gs_E.stp (pc' := 148) (ls' := [gp_r (some q5), gp_r v1, gp_i v2, gp_r (some q3), gp_i v4, gp_l v5, gp_n, gp_i x2]) (st' := [gp_i (gp_cmp ((gp_L s1 q4 v4.toNat) &&& (gp_L s1 q6 x2.toNat)) (0#64))]) (s' := s1) 3 rfl ?_
    refine gs_E.br (c := ¬ (gp_cmp ((gp_L s1 q4 v4.toNat) &&& (gp_L s1 q6 x2.toNat)) (0#64)) = 0) (p1 := 173) (p2 := 151) (l1 := [gp_r (some q5), gp_r v1, gp_i v2, gp_r (some q3), gp_i v4, gp_l v5, gp_n, gp_i x2]) (l2 := [gp_r (some q5), gp_r v1, gp_i v2, gp_r (some q3), gp_i v4, gp_l v5, gp_n, gp_i x2]) (s1 := []) (s2 := []) rfl gs_b2 (fun hc => ?_) (fun hc => ?_)
    · replace H := H.2 hc
      exact H
    · replace H := H.1 (Decidable.byContradiction hc)
      refine gs_E.stp (pc' := 152) (ls' := [gp_r (some q5), gp_r v1, gp_i v2, gp_r (some q3), gp_i v4, gp_l v5, gp_n, gp_i x2]) (st' := [gp_r v1]) (s' := s1) 1 rfl ?_
      obtain ⟨q7, hq, H⟩ := H
      rw [hq]
      refine gs_E.ck (pc' := 155) (ls' := [gp_r (some q5), gp_r (some q7), gp_i v2, gp_r (some q3), gp_i v4, gp_l v5, gp_n, gp_i x2]) (st' := [gp_r (gp_R (gp_mk L s1) q7 1)]) (s' := s1) rfl H.1 ?_
      replace H := H.2
      refine gs_E.stp (pc' := 157) (ls' := [gp_r (some q5), gp_r (some q7), gp_i v2, gp_r (some q3), gp_i v4, gp_l v5, gp_n, gp_i x2]) (st' := [gp_i x2, gp_r (gp_R (gp_mk L s1) q7 1)]) (s' := s1) 1 rfl ?_
      obtain ⟨q8, hq, H⟩ := H
      rw [hq]
      refine gs_E.ck (pc' := 158) (ls' := [gp_r (some q5), gp_r (some q7), gp_i v2, gp_r (some q3), gp_i v4, gp_l v5, gp_n, gp_i x2]) (st' := [gp_l (gp_L s1 q8 x2.toNat)]) (s' := s1) rfl H.1 ?_
      replace H := H.2
      refine gs_E.stp (pc' := 159) (ls' := [gp_r (some q5), gp_r (some q7), gp_i v2, gp_r (some q3), gp_i v4, gp_l v5, gp_n, gp_i x2]) (st' := [gp_r (some q5), gp_l (gp_L s1 q8 x2.toNat)]) (s' := s1) 1 rfl ?_
      refine gs_E.ck (pc' := 162) (ls' := [gp_r (some q5), gp_r (some q7), gp_i v2, gp_r (some q3), gp_i v4, gp_l v5, gp_n, gp_i x2]) (st' := [gp_r (gp_R (gp_mk L s1) q5 1), gp_l (gp_L s1 q8 x2.toNat)]) (s' := s1) rfl H.1 ?_
      replace H := H.2
      refine gs_E.stp (pc' := 164) (ls' := [gp_r (some q5), gp_r (some q7), gp_i v2, gp_r (some q3), gp_i v4, gp_l v5, gp_n, gp_i x2]) (st' := [gp_i v4, gp_r (gp_R (gp_mk L s1) q5 1), gp_l (gp_L s1 q8 x2.toNat)]) (s' := s1) 1 rfl ?_
      obtain ⟨q9, hq, H⟩ := H
      rw [hq]
      refine gs_E.ck (pc' := 165) (ls' := [gp_r (some q5), gp_r (some q7), gp_i v2, gp_r (some q3), gp_i v4, gp_l v5, gp_n, gp_i x2]) (st' := [gp_l (gp_L s1 q9 v4.toNat), gp_l (gp_L s1 q8 x2.toNat)]) (s' := s1) rfl H.1 ?_
      replace H := H.2
      refine gs_E.stp (pc' := 168) (ls' := [gp_r (some q5), gp_r (some q7), gp_i v2, gp_r (some q3), gp_i v4, gp_l v5, gp_n, gp_i x2]) (st' := [gp_i (gp_cmp ((gp_L s1 q8 x2.toNat) &&& (gp_L s1 q9 v4.toNat)) (0#64))]) (s' := s1) 3 rfl ?_
      refine gs_E.br (c := ¬ (gp_cmp ((gp_L s1 q8 x2.toNat) &&& (gp_L s1 q9 v4.toNat)) (0#64)) = 0) (p1 := 173) (p2 := 171) (l1 := [gp_r (some q5), gp_r (some q7), gp_i v2, gp_r (some q3), gp_i v4, gp_l v5, gp_n, gp_i x2]) (l2 := [gp_r (some q5), gp_r (some q7), gp_i v2, gp_r (some q3), gp_i v4, gp_l v5, gp_n, gp_i x2]) (s1 := []) (s2 := []) rfl gs_b2 (fun hc => ?_) (fun hc => ?_)
      · replace H := H.2 hc
        exact H
      · replace H := H.1 (Decidable.byContradiction hc)
        refine gs_E.stp (pc' := 172) (ls' := [gp_r (some q5), gp_r (some q7), gp_i v2, gp_r (some q3), gp_i v4, gp_l v5, gp_n, gp_i x2]) (st' := [gp_i 0]) (s' := s1) 1 rfl ?_
        exact gs_E.ret (r := (some (gp_i 0))) rfl H

set_option maxRecDepth 100000 in
/-- Least.shown, pc 173 -/
theorem s_4_173 {L d : Nat} {K : Option gV → gH → Prop} {s : gH} (v0 : Option Nat) (v1 : Option Nat) (v2 : Int) (v3 : Option Nat) (v4 : Int) (v5 : BitVec 64) (v7 : Int) (H : gs_E L (d + 1) 4 117 [gp_r v0, gp_r v1, gp_i v2, gp_r v3, gp_i v4, gp_l (v5 &&& (v5 - (1#64))), gp_n, gp_i v7] [] s K) : gs_E L (d + 1) 4 173 [gp_r v0, gp_r v1, gp_i v2, gp_r v3, gp_i v4, gp_l v5, gp_n, gp_i v7] [] s K := by
  refine gs_E.stp (pc' := 117) (ls' := [gp_r v0, gp_r v1, gp_i v2, gp_r v3, gp_i v4, gp_l (v5 &&& (v5 - (1#64))), gp_n, gp_i v7]) (st' := []) (s' := s) 7 rfl ?_
  exact H

set_option maxRecDepth 100000 in
/-- Least.leftAnswer, pc 0 -/
theorem s_5_e {L d : Nat} {K : Option gV → gH → Prop} {s : gH} (this : Option Nat) (p0 : Option Nat) (p1 : Option Nat) (p2 : Int) (H : (∃ q1, p0 = some q1 ∧ ((gp_sh (gp_mk L s) q1).1 = 9 ∧ ((gp_sh (gp_mk L s) q1).1 = 9 ∧ gs_C L d 2306 1 [gp_r (some q1)] s (fun r s2 => ∃ x3, r = some (gp_i x3) ∧ (∃ q4, gp_R (gp_mk L s) q1 1 = some q4 ∧ (gp_in (gp_mk L s2) 101 q4 x3 ∧ (∃ q5, this = some q5 ∧ ((gp_sh (gp_mk L s2) q5).1 = 0 ∧ (∃ q6, gp_R (gp_mk L s2) q5 1 = some q6 ∧ (gp_in (gp_mk L s2) 101 q6 p2 ∧ (∃ q7, p1 = some q7 ∧ ((gp_sh (gp_mk L s2) q7).1 = 9 ∧ (∃ q8, gp_R (gp_mk L s2) q7 2 = some q8 ∧ (gp_in (gp_mk L s2) 101 q8 p2 ∧ ((gp_sh (gp_mk L s2) q5).1 = 0 ∧ ((gp_sh (gp_mk L s2) q1).1 = 9 ∧ gs_C L d 2306 1 [gp_r (some q1)] s2 (fun r s9 => ∃ x10, r = some (gp_i x10) ∧ (∃ q11, gp_R (gp_mk L s2) q5 0 = some q11 ∧ (gp_in (gp_mk L s9) 101 q11 x10 ∧ gs_C L d 7 8 [gp_l (gp_L s2 q4 x3.toNat), gp_l (gp_L s2 q6 p2.toNat), gp_l (gp_L s2 q8 p2.toNat), gp_l (gp_L s9 q11 x10.toNat)] s9 (fun r s12 => ∃ x13, r = some (gp_i x13) ∧ K (some (gp_i x13)) s12))))))))))))))))))))) : gs_C L (d + 1) 5 4 [gp_r this, gp_r p0, gp_r p1, gp_i p2] s K := by
  show gs_E L (d + 1) 5 0 [gp_r this, gp_r p0, gp_r p1, gp_i p2] [] s K
  refine gs_E.stp (pc' := 1) (ls' := [gp_r this, gp_r p0, gp_r p1, gp_i p2]) (st' := [gp_r p0]) (s' := s) 1 rfl ?_
  obtain ⟨q1, hq, H⟩ := H
  rw [hq]
  refine gs_E.ck (pc' := 4) (ls' := [gp_r this, gp_r (some q1), gp_r p1, gp_i p2]) (st' := [gp_r (gp_R (gp_mk L s) q1 1)]) (s' := s) rfl H.1 ?_
  replace H := H.2
  refine gs_E.stp (pc' := 5) (ls' := [gp_r this, gp_r (some q1), gp_r p1, gp_i p2]) (st' := [gp_r (some q1), gp_r (gp_R (gp_mk L s) q1 1)]) (s' := s) 1 rfl ?_
  refine gs_E.callV (args := [gp_r (some q1)]) (m := 1) (y' := 2306) (st' := [gp_r (gp_R (gp_mk L s) q1 1)]) rfl H.1 H.2 (fun r s2 H => ?_)
  obtain ⟨x3, rfl, H⟩ := H
  show gs_E L (d + 1) 5 8 [gp_r this, gp_r (some q1), gp_r p1, gp_i p2] [gp_i x3, gp_r (gp_R (gp_mk L s) q1 1)] s2 K
  obtain ⟨q4, hq, H⟩ := H
  rw [hq]
  refine gs_E.ck (pc' := 9) (ls' := [gp_r this, gp_r (some q1), gp_r p1, gp_i p2]) (st' := [gp_l (gp_L s2 q4 x3.toNat)]) (s' := s2) rfl H.1 ?_
  replace H := H.2
  refine gs_E.stp (pc' := 10) (ls' := [gp_r this, gp_r (some q1), gp_r p1, gp_i p2]) (st' := [gp_r this, gp_l (gp_L s2 q4 x3.toNat)]) (s' := s2) 1 rfl ?_
  obtain ⟨q5, hq, H⟩ := H
  rw [hq]
  refine gs_E.ck (pc' := 13) (ls' := [gp_r (some q5), gp_r (some q1), gp_r p1, gp_i p2]) (st' := [gp_r (gp_R (gp_mk L s2) q5 1), gp_l (gp_L s2 q4 x3.toNat)]) (s' := s2) rfl H.1 ?_
  replace H := H.2
  refine gs_E.stp (pc' := 14) (ls' := [gp_r (some q5), gp_r (some q1), gp_r p1, gp_i p2]) (st' := [gp_i p2, gp_r (gp_R (gp_mk L s2) q5 1), gp_l (gp_L s2 q4 x3.toNat)]) (s' := s2) 1 rfl ?_
  obtain ⟨q6, hq, H⟩ := H
  rw [hq]
  refine gs_E.ck (pc' := 15) (ls' := [gp_r (some q5), gp_r (some q1), gp_r p1, gp_i p2]) (st' := [gp_l (gp_L s2 q6 p2.toNat), gp_l (gp_L s2 q4 x3.toNat)]) (s' := s2) rfl H.1 ?_
  replace H := H.2
  refine gs_E.stp (pc' := 16) (ls' := [gp_r (some q5), gp_r (some q1), gp_r p1, gp_i p2]) (st' := [gp_r p1, gp_l (gp_L s2 q6 p2.toNat), gp_l (gp_L s2 q4 x3.toNat)]) (s' := s2) 1 rfl ?_
  obtain ⟨q7, hq, H⟩ := H
  rw [hq]
  refine gs_E.ck (pc' := 19) (ls' := [gp_r (some q5), gp_r (some q1), gp_r (some q7), gp_i p2]) (st' := [gp_r (gp_R (gp_mk L s2) q7 2), gp_l (gp_L s2 q6 p2.toNat), gp_l (gp_L s2 q4 x3.toNat)]) (s' := s2) rfl H.1 ?_
  replace H := H.2
  refine gs_E.stp (pc' := 20) (ls' := [gp_r (some q5), gp_r (some q1), gp_r (some q7), gp_i p2]) (st' := [gp_i p2, gp_r (gp_R (gp_mk L s2) q7 2), gp_l (gp_L s2 q6 p2.toNat), gp_l (gp_L s2 q4 x3.toNat)]) (s' := s2) 1 rfl ?_
  obtain ⟨q8, hq, H⟩ := H
  rw [hq]
  refine gs_E.ck (pc' := 21) (ls' := [gp_r (some q5), gp_r (some q1), gp_r (some q7), gp_i p2]) (st' := [gp_l (gp_L s2 q8 p2.toNat), gp_l (gp_L s2 q6 p2.toNat), gp_l (gp_L s2 q4 x3.toNat)]) (s' := s2) rfl H.1 ?_
  replace H := H.2
  refine gs_E.stp (pc' := 22) (ls' := [gp_r (some q5), gp_r (some q1), gp_r (some q7), gp_i p2]) (st' := [gp_r (some q5), gp_l (gp_L s2 q8 p2.toNat), gp_l (gp_L s2 q6 p2.toNat), gp_l (gp_L s2 q4 x3.toNat)]) (s' := s2) 1 rfl ?_
  refine gs_E.ck (pc' := 25) (ls' := [gp_r (some q5), gp_r (some q1), gp_r (some q7), gp_i p2]) (st' := [gp_r (gp_R (gp_mk L s2) q5 0), gp_l (gp_L s2 q8 p2.toNat), gp_l (gp_L s2 q6 p2.toNat), gp_l (gp_L s2 q4 x3.toNat)]) (s' := s2) rfl H.1 ?_
  replace H := H.2
  refine gs_E.stp (pc' := 26) (ls' := [gp_r (some q5), gp_r (some q1), gp_r (some q7), gp_i p2]) (st' := [gp_r (some q1), gp_r (gp_R (gp_mk L s2) q5 0), gp_l (gp_L s2 q8 p2.toNat), gp_l (gp_L s2 q6 p2.toNat), gp_l (gp_L s2 q4 x3.toNat)]) (s' := s2) 1 rfl ?_
  refine gs_E.callV (args := [gp_r (some q1)]) (m := 1) (y' := 2306) (st' := [gp_r (gp_R (gp_mk L s2) q5 0), gp_l (gp_L s2 q8 p2.toNat), gp_l (gp_L s2 q6 p2.toNat), gp_l (gp_L s2 q4 x3.toNat)]) rfl H.1 H.2 (fun r s9 H => ?_)
  obtain ⟨x10, rfl, H⟩ := H
  show gs_E L (d + 1) 5 29 [gp_r (some q5), gp_r (some q1), gp_r (some q7), gp_i p2] [gp_i x10, gp_r (gp_R (gp_mk L s2) q5 0), gp_l (gp_L s2 q8 p2.toNat), gp_l (gp_L s2 q6 p2.toNat), gp_l (gp_L s2 q4 x3.toNat)] s9 K
  obtain ⟨q11, hq, H⟩ := H
  rw [hq]
  refine gs_E.ck (pc' := 30) (ls' := [gp_r (some q5), gp_r (some q1), gp_r (some q7), gp_i p2]) (st' := [gp_l (gp_L s9 q11 x10.toNat), gp_l (gp_L s2 q8 p2.toNat), gp_l (gp_L s2 q6 p2.toNat), gp_l (gp_L s2 q4 x3.toNat)]) (s' := s9) rfl H.1 ?_
  replace H := H.2
  refine gs_E.call (args := [gp_l (gp_L s2 q4 x3.toNat), gp_l (gp_L s2 q6 p2.toNat), gp_l (gp_L s2 q8 p2.toNat), gp_l (gp_L s9 q11 x10.toNat)]) (m := 8) (y' := 7) (st' := []) rfl H (fun r s12 H => ?_)
  obtain ⟨x13, rfl, H⟩ := H
  show gs_E L (d + 1) 5 33 [gp_r (some q5), gp_r (some q1), gp_r (some q7), gp_i p2] [gp_i x13] s12 K
  exact gs_E.ret (r := (some (gp_i x13))) rfl H

set_option maxRecDepth 100000 in
/-- Least.rightAnswer, pc 0 -/
theorem s_6_e {L d : Nat} {K : Option gV → gH → Prop} {s : gH} (this : Option Nat) (p0 : Option Nat) (p1 : Option Nat) (p2 : Int) (H : (∃ q1, p1 = some q1 ∧ ((gp_sh (gp_mk L s) q1).1 = 9 ∧ ((gp_sh (gp_mk L s) q1).1 = 9 ∧ gs_C L d 2306 1 [gp_r (some q1)] s (fun r s2 => ∃ x3, r = some (gp_i x3) ∧ (∃ q4, gp_R (gp_mk L s) q1 2 = some q4 ∧ (gp_in (gp_mk L s2) 101 q4 x3 ∧ (∃ q5, this = some q5 ∧ ((gp_sh (gp_mk L s2) q5).1 = 0 ∧ (∃ q6, gp_R (gp_mk L s2) q5 0 = some q6 ∧ (gp_in (gp_mk L s2) 101 q6 p2 ∧ (∃ q7, p0 = some q7 ∧ ((gp_sh (gp_mk L s2) q7).1 = 9 ∧ (∃ q8, gp_R (gp_mk L s2) q7 1 = some q8 ∧ (gp_in (gp_mk L s2) 101 q8 p2 ∧ ((gp_sh (gp_mk L s2) q5).1 = 0 ∧ ((gp_sh (gp_mk L s2) q1).1 = 9 ∧ gs_C L d 2306 1 [gp_r (some q1)] s2 (fun r s9 => ∃ x10, r = some (gp_i x10) ∧ (∃ q11, gp_R (gp_mk L s2) q5 1 = some q11 ∧ (gp_in (gp_mk L s9) 101 q11 x10 ∧ gs_C L d 7 8 [gp_l (gp_L s2 q4 x3.toNat), gp_l (gp_L s2 q6 p2.toNat), gp_l (gp_L s2 q8 p2.toNat), gp_l (gp_L s9 q11 x10.toNat)] s9 (fun r s12 => ∃ x13, r = some (gp_i x13) ∧ K (some (gp_i x13)) s12))))))))))))))))))))) : gs_C L (d + 1) 6 4 [gp_r this, gp_r p0, gp_r p1, gp_i p2] s K := by
  show gs_E L (d + 1) 6 0 [gp_r this, gp_r p0, gp_r p1, gp_i p2] [] s K
  refine gs_E.stp (pc' := 1) (ls' := [gp_r this, gp_r p0, gp_r p1, gp_i p2]) (st' := [gp_r p1]) (s' := s) 1 rfl ?_
  obtain ⟨q1, hq, H⟩ := H
  rw [hq]
  refine gs_E.ck (pc' := 4) (ls' := [gp_r this, gp_r p0, gp_r (some q1), gp_i p2]) (st' := [gp_r (gp_R (gp_mk L s) q1 2)]) (s' := s) rfl H.1 ?_
  replace H := H.2
  refine gs_E.stp (pc' := 5) (ls' := [gp_r this, gp_r p0, gp_r (some q1), gp_i p2]) (st' := [gp_r (some q1), gp_r (gp_R (gp_mk L s) q1 2)]) (s' := s) 1 rfl ?_
  refine gs_E.callV (args := [gp_r (some q1)]) (m := 1) (y' := 2306) (st' := [gp_r (gp_R (gp_mk L s) q1 2)]) rfl H.1 H.2 (fun r s2 H => ?_)
  obtain ⟨x3, rfl, H⟩ := H
  show gs_E L (d + 1) 6 8 [gp_r this, gp_r p0, gp_r (some q1), gp_i p2] [gp_i x3, gp_r (gp_R (gp_mk L s) q1 2)] s2 K
  obtain ⟨q4, hq, H⟩ := H
  rw [hq]
  refine gs_E.ck (pc' := 9) (ls' := [gp_r this, gp_r p0, gp_r (some q1), gp_i p2]) (st' := [gp_l (gp_L s2 q4 x3.toNat)]) (s' := s2) rfl H.1 ?_
  replace H := H.2
  refine gs_E.stp (pc' := 10) (ls' := [gp_r this, gp_r p0, gp_r (some q1), gp_i p2]) (st' := [gp_r this, gp_l (gp_L s2 q4 x3.toNat)]) (s' := s2) 1 rfl ?_
  obtain ⟨q5, hq, H⟩ := H
  rw [hq]
  refine gs_E.ck (pc' := 13) (ls' := [gp_r (some q5), gp_r p0, gp_r (some q1), gp_i p2]) (st' := [gp_r (gp_R (gp_mk L s2) q5 0), gp_l (gp_L s2 q4 x3.toNat)]) (s' := s2) rfl H.1 ?_
  replace H := H.2
  refine gs_E.stp (pc' := 14) (ls' := [gp_r (some q5), gp_r p0, gp_r (some q1), gp_i p2]) (st' := [gp_i p2, gp_r (gp_R (gp_mk L s2) q5 0), gp_l (gp_L s2 q4 x3.toNat)]) (s' := s2) 1 rfl ?_
  obtain ⟨q6, hq, H⟩ := H
  rw [hq]
  refine gs_E.ck (pc' := 15) (ls' := [gp_r (some q5), gp_r p0, gp_r (some q1), gp_i p2]) (st' := [gp_l (gp_L s2 q6 p2.toNat), gp_l (gp_L s2 q4 x3.toNat)]) (s' := s2) rfl H.1 ?_
  replace H := H.2
  refine gs_E.stp (pc' := 16) (ls' := [gp_r (some q5), gp_r p0, gp_r (some q1), gp_i p2]) (st' := [gp_r p0, gp_l (gp_L s2 q6 p2.toNat), gp_l (gp_L s2 q4 x3.toNat)]) (s' := s2) 1 rfl ?_
  obtain ⟨q7, hq, H⟩ := H
  rw [hq]
  refine gs_E.ck (pc' := 19) (ls' := [gp_r (some q5), gp_r (some q7), gp_r (some q1), gp_i p2]) (st' := [gp_r (gp_R (gp_mk L s2) q7 1), gp_l (gp_L s2 q6 p2.toNat), gp_l (gp_L s2 q4 x3.toNat)]) (s' := s2) rfl H.1 ?_
  replace H := H.2
  refine gs_E.stp (pc' := 20) (ls' := [gp_r (some q5), gp_r (some q7), gp_r (some q1), gp_i p2]) (st' := [gp_i p2, gp_r (gp_R (gp_mk L s2) q7 1), gp_l (gp_L s2 q6 p2.toNat), gp_l (gp_L s2 q4 x3.toNat)]) (s' := s2) 1 rfl ?_
  obtain ⟨q8, hq, H⟩ := H
  rw [hq]
  refine gs_E.ck (pc' := 21) (ls' := [gp_r (some q5), gp_r (some q7), gp_r (some q1), gp_i p2]) (st' := [gp_l (gp_L s2 q8 p2.toNat), gp_l (gp_L s2 q6 p2.toNat), gp_l (gp_L s2 q4 x3.toNat)]) (s' := s2) rfl H.1 ?_
  replace H := H.2
  refine gs_E.stp (pc' := 22) (ls' := [gp_r (some q5), gp_r (some q7), gp_r (some q1), gp_i p2]) (st' := [gp_r (some q5), gp_l (gp_L s2 q8 p2.toNat), gp_l (gp_L s2 q6 p2.toNat), gp_l (gp_L s2 q4 x3.toNat)]) (s' := s2) 1 rfl ?_
  refine gs_E.ck (pc' := 25) (ls' := [gp_r (some q5), gp_r (some q7), gp_r (some q1), gp_i p2]) (st' := [gp_r (gp_R (gp_mk L s2) q5 1), gp_l (gp_L s2 q8 p2.toNat), gp_l (gp_L s2 q6 p2.toNat), gp_l (gp_L s2 q4 x3.toNat)]) (s' := s2) rfl H.1 ?_
  replace H := H.2
  refine gs_E.stp (pc' := 26) (ls' := [gp_r (some q5), gp_r (some q7), gp_r (some q1), gp_i p2]) (st' := [gp_r (some q1), gp_r (gp_R (gp_mk L s2) q5 1), gp_l (gp_L s2 q8 p2.toNat), gp_l (gp_L s2 q6 p2.toNat), gp_l (gp_L s2 q4 x3.toNat)]) (s' := s2) 1 rfl ?_
  refine gs_E.callV (args := [gp_r (some q1)]) (m := 1) (y' := 2306) (st' := [gp_r (gp_R (gp_mk L s2) q5 1), gp_l (gp_L s2 q8 p2.toNat), gp_l (gp_L s2 q6 p2.toNat), gp_l (gp_L s2 q4 x3.toNat)]) rfl H.1 H.2 (fun r s9 H => ?_)
  obtain ⟨x10, rfl, H⟩ := H
  show gs_E L (d + 1) 6 29 [gp_r (some q5), gp_r (some q7), gp_r (some q1), gp_i p2] [gp_i x10, gp_r (gp_R (gp_mk L s2) q5 1), gp_l (gp_L s2 q8 p2.toNat), gp_l (gp_L s2 q6 p2.toNat), gp_l (gp_L s2 q4 x3.toNat)] s9 K
  obtain ⟨q11, hq, H⟩ := H
  rw [hq]
  refine gs_E.ck (pc' := 30) (ls' := [gp_r (some q5), gp_r (some q7), gp_r (some q1), gp_i p2]) (st' := [gp_l (gp_L s9 q11 x10.toNat), gp_l (gp_L s2 q8 p2.toNat), gp_l (gp_L s2 q6 p2.toNat), gp_l (gp_L s2 q4 x3.toNat)]) (s' := s9) rfl H.1 ?_
  replace H := H.2
  refine gs_E.call (args := [gp_l (gp_L s2 q4 x3.toNat), gp_l (gp_L s2 q6 p2.toNat), gp_l (gp_L s2 q8 p2.toNat), gp_l (gp_L s9 q11 x10.toNat)]) (m := 8) (y' := 7) (st' := []) rfl H (fun r s12 H => ?_)
  obtain ⟨x13, rfl, H⟩ := H
  show gs_E L (d + 1) 6 33 [gp_r (some q5), gp_r (some q7), gp_r (some q1), gp_i p2] [gp_i x13] s12 K
  exact gs_E.ret (r := (some (gp_i x13))) rfl H

set_option maxRecDepth 100000 in
/-- Least.named, pc 0 -/
theorem s_7_e {L d : Nat} {K : Option gV → gH → Prop} {s : gH} (p0 : BitVec 64) (p1 : BitVec 64) (p2 : BitVec 64) (p3 : BitVec 64) (H : (((gp_cmp (p0 &&& p1) (0#64)) = 0 → gs_C L d 2859 2 [gp_l (p2 &&& p3)] s (fun r s1 => ∃ x2, r = some (gp_i x2) ∧ gs_C L d 2861 3 [gp_l p2, gp_i x2] s1 (fun r s3 => ∃ x4, r = some (gp_i x4) ∧ K (some (gp_i (gp_wr (100 + x4)))) s3))) ∧ (¬ (gp_cmp (p0 &&& p1) (0#64)) = 0 → gs_C L d 2859 2 [gp_l (p0 &&& p1)] s (fun r s5 => ∃ x6, r = some (gp_i x6) ∧ gs_C L d 2861 3 [gp_l p0, gp_i x6] s5 (fun r s7 => ∃ x8, r = some (gp_i x8) ∧ K (some (gp_i x8)) s7))))) : gs_C L (d + 1) 7 8 [gp_l p0, gp_l p1, gp_l p2, gp_l p3] s K := by
  show gs_E L (d + 1) 7 0 [gp_l p0, gp_n, gp_l p1, gp_n, gp_l p2, gp_n, gp_l p3, gp_n] [] s K
  refine gs_E.stp (pc' := 5) (ls' := [gp_l p0, gp_n, gp_l p1, gp_n, gp_l p2, gp_n, gp_l p3, gp_n]) (st' := [gp_i (gp_cmp (p0 &&& p1) (0#64))]) (s' := s) 5 rfl ?_
  refine gs_E.br (c := (gp_cmp (p0 &&& p1) (0#64)) = 0) (p1 := 19) (p2 := 8) (l1 := [gp_l p0, gp_n, gp_l p1, gp_n, gp_l p2, gp_n, gp_l p3, gp_n]) (l2 := [gp_l p0, gp_n, gp_l p1, gp_n, gp_l p2, gp_n, gp_l p3, gp_n]) (s1 := []) (s2 := []) rfl gs_b1 (fun hc => ?_) (fun hc => ?_)
  · replace H := H.1 hc
    refine gs_E.stp (pc' := 28) (ls' := [gp_l p0, gp_n, gp_l p1, gp_n, gp_l p2, gp_n, gp_l p3, gp_n]) (st' := [gp_l (p2 &&& p3), gp_l p2, gp_i 100]) (s' := s) 5 rfl ?_
    refine gs_E.call (args := [gp_l (p2 &&& p3)]) (m := 2) (y' := 2859) (st' := [gp_l p2, gp_i 100]) rfl H (fun r s1 H => ?_)
    obtain ⟨x2, rfl, H⟩ := H
    show gs_E L (d + 1) 7 31 [gp_l p0, gp_n, gp_l p1, gp_n, gp_l p2, gp_n, gp_l p3, gp_n] [gp_i x2, gp_l p2, gp_i 100] s1 K
    refine gs_E.call (args := [gp_l p2, gp_i x2]) (m := 3) (y' := 2861) (st' := [gp_i 100]) rfl H (fun r s3 H => ?_)
    obtain ⟨x4, rfl, H⟩ := H
    show gs_E L (d + 1) 7 34 [gp_l p0, gp_n, gp_l p1, gp_n, gp_l p2, gp_n, gp_l p3, gp_n] [gp_i x4, gp_i 100] s3 K
    refine gs_E.stp (pc' := 35) (ls' := [gp_l p0, gp_n, gp_l p1, gp_n, gp_l p2, gp_n, gp_l p3, gp_n]) (st' := [gp_i (gp_wr (100 + x4))]) (s' := s3) 1 rfl ?_
    exact gs_E.ret (r := (some (gp_i (gp_wr (100 + x4))))) rfl H
  · replace H := H.2 hc
    refine gs_E.stp (pc' := 12) (ls' := [gp_l p0, gp_n, gp_l p1, gp_n, gp_l p2, gp_n, gp_l p3, gp_n]) (st' := [gp_l (p0 &&& p1), gp_l p0]) (s' := s) 4 rfl ?_
    refine gs_E.call (args := [gp_l (p0 &&& p1)]) (m := 2) (y' := 2859) (st' := [gp_l p0]) rfl H (fun r s5 H => ?_)
    obtain ⟨x6, rfl, H⟩ := H
    show gs_E L (d + 1) 7 15 [gp_l p0, gp_n, gp_l p1, gp_n, gp_l p2, gp_n, gp_l p3, gp_n] [gp_i x6, gp_l p0] s5 K
    refine gs_E.call (args := [gp_l p0, gp_i x6]) (m := 3) (y' := 2861) (st' := []) rfl H (fun r s7 H => ?_)
    obtain ⟨x8, rfl, H⟩ := H
    show gs_E L (d + 1) 7 18 [gp_l p0, gp_n, gp_l p1, gp_n, gp_l p2, gp_n, gp_l p3, gp_n] [gp_i x8] s7 K
    exact gs_E.ret (r := (some (gp_i x8))) rfl H

set_option maxRecDepth 100000 in
/-- Maker.plain, pc 0 -/
theorem s_257_e {L d : Nat} {K : Option gV → gH → Prop} {s : gH} (p0 : Int) (H : (117 ≤ gp_sz s ∧ ∀ s1, s1 = gp_new s 9 10 → gs_C L d 2304 2 [gp_r (some (gp_sz s)), gp_i 1] s1 (fun r s2 => r = none ∧ ((gp_sh (gp_mk L s2) (gp_sz s)).1 = 9 ∧ (∃ q3, gp_R (gp_mk L s2) (gp_sz s) 3 = some q3 ∧ (gp_in (gp_mk L s2) 100 q3 0 ∧ ∀ s4, s4 = gp_wI s2 q3 0 p0 → ((gp_sh (gp_mk L s4) (gp_sz s)).1 = 9 ∧ (∃ q5, gp_R (gp_mk L s4) (gp_sz s) 4 = some q5 ∧ (gp_in (gp_mk L s4) 100 q5 0 ∧ ∀ s6, s6 = gp_wI s4 q5 0 p0 → K (some (gp_r (some (gp_sz s)))) s6))))))))) : gs_C L (d + 1) 257 3 [gp_r (some 20), gp_i p0] s K := by
  show gs_E L (d + 1) 257 0 [gp_r (some 20), gp_i p0, gp_n] [] s K
  refine gs_E.new (pc' := 3) (ls' := [gp_r (some 20), gp_i p0, gp_n]) (st' := [gp_r (some (gp_sz s))]) (c := 9) (n := 10) rfl H.1 ?_
  replace H := H.2 _ rfl
  generalize gp_new s 9 10 = s1 at H ⊢
  refine gs_E.stp (pc' := 5) (ls' := [gp_r (some 20), gp_i p0, gp_n]) (st' := [gp_i 1, gp_r (some (gp_sz s)), gp_r (some (gp_sz s))]) (s' := s1) 2 rfl ?_
  refine gs_E.call (args := [gp_r (some (gp_sz s)), gp_i 1]) (m := 2) (y' := 2304) (st' := [gp_r (some (gp_sz s))]) rfl H (fun r s2 H => ?_)
  obtain ⟨rfl, H⟩ := H
  show gs_E L (d + 1) 257 8 [gp_r (some 20), gp_i p0, gp_n] [gp_r (some (gp_sz s))] s2 K
  refine gs_E.stp (pc' := 10) (ls' := [gp_r (some 20), gp_i p0, gp_r (some (gp_sz s))]) (st' := [gp_r (some (gp_sz s))]) (s' := s2) 2 rfl ?_
  refine gs_E.ck (pc' := 13) (ls' := [gp_r (some 20), gp_i p0, gp_r (some (gp_sz s))]) (st' := [gp_r (gp_R (gp_mk L s2) (gp_sz s) 3)]) (s' := s2) rfl H.1 ?_
  replace H := H.2
  refine gs_E.stp (pc' := 15) (ls' := [gp_r (some 20), gp_i p0, gp_r (some (gp_sz s))]) (st' := [gp_i p0, gp_i 0, gp_r (gp_R (gp_mk L s2) (gp_sz s) 3)]) (s' := s2) 2 rfl ?_
  obtain ⟨q3, hq, H⟩ := H
  rw [hq]
  refine gs_E.ck (pc' := 16) (ls' := [gp_r (some 20), gp_i p0, gp_r (some (gp_sz s))]) (st' := []) (s' := gp_wI s2 q3 0 p0) rfl H.1 ?_
  replace H := H.2 _ rfl
  generalize gp_wI s2 q3 0 p0 = s4 at H ⊢
  refine gs_E.stp (pc' := 17) (ls' := [gp_r (some 20), gp_i p0, gp_r (some (gp_sz s))]) (st' := [gp_r (some (gp_sz s))]) (s' := s4) 1 rfl ?_
  refine gs_E.ck (pc' := 20) (ls' := [gp_r (some 20), gp_i p0, gp_r (some (gp_sz s))]) (st' := [gp_r (gp_R (gp_mk L s4) (gp_sz s) 4)]) (s' := s4) rfl H.1 ?_
  replace H := H.2
  refine gs_E.stp (pc' := 22) (ls' := [gp_r (some 20), gp_i p0, gp_r (some (gp_sz s))]) (st' := [gp_i p0, gp_i 0, gp_r (gp_R (gp_mk L s4) (gp_sz s) 4)]) (s' := s4) 2 rfl ?_
  obtain ⟨q5, hq, H⟩ := H
  rw [hq]
  refine gs_E.ck (pc' := 23) (ls' := [gp_r (some 20), gp_i p0, gp_r (some (gp_sz s))]) (st' := []) (s' := gp_wI s4 q5 0 p0) rfl H.1 ?_
  replace H := H.2 _ rfl
  generalize gp_wI s4 q5 0 p0 = s6 at H ⊢
  refine gs_E.stp (pc' := 24) (ls' := [gp_r (some 20), gp_i p0, gp_r (some (gp_sz s))]) (st' := [gp_r (some (gp_sz s))]) (s' := s6) 1 rfl ?_
  exact gs_E.ret (r := (some (gp_r (some (gp_sz s))))) rfl H

set_option maxRecDepth 100000 in
/-- Maker.pauses, pc 0 -/
theorem s_258_e {L d : Nat} {K : Option gV → gH → Prop} {s : gH} (p0 : Int) (H : (117 ≤ gp_sz s ∧ ∀ s1, s1 = gp_new s 9 10 → gs_C L d 2304 2 [gp_r (some (gp_sz s)), gp_i (gp_wr (p0 + 1))] s1 (fun r s2 => r = none ∧ gs_E L (d + 1) 258 13 [gp_r (some 20), gp_i p0, gp_r (some (gp_sz s)), gp_i 1] [] s2 K))) : gs_C L (d + 1) 258 4 [gp_r (some 20), gp_i p0] s K := by
  show gs_E L (d + 1) 258 0 [gp_r (some 20), gp_i p0, gp_n, gp_n] [] s K
  refine gs_E.new (pc' := 3) (ls' := [gp_r (some 20), gp_i p0, gp_n, gp_n]) (st' := [gp_r (some (gp_sz s))]) (c := 9) (n := 10) rfl H.1 ?_
  replace H := H.2 _ rfl
  generalize gp_new s 9 10 = s1 at H ⊢
  refine gs_E.stp (pc' := 7) (ls' := [gp_r (some 20), gp_i p0, gp_n, gp_n]) (st' := [gp_i (gp_wr (p0 + 1)), gp_r (some (gp_sz s)), gp_r (some (gp_sz s))]) (s' := s1) 4 rfl ?_
  refine gs_E.call (args := [gp_r (some (gp_sz s)), gp_i (gp_wr (p0 + 1))]) (m := 2) (y' := 2304) (st' := [gp_r (some (gp_sz s))]) rfl H (fun r s2 H => ?_)
  obtain ⟨rfl, H⟩ := H
  show gs_E L (d + 1) 258 10 [gp_r (some 20), gp_i p0, gp_n, gp_n] [gp_r (some (gp_sz s))] s2 K
  refine gs_E.stp (pc' := 13) (ls' := [gp_r (some 20), gp_i p0, gp_r (some (gp_sz s)), gp_i 1]) (st' := []) (s' := s2) 3 rfl ?_
  exact H

set_option maxRecDepth 100000 in
/-- Maker.pauses, pc 13 -/
theorem s_258_13 {L d : Nat} {K : Option gV → gH → Prop} {s : gH} (v1 : Int) (v2 : Option Nat) (v3 : Int) (H : ((v1 < v3 → K (some (gp_r v2)) s) ∧ (¬ v1 < v3 → (∃ q1, v2 = some q1 ∧ ((gp_sh (gp_mk L s) q1).1 = 9 ∧ (∃ q2, gp_R (gp_mk L s) q1 1 = some q2 ∧ (gp_in (gp_mk L s) 101 q2 v3 ∧ ∀ s3, s3 = gp_wL s q2 v3.toNat ((1#64) <<< ((gp_wr (v3 - 1)) % 64).toNat) → ((gp_sh (gp_mk L s3) q1).1 = 9 ∧ (∃ q4, gp_R (gp_mk L s3) q1 5 = some q4 ∧ (gp_in (gp_mk L s3) 100 q4 v3 ∧ ∀ s5, s5 = gp_wI s3 q4 v3.toNat v3 → gs_E L (d + 1) 258 13 [gp_r (some 20), gp_i v1, gp_r (some q1), gp_i (gp_wr (v3 + 1))] [] s5 K)))))))))) : gs_E L (d + 1) 258 13 [gp_r (some 20), gp_i v1, gp_r v2, gp_i v3] [] s K := by
  refine gs_E.stp (pc' := 15) (ls' := [gp_r (some 20), gp_i v1, gp_r v2, gp_i v3]) (st' := [gp_i v1, gp_i v3]) (s' := s) 2 rfl ?_
  refine gs_E.br (c := v1 < v3) (p1 := 42) (p2 := 18) (l1 := [gp_r (some 20), gp_i v1, gp_r v2, gp_i v3]) (l2 := [gp_r (some 20), gp_i v1, gp_r v2, gp_i v3]) (s1 := []) (s2 := []) rfl gs_b1 (fun hc => ?_) (fun hc => ?_)
  · replace H := H.1 hc
    refine gs_E.stp (pc' := 43) (ls' := [gp_r (some 20), gp_i v1, gp_r v2, gp_i v3]) (st' := [gp_r v2]) (s' := s) 1 rfl ?_
    exact gs_E.ret (r := (some (gp_r v2))) rfl H
  · replace H := H.2 hc
    refine gs_E.stp (pc' := 19) (ls' := [gp_r (some 20), gp_i v1, gp_r v2, gp_i v3]) (st' := [gp_r v2]) (s' := s) 1 rfl ?_
    obtain ⟨q1, hq, H⟩ := H
    rw [hq]
    refine gs_E.ck (pc' := 22) (ls' := [gp_r (some 20), gp_i v1, gp_r (some q1), gp_i v3]) (st' := [gp_r (gp_R (gp_mk L s) q1 1)]) (s' := s) rfl H.1 ?_
    replace H := H.2
    refine gs_E.stp (pc' := 28) (ls' := [gp_r (some 20), gp_i v1, gp_r (some q1), gp_i v3]) (st' := [gp_l ((1#64) <<< ((gp_wr (v3 - 1)) % 64).toNat), gp_i v3, gp_r (gp_R (gp_mk L s) q1 1)]) (s' := s) 6 rfl ?_
    obtain ⟨q2, hq, H⟩ := H
    rw [hq]
    refine gs_E.ck (pc' := 29) (ls' := [gp_r (some 20), gp_i v1, gp_r (some q1), gp_i v3]) (st' := []) (s' := gp_wL s q2 v3.toNat ((1#64) <<< ((gp_wr (v3 - 1)) % 64).toNat)) rfl H.1 ?_
    replace H := H.2 _ rfl
    generalize gp_wL s q2 v3.toNat ((1#64) <<< ((gp_wr (v3 - 1)) % 64).toNat) = s3 at H ⊢
    refine gs_E.stp (pc' := 30) (ls' := [gp_r (some 20), gp_i v1, gp_r (some q1), gp_i v3]) (st' := [gp_r (some q1)]) (s' := s3) 1 rfl ?_
    refine gs_E.ck (pc' := 33) (ls' := [gp_r (some 20), gp_i v1, gp_r (some q1), gp_i v3]) (st' := [gp_r (gp_R (gp_mk L s3) q1 5)]) (s' := s3) rfl H.1 ?_
    replace H := H.2
    refine gs_E.stp (pc' := 35) (ls' := [gp_r (some 20), gp_i v1, gp_r (some q1), gp_i v3]) (st' := [gp_i v3, gp_i v3, gp_r (gp_R (gp_mk L s3) q1 5)]) (s' := s3) 2 rfl ?_
    obtain ⟨q4, hq, H⟩ := H
    rw [hq]
    refine gs_E.ck (pc' := 36) (ls' := [gp_r (some 20), gp_i v1, gp_r (some q1), gp_i v3]) (st' := []) (s' := gp_wI s3 q4 v3.toNat v3) rfl H.1 ?_
    replace H := H.2 _ rfl
    generalize gp_wI s3 q4 v3.toNat v3 = s5 at H ⊢
    refine gs_E.stp (pc' := 13) (ls' := [gp_r (some 20), gp_i v1, gp_r (some q1), gp_i (gp_wr (v3 + 1))]) (st' := []) (s' := s5) 2 rfl ?_
    exact H

set_option maxRecDepth 100000 in
/-- Maker.rungs, pc 0 -/
theorem s_259_e {L d : Nat} {K : Option gV → gH → Prop} {s : gH} (p0 : Option Nat) (p1 : Int) (H : gs_C L d 1025 1 [gp_r (some 6)] s (fun r s1 => r = none ∧ (∃ q2, p0 = some q2 ∧ (gp_in (gp_mk L s1) 100 q2 (gp_wr (p1 - 1)) ∧ (gp_in (gp_mk L s1) 100 q2 (gp_wr (p1 - 1)) ∧ gs_C L d 1028 7 [gp_r (some 6), gp_l (0#64), gp_l (0#64), gp_i (gp_I s1 q2 (gp_wr (p1 - 1)).toNat), gp_i (gp_I s1 q2 (gp_wr (p1 - 1)).toNat)] s1 (fun r s3 => ∃ x4, r = some (gp_i x4) ∧ gs_E L (d + 1) 259 32 [gp_r (some 20), gp_r (some q2), gp_i p1, gp_i x4, gp_i (gp_wr (p1 - 2)), gp_n] [] s3 K)))))) : gs_C L (d + 1) 259 6 [gp_r (some 20), gp_r p0, gp_i p1] s K := by
  show gs_E L (d + 1) 259 0 [gp_r (some 20), gp_r p0, gp_i p1, gp_n, gp_n, gp_n] [] s K
  refine gs_E.stp (pc' := 4) (ls' := [gp_r (some 20), gp_r p0, gp_i p1, gp_n, gp_n, gp_n]) (st' := [gp_r (some 6)]) (s' := s) 2 rfl ?_
  refine gs_E.call (args := [gp_r (some 6)]) (m := 1) (y' := 1025) (st' := []) rfl H (fun r s1 H => ?_)
  obtain ⟨rfl, H⟩ := H
  show gs_E L (d + 1) 259 7 [gp_r (some 20), gp_r p0, gp_i p1, gp_n, gp_n, gp_n] [] s1 K
  refine gs_E.stp (pc' := 17) (ls' := [gp_r (some 20), gp_r p0, gp_i p1, gp_n, gp_n, gp_n]) (st' := [gp_i (gp_wr (p1 - 1)), gp_r p0, gp_l (0#64), gp_l (0#64), gp_r (some 6)]) (s' := s1) 8 rfl ?_
  obtain ⟨q2, hq, H⟩ := H
  rw [hq]
  refine gs_E.ck (pc' := 18) (ls' := [gp_r (some 20), gp_r (some q2), gp_i p1, gp_n, gp_n, gp_n]) (st' := [gp_i (gp_I s1 q2 (gp_wr (p1 - 1)).toNat), gp_l (0#64), gp_l (0#64), gp_r (some 6)]) (s' := s1) rfl (Or.inl H.1) ?_
  replace H := H.2
  refine gs_E.stp (pc' := 22) (ls' := [gp_r (some 20), gp_r (some q2), gp_i p1, gp_n, gp_n, gp_n]) (st' := [gp_i (gp_wr (p1 - 1)), gp_r (some q2), gp_i (gp_I s1 q2 (gp_wr (p1 - 1)).toNat), gp_l (0#64), gp_l (0#64), gp_r (some 6)]) (s' := s1) 4 rfl ?_
  refine gs_E.ck (pc' := 23) (ls' := [gp_r (some 20), gp_r (some q2), gp_i p1, gp_n, gp_n, gp_n]) (st' := [gp_i (gp_I s1 q2 (gp_wr (p1 - 1)).toNat), gp_i (gp_I s1 q2 (gp_wr (p1 - 1)).toNat), gp_l (0#64), gp_l (0#64), gp_r (some 6)]) (s' := s1) rfl (Or.inl H.1) ?_
  replace H := H.2
  refine gs_E.call (args := [gp_r (some 6), gp_l (0#64), gp_l (0#64), gp_i (gp_I s1 q2 (gp_wr (p1 - 1)).toNat), gp_i (gp_I s1 q2 (gp_wr (p1 - 1)).toNat)]) (m := 7) (y' := 1028) (st' := []) rfl H (fun r s3 H => ?_)
  obtain ⟨x4, rfl, H⟩ := H
  show gs_E L (d + 1) 259 26 [gp_r (some 20), gp_r (some q2), gp_i p1, gp_n, gp_n, gp_n] [gp_i x4] s3 K
  refine gs_E.stp (pc' := 32) (ls' := [gp_r (some 20), gp_r (some q2), gp_i p1, gp_i x4, gp_i (gp_wr (p1 - 2)), gp_n]) (st' := []) (s' := s3) 5 rfl ?_
  exact H

set_option maxRecDepth 100000 in
/-- Maker.rungs, pc 32 -/
theorem s_259_32 {L d : Nat} {K : Option gV → gH → Prop} {s : gH} (v1 : Option Nat) (v2 : Int) (v3 : Int) (v4 : Int) (v5 : gV) (H : ((v4 < 0 → gs_C L d 1032 8 [gp_r (some 6), gp_i v3] s (fun r s1 => ∃ o2, r = some (gp_r o2) ∧ K (some (gp_r o2)) s1)) ∧ (¬ v4 < 0 → (∃ q3, v1 = some q3 ∧ (gp_in (gp_mk L s) 100 q3 v4 ∧ (gp_in (gp_mk L s) 100 q3 v4 ∧ gs_C L d 1028 7 [gp_r (some 6), gp_l (0#64), gp_l (0#64), gp_i (gp_I s q3 v4.toNat), gp_i (gp_I s q3 v4.toNat)] s (fun r s4 => ∃ x5, r = some (gp_i x5) ∧ gs_C L d 1028 7 [gp_r (some 6), gp_l ((1#64) <<< (x5 % 64).toNat), gp_l ((1#64) <<< (v3 % 64).toNat), gp_i 0, gp_i 0] s4 (fun r s6 => ∃ x7, r = some (gp_i x7) ∧ gs_E L (d + 1) 259 32 [gp_r (some 20), gp_r (some q3), gp_i v2, gp_i x7, gp_i (gp_wr (v4 + (-1))), gp_i x5] [] s6 K)))))))) : gs_E L (d + 1) 259 32 [gp_r (some 20), gp_r v1, gp_i v2, gp_i v3, gp_i v4, v5] [] s K := by
  refine gs_E.stp (pc' := 34) (ls' := [gp_r (some 20), gp_r v1, gp_i v2, gp_i v3, gp_i v4, v5]) (st' := [gp_i v4]) (s' := s) 1 rfl ?_
  refine gs_E.br (c := v4 < 0) (p1 := 79) (p2 := 37) (l1 := [gp_r (some 20), gp_r v1, gp_i v2, gp_i v3, gp_i v4, v5]) (l2 := [gp_r (some 20), gp_r v1, gp_i v2, gp_i v3, gp_i v4, v5]) (s1 := []) (s2 := []) rfl gs_b1 (fun hc => ?_) (fun hc => ?_)
  · replace H := H.1 hc
    refine gs_E.stp (pc' := 84) (ls' := [gp_r (some 20), gp_r v1, gp_i v2, gp_i v3, gp_i v4, v5]) (st' := [gp_i v3, gp_r (some 6)]) (s' := s) 3 rfl ?_
    refine gs_E.call (args := [gp_r (some 6), gp_i v3]) (m := 8) (y' := 1032) (st' := []) rfl H (fun r s1 H => ?_)
    obtain ⟨o2, rfl, H⟩ := H
    show gs_E L (d + 1) 259 87 [gp_r (some 20), gp_r v1, gp_i v2, gp_i v3, gp_i v4, v5] [gp_r o2] s1 K
    exact gs_E.ret (r := (some (gp_r o2))) rfl H
  · replace H := H.2 hc
    refine gs_E.stp (pc' := 46) (ls' := [gp_r (some 20), gp_r v1, gp_i v2, gp_i v3, gp_i v4, v5]) (st' := [gp_i v4, gp_r v1, gp_l (0#64), gp_l (0#64), gp_r (some 6)]) (s' := s) 6 rfl ?_
    obtain ⟨q3, hq, H⟩ := H
    rw [hq]
    refine gs_E.ck (pc' := 47) (ls' := [gp_r (some 20), gp_r (some q3), gp_i v2, gp_i v3, gp_i v4, v5]) (st' := [gp_i (gp_I s q3 v4.toNat), gp_l (0#64), gp_l (0#64), gp_r (some 6)]) (s' := s) rfl (Or.inl H.1) ?_
    replace H := H.2
    refine gs_E.stp (pc' := 50) (ls' := [gp_r (some 20), gp_r (some q3), gp_i v2, gp_i v3, gp_i v4, v5]) (st' := [gp_i v4, gp_r (some q3), gp_i (gp_I s q3 v4.toNat), gp_l (0#64), gp_l (0#64), gp_r (some 6)]) (s' := s) 2 rfl ?_
    refine gs_E.ck (pc' := 51) (ls' := [gp_r (some 20), gp_r (some q3), gp_i v2, gp_i v3, gp_i v4, v5]) (st' := [gp_i (gp_I s q3 v4.toNat), gp_i (gp_I s q3 v4.toNat), gp_l (0#64), gp_l (0#64), gp_r (some 6)]) (s' := s) rfl (Or.inl H.1) ?_
    replace H := H.2
    refine gs_E.call (args := [gp_r (some 6), gp_l (0#64), gp_l (0#64), gp_i (gp_I s q3 v4.toNat), gp_i (gp_I s q3 v4.toNat)]) (m := 7) (y' := 1028) (st' := []) rfl H (fun r s4 H => ?_)
    obtain ⟨x5, rfl, H⟩ := H
    show gs_E L (d + 1) 259 54 [gp_r (some 20), gp_r (some q3), gp_i v2, gp_i v3, gp_i v4, v5] [gp_i x5] s4 K
    refine gs_E.stp (pc' := 69) (ls' := [gp_r (some 20), gp_r (some q3), gp_i v2, gp_i v3, gp_i v4, gp_i x5]) (st' := [gp_i 0, gp_i 0, gp_l ((1#64) <<< (v3 % 64).toNat), gp_l ((1#64) <<< (x5 % 64).toNat), gp_r (some 6)]) (s' := s4) 11 rfl ?_
    refine gs_E.call (args := [gp_r (some 6), gp_l ((1#64) <<< (x5 % 64).toNat), gp_l ((1#64) <<< (v3 % 64).toNat), gp_i 0, gp_i 0]) (m := 7) (y' := 1028) (st' := []) rfl H (fun r s6 H => ?_)
    obtain ⟨x7, rfl, H⟩ := H
    show gs_E L (d + 1) 259 72 [gp_r (some 20), gp_r (some q3), gp_i v2, gp_i v3, gp_i v4, gp_i x5] [gp_i x7] s6 K
    refine gs_E.stp (pc' := 32) (ls' := [gp_r (some 20), gp_r (some q3), gp_i v2, gp_i x7, gp_i (gp_wr (v4 + (-1))), gp_i x5]) (st' := []) (s' := s6) 3 rfl ?_
    exact H

set_option maxRecDepth 100000 in
/-- Maker.negated, pc 0 -/
theorem s_260_e {L d : Nat} {K : Option gV → gH → Prop} {s : gH} (p0 : Option Nat) (H : gs_C L d 1025 1 [gp_r (some 6)] s (fun r s1 => r = none ∧ gs_E L (d + 1) 260 9 [gp_r (some 20), gp_r p0, gp_i 0] [] s1 K)) : gs_C L (d + 1) 260 3 [gp_r (some 20), gp_r p0] s K := by
  show gs_E L (d + 1) 260 0 [gp_r (some 20), gp_r p0, gp_n] [] s K
  refine gs_E.stp (pc' := 4) (ls' := [gp_r (some 20), gp_r p0, gp_n]) (st' := [gp_r (some 6)]) (s' := s) 2 rfl ?_
  refine gs_E.call (args := [gp_r (some 6)]) (m := 1) (y' := 1025) (st' := []) rfl H (fun r s1 H => ?_)
  obtain ⟨rfl, H⟩ := H
  show gs_E L (d + 1) 260 7 [gp_r (some 20), gp_r p0, gp_n] [] s1 K
  refine gs_E.stp (pc' := 9) (ls' := [gp_r (some 20), gp_r p0, gp_i 0]) (st' := []) (s' := s1) 2 rfl ?_
  exact H

set_option maxRecDepth 100000 in
/-- Maker.negated, pc 9 -/
theorem s_260_9 {L d : Nat} {K : Option gV → gH → Prop} {s : gH} (v1 : Option Nat) (v2 : Int) (H : (∃ q1, v1 = some q1 ∧ ((gp_sh (gp_mk L s) q1).1 = 9 ∧ ((v2 < (gp_I s q1 0) → ((gp_sh (gp_mk L s) q1).1 = 9 ∧ (∃ q6, gp_R (gp_mk L s) q1 2 = some q6 ∧ (gp_in (gp_mk L s) 101 q6 v2 ∧ gs_C L d 2863 7 [gp_l (gp_L s q6 v2.toNat), gp_r (some 21)] s (fun r s7 => ∃ m8, r = some (gp_l m8) ∧ ((gp_sh (gp_mk L s7) q1).1 = 9 ∧ (∃ q9, gp_R (gp_mk L s7) q1 1 = some q9 ∧ (gp_in (gp_mk L s7) 101 q9 v2 ∧ gs_C L d 2863 7 [gp_l (gp_L s7 q9 v2.toNat), gp_r (some 21)] s7 (fun r s10 => ∃ m11, r = some (gp_l m11) ∧ ((gp_sh (gp_mk L s10) q1).1 = 9 ∧ (∃ q12, gp_R (gp_mk L s10) q1 4 = some q12 ∧ (gp_in (gp_mk L s10) 100 q12 v2 ∧ ((gp_sh (gp_mk L s10) q1).1 = 9 ∧ (∃ q13, gp_R (gp_mk L s10) q1 3 = some q13 ∧ (gp_in (gp_mk L s10) 100 q13 v2 ∧ gs_C L d 1028 7 [gp_r (some 6), gp_l m8, gp_l m11, gp_i (gp_wr (-(gp_I s10 q12 v2.toNat))), gp_i (gp_wr (-(gp_I s10 q13 v2.toNat)))] s10 (fun r s14 => ∃ x15, r = some (gp_i x15) ∧ ((0 ≤ v2 ∧ v2 < 61) ∧ (∀ s16, s16 = gp_wI s14 21 v2.toNat x15 → gs_E L (d + 1) 260 9 [gp_r (some 20), gp_r (some q1), gp_i (gp_wr (v2 + 1))] [] s16 K)))))))))))))))))) ∧ (¬ v2 < (gp_I s q1 0) → ((gp_sh (gp_mk L s) q1).1 = 9 ∧ gs_C L d 2306 1 [gp_r (some q1)] s (fun r s2 => ∃ x3, r = some (gp_i x3) ∧ ((0 ≤ x3 ∧ x3 < 61) ∧ gs_C L d 1032 8 [gp_r (some 6), gp_i (gp_I s2 21 x3.toNat)] s2 (fun r s4 => ∃ o5, r = some (gp_r o5) ∧ K (some (gp_r o5)) s4))))))))) : gs_E L (d + 1) 260 9 [gp_r (some 20), gp_r v1, gp_i v2] [] s K := by
  refine gs_E.stp (pc' := 11) (ls' := [gp_r (some 20), gp_r v1, gp_i v2]) (st' := [gp_r v1, gp_i v2]) (s' := s) 2 rfl ?_
  obtain ⟨q1, hq, H⟩ := H
  rw [hq]
  refine gs_E.ck (pc' := 14) (ls' := [gp_r (some 20), gp_r (some q1), gp_i v2]) (st' := [gp_i (gp_I s q1 0), gp_i v2]) (s' := s) rfl H.1 ?_
  replace H := H.2
  refine gs_E.br (c := ¬ v2 < (gp_I s q1 0)) (p1 := 76) (p2 := 17) (l1 := [gp_r (some 20), gp_r (some q1), gp_i v2]) (l2 := [gp_r (some 20), gp_r (some q1), gp_i v2]) (s1 := []) (s2 := []) rfl gs_b2 (fun hc => ?_) (fun hc => ?_)
  · replace H := H.2 hc
    refine gs_E.stp (pc' := 85) (ls' := [gp_r (some 20), gp_r (some q1), gp_i v2]) (st' := [gp_r (some q1), gp_r (some 21), gp_r (some 6)]) (s' := s) 5 rfl ?_
    refine gs_E.callV (args := [gp_r (some q1)]) (m := 1) (y' := 2306) (st' := [gp_r (some 21), gp_r (some 6)]) rfl H.1 H.2 (fun r s2 H => ?_)
    obtain ⟨x3, rfl, H⟩ := H
    show gs_E L (d + 1) 260 88 [gp_r (some 20), gp_r (some q1), gp_i v2] [gp_i x3, gp_r (some 21), gp_r (some 6)] s2 K
    refine gs_E.ck (pc' := 89) (ls' := [gp_r (some 20), gp_r (some q1), gp_i v2]) (st' := [gp_i (gp_I s2 21 x3.toNat), gp_r (some 6)]) (s' := s2) rfl (Or.inl ⟨rfl, H.1.1, H.1.2⟩) ?_
    replace H := H.2
    refine gs_E.call (args := [gp_r (some 6), gp_i (gp_I s2 21 x3.toNat)]) (m := 8) (y' := 1032) (st' := []) rfl H (fun r s4 H => ?_)
    obtain ⟨o5, rfl, H⟩ := H
    show gs_E L (d + 1) 260 92 [gp_r (some 20), gp_r (some q1), gp_i v2] [gp_r o5] s4 K
    exact gs_E.ret (r := (some (gp_r o5))) rfl H
  · replace H := H.1 (Decidable.byContradiction hc)
    refine gs_E.stp (pc' := 27) (ls' := [gp_r (some 20), gp_r (some q1), gp_i v2]) (st' := [gp_r (some q1), gp_r (some 6), gp_i v2, gp_r (some 21)]) (s' := s) 6 rfl ?_
    refine gs_E.ck (pc' := 30) (ls' := [gp_r (some 20), gp_r (some q1), gp_i v2]) (st' := [gp_r (gp_R (gp_mk L s) q1 2), gp_r (some 6), gp_i v2, gp_r (some 21)]) (s' := s) rfl H.1 ?_
    replace H := H.2
    refine gs_E.stp (pc' := 31) (ls' := [gp_r (some 20), gp_r (some q1), gp_i v2]) (st' := [gp_i v2, gp_r (gp_R (gp_mk L s) q1 2), gp_r (some 6), gp_i v2, gp_r (some 21)]) (s' := s) 1 rfl ?_
    obtain ⟨q6, hq, H⟩ := H
    rw [hq]
    refine gs_E.ck (pc' := 32) (ls' := [gp_r (some 20), gp_r (some q1), gp_i v2]) (st' := [gp_l (gp_L s q6 v2.toNat), gp_r (some 6), gp_i v2, gp_r (some 21)]) (s' := s) rfl H.1 ?_
    replace H := H.2
    refine gs_E.stp (pc' := 36) (ls' := [gp_r (some 20), gp_r (some q1), gp_i v2]) (st' := [gp_r (some 21), gp_l (gp_L s q6 v2.toNat), gp_r (some 6), gp_i v2, gp_r (some 21)]) (s' := s) 2 rfl ?_
    refine gs_E.call (args := [gp_l (gp_L s q6 v2.toNat), gp_r (some 21)]) (m := 7) (y' := 2863) (st' := [gp_r (some 6), gp_i v2, gp_r (some 21)]) rfl H (fun r s7 H => ?_)
    obtain ⟨m8, rfl, H⟩ := H
    show gs_E L (d + 1) 260 39 [gp_r (some 20), gp_r (some q1), gp_i v2] [gp_l m8, gp_r (some 6), gp_i v2, gp_r (some 21)] s7 K
    refine gs_E.stp (pc' := 40) (ls' := [gp_r (some 20), gp_r (some q1), gp_i v2]) (st' := [gp_r (some q1), gp_l m8, gp_r (some 6), gp_i v2, gp_r (some 21)]) (s' := s7) 1 rfl ?_
    refine gs_E.ck (pc' := 43) (ls' := [gp_r (some 20), gp_r (some q1), gp_i v2]) (st' := [gp_r (gp_R (gp_mk L s7) q1 1), gp_l m8, gp_r (some 6), gp_i v2, gp_r (some 21)]) (s' := s7) rfl H.1 ?_
    replace H := H.2
    refine gs_E.stp (pc' := 44) (ls' := [gp_r (some 20), gp_r (some q1), gp_i v2]) (st' := [gp_i v2, gp_r (gp_R (gp_mk L s7) q1 1), gp_l m8, gp_r (some 6), gp_i v2, gp_r (some 21)]) (s' := s7) 1 rfl ?_
    obtain ⟨q9, hq, H⟩ := H
    rw [hq]
    refine gs_E.ck (pc' := 45) (ls' := [gp_r (some 20), gp_r (some q1), gp_i v2]) (st' := [gp_l (gp_L s7 q9 v2.toNat), gp_l m8, gp_r (some 6), gp_i v2, gp_r (some 21)]) (s' := s7) rfl H.1 ?_
    replace H := H.2
    refine gs_E.stp (pc' := 49) (ls' := [gp_r (some 20), gp_r (some q1), gp_i v2]) (st' := [gp_r (some 21), gp_l (gp_L s7 q9 v2.toNat), gp_l m8, gp_r (some 6), gp_i v2, gp_r (some 21)]) (s' := s7) 2 rfl ?_
    refine gs_E.call (args := [gp_l (gp_L s7 q9 v2.toNat), gp_r (some 21)]) (m := 7) (y' := 2863) (st' := [gp_l m8, gp_r (some 6), gp_i v2, gp_r (some 21)]) rfl H (fun r s10 H => ?_)
    obtain ⟨m11, rfl, H⟩ := H
    show gs_E L (d + 1) 260 52 [gp_r (some 20), gp_r (some q1), gp_i v2] [gp_l m11, gp_l m8, gp_r (some 6), gp_i v2, gp_r (some 21)] s10 K
    refine gs_E.stp (pc' := 53) (ls' := [gp_r (some 20), gp_r (some q1), gp_i v2]) (st' := [gp_r (some q1), gp_l m11, gp_l m8, gp_r (some 6), gp_i v2, gp_r (some 21)]) (s' := s10) 1 rfl ?_
    refine gs_E.ck (pc' := 56) (ls' := [gp_r (some 20), gp_r (some q1), gp_i v2]) (st' := [gp_r (gp_R (gp_mk L s10) q1 4), gp_l m11, gp_l m8, gp_r (some 6), gp_i v2, gp_r (some 21)]) (s' := s10) rfl H.1 ?_
    replace H := H.2
    refine gs_E.stp (pc' := 57) (ls' := [gp_r (some 20), gp_r (some q1), gp_i v2]) (st' := [gp_i v2, gp_r (gp_R (gp_mk L s10) q1 4), gp_l m11, gp_l m8, gp_r (some 6), gp_i v2, gp_r (some 21)]) (s' := s10) 1 rfl ?_
    obtain ⟨q12, hq, H⟩ := H
    rw [hq]
    refine gs_E.ck (pc' := 58) (ls' := [gp_r (some 20), gp_r (some q1), gp_i v2]) (st' := [gp_i (gp_I s10 q12 v2.toNat), gp_l m11, gp_l m8, gp_r (some 6), gp_i v2, gp_r (some 21)]) (s' := s10) rfl (Or.inl H.1) ?_
    replace H := H.2
    refine gs_E.stp (pc' := 60) (ls' := [gp_r (some 20), gp_r (some q1), gp_i v2]) (st' := [gp_r (some q1), gp_i (gp_wr (-(gp_I s10 q12 v2.toNat))), gp_l m11, gp_l m8, gp_r (some 6), gp_i v2, gp_r (some 21)]) (s' := s10) 2 rfl ?_
    refine gs_E.ck (pc' := 63) (ls' := [gp_r (some 20), gp_r (some q1), gp_i v2]) (st' := [gp_r (gp_R (gp_mk L s10) q1 3), gp_i (gp_wr (-(gp_I s10 q12 v2.toNat))), gp_l m11, gp_l m8, gp_r (some 6), gp_i v2, gp_r (some 21)]) (s' := s10) rfl H.1 ?_
    replace H := H.2
    refine gs_E.stp (pc' := 64) (ls' := [gp_r (some 20), gp_r (some q1), gp_i v2]) (st' := [gp_i v2, gp_r (gp_R (gp_mk L s10) q1 3), gp_i (gp_wr (-(gp_I s10 q12 v2.toNat))), gp_l m11, gp_l m8, gp_r (some 6), gp_i v2, gp_r (some 21)]) (s' := s10) 1 rfl ?_
    obtain ⟨q13, hq, H⟩ := H
    rw [hq]
    refine gs_E.ck (pc' := 65) (ls' := [gp_r (some 20), gp_r (some q1), gp_i v2]) (st' := [gp_i (gp_I s10 q13 v2.toNat), gp_i (gp_wr (-(gp_I s10 q12 v2.toNat))), gp_l m11, gp_l m8, gp_r (some 6), gp_i v2, gp_r (some 21)]) (s' := s10) rfl (Or.inl H.1) ?_
    replace H := H.2
    refine gs_E.stp (pc' := 66) (ls' := [gp_r (some 20), gp_r (some q1), gp_i v2]) (st' := [gp_i (gp_wr (-(gp_I s10 q13 v2.toNat))), gp_i (gp_wr (-(gp_I s10 q12 v2.toNat))), gp_l m11, gp_l m8, gp_r (some 6), gp_i v2, gp_r (some 21)]) (s' := s10) 1 rfl ?_
    refine gs_E.call (args := [gp_r (some 6), gp_l m8, gp_l m11, gp_i (gp_wr (-(gp_I s10 q12 v2.toNat))), gp_i (gp_wr (-(gp_I s10 q13 v2.toNat)))]) (m := 7) (y' := 1028) (st' := [gp_i v2, gp_r (some 21)]) rfl H (fun r s14 H => ?_)
    obtain ⟨x15, rfl, H⟩ := H
    show gs_E L (d + 1) 260 69 [gp_r (some 20), gp_r (some q1), gp_i v2] [gp_i x15, gp_i v2, gp_r (some 21)] s14 K
    refine gs_E.ck (pc' := 70) (ls' := [gp_r (some 20), gp_r (some q1), gp_i v2]) (st' := []) (s' := gp_wI s14 21 v2.toNat x15) rfl ⟨rfl, H.1.1, H.1.2⟩ ?_
    replace H := H.2 _ rfl
    generalize gp_wI s14 21 v2.toNat x15 = s16 at H ⊢
    refine gs_E.stp (pc' := 9) (ls' := [gp_r (some 20), gp_r (some q1), gp_i (gp_wr (v2 + 1))]) (st' := []) (s' := s16) 2 rfl ?_
    exact H

set_option maxRecDepth 100000 in
/-- Maker.part, pc 0 -/
theorem s_261_e {L d : Nat} {K : Option gV → gH → Prop} {s : gH} (p0 : Option Nat) (p1 : Int) (H : (∃ q1, p0 = some q1 ∧ ((gp_sh (gp_mk L s) q1).1 = 9 ∧ gs_C L d 2306 1 [gp_r (some q1)] s (fun r s2 => ∃ x3, r = some (gp_i x3) ∧ ((p1 = x3 → K (some (gp_r (some q1))) s2) ∧ (¬ p1 = x3 → gs_C L d 1025 1 [gp_r (some 6)] s2 (fun r s4 => r = none ∧ gs_C L d 1031 6 [gp_r (some 6), gp_r (some q1), gp_i p1] s4 (fun r s5 => ∃ x6, r = some (gp_i x6) ∧ gs_C L d 1032 8 [gp_r (some 6), gp_i x6] s5 (fun r s7 => ∃ o8, r = some (gp_r o8) ∧ K (some (gp_r o8)) s7))))))))) : gs_C L (d + 1) 261 3 [gp_r (some 20), gp_r p0, gp_i p1] s K := by
  show gs_E L (d + 1) 261 0 [gp_r (some 20), gp_r p0, gp_i p1] [] s K
  refine gs_E.stp (pc' := 2) (ls' := [gp_r (some 20), gp_r p0, gp_i p1]) (st' := [gp_r p0, gp_i p1]) (s' := s) 2 rfl ?_
  obtain ⟨q1, hq, H⟩ := H
  rw [hq]
  refine gs_E.callV (args := [gp_r (some q1)]) (m := 1) (y' := 2306) (st' := [gp_i p1]) rfl H.1 H.2 (fun r s2 H => ?_)
  obtain ⟨x3, rfl, H⟩ := H
  show gs_E L (d + 1) 261 5 [gp_r (some 20), gp_r (some q1), gp_i p1] [gp_i x3, gp_i p1] s2 K
  refine gs_E.br (c := ¬ p1 = x3) (p1 := 10) (p2 := 8) (l1 := [gp_r (some 20), gp_r (some q1), gp_i p1]) (l2 := [gp_r (some 20), gp_r (some q1), gp_i p1]) (s1 := []) (s2 := []) rfl gs_b2 (fun hc => ?_) (fun hc => ?_)
  · replace H := H.2 hc
    refine gs_E.stp (pc' := 14) (ls' := [gp_r (some 20), gp_r (some q1), gp_i p1]) (st' := [gp_r (some 6)]) (s' := s2) 2 rfl ?_
    refine gs_E.call (args := [gp_r (some 6)]) (m := 1) (y' := 1025) (st' := []) rfl H (fun r s4 H => ?_)
    obtain ⟨rfl, H⟩ := H
    show gs_E L (d + 1) 261 17 [gp_r (some 20), gp_r (some q1), gp_i p1] [] s4 K
    refine gs_E.stp (pc' := 27) (ls' := [gp_r (some 20), gp_r (some q1), gp_i p1]) (st' := [gp_i p1, gp_r (some q1), gp_r (some 6), gp_r (some 6)]) (s' := s4) 6 rfl ?_
    refine gs_E.call (args := [gp_r (some 6), gp_r (some q1), gp_i p1]) (m := 6) (y' := 1031) (st' := [gp_r (some 6)]) rfl H (fun r s5 H => ?_)
    obtain ⟨x6, rfl, H⟩ := H
    show gs_E L (d + 1) 261 30 [gp_r (some 20), gp_r (some q1), gp_i p1] [gp_i x6, gp_r (some 6)] s5 K
    refine gs_E.call (args := [gp_r (some 6), gp_i x6]) (m := 8) (y' := 1032) (st' := []) rfl H (fun r s7 H => ?_)
    obtain ⟨o8, rfl, H⟩ := H
    show gs_E L (d + 1) 261 33 [gp_r (some 20), gp_r (some q1), gp_i p1] [gp_r o8] s7 K
    exact gs_E.ret (r := (some (gp_r o8))) rfl H
  · replace H := H.1 (Decidable.byContradiction hc)
    refine gs_E.stp (pc' := 9) (ls' := [gp_r (some 20), gp_r (some q1), gp_i p1]) (st' := [gp_r (some q1)]) (s' := s2) 1 rfl ?_
    exact gs_E.ret (r := (some (gp_r (some q1)))) rfl H

set_option maxRecDepth 100000 in
/-- Maker.joined, pc 0 -/
theorem s_262_e {L d : Nat} {K : Option gV → gH → Prop} {s : gH} (p0 : Option Nat) (p1 : Option Nat) (H : gs_C L d 1025 1 [gp_r (some 6)] s (fun r s1 => r = none ∧ gs_E L (d + 1) 262 9 [gp_r (some 20), gp_r p0, gp_r p1, gp_i 0, gp_n, gp_n] [] s1 K)) : gs_C L (d + 1) 262 6 [gp_r (some 20), gp_r p0, gp_r p1] s K := by
  show gs_E L (d + 1) 262 0 [gp_r (some 20), gp_r p0, gp_r p1, gp_n, gp_n, gp_n] [] s K
  refine gs_E.stp (pc' := 4) (ls' := [gp_r (some 20), gp_r p0, gp_r p1, gp_n, gp_n, gp_n]) (st' := [gp_r (some 6)]) (s' := s) 2 rfl ?_
  refine gs_E.call (args := [gp_r (some 6)]) (m := 1) (y' := 1025) (st' := []) rfl H (fun r s1 H => ?_)
  obtain ⟨rfl, H⟩ := H
  show gs_E L (d + 1) 262 7 [gp_r (some 20), gp_r p0, gp_r p1, gp_n, gp_n, gp_n] [] s1 K
  refine gs_E.stp (pc' := 9) (ls' := [gp_r (some 20), gp_r p0, gp_r p1, gp_i 0, gp_n, gp_n]) (st' := []) (s' := s1) 2 rfl ?_
  exact H

set_option maxRecDepth 100000 in
/-- Maker.joined, pc 9 -/
theorem s_262_9 {L d : Nat} {K : Option gV → gH → Prop} {s : gH} (v1 : Option Nat) (v2 : Option Nat) (v3 : Int) (v4 : gV) (v5 : gV) (H : (∃ q1, v1 = some q1 ∧ ((gp_sh (gp_mk L s) q1).1 = 9 ∧ ((v3 < (gp_I s q1 0) → gs_E L (d + 1) 262 20 [gp_r (some 20), gp_r (some q1), gp_r v2, gp_i v3, gp_i 0, v5] [] s K) ∧ (¬ v3 < (gp_I s q1 0) → ((gp_sh (gp_mk L s) q1).1 = 9 ∧ gs_C L d 2306 1 [gp_r (some q1)] s (fun r s2 => ∃ x3, r = some (gp_i x3) ∧ (∃ q4, v2 = some q4 ∧ ((gp_sh (gp_mk L s2) q4).1 = 9 ∧ gs_C L d 2306 1 [gp_r (some q4)] s2 (fun r s5 => ∃ x6, r = some (gp_i x6) ∧ ((0 ≤ (gp_wr ((gp_wr (x3 * 60)) + x6)) ∧ (gp_wr ((gp_wr (x3 * 60)) + x6)) < 3600) ∧ gs_C L d 1032 8 [gp_r (some 6), gp_i (gp_I s5 22 (gp_wr ((gp_wr (x3 * 60)) + x6)).toNat)] s5 (fun r s7 => ∃ o8, r = some (gp_r o8) ∧ K (some (gp_r o8)) s7)))))))))))) : gs_E L (d + 1) 262 9 [gp_r (some 20), gp_r v1, gp_r v2, gp_i v3, v4, v5] [] s K := by
  refine gs_E.stp (pc' := 11) (ls' := [gp_r (some 20), gp_r v1, gp_r v2, gp_i v3, v4, v5]) (st' := [gp_r v1, gp_i v3]) (s' := s) 2 rfl ?_
  obtain ⟨q1, hq, H⟩ := H
  rw [hq]
  refine gs_E.ck (pc' := 14) (ls' := [gp_r (some 20), gp_r (some q1), gp_r v2, gp_i v3, v4, v5]) (st' := [gp_i (gp_I s q1 0), gp_i v3]) (s' := s) rfl H.1 ?_
  replace H := H.2
  refine gs_E.br (c := ¬ v3 < (gp_I s q1 0)) (p1 := 146) (p2 := 17) (l1 := [gp_r (some 20), gp_r (some q1), gp_r v2, gp_i v3, v4, v5]) (l2 := [gp_r (some 20), gp_r (some q1), gp_r v2, gp_i v3, v4, v5]) (s1 := []) (s2 := []) rfl gs_b2 (fun hc => ?_) (fun hc => ?_)
  · replace H := H.2 hc
    refine gs_E.stp (pc' := 155) (ls' := [gp_r (some 20), gp_r (some q1), gp_r v2, gp_i v3, v4, v5]) (st' := [gp_r (some q1), gp_r (some 22), gp_r (some 6)]) (s' := s) 5 rfl ?_
    refine gs_E.callV (args := [gp_r (some q1)]) (m := 1) (y' := 2306) (st' := [gp_r (some 22), gp_r (some 6)]) rfl H.1 H.2 (fun r s2 H => ?_)
    obtain ⟨x3, rfl, H⟩ := H
    show gs_E L (d + 1) 262 158 [gp_r (some 20), gp_r (some q1), gp_r v2, gp_i v3, v4, v5] [gp_i x3, gp_r (some 22), gp_r (some 6)] s2 K
    refine gs_E.stp (pc' := 162) (ls' := [gp_r (some 20), gp_r (some q1), gp_r v2, gp_i v3, v4, v5]) (st' := [gp_r v2, gp_i (gp_wr (x3 * 60)), gp_r (some 22), gp_r (some 6)]) (s' := s2) 3 rfl ?_
    obtain ⟨q4, hq, H⟩ := H
    rw [hq]
    refine gs_E.callV (args := [gp_r (some q4)]) (m := 1) (y' := 2306) (st' := [gp_i (gp_wr (x3 * 60)), gp_r (some 22), gp_r (some 6)]) rfl H.1 H.2 (fun r s5 H => ?_)
    obtain ⟨x6, rfl, H⟩ := H
    show gs_E L (d + 1) 262 165 [gp_r (some 20), gp_r (some q1), gp_r (some q4), gp_i v3, v4, v5] [gp_i x6, gp_i (gp_wr (x3 * 60)), gp_r (some 22), gp_r (some 6)] s5 K
    refine gs_E.stp (pc' := 166) (ls' := [gp_r (some 20), gp_r (some q1), gp_r (some q4), gp_i v3, v4, v5]) (st' := [gp_i (gp_wr ((gp_wr (x3 * 60)) + x6)), gp_r (some 22), gp_r (some 6)]) (s' := s5) 1 rfl ?_
    refine gs_E.ck (pc' := 167) (ls' := [gp_r (some 20), gp_r (some q1), gp_r (some q4), gp_i v3, v4, v5]) (st' := [gp_i (gp_I s5 22 (gp_wr ((gp_wr (x3 * 60)) + x6)).toNat), gp_r (some 6)]) (s' := s5) rfl (Or.inl ⟨rfl, H.1.1, H.1.2⟩) ?_
    replace H := H.2
    refine gs_E.call (args := [gp_r (some 6), gp_i (gp_I s5 22 (gp_wr ((gp_wr (x3 * 60)) + x6)).toNat)]) (m := 8) (y' := 1032) (st' := []) rfl H (fun r s7 H => ?_)
    obtain ⟨o8, rfl, H⟩ := H
    show gs_E L (d + 1) 262 170 [gp_r (some 20), gp_r (some q1), gp_r (some q4), gp_i v3, v4, v5] [gp_r o8] s7 K
    exact gs_E.ret (r := (some (gp_r o8))) rfl H
  · replace H := H.1 (Decidable.byContradiction hc)
    refine gs_E.stp (pc' := 20) (ls' := [gp_r (some 20), gp_r (some q1), gp_r v2, gp_i v3, gp_i 0, v5]) (st' := []) (s' := s) 2 rfl ?_
    exact H

set_option maxRecDepth 100000 in
/-- Maker.joined, pc 20 -/
theorem s_262_20 {L d : Nat} {K : Option gV → gH → Prop} {s : gH} (v1 : Option Nat) (v2 : Option Nat) (v3 : Int) (v4 : Int) (v5 : gV) (H : (∃ q1, v2 = some q1 ∧ ((gp_sh (gp_mk L s) q1).1 = 9 ∧ ((v4 < (gp_I s q1 0) → (∃ q2, v1 = some q2 ∧ ((gp_sh (gp_mk L s) q2).1 = 9 ∧ (∃ q3, gp_R (gp_mk L s) q2 1 = some q3 ∧ (gp_in (gp_mk L s) 101 q3 v3 ∧ ((gp_sh (gp_mk L s) q1).1 = 9 ∧ (∃ q4, gp_R (gp_mk L s) q1 1 = some q4 ∧ (gp_in (gp_mk L s) 101 q4 v4 ∧ gs_C L d 263 11 [gp_r (some 20), gp_l (gp_L s q3 v3.toNat), gp_l (gp_L s q4 v4.toNat), gp_i v3, gp_i v4] s (fun r s5 => ∃ m6, r = some (gp_l m6) ∧ ((gp_sh (gp_mk L s5) q2).1 = 9 ∧ (∃ q7, gp_R (gp_mk L s5) q2 2 = some q7 ∧ (gp_in (gp_mk L s5) 101 q7 v3 ∧ ((gp_sh (gp_mk L s5) q1).1 = 9 ∧ (∃ q8, gp_R (gp_mk L s5) q1 2 = some q8 ∧ (gp_in (gp_mk L s5) 101 q8 v4 ∧ gs_C L d 263 11 [gp_r (some 20), gp_l (gp_L s5 q7 v3.toNat), gp_l (gp_L s5 q8 v4.toNat), gp_i v3, gp_i v4] s5 (fun r s9 => ∃ m10, r = some (gp_l m10) ∧ ((gp_sh (gp_mk L s9) q2).1 = 9 ∧ (∃ q11, gp_R (gp_mk L s9) q2 3 = some q11 ∧ (gp_in (gp_mk L s9) 100 q11 v3 ∧ ((gp_sh (gp_mk L s9) q1).1 = 9 ∧ (∃ q12, gp_R (gp_mk L s9) q1 3 = some q12 ∧ (gp_in (gp_mk L s9) 100 q12 v4 ∧ ((gp_sh (gp_mk L s9) q2).1 = 9 ∧ (∃ q13, gp_R (gp_mk L s9) q2 4 = some q13 ∧ (gp_in (gp_mk L s9) 100 q13 v3 ∧ ((gp_sh (gp_mk L s9) q1).1 = 9 ∧ (∃ q14, gp_R (gp_mk L s9) q1 4 = some q14 ∧ (gp_in (gp_mk L s9) 100 q14 v4 ∧ gs_C L d 1026 10 [gp_r (some 6), gp_l m6, gp_l m10, gp_i (gp_wr ((gp_I s9 q11 v3.toNat) + (gp_I s9 q12 v4.toNat))), gp_i (gp_wr ((gp_I s9 q13 v3.toNat) + (gp_I s9 q14 v4.toNat)))] s9 (fun r s15 => r = none ∧ gs_C L d 1027 6 [gp_r (some 6)] s15 (fun r s16 => ∃ x17, r = some (gp_i x17) ∧ ((x17 < 0 → K (some (gp_r none)) s16) ∧ (¬ x17 < 0 → ((0 ≤ (gp_wr ((gp_wr (v3 * 60)) + v4)) ∧ (gp_wr ((gp_wr (v3 * 60)) + v4)) < 3600) ∧ (∀ s18, s18 = gp_wI s16 22 (gp_wr ((gp_wr (v3 * 60)) + v4)).toNat x17 → gs_E L (d + 1) 262 20 [gp_r (some 20), gp_r (some q2), gp_r (some q1), gp_i v3, gp_i (gp_wr (v4 + 1)), gp_i x17] [] s18 K)))))))))))))))))))))))))))))))))) ∧ (¬ v4 < (gp_I s q1 0) → gs_E L (d + 1) 262 9 [gp_r (some 20), gp_r v1, gp_r (some q1), gp_i (gp_wr (v3 + 1)), gp_i v4, v5] [] s K))))) : gs_E L (d + 1) 262 20 [gp_r (some 20), gp_r v1, gp_r v2, gp_i v3, gp_i v4, v5] [] s K := by
  refine gs_E.stp (pc' := 23) (ls' := [gp_r (some 20), gp_r v1, gp_r v2, gp_i v3, gp_i v4, v5]) (st' := [gp_r v2, gp_i v4]) (s' := s) 2 rfl ?_
  obtain ⟨q1, hq, H⟩ := H
  rw [hq]
  refine gs_E.ck (pc' := 26) (ls' := [gp_r (some 20), gp_r v1, gp_r (some q1), gp_i v3, gp_i v4, v5]) (st' := [gp_i (gp_I s q1 0), gp_i v4]) (s' := s) rfl H.1 ?_
  replace H := H.2
  refine gs_E.br (c := ¬ v4 < (gp_I s q1 0)) (p1 := 140) (p2 := 29) (l1 := [gp_r (some 20), gp_r v1, gp_r (some q1), gp_i v3, gp_i v4, v5]) (l2 := [gp_r (some 20), gp_r v1, gp_r (some q1), gp_i v3, gp_i v4, v5]) (s1 := []) (s2 := []) rfl gs_b2 (fun hc => ?_) (fun hc => ?_)
  · replace H := H.2 hc
    refine gs_E.stp (pc' := 9) (ls' := [gp_r (some 20), gp_r v1, gp_r (some q1), gp_i (gp_wr (v3 + 1)), gp_i v4, v5]) (st' := []) (s' := s) 2 rfl ?_
    exact H
  · replace H := H.1 (Decidable.byContradiction hc)
    refine gs_E.stp (pc' := 35) (ls' := [gp_r (some 20), gp_r v1, gp_r (some q1), gp_i v3, gp_i v4, v5]) (st' := [gp_r v1, gp_r (some 20), gp_r (some 6)]) (s' := s) 4 rfl ?_
    obtain ⟨q2, hq, H⟩ := H
    rw [hq]
    refine gs_E.ck (pc' := 38) (ls' := [gp_r (some 20), gp_r (some q2), gp_r (some q1), gp_i v3, gp_i v4, v5]) (st' := [gp_r (gp_R (gp_mk L s) q2 1), gp_r (some 20), gp_r (some 6)]) (s' := s) rfl H.1 ?_
    replace H := H.2
    refine gs_E.stp (pc' := 39) (ls' := [gp_r (some 20), gp_r (some q2), gp_r (some q1), gp_i v3, gp_i v4, v5]) (st' := [gp_i v3, gp_r (gp_R (gp_mk L s) q2 1), gp_r (some 20), gp_r (some 6)]) (s' := s) 1 rfl ?_
    obtain ⟨q3, hq, H⟩ := H
    rw [hq]
    refine gs_E.ck (pc' := 40) (ls' := [gp_r (some 20), gp_r (some q2), gp_r (some q1), gp_i v3, gp_i v4, v5]) (st' := [gp_l (gp_L s q3 v3.toNat), gp_r (some 20), gp_r (some 6)]) (s' := s) rfl H.1 ?_
    replace H := H.2
    refine gs_E.stp (pc' := 41) (ls' := [gp_r (some 20), gp_r (some q2), gp_r (some q1), gp_i v3, gp_i v4, v5]) (st' := [gp_r (some q1), gp_l (gp_L s q3 v3.toNat), gp_r (some 20), gp_r (some 6)]) (s' := s) 1 rfl ?_
    refine gs_E.ck (pc' := 44) (ls' := [gp_r (some 20), gp_r (some q2), gp_r (some q1), gp_i v3, gp_i v4, v5]) (st' := [gp_r (gp_R (gp_mk L s) q1 1), gp_l (gp_L s q3 v3.toNat), gp_r (some 20), gp_r (some 6)]) (s' := s) rfl H.1 ?_
    replace H := H.2
    refine gs_E.stp (pc' := 46) (ls' := [gp_r (some 20), gp_r (some q2), gp_r (some q1), gp_i v3, gp_i v4, v5]) (st' := [gp_i v4, gp_r (gp_R (gp_mk L s) q1 1), gp_l (gp_L s q3 v3.toNat), gp_r (some 20), gp_r (some 6)]) (s' := s) 1 rfl ?_
    obtain ⟨q4, hq, H⟩ := H
    rw [hq]
    refine gs_E.ck (pc' := 47) (ls' := [gp_r (some 20), gp_r (some q2), gp_r (some q1), gp_i v3, gp_i v4, v5]) (st' := [gp_l (gp_L s q4 v4.toNat), gp_l (gp_L s q3 v3.toNat), gp_r (some 20), gp_r (some 6)]) (s' := s) rfl H.1 ?_
    replace H := H.2
    refine gs_E.stp (pc' := 50) (ls' := [gp_r (some 20), gp_r (some q2), gp_r (some q1), gp_i v3, gp_i v4, v5]) (st' := [gp_i v4, gp_i v3, gp_l (gp_L s q4 v4.toNat), gp_l (gp_L s q3 v3.toNat), gp_r (some 20), gp_r (some 6)]) (s' := s) 2 rfl ?_
    refine gs_E.call (args := [gp_r (some 20), gp_l (gp_L s q3 v3.toNat), gp_l (gp_L s q4 v4.toNat), gp_i v3, gp_i v4]) (m := 11) (y' := 263) (st' := [gp_r (some 6)]) rfl H (fun r s5 H => ?_)
    obtain ⟨m6, rfl, H⟩ := H
    show gs_E L (d + 1) 262 53 [gp_r (some 20), gp_r (some q2), gp_r (some q1), gp_i v3, gp_i v4, v5] [gp_l m6, gp_r (some 6)] s5 K
    refine gs_E.stp (pc' := 55) (ls' := [gp_r (some 20), gp_r (some q2), gp_r (some q1), gp_i v3, gp_i v4, v5]) (st' := [gp_r (some q2), gp_r (some 20), gp_l m6, gp_r (some 6)]) (s' := s5) 2 rfl ?_
    refine gs_E.ck (pc' := 58) (ls' := [gp_r (some 20), gp_r (some q2), gp_r (some q1), gp_i v3, gp_i v4, v5]) (st' := [gp_r (gp_R (gp_mk L s5) q2 2), gp_r (some 20), gp_l m6, gp_r (some 6)]) (s' := s5) rfl H.1 ?_
    replace H := H.2
    refine gs_E.stp (pc' := 59) (ls' := [gp_r (some 20), gp_r (some q2), gp_r (some q1), gp_i v3, gp_i v4, v5]) (st' := [gp_i v3, gp_r (gp_R (gp_mk L s5) q2 2), gp_r (some 20), gp_l m6, gp_r (some 6)]) (s' := s5) 1 rfl ?_
    obtain ⟨q7, hq, H⟩ := H
    rw [hq]
    refine gs_E.ck (pc' := 60) (ls' := [gp_r (some 20), gp_r (some q2), gp_r (some q1), gp_i v3, gp_i v4, v5]) (st' := [gp_l (gp_L s5 q7 v3.toNat), gp_r (some 20), gp_l m6, gp_r (some 6)]) (s' := s5) rfl H.1 ?_
    replace H := H.2
    refine gs_E.stp (pc' := 61) (ls' := [gp_r (some 20), gp_r (some q2), gp_r (some q1), gp_i v3, gp_i v4, v5]) (st' := [gp_r (some q1), gp_l (gp_L s5 q7 v3.toNat), gp_r (some 20), gp_l m6, gp_r (some 6)]) (s' := s5) 1 rfl ?_
    refine gs_E.ck (pc' := 64) (ls' := [gp_r (some 20), gp_r (some q2), gp_r (some q1), gp_i v3, gp_i v4, v5]) (st' := [gp_r (gp_R (gp_mk L s5) q1 2), gp_l (gp_L s5 q7 v3.toNat), gp_r (some 20), gp_l m6, gp_r (some 6)]) (s' := s5) rfl H.1 ?_
    replace H := H.2
    refine gs_E.stp (pc' := 66) (ls' := [gp_r (some 20), gp_r (some q2), gp_r (some q1), gp_i v3, gp_i v4, v5]) (st' := [gp_i v4, gp_r (gp_R (gp_mk L s5) q1 2), gp_l (gp_L s5 q7 v3.toNat), gp_r (some 20), gp_l m6, gp_r (some 6)]) (s' := s5) 1 rfl ?_
    obtain ⟨q8, hq, H⟩ := H
    rw [hq]
    refine gs_E.ck (pc' := 67) (ls' := [gp_r (some 20), gp_r (some q2), gp_r (some q1), gp_i v3, gp_i v4, v5]) (st' := [gp_l (gp_L s5 q8 v4.toNat), gp_l (gp_L s5 q7 v3.toNat), gp_r (some 20), gp_l m6, gp_r (some 6)]) (s' := s5) rfl H.1 ?_
    replace H := H.2
    refine gs_E.stp (pc' := 70) (ls' := [gp_r (some 20), gp_r (some q2), gp_r (some q1), gp_i v3, gp_i v4, v5]) (st' := [gp_i v4, gp_i v3, gp_l (gp_L s5 q8 v4.toNat), gp_l (gp_L s5 q7 v3.toNat), gp_r (some 20), gp_l m6, gp_r (some 6)]) (s' := s5) 2 rfl ?_
    refine gs_E.call (args := [gp_r (some 20), gp_l (gp_L s5 q7 v3.toNat), gp_l (gp_L s5 q8 v4.toNat), gp_i v3, gp_i v4]) (m := 11) (y' := 263) (st' := [gp_l m6, gp_r (some 6)]) rfl H (fun r s9 H => ?_)
    obtain ⟨m10, rfl, H⟩ := H
    show gs_E L (d + 1) 262 73 [gp_r (some 20), gp_r (some q2), gp_r (some q1), gp_i v3, gp_i v4, v5] [gp_l m10, gp_l m6, gp_r (some 6)] s9 K
    refine gs_E.stp (pc' := 74) (ls' := [gp_r (some 20), gp_r (some q2), gp_r (some q1), gp_i v3, gp_i v4, v5]) (st' := [gp_r (some q2), gp_l m10, gp_l m6, gp_r (some 6)]) (s' := s9) 1 rfl ?_
    refine gs_E.ck (pc' := 77) (ls' := [gp_r (some 20), gp_r (some q2), gp_r (some q1), gp_i v3, gp_i v4, v5]) (st' := [gp_r (gp_R (gp_mk L s9) q2 3), gp_l m10, gp_l m6, gp_r (some 6)]) (s' := s9) rfl H.1 ?_
    replace H := H.2
    refine gs_E.stp (pc' := 78) (ls' := [gp_r (some 20), gp_r (some q2), gp_r (some q1), gp_i v3, gp_i v4, v5]) (st' := [gp_i v3, gp_r (gp_R (gp_mk L s9) q2 3), gp_l m10, gp_l m6, gp_r (some 6)]) (s' := s9) 1 rfl ?_
    obtain ⟨q11, hq, H⟩ := H
    rw [hq]
    refine gs_E.ck (pc' := 79) (ls' := [gp_r (some 20), gp_r (some q2), gp_r (some q1), gp_i v3, gp_i v4, v5]) (st' := [gp_i (gp_I s9 q11 v3.toNat), gp_l m10, gp_l m6, gp_r (some 6)]) (s' := s9) rfl (Or.inl H.1) ?_
    replace H := H.2
    refine gs_E.stp (pc' := 80) (ls' := [gp_r (some 20), gp_r (some q2), gp_r (some q1), gp_i v3, gp_i v4, v5]) (st' := [gp_r (some q1), gp_i (gp_I s9 q11 v3.toNat), gp_l m10, gp_l m6, gp_r (some 6)]) (s' := s9) 1 rfl ?_
    refine gs_E.ck (pc' := 83) (ls' := [gp_r (some 20), gp_r (some q2), gp_r (some q1), gp_i v3, gp_i v4, v5]) (st' := [gp_r (gp_R (gp_mk L s9) q1 3), gp_i (gp_I s9 q11 v3.toNat), gp_l m10, gp_l m6, gp_r (some 6)]) (s' := s9) rfl H.1 ?_
    replace H := H.2
    refine gs_E.stp (pc' := 85) (ls' := [gp_r (some 20), gp_r (some q2), gp_r (some q1), gp_i v3, gp_i v4, v5]) (st' := [gp_i v4, gp_r (gp_R (gp_mk L s9) q1 3), gp_i (gp_I s9 q11 v3.toNat), gp_l m10, gp_l m6, gp_r (some 6)]) (s' := s9) 1 rfl ?_
    obtain ⟨q12, hq, H⟩ := H
    rw [hq]
    refine gs_E.ck (pc' := 86) (ls' := [gp_r (some 20), gp_r (some q2), gp_r (some q1), gp_i v3, gp_i v4, v5]) (st' := [gp_i (gp_I s9 q12 v4.toNat), gp_i (gp_I s9 q11 v3.toNat), gp_l m10, gp_l m6, gp_r (some 6)]) (s' := s9) rfl (Or.inl H.1) ?_
    replace H := H.2
    refine gs_E.stp (pc' := 88) (ls' := [gp_r (some 20), gp_r (some q2), gp_r (some q1), gp_i v3, gp_i v4, v5]) (st' := [gp_r (some q2), gp_i (gp_wr ((gp_I s9 q11 v3.toNat) + (gp_I s9 q12 v4.toNat))), gp_l m10, gp_l m6, gp_r (some 6)]) (s' := s9) 2 rfl ?_
    refine gs_E.ck (pc' := 91) (ls' := [gp_r (some 20), gp_r (some q2), gp_r (some q1), gp_i v3, gp_i v4, v5]) (st' := [gp_r (gp_R (gp_mk L s9) q2 4), gp_i (gp_wr ((gp_I s9 q11 v3.toNat) + (gp_I s9 q12 v4.toNat))), gp_l m10, gp_l m6, gp_r (some 6)]) (s' := s9) rfl H.1 ?_
    replace H := H.2
    refine gs_E.stp (pc' := 92) (ls' := [gp_r (some 20), gp_r (some q2), gp_r (some q1), gp_i v3, gp_i v4, v5]) (st' := [gp_i v3, gp_r (gp_R (gp_mk L s9) q2 4), gp_i (gp_wr ((gp_I s9 q11 v3.toNat) + (gp_I s9 q12 v4.toNat))), gp_l m10, gp_l m6, gp_r (some 6)]) (s' := s9) 1 rfl ?_
    obtain ⟨q13, hq, H⟩ := H
    rw [hq]
    refine gs_E.ck (pc' := 93) (ls' := [gp_r (some 20), gp_r (some q2), gp_r (some q1), gp_i v3, gp_i v4, v5]) (st' := [gp_i (gp_I s9 q13 v3.toNat), gp_i (gp_wr ((gp_I s9 q11 v3.toNat) + (gp_I s9 q12 v4.toNat))), gp_l m10, gp_l m6, gp_r (some 6)]) (s' := s9) rfl (Or.inl H.1) ?_
    replace H := H.2
    refine gs_E.stp (pc' := 94) (ls' := [gp_r (some 20), gp_r (some q2), gp_r (some q1), gp_i v3, gp_i v4, v5]) (st' := [gp_r (some q1), gp_i (gp_I s9 q13 v3.toNat), gp_i (gp_wr ((gp_I s9 q11 v3.toNat) + (gp_I s9 q12 v4.toNat))), gp_l m10, gp_l m6, gp_r (some 6)]) (s' := s9) 1 rfl ?_
    refine gs_E.ck (pc' := 97) (ls' := [gp_r (some 20), gp_r (some q2), gp_r (some q1), gp_i v3, gp_i v4, v5]) (st' := [gp_r (gp_R (gp_mk L s9) q1 4), gp_i (gp_I s9 q13 v3.toNat), gp_i (gp_wr ((gp_I s9 q11 v3.toNat) + (gp_I s9 q12 v4.toNat))), gp_l m10, gp_l m6, gp_r (some 6)]) (s' := s9) rfl H.1 ?_
    replace H := H.2
    refine gs_E.stp (pc' := 99) (ls' := [gp_r (some 20), gp_r (some q2), gp_r (some q1), gp_i v3, gp_i v4, v5]) (st' := [gp_i v4, gp_r (gp_R (gp_mk L s9) q1 4), gp_i (gp_I s9 q13 v3.toNat), gp_i (gp_wr ((gp_I s9 q11 v3.toNat) + (gp_I s9 q12 v4.toNat))), gp_l m10, gp_l m6, gp_r (some 6)]) (s' := s9) 1 rfl ?_
    obtain ⟨q14, hq, H⟩ := H
    rw [hq]
    refine gs_E.ck (pc' := 100) (ls' := [gp_r (some 20), gp_r (some q2), gp_r (some q1), gp_i v3, gp_i v4, v5]) (st' := [gp_i (gp_I s9 q14 v4.toNat), gp_i (gp_I s9 q13 v3.toNat), gp_i (gp_wr ((gp_I s9 q11 v3.toNat) + (gp_I s9 q12 v4.toNat))), gp_l m10, gp_l m6, gp_r (some 6)]) (s' := s9) rfl (Or.inl H.1) ?_
    replace H := H.2
    refine gs_E.stp (pc' := 101) (ls' := [gp_r (some 20), gp_r (some q2), gp_r (some q1), gp_i v3, gp_i v4, v5]) (st' := [gp_i (gp_wr ((gp_I s9 q13 v3.toNat) + (gp_I s9 q14 v4.toNat))), gp_i (gp_wr ((gp_I s9 q11 v3.toNat) + (gp_I s9 q12 v4.toNat))), gp_l m10, gp_l m6, gp_r (some 6)]) (s' := s9) 1 rfl ?_
    refine gs_E.call (args := [gp_r (some 6), gp_l m6, gp_l m10, gp_i (gp_wr ((gp_I s9 q11 v3.toNat) + (gp_I s9 q12 v4.toNat))), gp_i (gp_wr ((gp_I s9 q13 v3.toNat) + (gp_I s9 q14 v4.toNat)))]) (m := 10) (y' := 1026) (st' := []) rfl H (fun r s15 H => ?_)
    obtain ⟨rfl, H⟩ := H
    show gs_E L (d + 1) 262 104 [gp_r (some 20), gp_r (some q2), gp_r (some q1), gp_i v3, gp_i v4, v5] [] s15 K
    refine gs_E.stp (pc' := 108) (ls' := [gp_r (some 20), gp_r (some q2), gp_r (some q1), gp_i v3, gp_i v4, v5]) (st' := [gp_r (some 6)]) (s' := s15) 2 rfl ?_
    refine gs_E.call (args := [gp_r (some 6)]) (m := 6) (y' := 1027) (st' := []) rfl H (fun r s16 H => ?_)
    obtain ⟨x17, rfl, H⟩ := H
    show gs_E L (d + 1) 262 111 [gp_r (some 20), gp_r (some q2), gp_r (some q1), gp_i v3, gp_i v4, v5] [gp_i x17] s16 K
    refine gs_E.stp (pc' := 115) (ls' := [gp_r (some 20), gp_r (some q2), gp_r (some q1), gp_i v3, gp_i v4, gp_i x17]) (st' := [gp_i x17]) (s' := s16) 2 rfl ?_
    refine gs_E.br (c := ¬ x17 < 0) (p1 := 120) (p2 := 118) (l1 := [gp_r (some 20), gp_r (some q2), gp_r (some q1), gp_i v3, gp_i v4, gp_i x17]) (l2 := [gp_r (some 20), gp_r (some q2), gp_r (some q1), gp_i v3, gp_i v4, gp_i x17]) (s1 := []) (s2 := []) rfl gs_b2 (fun hc => ?_) (fun hc => ?_)
    · replace H := H.2 hc
      refine gs_E.stp (pc' := 133) (ls' := [gp_r (some 20), gp_r (some q2), gp_r (some q1), gp_i v3, gp_i v4, gp_i x17]) (st' := [gp_i x17, gp_i (gp_wr ((gp_wr (v3 * 60)) + v4)), gp_r (some 22)]) (s' := s16) 8 rfl ?_
      refine gs_E.ck (pc' := 134) (ls' := [gp_r (some 20), gp_r (some q2), gp_r (some q1), gp_i v3, gp_i v4, gp_i x17]) (st' := []) (s' := gp_wI s16 22 (gp_wr ((gp_wr (v3 * 60)) + v4)).toNat x17) rfl ⟨rfl, H.1.1, H.1.2⟩ ?_
      replace H := H.2 _ rfl
      generalize gp_wI s16 22 (gp_wr ((gp_wr (v3 * 60)) + v4)).toNat x17 = s18 at H ⊢
      refine gs_E.stp (pc' := 20) (ls' := [gp_r (some 20), gp_r (some q2), gp_r (some q1), gp_i v3, gp_i (gp_wr (v4 + 1)), gp_i x17]) (st' := []) (s' := s18) 2 rfl ?_
      exact H
    · replace H := H.1 (Decidable.byContradiction hc)
      refine gs_E.stp (pc' := 119) (ls' := [gp_r (some 20), gp_r (some q2), gp_r (some q1), gp_i v3, gp_i v4, gp_i x17]) (st' := [gp_r none]) (s' := s16) 1 rfl ?_
      exact gs_E.ret (r := (some (gp_r none))) rfl H

set_option maxRecDepth 100000 in
/-- Maker.pairMask, pc 0 -/
theorem s_263_e {L d : Nat} {K : Option gV → gH → Prop} {s : gH} (p0 : BitVec 64) (p1 : BitVec 64) (p2 : Int) (p3 : Int) (H : gs_E L (d + 1) 263 6 [gp_r (some 20), gp_l p0, gp_n, gp_l p1, gp_n, gp_i p2, gp_i p3, gp_l (0#64), gp_n, gp_l p0, gp_n] [] s K) : gs_C L (d + 1) 263 11 [gp_r (some 20), gp_l p0, gp_l p1, gp_i p2, gp_i p3] s K := by
  show gs_E L (d + 1) 263 0 [gp_r (some 20), gp_l p0, gp_n, gp_l p1, gp_n, gp_i p2, gp_i p3, gp_n, gp_n, gp_n, gp_n] [] s K
  refine gs_E.stp (pc' := 6) (ls' := [gp_r (some 20), gp_l p0, gp_n, gp_l p1, gp_n, gp_i p2, gp_i p3, gp_l (0#64), gp_n, gp_l p0, gp_n]) (st' := []) (s' := s) 4 rfl ?_
  exact H

set_option maxRecDepth 100000 in
/-- Maker.pairMask, pc 6 -/
theorem s_263_6 {L d : Nat} {K : Option gV → gH → Prop} {s : gH} (v1 : BitVec 64) (v3 : BitVec 64) (v5 : Int) (v6 : Int) (v7 : BitVec 64) (v9 : BitVec 64) (H : (((gp_cmp v9 (0#64)) = 0 → gs_E L (d + 1) 263 51 [gp_r (some 20), gp_l v1, gp_n, gp_l v3, gp_n, gp_i v5, gp_i v6, gp_l v7, gp_n, gp_l v3, gp_n] [] s K) ∧ (¬ (gp_cmp v9 (0#64)) = 0 → gs_C L d 2859 2 [gp_l v9] s (fun r s1 => ∃ x2, r = some (gp_i x2) ∧ ((0 ≤ (gp_wr ((gp_wr (x2 * 60)) + v6)) ∧ (gp_wr ((gp_wr (x2 * 60)) + v6)) < 3600) ∧ gs_E L (d + 1) 263 6 [gp_r (some 20), gp_l v1, gp_n, gp_l v3, gp_n, gp_i v5, gp_i v6, gp_l (v7 ||| ((1#64) <<< ((gp_I s1 22 (gp_wr ((gp_wr (x2 * 60)) + v6)).toNat) % 64).toNat)), gp_n, gp_l (v9 &&& (v9 - (1#64))), gp_n] [] s1 K))))) : gs_E L (d + 1) 263 6 [gp_r (some 20), gp_l v1, gp_n, gp_l v3, gp_n, gp_i v5, gp_i v6, gp_l v7, gp_n, gp_l v9, gp_n] [] s K := by
  refine gs_E.stp (pc' := 10) (ls' := [gp_r (some 20), gp_l v1, gp_n, gp_l v3, gp_n, gp_i v5, gp_i v6, gp_l v7, gp_n, gp_l v9, gp_n]) (st' := [gp_i (gp_cmp v9 (0#64))]) (s' := s) 3 rfl ?_
  refine gs_E.br (c := (gp_cmp v9 (0#64)) = 0) (p1 := 48) (p2 := 13) (l1 := [gp_r (some 20), gp_l v1, gp_n, gp_l v3, gp_n, gp_i v5, gp_i v6, gp_l v7, gp_n, gp_l v9, gp_n]) (l2 := [gp_r (some 20), gp_l v1, gp_n, gp_l v3, gp_n, gp_i v5, gp_i v6, gp_l v7, gp_n, gp_l v9, gp_n]) (s1 := []) (s2 := []) rfl gs_b1 (fun hc => ?_) (fun hc => ?_)
  · replace H := H.1 hc
    refine gs_E.stp (pc' := 51) (ls' := [gp_r (some 20), gp_l v1, gp_n, gp_l v3, gp_n, gp_i v5, gp_i v6, gp_l v7, gp_n, gp_l v3, gp_n]) (st' := []) (s' := s) 2 rfl ?_
    exact H
  · replace H := H.2 hc
    refine gs_E.stp (pc' := 22) (ls' := [gp_r (some 20), gp_l v1, gp_n, gp_l v3, gp_n, gp_i v5, gp_i v6, gp_l v7, gp_n, gp_l v9, gp_n]) (st' := [gp_l v9, gp_r (some 22), gp_l (1#64), gp_l v7]) (s' := s) 5 rfl ?_
    refine gs_E.call (args := [gp_l v9]) (m := 2) (y' := 2859) (st' := [gp_r (some 22), gp_l (1#64), gp_l v7]) rfl H (fun r s1 H => ?_)
    obtain ⟨x2, rfl, H⟩ := H
    show gs_E L (d + 1) 263 25 [gp_r (some 20), gp_l v1, gp_n, gp_l v3, gp_n, gp_i v5, gp_i v6, gp_l v7, gp_n, gp_l v9, gp_n] [gp_i x2, gp_r (some 22), gp_l (1#64), gp_l v7] s1 K
    refine gs_E.stp (pc' := 31) (ls' := [gp_r (some 20), gp_l v1, gp_n, gp_l v3, gp_n, gp_i v5, gp_i v6, gp_l v7, gp_n, gp_l v9, gp_n]) (st' := [gp_i (gp_wr ((gp_wr (x2 * 60)) + v6)), gp_r (some 22), gp_l (1#64), gp_l v7]) (s' := s1) 4 rfl ?_
    refine gs_E.ck (pc' := 32) (ls' := [gp_r (some 20), gp_l v1, gp_n, gp_l v3, gp_n, gp_i v5, gp_i v6, gp_l v7, gp_n, gp_l v9, gp_n]) (st' := [gp_i (gp_I s1 22 (gp_wr ((gp_wr (x2 * 60)) + v6)).toNat), gp_l (1#64), gp_l v7]) (s' := s1) rfl (Or.inl ⟨rfl, H.1.1, H.1.2⟩) ?_
    replace H := H.2
    refine gs_E.stp (pc' := 6) (ls' := [gp_r (some 20), gp_l v1, gp_n, gp_l v3, gp_n, gp_i v5, gp_i v6, gp_l (v7 ||| ((1#64) <<< ((gp_I s1 22 (gp_wr ((gp_wr (x2 * 60)) + v6)).toNat) % 64).toNat)), gp_n, gp_l (v9 &&& (v9 - (1#64))), gp_n]) (st' := []) (s' := s1) 10 rfl ?_
    exact H

set_option maxRecDepth 100000 in
/-- Maker.pairMask, pc 51 -/
theorem s_263_51 {L d : Nat} {K : Option gV → gH → Prop} {s : gH} (v1 : BitVec 64) (v3 : BitVec 64) (v5 : Int) (v6 : Int) (v7 : BitVec 64) (v9 : BitVec 64) (H : (((gp_cmp v9 (0#64)) = 0 → K (some (gp_l v7)) s) ∧ (¬ (gp_cmp v9 (0#64)) = 0 → gs_C L d 2859 2 [gp_l v9] s (fun r s1 => ∃ x2, r = some (gp_i x2) ∧ ((0 ≤ (gp_wr ((gp_wr (v5 * 60)) + x2)) ∧ (gp_wr ((gp_wr (v5 * 60)) + x2)) < 3600) ∧ gs_E L (d + 1) 263 51 [gp_r (some 20), gp_l v1, gp_n, gp_l v3, gp_n, gp_i v5, gp_i v6, gp_l (v7 ||| ((1#64) <<< ((gp_I s1 22 (gp_wr ((gp_wr (v5 * 60)) + x2)).toNat) % 64).toNat)), gp_n, gp_l (v9 &&& (v9 - (1#64))), gp_n] [] s1 K))))) : gs_E L (d + 1) 263 51 [gp_r (some 20), gp_l v1, gp_n, gp_l v3, gp_n, gp_i v5, gp_i v6, gp_l v7, gp_n, gp_l v9, gp_n] [] s K := by
  refine gs_E.stp (pc' := 55) (ls' := [gp_r (some 20), gp_l v1, gp_n, gp_l v3, gp_n, gp_i v5, gp_i v6, gp_l v7, gp_n, gp_l v9, gp_n]) (st' := [gp_i (gp_cmp v9 (0#64))]) (s' := s) 3 rfl ?_
  refine gs_E.br (c := (gp_cmp v9 (0#64)) = 0) (p1 := 93) (p2 := 58) (l1 := [gp_r (some 20), gp_l v1, gp_n, gp_l v3, gp_n, gp_i v5, gp_i v6, gp_l v7, gp_n, gp_l v9, gp_n]) (l2 := [gp_r (some 20), gp_l v1, gp_n, gp_l v3, gp_n, gp_i v5, gp_i v6, gp_l v7, gp_n, gp_l v9, gp_n]) (s1 := []) (s2 := []) rfl gs_b1 (fun hc => ?_) (fun hc => ?_)
  · replace H := H.1 hc
    refine gs_E.stp (pc' := 95) (ls' := [gp_r (some 20), gp_l v1, gp_n, gp_l v3, gp_n, gp_i v5, gp_i v6, gp_l v7, gp_n, gp_l v9, gp_n]) (st' := [gp_l v7]) (s' := s) 1 rfl ?_
    exact gs_E.ret (r := (some (gp_l v7))) rfl H
  · replace H := H.2 hc
    refine gs_E.stp (pc' := 72) (ls' := [gp_r (some 20), gp_l v1, gp_n, gp_l v3, gp_n, gp_i v5, gp_i v6, gp_l v7, gp_n, gp_l v9, gp_n]) (st' := [gp_l v9, gp_i (gp_wr (v5 * 60)), gp_r (some 22), gp_l (1#64), gp_l v7]) (s' := s) 8 rfl ?_
    refine gs_E.call (args := [gp_l v9]) (m := 2) (y' := 2859) (st' := [gp_i (gp_wr (v5 * 60)), gp_r (some 22), gp_l (1#64), gp_l v7]) rfl H (fun r s1 H => ?_)
    obtain ⟨x2, rfl, H⟩ := H
    show gs_E L (d + 1) 263 75 [gp_r (some 20), gp_l v1, gp_n, gp_l v3, gp_n, gp_i v5, gp_i v6, gp_l v7, gp_n, gp_l v9, gp_n] [gp_i x2, gp_i (gp_wr (v5 * 60)), gp_r (some 22), gp_l (1#64), gp_l v7] s1 K
    refine gs_E.stp (pc' := 76) (ls' := [gp_r (some 20), gp_l v1, gp_n, gp_l v3, gp_n, gp_i v5, gp_i v6, gp_l v7, gp_n, gp_l v9, gp_n]) (st' := [gp_i (gp_wr ((gp_wr (v5 * 60)) + x2)), gp_r (some 22), gp_l (1#64), gp_l v7]) (s' := s1) 1 rfl ?_
    refine gs_E.ck (pc' := 77) (ls' := [gp_r (some 20), gp_l v1, gp_n, gp_l v3, gp_n, gp_i v5, gp_i v6, gp_l v7, gp_n, gp_l v9, gp_n]) (st' := [gp_i (gp_I s1 22 (gp_wr ((gp_wr (v5 * 60)) + x2)).toNat), gp_l (1#64), gp_l v7]) (s' := s1) rfl (Or.inl ⟨rfl, H.1.1, H.1.2⟩) ?_
    replace H := H.2
    refine gs_E.stp (pc' := 51) (ls' := [gp_r (some 20), gp_l v1, gp_n, gp_l v3, gp_n, gp_i v5, gp_i v6, gp_l (v7 ||| ((1#64) <<< ((gp_I s1 22 (gp_wr ((gp_wr (v5 * 60)) + x2)).toNat) % 64).toNat)), gp_n, gp_l (v9 &&& (v9 - (1#64))), gp_n]) (st' := []) (s' := s1) 10 rfl ?_
    exact H

set_option maxRecDepth 100000 in
/-- Maker.wayOf, pc 0 -/
theorem s_264_e {L d : Nat} {K : Option gV → gH → Prop} {s : gH} (p0 : Option Nat) (p1 : Option Nat) (H : gs_E L (d + 1) 264 8 [gp_r (some 20), gp_r p0, gp_r p1, gp_i 0, gp_i 0, gp_i 0, gp_n] [] s K) : gs_C L (d + 1) 264 7 [gp_r (some 20), gp_r p0, gp_r p1] s K := by
  show gs_E L (d + 1) 264 0 [gp_r (some 20), gp_r p0, gp_r p1, gp_n, gp_n, gp_n, gp_n] [] s K
  refine gs_E.stp (pc' := 8) (ls' := [gp_r (some 20), gp_r p0, gp_r p1, gp_i 0, gp_i 0, gp_i 0, gp_n]) (st' := []) (s' := s) 6 rfl ?_
  exact H

set_option maxRecDepth 100000 in
/-- Maker.wayOf, pc 8 -/
theorem s_264_8 {L d : Nat} {K : Option gV → gH → Prop} {s : gH} (v1 : Option Nat) (v2 : Option Nat) (v3 : Int) (v4 : Int) (v5 : Int) (v6 : gV) (H : (∃ q1, v1 = some q1 ∧ ((gp_sh (gp_mk L s) q1).1 = 9 ∧ ((v3 < (gp_I s q1 0) → (∃ q2, v2 = some q2 ∧ ((gp_sh (gp_mk L s) q2).1 = 9 ∧ ((v4 < (gp_I s q2 0) → gs_C L d 265 6 [gp_r (some 20), gp_r (some q1), gp_i v3, gp_r (some q2), gp_i v4] s (fun r s3 => ∃ x4, r = some (gp_i x4) ∧ ((0 < x4 → gs_E L (d + 1) 264 52 [gp_r (some 20), gp_r (some q1), gp_r (some q2), gp_i v3, gp_i v4, gp_i v5, gp_i x4] [] s3 K) ∧ (¬ 0 < x4 → ((0 ≤ v3 ∧ v3 < 60) ∧ (∀ s5, s5 = gp_wI s3 23 v3.toNat v5 → gs_E L (d + 1) 264 52 [gp_r (some 20), gp_r (some q1), gp_r (some q2), gp_i (gp_wr (v3 + 1)), gp_i v4, gp_i v5, gp_i x4] [] s5 K)))))) ∧ (¬ v4 < (gp_I s q2 0) → gs_E L (d + 1) 264 99 [gp_r (some 20), gp_r (some q1), gp_r (some q2), gp_i v3, gp_i v4, gp_i v5, v6] [] s K))))) ∧ (¬ v3 < (gp_I s q1 0) → gs_E L (d + 1) 264 99 [gp_r (some 20), gp_r (some q1), gp_r v2, gp_i v3, gp_i v4, gp_i v5, v6] [] s K))))) : gs_E L (d + 1) 264 8 [gp_r (some 20), gp_r v1, gp_r v2, gp_i v3, gp_i v4, gp_i v5, v6] [] s K := by
  refine gs_E.stp (pc' := 10) (ls' := [gp_r (some 20), gp_r v1, gp_r v2, gp_i v3, gp_i v4, gp_i v5, v6]) (st' := [gp_r v1, gp_i v3]) (s' := s) 2 rfl ?_
  obtain ⟨q1, hq, H⟩ := H
  rw [hq]
  refine gs_E.ck (pc' := 13) (ls' := [gp_r (some 20), gp_r (some q1), gp_r v2, gp_i v3, gp_i v4, gp_i v5, v6]) (st' := [gp_i (gp_I s q1 0), gp_i v3]) (s' := s) rfl H.1 ?_
  replace H := H.2
  refine gs_E.br (c := ¬ v3 < (gp_I s q1 0)) (p1 := 99) (p2 := 16) (l1 := [gp_r (some 20), gp_r (some q1), gp_r v2, gp_i v3, gp_i v4, gp_i v5, v6]) (l2 := [gp_r (some 20), gp_r (some q1), gp_r v2, gp_i v3, gp_i v4, gp_i v5, v6]) (s1 := []) (s2 := []) rfl gs_b2 (fun hc => ?_) (fun hc => ?_)
  · replace H := H.2 hc
    exact H
  · replace H := H.1 (Decidable.byContradiction hc)
    refine gs_E.stp (pc' := 19) (ls' := [gp_r (some 20), gp_r (some q1), gp_r v2, gp_i v3, gp_i v4, gp_i v5, v6]) (st' := [gp_r v2, gp_i v4]) (s' := s) 2 rfl ?_
    obtain ⟨q2, hq, H⟩ := H
    rw [hq]
    refine gs_E.ck (pc' := 22) (ls' := [gp_r (some 20), gp_r (some q1), gp_r (some q2), gp_i v3, gp_i v4, gp_i v5, v6]) (st' := [gp_i (gp_I s q2 0), gp_i v4]) (s' := s) rfl H.1 ?_
    replace H := H.2
    refine gs_E.br (c := ¬ v4 < (gp_I s q2 0)) (p1 := 99) (p2 := 25) (l1 := [gp_r (some 20), gp_r (some q1), gp_r (some q2), gp_i v3, gp_i v4, gp_i v5, v6]) (l2 := [gp_r (some 20), gp_r (some q1), gp_r (some q2), gp_i v3, gp_i v4, gp_i v5, v6]) (s1 := []) (s2 := []) rfl gs_b2 (fun hc => ?_) (fun hc => ?_)
    · replace H := H.2 hc
      exact H
    · replace H := H.1 (Decidable.byContradiction hc)
      refine gs_E.stp (pc' := 31) (ls' := [gp_r (some 20), gp_r (some q1), gp_r (some q2), gp_i v3, gp_i v4, gp_i v5, v6]) (st' := [gp_i v4, gp_r (some q2), gp_i v3, gp_r (some q1), gp_r (some 20)]) (s' := s) 5 rfl ?_
      refine gs_E.call (args := [gp_r (some 20), gp_r (some q1), gp_i v3, gp_r (some q2), gp_i v4]) (m := 6) (y' := 265) (st' := []) rfl H (fun r s3 H => ?_)
      obtain ⟨x4, rfl, H⟩ := H
      show gs_E L (d + 1) 264 34 [gp_r (some 20), gp_r (some q1), gp_r (some q2), gp_i v3, gp_i v4, gp_i v5, v6] [gp_i x4] s3 K
      refine gs_E.stp (pc' := 38) (ls' := [gp_r (some 20), gp_r (some q1), gp_r (some q2), gp_i v3, gp_i v4, gp_i v5, gp_i x4]) (st' := [gp_i x4]) (s' := s3) 2 rfl ?_
      refine gs_E.br (c := 0 < x4) (p1 := 52) (p2 := 41) (l1 := [gp_r (some 20), gp_r (some q1), gp_r (some q2), gp_i v3, gp_i v4, gp_i v5, gp_i x4]) (l2 := [gp_r (some 20), gp_r (some q1), gp_r (some q2), gp_i v3, gp_i v4, gp_i v5, gp_i x4]) (s1 := []) (s2 := []) rfl gs_b1 (fun hc => ?_) (fun hc => ?_)
      · replace H := H.1 hc
        exact H
      · replace H := H.2 hc
        refine gs_E.stp (pc' := 48) (ls' := [gp_r (some 20), gp_r (some q1), gp_r (some q2), gp_i v3, gp_i v4, gp_i v5, gp_i x4]) (st' := [gp_i v5, gp_i v3, gp_r (some 23)]) (s' := s3) 4 rfl ?_
        refine gs_E.ck (pc' := 49) (ls' := [gp_r (some 20), gp_r (some q1), gp_r (some q2), gp_i v3, gp_i v4, gp_i v5, gp_i x4]) (st' := []) (s' := gp_wI s3 23 v3.toNat v5) rfl ⟨rfl, H.1.1, H.1.2⟩ ?_
        replace H := H.2 _ rfl
        generalize gp_wI s3 23 v3.toNat v5 = s5 at H ⊢
        refine gs_E.stp (pc' := 52) (ls' := [gp_r (some 20), gp_r (some q1), gp_r (some q2), gp_i (gp_wr (v3 + 1)), gp_i v4, gp_i v5, gp_i x4]) (st' := []) (s' := s5) 1 rfl ?_
        exact H

set_option maxRecDepth 100000 in
/-- Maker.wayOf, pc 52 -/
theorem s_264_52 {L d : Nat} {K : Option gV → gH → Prop} {s : gH} (v1 : Option Nat) (v2 : Option Nat) (v3 : Int) (v4 : Int) (v5 : Int) (v6 : Int) (H : ((v6 < 0 → gs_E L (d + 1) 264 69 [gp_r (some 20), gp_r v1, gp_r v2, gp_i v3, gp_i v4, gp_i v5, gp_i v6] [] s K) ∧ (¬ v6 < 0 → ((0 ≤ v4 ∧ v4 < 60) ∧ (∀ s1, s1 = gp_wI s 24 v4.toNat v5 → gs_E L (d + 1) 264 69 [gp_r (some 20), gp_r v1, gp_r v2, gp_i v3, gp_i (gp_wr (v4 + 1)), gp_i v5, gp_i v6] [] s1 K))))) : gs_E L (d + 1) 264 52 [gp_r (some 20), gp_r v1, gp_r v2, gp_i v3, gp_i v4, gp_i v5, gp_i v6] [] s K := by
  refine gs_E.stp (pc' := 54) (ls' := [gp_r (some 20), gp_r v1, gp_r v2, gp_i v3, gp_i v4, gp_i v5, gp_i v6]) (st' := [gp_i v6]) (s' := s) 1 rfl ?_
  refine gs_E.br (c := v6 < 0) (p1 := 69) (p2 := 57) (l1 := [gp_r (some 20), gp_r v1, gp_r v2, gp_i v3, gp_i v4, gp_i v5, gp_i v6]) (l2 := [gp_r (some 20), gp_r v1, gp_r v2, gp_i v3, gp_i v4, gp_i v5, gp_i v6]) (s1 := []) (s2 := []) rfl gs_b1 (fun hc => ?_) (fun hc => ?_)
  · replace H := H.1 hc
    exact H
  · replace H := H.2 hc
    refine gs_E.stp (pc' := 65) (ls' := [gp_r (some 20), gp_r v1, gp_r v2, gp_i v3, gp_i v4, gp_i v5, gp_i v6]) (st' := [gp_i v5, gp_i v4, gp_r (some 24)]) (s' := s) 4 rfl ?_
    refine gs_E.ck (pc' := 66) (ls' := [gp_r (some 20), gp_r v1, gp_r v2, gp_i v3, gp_i v4, gp_i v5, gp_i v6]) (st' := []) (s' := gp_wI s 24 v4.toNat v5) rfl ⟨rfl, H.1.1, H.1.2⟩ ?_
    replace H := H.2 _ rfl
    generalize gp_wI s 24 v4.toNat v5 = s1 at H ⊢
    refine gs_E.stp (pc' := 69) (ls' := [gp_r (some 20), gp_r v1, gp_r v2, gp_i v3, gp_i (gp_wr (v4 + 1)), gp_i v5, gp_i v6]) (st' := []) (s' := s1) 1 rfl ?_
    exact H

set_option maxRecDepth 100000 in
/-- Maker.wayOf, pc 69 -/
theorem s_264_69 {L d : Nat} {K : Option gV → gH → Prop} {s : gH} (v1 : Option Nat) (v2 : Option Nat) (v3 : Int) (v4 : Int) (v5 : Int) (v6 : Int) (H : ((v6 = 0 → (∃ q1, v1 = some q1 ∧ ((gp_sh (gp_mk L s) q1).1 = 9 ∧ ((v3 = (gp_I s q1 0) → (∃ q2, v2 = some q2 ∧ ((gp_sh (gp_mk L s) q2).1 = 9 ∧ ((v4 = (gp_I s q2 0) → K (some (gp_i 0)) s) ∧ (¬ v4 = (gp_I s q2 0) → gs_E L (d + 1) 264 96 [gp_r (some 20), gp_r (some q1), gp_r (some q2), gp_i v3, gp_i v4, gp_i (gp_wr (v5 + 1)), gp_i v6] [] s K))))) ∧ (¬ v3 = (gp_I s q1 0) → gs_E L (d + 1) 264 96 [gp_r (some 20), gp_r (some q1), gp_r v2, gp_i v3, gp_i v4, gp_i (gp_wr (v5 + 1)), gp_i v6] [] s K))))) ∧ (¬ v6 = 0 → gs_E L (d + 1) 264 96 [gp_r (some 20), gp_r v1, gp_r v2, gp_i v3, gp_i v4, gp_i (gp_wr (v5 + 1)), gp_i v6] [] s K))) : gs_E L (d + 1) 264 69 [gp_r (some 20), gp_r v1, gp_r v2, gp_i v3, gp_i v4, gp_i v5, gp_i v6] [] s K := by
  refine gs_E.stp (pc' := 74) (ls' := [gp_r (some 20), gp_r v1, gp_r v2, gp_i v3, gp_i v4, gp_i (gp_wr (v5 + 1)), gp_i v6]) (st' := [gp_i v6]) (s' := s) 2 rfl ?_
  refine gs_E.br (c := ¬ v6 = 0) (p1 := 96) (p2 := 77) (l1 := [gp_r (some 20), gp_r v1, gp_r v2, gp_i v3, gp_i v4, gp_i (gp_wr (v5 + 1)), gp_i v6]) (l2 := [gp_r (some 20), gp_r v1, gp_r v2, gp_i v3, gp_i v4, gp_i (gp_wr (v5 + 1)), gp_i v6]) (s1 := []) (s2 := []) rfl gs_b2 (fun hc => ?_) (fun hc => ?_)
  · replace H := H.2 hc
    exact H
  · replace H := H.1 (Decidable.byContradiction hc)
    refine gs_E.stp (pc' := 79) (ls' := [gp_r (some 20), gp_r v1, gp_r v2, gp_i v3, gp_i v4, gp_i (gp_wr (v5 + 1)), gp_i v6]) (st' := [gp_r v1, gp_i v3]) (s' := s) 2 rfl ?_
    obtain ⟨q1, hq, H⟩ := H
    rw [hq]
    refine gs_E.ck (pc' := 82) (ls' := [gp_r (some 20), gp_r (some q1), gp_r v2, gp_i v3, gp_i v4, gp_i (gp_wr (v5 + 1)), gp_i v6]) (st' := [gp_i (gp_I s q1 0), gp_i v3]) (s' := s) rfl H.1 ?_
    replace H := H.2
    refine gs_E.br (c := ¬ v3 = (gp_I s q1 0)) (p1 := 96) (p2 := 85) (l1 := [gp_r (some 20), gp_r (some q1), gp_r v2, gp_i v3, gp_i v4, gp_i (gp_wr (v5 + 1)), gp_i v6]) (l2 := [gp_r (some 20), gp_r (some q1), gp_r v2, gp_i v3, gp_i v4, gp_i (gp_wr (v5 + 1)), gp_i v6]) (s1 := []) (s2 := []) rfl gs_b2 (fun hc => ?_) (fun hc => ?_)
    · replace H := H.2 hc
      exact H
    · replace H := H.1 (Decidable.byContradiction hc)
      refine gs_E.stp (pc' := 88) (ls' := [gp_r (some 20), gp_r (some q1), gp_r v2, gp_i v3, gp_i v4, gp_i (gp_wr (v5 + 1)), gp_i v6]) (st' := [gp_r v2, gp_i v4]) (s' := s) 2 rfl ?_
      obtain ⟨q2, hq, H⟩ := H
      rw [hq]
      refine gs_E.ck (pc' := 91) (ls' := [gp_r (some 20), gp_r (some q1), gp_r (some q2), gp_i v3, gp_i v4, gp_i (gp_wr (v5 + 1)), gp_i v6]) (st' := [gp_i (gp_I s q2 0), gp_i v4]) (s' := s) rfl H.1 ?_
      replace H := H.2
      refine gs_E.br (c := ¬ v4 = (gp_I s q2 0)) (p1 := 96) (p2 := 94) (l1 := [gp_r (some 20), gp_r (some q1), gp_r (some q2), gp_i v3, gp_i v4, gp_i (gp_wr (v5 + 1)), gp_i v6]) (l2 := [gp_r (some 20), gp_r (some q1), gp_r (some q2), gp_i v3, gp_i v4, gp_i (gp_wr (v5 + 1)), gp_i v6]) (s1 := []) (s2 := []) rfl gs_b2 (fun hc => ?_) (fun hc => ?_)
      · replace H := H.2 hc
        exact H
      · replace H := H.1 (Decidable.byContradiction hc)
        refine gs_E.stp (pc' := 95) (ls' := [gp_r (some 20), gp_r (some q1), gp_r (some q2), gp_i v3, gp_i v4, gp_i (gp_wr (v5 + 1)), gp_i v6]) (st' := [gp_i 0]) (s' := s) 1 rfl ?_
        exact gs_E.ret (r := (some (gp_i 0))) rfl H

set_option maxRecDepth 100000 in
/-- Maker.wayOf, pc 96 -/
theorem s_264_96 {L d : Nat} {K : Option gV → gH → Prop} {s : gH} (v1 : Option Nat) (v2 : Option Nat) (v3 : Int) (v4 : Int) (v5 : Int) (v6 : Int) (H : gs_E L (d + 1) 264 8 [gp_r (some 20), gp_r v1, gp_r v2, gp_i v3, gp_i v4, gp_i v5, gp_i v6] [] s K) : gs_E L (d + 1) 264 96 [gp_r (some 20), gp_r v1, gp_r v2, gp_i v3, gp_i v4, gp_i v5, gp_i v6] [] s K := by
  refine gs_E.stp (pc' := 8) (ls' := [gp_r (some 20), gp_r v1, gp_r v2, gp_i v3, gp_i v4, gp_i v5, gp_i v6]) (st' := []) (s' := s) 1 rfl ?_
  exact H

set_option maxRecDepth 100000 in
/-- Maker.wayOf, pc 99 -/
theorem s_264_99 {L d : Nat} {K : Option gV → gH → Prop} {s : gH} (v1 : Option Nat) (v2 : Option Nat) (v3 : Int) (v4 : Int) (v5 : Int) (v6 : gV) (H : (∃ q1, v1 = some q1 ∧ ((gp_sh (gp_mk L s) q1).1 = 9 ∧ ((v3 = (gp_I s q1 0) → gs_E L (d + 1) 264 112 [gp_r (some 20), gp_r (some q1), gp_r v2, gp_i v3, gp_i v4, gp_i v5, v6] [gp_i (-1)] s K) ∧ (¬ v3 = (gp_I s q1 0) → gs_E L (d + 1) 264 112 [gp_r (some 20), gp_r (some q1), gp_r v2, gp_i v3, gp_i v4, gp_i v5, v6] [gp_i 1] s K))))) : gs_E L (d + 1) 264 99 [gp_r (some 20), gp_r v1, gp_r v2, gp_i v3, gp_i v4, gp_i v5, v6] [] s K := by
  refine gs_E.stp (pc' := 101) (ls' := [gp_r (some 20), gp_r v1, gp_r v2, gp_i v3, gp_i v4, gp_i v5, v6]) (st' := [gp_r v1, gp_i v3]) (s' := s) 2 rfl ?_
  obtain ⟨q1, hq, H⟩ := H
  rw [hq]
  refine gs_E.ck (pc' := 104) (ls' := [gp_r (some 20), gp_r (some q1), gp_r v2, gp_i v3, gp_i v4, gp_i v5, v6]) (st' := [gp_i (gp_I s q1 0), gp_i v3]) (s' := s) rfl H.1 ?_
  replace H := H.2
  refine gs_E.br (c := ¬ v3 = (gp_I s q1 0)) (p1 := 111) (p2 := 107) (l1 := [gp_r (some 20), gp_r (some q1), gp_r v2, gp_i v3, gp_i v4, gp_i v5, v6]) (l2 := [gp_r (some 20), gp_r (some q1), gp_r v2, gp_i v3, gp_i v4, gp_i v5, v6]) (s1 := []) (s2 := []) rfl gs_b2 (fun hc => ?_) (fun hc => ?_)
  · replace H := H.2 hc
    refine gs_E.stp (pc' := 112) (ls' := [gp_r (some 20), gp_r (some q1), gp_r v2, gp_i v3, gp_i v4, gp_i v5, v6]) (st' := [gp_i 1]) (s' := s) 1 rfl ?_
    exact H
  · replace H := H.1 (Decidable.byContradiction hc)
    refine gs_E.stp (pc' := 112) (ls' := [gp_r (some 20), gp_r (some q1), gp_r v2, gp_i v3, gp_i v4, gp_i v5, v6]) (st' := [gp_i (-1)]) (s' := s) 2 rfl ?_
    exact H

set_option maxRecDepth 100000 in
/-- Maker.wayOf, pc 112 -/
theorem s_264_112 {L d : Nat} {K : Option gV → gH → Prop} {s : gH} (v1 : Option Nat) (v2 : Option Nat) (v3 : Int) (v4 : Int) (v5 : Int) (v6 : gV) (w0 : Int) (H : K (some (gp_i w0)) s) : gs_E L (d + 1) 264 112 [gp_r (some 20), gp_r v1, gp_r v2, gp_i v3, gp_i v4, gp_i v5, v6] [gp_i w0] s K := by
  exact gs_E.ret (r := (some (gp_i w0))) rfl H

set_option maxRecDepth 100000 in
/-- Maker.nodeWay, pc 0 -/
theorem s_265_e {L d : Nat} {K : Option gV → gH → Prop} {s : gH} (p0 : Option Nat) (p1 : Int) (p2 : Option Nat) (p3 : Int) (H : (∃ q1, p0 = some q1 ∧ ((gp_sh (gp_mk L s) q1).1 = 9 ∧ (∃ q2, gp_R (gp_mk L s) q1 5 = some q2 ∧ (gp_in (gp_mk L s) 100 q2 p1 ∧ (∃ q3, p2 = some q3 ∧ ((gp_sh (gp_mk L s) q3).1 = 9 ∧ (∃ q4, gp_R (gp_mk L s) q3 5 = some q4 ∧ (gp_in (gp_mk L s) 100 q4 p3 ∧ (((gp_I s q2 p1.toNat) = (gp_I s q4 p3.toNat) → gs_C L d 266 11 [gp_r (some 20), gp_r (some q1), gp_i p1, gp_r (some q3), gp_i p3, gp_i 0] s (fun r s5 => ∃ x6, r = some (gp_i x6) ∧ ((x6 = 0 → gs_C L d 266 11 [gp_r (some 20), gp_r (some q1), gp_i p1, gp_r (some q3), gp_i p3, gp_i 1] s5 (fun r s7 => ∃ x8, r = some (gp_i x8) ∧ gs_E L (d + 1) 265 70 [gp_r (some 20), gp_r (some q1), gp_i p1, gp_r (some q3), gp_i p3, gp_i x6] [gp_i x8] s7 K)) ∧ (¬ x6 = 0 → gs_E L (d + 1) 265 70 [gp_r (some 20), gp_r (some q1), gp_i p1, gp_r (some q3), gp_i p3, gp_i x6] [gp_i x6] s5 K)))) ∧ (¬ (gp_I s q2 p1.toNat) = (gp_I s q4 p3.toNat) → ((gp_sh (gp_mk L s) q1).1 = 9 ∧ (∃ q9, gp_R (gp_mk L s) q1 5 = some q9 ∧ (gp_in (gp_mk L s) 100 q9 p1 ∧ ((gp_sh (gp_mk L s) q3).1 = 9 ∧ (∃ q10, gp_R (gp_mk L s) q3 5 = some q10 ∧ (gp_in (gp_mk L s) 100 q10 p3 ∧ (((gp_I s q9 p1.toNat) < (gp_I s q10 p3.toNat) → gs_E L (d + 1) 265 37 [gp_r (some 20), gp_r (some q1), gp_i p1, gp_r (some q3), gp_i p3, gp_n] [gp_i (-1)] s K) ∧ (¬ (gp_I s q9 p1.toNat) < (gp_I s q10 p3.toNat) → gs_E L (d + 1) 265 37 [gp_r (some 20), gp_r (some q1), gp_i p1, gp_r (some q3), gp_i p3, gp_n] [gp_i 1] s K))))))))))))))))))) : gs_C L (d + 1) 265 6 [gp_r (some 20), gp_r p0, gp_i p1, gp_r p2, gp_i p3] s K := by
  show gs_E L (d + 1) 265 0 [gp_r (some 20), gp_r p0, gp_i p1, gp_r p2, gp_i p3, gp_n] [] s K
  refine gs_E.stp (pc' := 1) (ls' := [gp_r (some 20), gp_r p0, gp_i p1, gp_r p2, gp_i p3, gp_n]) (st' := [gp_r p0]) (s' := s) 1 rfl ?_
  obtain ⟨q1, hq, H⟩ := H
  rw [hq]
  refine gs_E.ck (pc' := 4) (ls' := [gp_r (some 20), gp_r (some q1), gp_i p1, gp_r p2, gp_i p3, gp_n]) (st' := [gp_r (gp_R (gp_mk L s) q1 5)]) (s' := s) rfl H.1 ?_
  replace H := H.2
  refine gs_E.stp (pc' := 5) (ls' := [gp_r (some 20), gp_r (some q1), gp_i p1, gp_r p2, gp_i p3, gp_n]) (st' := [gp_i p1, gp_r (gp_R (gp_mk L s) q1 5)]) (s' := s) 1 rfl ?_
  obtain ⟨q2, hq, H⟩ := H
  rw [hq]
  refine gs_E.ck (pc' := 6) (ls' := [gp_r (some 20), gp_r (some q1), gp_i p1, gp_r p2, gp_i p3, gp_n]) (st' := [gp_i (gp_I s q2 p1.toNat)]) (s' := s) rfl (Or.inl H.1) ?_
  replace H := H.2
  refine gs_E.stp (pc' := 7) (ls' := [gp_r (some 20), gp_r (some q1), gp_i p1, gp_r p2, gp_i p3, gp_n]) (st' := [gp_r p2, gp_i (gp_I s q2 p1.toNat)]) (s' := s) 1 rfl ?_
  obtain ⟨q3, hq, H⟩ := H
  rw [hq]
  refine gs_E.ck (pc' := 10) (ls' := [gp_r (some 20), gp_r (some q1), gp_i p1, gp_r (some q3), gp_i p3, gp_n]) (st' := [gp_r (gp_R (gp_mk L s) q3 5), gp_i (gp_I s q2 p1.toNat)]) (s' := s) rfl H.1 ?_
  replace H := H.2
  refine gs_E.stp (pc' := 12) (ls' := [gp_r (some 20), gp_r (some q1), gp_i p1, gp_r (some q3), gp_i p3, gp_n]) (st' := [gp_i p3, gp_r (gp_R (gp_mk L s) q3 5), gp_i (gp_I s q2 p1.toNat)]) (s' := s) 1 rfl ?_
  obtain ⟨q4, hq, H⟩ := H
  rw [hq]
  refine gs_E.ck (pc' := 13) (ls' := [gp_r (some 20), gp_r (some q1), gp_i p1, gp_r (some q3), gp_i p3, gp_n]) (st' := [gp_i (gp_I s q4 p3.toNat), gp_i (gp_I s q2 p1.toNat)]) (s' := s) rfl (Or.inl H.1) ?_
  replace H := H.2
  refine gs_E.br (c := (gp_I s q2 p1.toNat) = (gp_I s q4 p3.toNat)) (p1 := 38) (p2 := 16) (l1 := [gp_r (some 20), gp_r (some q1), gp_i p1, gp_r (some q3), gp_i p3, gp_n]) (l2 := [gp_r (some 20), gp_r (some q1), gp_i p1, gp_r (some q3), gp_i p3, gp_n]) (s1 := []) (s2 := []) rfl gs_b1 (fun hc => ?_) (fun hc => ?_)
  · replace H := H.1 hc
    refine gs_E.stp (pc' := 45) (ls' := [gp_r (some 20), gp_r (some q1), gp_i p1, gp_r (some q3), gp_i p3, gp_n]) (st' := [gp_i 0, gp_i p3, gp_r (some q3), gp_i p1, gp_r (some q1), gp_r (some 20)]) (s' := s) 6 rfl ?_
    refine gs_E.call (args := [gp_r (some 20), gp_r (some q1), gp_i p1, gp_r (some q3), gp_i p3, gp_i 0]) (m := 11) (y' := 266) (st' := []) rfl H (fun r s5 H => ?_)
    obtain ⟨x6, rfl, H⟩ := H
    show gs_E L (d + 1) 265 48 [gp_r (some 20), gp_r (some q1), gp_i p1, gp_r (some q3), gp_i p3, gp_n] [gp_i x6] s5 K
    refine gs_E.stp (pc' := 52) (ls' := [gp_r (some 20), gp_r (some q1), gp_i p1, gp_r (some q3), gp_i p3, gp_i x6]) (st' := [gp_i x6]) (s' := s5) 2 rfl ?_
    refine gs_E.br (c := x6 = 0) (p1 := 60) (p2 := 55) (l1 := [gp_r (some 20), gp_r (some q1), gp_i p1, gp_r (some q3), gp_i p3, gp_i x6]) (l2 := [gp_r (some 20), gp_r (some q1), gp_i p1, gp_r (some q3), gp_i p3, gp_i x6]) (s1 := []) (s2 := []) rfl gs_b1 (fun hc => ?_) (fun hc => ?_)
    · replace H := H.1 hc
      refine gs_E.stp (pc' := 67) (ls' := [gp_r (some 20), gp_r (some q1), gp_i p1, gp_r (some q3), gp_i p3, gp_i x6]) (st' := [gp_i 1, gp_i p3, gp_r (some q3), gp_i p1, gp_r (some q1), gp_r (some 20)]) (s' := s5) 6 rfl ?_
      refine gs_E.call (args := [gp_r (some 20), gp_r (some q1), gp_i p1, gp_r (some q3), gp_i p3, gp_i 1]) (m := 11) (y' := 266) (st' := []) rfl H (fun r s7 H => ?_)
      obtain ⟨x8, rfl, H⟩ := H
      show gs_E L (d + 1) 265 70 [gp_r (some 20), gp_r (some q1), gp_i p1, gp_r (some q3), gp_i p3, gp_i x6] [gp_i x8] s7 K
      exact H
    · replace H := H.2 hc
      refine gs_E.stp (pc' := 70) (ls' := [gp_r (some 20), gp_r (some q1), gp_i p1, gp_r (some q3), gp_i p3, gp_i x6]) (st' := [gp_i x6]) (s' := s5) 2 rfl ?_
      exact H
  · replace H := H.2 hc
    refine gs_E.stp (pc' := 17) (ls' := [gp_r (some 20), gp_r (some q1), gp_i p1, gp_r (some q3), gp_i p3, gp_n]) (st' := [gp_r (some q1)]) (s' := s) 1 rfl ?_
    refine gs_E.ck (pc' := 20) (ls' := [gp_r (some 20), gp_r (some q1), gp_i p1, gp_r (some q3), gp_i p3, gp_n]) (st' := [gp_r (gp_R (gp_mk L s) q1 5)]) (s' := s) rfl H.1 ?_
    replace H := H.2
    refine gs_E.stp (pc' := 21) (ls' := [gp_r (some 20), gp_r (some q1), gp_i p1, gp_r (some q3), gp_i p3, gp_n]) (st' := [gp_i p1, gp_r (gp_R (gp_mk L s) q1 5)]) (s' := s) 1 rfl ?_
    obtain ⟨q9, hq, H⟩ := H
    rw [hq]
    refine gs_E.ck (pc' := 22) (ls' := [gp_r (some 20), gp_r (some q1), gp_i p1, gp_r (some q3), gp_i p3, gp_n]) (st' := [gp_i (gp_I s q9 p1.toNat)]) (s' := s) rfl (Or.inl H.1) ?_
    replace H := H.2
    refine gs_E.stp (pc' := 23) (ls' := [gp_r (some 20), gp_r (some q1), gp_i p1, gp_r (some q3), gp_i p3, gp_n]) (st' := [gp_r (some q3), gp_i (gp_I s q9 p1.toNat)]) (s' := s) 1 rfl ?_
    refine gs_E.ck (pc' := 26) (ls' := [gp_r (some 20), gp_r (some q1), gp_i p1, gp_r (some q3), gp_i p3, gp_n]) (st' := [gp_r (gp_R (gp_mk L s) q3 5), gp_i (gp_I s q9 p1.toNat)]) (s' := s) rfl H.1 ?_
    replace H := H.2
    refine gs_E.stp (pc' := 28) (ls' := [gp_r (some 20), gp_r (some q1), gp_i p1, gp_r (some q3), gp_i p3, gp_n]) (st' := [gp_i p3, gp_r (gp_R (gp_mk L s) q3 5), gp_i (gp_I s q9 p1.toNat)]) (s' := s) 1 rfl ?_
    obtain ⟨q10, hq, H⟩ := H
    rw [hq]
    refine gs_E.ck (pc' := 29) (ls' := [gp_r (some 20), gp_r (some q1), gp_i p1, gp_r (some q3), gp_i p3, gp_n]) (st' := [gp_i (gp_I s q10 p3.toNat), gp_i (gp_I s q9 p1.toNat)]) (s' := s) rfl (Or.inl H.1) ?_
    replace H := H.2
    refine gs_E.br (c := ¬ (gp_I s q9 p1.toNat) < (gp_I s q10 p3.toNat)) (p1 := 36) (p2 := 32) (l1 := [gp_r (some 20), gp_r (some q1), gp_i p1, gp_r (some q3), gp_i p3, gp_n]) (l2 := [gp_r (some 20), gp_r (some q1), gp_i p1, gp_r (some q3), gp_i p3, gp_n]) (s1 := []) (s2 := []) rfl gs_b2 (fun hc => ?_) (fun hc => ?_)
    · replace H := H.2 hc
      refine gs_E.stp (pc' := 37) (ls' := [gp_r (some 20), gp_r (some q1), gp_i p1, gp_r (some q3), gp_i p3, gp_n]) (st' := [gp_i 1]) (s' := s) 1 rfl ?_
      exact H
    · replace H := H.1 (Decidable.byContradiction hc)
      refine gs_E.stp (pc' := 37) (ls' := [gp_r (some 20), gp_r (some q1), gp_i p1, gp_r (some q3), gp_i p3, gp_n]) (st' := [gp_i (-1)]) (s' := s) 2 rfl ?_
      exact H

set_option maxRecDepth 100000 in
/-- Maker.nodeWay, pc 37 -/
theorem s_265_37 {L d : Nat} {K : Option gV → gH → Prop} {s : gH} (v1 : Option Nat) (v2 : Int) (v3 : Option Nat) (v4 : Int) (v5 : gV) (w0 : Int) (H : K (some (gp_i w0)) s) : gs_E L (d + 1) 265 37 [gp_r (some 20), gp_r v1, gp_i v2, gp_r v3, gp_i v4, v5] [gp_i w0] s K := by
  exact gs_E.ret (r := (some (gp_i w0))) rfl H

set_option maxRecDepth 100000 in
/-- Maker.nodeWay, pc 70 -/
theorem s_265_70 {L d : Nat} {K : Option gV → gH → Prop} {s : gH} (v1 : Option Nat) (v2 : Int) (v3 : Option Nat) (v4 : Int) (v5 : Int) (w0 : Int) (H : K (some (gp_i w0)) s) : gs_E L (d + 1) 265 70 [gp_r (some 20), gp_r v1, gp_i v2, gp_r v3, gp_i v4, gp_i v5] [gp_i w0] s K := by
  exact gs_E.ret (r := (some (gp_i w0))) rfl H

set_option maxRecDepth 100000 in
/-- Maker.sideWay, pc 0 -/
theorem s_266_e {L d : Nat} {K : Option gV → gH → Prop} {s : gH} (p0 : Option Nat) (p1 : Int) (p2 : Option Nat) (p3 : Int) (p4 : Int) (H : (∃ q1, p0 = some q1 ∧ ((gp_sh (gp_mk L s) q1).1 = 9 ∧ gs_C L d 2307 3 [gp_r (some q1), gp_i p1, gp_i p4] s (fun r s2 => ∃ m3, r = some (gp_l m3) ∧ (∃ q4, p2 = some q4 ∧ ((gp_sh (gp_mk L s2) q4).1 = 9 ∧ gs_C L d 2307 3 [gp_r (some q4), gp_i p3, gp_i p4] s2 (fun r s5 => ∃ m6, r = some (gp_l m6) ∧ (((gp_cmp m3 (0#64)) = 0 → (((gp_cmp m6 (0#64)) = 0 → ((gp_sh (gp_mk L s5) q1).1 = 9 ∧ gs_C L d 2308 3 [gp_r (some q1), gp_i p1, gp_i p4] s5 (fun r s7 => ∃ x8, r = some (gp_i x8) ∧ ((gp_sh (gp_mk L s7) q4).1 = 9 ∧ gs_C L d 2308 3 [gp_r (some q4), gp_i p3, gp_i p4] s7 (fun r s9 => ∃ x10, r = some (gp_i x10) ∧ gs_C L d 3328 2 [gp_i x8, gp_i x10] s9 (fun r s11 => ∃ x12, r = some (gp_i x12) ∧ K (some (gp_i x12)) s11)))))) ∧ (¬ (gp_cmp m6 (0#64)) = 0 → gs_E L (d + 1) 266 52 [gp_r (some 20), gp_r (some q1), gp_i p1, gp_r (some q4), gp_i p3, gp_i p4, gp_l m3, gp_n, gp_l m6, gp_n, gp_n] [] s5 K))) ∧ (¬ (gp_cmp m3 (0#64)) = 0 → gs_E L (d + 1) 266 52 [gp_r (some 20), gp_r (some q1), gp_i p1, gp_r (some q4), gp_i p3, gp_i p4, gp_l m3, gp_n, gp_l m6, gp_n, gp_n] [] s5 K))))))))) : gs_C L (d + 1) 266 11 [gp_r (some 20), gp_r p0, gp_i p1, gp_r p2, gp_i p3, gp_i p4] s K := by
  show gs_E L (d + 1) 266 0 [gp_r (some 20), gp_r p0, gp_i p1, gp_r p2, gp_i p3, gp_i p4, gp_n, gp_n, gp_n, gp_n, gp_n] [] s K
  refine gs_E.stp (pc' := 4) (ls' := [gp_r (some 20), gp_r p0, gp_i p1, gp_r p2, gp_i p3, gp_i p4, gp_n, gp_n, gp_n, gp_n, gp_n]) (st' := [gp_i p4, gp_i p1, gp_r p0]) (s' := s) 3 rfl ?_
  obtain ⟨q1, hq, H⟩ := H
  rw [hq]
  refine gs_E.callV (args := [gp_r (some q1), gp_i p1, gp_i p4]) (m := 3) (y' := 2307) (st' := []) rfl H.1 H.2 (fun r s2 H => ?_)
  obtain ⟨m3, rfl, H⟩ := H
  show gs_E L (d + 1) 266 7 [gp_r (some 20), gp_r (some q1), gp_i p1, gp_r p2, gp_i p3, gp_i p4, gp_n, gp_n, gp_n, gp_n, gp_n] [gp_l m3] s2 K
  refine gs_E.stp (pc' := 14) (ls' := [gp_r (some 20), gp_r (some q1), gp_i p1, gp_r p2, gp_i p3, gp_i p4, gp_l m3, gp_n, gp_n, gp_n, gp_n]) (st' := [gp_i p4, gp_i p3, gp_r p2]) (s' := s2) 4 rfl ?_
  obtain ⟨q4, hq, H⟩ := H
  rw [hq]
  refine gs_E.callV (args := [gp_r (some q4), gp_i p3, gp_i p4]) (m := 3) (y' := 2307) (st' := []) rfl H.1 H.2 (fun r s5 H => ?_)
  obtain ⟨m6, rfl, H⟩ := H
  show gs_E L (d + 1) 266 17 [gp_r (some 20), gp_r (some q1), gp_i p1, gp_r (some q4), gp_i p3, gp_i p4, gp_l m3, gp_n, gp_n, gp_n, gp_n] [gp_l m6] s5 K
  refine gs_E.stp (pc' := 23) (ls' := [gp_r (some 20), gp_r (some q1), gp_i p1, gp_r (some q4), gp_i p3, gp_i p4, gp_l m3, gp_n, gp_l m6, gp_n, gp_n]) (st' := [gp_i (gp_cmp m3 (0#64))]) (s' := s5) 4 rfl ?_
  refine gs_E.br (c := ¬ (gp_cmp m3 (0#64)) = 0) (p1 := 52) (p2 := 26) (l1 := [gp_r (some 20), gp_r (some q1), gp_i p1, gp_r (some q4), gp_i p3, gp_i p4, gp_l m3, gp_n, gp_l m6, gp_n, gp_n]) (l2 := [gp_r (some 20), gp_r (some q1), gp_i p1, gp_r (some q4), gp_i p3, gp_i p4, gp_l m3, gp_n, gp_l m6, gp_n, gp_n]) (s1 := []) (s2 := []) rfl gs_b2 (fun hc => ?_) (fun hc => ?_)
  · replace H := H.2 hc
    exact H
  · replace H := H.1 (Decidable.byContradiction hc)
    refine gs_E.stp (pc' := 30) (ls' := [gp_r (some 20), gp_r (some q1), gp_i p1, gp_r (some q4), gp_i p3, gp_i p4, gp_l m3, gp_n, gp_l m6, gp_n, gp_n]) (st' := [gp_i (gp_cmp m6 (0#64))]) (s' := s5) 3 rfl ?_
    refine gs_E.br (c := ¬ (gp_cmp m6 (0#64)) = 0) (p1 := 52) (p2 := 33) (l1 := [gp_r (some 20), gp_r (some q1), gp_i p1, gp_r (some q4), gp_i p3, gp_i p4, gp_l m3, gp_n, gp_l m6, gp_n, gp_n]) (l2 := [gp_r (some 20), gp_r (some q1), gp_i p1, gp_r (some q4), gp_i p3, gp_i p4, gp_l m3, gp_n, gp_l m6, gp_n, gp_n]) (s1 := []) (s2 := []) rfl gs_b2 (fun hc => ?_) (fun hc => ?_)
    · replace H := H.2 hc
      exact H
    · replace H := H.1 (Decidable.byContradiction hc)
      refine gs_E.stp (pc' := 37) (ls' := [gp_r (some 20), gp_r (some q1), gp_i p1, gp_r (some q4), gp_i p3, gp_i p4, gp_l m3, gp_n, gp_l m6, gp_n, gp_n]) (st' := [gp_i p4, gp_i p1, gp_r (some q1)]) (s' := s5) 3 rfl ?_
      refine gs_E.callV (args := [gp_r (some q1), gp_i p1, gp_i p4]) (m := 3) (y' := 2308) (st' := []) rfl H.1 H.2 (fun r s7 H => ?_)
      obtain ⟨x8, rfl, H⟩ := H
      show gs_E L (d + 1) 266 40 [gp_r (some 20), gp_r (some q1), gp_i p1, gp_r (some q4), gp_i p3, gp_i p4, gp_l m3, gp_n, gp_l m6, gp_n, gp_n] [gp_i x8] s7 K
      refine gs_E.stp (pc' := 45) (ls' := [gp_r (some 20), gp_r (some q1), gp_i p1, gp_r (some q4), gp_i p3, gp_i p4, gp_l m3, gp_n, gp_l m6, gp_n, gp_n]) (st' := [gp_i p4, gp_i p3, gp_r (some q4), gp_i x8]) (s' := s7) 3 rfl ?_
      refine gs_E.callV (args := [gp_r (some q4), gp_i p3, gp_i p4]) (m := 3) (y' := 2308) (st' := [gp_i x8]) rfl H.1 H.2 (fun r s9 H => ?_)
      obtain ⟨x10, rfl, H⟩ := H
      show gs_E L (d + 1) 266 48 [gp_r (some 20), gp_r (some q1), gp_i p1, gp_r (some q4), gp_i p3, gp_i p4, gp_l m3, gp_n, gp_l m6, gp_n, gp_n] [gp_i x10, gp_i x8] s9 K
      refine gs_E.call (args := [gp_i x8, gp_i x10]) (m := 2) (y' := 3328) (st' := []) rfl H (fun r s11 H => ?_)
      obtain ⟨x12, rfl, H⟩ := H
      show gs_E L (d + 1) 266 51 [gp_r (some 20), gp_r (some q1), gp_i p1, gp_r (some q4), gp_i p3, gp_i p4, gp_l m3, gp_n, gp_l m6, gp_n, gp_n] [gp_i x12] s11 K
      exact gs_E.ret (r := (some (gp_i x12))) rfl H

set_option maxRecDepth 100000 in
/-- Maker.sideWay, pc 52 -/
theorem s_266_52 {L d : Nat} {K : Option gV → gH → Prop} {s : gH} (v1 : Option Nat) (v2 : Int) (v3 : Option Nat) (v4 : Int) (v5 : Int) (v6 : BitVec 64) (v8 : BitVec 64) (v10 : gV) (H : gs_C L d 3585 2 [gp_l v6] s (fun r s1 => ∃ x2, r = some (gp_i x2) ∧ gs_C L d 3585 2 [gp_l v8] s1 (fun r s3 => ∃ x4, r = some (gp_i x4) ∧ gs_C L d 3328 2 [gp_i x2, gp_i x4] s3 (fun r s5 => ∃ x6, r = some (gp_i x6) ∧ gs_E L (d + 1) 266 67 [gp_r (some 20), gp_r v1, gp_i v2, gp_r v3, gp_i v4, gp_i v5, gp_l v6, gp_n, gp_l v8, gp_n, gp_i x6] [] s5 K)))) : gs_E L (d + 1) 266 52 [gp_r (some 20), gp_r v1, gp_i v2, gp_r v3, gp_i v4, gp_i v5, gp_l v6, gp_n, gp_l v8, gp_n, v10] [] s K := by
  refine gs_E.stp (pc' := 54) (ls' := [gp_r (some 20), gp_r v1, gp_i v2, gp_r v3, gp_i v4, gp_i v5, gp_l v6, gp_n, gp_l v8, gp_n, v10]) (st' := [gp_l v6]) (s' := s) 1 rfl ?_
  refine gs_E.call (args := [gp_l v6]) (m := 2) (y' := 3585) (st' := []) rfl H (fun r s1 H => ?_)
  obtain ⟨x2, rfl, H⟩ := H
  show gs_E L (d + 1) 266 57 [gp_r (some 20), gp_r v1, gp_i v2, gp_r v3, gp_i v4, gp_i v5, gp_l v6, gp_n, gp_l v8, gp_n, v10] [gp_i x2] s1 K
  refine gs_E.stp (pc' := 59) (ls' := [gp_r (some 20), gp_r v1, gp_i v2, gp_r v3, gp_i v4, gp_i v5, gp_l v6, gp_n, gp_l v8, gp_n, v10]) (st' := [gp_l v8, gp_i x2]) (s' := s1) 1 rfl ?_
  refine gs_E.call (args := [gp_l v8]) (m := 2) (y' := 3585) (st' := [gp_i x2]) rfl H (fun r s3 H => ?_)
  obtain ⟨x4, rfl, H⟩ := H
  show gs_E L (d + 1) 266 62 [gp_r (some 20), gp_r v1, gp_i v2, gp_r v3, gp_i v4, gp_i v5, gp_l v6, gp_n, gp_l v8, gp_n, v10] [gp_i x4, gp_i x2] s3 K
  refine gs_E.call (args := [gp_i x2, gp_i x4]) (m := 2) (y' := 3328) (st' := []) rfl H (fun r s5 H => ?_)
  obtain ⟨x6, rfl, H⟩ := H
  show gs_E L (d + 1) 266 65 [gp_r (some 20), gp_r v1, gp_i v2, gp_r v3, gp_i v4, gp_i v5, gp_l v6, gp_n, gp_l v8, gp_n, v10] [gp_i x6] s5 K
  refine gs_E.stp (pc' := 67) (ls' := [gp_r (some 20), gp_r v1, gp_i v2, gp_r v3, gp_i v4, gp_i v5, gp_l v6, gp_n, gp_l v8, gp_n, gp_i x6]) (st' := []) (s' := s5) 1 rfl ?_
  exact H

set_option maxRecDepth 100000 in
/-- Maker.sideWay, pc 67 -/
theorem s_266_67 {L d : Nat} {K : Option gV → gH → Prop} {s : gH} (v1 : Option Nat) (v2 : Int) (v3 : Option Nat) (v4 : Int) (v5 : Int) (v6 : BitVec 64) (v8 : BitVec 64) (v10 : Int) (H : ((v10 = 0 → (((gp_cmp v6 (0#64)) = 0 → gs_E L (d + 1) 266 132 [gp_r (some 20), gp_r v1, gp_i v2, gp_r v3, gp_i v4, gp_i v5, gp_l v6, gp_n, gp_l v8, gp_n, gp_i v10] [] s K) ∧ (¬ (gp_cmp v6 (0#64)) = 0 → (((gp_cmp v8 (0#64)) = 0 → gs_E L (d + 1) 266 132 [gp_r (some 20), gp_r v1, gp_i v2, gp_r v3, gp_i v4, gp_i v5, gp_l v6, gp_n, gp_l v8, gp_n, gp_i v10] [] s K) ∧ (¬ (gp_cmp v8 (0#64)) = 0 → gs_C L d 2859 2 [gp_l v6] s (fun r s1 => ∃ x2, r = some (gp_i x2) ∧ ((0 ≤ x2 ∧ x2 < 60) ∧ gs_C L d 2859 2 [gp_l v8] s1 (fun r s3 => ∃ x4, r = some (gp_i x4) ∧ ((0 ≤ x4 ∧ x4 < 60) ∧ gs_C L d 3328 2 [gp_i (gp_I s1 23 x2.toNat), gp_i (gp_I s3 24 x4.toNat)] s3 (fun r s5 => ∃ x6, r = some (gp_i x6) ∧ gs_E L (d + 1) 266 67 [gp_r (some 20), gp_r v1, gp_i v2, gp_r v3, gp_i v4, gp_i v5, gp_l (v6 &&& (v6 - (1#64))), gp_n, gp_l (v8 &&& (v8 - (1#64))), gp_n, gp_i x6] [] s5 K)))))))))) ∧ (¬ v10 = 0 → gs_E L (d + 1) 266 132 [gp_r (some 20), gp_r v1, gp_i v2, gp_r v3, gp_i v4, gp_i v5, gp_l v6, gp_n, gp_l v8, gp_n, gp_i v10] [] s K))) : gs_E L (d + 1) 266 67 [gp_r (some 20), gp_r v1, gp_i v2, gp_r v3, gp_i v4, gp_i v5, gp_l v6, gp_n, gp_l v8, gp_n, gp_i v10] [] s K := by
  refine gs_E.stp (pc' := 69) (ls' := [gp_r (some 20), gp_r v1, gp_i v2, gp_r v3, gp_i v4, gp_i v5, gp_l v6, gp_n, gp_l v8, gp_n, gp_i v10]) (st' := [gp_i v10]) (s' := s) 1 rfl ?_
  refine gs_E.br (c := ¬ v10 = 0) (p1 := 132) (p2 := 72) (l1 := [gp_r (some 20), gp_r v1, gp_i v2, gp_r v3, gp_i v4, gp_i v5, gp_l v6, gp_n, gp_l v8, gp_n, gp_i v10]) (l2 := [gp_r (some 20), gp_r v1, gp_i v2, gp_r v3, gp_i v4, gp_i v5, gp_l v6, gp_n, gp_l v8, gp_n, gp_i v10]) (s1 := []) (s2 := []) rfl gs_b2 (fun hc => ?_) (fun hc => ?_)
  · replace H := H.2 hc
    exact H
  · replace H := H.1 (Decidable.byContradiction hc)
    refine gs_E.stp (pc' := 76) (ls' := [gp_r (some 20), gp_r v1, gp_i v2, gp_r v3, gp_i v4, gp_i v5, gp_l v6, gp_n, gp_l v8, gp_n, gp_i v10]) (st' := [gp_i (gp_cmp v6 (0#64))]) (s' := s) 3 rfl ?_
    refine gs_E.br (c := (gp_cmp v6 (0#64)) = 0) (p1 := 132) (p2 := 79) (l1 := [gp_r (some 20), gp_r v1, gp_i v2, gp_r v3, gp_i v4, gp_i v5, gp_l v6, gp_n, gp_l v8, gp_n, gp_i v10]) (l2 := [gp_r (some 20), gp_r v1, gp_i v2, gp_r v3, gp_i v4, gp_i v5, gp_l v6, gp_n, gp_l v8, gp_n, gp_i v10]) (s1 := []) (s2 := []) rfl gs_b1 (fun hc => ?_) (fun hc => ?_)
    · replace H := H.1 hc
      exact H
    · replace H := H.2 hc
      refine gs_E.stp (pc' := 83) (ls' := [gp_r (some 20), gp_r v1, gp_i v2, gp_r v3, gp_i v4, gp_i v5, gp_l v6, gp_n, gp_l v8, gp_n, gp_i v10]) (st' := [gp_i (gp_cmp v8 (0#64))]) (s' := s) 3 rfl ?_
      refine gs_E.br (c := (gp_cmp v8 (0#64)) = 0) (p1 := 132) (p2 := 86) (l1 := [gp_r (some 20), gp_r v1, gp_i v2, gp_r v3, gp_i v4, gp_i v5, gp_l v6, gp_n, gp_l v8, gp_n, gp_i v10]) (l2 := [gp_r (some 20), gp_r v1, gp_i v2, gp_r v3, gp_i v4, gp_i v5, gp_l v6, gp_n, gp_l v8, gp_n, gp_i v10]) (s1 := []) (s2 := []) rfl gs_b1 (fun hc => ?_) (fun hc => ?_)
      · replace H := H.1 hc
        exact H
      · replace H := H.2 hc
        refine gs_E.stp (pc' := 92) (ls' := [gp_r (some 20), gp_r v1, gp_i v2, gp_r v3, gp_i v4, gp_i v5, gp_l v6, gp_n, gp_l v8, gp_n, gp_i v10]) (st' := [gp_l v6, gp_r (some 23)]) (s' := s) 3 rfl ?_
        refine gs_E.call (args := [gp_l v6]) (m := 2) (y' := 2859) (st' := [gp_r (some 23)]) rfl H (fun r s1 H => ?_)
        obtain ⟨x2, rfl, H⟩ := H
        show gs_E L (d + 1) 266 95 [gp_r (some 20), gp_r v1, gp_i v2, gp_r v3, gp_i v4, gp_i v5, gp_l v6, gp_n, gp_l v8, gp_n, gp_i v10] [gp_i x2, gp_r (some 23)] s1 K
        refine gs_E.ck (pc' := 96) (ls' := [gp_r (some 20), gp_r v1, gp_i v2, gp_r v3, gp_i v4, gp_i v5, gp_l v6, gp_n, gp_l v8, gp_n, gp_i v10]) (st' := [gp_i (gp_I s1 23 x2.toNat)]) (s' := s1) rfl (Or.inl ⟨rfl, H.1.1, H.1.2⟩) ?_
        replace H := H.2
        refine gs_E.stp (pc' := 102) (ls' := [gp_r (some 20), gp_r v1, gp_i v2, gp_r v3, gp_i v4, gp_i v5, gp_l v6, gp_n, gp_l v8, gp_n, gp_i v10]) (st' := [gp_l v8, gp_r (some 24), gp_i (gp_I s1 23 x2.toNat)]) (s' := s1) 3 rfl ?_
        refine gs_E.call (args := [gp_l v8]) (m := 2) (y' := 2859) (st' := [gp_r (some 24), gp_i (gp_I s1 23 x2.toNat)]) rfl H (fun r s3 H => ?_)
        obtain ⟨x4, rfl, H⟩ := H
        show gs_E L (d + 1) 266 105 [gp_r (some 20), gp_r v1, gp_i v2, gp_r v3, gp_i v4, gp_i v5, gp_l v6, gp_n, gp_l v8, gp_n, gp_i v10] [gp_i x4, gp_r (some 24), gp_i (gp_I s1 23 x2.toNat)] s3 K
        refine gs_E.ck (pc' := 106) (ls' := [gp_r (some 20), gp_r v1, gp_i v2, gp_r v3, gp_i v4, gp_i v5, gp_l v6, gp_n, gp_l v8, gp_n, gp_i v10]) (st' := [gp_i (gp_I s3 24 x4.toNat), gp_i (gp_I s1 23 x2.toNat)]) (s' := s3) rfl (Or.inl ⟨rfl, H.1.1, H.1.2⟩) ?_
        replace H := H.2
        refine gs_E.call (args := [gp_i (gp_I s1 23 x2.toNat), gp_i (gp_I s3 24 x4.toNat)]) (m := 2) (y' := 3328) (st' := []) rfl H (fun r s5 H => ?_)
        obtain ⟨x6, rfl, H⟩ := H
        show gs_E L (d + 1) 266 109 [gp_r (some 20), gp_r v1, gp_i v2, gp_r v3, gp_i v4, gp_i v5, gp_l v6, gp_n, gp_l v8, gp_n, gp_i v10] [gp_i x6] s5 K
        refine gs_E.stp (pc' := 67) (ls' := [gp_r (some 20), gp_r v1, gp_i v2, gp_r v3, gp_i v4, gp_i v5, gp_l (v6 &&& (v6 - (1#64))), gp_n, gp_l (v8 &&& (v8 - (1#64))), gp_n, gp_i x6]) (st' := []) (s' := s5) 14 rfl ?_
        exact H

set_option maxRecDepth 100000 in
/-- Maker.sideWay, pc 132 -/
theorem s_266_132 {L d : Nat} {K : Option gV → gH → Prop} {s : gH} (v1 : Option Nat) (v2 : Int) (v3 : Option Nat) (v4 : Int) (v5 : Int) (v6 : BitVec 64) (v8 : BitVec 64) (v10 : Int) (H : K (some (gp_i v10)) s) : gs_E L (d + 1) 266 132 [gp_r (some 20), gp_r v1, gp_i v2, gp_r v3, gp_i v4, gp_i v5, gp_l v6, gp_n, gp_l v8, gp_n, gp_i v10] [] s K := by
  refine gs_E.stp (pc' := 134) (ls' := [gp_r (some 20), gp_r v1, gp_i v2, gp_r v3, gp_i v4, gp_i v5, gp_l v6, gp_n, gp_l v8, gp_n, gp_i v10]) (st' := [gp_i v10]) (s' := s) 1 rfl ?_
  exact gs_E.ret (r := (some (gp_i v10))) rfl H

set_option maxRecDepth 100000 in
/-- Pool.empty, pc 0 -/
theorem s_1025_e {L d : Nat} {K : Option gV → gH → Prop} {s : gH}  (H : (∀ s1, s1 = gp_wI s 6 4 0 → K none s1)) : gs_C L d 1025 1 [gp_r (some 6)] s K := by
  show gs_E L d 1025 0 [gp_r (some 6)] [] s K
  refine gs_E.stp (pc' := 5) (ls' := [gp_r (some 6)]) (st' := []) (s' := gp_wI s 6 4 0) 3 rfl ?_
  replace H := H _ rfl
  generalize gp_wI s 6 4 0 = s1 at H ⊢
  exact gs_E.ret (r := none) rfl H

set_option maxRecDepth 100000 in
/-- Pool.sketch, pc 0 -/
theorem s_1026_e {L d : Nat} {K : Option gV → gH → Prop} {s : gH} (p0 : BitVec 64) (p1 : BitVec 64) (p2 : Int) (p3 : Int) (H : ((0 ≤ (gp_I s 6 4) ∧ (gp_I s 6 4) < 61) ∧ (∀ s1, s1 = gp_wL s 8 (gp_I s 6 4).toNat p0 → ((0 ≤ (gp_I s1 6 4) ∧ (gp_I s1 6 4) < 61) ∧ (∀ s2, s2 = gp_wL s1 9 (gp_I s1 6 4).toNat p1 → (((gp_cmp p0 (0#64)) = 0 → gs_E L (d + 1) 1026 49 [gp_r (some 6), gp_l p0, gp_n, gp_l p1, gp_n, gp_i p2, gp_i p3, gp_n, gp_n, gp_n] [gp_i p2, gp_i (gp_I s2 6 4), gp_r (some 10)] s2 K) ∧ (¬ (gp_cmp p0 (0#64)) = 0 → gs_E L (d + 1) 1026 49 [gp_r (some 6), gp_l p0, gp_n, gp_l p1, gp_n, gp_i p2, gp_i p3, gp_n, gp_n, gp_n] [gp_i 0, gp_i (gp_I s2 6 4), gp_r (some 10)] s2 K))))))) : gs_C L (d + 1) 1026 10 [gp_r (some 6), gp_l p0, gp_l p1, gp_i p2, gp_i p3] s K := by
  show gs_E L (d + 1) 1026 0 [gp_r (some 6), gp_l p0, gp_n, gp_l p1, gp_n, gp_i p2, gp_i p3, gp_n, gp_n, gp_n] [] s K
  refine gs_E.stp (pc' := 12) (ls' := [gp_r (some 6), gp_l p0, gp_n, gp_l p1, gp_n, gp_i p2, gp_i p3, gp_n, gp_n, gp_n]) (st' := [gp_l p0, gp_i (gp_I s 6 4), gp_r (some 8)]) (s' := s) 6 rfl ?_
  refine gs_E.ck (pc' := 13) (ls' := [gp_r (some 6), gp_l p0, gp_n, gp_l p1, gp_n, gp_i p2, gp_i p3, gp_n, gp_n, gp_n]) (st' := []) (s' := gp_wL s 8 (gp_I s 6 4).toNat p0) rfl ⟨rfl, H.1.1, H.1.2⟩ ?_
  replace H := H.2 _ rfl
  generalize gp_wL s 8 (gp_I s 6 4).toNat p0 = s1 at H ⊢
  refine gs_E.stp (pc' := 25) (ls' := [gp_r (some 6), gp_l p0, gp_n, gp_l p1, gp_n, gp_i p2, gp_i p3, gp_n, gp_n, gp_n]) (st' := [gp_l p1, gp_i (gp_I s1 6 4), gp_r (some 9)]) (s' := s1) 6 rfl ?_
  refine gs_E.ck (pc' := 26) (ls' := [gp_r (some 6), gp_l p0, gp_n, gp_l p1, gp_n, gp_i p2, gp_i p3, gp_n, gp_n, gp_n]) (st' := []) (s' := gp_wL s1 9 (gp_I s1 6 4).toNat p1) rfl ⟨rfl, H.1.1, H.1.2⟩ ?_
  replace H := H.2 _ rfl
  generalize gp_wL s1 9 (gp_I s1 6 4).toNat p1 = s2 at H ⊢
  refine gs_E.stp (pc' := 40) (ls' := [gp_r (some 6), gp_l p0, gp_n, gp_l p1, gp_n, gp_i p2, gp_i p3, gp_n, gp_n, gp_n]) (st' := [gp_i (gp_cmp p0 (0#64)), gp_i (gp_I s2 6 4), gp_r (some 10)]) (s' := s2) 8 rfl ?_
  refine gs_E.br (c := ¬ (gp_cmp p0 (0#64)) = 0) (p1 := 48) (p2 := 43) (l1 := [gp_r (some 6), gp_l p0, gp_n, gp_l p1, gp_n, gp_i p2, gp_i p3, gp_n, gp_n, gp_n]) (l2 := [gp_r (some 6), gp_l p0, gp_n, gp_l p1, gp_n, gp_i p2, gp_i p3, gp_n, gp_n, gp_n]) (s1 := [gp_i (gp_I s2 6 4), gp_r (some 10)]) (s2 := [gp_i (gp_I s2 6 4), gp_r (some 10)]) rfl gs_b2 (fun hc => ?_) (fun hc => ?_)
  · replace H := H.2 hc
    refine gs_E.stp (pc' := 49) (ls' := [gp_r (some 6), gp_l p0, gp_n, gp_l p1, gp_n, gp_i p2, gp_i p3, gp_n, gp_n, gp_n]) (st' := [gp_i 0, gp_i (gp_I s2 6 4), gp_r (some 10)]) (s' := s2) 1 rfl ?_
    exact H
  · replace H := H.1 (Decidable.byContradiction hc)
    refine gs_E.stp (pc' := 49) (ls' := [gp_r (some 6), gp_l p0, gp_n, gp_l p1, gp_n, gp_i p2, gp_i p3, gp_n, gp_n, gp_n]) (st' := [gp_i p2, gp_i (gp_I s2 6 4), gp_r (some 10)]) (s' := s2) 2 rfl ?_
    exact H

set_option maxRecDepth 100000 in
/-- Pool.sketch, pc 49 -/
theorem s_1026_49 {L d : Nat} {K : Option gV → gH → Prop} {s : gH} (v1 : BitVec 64) (v3 : BitVec 64) (v5 : Int) (v6 : Int) (v7 : gV) (v8 : gV) (v9 : gV) (w1 : Int) (w2 : Int) (H : ((0 ≤ w1 ∧ w1 < 61) ∧ (∀ s1, s1 = gp_wI s 10 w1.toNat w2 → (((gp_cmp v3 (0#64)) = 0 → gs_E L (d + 1) 1026 73 [gp_r (some 6), gp_l v1, gp_n, gp_l v3, gp_n, gp_i v5, gp_i v6, v7, v8, v9] [gp_i v6, gp_i (gp_I s1 6 4), gp_r (some 11)] s1 K) ∧ (¬ (gp_cmp v3 (0#64)) = 0 → gs_E L (d + 1) 1026 73 [gp_r (some 6), gp_l v1, gp_n, gp_l v3, gp_n, gp_i v5, gp_i v6, v7, v8, v9] [gp_i 0, gp_i (gp_I s1 6 4), gp_r (some 11)] s1 K))))) : gs_E L (d + 1) 1026 49 [gp_r (some 6), gp_l v1, gp_n, gp_l v3, gp_n, gp_i v5, gp_i v6, v7, v8, v9] [gp_i w2, gp_i w1, gp_r (some 10)] s K := by
  refine gs_E.ck (pc' := 50) (ls' := [gp_r (some 6), gp_l v1, gp_n, gp_l v3, gp_n, gp_i v5, gp_i v6, v7, v8, v9]) (st' := []) (s' := gp_wI s 10 w1.toNat w2) rfl ⟨rfl, H.1.1, H.1.2⟩ ?_
  replace H := H.2 _ rfl
  generalize gp_wI s 10 w1.toNat w2 = s1 at H ⊢
  refine gs_E.stp (pc' := 64) (ls' := [gp_r (some 6), gp_l v1, gp_n, gp_l v3, gp_n, gp_i v5, gp_i v6, v7, v8, v9]) (st' := [gp_i (gp_cmp v3 (0#64)), gp_i (gp_I s1 6 4), gp_r (some 11)]) (s' := s1) 8 rfl ?_
  refine gs_E.br (c := ¬ (gp_cmp v3 (0#64)) = 0) (p1 := 72) (p2 := 67) (l1 := [gp_r (some 6), gp_l v1, gp_n, gp_l v3, gp_n, gp_i v5, gp_i v6, v7, v8, v9]) (l2 := [gp_r (some 6), gp_l v1, gp_n, gp_l v3, gp_n, gp_i v5, gp_i v6, v7, v8, v9]) (s1 := [gp_i (gp_I s1 6 4), gp_r (some 11)]) (s2 := [gp_i (gp_I s1 6 4), gp_r (some 11)]) rfl gs_b2 (fun hc => ?_) (fun hc => ?_)
  · replace H := H.2 hc
    refine gs_E.stp (pc' := 73) (ls' := [gp_r (some 6), gp_l v1, gp_n, gp_l v3, gp_n, gp_i v5, gp_i v6, v7, v8, v9]) (st' := [gp_i 0, gp_i (gp_I s1 6 4), gp_r (some 11)]) (s' := s1) 1 rfl ?_
    exact H
  · replace H := H.1 (Decidable.byContradiction hc)
    refine gs_E.stp (pc' := 73) (ls' := [gp_r (some 6), gp_l v1, gp_n, gp_l v3, gp_n, gp_i v5, gp_i v6, v7, v8, v9]) (st' := [gp_i v6, gp_i (gp_I s1 6 4), gp_r (some 11)]) (s' := s1) 2 rfl ?_
    exact H

set_option maxRecDepth 100000 in
/-- Pool.sketch, pc 73 -/
theorem s_1026_73 {L d : Nat} {K : Option gV → gH → Prop} {s : gH} (v1 : BitVec 64) (v3 : BitVec 64) (v5 : Int) (v6 : Int) (v7 : gV) (v8 : gV) (v9 : gV) (w1 : Int) (w2 : Int) (H : ((0 ≤ w1 ∧ w1 < 61) ∧ (∀ s1, s1 = gp_wI s 11 w1.toNat w2 → gs_E L (d + 1) 1026 82 [gp_r (some 6), gp_l v1, gp_n, gp_l v3, gp_n, gp_i v5, gp_i v6, gp_i 0, gp_l (v1 ||| v3), gp_n] [] s1 K))) : gs_E L (d + 1) 1026 73 [gp_r (some 6), gp_l v1, gp_n, gp_l v3, gp_n, gp_i v5, gp_i v6, v7, v8, v9] [gp_i w2, gp_i w1, gp_r (some 11)] s K := by
  refine gs_E.ck (pc' := 74) (ls' := [gp_r (some 6), gp_l v1, gp_n, gp_l v3, gp_n, gp_i v5, gp_i v6, v7, v8, v9]) (st' := []) (s' := gp_wI s 11 w1.toNat w2) rfl ⟨rfl, H.1.1, H.1.2⟩ ?_
  replace H := H.2 _ rfl
  generalize gp_wI s 11 w1.toNat w2 = s1 at H ⊢
  refine gs_E.stp (pc' := 82) (ls' := [gp_r (some 6), gp_l v1, gp_n, gp_l v3, gp_n, gp_i v5, gp_i v6, gp_i 0, gp_l (v1 ||| v3), gp_n]) (st' := []) (s' := s1) 6 rfl ?_
  exact H

set_option maxRecDepth 100000 in
/-- Pool.sketch, pc 82 -/
theorem s_1026_82 {L d : Nat} {K : Option gV → gH → Prop} {s : gH} (v1 : BitVec 64) (v3 : BitVec 64) (v5 : Int) (v6 : Int) (v7 : Int) (v8 : BitVec 64) (H : (((gp_cmp v8 (0#64)) = 0 → ((0 ≤ (gp_I s 6 4) ∧ (gp_I s 6 4) < 61) ∧ (∀ s1, s1 = gp_wI s 12 (gp_I s 6 4).toNat v7 → K none s1))) ∧ (¬ (gp_cmp v8 (0#64)) = 0 → gs_C L d 2859 2 [gp_l v8] s (fun r s2 => ∃ x3, r = some (gp_i x3) ∧ ((0 ≤ x3 ∧ x3 < 61) ∧ gs_E L (d + 1) 1026 82 [gp_r (some 6), gp_l v1, gp_n, gp_l v3, gp_n, gp_i v5, gp_i v6, gp_i (gp_mx v7 (gp_wr (1 + (gp_I s2 12 x3.toNat)))), gp_l (v8 &&& (v8 - (1#64))), gp_n] [] s2 K))))) : gs_E L (d + 1) 1026 82 [gp_r (some 6), gp_l v1, gp_n, gp_l v3, gp_n, gp_i v5, gp_i v6, gp_i v7, gp_l v8, gp_n] [] s K := by
  refine gs_E.stp (pc' := 86) (ls' := [gp_r (some 6), gp_l v1, gp_n, gp_l v3, gp_n, gp_i v5, gp_i v6, gp_i v7, gp_l v8, gp_n]) (st' := [gp_i (gp_cmp v8 (0#64))]) (s' := s) 3 rfl ?_
  refine gs_E.br (c := (gp_cmp v8 (0#64)) = 0) (p1 := 123) (p2 := 89) (l1 := [gp_r (some 6), gp_l v1, gp_n, gp_l v3, gp_n, gp_i v5, gp_i v6, gp_i v7, gp_l v8, gp_n]) (l2 := [gp_r (some 6), gp_l v1, gp_n, gp_l v3, gp_n, gp_i v5, gp_i v6, gp_i v7, gp_l v8, gp_n]) (s1 := []) (s2 := []) rfl gs_b1 (fun hc => ?_) (fun hc => ?_)
  · replace H := H.1 hc
    refine gs_E.stp (pc' := 136) (ls' := [gp_r (some 6), gp_l v1, gp_n, gp_l v3, gp_n, gp_i v5, gp_i v6, gp_i v7, gp_l v8, gp_n]) (st' := [gp_i v7, gp_i (gp_I s 6 4), gp_r (some 12)]) (s' := s) 6 rfl ?_
    refine gs_E.ck (pc' := 137) (ls' := [gp_r (some 6), gp_l v1, gp_n, gp_l v3, gp_n, gp_i v5, gp_i v6, gp_i v7, gp_l v8, gp_n]) (st' := []) (s' := gp_wI s 12 (gp_I s 6 4).toNat v7) rfl ⟨rfl, H.1.1, H.1.2⟩ ?_
    replace H := H.2 _ rfl
    generalize gp_wI s 12 (gp_I s 6 4).toNat v7 = s1 at H ⊢
    exact gs_E.ret (r := none) rfl H
  · replace H := H.2 hc
    refine gs_E.stp (pc' := 101) (ls' := [gp_r (some 6), gp_l v1, gp_n, gp_l v3, gp_n, gp_i v5, gp_i v6, gp_i v7, gp_l v8, gp_n]) (st' := [gp_l v8, gp_r (some 12), gp_i 1, gp_i v7]) (s' := s) 6 rfl ?_
    refine gs_E.call (args := [gp_l v8]) (m := 2) (y' := 2859) (st' := [gp_r (some 12), gp_i 1, gp_i v7]) rfl H (fun r s2 H => ?_)
    obtain ⟨x3, rfl, H⟩ := H
    show gs_E L (d + 1) 1026 104 [gp_r (some 6), gp_l v1, gp_n, gp_l v3, gp_n, gp_i v5, gp_i v6, gp_i v7, gp_l v8, gp_n] [gp_i x3, gp_r (some 12), gp_i 1, gp_i v7] s2 K
    refine gs_E.ck (pc' := 105) (ls' := [gp_r (some 6), gp_l v1, gp_n, gp_l v3, gp_n, gp_i v5, gp_i v6, gp_i v7, gp_l v8, gp_n]) (st' := [gp_i (gp_I s2 12 x3.toNat), gp_i 1, gp_i v7]) (s' := s2) rfl (Or.inl ⟨rfl, H.1.1, H.1.2⟩) ?_
    replace H := H.2
    refine gs_E.stp (pc' := 82) (ls' := [gp_r (some 6), gp_l v1, gp_n, gp_l v3, gp_n, gp_i v5, gp_i v6, gp_i (gp_mx v7 (gp_wr (1 + (gp_I s2 12 x3.toNat)))), gp_l (v8 &&& (v8 - (1#64))), gp_n]) (st' := []) (s' := s2) 10 rfl ?_
    exact H

set_option maxRecDepth 100000 in
/-- Pool.settle, pc 0 -/
theorem s_1027_e {L d : Nat} {K : Option gV → gH → Prop} {s : gH}  (H : gs_E L (d + 1) 1027 7 [gp_r (some 6), gp_i 0, gp_i (gp_I s 6 4), gp_n, gp_n, gp_n] [] s K) : gs_C L (d + 1) 1027 6 [gp_r (some 6)] s K := by
  show gs_E L (d + 1) 1027 0 [gp_r (some 6), gp_n, gp_n, gp_n, gp_n, gp_n] [] s K
  refine gs_E.stp (pc' := 7) (ls' := [gp_r (some 6), gp_i 0, gp_i (gp_I s 6 4), gp_n, gp_n, gp_n]) (st' := []) (s' := s) 5 rfl ?_
  exact H

set_option maxRecDepth 100000 in
/-- Pool.settle, pc 7 -/
theorem s_1027_7 {L d : Nat} {K : Option gV → gH → Prop} {s : gH} (v1 : Int) (v2 : Int) (v3 : gV) (v4 : gV) (v5 : gV) (H : ((v1 < v2 → ((0 ≤ (gp_ushr (gp_wr (v1 + v2)) 1) ∧ (gp_ushr (gp_wr (v1 + v2)) 1) < 61) ∧ ((0 ≤ (gp_I s 6 4) ∧ (gp_I s 6 4) < 61) ∧ ((0 ≤ (gp_I s 14 (gp_ushr (gp_wr (v1 + v2)) 1).toNat) ∧ (gp_I s 14 (gp_ushr (gp_wr (v1 + v2)) 1).toNat) < 61) ∧ gs_C L d 3328 2 [gp_i (gp_I s 12 (gp_I s 6 4).toNat), gp_i (gp_I s 12 (gp_I s 14 (gp_ushr (gp_wr (v1 + v2)) 1).toNat).toNat)] s (fun r s1 => ∃ x2, r = some (gp_i x2) ∧ ((x2 = 0 → gs_C L d 1030 13 [gp_r (some 6), gp_i (gp_I s1 6 4), gp_i (gp_I s 14 (gp_ushr (gp_wr (v1 + v2)) 1).toNat), gp_i 0] s1 (fun r s3 => ∃ x4, r = some (gp_i x4) ∧ gs_E L (d + 1) 1027 74 [gp_r (some 6), gp_i v1, gp_i v2, gp_i (gp_ushr (gp_wr (v1 + v2)) 1), gp_i (gp_I s 14 (gp_ushr (gp_wr (v1 + v2)) 1).toNat), gp_i x2] [gp_i x4] s3 K)) ∧ (¬ x2 = 0 → gs_E L (d + 1) 1027 74 [gp_r (some 6), gp_i v1, gp_i v2, gp_i (gp_ushr (gp_wr (v1 + v2)) 1), gp_i (gp_I s 14 (gp_ushr (gp_wr (v1 + v2)) 1).toNat), gp_i x2] [gp_i x2] s1 K))))))) ∧ (¬ v1 < v2 → (((gp_I s 6 4) < 60 → gs_E L (d + 1) 1027 140 [gp_r (some 6), gp_i v1, gp_i v2, gp_i (gp_I s 6 4), v4, v5] [] s K) ∧ (¬ (gp_I s 6 4) < 60 → K (some (gp_i (-1))) s))))) : gs_E L (d + 1) 1027 7 [gp_r (some 6), gp_i v1, gp_i v2, v3, v4, v5] [] s K := by
  refine gs_E.stp (pc' := 9) (ls' := [gp_r (some 6), gp_i v1, gp_i v2, v3, v4, v5]) (st' := [gp_i v2, gp_i v1]) (s' := s) 2 rfl ?_
  refine gs_E.br (c := ¬ v1 < v2) (p1 := 124) (p2 := 12) (l1 := [gp_r (some 6), gp_i v1, gp_i v2, v3, v4, v5]) (l2 := [gp_r (some 6), gp_i v1, gp_i v2, v3, v4, v5]) (s1 := []) (s2 := []) rfl gs_b2 (fun hc => ?_) (fun hc => ?_)
  · replace H := H.2 hc
    refine gs_E.stp (pc' := 130) (ls' := [gp_r (some 6), gp_i v1, gp_i v2, v3, v4, v5]) (st' := [gp_i 60, gp_i (gp_I s 6 4)]) (s' := s) 3 rfl ?_
    refine gs_E.br (c := (gp_I s 6 4) < 60) (p1 := 135) (p2 := 133) (l1 := [gp_r (some 6), gp_i v1, gp_i v2, v3, v4, v5]) (l2 := [gp_r (some 6), gp_i v1, gp_i v2, v3, v4, v5]) (s1 := []) (s2 := []) rfl gs_b1 (fun hc => ?_) (fun hc => ?_)
    · replace H := H.1 hc
      refine gs_E.stp (pc' := 140) (ls' := [gp_r (some 6), gp_i v1, gp_i v2, gp_i (gp_I s 6 4), v4, v5]) (st' := []) (s' := s) 3 rfl ?_
      exact H
    · replace H := H.2 hc
      refine gs_E.stp (pc' := 134) (ls' := [gp_r (some 6), gp_i v1, gp_i v2, v3, v4, v5]) (st' := [gp_i (-1)]) (s' := s) 1 rfl ?_
      exact gs_E.ret (r := (some (gp_i (-1)))) rfl H
  · replace H := H.1 (Decidable.byContradiction hc)
    refine gs_E.stp (pc' := 23) (ls' := [gp_r (some 6), gp_i v1, gp_i v2, gp_i (gp_ushr (gp_wr (v1 + v2)) 1), v4, v5]) (st' := [gp_i (gp_ushr (gp_wr (v1 + v2)) 1), gp_r (some 14)]) (s' := s) 9 rfl ?_
    refine gs_E.ck (pc' := 24) (ls' := [gp_r (some 6), gp_i v1, gp_i v2, gp_i (gp_ushr (gp_wr (v1 + v2)) 1), v4, v5]) (st' := [gp_i (gp_I s 14 (gp_ushr (gp_wr (v1 + v2)) 1).toNat)]) (s' := s) rfl (Or.inl ⟨rfl, H.1.1, H.1.2⟩) ?_
    replace H := H.2
    refine gs_E.stp (pc' := 37) (ls' := [gp_r (some 6), gp_i v1, gp_i v2, gp_i (gp_ushr (gp_wr (v1 + v2)) 1), gp_i (gp_I s 14 (gp_ushr (gp_wr (v1 + v2)) 1).toNat), v5]) (st' := [gp_i (gp_I s 6 4), gp_r (some 12)]) (s' := s) 6 rfl ?_
    refine gs_E.ck (pc' := 38) (ls' := [gp_r (some 6), gp_i v1, gp_i v2, gp_i (gp_ushr (gp_wr (v1 + v2)) 1), gp_i (gp_I s 14 (gp_ushr (gp_wr (v1 + v2)) 1).toNat), v5]) (st' := [gp_i (gp_I s 12 (gp_I s 6 4).toNat)]) (s' := s) rfl (Or.inl ⟨rfl, H.1.1, H.1.2⟩) ?_
    replace H := H.2
    refine gs_E.stp (pc' := 47) (ls' := [gp_r (some 6), gp_i v1, gp_i v2, gp_i (gp_ushr (gp_wr (v1 + v2)) 1), gp_i (gp_I s 14 (gp_ushr (gp_wr (v1 + v2)) 1).toNat), v5]) (st' := [gp_i (gp_I s 14 (gp_ushr (gp_wr (v1 + v2)) 1).toNat), gp_r (some 12), gp_i (gp_I s 12 (gp_I s 6 4).toNat)]) (s' := s) 4 rfl ?_
    refine gs_E.ck (pc' := 48) (ls' := [gp_r (some 6), gp_i v1, gp_i v2, gp_i (gp_ushr (gp_wr (v1 + v2)) 1), gp_i (gp_I s 14 (gp_ushr (gp_wr (v1 + v2)) 1).toNat), v5]) (st' := [gp_i (gp_I s 12 (gp_I s 14 (gp_ushr (gp_wr (v1 + v2)) 1).toNat).toNat), gp_i (gp_I s 12 (gp_I s 6 4).toNat)]) (s' := s) rfl (Or.inl ⟨rfl, H.1.1, H.1.2⟩) ?_
    replace H := H.2
    refine gs_E.call (args := [gp_i (gp_I s 12 (gp_I s 6 4).toNat), gp_i (gp_I s 12 (gp_I s 14 (gp_ushr (gp_wr (v1 + v2)) 1).toNat).toNat)]) (m := 2) (y' := 3328) (st' := []) rfl H (fun r s1 H => ?_)
    obtain ⟨x2, rfl, H⟩ := H
    show gs_E L (d + 1) 1027 51 [gp_r (some 6), gp_i v1, gp_i v2, gp_i (gp_ushr (gp_wr (v1 + v2)) 1), gp_i (gp_I s 14 (gp_ushr (gp_wr (v1 + v2)) 1).toNat), v5] [gp_i x2] s1 K
    refine gs_E.stp (pc' := 55) (ls' := [gp_r (some 6), gp_i v1, gp_i v2, gp_i (gp_ushr (gp_wr (v1 + v2)) 1), gp_i (gp_I s 14 (gp_ushr (gp_wr (v1 + v2)) 1).toNat), gp_i x2]) (st' := [gp_i x2]) (s' := s1) 2 rfl ?_
    refine gs_E.br (c := x2 = 0) (p1 := 63) (p2 := 58) (l1 := [gp_r (some 6), gp_i v1, gp_i v2, gp_i (gp_ushr (gp_wr (v1 + v2)) 1), gp_i (gp_I s 14 (gp_ushr (gp_wr (v1 + v2)) 1).toNat), gp_i x2]) (l2 := [gp_r (some 6), gp_i v1, gp_i v2, gp_i (gp_ushr (gp_wr (v1 + v2)) 1), gp_i (gp_I s 14 (gp_ushr (gp_wr (v1 + v2)) 1).toNat), gp_i x2]) (s1 := []) (s2 := []) rfl gs_b1 (fun hc => ?_) (fun hc => ?_)
    · replace H := H.1 hc
      refine gs_E.stp (pc' := 71) (ls' := [gp_r (some 6), gp_i v1, gp_i v2, gp_i (gp_ushr (gp_wr (v1 + v2)) 1), gp_i (gp_I s 14 (gp_ushr (gp_wr (v1 + v2)) 1).toNat), gp_i x2]) (st' := [gp_i 0, gp_i (gp_I s 14 (gp_ushr (gp_wr (v1 + v2)) 1).toNat), gp_i (gp_I s1 6 4), gp_r (some 6)]) (s' := s1) 5 rfl ?_
      refine gs_E.call (args := [gp_r (some 6), gp_i (gp_I s1 6 4), gp_i (gp_I s 14 (gp_ushr (gp_wr (v1 + v2)) 1).toNat), gp_i 0]) (m := 13) (y' := 1030) (st' := []) rfl H (fun r s3 H => ?_)
      obtain ⟨x4, rfl, H⟩ := H
      show gs_E L (d + 1) 1027 74 [gp_r (some 6), gp_i v1, gp_i v2, gp_i (gp_ushr (gp_wr (v1 + v2)) 1), gp_i (gp_I s 14 (gp_ushr (gp_wr (v1 + v2)) 1).toNat), gp_i x2] [gp_i x4] s3 K
      exact H
    · replace H := H.2 hc
      refine gs_E.stp (pc' := 74) (ls' := [gp_r (some 6), gp_i v1, gp_i v2, gp_i (gp_ushr (gp_wr (v1 + v2)) 1), gp_i (gp_I s 14 (gp_ushr (gp_wr (v1 + v2)) 1).toNat), gp_i x2]) (st' := [gp_i x2]) (s' := s1) 2 rfl ?_
      exact H

set_option maxRecDepth 100000 in
/-- Pool.settle, pc 74 -/
theorem s_1027_74 {L d : Nat} {K : Option gV → gH → Prop} {s : gH} (v1 : Int) (v2 : Int) (v3 : Int) (v4 : Int) (v5 : Int) (w0 : Int) (H : ((w0 = 0 → gs_C L d 1030 13 [gp_r (some 6), gp_i (gp_I s 6 4), gp_i v4, gp_i 1] s (fun r s1 => ∃ x2, r = some (gp_i x2) ∧ gs_E L (d + 1) 1027 97 [gp_r (some 6), gp_i v1, gp_i v2, gp_i v3, gp_i v4, gp_i w0] [gp_i x2] s1 K)) ∧ (¬ w0 = 0 → gs_E L (d + 1) 1027 97 [gp_r (some 6), gp_i v1, gp_i v2, gp_i v3, gp_i v4, gp_i w0] [gp_i w0] s K))) : gs_E L (d + 1) 1027 74 [gp_r (some 6), gp_i v1, gp_i v2, gp_i v3, gp_i v4, gp_i v5] [gp_i w0] s K := by
  refine gs_E.stp (pc' := 78) (ls' := [gp_r (some 6), gp_i v1, gp_i v2, gp_i v3, gp_i v4, gp_i w0]) (st' := [gp_i w0]) (s' := s) 2 rfl ?_
  refine gs_E.br (c := w0 = 0) (p1 := 86) (p2 := 81) (l1 := [gp_r (some 6), gp_i v1, gp_i v2, gp_i v3, gp_i v4, gp_i w0]) (l2 := [gp_r (some 6), gp_i v1, gp_i v2, gp_i v3, gp_i v4, gp_i w0]) (s1 := []) (s2 := []) rfl gs_b1 (fun hc => ?_) (fun hc => ?_)
  · replace H := H.1 hc
    refine gs_E.stp (pc' := 94) (ls' := [gp_r (some 6), gp_i v1, gp_i v2, gp_i v3, gp_i v4, gp_i w0]) (st' := [gp_i 1, gp_i v4, gp_i (gp_I s 6 4), gp_r (some 6)]) (s' := s) 5 rfl ?_
    refine gs_E.call (args := [gp_r (some 6), gp_i (gp_I s 6 4), gp_i v4, gp_i 1]) (m := 13) (y' := 1030) (st' := []) rfl H (fun r s1 H => ?_)
    obtain ⟨x2, rfl, H⟩ := H
    show gs_E L (d + 1) 1027 97 [gp_r (some 6), gp_i v1, gp_i v2, gp_i v3, gp_i v4, gp_i w0] [gp_i x2] s1 K
    exact H
  · replace H := H.2 hc
    refine gs_E.stp (pc' := 97) (ls' := [gp_r (some 6), gp_i v1, gp_i v2, gp_i v3, gp_i v4, gp_i w0]) (st' := [gp_i w0]) (s' := s) 2 rfl ?_
    exact H

set_option maxRecDepth 100000 in
/-- Pool.settle, pc 97 -/
theorem s_1027_97 {L d : Nat} {K : Option gV → gH → Prop} {s : gH} (v1 : Int) (v2 : Int) (v3 : Int) (v4 : Int) (v5 : Int) (w0 : Int) (H : ((w0 = 0 → K (some (gp_i v4)) s) ∧ (¬ w0 = 0 → ((w0 < 0 → gs_E L (d + 1) 1027 121 [gp_r (some 6), gp_i v1, gp_i v3, gp_i v3, gp_i v4, gp_i w0] [] s K) ∧ (¬ w0 < 0 → gs_E L (d + 1) 1027 121 [gp_r (some 6), gp_i (gp_wr (v3 + 1)), gp_i v2, gp_i v3, gp_i v4, gp_i w0] [] s K))))) : gs_E L (d + 1) 1027 97 [gp_r (some 6), gp_i v1, gp_i v2, gp_i v3, gp_i v4, gp_i v5] [gp_i w0] s K := by
  refine gs_E.stp (pc' := 101) (ls' := [gp_r (some 6), gp_i v1, gp_i v2, gp_i v3, gp_i v4, gp_i w0]) (st' := [gp_i w0]) (s' := s) 2 rfl ?_
  refine gs_E.br (c := ¬ w0 = 0) (p1 := 107) (p2 := 104) (l1 := [gp_r (some 6), gp_i v1, gp_i v2, gp_i v3, gp_i v4, gp_i w0]) (l2 := [gp_r (some 6), gp_i v1, gp_i v2, gp_i v3, gp_i v4, gp_i w0]) (s1 := []) (s2 := []) rfl gs_b2 (fun hc => ?_) (fun hc => ?_)
  · replace H := H.2 hc
    refine gs_E.stp (pc' := 109) (ls' := [gp_r (some 6), gp_i v1, gp_i v2, gp_i v3, gp_i v4, gp_i w0]) (st' := [gp_i w0]) (s' := s) 1 rfl ?_
    refine gs_E.br (c := ¬ w0 < 0) (p1 := 117) (p2 := 112) (l1 := [gp_r (some 6), gp_i v1, gp_i v2, gp_i v3, gp_i v4, gp_i w0]) (l2 := [gp_r (some 6), gp_i v1, gp_i v2, gp_i v3, gp_i v4, gp_i w0]) (s1 := []) (s2 := []) rfl gs_b2 (fun hc => ?_) (fun hc => ?_)
    · replace H := H.2 hc
      refine gs_E.stp (pc' := 121) (ls' := [gp_r (some 6), gp_i (gp_wr (v3 + 1)), gp_i v2, gp_i v3, gp_i v4, gp_i w0]) (st' := []) (s' := s) 4 rfl ?_
      exact H
    · replace H := H.1 (Decidable.byContradiction hc)
      refine gs_E.stp (pc' := 121) (ls' := [gp_r (some 6), gp_i v1, gp_i v3, gp_i v3, gp_i v4, gp_i w0]) (st' := []) (s' := s) 3 rfl ?_
      exact H
  · replace H := H.1 (Decidable.byContradiction hc)
    refine gs_E.stp (pc' := 106) (ls' := [gp_r (some 6), gp_i v1, gp_i v2, gp_i v3, gp_i v4, gp_i w0]) (st' := [gp_i v4]) (s' := s) 1 rfl ?_
    exact gs_E.ret (r := (some (gp_i v4))) rfl H

set_option maxRecDepth 100000 in
/-- Pool.settle, pc 121 -/
theorem s_1027_121 {L d : Nat} {K : Option gV → gH → Prop} {s : gH} (v1 : Int) (v2 : Int) (v3 : Int) (v4 : Int) (v5 : Int) (H : gs_E L (d + 1) 1027 7 [gp_r (some 6), gp_i v1, gp_i v2, gp_i v3, gp_i v4, gp_i v5] [] s K) : gs_E L (d + 1) 1027 121 [gp_r (some 6), gp_i v1, gp_i v2, gp_i v3, gp_i v4, gp_i v5] [] s K := by
  refine gs_E.stp (pc' := 7) (ls' := [gp_r (some 6), gp_i v1, gp_i v2, gp_i v3, gp_i v4, gp_i v5]) (st' := []) (s' := s) 1 rfl ?_
  exact H

set_option maxRecDepth 100000 in
/-- Pool.settle, pc 140 -/
theorem s_1027_140 {L d : Nat} {K : Option gV → gH → Prop} {s : gH} (v1 : Int) (v2 : Int) (v3 : Int) (v4 : gV) (v5 : gV) (H : ((v1 < v3 → ((0 ≤ (gp_wr (v3 - 1)) ∧ (gp_wr (v3 - 1)) < 61) ∧ ((0 ≤ v3 ∧ v3 < 61) ∧ (∀ s4, s4 = gp_wI s 14 v3.toNat (gp_I s 14 (gp_wr (v3 - 1)).toNat) → ((0 ≤ v3 ∧ v3 < 61) ∧ ((0 ≤ (gp_I s4 14 v3.toNat) ∧ (gp_I s4 14 v3.toNat) < 61) ∧ (∀ s5, s5 = gp_wI s4 13 (gp_I s4 14 v3.toNat).toNat v3 → gs_E L (d + 1) 1027 140 [gp_r (some 6), gp_i v1, gp_i v2, gp_i (gp_wr (v3 + (-1))), v4, v5] [] s5 K))))))) ∧ (¬ v1 < v3 → ((0 ≤ v1 ∧ v1 < 61) ∧ (∀ s1, s1 = gp_wI s 14 v1.toNat (gp_I s 6 4) → ((0 ≤ (gp_I s1 6 4) ∧ (gp_I s1 6 4) < 61) ∧ (∀ s2, s2 = gp_wI s1 13 (gp_I s1 6 4).toNat v1 → (∀ s3, s3 = gp_wI s2 6 4 (gp_wr ((gp_I s2 6 4) + 1)) → K (some (gp_i (gp_wr ((gp_I s3 6 4) - 1)))) s3)))))))) : gs_E L (d + 1) 1027 140 [gp_r (some 6), gp_i v1, gp_i v2, gp_i v3, v4, v5] [] s K := by
  refine gs_E.stp (pc' := 142) (ls' := [gp_r (some 6), gp_i v1, gp_i v2, gp_i v3, v4, v5]) (st' := [gp_i v1, gp_i v3]) (s' := s) 2 rfl ?_
  refine gs_E.br (c := ¬ v1 < v3) (p1 := 177) (p2 := 145) (l1 := [gp_r (some 6), gp_i v1, gp_i v2, gp_i v3, v4, v5]) (l2 := [gp_r (some 6), gp_i v1, gp_i v2, gp_i v3, v4, v5]) (s1 := []) (s2 := []) rfl gs_b2 (fun hc => ?_) (fun hc => ?_)
  · replace H := H.2 hc
    refine gs_E.stp (pc' := 186) (ls' := [gp_r (some 6), gp_i v1, gp_i v2, gp_i v3, v4, v5]) (st' := [gp_i (gp_I s 6 4), gp_i v1, gp_r (some 14)]) (s' := s) 5 rfl ?_
    refine gs_E.ck (pc' := 187) (ls' := [gp_r (some 6), gp_i v1, gp_i v2, gp_i v3, v4, v5]) (st' := []) (s' := gp_wI s 14 v1.toNat (gp_I s 6 4)) rfl ⟨rfl, H.1.1, H.1.2⟩ ?_
    replace H := H.2 _ rfl
    generalize gp_wI s 14 v1.toNat (gp_I s 6 4) = s1 at H ⊢
    refine gs_E.stp (pc' := 196) (ls' := [gp_r (some 6), gp_i v1, gp_i v2, gp_i v3, v4, v5]) (st' := [gp_i v1, gp_i (gp_I s1 6 4), gp_r (some 13)]) (s' := s1) 5 rfl ?_
    refine gs_E.ck (pc' := 197) (ls' := [gp_r (some 6), gp_i v1, gp_i v2, gp_i v3, v4, v5]) (st' := []) (s' := gp_wI s1 13 (gp_I s1 6 4).toNat v1) rfl ⟨rfl, H.1.1, H.1.2⟩ ?_
    replace H := H.2 _ rfl
    generalize gp_wI s1 13 (gp_I s1 6 4).toNat v1 = s2 at H ⊢
    refine gs_E.stp (pc' := 207) (ls' := [gp_r (some 6), gp_i v1, gp_i v2, gp_i v3, v4, v5]) (st' := []) (s' := gp_wI s2 6 4 (gp_wr ((gp_I s2 6 4) + 1))) 6 rfl ?_
    replace H := H _ rfl
    generalize gp_wI s2 6 4 (gp_wr ((gp_I s2 6 4) + 1)) = s3 at H ⊢
    refine gs_E.stp (pc' := 213) (ls' := [gp_r (some 6), gp_i v1, gp_i v2, gp_i v3, v4, v5]) (st' := [gp_i (gp_wr ((gp_I s3 6 4) - 1))]) (s' := s3) 4 rfl ?_
    exact gs_E.ret (r := (some (gp_i (gp_wr ((gp_I s3 6 4) - 1))))) rfl H
  · replace H := H.1 (Decidable.byContradiction hc)
    refine gs_E.stp (pc' := 157) (ls' := [gp_r (some 6), gp_i v1, gp_i v2, gp_i v3, v4, v5]) (st' := [gp_i (gp_wr (v3 - 1)), gp_r (some 14), gp_i v3, gp_r (some 14)]) (s' := s) 8 rfl ?_
    refine gs_E.ck (pc' := 158) (ls' := [gp_r (some 6), gp_i v1, gp_i v2, gp_i v3, v4, v5]) (st' := [gp_i (gp_I s 14 (gp_wr (v3 - 1)).toNat), gp_i v3, gp_r (some 14)]) (s' := s) rfl (Or.inl ⟨rfl, H.1.1, H.1.2⟩) ?_
    replace H := H.2
    refine gs_E.ck (pc' := 159) (ls' := [gp_r (some 6), gp_i v1, gp_i v2, gp_i v3, v4, v5]) (st' := []) (s' := gp_wI s 14 v3.toNat (gp_I s 14 (gp_wr (v3 - 1)).toNat)) rfl ⟨rfl, H.1.1, H.1.2⟩ ?_
    replace H := H.2 _ rfl
    generalize gp_wI s 14 v3.toNat (gp_I s 14 (gp_wr (v3 - 1)).toNat) = s4 at H ⊢
    refine gs_E.stp (pc' := 168) (ls' := [gp_r (some 6), gp_i v1, gp_i v2, gp_i v3, v4, v5]) (st' := [gp_i v3, gp_r (some 14), gp_r (some 13)]) (s' := s4) 5 rfl ?_
    refine gs_E.ck (pc' := 169) (ls' := [gp_r (some 6), gp_i v1, gp_i v2, gp_i v3, v4, v5]) (st' := [gp_i (gp_I s4 14 v3.toNat), gp_r (some 13)]) (s' := s4) rfl (Or.inl ⟨rfl, H.1.1, H.1.2⟩) ?_
    replace H := H.2
    refine gs_E.stp (pc' := 170) (ls' := [gp_r (some 6), gp_i v1, gp_i v2, gp_i v3, v4, v5]) (st' := [gp_i v3, gp_i (gp_I s4 14 v3.toNat), gp_r (some 13)]) (s' := s4) 1 rfl ?_
    refine gs_E.ck (pc' := 171) (ls' := [gp_r (some 6), gp_i v1, gp_i v2, gp_i v3, v4, v5]) (st' := []) (s' := gp_wI s4 13 (gp_I s4 14 v3.toNat).toNat v3) rfl ⟨rfl, H.1.1, H.1.2⟩ ?_
    replace H := H.2 _ rfl
    generalize gp_wI s4 13 (gp_I s4 14 v3.toNat).toNat v3 = s5 at H ⊢
    refine gs_E.stp (pc' := 140) (ls' := [gp_r (some 6), gp_i v1, gp_i v2, gp_i (gp_wr (v3 + (-1))), v4, v5]) (st' := []) (s' := s5) 2 rfl ?_
    exact H

set_option maxRecDepth 100000 in
/-- Pool.add, pc 0 -/
theorem s_1028_e {L d : Nat} {K : Option gV → gH → Prop} {s : gH} (p0 : BitVec 64) (p1 : BitVec 64) (p2 : Int) (p3 : Int) (H : gs_C L d 1026 10 [gp_r (some 6), gp_l p0, gp_l p1, gp_i p2, gp_i p3] s (fun r s1 => r = none ∧ gs_C L d 1027 6 [gp_r (some 6)] s1 (fun r s2 => ∃ x3, r = some (gp_i x3) ∧ K (some (gp_i x3)) s2))) : gs_C L (d + 1) 1028 7 [gp_r (some 6), gp_l p0, gp_l p1, gp_i p2, gp_i p3] s K := by
  show gs_E L (d + 1) 1028 0 [gp_r (some 6), gp_l p0, gp_n, gp_l p1, gp_n, gp_i p2, gp_i p3] [] s K
  refine gs_E.stp (pc' := 7) (ls' := [gp_r (some 6), gp_l p0, gp_n, gp_l p1, gp_n, gp_i p2, gp_i p3]) (st' := [gp_i p3, gp_i p2, gp_l p1, gp_l p0, gp_r (some 6)]) (s' := s) 5 rfl ?_
  refine gs_E.call (args := [gp_r (some 6), gp_l p0, gp_l p1, gp_i p2, gp_i p3]) (m := 10) (y' := 1026) (st' := []) rfl H (fun r s1 H => ?_)
  obtain ⟨rfl, H⟩ := H
  show gs_E L (d + 1) 1028 10 [gp_r (some 6), gp_l p0, gp_n, gp_l p1, gp_n, gp_i p2, gp_i p3] [] s1 K
  refine gs_E.stp (pc' := 11) (ls' := [gp_r (some 6), gp_l p0, gp_n, gp_l p1, gp_n, gp_i p2, gp_i p3]) (st' := [gp_r (some 6)]) (s' := s1) 1 rfl ?_
  refine gs_E.call (args := [gp_r (some 6)]) (m := 6) (y' := 1027) (st' := []) rfl H (fun r s2 H => ?_)
  obtain ⟨x3, rfl, H⟩ := H
  show gs_E L (d + 1) 1028 14 [gp_r (some 6), gp_l p0, gp_n, gp_l p1, gp_n, gp_i p2, gp_i p3] [gp_i x3] s2 K
  exact gs_E.ret (r := (some (gp_i x3))) rfl H

set_option maxRecDepth 100000 in
/-- Pool.first, pc 0 -/
theorem s_1029_e {L d : Nat} {K : Option gV → gH → Prop} {s : gH} (p0 : BitVec 64) (H : gs_C L d 2859 2 [gp_l p0] s (fun r s1 => ∃ x2, r = some (gp_i x2) ∧ gs_E L (d + 1) 1029 12 [gp_r (some 6), gp_l p0, gp_n, gp_i x2, gp_l (p0 &&& (p0 - (1#64))), gp_n, gp_n] [] s1 K)) : gs_C L (d + 1) 1029 7 [gp_r (some 6), gp_l p0] s K := by
  show gs_E L (d + 1) 1029 0 [gp_r (some 6), gp_l p0, gp_n, gp_n, gp_n, gp_n, gp_n] [] s K
  refine gs_E.stp (pc' := 1) (ls' := [gp_r (some 6), gp_l p0, gp_n, gp_n, gp_n, gp_n, gp_n]) (st' := [gp_l p0]) (s' := s) 1 rfl ?_
  refine gs_E.call (args := [gp_l p0]) (m := 2) (y' := 2859) (st' := []) rfl H (fun r s1 H => ?_)
  obtain ⟨x2, rfl, H⟩ := H
  show gs_E L (d + 1) 1029 4 [gp_r (some 6), gp_l p0, gp_n, gp_n, gp_n, gp_n, gp_n] [gp_i x2] s1 K
  refine gs_E.stp (pc' := 12) (ls' := [gp_r (some 6), gp_l p0, gp_n, gp_i x2, gp_l (p0 &&& (p0 - (1#64))), gp_n, gp_n]) (st' := []) (s' := s1) 7 rfl ?_
  exact H

set_option maxRecDepth 100000 in
/-- Pool.first, pc 12 -/
theorem s_1029_12 {L d : Nat} {K : Option gV → gH → Prop} {s : gH} (v1 : BitVec 64) (v3 : Int) (v4 : BitVec 64) (v6 : gV) (H : (((gp_cmp v4 (0#64)) = 0 → K (some (gp_i v3)) s) ∧ (¬ (gp_cmp v4 (0#64)) = 0 → gs_C L d 2859 2 [gp_l v4] s (fun r s1 => ∃ x2, r = some (gp_i x2) ∧ ((0 ≤ x2 ∧ x2 < 61) ∧ ((0 ≤ v3 ∧ v3 < 61) ∧ (((gp_I s1 13 x2.toNat) < (gp_I s1 13 v3.toNat) → gs_E L (d + 1) 1029 45 [gp_r (some 6), gp_l v1, gp_n, gp_i x2, gp_l v4, gp_n, gp_i x2] [] s1 K) ∧ (¬ (gp_I s1 13 x2.toNat) < (gp_I s1 13 v3.toNat) → gs_E L (d + 1) 1029 45 [gp_r (some 6), gp_l v1, gp_n, gp_i v3, gp_l v4, gp_n, gp_i x2] [] s1 K)))))))) : gs_E L (d + 1) 1029 12 [gp_r (some 6), gp_l v1, gp_n, gp_i v3, gp_l v4, gp_n, v6] [] s K := by
  refine gs_E.stp (pc' := 16) (ls' := [gp_r (some 6), gp_l v1, gp_n, gp_i v3, gp_l v4, gp_n, v6]) (st' := [gp_i (gp_cmp v4 (0#64))]) (s' := s) 3 rfl ?_
  refine gs_E.br (c := (gp_cmp v4 (0#64)) = 0) (p1 := 57) (p2 := 19) (l1 := [gp_r (some 6), gp_l v1, gp_n, gp_i v3, gp_l v4, gp_n, v6]) (l2 := [gp_r (some 6), gp_l v1, gp_n, gp_i v3, gp_l v4, gp_n, v6]) (s1 := []) (s2 := []) rfl gs_b1 (fun hc => ?_) (fun hc => ?_)
  · replace H := H.1 hc
    refine gs_E.stp (pc' := 58) (ls' := [gp_r (some 6), gp_l v1, gp_n, gp_i v3, gp_l v4, gp_n, v6]) (st' := [gp_i v3]) (s' := s) 1 rfl ?_
    exact gs_E.ret (r := (some (gp_i v3))) rfl H
  · replace H := H.2 hc
    refine gs_E.stp (pc' := 21) (ls' := [gp_r (some 6), gp_l v1, gp_n, gp_i v3, gp_l v4, gp_n, v6]) (st' := [gp_l v4]) (s' := s) 1 rfl ?_
    refine gs_E.call (args := [gp_l v4]) (m := 2) (y' := 2859) (st' := []) rfl H (fun r s1 H => ?_)
    obtain ⟨x2, rfl, H⟩ := H
    show gs_E L (d + 1) 1029 24 [gp_r (some 6), gp_l v1, gp_n, gp_i v3, gp_l v4, gp_n, v6] [gp_i x2] s1 K
    refine gs_E.stp (pc' := 32) (ls' := [gp_r (some 6), gp_l v1, gp_n, gp_i v3, gp_l v4, gp_n, gp_i x2]) (st' := [gp_i x2, gp_r (some 13)]) (s' := s1) 4 rfl ?_
    refine gs_E.ck (pc' := 33) (ls' := [gp_r (some 6), gp_l v1, gp_n, gp_i v3, gp_l v4, gp_n, gp_i x2]) (st' := [gp_i (gp_I s1 13 x2.toNat)]) (s' := s1) rfl (Or.inl ⟨rfl, H.1.1, H.1.2⟩) ?_
    replace H := H.2
    refine gs_E.stp (pc' := 38) (ls' := [gp_r (some 6), gp_l v1, gp_n, gp_i v3, gp_l v4, gp_n, gp_i x2]) (st' := [gp_i v3, gp_r (some 13), gp_i (gp_I s1 13 x2.toNat)]) (s' := s1) 3 rfl ?_
    refine gs_E.ck (pc' := 39) (ls' := [gp_r (some 6), gp_l v1, gp_n, gp_i v3, gp_l v4, gp_n, gp_i x2]) (st' := [gp_i (gp_I s1 13 v3.toNat), gp_i (gp_I s1 13 x2.toNat)]) (s' := s1) rfl (Or.inl ⟨rfl, H.1.1, H.1.2⟩) ?_
    replace H := H.2
    refine gs_E.br (c := ¬ (gp_I s1 13 x2.toNat) < (gp_I s1 13 v3.toNat)) (p1 := 45) (p2 := 42) (l1 := [gp_r (some 6), gp_l v1, gp_n, gp_i v3, gp_l v4, gp_n, gp_i x2]) (l2 := [gp_r (some 6), gp_l v1, gp_n, gp_i v3, gp_l v4, gp_n, gp_i x2]) (s1 := []) (s2 := []) rfl gs_b2 (fun hc => ?_) (fun hc => ?_)
    · replace H := H.2 hc
      exact H
    · replace H := H.1 (Decidable.byContradiction hc)
      refine gs_E.stp (pc' := 45) (ls' := [gp_r (some 6), gp_l v1, gp_n, gp_i x2, gp_l v4, gp_n, gp_i x2]) (st' := []) (s' := s1) 2 rfl ?_
      exact H

set_option maxRecDepth 100000 in
/-- Pool.first, pc 45 -/
theorem s_1029_45 {L d : Nat} {K : Option gV → gH → Prop} {s : gH} (v1 : BitVec 64) (v3 : Int) (v4 : BitVec 64) (v6 : Int) (H : gs_E L (d + 1) 1029 12 [gp_r (some 6), gp_l v1, gp_n, gp_i v3, gp_l (v4 &&& (v4 - (1#64))), gp_n, gp_i v6] [] s K) : gs_E L (d + 1) 1029 45 [gp_r (some 6), gp_l v1, gp_n, gp_i v3, gp_l v4, gp_n, gp_i v6] [] s K := by
  refine gs_E.stp (pc' := 12) (ls' := [gp_r (some 6), gp_l v1, gp_n, gp_i v3, gp_l (v4 &&& (v4 - (1#64))), gp_n, gp_i v6]) (st' := []) (s' := s) 7 rfl ?_
  exact H

set_option maxRecDepth 100000 in
/-- Pool.sideWay, pc 0 -/
theorem s_1030_e {L d : Nat} {K : Option gV → gH → Prop} {s : gH} (p0 : Int) (p1 : Int) (p2 : Int) (H : gs_C L d 2307 3 [gp_r (some 7), gp_i p0, gp_i p2] s (fun r s1 => ∃ m2, r = some (gp_l m2) ∧ gs_C L d 2307 3 [gp_r (some 7), gp_i p1, gp_i p2] s1 (fun r s3 => ∃ m4, r = some (gp_l m4) ∧ (((gp_cmp m2 m4) = 0 → gs_C L d 2308 3 [gp_r (some 7), gp_i p0, gp_i p2] s3 (fun r s11 => ∃ x12, r = some (gp_i x12) ∧ gs_C L d 2308 3 [gp_r (some 7), gp_i p1, gp_i p2] s11 (fun r s13 => ∃ x14, r = some (gp_i x14) ∧ gs_C L d 3328 2 [gp_i x12, gp_i x14] s13 (fun r s15 => ∃ x16, r = some (gp_i x16) ∧ K (some (gp_i x16)) s15)))) ∧ (¬ (gp_cmp m2 m4) = 0 → gs_C L d 3585 2 [gp_l m2] s3 (fun r s5 => ∃ x6, r = some (gp_i x6) ∧ gs_C L d 3585 2 [gp_l m4] s5 (fun r s7 => ∃ x8, r = some (gp_i x8) ∧ gs_C L d 3328 2 [gp_i x6, gp_i x8] s7 (fun r s9 => ∃ x10, r = some (gp_i x10) ∧ ((x10 = 0 → gs_E L (d + 1) 1030 86 [gp_r (some 6), gp_i p0, gp_i p1, gp_i p2, gp_l m2, gp_n, gp_l m4, gp_n, gp_i x10, gp_i 61, gp_l (m2 ^^^ m4), gp_n, gp_n] [] s9 K) ∧ (¬ x10 = 0 → K (some (gp_i x10)) s9)))))))))) : gs_C L (d + 1) 1030 13 [gp_r (some 6), gp_i p0, gp_i p1, gp_i p2] s K := by
  show gs_E L (d + 1) 1030 0 [gp_r (some 6), gp_i p0, gp_i p1, gp_i p2, gp_n, gp_n, gp_n, gp_n, gp_n, gp_n, gp_n, gp_n, gp_n] [] s K
  refine gs_E.stp (pc' := 6) (ls' := [gp_r (some 6), gp_i p0, gp_i p1, gp_i p2, gp_n, gp_n, gp_n, gp_n, gp_n, gp_n, gp_n, gp_n, gp_n]) (st' := [gp_i p2, gp_i p0, gp_r (some 7)]) (s' := s) 4 rfl ?_
  refine gs_E.call (args := [gp_r (some 7), gp_i p0, gp_i p2]) (m := 3) (y' := 2307) (st' := []) rfl H (fun r s1 H => ?_)
  obtain ⟨m2, rfl, H⟩ := H
  show gs_E L (d + 1) 1030 9 [gp_r (some 6), gp_i p0, gp_i p1, gp_i p2, gp_n, gp_n, gp_n, gp_n, gp_n, gp_n, gp_n, gp_n, gp_n] [gp_l m2] s1 K
  refine gs_E.stp (pc' := 17) (ls' := [gp_r (some 6), gp_i p0, gp_i p1, gp_i p2, gp_l m2, gp_n, gp_n, gp_n, gp_n, gp_n, gp_n, gp_n, gp_n]) (st' := [gp_i p2, gp_i p1, gp_r (some 7)]) (s' := s1) 5 rfl ?_
  refine gs_E.call (args := [gp_r (some 7), gp_i p1, gp_i p2]) (m := 3) (y' := 2307) (st' := []) rfl H (fun r s3 H => ?_)
  obtain ⟨m4, rfl, H⟩ := H
  show gs_E L (d + 1) 1030 20 [gp_r (some 6), gp_i p0, gp_i p1, gp_i p2, gp_l m2, gp_n, gp_n, gp_n, gp_n, gp_n, gp_n, gp_n, gp_n] [gp_l m4] s3 K
  refine gs_E.stp (pc' := 27) (ls' := [gp_r (some 6), gp_i p0, gp_i p1, gp_i p2, gp_l m2, gp_n, gp_l m4, gp_n, gp_n, gp_n, gp_n, gp_n, gp_n]) (st' := [gp_i (gp_cmp m2 m4)]) (s' := s3) 4 rfl ?_
  refine gs_E.br (c := ¬ (gp_cmp m2 m4) = 0) (p1 := 52) (p2 := 30) (l1 := [gp_r (some 6), gp_i p0, gp_i p1, gp_i p2, gp_l m2, gp_n, gp_l m4, gp_n, gp_n, gp_n, gp_n, gp_n, gp_n]) (l2 := [gp_r (some 6), gp_i p0, gp_i p1, gp_i p2, gp_l m2, gp_n, gp_l m4, gp_n, gp_n, gp_n, gp_n, gp_n, gp_n]) (s1 := []) (s2 := []) rfl gs_b2 (fun hc => ?_) (fun hc => ?_)
  · replace H := H.2 hc
    refine gs_E.stp (pc' := 54) (ls' := [gp_r (some 6), gp_i p0, gp_i p1, gp_i p2, gp_l m2, gp_n, gp_l m4, gp_n, gp_n, gp_n, gp_n, gp_n, gp_n]) (st' := [gp_l m2]) (s' := s3) 1 rfl ?_
    refine gs_E.call (args := [gp_l m2]) (m := 2) (y' := 3585) (st' := []) rfl H (fun r s5 H => ?_)
    obtain ⟨x6, rfl, H⟩ := H
    show gs_E L (d + 1) 1030 57 [gp_r (some 6), gp_i p0, gp_i p1, gp_i p2, gp_l m2, gp_n, gp_l m4, gp_n, gp_n, gp_n, gp_n, gp_n, gp_n] [gp_i x6] s5 K
    refine gs_E.stp (pc' := 59) (ls' := [gp_r (some 6), gp_i p0, gp_i p1, gp_i p2, gp_l m2, gp_n, gp_l m4, gp_n, gp_n, gp_n, gp_n, gp_n, gp_n]) (st' := [gp_l m4, gp_i x6]) (s' := s5) 1 rfl ?_
    refine gs_E.call (args := [gp_l m4]) (m := 2) (y' := 3585) (st' := [gp_i x6]) rfl H (fun r s7 H => ?_)
    obtain ⟨x8, rfl, H⟩ := H
    show gs_E L (d + 1) 1030 62 [gp_r (some 6), gp_i p0, gp_i p1, gp_i p2, gp_l m2, gp_n, gp_l m4, gp_n, gp_n, gp_n, gp_n, gp_n, gp_n] [gp_i x8, gp_i x6] s7 K
    refine gs_E.call (args := [gp_i x6, gp_i x8]) (m := 2) (y' := 3328) (st' := []) rfl H (fun r s9 H => ?_)
    obtain ⟨x10, rfl, H⟩ := H
    show gs_E L (d + 1) 1030 65 [gp_r (some 6), gp_i p0, gp_i p1, gp_i p2, gp_l m2, gp_n, gp_l m4, gp_n, gp_n, gp_n, gp_n, gp_n, gp_n] [gp_i x10] s9 K
    refine gs_E.stp (pc' := 69) (ls' := [gp_r (some 6), gp_i p0, gp_i p1, gp_i p2, gp_l m2, gp_n, gp_l m4, gp_n, gp_i x10, gp_n, gp_n, gp_n, gp_n]) (st' := [gp_i x10]) (s' := s9) 2 rfl ?_
    refine gs_E.br (c := x10 = 0) (p1 := 75) (p2 := 72) (l1 := [gp_r (some 6), gp_i p0, gp_i p1, gp_i p2, gp_l m2, gp_n, gp_l m4, gp_n, gp_i x10, gp_n, gp_n, gp_n, gp_n]) (l2 := [gp_r (some 6), gp_i p0, gp_i p1, gp_i p2, gp_l m2, gp_n, gp_l m4, gp_n, gp_i x10, gp_n, gp_n, gp_n, gp_n]) (s1 := []) (s2 := []) rfl gs_b1 (fun hc => ?_) (fun hc => ?_)
    · replace H := H.1 hc
      refine gs_E.stp (pc' := 86) (ls' := [gp_r (some 6), gp_i p0, gp_i p1, gp_i p2, gp_l m2, gp_n, gp_l m4, gp_n, gp_i x10, gp_i 61, gp_l (m2 ^^^ m4), gp_n, gp_n]) (st' := []) (s' := s9) 6 rfl ?_
      exact H
    · replace H := H.2 hc
      refine gs_E.stp (pc' := 74) (ls' := [gp_r (some 6), gp_i p0, gp_i p1, gp_i p2, gp_l m2, gp_n, gp_l m4, gp_n, gp_i x10, gp_n, gp_n, gp_n, gp_n]) (st' := [gp_i x10]) (s' := s9) 1 rfl ?_
      exact gs_E.ret (r := (some (gp_i x10))) rfl H
  · replace H := H.1 (Decidable.byContradiction hc)
    refine gs_E.stp (pc' := 36) (ls' := [gp_r (some 6), gp_i p0, gp_i p1, gp_i p2, gp_l m2, gp_n, gp_l m4, gp_n, gp_n, gp_n, gp_n, gp_n, gp_n]) (st' := [gp_i p2, gp_i p0, gp_r (some 7)]) (s' := s3) 4 rfl ?_
    refine gs_E.call (args := [gp_r (some 7), gp_i p0, gp_i p2]) (m := 3) (y' := 2308) (st' := []) rfl H (fun r s11 H => ?_)
    obtain ⟨x12, rfl, H⟩ := H
    show gs_E L (d + 1) 1030 39 [gp_r (some 6), gp_i p0, gp_i p1, gp_i p2, gp_l m2, gp_n, gp_l m4, gp_n, gp_n, gp_n, gp_n, gp_n, gp_n] [gp_i x12] s11 K
    refine gs_E.stp (pc' := 45) (ls' := [gp_r (some 6), gp_i p0, gp_i p1, gp_i p2, gp_l m2, gp_n, gp_l m4, gp_n, gp_n, gp_n, gp_n, gp_n, gp_n]) (st' := [gp_i p2, gp_i p1, gp_r (some 7), gp_i x12]) (s' := s11) 4 rfl ?_
    refine gs_E.call (args := [gp_r (some 7), gp_i p1, gp_i p2]) (m := 3) (y' := 2308) (st' := [gp_i x12]) rfl H (fun r s13 H => ?_)
    obtain ⟨x14, rfl, H⟩ := H
    show gs_E L (d + 1) 1030 48 [gp_r (some 6), gp_i p0, gp_i p1, gp_i p2, gp_l m2, gp_n, gp_l m4, gp_n, gp_n, gp_n, gp_n, gp_n, gp_n] [gp_i x14, gp_i x12] s13 K
    refine gs_E.call (args := [gp_i x12, gp_i x14]) (m := 2) (y' := 3328) (st' := []) rfl H (fun r s15 H => ?_)
    obtain ⟨x16, rfl, H⟩ := H
    show gs_E L (d + 1) 1030 51 [gp_r (some 6), gp_i p0, gp_i p1, gp_i p2, gp_l m2, gp_n, gp_l m4, gp_n, gp_n, gp_n, gp_n, gp_n, gp_n] [gp_i x16] s15 K
    exact gs_E.ret (r := (some (gp_i x16))) rfl H

set_option maxRecDepth 100000 in
/-- Pool.sideWay, pc 86 -/
theorem s_1030_86 {L d : Nat} {K : Option gV → gH → Prop} {s : gH} (v1 : Int) (v2 : Int) (v3 : Int) (v4 : BitVec 64) (v6 : BitVec 64) (v8 : Int) (v9 : Int) (v10 : BitVec 64) (v12 : gV) (H : (((gp_cmp v10 (0#64)) = 0 → K (some (gp_i v8)) s) ∧ (¬ (gp_cmp v10 (0#64)) = 0 → gs_C L d 2859 2 [gp_l v10] s (fun r s1 => ∃ x2, r = some (gp_i x2) ∧ ((0 ≤ x2 ∧ x2 < 61) ∧ (((gp_I s1 13 x2.toNat) < v9 → ((0 ≤ x2 ∧ x2 < 61) ∧ gs_C L d 2862 3 [gp_l v4, gp_i x2] s1 (fun r s3 => ∃ x4, r = some (gp_i x4) ∧ ((x4 = 0 → gs_E L (d + 1) 1030 136 [gp_r (some 6), gp_i v1, gp_i v2, gp_i v3, gp_l v4, gp_n, gp_l v6, gp_n, gp_i v8, gp_i (gp_I s1 13 x2.toNat), gp_l v10, gp_n, gp_i x2] [gp_i 1] s3 K) ∧ (¬ x4 = 0 → gs_E L (d + 1) 1030 136 [gp_r (some 6), gp_i v1, gp_i v2, gp_i v3, gp_l v4, gp_n, gp_l v6, gp_n, gp_i v8, gp_i (gp_I s1 13 x2.toNat), gp_l v10, gp_n, gp_i x2] [gp_i (-1)] s3 K))))) ∧ (¬ (gp_I s1 13 x2.toNat) < v9 → gs_E L (d + 1) 1030 138 [gp_r (some 6), gp_i v1, gp_i v2, gp_i v3, gp_l v4, gp_n, gp_l v6, gp_n, gp_i v8, gp_i v9, gp_l v10, gp_n, gp_i x2] [] s1 K))))))) : gs_E L (d + 1) 1030 86 [gp_r (some 6), gp_i v1, gp_i v2, gp_i v3, gp_l v4, gp_n, gp_l v6, gp_n, gp_i v8, gp_i v9, gp_l v10, gp_n, v12] [] s K := by
  refine gs_E.stp (pc' := 90) (ls' := [gp_r (some 6), gp_i v1, gp_i v2, gp_i v3, gp_l v4, gp_n, gp_l v6, gp_n, gp_i v8, gp_i v9, gp_l v10, gp_n, v12]) (st' := [gp_i (gp_cmp v10 (0#64))]) (s' := s) 3 rfl ?_
  refine gs_E.br (c := (gp_cmp v10 (0#64)) = 0) (p1 := 150) (p2 := 93) (l1 := [gp_r (some 6), gp_i v1, gp_i v2, gp_i v3, gp_l v4, gp_n, gp_l v6, gp_n, gp_i v8, gp_i v9, gp_l v10, gp_n, v12]) (l2 := [gp_r (some 6), gp_i v1, gp_i v2, gp_i v3, gp_l v4, gp_n, gp_l v6, gp_n, gp_i v8, gp_i v9, gp_l v10, gp_n, v12]) (s1 := []) (s2 := []) rfl gs_b1 (fun hc => ?_) (fun hc => ?_)
  · replace H := H.1 hc
    refine gs_E.stp (pc' := 152) (ls' := [gp_r (some 6), gp_i v1, gp_i v2, gp_i v3, gp_l v4, gp_n, gp_l v6, gp_n, gp_i v8, gp_i v9, gp_l v10, gp_n, v12]) (st' := [gp_i v8]) (s' := s) 1 rfl ?_
    exact gs_E.ret (r := (some (gp_i v8))) rfl H
  · replace H := H.2 hc
    refine gs_E.stp (pc' := 95) (ls' := [gp_r (some 6), gp_i v1, gp_i v2, gp_i v3, gp_l v4, gp_n, gp_l v6, gp_n, gp_i v8, gp_i v9, gp_l v10, gp_n, v12]) (st' := [gp_l v10]) (s' := s) 1 rfl ?_
    refine gs_E.call (args := [gp_l v10]) (m := 2) (y' := 2859) (st' := []) rfl H (fun r s1 H => ?_)
    obtain ⟨x2, rfl, H⟩ := H
    show gs_E L (d + 1) 1030 98 [gp_r (some 6), gp_i v1, gp_i v2, gp_i v3, gp_l v4, gp_n, gp_l v6, gp_n, gp_i v8, gp_i v9, gp_l v10, gp_n, v12] [gp_i x2] s1 K
    refine gs_E.stp (pc' := 106) (ls' := [gp_r (some 6), gp_i v1, gp_i v2, gp_i v3, gp_l v4, gp_n, gp_l v6, gp_n, gp_i v8, gp_i v9, gp_l v10, gp_n, gp_i x2]) (st' := [gp_i x2, gp_r (some 13)]) (s' := s1) 4 rfl ?_
    refine gs_E.ck (pc' := 107) (ls' := [gp_r (some 6), gp_i v1, gp_i v2, gp_i v3, gp_l v4, gp_n, gp_l v6, gp_n, gp_i v8, gp_i v9, gp_l v10, gp_n, gp_i x2]) (st' := [gp_i (gp_I s1 13 x2.toNat)]) (s' := s1) rfl (Or.inl ⟨rfl, H.1.1, H.1.2⟩) ?_
    replace H := H.2
    refine gs_E.stp (pc' := 109) (ls' := [gp_r (some 6), gp_i v1, gp_i v2, gp_i v3, gp_l v4, gp_n, gp_l v6, gp_n, gp_i v8, gp_i v9, gp_l v10, gp_n, gp_i x2]) (st' := [gp_i v9, gp_i (gp_I s1 13 x2.toNat)]) (s' := s1) 1 rfl ?_
    refine gs_E.br (c := ¬ (gp_I s1 13 x2.toNat) < v9) (p1 := 138) (p2 := 112) (l1 := [gp_r (some 6), gp_i v1, gp_i v2, gp_i v3, gp_l v4, gp_n, gp_l v6, gp_n, gp_i v8, gp_i v9, gp_l v10, gp_n, gp_i x2]) (l2 := [gp_r (some 6), gp_i v1, gp_i v2, gp_i v3, gp_l v4, gp_n, gp_l v6, gp_n, gp_i v8, gp_i v9, gp_l v10, gp_n, gp_i x2]) (s1 := []) (s2 := []) rfl gs_b2 (fun hc => ?_) (fun hc => ?_)
    · replace H := H.2 hc
      exact H
    · replace H := H.1 (Decidable.byContradiction hc)
      refine gs_E.stp (pc' := 118) (ls' := [gp_r (some 6), gp_i v1, gp_i v2, gp_i v3, gp_l v4, gp_n, gp_l v6, gp_n, gp_i v8, gp_i v9, gp_l v10, gp_n, gp_i x2]) (st' := [gp_i x2, gp_r (some 13)]) (s' := s1) 3 rfl ?_
      refine gs_E.ck (pc' := 119) (ls' := [gp_r (some 6), gp_i v1, gp_i v2, gp_i v3, gp_l v4, gp_n, gp_l v6, gp_n, gp_i v8, gp_i v9, gp_l v10, gp_n, gp_i x2]) (st' := [gp_i (gp_I s1 13 x2.toNat)]) (s' := s1) rfl (Or.inl ⟨rfl, H.1.1, H.1.2⟩) ?_
      replace H := H.2
      refine gs_E.stp (pc' := 125) (ls' := [gp_r (some 6), gp_i v1, gp_i v2, gp_i v3, gp_l v4, gp_n, gp_l v6, gp_n, gp_i v8, gp_i (gp_I s1 13 x2.toNat), gp_l v10, gp_n, gp_i x2]) (st' := [gp_i x2, gp_l v4]) (s' := s1) 3 rfl ?_
      refine gs_E.call (args := [gp_l v4, gp_i x2]) (m := 3) (y' := 2862) (st' := []) rfl H (fun r s3 H => ?_)
      obtain ⟨x4, rfl, H⟩ := H
      show gs_E L (d + 1) 1030 128 [gp_r (some 6), gp_i v1, gp_i v2, gp_i v3, gp_l v4, gp_n, gp_l v6, gp_n, gp_i v8, gp_i (gp_I s1 13 x2.toNat), gp_l v10, gp_n, gp_i x2] [gp_i x4] s3 K
      refine gs_E.br (c := x4 = 0) (p1 := 135) (p2 := 131) (l1 := [gp_r (some 6), gp_i v1, gp_i v2, gp_i v3, gp_l v4, gp_n, gp_l v6, gp_n, gp_i v8, gp_i (gp_I s1 13 x2.toNat), gp_l v10, gp_n, gp_i x2]) (l2 := [gp_r (some 6), gp_i v1, gp_i v2, gp_i v3, gp_l v4, gp_n, gp_l v6, gp_n, gp_i v8, gp_i (gp_I s1 13 x2.toNat), gp_l v10, gp_n, gp_i x2]) (s1 := []) (s2 := []) rfl gs_b1 (fun hc => ?_) (fun hc => ?_)
      · replace H := H.1 hc
        refine gs_E.stp (pc' := 136) (ls' := [gp_r (some 6), gp_i v1, gp_i v2, gp_i v3, gp_l v4, gp_n, gp_l v6, gp_n, gp_i v8, gp_i (gp_I s1 13 x2.toNat), gp_l v10, gp_n, gp_i x2]) (st' := [gp_i 1]) (s' := s3) 1 rfl ?_
        exact H
      · replace H := H.2 hc
        refine gs_E.stp (pc' := 136) (ls' := [gp_r (some 6), gp_i v1, gp_i v2, gp_i v3, gp_l v4, gp_n, gp_l v6, gp_n, gp_i v8, gp_i (gp_I s1 13 x2.toNat), gp_l v10, gp_n, gp_i x2]) (st' := [gp_i (-1)]) (s' := s3) 2 rfl ?_
        exact H

set_option maxRecDepth 100000 in
/-- Pool.sideWay, pc 136 -/
theorem s_1030_136 {L d : Nat} {K : Option gV → gH → Prop} {s : gH} (v1 : Int) (v2 : Int) (v3 : Int) (v4 : BitVec 64) (v6 : BitVec 64) (v8 : Int) (v9 : Int) (v10 : BitVec 64) (v12 : Int) (w0 : Int) (H : gs_E L (d + 1) 1030 138 [gp_r (some 6), gp_i v1, gp_i v2, gp_i v3, gp_l v4, gp_n, gp_l v6, gp_n, gp_i w0, gp_i v9, gp_l v10, gp_n, gp_i v12] [] s K) : gs_E L (d + 1) 1030 136 [gp_r (some 6), gp_i v1, gp_i v2, gp_i v3, gp_l v4, gp_n, gp_l v6, gp_n, gp_i v8, gp_i v9, gp_l v10, gp_n, gp_i v12] [gp_i w0] s K := by
  refine gs_E.stp (pc' := 138) (ls' := [gp_r (some 6), gp_i v1, gp_i v2, gp_i v3, gp_l v4, gp_n, gp_l v6, gp_n, gp_i w0, gp_i v9, gp_l v10, gp_n, gp_i v12]) (st' := []) (s' := s) 1 rfl ?_
  exact H

set_option maxRecDepth 100000 in
/-- Pool.sideWay, pc 138 -/
theorem s_1030_138 {L d : Nat} {K : Option gV → gH → Prop} {s : gH} (v1 : Int) (v2 : Int) (v3 : Int) (v4 : BitVec 64) (v6 : BitVec 64) (v8 : Int) (v9 : Int) (v10 : BitVec 64) (v12 : Int) (H : gs_E L (d + 1) 1030 86 [gp_r (some 6), gp_i v1, gp_i v2, gp_i v3, gp_l v4, gp_n, gp_l v6, gp_n, gp_i v8, gp_i v9, gp_l (v10 &&& (v10 - (1#64))), gp_n, gp_i v12] [] s K) : gs_E L (d + 1) 1030 138 [gp_r (some 6), gp_i v1, gp_i v2, gp_i v3, gp_l v4, gp_n, gp_l v6, gp_n, gp_i v8, gp_i v9, gp_l v10, gp_n, gp_i v12] [] s K := by
  refine gs_E.stp (pc' := 86) (ls' := [gp_r (some 6), gp_i v1, gp_i v2, gp_i v3, gp_l v4, gp_n, gp_l v6, gp_n, gp_i v8, gp_i v9, gp_l (v10 &&& (v10 - (1#64))), gp_n, gp_i v12]) (st' := []) (s' := s) 7 rfl ?_
  exact H

set_option maxRecDepth 100000 in
/-- Pool.take, pc 0 -/
theorem s_1031_e {L d : Nat} {K : Option gV → gH → Prop} {s : gH} (p0 : Option Nat) (p1 : Int) (H : (∃ q1, p0 = some q1 ∧ ((gp_sh (gp_mk L s) q1).1 = 9 ∧ gs_C L d 2309 5 [gp_r (some q1), gp_i p1] s (fun r s2 => ∃ m3, r = some (gp_l m3) ∧ gs_E L (d + 1) 1031 9 [gp_r (some 6), gp_r (some q1), gp_i p1, gp_l m3, gp_n, gp_i 0] [] s2 K)))) : gs_C L (d + 1) 1031 6 [gp_r (some 6), gp_r p0, gp_i p1] s K := by
  show gs_E L (d + 1) 1031 0 [gp_r (some 6), gp_r p0, gp_i p1, gp_n, gp_n, gp_n] [] s K
  refine gs_E.stp (pc' := 2) (ls' := [gp_r (some 6), gp_r p0, gp_i p1, gp_n, gp_n, gp_n]) (st' := [gp_i p1, gp_r p0]) (s' := s) 2 rfl ?_
  obtain ⟨q1, hq, H⟩ := H
  rw [hq]
  refine gs_E.callV (args := [gp_r (some q1), gp_i p1]) (m := 5) (y' := 2309) (st' := []) rfl H.1 H.2 (fun r s2 H => ?_)
  obtain ⟨m3, rfl, H⟩ := H
  show gs_E L (d + 1) 1031 5 [gp_r (some 6), gp_r (some q1), gp_i p1, gp_n, gp_n, gp_n] [gp_l m3] s2 K
  refine gs_E.stp (pc' := 9) (ls' := [gp_r (some 6), gp_r (some q1), gp_i p1, gp_l m3, gp_n, gp_i 0]) (st' := []) (s' := s2) 3 rfl ?_
  exact H

set_option maxRecDepth 100000 in
/-- Pool.take, pc 9 -/
theorem s_1031_9 {L d : Nat} {K : Option gV → gH → Prop} {s : gH} (v1 : Option Nat) (v2 : Int) (v3 : BitVec 64) (v5 : Int) (H : ((v2 < v5 → ((0 ≤ v2 ∧ v2 < 61) ∧ K (some (gp_i (gp_I s 15 v2.toNat))) s)) ∧ (¬ v2 < v5 → gs_C L d 2862 3 [gp_l v3, gp_i v5] s (fun r s1 => ∃ x2, r = some (gp_i x2) ∧ ((x2 = 0 → gs_E L (d + 1) 1031 93 [gp_r (some 6), gp_r v1, gp_i v2, gp_l v3, gp_n, gp_i v5] [] s1 K) ∧ (¬ x2 = 0 → (∃ q3, v1 = some q3 ∧ ((gp_sh (gp_mk L s1) q3).1 = 9 ∧ (∃ q4, gp_R (gp_mk L s1) q3 1 = some q4 ∧ (gp_in (gp_mk L s1) 101 q4 v5 ∧ gs_C L d 2863 7 [gp_l (gp_L s1 q4 v5.toNat), gp_r (some 15)] s1 (fun r s5 => ∃ m6, r = some (gp_l m6) ∧ ((gp_sh (gp_mk L s5) q3).1 = 9 ∧ (∃ q7, gp_R (gp_mk L s5) q3 2 = some q7 ∧ (gp_in (gp_mk L s5) 101 q7 v5 ∧ gs_C L d 2863 7 [gp_l (gp_L s5 q7 v5.toNat), gp_r (some 15)] s5 (fun r s8 => ∃ m9, r = some (gp_l m9) ∧ ((gp_sh (gp_mk L s8) q3).1 = 9 ∧ (∃ q10, gp_R (gp_mk L s8) q3 3 = some q10 ∧ (gp_in (gp_mk L s8) 100 q10 v5 ∧ ((gp_sh (gp_mk L s8) q3).1 = 9 ∧ (∃ q11, gp_R (gp_mk L s8) q3 4 = some q11 ∧ (gp_in (gp_mk L s8) 100 q11 v5 ∧ gs_C L d 1026 10 [gp_r (some 6), gp_l m6, gp_l m9, gp_i (gp_I s8 q10 v5.toNat), gp_i (gp_I s8 q11 v5.toNat)] s8 (fun r s12 => r = none ∧ gs_C L d 1027 6 [gp_r (some 6)] s12 (fun r s13 => ∃ x14, r = some (gp_i x14) ∧ ((0 ≤ v5 ∧ v5 < 61) ∧ (∀ s15, s15 = gp_wI s13 15 v5.toNat x14 → ((0 ≤ v5 ∧ v5 < 61) ∧ (((gp_I s15 15 v5.toNat) < 0 → K (some (gp_i (-1))) s15) ∧ (¬ (gp_I s15 15 v5.toNat) < 0 → gs_E L (d + 1) 1031 93 [gp_r (some 6), gp_r (some q3), gp_i v2, gp_l v3, gp_n, gp_i v5] [] s15 K)))))))))))))))))))))))))))) : gs_E L (d + 1) 1031 9 [gp_r (some 6), gp_r v1, gp_i v2, gp_l v3, gp_n, gp_i v5] [] s K := by
  refine gs_E.stp (pc' := 12) (ls' := [gp_r (some 6), gp_r v1, gp_i v2, gp_l v3, gp_n, gp_i v5]) (st' := [gp_i v2, gp_i v5]) (s' := s) 2 rfl ?_
  refine gs_E.br (c := v2 < v5) (p1 := 99) (p2 := 15) (l1 := [gp_r (some 6), gp_r v1, gp_i v2, gp_l v3, gp_n, gp_i v5]) (l2 := [gp_r (some 6), gp_r v1, gp_i v2, gp_l v3, gp_n, gp_i v5]) (s1 := []) (s2 := []) rfl gs_b1 (fun hc => ?_) (fun hc => ?_)
  · replace H := H.1 hc
    refine gs_E.stp (pc' := 104) (ls' := [gp_r (some 6), gp_r v1, gp_i v2, gp_l v3, gp_n, gp_i v5]) (st' := [gp_i v2, gp_r (some 15)]) (s' := s) 3 rfl ?_
    refine gs_E.ck (pc' := 105) (ls' := [gp_r (some 6), gp_r v1, gp_i v2, gp_l v3, gp_n, gp_i v5]) (st' := [gp_i (gp_I s 15 v2.toNat)]) (s' := s) rfl (Or.inl ⟨rfl, H.1.1, H.1.2⟩) ?_
    replace H := H.2
    exact gs_E.ret (r := (some (gp_i (gp_I s 15 v2.toNat)))) rfl H
  · replace H := H.2 hc
    refine gs_E.stp (pc' := 18) (ls' := [gp_r (some 6), gp_r v1, gp_i v2, gp_l v3, gp_n, gp_i v5]) (st' := [gp_i v5, gp_l v3]) (s' := s) 2 rfl ?_
    refine gs_E.call (args := [gp_l v3, gp_i v5]) (m := 3) (y' := 2862) (st' := []) rfl H (fun r s1 H => ?_)
    obtain ⟨x2, rfl, H⟩ := H
    show gs_E L (d + 1) 1031 21 [gp_r (some 6), gp_r v1, gp_i v2, gp_l v3, gp_n, gp_i v5] [gp_i x2] s1 K
    refine gs_E.br (c := x2 = 0) (p1 := 93) (p2 := 24) (l1 := [gp_r (some 6), gp_r v1, gp_i v2, gp_l v3, gp_n, gp_i v5]) (l2 := [gp_r (some 6), gp_r v1, gp_i v2, gp_l v3, gp_n, gp_i v5]) (s1 := []) (s2 := []) rfl gs_b1 (fun hc => ?_) (fun hc => ?_)
    · replace H := H.1 hc
      exact H
    · replace H := H.2 hc
      refine gs_E.stp (pc' := 26) (ls' := [gp_r (some 6), gp_r v1, gp_i v2, gp_l v3, gp_n, gp_i v5]) (st' := [gp_r v1, gp_r (some 6)]) (s' := s1) 2 rfl ?_
      obtain ⟨q3, hq, H⟩ := H
      rw [hq]
      refine gs_E.ck (pc' := 29) (ls' := [gp_r (some 6), gp_r (some q3), gp_i v2, gp_l v3, gp_n, gp_i v5]) (st' := [gp_r (gp_R (gp_mk L s1) q3 1), gp_r (some 6)]) (s' := s1) rfl H.1 ?_
      replace H := H.2
      refine gs_E.stp (pc' := 31) (ls' := [gp_r (some 6), gp_r (some q3), gp_i v2, gp_l v3, gp_n, gp_i v5]) (st' := [gp_i v5, gp_r (gp_R (gp_mk L s1) q3 1), gp_r (some 6)]) (s' := s1) 1 rfl ?_
      obtain ⟨q4, hq, H⟩ := H
      rw [hq]
      refine gs_E.ck (pc' := 32) (ls' := [gp_r (some 6), gp_r (some q3), gp_i v2, gp_l v3, gp_n, gp_i v5]) (st' := [gp_l (gp_L s1 q4 v5.toNat), gp_r (some 6)]) (s' := s1) rfl H.1 ?_
      replace H := H.2
      refine gs_E.stp (pc' := 36) (ls' := [gp_r (some 6), gp_r (some q3), gp_i v2, gp_l v3, gp_n, gp_i v5]) (st' := [gp_r (some 15), gp_l (gp_L s1 q4 v5.toNat), gp_r (some 6)]) (s' := s1) 2 rfl ?_
      refine gs_E.call (args := [gp_l (gp_L s1 q4 v5.toNat), gp_r (some 15)]) (m := 7) (y' := 2863) (st' := [gp_r (some 6)]) rfl H (fun r s5 H => ?_)
      obtain ⟨m6, rfl, H⟩ := H
      show gs_E L (d + 1) 1031 39 [gp_r (some 6), gp_r (some q3), gp_i v2, gp_l v3, gp_n, gp_i v5] [gp_l m6, gp_r (some 6)] s5 K
      refine gs_E.stp (pc' := 40) (ls' := [gp_r (some 6), gp_r (some q3), gp_i v2, gp_l v3, gp_n, gp_i v5]) (st' := [gp_r (some q3), gp_l m6, gp_r (some 6)]) (s' := s5) 1 rfl ?_
      refine gs_E.ck (pc' := 43) (ls' := [gp_r (some 6), gp_r (some q3), gp_i v2, gp_l v3, gp_n, gp_i v5]) (st' := [gp_r (gp_R (gp_mk L s5) q3 2), gp_l m6, gp_r (some 6)]) (s' := s5) rfl H.1 ?_
      replace H := H.2
      refine gs_E.stp (pc' := 45) (ls' := [gp_r (some 6), gp_r (some q3), gp_i v2, gp_l v3, gp_n, gp_i v5]) (st' := [gp_i v5, gp_r (gp_R (gp_mk L s5) q3 2), gp_l m6, gp_r (some 6)]) (s' := s5) 1 rfl ?_
      obtain ⟨q7, hq, H⟩ := H
      rw [hq]
      refine gs_E.ck (pc' := 46) (ls' := [gp_r (some 6), gp_r (some q3), gp_i v2, gp_l v3, gp_n, gp_i v5]) (st' := [gp_l (gp_L s5 q7 v5.toNat), gp_l m6, gp_r (some 6)]) (s' := s5) rfl H.1 ?_
      replace H := H.2
      refine gs_E.stp (pc' := 50) (ls' := [gp_r (some 6), gp_r (some q3), gp_i v2, gp_l v3, gp_n, gp_i v5]) (st' := [gp_r (some 15), gp_l (gp_L s5 q7 v5.toNat), gp_l m6, gp_r (some 6)]) (s' := s5) 2 rfl ?_
      refine gs_E.call (args := [gp_l (gp_L s5 q7 v5.toNat), gp_r (some 15)]) (m := 7) (y' := 2863) (st' := [gp_l m6, gp_r (some 6)]) rfl H (fun r s8 H => ?_)
      obtain ⟨m9, rfl, H⟩ := H
      show gs_E L (d + 1) 1031 53 [gp_r (some 6), gp_r (some q3), gp_i v2, gp_l v3, gp_n, gp_i v5] [gp_l m9, gp_l m6, gp_r (some 6)] s8 K
      refine gs_E.stp (pc' := 54) (ls' := [gp_r (some 6), gp_r (some q3), gp_i v2, gp_l v3, gp_n, gp_i v5]) (st' := [gp_r (some q3), gp_l m9, gp_l m6, gp_r (some 6)]) (s' := s8) 1 rfl ?_
      refine gs_E.ck (pc' := 57) (ls' := [gp_r (some 6), gp_r (some q3), gp_i v2, gp_l v3, gp_n, gp_i v5]) (st' := [gp_r (gp_R (gp_mk L s8) q3 3), gp_l m9, gp_l m6, gp_r (some 6)]) (s' := s8) rfl H.1 ?_
      replace H := H.2
      refine gs_E.stp (pc' := 59) (ls' := [gp_r (some 6), gp_r (some q3), gp_i v2, gp_l v3, gp_n, gp_i v5]) (st' := [gp_i v5, gp_r (gp_R (gp_mk L s8) q3 3), gp_l m9, gp_l m6, gp_r (some 6)]) (s' := s8) 1 rfl ?_
      obtain ⟨q10, hq, H⟩ := H
      rw [hq]
      refine gs_E.ck (pc' := 60) (ls' := [gp_r (some 6), gp_r (some q3), gp_i v2, gp_l v3, gp_n, gp_i v5]) (st' := [gp_i (gp_I s8 q10 v5.toNat), gp_l m9, gp_l m6, gp_r (some 6)]) (s' := s8) rfl (Or.inl H.1) ?_
      replace H := H.2
      refine gs_E.stp (pc' := 61) (ls' := [gp_r (some 6), gp_r (some q3), gp_i v2, gp_l v3, gp_n, gp_i v5]) (st' := [gp_r (some q3), gp_i (gp_I s8 q10 v5.toNat), gp_l m9, gp_l m6, gp_r (some 6)]) (s' := s8) 1 rfl ?_
      refine gs_E.ck (pc' := 64) (ls' := [gp_r (some 6), gp_r (some q3), gp_i v2, gp_l v3, gp_n, gp_i v5]) (st' := [gp_r (gp_R (gp_mk L s8) q3 4), gp_i (gp_I s8 q10 v5.toNat), gp_l m9, gp_l m6, gp_r (some 6)]) (s' := s8) rfl H.1 ?_
      replace H := H.2
      refine gs_E.stp (pc' := 66) (ls' := [gp_r (some 6), gp_r (some q3), gp_i v2, gp_l v3, gp_n, gp_i v5]) (st' := [gp_i v5, gp_r (gp_R (gp_mk L s8) q3 4), gp_i (gp_I s8 q10 v5.toNat), gp_l m9, gp_l m6, gp_r (some 6)]) (s' := s8) 1 rfl ?_
      obtain ⟨q11, hq, H⟩ := H
      rw [hq]
      refine gs_E.ck (pc' := 67) (ls' := [gp_r (some 6), gp_r (some q3), gp_i v2, gp_l v3, gp_n, gp_i v5]) (st' := [gp_i (gp_I s8 q11 v5.toNat), gp_i (gp_I s8 q10 v5.toNat), gp_l m9, gp_l m6, gp_r (some 6)]) (s' := s8) rfl (Or.inl H.1) ?_
      replace H := H.2
      refine gs_E.call (args := [gp_r (some 6), gp_l m6, gp_l m9, gp_i (gp_I s8 q10 v5.toNat), gp_i (gp_I s8 q11 v5.toNat)]) (m := 10) (y' := 1026) (st' := []) rfl H (fun r s12 H => ?_)
      obtain ⟨rfl, H⟩ := H
      show gs_E L (d + 1) 1031 70 [gp_r (some 6), gp_r (some q3), gp_i v2, gp_l v3, gp_n, gp_i v5] [] s12 K
      refine gs_E.stp (pc' := 77) (ls' := [gp_r (some 6), gp_r (some q3), gp_i v2, gp_l v3, gp_n, gp_i v5]) (st' := [gp_r (some 6), gp_i v5, gp_r (some 15)]) (s' := s12) 4 rfl ?_
      refine gs_E.call (args := [gp_r (some 6)]) (m := 6) (y' := 1027) (st' := [gp_i v5, gp_r (some 15)]) rfl H (fun r s13 H => ?_)
      obtain ⟨x14, rfl, H⟩ := H
      show gs_E L (d + 1) 1031 80 [gp_r (some 6), gp_r (some q3), gp_i v2, gp_l v3, gp_n, gp_i v5] [gp_i x14, gp_i v5, gp_r (some 15)] s13 K
      refine gs_E.ck (pc' := 81) (ls' := [gp_r (some 6), gp_r (some q3), gp_i v2, gp_l v3, gp_n, gp_i v5]) (st' := []) (s' := gp_wI s13 15 v5.toNat x14) rfl ⟨rfl, H.1.1, H.1.2⟩ ?_
      replace H := H.2 _ rfl
      generalize gp_wI s13 15 v5.toNat x14 = s15 at H ⊢
      refine gs_E.stp (pc' := 87) (ls' := [gp_r (some 6), gp_r (some q3), gp_i v2, gp_l v3, gp_n, gp_i v5]) (st' := [gp_i v5, gp_r (some 15)]) (s' := s15) 3 rfl ?_
      refine gs_E.ck (pc' := 88) (ls' := [gp_r (some 6), gp_r (some q3), gp_i v2, gp_l v3, gp_n, gp_i v5]) (st' := [gp_i (gp_I s15 15 v5.toNat)]) (s' := s15) rfl (Or.inl ⟨rfl, H.1.1, H.1.2⟩) ?_
      replace H := H.2
      refine gs_E.br (c := ¬ (gp_I s15 15 v5.toNat) < 0) (p1 := 93) (p2 := 91) (l1 := [gp_r (some 6), gp_r (some q3), gp_i v2, gp_l v3, gp_n, gp_i v5]) (l2 := [gp_r (some 6), gp_r (some q3), gp_i v2, gp_l v3, gp_n, gp_i v5]) (s1 := []) (s2 := []) rfl gs_b2 (fun hc => ?_) (fun hc => ?_)
      · replace H := H.2 hc
        exact H
      · replace H := H.1 (Decidable.byContradiction hc)
        refine gs_E.stp (pc' := 92) (ls' := [gp_r (some 6), gp_r (some q3), gp_i v2, gp_l v3, gp_n, gp_i v5]) (st' := [gp_i (-1)]) (s' := s15) 1 rfl ?_
        exact gs_E.ret (r := (some (gp_i (-1)))) rfl H

set_option maxRecDepth 100000 in
/-- Pool.take, pc 93 -/
theorem s_1031_93 {L d : Nat} {K : Option gV → gH → Prop} {s : gH} (v1 : Option Nat) (v2 : Int) (v3 : BitVec 64) (v5 : Int) (H : gs_E L (d + 1) 1031 9 [gp_r (some 6), gp_r v1, gp_i v2, gp_l v3, gp_n, gp_i (gp_wr (v5 + 1))] [] s K) : gs_E L (d + 1) 1031 93 [gp_r (some 6), gp_r v1, gp_i v2, gp_l v3, gp_n, gp_i v5] [] s K := by
  refine gs_E.stp (pc' := 9) (ls' := [gp_r (some 6), gp_r v1, gp_i v2, gp_l v3, gp_n, gp_i (gp_wr (v5 + 1))]) (st' := []) (s' := s) 2 rfl ?_
  exact H

set_option maxRecDepth 100000 in
/-- Pool.tableOf, pc 0 -/
theorem s_1032_e {L d : Nat} {K : Option gV → gH → Prop} {s : gH} (p0 : Int) (H : gs_C L d 2309 5 [gp_r (some 7), gp_i p0] s (fun r s1 => ∃ m2, r = some (gp_l m2) ∧ (117 ≤ gp_sz s1 ∧ ∀ s3, s3 = gp_new s1 9 10 → gs_C L d 3585 2 [gp_l m2] s3 (fun r s4 => ∃ x5, r = some (gp_i x5) ∧ gs_C L d 2304 2 [gp_r (some (gp_sz s1)), gp_i x5] s4 (fun r s6 => r = none ∧ gs_E L (d + 1) 1032 28 [gp_r (some 6), gp_i p0, gp_l m2, gp_n, gp_r (some (gp_sz s1)), gp_i 0, gp_i 0, gp_n] [] s6 K))))) : gs_C L (d + 1) 1032 8 [gp_r (some 6), gp_i p0] s K := by
  show gs_E L (d + 1) 1032 0 [gp_r (some 6), gp_i p0, gp_n, gp_n, gp_n, gp_n, gp_n, gp_n] [] s K
  refine gs_E.stp (pc' := 5) (ls' := [gp_r (some 6), gp_i p0, gp_n, gp_n, gp_n, gp_n, gp_n, gp_n]) (st' := [gp_i p0, gp_r (some 7)]) (s' := s) 3 rfl ?_
  refine gs_E.call (args := [gp_r (some 7), gp_i p0]) (m := 5) (y' := 2309) (st' := []) rfl H (fun r s1 H => ?_)
  obtain ⟨m2, rfl, H⟩ := H
  show gs_E L (d + 1) 1032 8 [gp_r (some 6), gp_i p0, gp_n, gp_n, gp_n, gp_n, gp_n, gp_n] [gp_l m2] s1 K
  refine gs_E.stp (pc' := 9) (ls' := [gp_r (some 6), gp_i p0, gp_l m2, gp_n, gp_n, gp_n, gp_n, gp_n]) (st' := []) (s' := s1) 1 rfl ?_
  refine gs_E.new (pc' := 12) (ls' := [gp_r (some 6), gp_i p0, gp_l m2, gp_n, gp_n, gp_n, gp_n, gp_n]) (st' := [gp_r (some (gp_sz s1))]) (c := 9) (n := 10) rfl H.1 ?_
  replace H := H.2 _ rfl
  generalize gp_new s1 9 10 = s3 at H ⊢
  refine gs_E.stp (pc' := 14) (ls' := [gp_r (some 6), gp_i p0, gp_l m2, gp_n, gp_n, gp_n, gp_n, gp_n]) (st' := [gp_l m2, gp_r (some (gp_sz s1)), gp_r (some (gp_sz s1))]) (s' := s3) 2 rfl ?_
  refine gs_E.call (args := [gp_l m2]) (m := 2) (y' := 3585) (st' := [gp_r (some (gp_sz s1)), gp_r (some (gp_sz s1))]) rfl H (fun r s4 H => ?_)
  obtain ⟨x5, rfl, H⟩ := H
  show gs_E L (d + 1) 1032 17 [gp_r (some 6), gp_i p0, gp_l m2, gp_n, gp_n, gp_n, gp_n, gp_n] [gp_i x5, gp_r (some (gp_sz s1)), gp_r (some (gp_sz s1))] s4 K
  refine gs_E.call (args := [gp_r (some (gp_sz s1)), gp_i x5]) (m := 2) (y' := 2304) (st' := [gp_r (some (gp_sz s1))]) rfl H (fun r s6 H => ?_)
  obtain ⟨rfl, H⟩ := H
  show gs_E L (d + 1) 1032 20 [gp_r (some 6), gp_i p0, gp_l m2, gp_n, gp_n, gp_n, gp_n, gp_n] [gp_r (some (gp_sz s1))] s6 K
  refine gs_E.stp (pc' := 28) (ls' := [gp_r (some 6), gp_i p0, gp_l m2, gp_n, gp_r (some (gp_sz s1)), gp_i 0, gp_i 0, gp_n]) (st' := []) (s' := s6) 5 rfl ?_
  exact H

set_option maxRecDepth 100000 in
/-- Pool.tableOf, pc 28 -/
theorem s_1032_28 {L d : Nat} {K : Option gV → gH → Prop} {s : gH} (v1 : Int) (v2 : BitVec 64) (v4 : Option Nat) (v5 : Int) (v6 : Int) (v7 : gV) (H : ((v6 < (gp_I s 6 4) → (∃ q1, v4 = some q1 ∧ ((gp_sh (gp_mk L s) q1).1 = 9 ∧ ((v5 < (gp_I s q1 0) → ((0 ≤ v6 ∧ v6 < 61) ∧ gs_C L d 2862 3 [gp_l v2, gp_i (gp_I s 14 v6.toNat)] s (fun r s2 => ∃ x3, r = some (gp_i x3) ∧ ((x3 = 0 → gs_E L (d + 1) 1032 181 [gp_r (some 6), gp_i v1, gp_l v2, gp_n, gp_r (some q1), gp_i v5, gp_i v6, gp_i (gp_I s 14 v6.toNat)] [] s2 K) ∧ (¬ x3 = 0 → ((0 ≤ (gp_I s 14 v6.toNat) ∧ (gp_I s 14 v6.toNat) < 61) ∧ (∀ s4, s4 = gp_wI s2 15 (gp_I s 14 v6.toNat).toNat v5 → ((gp_sh (gp_mk L s4) q1).1 = 9 ∧ ((0 ≤ (gp_I s 14 v6.toNat) ∧ (gp_I s 14 v6.toNat) < 61) ∧ gs_C L d 2863 7 [gp_l (gp_L s4 8 (gp_I s 14 v6.toNat).toNat), gp_r (some 15)] s4 (fun r s5 => ∃ m6, r = some (gp_l m6) ∧ (∃ q7, gp_R (gp_mk L s4) q1 1 = some q7 ∧ (gp_in (gp_mk L s5) 101 q7 v5 ∧ ∀ s8, s8 = gp_wL s5 q7 v5.toNat m6 → ((gp_sh (gp_mk L s8) q1).1 = 9 ∧ ((0 ≤ (gp_I s 14 v6.toNat) ∧ (gp_I s 14 v6.toNat) < 61) ∧ gs_C L d 2863 7 [gp_l (gp_L s8 9 (gp_I s 14 v6.toNat).toNat), gp_r (some 15)] s8 (fun r s9 => ∃ m10, r = some (gp_l m10) ∧ (∃ q11, gp_R (gp_mk L s8) q1 2 = some q11 ∧ (gp_in (gp_mk L s9) 101 q11 v5 ∧ ∀ s12, s12 = gp_wL s9 q11 v5.toNat m10 → ((gp_sh (gp_mk L s12) q1).1 = 9 ∧ ((0 ≤ (gp_I s 14 v6.toNat) ∧ (gp_I s 14 v6.toNat) < 61) ∧ (∃ q13, gp_R (gp_mk L s12) q1 3 = some q13 ∧ (gp_in (gp_mk L s12) 100 q13 v5 ∧ ∀ s14, s14 = gp_wI s12 q13 v5.toNat (gp_I s12 10 (gp_I s 14 v6.toNat).toNat) → ((gp_sh (gp_mk L s14) q1).1 = 9 ∧ ((0 ≤ (gp_I s 14 v6.toNat) ∧ (gp_I s 14 v6.toNat) < 61) ∧ (∃ q15, gp_R (gp_mk L s14) q1 4 = some q15 ∧ (gp_in (gp_mk L s14) 100 q15 v5 ∧ ∀ s16, s16 = gp_wI s14 q15 v5.toNat (gp_I s14 11 (gp_I s 14 v6.toNat).toNat) → ((gp_sh (gp_mk L s16) q1).1 = 9 ∧ ((0 ≤ (gp_I s 14 v6.toNat) ∧ (gp_I s 14 v6.toNat) < 61) ∧ (∃ q17, gp_R (gp_mk L s16) q1 5 = some q17 ∧ (gp_in (gp_mk L s16) 100 q17 v5 ∧ ∀ s18, s18 = gp_wI s16 q17 v5.toNat (gp_I s16 12 (gp_I s 14 v6.toNat).toNat) → gs_E L (d + 1) 1032 181 [gp_r (some 6), gp_i v1, gp_l v2, gp_n, gp_r (some q1), gp_i (gp_wr (v5 + 1)), gp_i v6, gp_i (gp_I s 14 v6.toNat)] [] s18 K))))))))))))))))))))))))))))) ∧ (¬ v5 < (gp_I s q1 0) → gs_E L (d + 1) 1032 187 [gp_r (some 6), gp_i v1, gp_l v2, gp_n, gp_r (some q1), gp_i v5, gp_i v6, v7] [] s K))))) ∧ (¬ v6 < (gp_I s 6 4) → gs_E L (d + 1) 1032 187 [gp_r (some 6), gp_i v1, gp_l v2, gp_n, gp_r v4, gp_i v5, gp_i v6, v7] [] s K))) : gs_E L (d + 1) 1032 28 [gp_r (some 6), gp_i v1, gp_l v2, gp_n, gp_r v4, gp_i v5, gp_i v6, v7] [] s K := by
  refine gs_E.stp (pc' := 34) (ls' := [gp_r (some 6), gp_i v1, gp_l v2, gp_n, gp_r v4, gp_i v5, gp_i v6, v7]) (st' := [gp_i (gp_I s 6 4), gp_i v6]) (s' := s) 3 rfl ?_
  refine gs_E.br (c := ¬ v6 < (gp_I s 6 4)) (p1 := 187) (p2 := 37) (l1 := [gp_r (some 6), gp_i v1, gp_l v2, gp_n, gp_r v4, gp_i v5, gp_i v6, v7]) (l2 := [gp_r (some 6), gp_i v1, gp_l v2, gp_n, gp_r v4, gp_i v5, gp_i v6, v7]) (s1 := []) (s2 := []) rfl gs_b2 (fun hc => ?_) (fun hc => ?_)
  · replace H := H.2 hc
    exact H
  · replace H := H.1 (Decidable.byContradiction hc)
    refine gs_E.stp (pc' := 41) (ls' := [gp_r (some 6), gp_i v1, gp_l v2, gp_n, gp_r v4, gp_i v5, gp_i v6, v7]) (st' := [gp_r v4, gp_i v5]) (s' := s) 2 rfl ?_
    obtain ⟨q1, hq, H⟩ := H
    rw [hq]
    refine gs_E.ck (pc' := 44) (ls' := [gp_r (some 6), gp_i v1, gp_l v2, gp_n, gp_r (some q1), gp_i v5, gp_i v6, v7]) (st' := [gp_i (gp_I s q1 0), gp_i v5]) (s' := s) rfl H.1 ?_
    replace H := H.2
    refine gs_E.br (c := ¬ v5 < (gp_I s q1 0)) (p1 := 187) (p2 := 47) (l1 := [gp_r (some 6), gp_i v1, gp_l v2, gp_n, gp_r (some q1), gp_i v5, gp_i v6, v7]) (l2 := [gp_r (some 6), gp_i v1, gp_l v2, gp_n, gp_r (some q1), gp_i v5, gp_i v6, v7]) (s1 := []) (s2 := []) rfl gs_b2 (fun hc => ?_) (fun hc => ?_)
    · replace H := H.2 hc
      exact H
    · replace H := H.1 (Decidable.byContradiction hc)
      refine gs_E.stp (pc' := 53) (ls' := [gp_r (some 6), gp_i v1, gp_l v2, gp_n, gp_r (some q1), gp_i v5, gp_i v6, v7]) (st' := [gp_i v6, gp_r (some 14)]) (s' := s) 3 rfl ?_
      refine gs_E.ck (pc' := 54) (ls' := [gp_r (some 6), gp_i v1, gp_l v2, gp_n, gp_r (some q1), gp_i v5, gp_i v6, v7]) (st' := [gp_i (gp_I s 14 v6.toNat)]) (s' := s) rfl (Or.inl ⟨rfl, H.1.1, H.1.2⟩) ?_
      replace H := H.2
      refine gs_E.stp (pc' := 59) (ls' := [gp_r (some 6), gp_i v1, gp_l v2, gp_n, gp_r (some q1), gp_i v5, gp_i v6, gp_i (gp_I s 14 v6.toNat)]) (st' := [gp_i (gp_I s 14 v6.toNat), gp_l v2]) (s' := s) 3 rfl ?_
      refine gs_E.call (args := [gp_l v2, gp_i (gp_I s 14 v6.toNat)]) (m := 3) (y' := 2862) (st' := []) rfl H (fun r s2 H => ?_)
      obtain ⟨x3, rfl, H⟩ := H
      show gs_E L (d + 1) 1032 62 [gp_r (some 6), gp_i v1, gp_l v2, gp_n, gp_r (some q1), gp_i v5, gp_i v6, gp_i (gp_I s 14 v6.toNat)] [gp_i x3] s2 K
      refine gs_E.br (c := x3 = 0) (p1 := 181) (p2 := 65) (l1 := [gp_r (some 6), gp_i v1, gp_l v2, gp_n, gp_r (some q1), gp_i v5, gp_i v6, gp_i (gp_I s 14 v6.toNat)]) (l2 := [gp_r (some 6), gp_i v1, gp_l v2, gp_n, gp_r (some q1), gp_i v5, gp_i v6, gp_i (gp_I s 14 v6.toNat)]) (s1 := []) (s2 := []) rfl gs_b1 (fun hc => ?_) (fun hc => ?_)
      · replace H := H.1 hc
        exact H
      · replace H := H.2 hc
        refine gs_E.stp (pc' := 73) (ls' := [gp_r (some 6), gp_i v1, gp_l v2, gp_n, gp_r (some q1), gp_i v5, gp_i v6, gp_i (gp_I s 14 v6.toNat)]) (st' := [gp_i v5, gp_i (gp_I s 14 v6.toNat), gp_r (some 15)]) (s' := s2) 4 rfl ?_
        refine gs_E.ck (pc' := 74) (ls' := [gp_r (some 6), gp_i v1, gp_l v2, gp_n, gp_r (some q1), gp_i v5, gp_i v6, gp_i (gp_I s 14 v6.toNat)]) (st' := []) (s' := gp_wI s2 15 (gp_I s 14 v6.toNat).toNat v5) rfl ⟨rfl, H.1.1, H.1.2⟩ ?_
        replace H := H.2 _ rfl
        generalize gp_wI s2 15 (gp_I s 14 v6.toNat).toNat v5 = s4 at H ⊢
        refine gs_E.stp (pc' := 76) (ls' := [gp_r (some 6), gp_i v1, gp_l v2, gp_n, gp_r (some q1), gp_i v5, gp_i v6, gp_i (gp_I s 14 v6.toNat)]) (st' := [gp_r (some q1)]) (s' := s4) 1 rfl ?_
        refine gs_E.ck (pc' := 79) (ls' := [gp_r (some 6), gp_i v1, gp_l v2, gp_n, gp_r (some q1), gp_i v5, gp_i v6, gp_i (gp_I s 14 v6.toNat)]) (st' := [gp_r (gp_R (gp_mk L s4) q1 1)]) (s' := s4) rfl H.1 ?_
        replace H := H.2
        refine gs_E.stp (pc' := 90) (ls' := [gp_r (some 6), gp_i v1, gp_l v2, gp_n, gp_r (some q1), gp_i v5, gp_i v6, gp_i (gp_I s 14 v6.toNat)]) (st' := [gp_i (gp_I s 14 v6.toNat), gp_r (some 8), gp_i v5, gp_r (gp_R (gp_mk L s4) q1 1)]) (s' := s4) 5 rfl ?_
        refine gs_E.ck (pc' := 91) (ls' := [gp_r (some 6), gp_i v1, gp_l v2, gp_n, gp_r (some q1), gp_i v5, gp_i v6, gp_i (gp_I s 14 v6.toNat)]) (st' := [gp_l (gp_L s4 8 (gp_I s 14 v6.toNat).toNat), gp_i v5, gp_r (gp_R (gp_mk L s4) q1 1)]) (s' := s4) rfl ⟨rfl, H.1.1, H.1.2⟩ ?_
        replace H := H.2
        refine gs_E.stp (pc' := 95) (ls' := [gp_r (some 6), gp_i v1, gp_l v2, gp_n, gp_r (some q1), gp_i v5, gp_i v6, gp_i (gp_I s 14 v6.toNat)]) (st' := [gp_r (some 15), gp_l (gp_L s4 8 (gp_I s 14 v6.toNat).toNat), gp_i v5, gp_r (gp_R (gp_mk L s4) q1 1)]) (s' := s4) 2 rfl ?_
        refine gs_E.call (args := [gp_l (gp_L s4 8 (gp_I s 14 v6.toNat).toNat), gp_r (some 15)]) (m := 7) (y' := 2863) (st' := [gp_i v5, gp_r (gp_R (gp_mk L s4) q1 1)]) rfl H (fun r s5 H => ?_)
        obtain ⟨m6, rfl, H⟩ := H
        show gs_E L (d + 1) 1032 98 [gp_r (some 6), gp_i v1, gp_l v2, gp_n, gp_r (some q1), gp_i v5, gp_i v6, gp_i (gp_I s 14 v6.toNat)] [gp_l m6, gp_i v5, gp_r (gp_R (gp_mk L s4) q1 1)] s5 K
        obtain ⟨q7, hq, H⟩ := H
        rw [hq]
        refine gs_E.ck (pc' := 99) (ls' := [gp_r (some 6), gp_i v1, gp_l v2, gp_n, gp_r (some q1), gp_i v5, gp_i v6, gp_i (gp_I s 14 v6.toNat)]) (st' := []) (s' := gp_wL s5 q7 v5.toNat m6) rfl H.1 ?_
        replace H := H.2 _ rfl
        generalize gp_wL s5 q7 v5.toNat m6 = s8 at H ⊢
        refine gs_E.stp (pc' := 101) (ls' := [gp_r (some 6), gp_i v1, gp_l v2, gp_n, gp_r (some q1), gp_i v5, gp_i v6, gp_i (gp_I s 14 v6.toNat)]) (st' := [gp_r (some q1)]) (s' := s8) 1 rfl ?_
        refine gs_E.ck (pc' := 104) (ls' := [gp_r (some 6), gp_i v1, gp_l v2, gp_n, gp_r (some q1), gp_i v5, gp_i v6, gp_i (gp_I s 14 v6.toNat)]) (st' := [gp_r (gp_R (gp_mk L s8) q1 2)]) (s' := s8) rfl H.1 ?_
        replace H := H.2
        refine gs_E.stp (pc' := 115) (ls' := [gp_r (some 6), gp_i v1, gp_l v2, gp_n, gp_r (some q1), gp_i v5, gp_i v6, gp_i (gp_I s 14 v6.toNat)]) (st' := [gp_i (gp_I s 14 v6.toNat), gp_r (some 9), gp_i v5, gp_r (gp_R (gp_mk L s8) q1 2)]) (s' := s8) 5 rfl ?_
        refine gs_E.ck (pc' := 116) (ls' := [gp_r (some 6), gp_i v1, gp_l v2, gp_n, gp_r (some q1), gp_i v5, gp_i v6, gp_i (gp_I s 14 v6.toNat)]) (st' := [gp_l (gp_L s8 9 (gp_I s 14 v6.toNat).toNat), gp_i v5, gp_r (gp_R (gp_mk L s8) q1 2)]) (s' := s8) rfl ⟨rfl, H.1.1, H.1.2⟩ ?_
        replace H := H.2
        refine gs_E.stp (pc' := 120) (ls' := [gp_r (some 6), gp_i v1, gp_l v2, gp_n, gp_r (some q1), gp_i v5, gp_i v6, gp_i (gp_I s 14 v6.toNat)]) (st' := [gp_r (some 15), gp_l (gp_L s8 9 (gp_I s 14 v6.toNat).toNat), gp_i v5, gp_r (gp_R (gp_mk L s8) q1 2)]) (s' := s8) 2 rfl ?_
        refine gs_E.call (args := [gp_l (gp_L s8 9 (gp_I s 14 v6.toNat).toNat), gp_r (some 15)]) (m := 7) (y' := 2863) (st' := [gp_i v5, gp_r (gp_R (gp_mk L s8) q1 2)]) rfl H (fun r s9 H => ?_)
        obtain ⟨m10, rfl, H⟩ := H
        show gs_E L (d + 1) 1032 123 [gp_r (some 6), gp_i v1, gp_l v2, gp_n, gp_r (some q1), gp_i v5, gp_i v6, gp_i (gp_I s 14 v6.toNat)] [gp_l m10, gp_i v5, gp_r (gp_R (gp_mk L s8) q1 2)] s9 K
        obtain ⟨q11, hq, H⟩ := H
        rw [hq]
        refine gs_E.ck (pc' := 124) (ls' := [gp_r (some 6), gp_i v1, gp_l v2, gp_n, gp_r (some q1), gp_i v5, gp_i v6, gp_i (gp_I s 14 v6.toNat)]) (st' := []) (s' := gp_wL s9 q11 v5.toNat m10) rfl H.1 ?_
        replace H := H.2 _ rfl
        generalize gp_wL s9 q11 v5.toNat m10 = s12 at H ⊢
        refine gs_E.stp (pc' := 126) (ls' := [gp_r (some 6), gp_i v1, gp_l v2, gp_n, gp_r (some q1), gp_i v5, gp_i v6, gp_i (gp_I s 14 v6.toNat)]) (st' := [gp_r (some q1)]) (s' := s12) 1 rfl ?_
        refine gs_E.ck (pc' := 129) (ls' := [gp_r (some 6), gp_i v1, gp_l v2, gp_n, gp_r (some q1), gp_i v5, gp_i v6, gp_i (gp_I s 14 v6.toNat)]) (st' := [gp_r (gp_R (gp_mk L s12) q1 3)]) (s' := s12) rfl H.1 ?_
        replace H := H.2
        refine gs_E.stp (pc' := 140) (ls' := [gp_r (some 6), gp_i v1, gp_l v2, gp_n, gp_r (some q1), gp_i v5, gp_i v6, gp_i (gp_I s 14 v6.toNat)]) (st' := [gp_i (gp_I s 14 v6.toNat), gp_r (some 10), gp_i v5, gp_r (gp_R (gp_mk L s12) q1 3)]) (s' := s12) 5 rfl ?_
        refine gs_E.ck (pc' := 141) (ls' := [gp_r (some 6), gp_i v1, gp_l v2, gp_n, gp_r (some q1), gp_i v5, gp_i v6, gp_i (gp_I s 14 v6.toNat)]) (st' := [gp_i (gp_I s12 10 (gp_I s 14 v6.toNat).toNat), gp_i v5, gp_r (gp_R (gp_mk L s12) q1 3)]) (s' := s12) rfl (Or.inl ⟨rfl, H.1.1, H.1.2⟩) ?_
        replace H := H.2
        obtain ⟨q13, hq, H⟩ := H
        rw [hq]
        refine gs_E.ck (pc' := 142) (ls' := [gp_r (some 6), gp_i v1, gp_l v2, gp_n, gp_r (some q1), gp_i v5, gp_i v6, gp_i (gp_I s 14 v6.toNat)]) (st' := []) (s' := gp_wI s12 q13 v5.toNat (gp_I s12 10 (gp_I s 14 v6.toNat).toNat)) rfl H.1 ?_
        replace H := H.2 _ rfl
        generalize gp_wI s12 q13 v5.toNat (gp_I s12 10 (gp_I s 14 v6.toNat).toNat) = s14 at H ⊢
        refine gs_E.stp (pc' := 144) (ls' := [gp_r (some 6), gp_i v1, gp_l v2, gp_n, gp_r (some q1), gp_i v5, gp_i v6, gp_i (gp_I s 14 v6.toNat)]) (st' := [gp_r (some q1)]) (s' := s14) 1 rfl ?_
        refine gs_E.ck (pc' := 147) (ls' := [gp_r (some 6), gp_i v1, gp_l v2, gp_n, gp_r (some q1), gp_i v5, gp_i v6, gp_i (gp_I s 14 v6.toNat)]) (st' := [gp_r (gp_R (gp_mk L s14) q1 4)]) (s' := s14) rfl H.1 ?_
        replace H := H.2
        refine gs_E.stp (pc' := 158) (ls' := [gp_r (some 6), gp_i v1, gp_l v2, gp_n, gp_r (some q1), gp_i v5, gp_i v6, gp_i (gp_I s 14 v6.toNat)]) (st' := [gp_i (gp_I s 14 v6.toNat), gp_r (some 11), gp_i v5, gp_r (gp_R (gp_mk L s14) q1 4)]) (s' := s14) 5 rfl ?_
        refine gs_E.ck (pc' := 159) (ls' := [gp_r (some 6), gp_i v1, gp_l v2, gp_n, gp_r (some q1), gp_i v5, gp_i v6, gp_i (gp_I s 14 v6.toNat)]) (st' := [gp_i (gp_I s14 11 (gp_I s 14 v6.toNat).toNat), gp_i v5, gp_r (gp_R (gp_mk L s14) q1 4)]) (s' := s14) rfl (Or.inl ⟨rfl, H.1.1, H.1.2⟩) ?_
        replace H := H.2
        obtain ⟨q15, hq, H⟩ := H
        rw [hq]
        refine gs_E.ck (pc' := 160) (ls' := [gp_r (some 6), gp_i v1, gp_l v2, gp_n, gp_r (some q1), gp_i v5, gp_i v6, gp_i (gp_I s 14 v6.toNat)]) (st' := []) (s' := gp_wI s14 q15 v5.toNat (gp_I s14 11 (gp_I s 14 v6.toNat).toNat)) rfl H.1 ?_
        replace H := H.2 _ rfl
        generalize gp_wI s14 q15 v5.toNat (gp_I s14 11 (gp_I s 14 v6.toNat).toNat) = s16 at H ⊢
        refine gs_E.stp (pc' := 162) (ls' := [gp_r (some 6), gp_i v1, gp_l v2, gp_n, gp_r (some q1), gp_i v5, gp_i v6, gp_i (gp_I s 14 v6.toNat)]) (st' := [gp_r (some q1)]) (s' := s16) 1 rfl ?_
        refine gs_E.ck (pc' := 165) (ls' := [gp_r (some 6), gp_i v1, gp_l v2, gp_n, gp_r (some q1), gp_i v5, gp_i v6, gp_i (gp_I s 14 v6.toNat)]) (st' := [gp_r (gp_R (gp_mk L s16) q1 5)]) (s' := s16) rfl H.1 ?_
        replace H := H.2
        refine gs_E.stp (pc' := 176) (ls' := [gp_r (some 6), gp_i v1, gp_l v2, gp_n, gp_r (some q1), gp_i v5, gp_i v6, gp_i (gp_I s 14 v6.toNat)]) (st' := [gp_i (gp_I s 14 v6.toNat), gp_r (some 12), gp_i v5, gp_r (gp_R (gp_mk L s16) q1 5)]) (s' := s16) 5 rfl ?_
        refine gs_E.ck (pc' := 177) (ls' := [gp_r (some 6), gp_i v1, gp_l v2, gp_n, gp_r (some q1), gp_i v5, gp_i v6, gp_i (gp_I s 14 v6.toNat)]) (st' := [gp_i (gp_I s16 12 (gp_I s 14 v6.toNat).toNat), gp_i v5, gp_r (gp_R (gp_mk L s16) q1 5)]) (s' := s16) rfl (Or.inl ⟨rfl, H.1.1, H.1.2⟩) ?_
        replace H := H.2
        obtain ⟨q17, hq, H⟩ := H
        rw [hq]
        refine gs_E.ck (pc' := 178) (ls' := [gp_r (some 6), gp_i v1, gp_l v2, gp_n, gp_r (some q1), gp_i v5, gp_i v6, gp_i (gp_I s 14 v6.toNat)]) (st' := []) (s' := gp_wI s16 q17 v5.toNat (gp_I s16 12 (gp_I s 14 v6.toNat).toNat)) rfl H.1 ?_
        replace H := H.2 _ rfl
        generalize gp_wI s16 q17 v5.toNat (gp_I s16 12 (gp_I s 14 v6.toNat).toNat) = s18 at H ⊢
        refine gs_E.stp (pc' := 181) (ls' := [gp_r (some 6), gp_i v1, gp_l v2, gp_n, gp_r (some q1), gp_i (gp_wr (v5 + 1)), gp_i v6, gp_i (gp_I s 14 v6.toNat)]) (st' := []) (s' := s18) 1 rfl ?_
        exact H

set_option maxRecDepth 100000 in
/-- Pool.tableOf, pc 181 -/
theorem s_1032_181 {L d : Nat} {K : Option gV → gH → Prop} {s : gH} (v1 : Int) (v2 : BitVec 64) (v4 : Option Nat) (v5 : Int) (v6 : Int) (v7 : Int) (H : gs_E L (d + 1) 1032 28 [gp_r (some 6), gp_i v1, gp_l v2, gp_n, gp_r v4, gp_i v5, gp_i (gp_wr (v6 + 1)), gp_i v7] [] s K) : gs_E L (d + 1) 1032 181 [gp_r (some 6), gp_i v1, gp_l v2, gp_n, gp_r v4, gp_i v5, gp_i v6, gp_i v7] [] s K := by
  refine gs_E.stp (pc' := 28) (ls' := [gp_r (some 6), gp_i v1, gp_l v2, gp_n, gp_r v4, gp_i v5, gp_i (gp_wr (v6 + 1)), gp_i v7]) (st' := []) (s' := s) 2 rfl ?_
  exact H

set_option maxRecDepth 100000 in
/-- Pool.tableOf, pc 187 -/
theorem s_1032_187 {L d : Nat} {K : Option gV → gH → Prop} {s : gH} (v1 : Int) (v2 : BitVec 64) (v4 : Option Nat) (v5 : Int) (v6 : Int) (v7 : gV) (H : K (some (gp_r v4)) s) : gs_E L (d + 1) 1032 187 [gp_r (some 6), gp_i v1, gp_l v2, gp_n, gp_r v4, gp_i v5, gp_i v6, v7] [] s K := by
  refine gs_E.stp (pc' := 189) (ls' := [gp_r (some 6), gp_i v1, gp_l v2, gp_n, gp_r v4, gp_i v5, gp_i v6, v7]) (st' := [gp_r v4]) (s' := s) 1 rfl ?_
  exact gs_E.ret (r := (some (gp_r v4))) rfl H

set_option maxRecDepth 100000 in
/-- Table.makeBounds, pc 0 -/
theorem s_2305_e {L d : Nat} {K : Option gV → gH → Prop} {s : gH} (this : Option Nat) (H : (∃ q1, this = some q1 ∧ ((gp_sh (gp_mk L s) q1).1 = 9 ∧ ((0 ≤ (gp_I s q1 0) ∧ (gp_I s q1 0) ≤ 1000000) ∧ 117 ≤ gp_sz s ∧ ∀ s2, s2 = gp_new s 100 (gp_I s q1 0).toNat → ((gp_sh (gp_mk L s2) q1).1 = 9 ∧ gp_sR q1 6 = none ∧ ∀ s3, s3 = gp_wR s2 q1 6 (some (gp_sz s)) → ((gp_sh (gp_mk L s3) q1).1 = 9 ∧ ((0 ≤ (gp_I s3 q1 0) ∧ (gp_I s3 q1 0) ≤ 1000000) ∧ 117 ≤ gp_sz s3 ∧ ∀ s4, s4 = gp_new s3 100 (gp_I s3 q1 0).toNat → ((gp_sh (gp_mk L s4) q1).1 = 9 ∧ gp_sR q1 7 = none ∧ ∀ s5, s5 = gp_wR s4 q1 7 (some (gp_sz s3)) → ((gp_sh (gp_mk L s5) q1).1 = 9 ∧ ((0 ≤ (gp_I s5 q1 0) ∧ (gp_I s5 q1 0) ≤ 1000000) ∧ 117 ≤ gp_sz s5 ∧ ∀ s6, s6 = gp_new s5 100 (gp_I s5 q1 0).toNat → ((gp_sh (gp_mk L s6) q1).1 = 9 ∧ gp_sR q1 8 = none ∧ ∀ s7, s7 = gp_wR s6 q1 8 (some (gp_sz s5)) → ((gp_sh (gp_mk L s7) q1).1 = 9 ∧ ((0 ≤ (gp_I s7 q1 0) ∧ (gp_I s7 q1 0) ≤ 1000000) ∧ 117 ≤ gp_sz s7 ∧ ∀ s8, s8 = gp_new s7 100 (gp_I s7 q1 0).toNat → ((gp_sh (gp_mk L s8) q1).1 = 9 ∧ gp_sR q1 9 = none ∧ ∀ s9, s9 = gp_wR s8 q1 9 (some (gp_sz s7)) → K none s9)))))))))))))) : gs_C L d 2305 1 [gp_r this] s K := by
  show gs_E L d 2305 0 [gp_r this] [] s K
  refine gs_E.stp (pc' := 2) (ls' := [gp_r this]) (st' := [gp_r this, gp_r this]) (s' := s) 2 rfl ?_
  obtain ⟨q1, hq, H⟩ := H
  rw [hq]
  refine gs_E.ck (pc' := 5) (ls' := [gp_r (some q1)]) (st' := [gp_i (gp_I s q1 0), gp_r (some q1)]) (s' := s) rfl H.1 ?_
  replace H := H.2
  refine gs_E.newi rfl H.1 H.2.1 ?_
  replace H := H.2.2 _ rfl
  generalize gp_new s 100 (gp_I s q1 0).toNat = s2 at H ⊢
  refine gs_E.ckR (pc' := 10) (ls' := [gp_r (some q1)]) (st' := []) (a := q1) (f := 6) (v := (some (gp_sz s))) rfl ⟨H.1, rfl⟩ H.2.1 ?_
  replace H := H.2.2 _ rfl
  generalize gp_wR s2 q1 6 (some (gp_sz s)) = s3 at H ⊢
  refine gs_E.stp (pc' := 12) (ls' := [gp_r (some q1)]) (st' := [gp_r (some q1), gp_r (some q1)]) (s' := s3) 2 rfl ?_
  refine gs_E.ck (pc' := 15) (ls' := [gp_r (some q1)]) (st' := [gp_i (gp_I s3 q1 0), gp_r (some q1)]) (s' := s3) rfl H.1 ?_
  replace H := H.2
  refine gs_E.newi rfl H.1 H.2.1 ?_
  replace H := H.2.2 _ rfl
  generalize gp_new s3 100 (gp_I s3 q1 0).toNat = s4 at H ⊢
  refine gs_E.ckR (pc' := 20) (ls' := [gp_r (some q1)]) (st' := []) (a := q1) (f := 7) (v := (some (gp_sz s3))) rfl ⟨H.1, rfl⟩ H.2.1 ?_
  replace H := H.2.2 _ rfl
  generalize gp_wR s4 q1 7 (some (gp_sz s3)) = s5 at H ⊢
  refine gs_E.stp (pc' := 22) (ls' := [gp_r (some q1)]) (st' := [gp_r (some q1), gp_r (some q1)]) (s' := s5) 2 rfl ?_
  refine gs_E.ck (pc' := 25) (ls' := [gp_r (some q1)]) (st' := [gp_i (gp_I s5 q1 0), gp_r (some q1)]) (s' := s5) rfl H.1 ?_
  replace H := H.2
  refine gs_E.newi rfl H.1 H.2.1 ?_
  replace H := H.2.2 _ rfl
  generalize gp_new s5 100 (gp_I s5 q1 0).toNat = s6 at H ⊢
  refine gs_E.ckR (pc' := 30) (ls' := [gp_r (some q1)]) (st' := []) (a := q1) (f := 8) (v := (some (gp_sz s5))) rfl ⟨H.1, rfl⟩ H.2.1 ?_
  replace H := H.2.2 _ rfl
  generalize gp_wR s6 q1 8 (some (gp_sz s5)) = s7 at H ⊢
  refine gs_E.stp (pc' := 32) (ls' := [gp_r (some q1)]) (st' := [gp_r (some q1), gp_r (some q1)]) (s' := s7) 2 rfl ?_
  refine gs_E.ck (pc' := 35) (ls' := [gp_r (some q1)]) (st' := [gp_i (gp_I s7 q1 0), gp_r (some q1)]) (s' := s7) rfl H.1 ?_
  replace H := H.2
  refine gs_E.newi rfl H.1 H.2.1 ?_
  replace H := H.2.2 _ rfl
  generalize gp_new s7 100 (gp_I s7 q1 0).toNat = s8 at H ⊢
  refine gs_E.ckR (pc' := 40) (ls' := [gp_r (some q1)]) (st' := []) (a := q1) (f := 9) (v := (some (gp_sz s7))) rfl ⟨H.1, rfl⟩ H.2.1 ?_
  replace H := H.2.2 _ rfl
  generalize gp_wR s8 q1 9 (some (gp_sz s7)) = s9 at H ⊢
  exact gs_E.ret (r := none) rfl H

set_option maxRecDepth 100000 in
/-- Table.root, pc 0 -/
theorem s_2306_e {L d : Nat} {K : Option gV → gH → Prop} {s : gH} (this : Option Nat) (H : (∃ q1, this = some q1 ∧ ((gp_sh (gp_mk L s) q1).1 = 9 ∧ K (some (gp_i (gp_wr ((gp_I s q1 0) - 1)))) s))) : gs_C L d 2306 1 [gp_r this] s K := by
  show gs_E L d 2306 0 [gp_r this] [] s K
  refine gs_E.stp (pc' := 1) (ls' := [gp_r this]) (st' := [gp_r this]) (s' := s) 1 rfl ?_
  obtain ⟨q1, hq, H⟩ := H
  rw [hq]
  refine gs_E.ck (pc' := 4) (ls' := [gp_r (some q1)]) (st' := [gp_i (gp_I s q1 0)]) (s' := s) rfl H.1 ?_
  replace H := H.2
  refine gs_E.stp (pc' := 6) (ls' := [gp_r (some q1)]) (st' := [gp_i (gp_wr ((gp_I s q1 0) - 1))]) (s' := s) 2 rfl ?_
  exact gs_E.ret (r := (some (gp_i (gp_wr ((gp_I s q1 0) - 1))))) rfl H

set_option maxRecDepth 100000 in
/-- Table.options, pc 0 -/
theorem s_2307_e {L d : Nat} {K : Option gV → gH → Prop} {s : gH} (this : Option Nat) (p0 : Int) (p1 : Int) (H : ((p1 = 0 → (∃ q3, this = some q3 ∧ ((gp_sh (gp_mk L s) q3).1 = 9 ∧ (∃ q4, gp_R (gp_mk L s) q3 1 = some q4 ∧ (gp_in (gp_mk L s) 101 q4 p0 ∧ gs_E L d 2307 19 [gp_r (some q3), gp_i p0, gp_i p1] [gp_l (gp_L s q4 p0.toNat)] s K))))) ∧ (¬ p1 = 0 → (∃ q1, this = some q1 ∧ ((gp_sh (gp_mk L s) q1).1 = 9 ∧ (∃ q2, gp_R (gp_mk L s) q1 2 = some q2 ∧ (gp_in (gp_mk L s) 101 q2 p0 ∧ gs_E L d 2307 19 [gp_r (some q1), gp_i p0, gp_i p1] [gp_l (gp_L s q2 p0.toNat)] s K))))))) : gs_C L d 2307 3 [gp_r this, gp_i p0, gp_i p1] s K := by
  show gs_E L d 2307 0 [gp_r this, gp_i p0, gp_i p1] [] s K
  refine gs_E.stp (pc' := 1) (ls' := [gp_r this, gp_i p0, gp_i p1]) (st' := [gp_i p1]) (s' := s) 1 rfl ?_
  refine gs_E.br (c := ¬ p1 = 0) (p1 := 13) (p2 := 4) (l1 := [gp_r this, gp_i p0, gp_i p1]) (l2 := [gp_r this, gp_i p0, gp_i p1]) (s1 := []) (s2 := []) rfl gs_b2 (fun hc => ?_) (fun hc => ?_)
  · replace H := H.2 hc
    refine gs_E.stp (pc' := 14) (ls' := [gp_r this, gp_i p0, gp_i p1]) (st' := [gp_r this]) (s' := s) 1 rfl ?_
    obtain ⟨q1, hq, H⟩ := H
    rw [hq]
    refine gs_E.ck (pc' := 17) (ls' := [gp_r (some q1), gp_i p0, gp_i p1]) (st' := [gp_r (gp_R (gp_mk L s) q1 2)]) (s' := s) rfl H.1 ?_
    replace H := H.2
    refine gs_E.stp (pc' := 18) (ls' := [gp_r (some q1), gp_i p0, gp_i p1]) (st' := [gp_i p0, gp_r (gp_R (gp_mk L s) q1 2)]) (s' := s) 1 rfl ?_
    obtain ⟨q2, hq, H⟩ := H
    rw [hq]
    refine gs_E.ck (pc' := 19) (ls' := [gp_r (some q1), gp_i p0, gp_i p1]) (st' := [gp_l (gp_L s q2 p0.toNat)]) (s' := s) rfl H.1 ?_
    replace H := H.2
    exact H
  · replace H := H.1 (Decidable.byContradiction hc)
    refine gs_E.stp (pc' := 5) (ls' := [gp_r this, gp_i p0, gp_i p1]) (st' := [gp_r this]) (s' := s) 1 rfl ?_
    obtain ⟨q3, hq, H⟩ := H
    rw [hq]
    refine gs_E.ck (pc' := 8) (ls' := [gp_r (some q3), gp_i p0, gp_i p1]) (st' := [gp_r (gp_R (gp_mk L s) q3 1)]) (s' := s) rfl H.1 ?_
    replace H := H.2
    refine gs_E.stp (pc' := 9) (ls' := [gp_r (some q3), gp_i p0, gp_i p1]) (st' := [gp_i p0, gp_r (gp_R (gp_mk L s) q3 1)]) (s' := s) 1 rfl ?_
    obtain ⟨q4, hq, H⟩ := H
    rw [hq]
    refine gs_E.ck (pc' := 10) (ls' := [gp_r (some q3), gp_i p0, gp_i p1]) (st' := [gp_l (gp_L s q4 p0.toNat)]) (s' := s) rfl H.1 ?_
    replace H := H.2
    refine gs_E.stp (pc' := 19) (ls' := [gp_r (some q3), gp_i p0, gp_i p1]) (st' := [gp_l (gp_L s q4 p0.toNat)]) (s' := s) 1 rfl ?_
    exact H

set_option maxRecDepth 100000 in
/-- Table.options, pc 19 -/
theorem s_2307_19 {L d : Nat} {K : Option gV → gH → Prop} {s : gH} (v0 : Option Nat) (v1 : Int) (v2 : Int) (w0 : BitVec 64) (H : K (some (gp_l w0)) s) : gs_E L d 2307 19 [gp_r v0, gp_i v1, gp_i v2] [gp_l w0] s K := by
  exact gs_E.ret (r := (some (gp_l w0))) rfl H

set_option maxRecDepth 100000 in
/-- Table.shutNumber, pc 0 -/
theorem s_2308_e {L d : Nat} {K : Option gV → gH → Prop} {s : gH} (this : Option Nat) (p0 : Int) (p1 : Int) (H : ((p1 = 0 → (∃ q3, this = some q3 ∧ ((gp_sh (gp_mk L s) q3).1 = 9 ∧ (∃ q4, gp_R (gp_mk L s) q3 3 = some q4 ∧ (gp_in (gp_mk L s) 100 q4 p0 ∧ gs_E L d 2308 19 [gp_r (some q3), gp_i p0, gp_i p1] [gp_i (gp_I s q4 p0.toNat)] s K))))) ∧ (¬ p1 = 0 → (∃ q1, this = some q1 ∧ ((gp_sh (gp_mk L s) q1).1 = 9 ∧ (∃ q2, gp_R (gp_mk L s) q1 4 = some q2 ∧ (gp_in (gp_mk L s) 100 q2 p0 ∧ gs_E L d 2308 19 [gp_r (some q1), gp_i p0, gp_i p1] [gp_i (gp_I s q2 p0.toNat)] s K))))))) : gs_C L d 2308 3 [gp_r this, gp_i p0, gp_i p1] s K := by
  show gs_E L d 2308 0 [gp_r this, gp_i p0, gp_i p1] [] s K
  refine gs_E.stp (pc' := 1) (ls' := [gp_r this, gp_i p0, gp_i p1]) (st' := [gp_i p1]) (s' := s) 1 rfl ?_
  refine gs_E.br (c := ¬ p1 = 0) (p1 := 13) (p2 := 4) (l1 := [gp_r this, gp_i p0, gp_i p1]) (l2 := [gp_r this, gp_i p0, gp_i p1]) (s1 := []) (s2 := []) rfl gs_b2 (fun hc => ?_) (fun hc => ?_)
  · replace H := H.2 hc
    refine gs_E.stp (pc' := 14) (ls' := [gp_r this, gp_i p0, gp_i p1]) (st' := [gp_r this]) (s' := s) 1 rfl ?_
    obtain ⟨q1, hq, H⟩ := H
    rw [hq]
    refine gs_E.ck (pc' := 17) (ls' := [gp_r (some q1), gp_i p0, gp_i p1]) (st' := [gp_r (gp_R (gp_mk L s) q1 4)]) (s' := s) rfl H.1 ?_
    replace H := H.2
    refine gs_E.stp (pc' := 18) (ls' := [gp_r (some q1), gp_i p0, gp_i p1]) (st' := [gp_i p0, gp_r (gp_R (gp_mk L s) q1 4)]) (s' := s) 1 rfl ?_
    obtain ⟨q2, hq, H⟩ := H
    rw [hq]
    refine gs_E.ck (pc' := 19) (ls' := [gp_r (some q1), gp_i p0, gp_i p1]) (st' := [gp_i (gp_I s q2 p0.toNat)]) (s' := s) rfl (Or.inl H.1) ?_
    replace H := H.2
    exact H
  · replace H := H.1 (Decidable.byContradiction hc)
    refine gs_E.stp (pc' := 5) (ls' := [gp_r this, gp_i p0, gp_i p1]) (st' := [gp_r this]) (s' := s) 1 rfl ?_
    obtain ⟨q3, hq, H⟩ := H
    rw [hq]
    refine gs_E.ck (pc' := 8) (ls' := [gp_r (some q3), gp_i p0, gp_i p1]) (st' := [gp_r (gp_R (gp_mk L s) q3 3)]) (s' := s) rfl H.1 ?_
    replace H := H.2
    refine gs_E.stp (pc' := 9) (ls' := [gp_r (some q3), gp_i p0, gp_i p1]) (st' := [gp_i p0, gp_r (gp_R (gp_mk L s) q3 3)]) (s' := s) 1 rfl ?_
    obtain ⟨q4, hq, H⟩ := H
    rw [hq]
    refine gs_E.ck (pc' := 10) (ls' := [gp_r (some q3), gp_i p0, gp_i p1]) (st' := [gp_i (gp_I s q4 p0.toNat)]) (s' := s) rfl (Or.inl H.1) ?_
    replace H := H.2
    refine gs_E.stp (pc' := 19) (ls' := [gp_r (some q3), gp_i p0, gp_i p1]) (st' := [gp_i (gp_I s q4 p0.toNat)]) (s' := s) 1 rfl ?_
    exact H

set_option maxRecDepth 100000 in
/-- Table.shutNumber, pc 19 -/
theorem s_2308_19 {L d : Nat} {K : Option gV → gH → Prop} {s : gH} (v0 : Option Nat) (v1 : Int) (v2 : Int) (w0 : Int) (H : K (some (gp_i w0)) s) : gs_E L d 2308 19 [gp_r v0, gp_i v1, gp_i v2] [gp_i w0] s K := by
  exact gs_E.ret (r := (some (gp_i w0))) rfl H

set_option maxRecDepth 100000 in
/-- Table.followers, pc 0 -/
theorem s_2309_e {L d : Nat} {K : Option gV → gH → Prop} {s : gH} (this : Option Nat) (p0 : Int) (H : gs_E L (d + 1) 2309 7 [gp_r this, gp_i p0, gp_l ((1#64) <<< (p0 % 64).toNat), gp_n, gp_i p0] [] s K) : gs_C L (d + 1) 2309 5 [gp_r this, gp_i p0] s K := by
  show gs_E L (d + 1) 2309 0 [gp_r this, gp_i p0, gp_n, gp_n, gp_n] [] s K
  refine gs_E.stp (pc' := 7) (ls' := [gp_r this, gp_i p0, gp_l ((1#64) <<< (p0 % 64).toNat), gp_n, gp_i p0]) (st' := []) (s' := s) 6 rfl ?_
  exact H

set_option maxRecDepth 100000 in
/-- Table.followers, pc 7 -/
theorem s_2309_7 {L d : Nat} {K : Option gV → gH → Prop} {s : gH} (v0 : Option Nat) (v1 : Int) (v2 : BitVec 64) (v4 : Int) (H : ((v4 < 0 → K (some (gp_l v2)) s) ∧ (¬ v4 < 0 → gs_C L d 2862 3 [gp_l v2, gp_i v4] s (fun r s1 => ∃ x2, r = some (gp_i x2) ∧ ((x2 = 0 → gs_E L (d + 1) 2309 39 [gp_r v0, gp_i v1, gp_l v2, gp_n, gp_i v4] [] s1 K) ∧ (¬ x2 = 0 → (∃ q3, v0 = some q3 ∧ ((gp_sh (gp_mk L s1) q3).1 = 9 ∧ (∃ q4, gp_R (gp_mk L s1) q3 1 = some q4 ∧ (gp_in (gp_mk L s1) 101 q4 v4 ∧ ((gp_sh (gp_mk L s1) q3).1 = 9 ∧ (∃ q5, gp_R (gp_mk L s1) q3 2 = some q5 ∧ (gp_in (gp_mk L s1) 101 q5 v4 ∧ gs_E L (d + 1) 2309 39 [gp_r (some q3), gp_i v1, gp_l (v2 ||| ((gp_L s1 q4 v4.toNat) ||| (gp_L s1 q5 v4.toNat))), gp_n, gp_i v4] [] s1 K))))))))))))) : gs_E L (d + 1) 2309 7 [gp_r v0, gp_i v1, gp_l v2, gp_n, gp_i v4] [] s K := by
  refine gs_E.stp (pc' := 9) (ls' := [gp_r v0, gp_i v1, gp_l v2, gp_n, gp_i v4]) (st' := [gp_i v4]) (s' := s) 1 rfl ?_
  refine gs_E.br (c := v4 < 0) (p1 := 45) (p2 := 12) (l1 := [gp_r v0, gp_i v1, gp_l v2, gp_n, gp_i v4]) (l2 := [gp_r v0, gp_i v1, gp_l v2, gp_n, gp_i v4]) (s1 := []) (s2 := []) rfl gs_b1 (fun hc => ?_) (fun hc => ?_)
  · replace H := H.1 hc
    refine gs_E.stp (pc' := 46) (ls' := [gp_r v0, gp_i v1, gp_l v2, gp_n, gp_i v4]) (st' := [gp_l v2]) (s' := s) 1 rfl ?_
    exact gs_E.ret (r := (some (gp_l v2))) rfl H
  · replace H := H.2 hc
    refine gs_E.stp (pc' := 15) (ls' := [gp_r v0, gp_i v1, gp_l v2, gp_n, gp_i v4]) (st' := [gp_i v4, gp_l v2]) (s' := s) 2 rfl ?_
    refine gs_E.call (args := [gp_l v2, gp_i v4]) (m := 3) (y' := 2862) (st' := []) rfl H (fun r s1 H => ?_)
    obtain ⟨x2, rfl, H⟩ := H
    show gs_E L (d + 1) 2309 18 [gp_r v0, gp_i v1, gp_l v2, gp_n, gp_i v4] [gp_i x2] s1 K
    refine gs_E.br (c := x2 = 0) (p1 := 39) (p2 := 21) (l1 := [gp_r v0, gp_i v1, gp_l v2, gp_n, gp_i v4]) (l2 := [gp_r v0, gp_i v1, gp_l v2, gp_n, gp_i v4]) (s1 := []) (s2 := []) rfl gs_b1 (fun hc => ?_) (fun hc => ?_)
    · replace H := H.1 hc
      exact H
    · replace H := H.2 hc
      refine gs_E.stp (pc' := 23) (ls' := [gp_r v0, gp_i v1, gp_l v2, gp_n, gp_i v4]) (st' := [gp_r v0, gp_l v2]) (s' := s1) 2 rfl ?_
      obtain ⟨q3, hq, H⟩ := H
      rw [hq]
      refine gs_E.ck (pc' := 26) (ls' := [gp_r (some q3), gp_i v1, gp_l v2, gp_n, gp_i v4]) (st' := [gp_r (gp_R (gp_mk L s1) q3 1), gp_l v2]) (s' := s1) rfl H.1 ?_
      replace H := H.2
      refine gs_E.stp (pc' := 28) (ls' := [gp_r (some q3), gp_i v1, gp_l v2, gp_n, gp_i v4]) (st' := [gp_i v4, gp_r (gp_R (gp_mk L s1) q3 1), gp_l v2]) (s' := s1) 1 rfl ?_
      obtain ⟨q4, hq, H⟩ := H
      rw [hq]
      refine gs_E.ck (pc' := 29) (ls' := [gp_r (some q3), gp_i v1, gp_l v2, gp_n, gp_i v4]) (st' := [gp_l (gp_L s1 q4 v4.toNat), gp_l v2]) (s' := s1) rfl H.1 ?_
      replace H := H.2
      refine gs_E.stp (pc' := 30) (ls' := [gp_r (some q3), gp_i v1, gp_l v2, gp_n, gp_i v4]) (st' := [gp_r (some q3), gp_l (gp_L s1 q4 v4.toNat), gp_l v2]) (s' := s1) 1 rfl ?_
      refine gs_E.ck (pc' := 33) (ls' := [gp_r (some q3), gp_i v1, gp_l v2, gp_n, gp_i v4]) (st' := [gp_r (gp_R (gp_mk L s1) q3 2), gp_l (gp_L s1 q4 v4.toNat), gp_l v2]) (s' := s1) rfl H.1 ?_
      replace H := H.2
      refine gs_E.stp (pc' := 35) (ls' := [gp_r (some q3), gp_i v1, gp_l v2, gp_n, gp_i v4]) (st' := [gp_i v4, gp_r (gp_R (gp_mk L s1) q3 2), gp_l (gp_L s1 q4 v4.toNat), gp_l v2]) (s' := s1) 1 rfl ?_
      obtain ⟨q5, hq, H⟩ := H
      rw [hq]
      refine gs_E.ck (pc' := 36) (ls' := [gp_r (some q3), gp_i v1, gp_l v2, gp_n, gp_i v4]) (st' := [gp_l (gp_L s1 q5 v4.toNat), gp_l (gp_L s1 q4 v4.toNat), gp_l v2]) (s' := s1) rfl H.1 ?_
      replace H := H.2
      refine gs_E.stp (pc' := 39) (ls' := [gp_r (some q3), gp_i v1, gp_l (v2 ||| ((gp_L s1 q4 v4.toNat) ||| (gp_L s1 q5 v4.toNat))), gp_n, gp_i v4]) (st' := []) (s' := s1) 3 rfl ?_
      exact H

set_option maxRecDepth 100000 in
/-- Table.followers, pc 39 -/
theorem s_2309_39 {L d : Nat} {K : Option gV → gH → Prop} {s : gH} (v0 : Option Nat) (v1 : Int) (v2 : BitVec 64) (v4 : Int) (H : gs_E L (d + 1) 2309 7 [gp_r v0, gp_i v1, gp_l v2, gp_n, gp_i (gp_wr (v4 + (-1)))] [] s K) : gs_E L (d + 1) 2309 39 [gp_r v0, gp_i v1, gp_l v2, gp_n, gp_i v4] [] s K := by
  refine gs_E.stp (pc' := 7) (ls' := [gp_r v0, gp_i v1, gp_l v2, gp_n, gp_i (gp_wr (v4 + (-1)))]) (st' := []) (s' := s) 2 rfl ?_
  exact H

set_option maxRecDepth 100000 in
/-- Table.tooBig, pc 0 -/
theorem s_2310_e {L d : Nat} {K : Option gV → gH → Prop} {s : gH} (this : Option Nat) (H : gs_E L d 2310 2 [gp_r this, gp_i 0] [] s K) : gs_C L d 2310 2 [gp_r this] s K := by
  show gs_E L d 2310 0 [gp_r this, gp_n] [] s K
  refine gs_E.stp (pc' := 2) (ls' := [gp_r this, gp_i 0]) (st' := []) (s' := s) 2 rfl ?_
  exact H

set_option maxRecDepth 100000 in
/-- Table.tooBig, pc 2 -/
theorem s_2310_2 {L d : Nat} {K : Option gV → gH → Prop} {s : gH} (v0 : Option Nat) (v1 : Int) (H : (∃ q1, v0 = some q1 ∧ ((gp_sh (gp_mk L s) q1).1 = 9 ∧ ((v1 < (gp_I s q1 0) → ((gp_sh (gp_mk L s) q1).1 = 9 ∧ (∃ q2, gp_R (gp_mk L s) q1 3 = some q2 ∧ (gp_in (gp_mk L s) 100 q2 v1 ∧ ((99999 < (gp_ab (gp_I s q2 v1.toNat)) → gs_E L d 2310 38 [gp_r (some q1), gp_i v1] [] s K) ∧ (¬ 99999 < (gp_ab (gp_I s q2 v1.toNat)) → ((gp_sh (gp_mk L s) q1).1 = 9 ∧ (∃ q3, gp_R (gp_mk L s) q1 4 = some q3 ∧ (gp_in (gp_mk L s) 100 q3 v1 ∧ ((99999 < (gp_ab (gp_I s q3 v1.toNat)) → gs_E L d 2310 38 [gp_r (some q1), gp_i v1] [] s K) ∧ (¬ 99999 < (gp_ab (gp_I s q3 v1.toNat)) → gs_E L d 2310 2 [gp_r (some q1), gp_i (gp_wr (v1 + 1))] [] s K))))))))))) ∧ (¬ v1 < (gp_I s q1 0) → K (some (gp_i 0)) s))))) : gs_E L d 2310 2 [gp_r v0, gp_i v1] [] s K := by
  refine gs_E.stp (pc' := 4) (ls' := [gp_r v0, gp_i v1]) (st' := [gp_r v0, gp_i v1]) (s' := s) 2 rfl ?_
  obtain ⟨q1, hq, H⟩ := H
  rw [hq]
  refine gs_E.ck (pc' := 7) (ls' := [gp_r (some q1), gp_i v1]) (st' := [gp_i (gp_I s q1 0), gp_i v1]) (s' := s) rfl H.1 ?_
  replace H := H.2
  refine gs_E.br (c := ¬ v1 < (gp_I s q1 0)) (p1 := 46) (p2 := 10) (l1 := [gp_r (some q1), gp_i v1]) (l2 := [gp_r (some q1), gp_i v1]) (s1 := []) (s2 := []) rfl gs_b2 (fun hc => ?_) (fun hc => ?_)
  · replace H := H.2 hc
    refine gs_E.stp (pc' := 47) (ls' := [gp_r (some q1), gp_i v1]) (st' := [gp_i 0]) (s' := s) 1 rfl ?_
    exact gs_E.ret (r := (some (gp_i 0))) rfl H
  · replace H := H.1 (Decidable.byContradiction hc)
    refine gs_E.stp (pc' := 11) (ls' := [gp_r (some q1), gp_i v1]) (st' := [gp_r (some q1)]) (s' := s) 1 rfl ?_
    refine gs_E.ck (pc' := 14) (ls' := [gp_r (some q1), gp_i v1]) (st' := [gp_r (gp_R (gp_mk L s) q1 3)]) (s' := s) rfl H.1 ?_
    replace H := H.2
    refine gs_E.stp (pc' := 15) (ls' := [gp_r (some q1), gp_i v1]) (st' := [gp_i v1, gp_r (gp_R (gp_mk L s) q1 3)]) (s' := s) 1 rfl ?_
    obtain ⟨q2, hq, H⟩ := H
    rw [hq]
    refine gs_E.ck (pc' := 16) (ls' := [gp_r (some q1), gp_i v1]) (st' := [gp_i (gp_I s q2 v1.toNat)]) (s' := s) rfl (Or.inl H.1) ?_
    replace H := H.2
    refine gs_E.stp (pc' := 21) (ls' := [gp_r (some q1), gp_i v1]) (st' := [gp_i 99999, gp_i (gp_ab (gp_I s q2 v1.toNat))]) (s' := s) 2 rfl ?_
    refine gs_E.br (c := 99999 < (gp_ab (gp_I s q2 v1.toNat))) (p1 := 38) (p2 := 24) (l1 := [gp_r (some q1), gp_i v1]) (l2 := [gp_r (some q1), gp_i v1]) (s1 := []) (s2 := []) rfl gs_b1 (fun hc => ?_) (fun hc => ?_)
    · replace H := H.1 hc
      exact H
    · replace H := H.2 hc
      refine gs_E.stp (pc' := 25) (ls' := [gp_r (some q1), gp_i v1]) (st' := [gp_r (some q1)]) (s' := s) 1 rfl ?_
      refine gs_E.ck (pc' := 28) (ls' := [gp_r (some q1), gp_i v1]) (st' := [gp_r (gp_R (gp_mk L s) q1 4)]) (s' := s) rfl H.1 ?_
      replace H := H.2
      refine gs_E.stp (pc' := 29) (ls' := [gp_r (some q1), gp_i v1]) (st' := [gp_i v1, gp_r (gp_R (gp_mk L s) q1 4)]) (s' := s) 1 rfl ?_
      obtain ⟨q3, hq, H⟩ := H
      rw [hq]
      refine gs_E.ck (pc' := 30) (ls' := [gp_r (some q1), gp_i v1]) (st' := [gp_i (gp_I s q3 v1.toNat)]) (s' := s) rfl (Or.inl H.1) ?_
      replace H := H.2
      refine gs_E.stp (pc' := 35) (ls' := [gp_r (some q1), gp_i v1]) (st' := [gp_i 99999, gp_i (gp_ab (gp_I s q3 v1.toNat))]) (s' := s) 2 rfl ?_
      refine gs_E.br (c := ¬ 99999 < (gp_ab (gp_I s q3 v1.toNat))) (p1 := 40) (p2 := 38) (l1 := [gp_r (some q1), gp_i v1]) (l2 := [gp_r (some q1), gp_i v1]) (s1 := []) (s2 := []) rfl gs_b2 (fun hc => ?_) (fun hc => ?_)
      · replace H := H.2 hc
        refine gs_E.stp (pc' := 2) (ls' := [gp_r (some q1), gp_i (gp_wr (v1 + 1))]) (st' := []) (s' := s) 2 rfl ?_
        exact H
      · replace H := H.1 (Decidable.byContradiction hc)
        exact H

set_option maxRecDepth 100000 in
/-- Table.tooBig, pc 38 -/
theorem s_2310_38 {L d : Nat} {K : Option gV → gH → Prop} {s : gH} (v0 : Option Nat) (v1 : Int) (H : K (some (gp_i 1)) s) : gs_E L d 2310 38 [gp_r v0, gp_i v1] [] s K := by
  refine gs_E.stp (pc' := 39) (ls' := [gp_r v0, gp_i v1]) (st' := [gp_i 1]) (s' := s) 1 rfl ?_
  exact gs_E.ret (r := (some (gp_i 1))) rfl H

set_option maxRecDepth 100000 in
/-- java/lang/Integer.compare, pc 0 -/
theorem s_3328_e {L d : Nat} {K : Option gV → gH → Prop} {s : gH} (p0 : Int) (p1 : Int) (H : ((p0 < p1 → gs_E L d 3328 19 [gp_i p0, gp_i p1] [gp_i (-1)] s K) ∧ (¬ p0 < p1 → ((p0 = p1 → gs_E L d 3328 19 [gp_i p0, gp_i p1] [gp_i 0] s K) ∧ (¬ p0 = p1 → gs_E L d 3328 19 [gp_i p0, gp_i p1] [gp_i 1] s K))))) : gs_C L d 3328 2 [gp_i p0, gp_i p1] s K := by
  show gs_E L d 3328 0 [gp_i p0, gp_i p1] [] s K
  refine gs_E.stp (pc' := 2) (ls' := [gp_i p0, gp_i p1]) (st' := [gp_i p1, gp_i p0]) (s' := s) 2 rfl ?_
  refine gs_E.br (c := ¬ p0 < p1) (p1 := 9) (p2 := 5) (l1 := [gp_i p0, gp_i p1]) (l2 := [gp_i p0, gp_i p1]) (s1 := []) (s2 := []) rfl gs_b2 (fun hc => ?_) (fun hc => ?_)
  · replace H := H.2 hc
    refine gs_E.stp (pc' := 11) (ls' := [gp_i p0, gp_i p1]) (st' := [gp_i p1, gp_i p0]) (s' := s) 2 rfl ?_
    refine gs_E.br (c := ¬ p0 = p1) (p1 := 18) (p2 := 14) (l1 := [gp_i p0, gp_i p1]) (l2 := [gp_i p0, gp_i p1]) (s1 := []) (s2 := []) rfl gs_b2 (fun hc => ?_) (fun hc => ?_)
    · replace H := H.2 hc
      refine gs_E.stp (pc' := 19) (ls' := [gp_i p0, gp_i p1]) (st' := [gp_i 1]) (s' := s) 1 rfl ?_
      exact H
    · replace H := H.1 (Decidable.byContradiction hc)
      refine gs_E.stp (pc' := 19) (ls' := [gp_i p0, gp_i p1]) (st' := [gp_i 0]) (s' := s) 2 rfl ?_
      exact H
  · replace H := H.1 (Decidable.byContradiction hc)
    refine gs_E.stp (pc' := 19) (ls' := [gp_i p0, gp_i p1]) (st' := [gp_i (-1)]) (s' := s) 2 rfl ?_
    exact H

set_option maxRecDepth 100000 in
/-- java/lang/Integer.compare, pc 19 -/
theorem s_3328_19 {L d : Nat} {K : Option gV → gH → Prop} {s : gH} (v0 : Int) (v1 : Int) (w0 : Int) (H : K (some (gp_i w0)) s) : gs_E L d 3328 19 [gp_i v0, gp_i v1] [gp_i w0] s K := by
  exact gs_E.ret (r := (some (gp_i w0))) rfl H

set_option maxRecDepth 100000 in
/-- java/lang/Integer.numberOfTrailingZeros, pc 0 -/
theorem s_3329_e {L d : Nat} {K : Option gV → gH → Prop} {s : gH} (p0 : Int) (H : ((0 < (gp_and (gp_xor p0 (-1)) (gp_wr (p0 - 1))) → ((65536 < (gp_and (gp_xor p0 (-1)) (gp_wr (p0 - 1))) → gs_E L d 3329 34 [gp_i (gp_ushr (gp_and (gp_xor p0 (-1)) (gp_wr (p0 - 1))) 16), gp_i (gp_wr (1 + 16))] [] s K) ∧ (¬ 65536 < (gp_and (gp_xor p0 (-1)) (gp_wr (p0 - 1))) → gs_E L d 3329 34 [gp_i (gp_and (gp_xor p0 (-1)) (gp_wr (p0 - 1))), gp_i 1] [] s K))) ∧ (¬ 0 < (gp_and (gp_xor p0 (-1)) (gp_wr (p0 - 1))) → K (some (gp_i (gp_and (gp_and (gp_xor p0 (-1)) (gp_wr (p0 - 1))) 32))) s))) : gs_C L d 3329 2 [gp_i p0] s K := by
  show gs_E L d 3329 0 [gp_i p0, gp_n] [] s K
  refine gs_E.stp (pc' := 9) (ls' := [gp_i (gp_and (gp_xor p0 (-1)) (gp_wr (p0 - 1))), gp_n]) (st' := [gp_i (gp_and (gp_xor p0 (-1)) (gp_wr (p0 - 1)))]) (s' := s) 9 rfl ?_
  refine gs_E.br (c := 0 < (gp_and (gp_xor p0 (-1)) (gp_wr (p0 - 1)))) (p1 := 17) (p2 := 12) (l1 := [gp_i (gp_and (gp_xor p0 (-1)) (gp_wr (p0 - 1))), gp_n]) (l2 := [gp_i (gp_and (gp_xor p0 (-1)) (gp_wr (p0 - 1))), gp_n]) (s1 := []) (s2 := []) rfl gs_b1 (fun hc => ?_) (fun hc => ?_)
  · replace H := H.1 hc
    refine gs_E.stp (pc' := 23) (ls' := [gp_i (gp_and (gp_xor p0 (-1)) (gp_wr (p0 - 1))), gp_i 1]) (st' := [gp_i 65536, gp_i (gp_and (gp_xor p0 (-1)) (gp_wr (p0 - 1)))]) (s' := s) 4 rfl ?_
    refine gs_E.br (c := ¬ 65536 < (gp_and (gp_xor p0 (-1)) (gp_wr (p0 - 1)))) (p1 := 34) (p2 := 26) (l1 := [gp_i (gp_and (gp_xor p0 (-1)) (gp_wr (p0 - 1))), gp_i 1]) (l2 := [gp_i (gp_and (gp_xor p0 (-1)) (gp_wr (p0 - 1))), gp_i 1]) (s1 := []) (s2 := []) rfl gs_b2 (fun hc => ?_) (fun hc => ?_)
    · replace H := H.2 hc
      exact H
    · replace H := H.1 (Decidable.byContradiction hc)
      refine gs_E.stp (pc' := 34) (ls' := [gp_i (gp_ushr (gp_and (gp_xor p0 (-1)) (gp_wr (p0 - 1))) 16), gp_i (gp_wr (1 + 16))]) (st' := []) (s' := s) 5 rfl ?_
      exact H
  · replace H := H.2 hc
    refine gs_E.stp (pc' := 16) (ls' := [gp_i (gp_and (gp_xor p0 (-1)) (gp_wr (p0 - 1))), gp_n]) (st' := [gp_i (gp_and (gp_and (gp_xor p0 (-1)) (gp_wr (p0 - 1))) 32)]) (s' := s) 3 rfl ?_
    exact gs_E.ret (r := (some (gp_i (gp_and (gp_and (gp_xor p0 (-1)) (gp_wr (p0 - 1))) 32)))) rfl H

set_option maxRecDepth 100000 in
/-- java/lang/Integer.numberOfTrailingZeros, pc 34 -/
theorem s_3329_34 {L d : Nat} {K : Option gV → gH → Prop} {s : gH} (v0 : Int) (v1 : Int) (H : ((256 < v0 → gs_E L d 3329 49 [gp_i (gp_ushr v0 8), gp_i (gp_wr (v1 + 8))] [] s K) ∧ (¬ 256 < v0 → gs_E L d 3329 49 [gp_i v0, gp_i v1] [] s K))) : gs_E L d 3329 34 [gp_i v0, gp_i v1] [] s K := by
  refine gs_E.stp (pc' := 38) (ls' := [gp_i v0, gp_i v1]) (st' := [gp_i 256, gp_i v0]) (s' := s) 2 rfl ?_
  refine gs_E.br (c := ¬ 256 < v0) (p1 := 49) (p2 := 41) (l1 := [gp_i v0, gp_i v1]) (l2 := [gp_i v0, gp_i v1]) (s1 := []) (s2 := []) rfl gs_b2 (fun hc => ?_) (fun hc => ?_)
  · replace H := H.2 hc
    exact H
  · replace H := H.1 (Decidable.byContradiction hc)
    refine gs_E.stp (pc' := 49) (ls' := [gp_i (gp_ushr v0 8), gp_i (gp_wr (v1 + 8))]) (st' := []) (s' := s) 5 rfl ?_
    exact H

set_option maxRecDepth 100000 in
/-- java/lang/Integer.numberOfTrailingZeros, pc 49 -/
theorem s_3329_49 {L d : Nat} {K : Option gV → gH → Prop} {s : gH} (v0 : Int) (v1 : Int) (H : ((16 < v0 → gs_E L d 3329 62 [gp_i (gp_ushr v0 4), gp_i (gp_wr (v1 + 4))] [] s K) ∧ (¬ 16 < v0 → gs_E L d 3329 62 [gp_i v0, gp_i v1] [] s K))) : gs_E L d 3329 49 [gp_i v0, gp_i v1] [] s K := by
  refine gs_E.stp (pc' := 52) (ls' := [gp_i v0, gp_i v1]) (st' := [gp_i 16, gp_i v0]) (s' := s) 2 rfl ?_
  refine gs_E.br (c := ¬ 16 < v0) (p1 := 62) (p2 := 55) (l1 := [gp_i v0, gp_i v1]) (l2 := [gp_i v0, gp_i v1]) (s1 := []) (s2 := []) rfl gs_b2 (fun hc => ?_) (fun hc => ?_)
  · replace H := H.2 hc
    exact H
  · replace H := H.1 (Decidable.byContradiction hc)
    refine gs_E.stp (pc' := 62) (ls' := [gp_i (gp_ushr v0 4), gp_i (gp_wr (v1 + 4))]) (st' := []) (s' := s) 5 rfl ?_
    exact H

set_option maxRecDepth 100000 in
/-- java/lang/Integer.numberOfTrailingZeros, pc 62 -/
theorem s_3329_62 {L d : Nat} {K : Option gV → gH → Prop} {s : gH} (v0 : Int) (v1 : Int) (H : ((4 < v0 → gs_E L d 3329 74 [gp_i (gp_ushr v0 2), gp_i (gp_wr (v1 + 2))] [] s K) ∧ (¬ 4 < v0 → gs_E L d 3329 74 [gp_i v0, gp_i v1] [] s K))) : gs_E L d 3329 62 [gp_i v0, gp_i v1] [] s K := by
  refine gs_E.stp (pc' := 64) (ls' := [gp_i v0, gp_i v1]) (st' := [gp_i 4, gp_i v0]) (s' := s) 2 rfl ?_
  refine gs_E.br (c := ¬ 4 < v0) (p1 := 74) (p2 := 67) (l1 := [gp_i v0, gp_i v1]) (l2 := [gp_i v0, gp_i v1]) (s1 := []) (s2 := []) rfl gs_b2 (fun hc => ?_) (fun hc => ?_)
  · replace H := H.2 hc
    exact H
  · replace H := H.1 (Decidable.byContradiction hc)
    refine gs_E.stp (pc' := 74) (ls' := [gp_i (gp_ushr v0 2), gp_i (gp_wr (v1 + 2))]) (st' := []) (s' := s) 5 rfl ?_
    exact H

set_option maxRecDepth 100000 in
/-- java/lang/Integer.numberOfTrailingZeros, pc 74 -/
theorem s_3329_74 {L d : Nat} {K : Option gV → gH → Prop} {s : gH} (v0 : Int) (v1 : Int) (H : K (some (gp_i (gp_wr (v1 + (gp_ushr v0 1))))) s) : gs_E L d 3329 74 [gp_i v0, gp_i v1] [] s K := by
  refine gs_E.stp (pc' := 79) (ls' := [gp_i v0, gp_i v1]) (st' := [gp_i (gp_wr (v1 + (gp_ushr v0 1)))]) (s' := s) 5 rfl ?_
  exact gs_E.ret (r := (some (gp_i (gp_wr (v1 + (gp_ushr v0 1)))))) rfl H

set_option maxRecDepth 100000 in
/-- java/lang/Integer.bitCount, pc 0 -/
theorem s_3330_e {L d : Nat} {K : Option gV → gH → Prop} {s : gH} (p0 : Int) (H : K (some (gp_i (gp_and (gp_wr ((gp_wr ((gp_and (gp_wr ((gp_wr ((gp_and (gp_wr (p0 - (gp_and (gp_ushr p0 1) 1431655765))) 858993459) + (gp_and (gp_ushr (gp_wr (p0 - (gp_and (gp_ushr p0 1) 1431655765))) 2) 858993459))) + (gp_ushr (gp_wr ((gp_and (gp_wr (p0 - (gp_and (gp_ushr p0 1) 1431655765))) 858993459) + (gp_and (gp_ushr (gp_wr (p0 - (gp_and (gp_ushr p0 1) 1431655765))) 2) 858993459))) 4))) 252645135) + (gp_ushr (gp_and (gp_wr ((gp_wr ((gp_and (gp_wr (p0 - (gp_and (gp_ushr p0 1) 1431655765))) 858993459) + (gp_and (gp_ushr (gp_wr (p0 - (gp_and (gp_ushr p0 1) 1431655765))) 2) 858993459))) + (gp_ushr (gp_wr ((gp_and (gp_wr (p0 - (gp_and (gp_ushr p0 1) 1431655765))) 858993459) + (gp_and (gp_ushr (gp_wr (p0 - (gp_and (gp_ushr p0 1) 1431655765))) 2) 858993459))) 4))) 252645135) 8))) + (gp_ushr (gp_wr ((gp_and (gp_wr ((gp_wr ((gp_and (gp_wr (p0 - (gp_and (gp_ushr p0 1) 1431655765))) 858993459) + (gp_and (gp_ushr (gp_wr (p0 - (gp_and (gp_ushr p0 1) 1431655765))) 2) 858993459))) + (gp_ushr (gp_wr ((gp_and (gp_wr (p0 - (gp_and (gp_ushr p0 1) 1431655765))) 858993459) + (gp_and (gp_ushr (gp_wr (p0 - (gp_and (gp_ushr p0 1) 1431655765))) 2) 858993459))) 4))) 252645135) + (gp_ushr (gp_and (gp_wr ((gp_wr ((gp_and (gp_wr (p0 - (gp_and (gp_ushr p0 1) 1431655765))) 858993459) + (gp_and (gp_ushr (gp_wr (p0 - (gp_and (gp_ushr p0 1) 1431655765))) 2) 858993459))) + (gp_ushr (gp_wr ((gp_and (gp_wr (p0 - (gp_and (gp_ushr p0 1) 1431655765))) 858993459) + (gp_and (gp_ushr (gp_wr (p0 - (gp_and (gp_ushr p0 1) 1431655765))) 2) 858993459))) 4))) 252645135) 8))) 16))) 63))) s) : gs_C L d 3330 1 [gp_i p0] s K := by
  show gs_E L d 3330 0 [gp_i p0] [] s K
  refine gs_E.stp (pc' := 52) (ls' := [gp_i (gp_wr ((gp_wr ((gp_and (gp_wr ((gp_wr ((gp_and (gp_wr (p0 - (gp_and (gp_ushr p0 1) 1431655765))) 858993459) + (gp_and (gp_ushr (gp_wr (p0 - (gp_and (gp_ushr p0 1) 1431655765))) 2) 858993459))) + (gp_ushr (gp_wr ((gp_and (gp_wr (p0 - (gp_and (gp_ushr p0 1) 1431655765))) 858993459) + (gp_and (gp_ushr (gp_wr (p0 - (gp_and (gp_ushr p0 1) 1431655765))) 2) 858993459))) 4))) 252645135) + (gp_ushr (gp_and (gp_wr ((gp_wr ((gp_and (gp_wr (p0 - (gp_and (gp_ushr p0 1) 1431655765))) 858993459) + (gp_and (gp_ushr (gp_wr (p0 - (gp_and (gp_ushr p0 1) 1431655765))) 2) 858993459))) + (gp_ushr (gp_wr ((gp_and (gp_wr (p0 - (gp_and (gp_ushr p0 1) 1431655765))) 858993459) + (gp_and (gp_ushr (gp_wr (p0 - (gp_and (gp_ushr p0 1) 1431655765))) 2) 858993459))) 4))) 252645135) 8))) + (gp_ushr (gp_wr ((gp_and (gp_wr ((gp_wr ((gp_and (gp_wr (p0 - (gp_and (gp_ushr p0 1) 1431655765))) 858993459) + (gp_and (gp_ushr (gp_wr (p0 - (gp_and (gp_ushr p0 1) 1431655765))) 2) 858993459))) + (gp_ushr (gp_wr ((gp_and (gp_wr (p0 - (gp_and (gp_ushr p0 1) 1431655765))) 858993459) + (gp_and (gp_ushr (gp_wr (p0 - (gp_and (gp_ushr p0 1) 1431655765))) 2) 858993459))) 4))) 252645135) + (gp_ushr (gp_and (gp_wr ((gp_wr ((gp_and (gp_wr (p0 - (gp_and (gp_ushr p0 1) 1431655765))) 858993459) + (gp_and (gp_ushr (gp_wr (p0 - (gp_and (gp_ushr p0 1) 1431655765))) 2) 858993459))) + (gp_ushr (gp_wr ((gp_and (gp_wr (p0 - (gp_and (gp_ushr p0 1) 1431655765))) 858993459) + (gp_and (gp_ushr (gp_wr (p0 - (gp_and (gp_ushr p0 1) 1431655765))) 2) 858993459))) 4))) 252645135) 8))) 16)))]) (st' := [gp_i (gp_and (gp_wr ((gp_wr ((gp_and (gp_wr ((gp_wr ((gp_and (gp_wr (p0 - (gp_and (gp_ushr p0 1) 1431655765))) 858993459) + (gp_and (gp_ushr (gp_wr (p0 - (gp_and (gp_ushr p0 1) 1431655765))) 2) 858993459))) + (gp_ushr (gp_wr ((gp_and (gp_wr (p0 - (gp_and (gp_ushr p0 1) 1431655765))) 858993459) + (gp_and (gp_ushr (gp_wr (p0 - (gp_and (gp_ushr p0 1) 1431655765))) 2) 858993459))) 4))) 252645135) + (gp_ushr (gp_and (gp_wr ((gp_wr ((gp_and (gp_wr (p0 - (gp_and (gp_ushr p0 1) 1431655765))) 858993459) + (gp_and (gp_ushr (gp_wr (p0 - (gp_and (gp_ushr p0 1) 1431655765))) 2) 858993459))) + (gp_ushr (gp_wr ((gp_and (gp_wr (p0 - (gp_and (gp_ushr p0 1) 1431655765))) 858993459) + (gp_and (gp_ushr (gp_wr (p0 - (gp_and (gp_ushr p0 1) 1431655765))) 2) 858993459))) 4))) 252645135) 8))) + (gp_ushr (gp_wr ((gp_and (gp_wr ((gp_wr ((gp_and (gp_wr (p0 - (gp_and (gp_ushr p0 1) 1431655765))) 858993459) + (gp_and (gp_ushr (gp_wr (p0 - (gp_and (gp_ushr p0 1) 1431655765))) 2) 858993459))) + (gp_ushr (gp_wr ((gp_and (gp_wr (p0 - (gp_and (gp_ushr p0 1) 1431655765))) 858993459) + (gp_and (gp_ushr (gp_wr (p0 - (gp_and (gp_ushr p0 1) 1431655765))) 2) 858993459))) 4))) 252645135) + (gp_ushr (gp_and (gp_wr ((gp_wr ((gp_and (gp_wr (p0 - (gp_and (gp_ushr p0 1) 1431655765))) 858993459) + (gp_and (gp_ushr (gp_wr (p0 - (gp_and (gp_ushr p0 1) 1431655765))) 2) 858993459))) + (gp_ushr (gp_wr ((gp_and (gp_wr (p0 - (gp_and (gp_ushr p0 1) 1431655765))) 858993459) + (gp_and (gp_ushr (gp_wr (p0 - (gp_and (gp_ushr p0 1) 1431655765))) 2) 858993459))) 4))) 252645135) 8))) 16))) 63)]) (s' := s) 41 rfl ?_
  exact gs_E.ret (r := (some (gp_i (gp_and (gp_wr ((gp_wr ((gp_and (gp_wr ((gp_wr ((gp_and (gp_wr (p0 - (gp_and (gp_ushr p0 1) 1431655765))) 858993459) + (gp_and (gp_ushr (gp_wr (p0 - (gp_and (gp_ushr p0 1) 1431655765))) 2) 858993459))) + (gp_ushr (gp_wr ((gp_and (gp_wr (p0 - (gp_and (gp_ushr p0 1) 1431655765))) 858993459) + (gp_and (gp_ushr (gp_wr (p0 - (gp_and (gp_ushr p0 1) 1431655765))) 2) 858993459))) 4))) 252645135) + (gp_ushr (gp_and (gp_wr ((gp_wr ((gp_and (gp_wr (p0 - (gp_and (gp_ushr p0 1) 1431655765))) 858993459) + (gp_and (gp_ushr (gp_wr (p0 - (gp_and (gp_ushr p0 1) 1431655765))) 2) 858993459))) + (gp_ushr (gp_wr ((gp_and (gp_wr (p0 - (gp_and (gp_ushr p0 1) 1431655765))) 858993459) + (gp_and (gp_ushr (gp_wr (p0 - (gp_and (gp_ushr p0 1) 1431655765))) 2) 858993459))) 4))) 252645135) 8))) + (gp_ushr (gp_wr ((gp_and (gp_wr ((gp_wr ((gp_and (gp_wr (p0 - (gp_and (gp_ushr p0 1) 1431655765))) 858993459) + (gp_and (gp_ushr (gp_wr (p0 - (gp_and (gp_ushr p0 1) 1431655765))) 2) 858993459))) + (gp_ushr (gp_wr ((gp_and (gp_wr (p0 - (gp_and (gp_ushr p0 1) 1431655765))) 858993459) + (gp_and (gp_ushr (gp_wr (p0 - (gp_and (gp_ushr p0 1) 1431655765))) 2) 858993459))) 4))) 252645135) + (gp_ushr (gp_and (gp_wr ((gp_wr ((gp_and (gp_wr (p0 - (gp_and (gp_ushr p0 1) 1431655765))) 858993459) + (gp_and (gp_ushr (gp_wr (p0 - (gp_and (gp_ushr p0 1) 1431655765))) 2) 858993459))) + (gp_ushr (gp_wr ((gp_and (gp_wr (p0 - (gp_and (gp_ushr p0 1) 1431655765))) 858993459) + (gp_and (gp_ushr (gp_wr (p0 - (gp_and (gp_ushr p0 1) 1431655765))) 2) 858993459))) 4))) 252645135) 8))) 16))) 63)))) rfl H

set_option maxRecDepth 100000 in
/-- java/lang/Long.numberOfTrailingZeros, pc 0 -/
theorem s_3584_e {L d : Nat} {K : Option gV → gH → Prop} {s : gH} (p0 : BitVec 64) (H : (((gp_wr p0.toInt) = 0 → gs_C L d 3329 2 [gp_i (gp_wr (p0 >>> 32).toInt)] s (fun r s3 => ∃ x4, r = some (gp_i x4) ∧ gs_E L (d + 1) 3584 25 [gp_l p0, gp_n, gp_i (gp_wr p0.toInt)] [gp_i (gp_wr (32 + x4))] s3 K)) ∧ (¬ (gp_wr p0.toInt) = 0 → gs_C L d 3329 2 [gp_i (gp_wr p0.toInt)] s (fun r s1 => ∃ x2, r = some (gp_i x2) ∧ gs_E L (d + 1) 3584 25 [gp_l p0, gp_n, gp_i (gp_wr p0.toInt)] [gp_i x2] s1 K)))) : gs_C L (d + 1) 3584 3 [gp_l p0] s K := by
  show gs_E L (d + 1) 3584 0 [gp_l p0, gp_n, gp_n] [] s K
  refine gs_E.stp (pc' := 4) (ls' := [gp_l p0, gp_n, gp_i (gp_wr p0.toInt)]) (st' := [gp_i (gp_wr p0.toInt)]) (s' := s) 4 rfl ?_
  refine gs_E.br (c := ¬ (gp_wr p0.toInt) = 0) (p1 := 21) (p2 := 7) (l1 := [gp_l p0, gp_n, gp_i (gp_wr p0.toInt)]) (l2 := [gp_l p0, gp_n, gp_i (gp_wr p0.toInt)]) (s1 := []) (s2 := []) rfl gs_b2 (fun hc => ?_) (fun hc => ?_)
  · replace H := H.2 hc
    refine gs_E.stp (pc' := 22) (ls' := [gp_l p0, gp_n, gp_i (gp_wr p0.toInt)]) (st' := [gp_i (gp_wr p0.toInt)]) (s' := s) 1 rfl ?_
    refine gs_E.call (args := [gp_i (gp_wr p0.toInt)]) (m := 2) (y' := 3329) (st' := []) rfl H (fun r s1 H => ?_)
    obtain ⟨x2, rfl, H⟩ := H
    show gs_E L (d + 1) 3584 25 [gp_l p0, gp_n, gp_i (gp_wr p0.toInt)] [gp_i x2] s1 K
    exact H
  · replace H := H.1 (Decidable.byContradiction hc)
    refine gs_E.stp (pc' := 14) (ls' := [gp_l p0, gp_n, gp_i (gp_wr p0.toInt)]) (st' := [gp_i (gp_wr (p0 >>> 32).toInt), gp_i 32]) (s' := s) 5 rfl ?_
    refine gs_E.call (args := [gp_i (gp_wr (p0 >>> 32).toInt)]) (m := 2) (y' := 3329) (st' := [gp_i 32]) rfl H (fun r s3 H => ?_)
    obtain ⟨x4, rfl, H⟩ := H
    show gs_E L (d + 1) 3584 17 [gp_l p0, gp_n, gp_i (gp_wr p0.toInt)] [gp_i x4, gp_i 32] s3 K
    refine gs_E.stp (pc' := 25) (ls' := [gp_l p0, gp_n, gp_i (gp_wr p0.toInt)]) (st' := [gp_i (gp_wr (32 + x4))]) (s' := s3) 2 rfl ?_
    exact H

set_option maxRecDepth 100000 in
/-- java/lang/Long.numberOfTrailingZeros, pc 25 -/
theorem s_3584_25 {L d : Nat} {K : Option gV → gH → Prop} {s : gH} (v0 : BitVec 64) (v2 : Int) (w0 : Int) (H : K (some (gp_i w0)) s) : gs_E L (d + 1) 3584 25 [gp_l v0, gp_n, gp_i v2] [gp_i w0] s K := by
  exact gs_E.ret (r := (some (gp_i w0))) rfl H

set_option maxRecDepth 100000 in
/-- java/lang/Long.bitCount, pc 0 -/
theorem s_3585_e {L d : Nat} {K : Option gV → gH → Prop} {s : gH} (p0 : BitVec 64) (H : K (some (gp_i (gp_and (gp_wr ((((((((p0 - ((p0 >>> 1) &&& (BitVec.ofInt 64 6148914691236517205))) &&& (BitVec.ofInt 64 3689348814741910323)) + (((p0 - ((p0 >>> 1) &&& (BitVec.ofInt 64 6148914691236517205))) >>> 2) &&& (BitVec.ofInt 64 3689348814741910323))) + ((((p0 - ((p0 >>> 1) &&& (BitVec.ofInt 64 6148914691236517205))) &&& (BitVec.ofInt 64 3689348814741910323)) + (((p0 - ((p0 >>> 1) &&& (BitVec.ofInt 64 6148914691236517205))) >>> 2) &&& (BitVec.ofInt 64 3689348814741910323))) >>> 4)) &&& (BitVec.ofInt 64 1085102592571150095)) + ((((((p0 - ((p0 >>> 1) &&& (BitVec.ofInt 64 6148914691236517205))) &&& (BitVec.ofInt 64 3689348814741910323)) + (((p0 - ((p0 >>> 1) &&& (BitVec.ofInt 64 6148914691236517205))) >>> 2) &&& (BitVec.ofInt 64 3689348814741910323))) + ((((p0 - ((p0 >>> 1) &&& (BitVec.ofInt 64 6148914691236517205))) &&& (BitVec.ofInt 64 3689348814741910323)) + (((p0 - ((p0 >>> 1) &&& (BitVec.ofInt 64 6148914691236517205))) >>> 2) &&& (BitVec.ofInt 64 3689348814741910323))) >>> 4)) &&& (BitVec.ofInt 64 1085102592571150095)) >>> 8)) + (((((((p0 - ((p0 >>> 1) &&& (BitVec.ofInt 64 6148914691236517205))) &&& (BitVec.ofInt 64 3689348814741910323)) + (((p0 - ((p0 >>> 1) &&& (BitVec.ofInt 64 6148914691236517205))) >>> 2) &&& (BitVec.ofInt 64 3689348814741910323))) + ((((p0 - ((p0 >>> 1) &&& (BitVec.ofInt 64 6148914691236517205))) &&& (BitVec.ofInt 64 3689348814741910323)) + (((p0 - ((p0 >>> 1) &&& (BitVec.ofInt 64 6148914691236517205))) >>> 2) &&& (BitVec.ofInt 64 3689348814741910323))) >>> 4)) &&& (BitVec.ofInt 64 1085102592571150095)) + ((((((p0 - ((p0 >>> 1) &&& (BitVec.ofInt 64 6148914691236517205))) &&& (BitVec.ofInt 64 3689348814741910323)) + (((p0 - ((p0 >>> 1) &&& (BitVec.ofInt 64 6148914691236517205))) >>> 2) &&& (BitVec.ofInt 64 3689348814741910323))) + ((((p0 - ((p0 >>> 1) &&& (BitVec.ofInt 64 6148914691236517205))) &&& (BitVec.ofInt 64 3689348814741910323)) + (((p0 - ((p0 >>> 1) &&& (BitVec.ofInt 64 6148914691236517205))) >>> 2) &&& (BitVec.ofInt 64 3689348814741910323))) >>> 4)) &&& (BitVec.ofInt 64 1085102592571150095)) >>> 8)) >>> 16)) + ((((((((p0 - ((p0 >>> 1) &&& (BitVec.ofInt 64 6148914691236517205))) &&& (BitVec.ofInt 64 3689348814741910323)) + (((p0 - ((p0 >>> 1) &&& (BitVec.ofInt 64 6148914691236517205))) >>> 2) &&& (BitVec.ofInt 64 3689348814741910323))) + ((((p0 - ((p0 >>> 1) &&& (BitVec.ofInt 64 6148914691236517205))) &&& (BitVec.ofInt 64 3689348814741910323)) + (((p0 - ((p0 >>> 1) &&& (BitVec.ofInt 64 6148914691236517205))) >>> 2) &&& (BitVec.ofInt 64 3689348814741910323))) >>> 4)) &&& (BitVec.ofInt 64 1085102592571150095)) + ((((((p0 - ((p0 >>> 1) &&& (BitVec.ofInt 64 6148914691236517205))) &&& (BitVec.ofInt 64 3689348814741910323)) + (((p0 - ((p0 >>> 1) &&& (BitVec.ofInt 64 6148914691236517205))) >>> 2) &&& (BitVec.ofInt 64 3689348814741910323))) + ((((p0 - ((p0 >>> 1) &&& (BitVec.ofInt 64 6148914691236517205))) &&& (BitVec.ofInt 64 3689348814741910323)) + (((p0 - ((p0 >>> 1) &&& (BitVec.ofInt 64 6148914691236517205))) >>> 2) &&& (BitVec.ofInt 64 3689348814741910323))) >>> 4)) &&& (BitVec.ofInt 64 1085102592571150095)) >>> 8)) + (((((((p0 - ((p0 >>> 1) &&& (BitVec.ofInt 64 6148914691236517205))) &&& (BitVec.ofInt 64 3689348814741910323)) + (((p0 - ((p0 >>> 1) &&& (BitVec.ofInt 64 6148914691236517205))) >>> 2) &&& (BitVec.ofInt 64 3689348814741910323))) + ((((p0 - ((p0 >>> 1) &&& (BitVec.ofInt 64 6148914691236517205))) &&& (BitVec.ofInt 64 3689348814741910323)) + (((p0 - ((p0 >>> 1) &&& (BitVec.ofInt 64 6148914691236517205))) >>> 2) &&& (BitVec.ofInt 64 3689348814741910323))) >>> 4)) &&& (BitVec.ofInt 64 1085102592571150095)) + ((((((p0 - ((p0 >>> 1) &&& (BitVec.ofInt 64 6148914691236517205))) &&& (BitVec.ofInt 64 3689348814741910323)) + (((p0 - ((p0 >>> 1) &&& (BitVec.ofInt 64 6148914691236517205))) >>> 2) &&& (BitVec.ofInt 64 3689348814741910323))) + ((((p0 - ((p0 >>> 1) &&& (BitVec.ofInt 64 6148914691236517205))) &&& (BitVec.ofInt 64 3689348814741910323)) + (((p0 - ((p0 >>> 1) &&& (BitVec.ofInt 64 6148914691236517205))) >>> 2) &&& (BitVec.ofInt 64 3689348814741910323))) >>> 4)) &&& (BitVec.ofInt 64 1085102592571150095)) >>> 8)) >>> 16)) >>> 32)).toInt) 127))) s) : gs_C L d 3585 2 [gp_l p0] s K := by
  show gs_E L d 3585 0 [gp_l p0, gp_n] [] s K
  refine gs_E.stp (pc' := 60) (ls' := [gp_l ((((((((p0 - ((p0 >>> 1) &&& (BitVec.ofInt 64 6148914691236517205))) &&& (BitVec.ofInt 64 3689348814741910323)) + (((p0 - ((p0 >>> 1) &&& (BitVec.ofInt 64 6148914691236517205))) >>> 2) &&& (BitVec.ofInt 64 3689348814741910323))) + ((((p0 - ((p0 >>> 1) &&& (BitVec.ofInt 64 6148914691236517205))) &&& (BitVec.ofInt 64 3689348814741910323)) + (((p0 - ((p0 >>> 1) &&& (BitVec.ofInt 64 6148914691236517205))) >>> 2) &&& (BitVec.ofInt 64 3689348814741910323))) >>> 4)) &&& (BitVec.ofInt 64 1085102592571150095)) + ((((((p0 - ((p0 >>> 1) &&& (BitVec.ofInt 64 6148914691236517205))) &&& (BitVec.ofInt 64 3689348814741910323)) + (((p0 - ((p0 >>> 1) &&& (BitVec.ofInt 64 6148914691236517205))) >>> 2) &&& (BitVec.ofInt 64 3689348814741910323))) + ((((p0 - ((p0 >>> 1) &&& (BitVec.ofInt 64 6148914691236517205))) &&& (BitVec.ofInt 64 3689348814741910323)) + (((p0 - ((p0 >>> 1) &&& (BitVec.ofInt 64 6148914691236517205))) >>> 2) &&& (BitVec.ofInt 64 3689348814741910323))) >>> 4)) &&& (BitVec.ofInt 64 1085102592571150095)) >>> 8)) + (((((((p0 - ((p0 >>> 1) &&& (BitVec.ofInt 64 6148914691236517205))) &&& (BitVec.ofInt 64 3689348814741910323)) + (((p0 - ((p0 >>> 1) &&& (BitVec.ofInt 64 6148914691236517205))) >>> 2) &&& (BitVec.ofInt 64 3689348814741910323))) + ((((p0 - ((p0 >>> 1) &&& (BitVec.ofInt 64 6148914691236517205))) &&& (BitVec.ofInt 64 3689348814741910323)) + (((p0 - ((p0 >>> 1) &&& (BitVec.ofInt 64 6148914691236517205))) >>> 2) &&& (BitVec.ofInt 64 3689348814741910323))) >>> 4)) &&& (BitVec.ofInt 64 1085102592571150095)) + ((((((p0 - ((p0 >>> 1) &&& (BitVec.ofInt 64 6148914691236517205))) &&& (BitVec.ofInt 64 3689348814741910323)) + (((p0 - ((p0 >>> 1) &&& (BitVec.ofInt 64 6148914691236517205))) >>> 2) &&& (BitVec.ofInt 64 3689348814741910323))) + ((((p0 - ((p0 >>> 1) &&& (BitVec.ofInt 64 6148914691236517205))) &&& (BitVec.ofInt 64 3689348814741910323)) + (((p0 - ((p0 >>> 1) &&& (BitVec.ofInt 64 6148914691236517205))) >>> 2) &&& (BitVec.ofInt 64 3689348814741910323))) >>> 4)) &&& (BitVec.ofInt 64 1085102592571150095)) >>> 8)) >>> 16)) + ((((((((p0 - ((p0 >>> 1) &&& (BitVec.ofInt 64 6148914691236517205))) &&& (BitVec.ofInt 64 3689348814741910323)) + (((p0 - ((p0 >>> 1) &&& (BitVec.ofInt 64 6148914691236517205))) >>> 2) &&& (BitVec.ofInt 64 3689348814741910323))) + ((((p0 - ((p0 >>> 1) &&& (BitVec.ofInt 64 6148914691236517205))) &&& (BitVec.ofInt 64 3689348814741910323)) + (((p0 - ((p0 >>> 1) &&& (BitVec.ofInt 64 6148914691236517205))) >>> 2) &&& (BitVec.ofInt 64 3689348814741910323))) >>> 4)) &&& (BitVec.ofInt 64 1085102592571150095)) + ((((((p0 - ((p0 >>> 1) &&& (BitVec.ofInt 64 6148914691236517205))) &&& (BitVec.ofInt 64 3689348814741910323)) + (((p0 - ((p0 >>> 1) &&& (BitVec.ofInt 64 6148914691236517205))) >>> 2) &&& (BitVec.ofInt 64 3689348814741910323))) + ((((p0 - ((p0 >>> 1) &&& (BitVec.ofInt 64 6148914691236517205))) &&& (BitVec.ofInt 64 3689348814741910323)) + (((p0 - ((p0 >>> 1) &&& (BitVec.ofInt 64 6148914691236517205))) >>> 2) &&& (BitVec.ofInt 64 3689348814741910323))) >>> 4)) &&& (BitVec.ofInt 64 1085102592571150095)) >>> 8)) + (((((((p0 - ((p0 >>> 1) &&& (BitVec.ofInt 64 6148914691236517205))) &&& (BitVec.ofInt 64 3689348814741910323)) + (((p0 - ((p0 >>> 1) &&& (BitVec.ofInt 64 6148914691236517205))) >>> 2) &&& (BitVec.ofInt 64 3689348814741910323))) + ((((p0 - ((p0 >>> 1) &&& (BitVec.ofInt 64 6148914691236517205))) &&& (BitVec.ofInt 64 3689348814741910323)) + (((p0 - ((p0 >>> 1) &&& (BitVec.ofInt 64 6148914691236517205))) >>> 2) &&& (BitVec.ofInt 64 3689348814741910323))) >>> 4)) &&& (BitVec.ofInt 64 1085102592571150095)) + ((((((p0 - ((p0 >>> 1) &&& (BitVec.ofInt 64 6148914691236517205))) &&& (BitVec.ofInt 64 3689348814741910323)) + (((p0 - ((p0 >>> 1) &&& (BitVec.ofInt 64 6148914691236517205))) >>> 2) &&& (BitVec.ofInt 64 3689348814741910323))) + ((((p0 - ((p0 >>> 1) &&& (BitVec.ofInt 64 6148914691236517205))) &&& (BitVec.ofInt 64 3689348814741910323)) + (((p0 - ((p0 >>> 1) &&& (BitVec.ofInt 64 6148914691236517205))) >>> 2) &&& (BitVec.ofInt 64 3689348814741910323))) >>> 4)) &&& (BitVec.ofInt 64 1085102592571150095)) >>> 8)) >>> 16)) >>> 32)), gp_n]) (st' := [gp_i (gp_and (gp_wr ((((((((p0 - ((p0 >>> 1) &&& (BitVec.ofInt 64 6148914691236517205))) &&& (BitVec.ofInt 64 3689348814741910323)) + (((p0 - ((p0 >>> 1) &&& (BitVec.ofInt 64 6148914691236517205))) >>> 2) &&& (BitVec.ofInt 64 3689348814741910323))) + ((((p0 - ((p0 >>> 1) &&& (BitVec.ofInt 64 6148914691236517205))) &&& (BitVec.ofInt 64 3689348814741910323)) + (((p0 - ((p0 >>> 1) &&& (BitVec.ofInt 64 6148914691236517205))) >>> 2) &&& (BitVec.ofInt 64 3689348814741910323))) >>> 4)) &&& (BitVec.ofInt 64 1085102592571150095)) + ((((((p0 - ((p0 >>> 1) &&& (BitVec.ofInt 64 6148914691236517205))) &&& (BitVec.ofInt 64 3689348814741910323)) + (((p0 - ((p0 >>> 1) &&& (BitVec.ofInt 64 6148914691236517205))) >>> 2) &&& (BitVec.ofInt 64 3689348814741910323))) + ((((p0 - ((p0 >>> 1) &&& (BitVec.ofInt 64 6148914691236517205))) &&& (BitVec.ofInt 64 3689348814741910323)) + (((p0 - ((p0 >>> 1) &&& (BitVec.ofInt 64 6148914691236517205))) >>> 2) &&& (BitVec.ofInt 64 3689348814741910323))) >>> 4)) &&& (BitVec.ofInt 64 1085102592571150095)) >>> 8)) + (((((((p0 - ((p0 >>> 1) &&& (BitVec.ofInt 64 6148914691236517205))) &&& (BitVec.ofInt 64 3689348814741910323)) + (((p0 - ((p0 >>> 1) &&& (BitVec.ofInt 64 6148914691236517205))) >>> 2) &&& (BitVec.ofInt 64 3689348814741910323))) + ((((p0 - ((p0 >>> 1) &&& (BitVec.ofInt 64 6148914691236517205))) &&& (BitVec.ofInt 64 3689348814741910323)) + (((p0 - ((p0 >>> 1) &&& (BitVec.ofInt 64 6148914691236517205))) >>> 2) &&& (BitVec.ofInt 64 3689348814741910323))) >>> 4)) &&& (BitVec.ofInt 64 1085102592571150095)) + ((((((p0 - ((p0 >>> 1) &&& (BitVec.ofInt 64 6148914691236517205))) &&& (BitVec.ofInt 64 3689348814741910323)) + (((p0 - ((p0 >>> 1) &&& (BitVec.ofInt 64 6148914691236517205))) >>> 2) &&& (BitVec.ofInt 64 3689348814741910323))) + ((((p0 - ((p0 >>> 1) &&& (BitVec.ofInt 64 6148914691236517205))) &&& (BitVec.ofInt 64 3689348814741910323)) + (((p0 - ((p0 >>> 1) &&& (BitVec.ofInt 64 6148914691236517205))) >>> 2) &&& (BitVec.ofInt 64 3689348814741910323))) >>> 4)) &&& (BitVec.ofInt 64 1085102592571150095)) >>> 8)) >>> 16)) + ((((((((p0 - ((p0 >>> 1) &&& (BitVec.ofInt 64 6148914691236517205))) &&& (BitVec.ofInt 64 3689348814741910323)) + (((p0 - ((p0 >>> 1) &&& (BitVec.ofInt 64 6148914691236517205))) >>> 2) &&& (BitVec.ofInt 64 3689348814741910323))) + ((((p0 - ((p0 >>> 1) &&& (BitVec.ofInt 64 6148914691236517205))) &&& (BitVec.ofInt 64 3689348814741910323)) + (((p0 - ((p0 >>> 1) &&& (BitVec.ofInt 64 6148914691236517205))) >>> 2) &&& (BitVec.ofInt 64 3689348814741910323))) >>> 4)) &&& (BitVec.ofInt 64 1085102592571150095)) + ((((((p0 - ((p0 >>> 1) &&& (BitVec.ofInt 64 6148914691236517205))) &&& (BitVec.ofInt 64 3689348814741910323)) + (((p0 - ((p0 >>> 1) &&& (BitVec.ofInt 64 6148914691236517205))) >>> 2) &&& (BitVec.ofInt 64 3689348814741910323))) + ((((p0 - ((p0 >>> 1) &&& (BitVec.ofInt 64 6148914691236517205))) &&& (BitVec.ofInt 64 3689348814741910323)) + (((p0 - ((p0 >>> 1) &&& (BitVec.ofInt 64 6148914691236517205))) >>> 2) &&& (BitVec.ofInt 64 3689348814741910323))) >>> 4)) &&& (BitVec.ofInt 64 1085102592571150095)) >>> 8)) + (((((((p0 - ((p0 >>> 1) &&& (BitVec.ofInt 64 6148914691236517205))) &&& (BitVec.ofInt 64 3689348814741910323)) + (((p0 - ((p0 >>> 1) &&& (BitVec.ofInt 64 6148914691236517205))) >>> 2) &&& (BitVec.ofInt 64 3689348814741910323))) + ((((p0 - ((p0 >>> 1) &&& (BitVec.ofInt 64 6148914691236517205))) &&& (BitVec.ofInt 64 3689348814741910323)) + (((p0 - ((p0 >>> 1) &&& (BitVec.ofInt 64 6148914691236517205))) >>> 2) &&& (BitVec.ofInt 64 3689348814741910323))) >>> 4)) &&& (BitVec.ofInt 64 1085102592571150095)) + ((((((p0 - ((p0 >>> 1) &&& (BitVec.ofInt 64 6148914691236517205))) &&& (BitVec.ofInt 64 3689348814741910323)) + (((p0 - ((p0 >>> 1) &&& (BitVec.ofInt 64 6148914691236517205))) >>> 2) &&& (BitVec.ofInt 64 3689348814741910323))) + ((((p0 - ((p0 >>> 1) &&& (BitVec.ofInt 64 6148914691236517205))) &&& (BitVec.ofInt 64 3689348814741910323)) + (((p0 - ((p0 >>> 1) &&& (BitVec.ofInt 64 6148914691236517205))) >>> 2) &&& (BitVec.ofInt 64 3689348814741910323))) >>> 4)) &&& (BitVec.ofInt 64 1085102592571150095)) >>> 8)) >>> 16)) >>> 32)).toInt) 127)]) (s' := s) 48 rfl ?_
  exact gs_E.ret (r := (some (gp_i (gp_and (gp_wr ((((((((p0 - ((p0 >>> 1) &&& (BitVec.ofInt 64 6148914691236517205))) &&& (BitVec.ofInt 64 3689348814741910323)) + (((p0 - ((p0 >>> 1) &&& (BitVec.ofInt 64 6148914691236517205))) >>> 2) &&& (BitVec.ofInt 64 3689348814741910323))) + ((((p0 - ((p0 >>> 1) &&& (BitVec.ofInt 64 6148914691236517205))) &&& (BitVec.ofInt 64 3689348814741910323)) + (((p0 - ((p0 >>> 1) &&& (BitVec.ofInt 64 6148914691236517205))) >>> 2) &&& (BitVec.ofInt 64 3689348814741910323))) >>> 4)) &&& (BitVec.ofInt 64 1085102592571150095)) + ((((((p0 - ((p0 >>> 1) &&& (BitVec.ofInt 64 6148914691236517205))) &&& (BitVec.ofInt 64 3689348814741910323)) + (((p0 - ((p0 >>> 1) &&& (BitVec.ofInt 64 6148914691236517205))) >>> 2) &&& (BitVec.ofInt 64 3689348814741910323))) + ((((p0 - ((p0 >>> 1) &&& (BitVec.ofInt 64 6148914691236517205))) &&& (BitVec.ofInt 64 3689348814741910323)) + (((p0 - ((p0 >>> 1) &&& (BitVec.ofInt 64 6148914691236517205))) >>> 2) &&& (BitVec.ofInt 64 3689348814741910323))) >>> 4)) &&& (BitVec.ofInt 64 1085102592571150095)) >>> 8)) + (((((((p0 - ((p0 >>> 1) &&& (BitVec.ofInt 64 6148914691236517205))) &&& (BitVec.ofInt 64 3689348814741910323)) + (((p0 - ((p0 >>> 1) &&& (BitVec.ofInt 64 6148914691236517205))) >>> 2) &&& (BitVec.ofInt 64 3689348814741910323))) + ((((p0 - ((p0 >>> 1) &&& (BitVec.ofInt 64 6148914691236517205))) &&& (BitVec.ofInt 64 3689348814741910323)) + (((p0 - ((p0 >>> 1) &&& (BitVec.ofInt 64 6148914691236517205))) >>> 2) &&& (BitVec.ofInt 64 3689348814741910323))) >>> 4)) &&& (BitVec.ofInt 64 1085102592571150095)) + ((((((p0 - ((p0 >>> 1) &&& (BitVec.ofInt 64 6148914691236517205))) &&& (BitVec.ofInt 64 3689348814741910323)) + (((p0 - ((p0 >>> 1) &&& (BitVec.ofInt 64 6148914691236517205))) >>> 2) &&& (BitVec.ofInt 64 3689348814741910323))) + ((((p0 - ((p0 >>> 1) &&& (BitVec.ofInt 64 6148914691236517205))) &&& (BitVec.ofInt 64 3689348814741910323)) + (((p0 - ((p0 >>> 1) &&& (BitVec.ofInt 64 6148914691236517205))) >>> 2) &&& (BitVec.ofInt 64 3689348814741910323))) >>> 4)) &&& (BitVec.ofInt 64 1085102592571150095)) >>> 8)) >>> 16)) + ((((((((p0 - ((p0 >>> 1) &&& (BitVec.ofInt 64 6148914691236517205))) &&& (BitVec.ofInt 64 3689348814741910323)) + (((p0 - ((p0 >>> 1) &&& (BitVec.ofInt 64 6148914691236517205))) >>> 2) &&& (BitVec.ofInt 64 3689348814741910323))) + ((((p0 - ((p0 >>> 1) &&& (BitVec.ofInt 64 6148914691236517205))) &&& (BitVec.ofInt 64 3689348814741910323)) + (((p0 - ((p0 >>> 1) &&& (BitVec.ofInt 64 6148914691236517205))) >>> 2) &&& (BitVec.ofInt 64 3689348814741910323))) >>> 4)) &&& (BitVec.ofInt 64 1085102592571150095)) + ((((((p0 - ((p0 >>> 1) &&& (BitVec.ofInt 64 6148914691236517205))) &&& (BitVec.ofInt 64 3689348814741910323)) + (((p0 - ((p0 >>> 1) &&& (BitVec.ofInt 64 6148914691236517205))) >>> 2) &&& (BitVec.ofInt 64 3689348814741910323))) + ((((p0 - ((p0 >>> 1) &&& (BitVec.ofInt 64 6148914691236517205))) &&& (BitVec.ofInt 64 3689348814741910323)) + (((p0 - ((p0 >>> 1) &&& (BitVec.ofInt 64 6148914691236517205))) >>> 2) &&& (BitVec.ofInt 64 3689348814741910323))) >>> 4)) &&& (BitVec.ofInt 64 1085102592571150095)) >>> 8)) + (((((((p0 - ((p0 >>> 1) &&& (BitVec.ofInt 64 6148914691236517205))) &&& (BitVec.ofInt 64 3689348814741910323)) + (((p0 - ((p0 >>> 1) &&& (BitVec.ofInt 64 6148914691236517205))) >>> 2) &&& (BitVec.ofInt 64 3689348814741910323))) + ((((p0 - ((p0 >>> 1) &&& (BitVec.ofInt 64 6148914691236517205))) &&& (BitVec.ofInt 64 3689348814741910323)) + (((p0 - ((p0 >>> 1) &&& (BitVec.ofInt 64 6148914691236517205))) >>> 2) &&& (BitVec.ofInt 64 3689348814741910323))) >>> 4)) &&& (BitVec.ofInt 64 1085102592571150095)) + ((((((p0 - ((p0 >>> 1) &&& (BitVec.ofInt 64 6148914691236517205))) &&& (BitVec.ofInt 64 3689348814741910323)) + (((p0 - ((p0 >>> 1) &&& (BitVec.ofInt 64 6148914691236517205))) >>> 2) &&& (BitVec.ofInt 64 3689348814741910323))) + ((((p0 - ((p0 >>> 1) &&& (BitVec.ofInt 64 6148914691236517205))) &&& (BitVec.ofInt 64 3689348814741910323)) + (((p0 - ((p0 >>> 1) &&& (BitVec.ofInt 64 6148914691236517205))) >>> 2) &&& (BitVec.ofInt 64 3689348814741910323))) >>> 4)) &&& (BitVec.ofInt 64 1085102592571150095)) >>> 8)) >>> 16)) >>> 32)).toInt) 127)))) rfl H
