set_option maxRecDepth 100000 in
/-- Table.<init>, pc 0 -/
theorem s_2304_e {L d : Nat} {K : Option gV → gH → Prop} {s : gH} (this : Option Nat) (p0 : Int) (H : (∃ q1, this = some q1 ∧ ((gp_sh (gp_mk L s) q1).1 = 9 ∧ ∀ s2, s2 = gp_wI s q1 0 p0 → ((0 ≤ p0 ∧ p0 ≤ 1000000) ∧ 117 ≤ gp_sz s2 ∧ ∀ s3, s3 = gp_new s2 101 p0.toNat → ((gp_sh (gp_mk L s3) q1).1 = 9 ∧ gp_sR q1 1 = none ∧ ∀ s4, s4 = gp_wR s3 q1 1 (some (gp_sz s2)) → ((0 ≤ p0 ∧ p0 ≤ 1000000) ∧ 117 ≤ gp_sz s4 ∧ ∀ s5, s5 = gp_new s4 101 p0.toNat → ((gp_sh (gp_mk L s5) q1).1 = 9 ∧ gp_sR q1 2 = none ∧ ∀ s6, s6 = gp_wR s5 q1 2 (some (gp_sz s4)) → ((0 ≤ p0 ∧ p0 ≤ 1000000) ∧ 117 ≤ gp_sz s6 ∧ ∀ s7, s7 = gp_new s6 100 p0.toNat → ((gp_sh (gp_mk L s7) q1).1 = 9 ∧ gp_sR q1 3 = none ∧ ∀ s8, s8 = gp_wR s7 q1 3 (some (gp_sz s6)) → ((0 ≤ p0 ∧ p0 ≤ 1000000) ∧ 117 ≤ gp_sz s8 ∧ ∀ s9, s9 = gp_new s8 100 p0.toNat → ((gp_sh (gp_mk L s9) q1).1 = 9 ∧ gp_sR q1 4 = none ∧ ∀ s10, s10 = gp_wR s9 q1 4 (some (gp_sz s8)) → ((0 ≤ p0 ∧ p0 ≤ 1000000) ∧ 117 ≤ gp_sz s10 ∧ ∀ s11, s11 = gp_new s10 100 p0.toNat → ((gp_sh (gp_mk L s11) q1).1 = 9 ∧ gp_sR q1 5 = none ∧ ∀ s12, s12 = gp_wR s11 q1 5 (some (gp_sz s10)) → K none s12))))))))))))) : gs_C L d 2304 2 [gp_r this, gp_i p0] s K := by
  show gs_E L d 2304 0 [gp_r this, gp_i p0] [] s K
  refine gs_E.stp (pc' := 1) (ls' := [gp_r this, gp_i p0]) (st' := [gp_r this]) (s' := s) 1 rfl ?_
  obtain ⟨q1, hq, H⟩ := H
  rw [hq]
  refine gs_E.stp (pc' := 6) (ls' := [gp_r (some q1), gp_i p0]) (st' := [gp_i p0, gp_r (some q1)]) (s' := s) 3 rfl ?_
  refine gs_E.ck (pc' := 9) (ls' := [gp_r (some q1), gp_i p0]) (st' := []) (s' := gp_wI s q1 0 p0) rfl ⟨H.1, Or.inl rfl⟩ ?_
  replace H := H.2 _ rfl
  generalize gp_wI s q1 0 p0 = s2 at H ⊢
  refine gs_E.stp (pc' := 11) (ls' := [gp_r (some q1), gp_i p0]) (st' := [gp_i p0, gp_r (some q1)]) (s' := s2) 2 rfl ?_
  refine gs_E.newa (pc' := 13) (ls' := [gp_r (some q1), gp_i p0]) (st' := [gp_r (some (gp_sz s2)), gp_r (some q1)]) (c := 101) (n := p0.toNat) rfl H.1 H.2.1 ?_
  replace H := H.2.2 _ rfl
  generalize gp_new s2 101 p0.toNat = s3 at H ⊢
  refine gs_E.ckR (pc' := 16) (ls' := [gp_r (some q1), gp_i p0]) (st' := []) (a := q1) (f := 1) (v := (some (gp_sz s2))) rfl ⟨H.1, rfl⟩ H.2.1 ?_
  replace H := H.2.2 _ rfl
  generalize gp_wR s3 q1 1 (some (gp_sz s2)) = s4 at H ⊢
  refine gs_E.stp (pc' := 18) (ls' := [gp_r (some q1), gp_i p0]) (st' := [gp_i p0, gp_r (some q1)]) (s' := s4) 2 rfl ?_
  refine gs_E.newa (pc' := 20) (ls' := [gp_r (some q1), gp_i p0]) (st' := [gp_r (some (gp_sz s4)), gp_r (some q1)]) (c := 101) (n := p0.toNat) rfl H.1 H.2.1 ?_
  replace H := H.2.2 _ rfl
  generalize gp_new s4 101 p0.toNat = s5 at H ⊢
  refine gs_E.ckR (pc' := 23) (ls' := [gp_r (some q1), gp_i p0]) (st' := []) (a := q1) (f := 2) (v := (some (gp_sz s4))) rfl ⟨H.1, rfl⟩ H.2.1 ?_
  replace H := H.2.2 _ rfl
  generalize gp_wR s5 q1 2 (some (gp_sz s4)) = s6 at H ⊢
  refine gs_E.stp (pc' := 25) (ls' := [gp_r (some q1), gp_i p0]) (st' := [gp_i p0, gp_r (some q1)]) (s' := s6) 2 rfl ?_
  refine gs_E.newi rfl H.1 H.2.1 ?_
  replace H := H.2.2 _ rfl
  generalize gp_new s6 100 p0.toNat = s7 at H ⊢
  refine gs_E.ckR (pc' := 30) (ls' := [gp_r (some q1), gp_i p0]) (st' := []) (a := q1) (f := 3) (v := (some (gp_sz s6))) rfl ⟨H.1, rfl⟩ H.2.1 ?_
  replace H := H.2.2 _ rfl
  generalize gp_wR s7 q1 3 (some (gp_sz s6)) = s8 at H ⊢
  refine gs_E.stp (pc' := 32) (ls' := [gp_r (some q1), gp_i p0]) (st' := [gp_i p0, gp_r (some q1)]) (s' := s8) 2 rfl ?_
  refine gs_E.newi rfl H.1 H.2.1 ?_
  replace H := H.2.2 _ rfl
  generalize gp_new s8 100 p0.toNat = s9 at H ⊢
  refine gs_E.ckR (pc' := 37) (ls' := [gp_r (some q1), gp_i p0]) (st' := []) (a := q1) (f := 4) (v := (some (gp_sz s8))) rfl ⟨H.1, rfl⟩ H.2.1 ?_
  replace H := H.2.2 _ rfl
  generalize gp_wR s9 q1 4 (some (gp_sz s8)) = s10 at H ⊢
  refine gs_E.stp (pc' := 39) (ls' := [gp_r (some q1), gp_i p0]) (st' := [gp_i p0, gp_r (some q1)]) (s' := s10) 2 rfl ?_
  refine gs_E.newi rfl H.1 H.2.1 ?_
  replace H := H.2.2 _ rfl
  generalize gp_new s10 100 p0.toNat = s11 at H ⊢
  refine gs_E.ckR (pc' := 44) (ls' := [gp_r (some q1), gp_i p0]) (st' := []) (a := q1) (f := 5) (v := (some (gp_sz s10))) rfl ⟨H.1, rfl⟩ H.2.1 ?_
  replace H := H.2.2 _ rfl
  generalize gp_wR s11 q1 5 (some (gp_sz s10)) = s12 at H ⊢
  exact gs_E.ret (r := none) rfl H
