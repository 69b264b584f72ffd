theorem MV_i {L P A : Nat} {s : gH} {r side : Int} (h : MVok L P A s r side) (h0 : 0 ≤ r) : r ≤ 263 ∧ r / 100 ≤ 2 ∧ r % 100 < (chc L P A s (Int.toNat (r / 100)) side : Nat) := by
  rcases h with q | ⟨q1, q2, q3⟩
  · omega
  · have q4 : chc L P A s (Int.toNat (r / 100)) side ≤ 64 := gm_cnt_le _ 64
    exact ⟨by omega, by omega, q3⟩
/-- one move more -/
theorem MFV_push {L : Nat} {al : Bool} {m : List Nat} {s t : gH} {p v : Int} (h : MFV L s) (g : gX L al m s t) (e3 : m.contains 61 = false) (h0 : 0 ≤ gp_I s 57 3) (hm : gp_I t 57 3 = gp_I s 57 3 + 1) (h58 : ∀ k : Nat, gp_I t 58 k = if k = Int.toNat (gp_I s 57 3) then p else gp_I s 58 k) (h59 : ∀ k : Nat, gp_I t 59 k = if k = Int.toNat (gp_I s 57 3) then v else gp_I s 59 k) (hk : ∀ k : Nat, 0 ≤ gp_I s 58 k ∧ gp_I s 58 k ≤ 263) (hp : 0 ≤ p ∧ p ≤ 299) (hv : v < pn L 61 s (Int.toNat (p / 100))) : MFV L t := by
  have hpn : ∀ b : Nat, b < 3 → pn L 61 t b = pn L 61 s b := fun b hb => by
    obtain ⟨a, n, q1, q2⟩ := h.1 b hb
    exact pn_eq (P := 61) (b := b) g (by decide) (by decide) e3 q1 q2
  refine ⟨fun b hb => ?_, fun k hk2 => ?_⟩
  · obtain ⟨a, n, q1, q2⟩ := h.1 b hb
    exact ⟨a, n, (R_fr (c := 61) (k := b) g (by decide) (by decide) e3).trans q1, q2.fr g.1⟩
  · rw [h58 k, h59 k]
    by_cases c : k = Int.toNat (gp_I s 57 3)
    · rw [if_pos c, if_pos c, hpn _ (by omega)]; exact hv
    · have := hk k
      rw [if_neg c, if_neg c, hpn _ (by omega)]
      exact h.2 k (by omega)
set_option maxRecDepth 100000 in
/-- Match.make -/
theorem xm_mmake  {L d : Nat} {K : Option gV → gH → Prop} {s : gH}  (p0 : Int) (hs : XI L 0 s) (h_p0 : (-1) ≤ p0 ∧ p0 ≤ 299) (q0 : SVP L 61 s) (q1 : MFV L s) (q2 : MVok L 61 62 s p0 (gp_I s 57 2)) (k : ∀ (t : gH), XI L 0 t → gX L false [58, 59, 62, 2826, 2827] s t → (SVP L 61 t) → (MFV L t) → K none t) : gs_C L (d + 3) 516 3 [gp_r (some 57), gp_i p0] s K := by
  have f_1 := xr57_3 hs
  have f_2 := xr57_2 hs
  have f_3 := xr62 hs (Int.toNat (Int.tdiv p0 100))
  refine s_516_e _ ?_
  refine ⟨fun h_4 => ?_, fun h_4 => ?_⟩
  · refine s_516_14 _ _ ?_
    exact k s hs (gX.refl _ _ _ _) (q0) (by first | exact q1 | exact MFV_push (p := p0) (v := gp_I s 62 (Int.toNat (Int.tdiv p0 100))) q1 (gF.refl _ _ _) rfl (by omega) (by omega) (by subst_vars; exact fun k => gz_rwi s 58 _ _ k) (by subst_vars; exact fun k => gz_rwi _ 59 _ _ k) (fun k => xr58 hs k) (by omega) (by rw [← htd]; omega))
  · have f_5 := xr57_3 hs
    refine ⟨fun h_6 => ?_, fun h_6 => ?_⟩
    · have hmv := MV_i q2 (by omega)
      have htd : Int.tdiv p0 100 = p0 / 100 := Int.tdiv_eq_ediv_of_nonneg (by omega)
      have htm : Int.tmod p0 100 = p0 % 100 := Int.tmod_eq_emod_of_nonneg (by omega)
      rw [← htd, ← htm] at hmv
      have w_7 := gz_td (p0) (100) (by omega)
      try rw [show gp_wr (p0.tdiv 100) = p0.tdiv 100 from gp_wr_id (by omega) (by omega)]
      have f_8 := xr57_3 hs
      refine ⟨by omega, ?_⟩
      intro s_9 e_10
      have hs_11 : XI L 0 s_9 := by rw [e_10]; exact xw58 hs _ _ (by omega)
      have hf_12 : gX L false [58, 59, 62, 2826, 2827] s s_9 := by rw [e_10]; exact gX.wI (gX.refl _ _ _ _) (Or.inl rfl)
      have q_13 : gp_I s_9 57 3 = gp_I s 57 3 := by rw [e_10] <;> first | rfl | exact I_ne (by omega)
      have q_14 : gp_I s_9 57 2 = gp_I s 57 2 := by rw [e_10] <;> first | rfl | exact I_ne (by omega)
      have q_15 : gp_I s_9 62 (Int.toNat (Int.tdiv p0 100)) = gp_I s 62 (Int.toNat (Int.tdiv p0 100)) := by rw [e_10] <;> first | rfl | exact I_ne (by omega)
      have pd_16 : SVP L 61 s_9 := by rw [e_10]; exact SVP61_fr q0 (gX.wI (gX.refl L true [58] _) (Or.inl rfl)) rfl rfl
      have f_17 := xr57_3 hs_11
      refine ⟨by omega, ?_⟩
      have f_18 := xr62 hs_11 (Int.toNat (p0.tdiv 100))
      refine ⟨by omega, ?_⟩
      intro s_19 e_20
      have hs_21 : XI L 0 s_19 := by rw [e_20]; exact xw59 hs_11 _ _ (by omega)
      have hf_22 : gX L false [58, 59, 62, 2826, 2827] s s_19 := by rw [e_20]; exact gX.wI hf_12 (Or.inl rfl)
      have q_23 : gp_I s_19 57 3 = gp_I s_9 57 3 := by rw [e_20] <;> first | rfl | exact I_ne (by omega)
      have q_24 : gp_I s_19 57 2 = gp_I s_9 57 2 := by rw [e_20] <;> first | rfl | exact I_ne (by omega)
      have q_25 : gp_I s_19 62 (Int.toNat (Int.tdiv p0 100)) = gp_I s_9 62 (Int.toNat (Int.tdiv p0 100)) := by rw [e_20] <;> first | rfl | exact I_ne (by omega)
      have pd_26 : SVP L 61 s_19 := by rw [e_20]; exact SVP61_fr pd_16 (gX.wI (gX.refl L true [59] _) (Or.inl rfl)) rfl rfl
      refine ⟨by omega, ?_⟩
      refine ⟨by omega, ?_⟩
      have f_27 := xr62 hs_21 (Int.toNat (p0.tdiv 100))
      have f_28 := xr57_2 hs_21
      obtain ⟨a_29, n_30, e_31, kt_32, hn_33⟩ := SVP.p61 (by assumption : SVP L 61 s_19) (Int.toNat (p0.tdiv 100)) (by omega)
      have hn_a_29 := kt_32.n hs_21
      refine ⟨a_29, e_31, ?_⟩
      refine ⟨kt_32.2.1, ?_⟩
      refine xm_options n_30 _ _ _ hs_21 (by omega) (by first | assumption | exact kT7 hs_21.1.1 | exact kT25 hs_21.1.1) (by first | omega | assumption) (fun m_34 p_35 p_36 => ⟨_, rfl, ?_⟩)
      have hbd9 := p_35
      have hc0 := chc_of (L := L) (P := 61) (A := 62) (s := s_19) (b := Int.toNat (Int.tdiv p0 100)) (x := ((gm_cnt m_34 64 : Nat) : Int)) rfl (by assumption) (by omega)
      have hc1 := chc_eq (A := 62) q0 hs hf_22 (by decide) (by decide) (show Int.toNat (Int.tdiv p0 100) < 3 by omega) rfl rfl rfl (by omega) (gp_I s_19 57 2)
      rw [show gp_I s 57 2 = gp_I s_19 57 2 by omega] at hmv
      have hc64 := cnt64 m_34
      have w_37 := gz_td (p0) (100) (by omega)
      have h8f := hf_22
      refine xm_pick _ _ (by omega) (fun x_38 p_39 p_40 => ⟨_, rfl, ?_⟩)
      have hsp9 := pd_26
      have hpk := p_40 (by omega)
      have hlt := hbd9 _ hpk.2
      refine ⟨by omega, ?_⟩
      intro s_41 e_42
      have hs_43 : XI L 0 s_41 := by rw [e_42]; exact xw62 hs_21 _ _ (by omega)
      have hf_44 : gX L false [58, 59, 62, 2826, 2827] s s_41 := by rw [e_42]; exact gX.wI hf_22 (Or.inl rfl)
      have kt_45 : kT L s_41 a_29 n_30 := by rw [e_42]; exact kt_32
      have q_46 : gp_I s_41 57 3 = gp_I s_19 57 3 := by rw [e_42] <;> first | rfl | exact I_ne (by omega)
      have q_47 : gp_I s_41 57 2 = gp_I s_19 57 2 := by rw [e_42] <;> first | rfl | exact I_ne (by omega)
      have q_48 := gz_rw s_19 62 (Int.toNat (p0.tdiv 100)) (Int.toNat (Int.tdiv p0 100)) x_38; rw [← e_42] at q_48
      have hSP : SVP L 61 s_41 := SVP_at hsp9 (by assumption) (fun _ => by omega)
      have hpu : pn L 61 s_19 (Int.toNat (Int.tdiv p0 100)) = pn L 61 s (Int.toNat (Int.tdiv p0 100)) := pn_eq (P := 61) (b := Int.toNat (Int.tdiv p0 100)) h8f (by decide) (by decide) rfl (q0.part _ (show Int.toNat (Int.tdiv p0 100) < 3 by omega)).choose_spec.choose_spec.1 (q0.part _ (show Int.toNat (Int.tdiv p0 100) < 3 by omega)).choose_spec.choose_spec.2.1
      have f_49 := xr57_3 hs_43
      try rw [show gp_wr ((gp_I s_41 57 3) + 1) = (gp_I s_41 57 3) + 1 from gp_wr_id (by omega) (by omega)]
      intro s_50 e_51
      have hs_52 : XI L 0 s_50 := by rw [e_51]; exact xw57_3 hs_43 _ (by omega)
      have hf_53 : gX L false [58, 59, 62, 2826, 2827] s s_50 := by rw [e_51]; exact gX.wI hf_44 (Or.inl rfl)
      have kt_54 : kT L s_50 a_29 n_30 := by rw [e_51]; exact kt_45
      have q_55 : gp_I s_50 57 3 = (gp_I s_41 57 3) + 1 := by rw [e_51]; exact (gz_rw _ _ _ _ _).1 rfl
      have q_56 : gp_I s_50 57 2 = gp_I s_41 57 2 := by rw [e_51] <;> first | rfl | exact I_ne (by omega)
      have q_57 : gp_I s_50 62 (Int.toNat (Int.tdiv p0 100)) = gp_I s_41 62 (Int.toNat (Int.tdiv p0 100)) := by rw [e_51] <;> first | rfl | exact I_ne (by omega)
      have pd_58 : SVP L 61 s_50 := by rw [e_51]; exact SVP61_fr hSP (gX.wI (gX.refl L true [2827] _) (Or.inl rfl)) rfl rfl
      have f_59 := xr57_2 hs_52
      try rw [show gp_wr (1 - (gp_I s_50 57 2)) = 1 - (gp_I s_50 57 2) from gp_wr_id (by omega) (by omega)]
      intro s_60 e_61
      have hs_62 : XI L 0 s_60 := by rw [e_61]; exact xw57_2 hs_52 _ (by omega)
      have hf_63 : gX L false [58, 59, 62, 2826, 2827] s s_60 := by rw [e_61]; exact gX.wI hf_53 (Or.inl rfl)
      have kt_64 : kT L s_60 a_29 n_30 := by rw [e_61]; exact kt_54
      have q_65 : gp_I s_60 57 3 = gp_I s_50 57 3 := by rw [e_61] <;> first | rfl | exact I_ne (by omega)
      have q_66 : gp_I s_60 57 2 = 1 - (gp_I s_50 57 2) := by rw [e_61]; exact (gz_rw _ _ _ _ _).1 rfl
      have q_67 : gp_I s_60 62 (Int.toNat (Int.tdiv p0 100)) = gp_I s_50 62 (Int.toNat (Int.tdiv p0 100)) := by rw [e_61] <;> first | rfl | exact I_ne (by omega)
      have pd_68 : SVP L 61 s_60 := by rw [e_61]; exact SVP61_fr pd_58 (gX.wI (gX.refl L true [2826] _) (Or.inl rfl)) rfl rfl
      exact k s_60 hs_62 hf_63 (pd_68) (by first | exact q1 | exact MFV_push (p := p0) (v := gp_I s 62 (Int.toNat (Int.tdiv p0 100))) q1 hf_63 rfl (by omega) (by omega) (by subst_vars; exact fun k => gz_rwi s 58 _ _ k) (by subst_vars; exact fun k => gz_rwi _ 59 _ _ k) (fun k => xr58 hs k) (by omega) (by rw [← htd]; omega))
    · refine s_516_14 _ _ ?_
      exact k s hs (gX.refl _ _ _ _) (q0) (by first | exact q1 | exact MFV_push (p := p0) (v := gp_I s 62 (Int.toNat (Int.tdiv p0 100))) q1 (gF.refl _ _ _) rfl (by omega) (by omega) (by subst_vars; exact fun k => gz_rwi s 58 _ _ k) (by subst_vars; exact fun k => gz_rwi _ 59 _ _ k) (fun k => xr58 hs k) (by omega) (by rw [← htd]; omega))
