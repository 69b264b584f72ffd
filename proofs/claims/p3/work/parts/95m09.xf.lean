set_option maxRecDepth 100000 in
/-- Table.tooBig -/
theorem xm_tooBigV  {L d : Nat} {K : Option gV → gH → Prop} {s : gH} (n_this : Nat) (this : Nat) (hs : XI L 0 s)  (q0 : kT L s this n_this) (k : ∀ (r : Int), (0 ≤ r ∧ r ≤ 1) → (B2S (TF s this) n_this → (r = 1 ∧ ¬ B99 (TF s this) n_this) ∨ (r = 0 ∧ B99 (TF s this) n_this)) → K (some (gp_i r)) s) : gs_C L d 2310 2 [gp_r (some this)] s K := by
  have hn_this := q0.n hs
  refine s_2310_e _ ?_
  have lp_2 : ∀ (n_2 : Nat) (v1_2 : Int), (0 ≤ v1_2 ∧ v1_2 ≤ 61) → (TBI (TF s this) n_this v1_2) → (v1_2 ≤ n_this) → (62 - v1_2).toNat < n_2 → gs_E L d 2310 2 [gp_r (some this), gp_i v1_2] [] s K := by
    intro n_2
    induction n_2 with
    | zero => intro v1_2 hv1_2 iv0_2 iv1_2 hm_2; exact absurd hm_2 (Nat.not_lt_zero _)
    | succ n_2 ih_2 =>
      intro v1_2 hv1_2 iv0_2 iv1_2 hm_2
      refine s_2310_2 _ _ ?_
      refine ⟨this, rfl, ?_⟩
      refine ⟨q0.2.1, ?_⟩
      have f_3 := (q0.tt hs).1.2.2.1
      have f_4 := q0.n hs
      refine ⟨fun h_5 => ?_, fun h_5 => ?_⟩
      · refine ⟨q0.2.1, ?_⟩
        refine ⟨(this + 3), (q0.tt hs).1.2.2.2.1.2.2.1, ?_⟩
        refine ⟨gin ((q0.tt hs).1.2.2.2.2.1.2.2.1) (by omega), ?_⟩
        have w_6 := gz_ab (gp_I s (this + 3) (Int.toNat v1_2))
        refine ⟨fun h_7 => ?_, fun h_7 => ?_⟩
        · refine s_2310_38 _ _ ?_
          exact k _ (by omega) (fun hb9 => Or.inl ⟨rfl, fun q9 => by have h8 := TB_x hb9 (k := Int.toNat v1_2) (by omega); have h7 := TB_9 q9 (k := Int.toNat v1_2) (by omega); omega⟩)
        · refine ⟨q0.2.1, ?_⟩
          refine ⟨(this + 4), (q0.tt hs).1.2.2.2.1.2.2.2.1, ?_⟩
          refine ⟨gin ((q0.tt hs).1.2.2.2.2.1.2.2.2.1) (by omega), ?_⟩
          have w_9 := gz_ab (gp_I s (this + 4) (Int.toNat v1_2))
          refine ⟨fun h_10 => ?_, fun h_10 => ?_⟩
          · refine s_2310_38 _ _ ?_
            exact k _ (by omega) (fun hb9 => Or.inl ⟨rfl, fun q9 => by have h8 := TB_x hb9 (k := Int.toNat v1_2) (by omega); have h7 := TB_9 q9 (k := Int.toNat v1_2) (by omega); omega⟩)
          · try rw [show gp_wr (v1_2 + 1) = v1_2 + 1 from gp_wr_id (by omega) (by omega)]
            exact ih_2 _ (by omega) (TBI_s iv0_2 (by omega) (fun hb9 => TB_y (by have h8 := TB_x hb9 (k := Int.toNat v1_2) (by omega); omega))) (by first | omega | assumption) (by omega)
      · exact k _ (by omega) (fun hb9 => Or.inr ⟨rfl, fun k hk => iv0_2 hb9 k (by omega)⟩)
  exact lp_2 _ _ (by omega) (TBI_0) (by first | omega | assumption) (Nat.lt_succ_self _)
set_option maxRecDepth 100000 in
/-- Reader.fitting -/
theorem xm_fittingV  {L d : Nat} {K : Option gV → gH → Prop} {s : gH}  (p0 : Option Nat) (hs : XI L 0 s)  (q0 : p0 = none ∨ ∃ a n, p0 = some a ∧ kT L s a n ∧ n ≤ 60) (k : ∀ (r : Option Nat), ∀ (t : gH), XI L 0 t → gX L false [2480] s t → (∃ a n, r = some a ∧ kT L t a n ∧ n ≤ 60) → (IK s t) → (FTR L s t p0 r) → K (some (gp_r r)) t) : gs_C L (d + 1) 1293 2 [gp_r (some 46), gp_r p0] s K := by
  have f_1 := xr46_8 hs
  refine s_1293_e _ ?_
  refine ⟨fun hq_2 => ?_, fun q_3 hq_2 => ?_⟩
  · intro s_4 e_5
    have hs_6 : XI L 0 s_4 := by rw [e_5]; exact xw46_8 hs _ (by omega)
    have hf_7 : gX L false [2480] s s_4 := by rw [e_5]; exact gX.wI (gX.refl _ _ _ _) (Or.inl rfl)
    have q_8 : gp_I s_4 46 8 = 4 := by rw [e_5]; exact (gz_rw _ _ _ _ _).1 rfl
    have pd_9 : IK s s_4 := by rw [e_5]; exact IK_wI (IK_r s) (Or.inl (by decide))
    exact k _ s_4 hs_6 hf_7 (⟨25, 1, rfl, kT25 hs_6.1.1, by omega⟩) (pd_9) (Or.inl ⟨by first | assumption | rfl, by omega⟩)
  · obtain ⟨n_10, kt_11, hn_12⟩ := nn_of q0 hq_2
    have hn_q_3 := kt_11.n hs
    refine ⟨kt_11.2.1, ?_⟩
    refine xm_tooBigV n_10 _ hs (by first | assumption | exact kT7 hs.1.1 | exact kT25 hs.1.1) (fun x_13 p_14 p_15 => ⟨_, rfl, ?_⟩)
    have htb := p_15
    have hkt := kt_11
    refine ⟨fun h_16 => ?_, fun h_16 => ?_⟩
    · refine s_1293_30 _ ?_
      exact k _ s hs (gX.refl _ _ _ _) (⟨_, _, rfl, kt_11, by omega⟩) ((IK_r s)) (by rw [‹p0 = some _›]; exact FTR_s (s := s) (t := s) hkt htb (by omega))
    · intro s_18 e_19
      have hs_20 : XI L 0 s_18 := by rw [e_19]; exact xw46_8 hs _ (by omega)
      have hf_21 : gX L false [2480] s s_18 := by rw [e_19]; exact gX.wI (gX.refl _ _ _ _) (Or.inl rfl)
      have kt_22 : kT L s_18 q_3 n_10 := by rw [e_19]; exact kt_11
      have q_23 : gp_I s_18 46 8 = 6 := by rw [e_19]; exact (gz_rw _ _ _ _ _).1 rfl
      have pd_24 : IK s s_18 := by rw [e_19]; exact IK_wI (IK_r s) (Or.inl (by decide))
      refine s_1293_30 _ ?_
      exact k _ s_18 hs_20 hf_21 (⟨_, _, rfl, kt_22, by omega⟩) (pd_24) (by rw [‹p0 = some _›]; exact FTR_s (s := s) (t := s_18) hkt htb (by omega))
