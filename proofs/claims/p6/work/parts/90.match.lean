set_option maxRecDepth 100000 in
/-- Match.start -/
theorem xm_mstart  {L d : Nat} {K : Option gV → gH → Prop} {s : gH}  (p0 : Int) (p1 : Int) (hs : XI L 0 s) (h_p0 : 1 ≤ p0 ∧ p0 ≤ 255) (h_p1 : 0 ≤ p1 ∧ p1 ≤ 1) (q0 : XS L s) (q1 : SVP L 61 s) (q2 : SVF L 61 60 s) (k : ∀ (t : gH), XI L 0 t → gX L false [61, 62, 63, 2825, 2826, 2827, 2922, 2924, 2928] s t → (SVP L 61 t) → (SVF L 61 60 t) → (gp_I t 57 3 = 0) → K none t) : gs_C L (d + 3) 513 4 [gp_r (some 57), gp_i p0, gp_i p1, gp_r (some 4)] s K := by
  have f_1 := xr57_3 hs
  refine s_513_e _ _ _ ?_
  refine xm_slay60 _ hs (by omega) (q0) (q1) (q2) (fun s_2 hs_3 hf_4 p_5 p_6 => ⟨rfl, ?_⟩)
  have hf_7 : gX L false [61, 62, 63, 2825, 2826, 2827, 2922, 2924, 2928] s s_2 := gX.sub hf_4 rfl rfl
  have pd_8 : XS L s_2 := XS_fr q0 hf_4 rfl
  have q_9 : gp_I s_2 57 3 = gp_I s 57 3 := (hf_4.2.2.1 57 3 (by decide) (by decide) rfl).1
  intro s_10 e_11
  have hs_12 : XI L 0 s_10 := by rw [e_11]; exact xw57_1 hs_3 _ (by omega)
  have hf_13 : gX L false [61, 62, 63, 2825, 2826, 2827, 2922, 2924, 2928] s s_10 := by rw [e_11]; exact gX.wI hf_7 (Or.inl rfl)
  have q_14 : gp_I s_10 57 3 = gp_I s_2 57 3 := by rw [e_11] <;> first | rfl | exact I_ne (by omega)
  have pd_15 : XS L s_10 := by rw [e_11]; exact XS_fr pd_8 (gX.wI (gX.refl L true [2825] _) (Or.inl rfl)) rfl
  have pd_16 : SVP L 61 s_10 := by rw [e_11]; exact SVP61_fr p_5 (gX.wI (gX.refl L true [2825] _) (Or.inl rfl)) rfl rfl
  have pd_17 : SVF L 61 60 s_10 := by rw [e_11]; exact SVF60_fr p_6 (gX.wI (gX.refl L true [2825] _) (Or.inl rfl)) rfl rfl rfl
  intro s_18 e_19
  have hs_20 : XI L 0 s_18 := by rw [e_19]; exact xw57_2 hs_12 _ (by omega)
  have hf_21 : gX L false [61, 62, 63, 2825, 2826, 2827, 2922, 2924, 2928] s s_18 := by rw [e_19]; exact gX.wI hf_13 (Or.inl rfl)
  have q_22 : gp_I s_18 57 3 = gp_I s_10 57 3 := by rw [e_19] <;> first | rfl | exact I_ne (by omega)
  have pd_23 : XS L s_18 := by rw [e_19]; exact XS_fr pd_15 (gX.wI (gX.refl L true [2826] _) (Or.inl rfl)) rfl
  have pd_24 : SVP L 61 s_18 := by rw [e_19]; exact SVP61_fr pd_16 (gX.wI (gX.refl L true [2826] _) (Or.inl rfl)) rfl rfl
  have pd_25 : SVF L 61 60 s_18 := by rw [e_19]; exact SVF60_fr pd_17 (gX.wI (gX.refl L true [2826] _) (Or.inl rfl)) rfl rfl rfl
  intro s_26 e_27
  have hs_28 : XI L 0 s_26 := by rw [e_27]; exact xw57_3 hs_20 _ (by omega)
  have hf_29 : gX L false [61, 62, 63, 2825, 2826, 2827, 2922, 2924, 2928] s s_26 := by rw [e_27]; exact gX.wI hf_21 (Or.inl rfl)
  have q_30 : gp_I s_26 57 3 = 0 := by rw [e_27]; exact (gz_rw _ _ _ _ _).1 rfl
  have pd_31 : XS L s_26 := by rw [e_27]; exact XS_fr pd_23 (gX.wI (gX.refl L true [2827] _) (Or.inl rfl)) rfl
  have pd_32 : SVP L 61 s_26 := by rw [e_27]; exact SVP61_fr pd_24 (gX.wI (gX.refl L true [2827] _) (Or.inl rfl)) rfl rfl
  have pd_33 : SVF L 61 60 s_26 := by rw [e_27]; exact SVF60_fr pd_25 (gX.wI (gX.refl L true [2827] _) (Or.inl rfl)) rfl rfl rfl
  exact k s_26 hs_28 hf_29 (pd_32) (pd_33) (by first | omega | assumption)
set_option maxRecDepth 100000 in
/-- Match.over -/
theorem xm_mover  {L d : Nat} {K : Option gV → gH → Prop} {s : gH}   (hs : XI L 0 s)  (q0 : SVP L 61 s) (k : ∀ (r : Int), (0 ≤ r ∧ r ≤ 1) → K (some (gp_i r)) s) : gs_C L (d + 3) 514 1 [gp_r (some 57)] s K := by
  refine s_514_e ?_
  have f_1 := xr57_2 hs
  refine xm_sallChoices60 _ hs (q0) (fun x_2 p_3 => ⟨_, rfl, ?_⟩)
  refine ⟨fun h_4 => ?_, fun h_4 => ?_⟩
  · refine s_514_19 _ ?_
    refine ⟨by omega, ?_⟩
    exact k _ (by omega)
  · refine s_514_19 _ ?_
    refine ⟨by omega, ?_⟩
    exact k _ (by omega)
set_option maxRecDepth 100000 in
/-- Match.moveAt -/
theorem xm_mmoveAt  {L d : Nat} {K : Option gV → gH → Prop} {s : gH}  (p0 : Int) (p1 : Int) (hs : XI L 0 s)  (q0 : SVP L 61 s) (k : ∀ (r : Int), ((-1) ≤ r ∧ r ≤ 299) → (MVok L 61 62 s r (gp_I s 57 2)) → K (some (gp_i r)) s) : gs_C L (d + 2) 515 4 [gp_r (some 57), gp_i p0, gp_i p1] s K := by
  refine s_515_e _ _ ?_
  refine xm_splaceOf60 _ hs (fun x_1 p_2 => ⟨_, rfl, ?_⟩)
  refine ⟨fun h_3 => ?_, fun h_3 => ?_⟩
  · refine s_515_33 _ _ _ ?_
    refine s_515_43 _ _ _ _ ?_
    exact k _ (by omega) (by first | exact Or.inl rfl | exact mv_of (by omega) (by omega) (by omega) (by omega) (by omega))
  · refine ⟨fun h_4 => ?_, fun h_4 => ?_⟩
    · refine s_515_33 _ _ _ ?_
      refine s_515_43 _ _ _ _ ?_
      exact k _ (by omega) (by first | exact Or.inl rfl | exact mv_of (by omega) (by omega) (by omega) (by omega) (by omega))
    · have f_5 := xr57_2 hs
      refine xm_schoices60 _ _ hs (by omega) (q0) (fun x_6 p_7 p_8 => ⟨_, rfl, ?_⟩)
      refine ⟨fun h_9 => ?_, fun h_9 => ?_⟩
      · try rw [show gp_wr (x_1 * 100) = x_1 * 100 from gp_wr_id (by omega) (by omega)]
        try rw [show gp_wr ((x_1 * 100) + p1) = (x_1 * 100) + p1 from gp_wr_id (by omega) (by omega)]
        refine s_515_43 _ _ _ _ ?_
        exact k _ (by omega) (by first | exact Or.inl rfl | exact mv_of (by omega) (by omega) (by omega) (by omega) (by omega))
      · refine s_515_33 _ _ _ ?_
        refine s_515_43 _ _ _ _ ?_
        exact k _ (by omega) (by first | exact Or.inl rfl | exact mv_of (by omega) (by omega) (by omega) (by omega) (by omega))
