/-! the class's match: what is taken back -/
def MFV (L : Nat) (s : gH) : Prop := (∀ b : Nat, b < 3 → ∃ a n, gp_R (gp_mk L s) 61 b = some a ∧ kT L s a n) ∧ ∀ k : Nat, (k : Int) < gp_I s 57 3 → gp_I s 59 k < pn L 61 s (Int.toNat (gp_I s 58 k / 100))
theorem MFV_le {L : Nat} {al : Bool} {m : List Nat} {s t : gH} (h : MFV L s) (g : gX L al m s t) (e1 : m.contains 58 = false) (e2 : m.contains 59 = false) (e3 : m.contains 61 = false) (hk : ∀ k : Nat, 0 ≤ gp_I s 58 k ∧ gp_I s 58 k ≤ 263) (hm : gp_I t 57 3 ≤ gp_I s 57 3) : MFV L t := by
  refine ⟨fun b hb => ?_, fun k hk2 => ?_⟩
  · obtain ⟨a, n, q1, q2⟩ := h.1 b hb
    exact ⟨a, n, (R_fr (c := 61) (k := b) g (by decide) (by decide) e3).trans q1, q2.fr g.1⟩
  · have := h.2 k (by omega)
    rw [(g.2.2.1 59 k (by decide) (by decide) e2).1, (g.2.2.1 58 k (by decide) (by decide) e1).1]
    obtain ⟨a, n, q1, q2⟩ := h.1 (Int.toNat (gp_I s 58 k / 100)) (by have := hk k; omega)
    rw [pn_eq (P := 61) (b := Int.toNat (gp_I s 58 k / 100)) g (by decide) (by decide) e3 q1 q2]
    exact this
set_option maxRecDepth 100000 in
/-- Match.unmake -/
theorem xm_munmake  {L d : Nat} {K : Option gV → gH → Prop} {s : gH}   (hs : XI L 0 s)  (q0 : SVP L 61 s) (q1 : MFV L s) (k : ∀ (t : gH), XI L 0 t → gX L false [62, 2826, 2827] s t → (SVP L 61 t) → (MFV L t) → (gp_I t 57 3 ≤ gp_I s 57 3) → K none t) : gs_C L d 517 1 [gp_r (some 57)] s K := by
  have f_1 := xr57_3 hs
  have f_2 := xr58 hs (Int.toNat (gp_I s 57 3 - 1))
  have f_3 := xr59 hs (Int.toNat (gp_I s 57 3 - 1))
  refine s_517_e ?_
  have f_4 := xr57_3 hs
  refine ⟨fun h_5 => ?_, fun h_5 => ?_⟩
  · have f_6 := xr57_3 hs
    try rw [show gp_wr ((gp_I s 57 3) - 1) = (gp_I s 57 3) - 1 from gp_wr_id (by omega) (by omega)]
    intro s_7 e_8
    have hs_9 : XI L 0 s_7 := by rw [e_8]; exact xw57_3 hs _ (by omega)
    have hf_10 : gX L false [62, 2826, 2827] s s_7 := by rw [e_8]; exact gX.wI (gX.refl _ _ _ _) (Or.inl rfl)
    have q_11 : gp_I s_7 57 3 = (gp_I s 57 3) - 1 := by rw [e_8]; exact (gz_rw _ _ _ _ _).1 rfl
    have q_12 : gp_I s_7 58 (Int.toNat (gp_I s 57 3 - 1)) = gp_I s 58 (Int.toNat (gp_I s 57 3 - 1)) := by rw [e_8] <;> first | rfl | exact I_ne (by omega)
    have q_13 : gp_I s_7 59 (Int.toNat (gp_I s 57 3 - 1)) = gp_I s 59 (Int.toNat (gp_I s 57 3 - 1)) := by rw [e_8] <;> first | rfl | exact I_ne (by omega)
    have pd_14 : SVP L 61 s_7 := by rw [e_8]; exact SVP61_fr q0 (gX.wI (gX.refl L true [2827] _) (Or.inl rfl)) rfl rfl
    have hmv := q1.2 (Int.toNat (gp_I s 57 3 - 1)) (by omega)
    have hmv7 : gp_I s_7 59 (Int.toNat (gp_I s_7 57 3)) < (pn L 61 s (Int.toNat (Int.tdiv (gp_I s_7 58 (Int.toNat (gp_I s_7 57 3))) 100)) : Nat) := by rw [show gp_I s_7 57 3 = gp_I s 57 3 - 1 by omega, (hf_10.2.2.1 58 _ (by decide) (by decide) rfl).1, (hf_10.2.2.1 59 _ (by decide) (by decide) rfl).1, Int.tdiv_eq_ediv_of_nonneg (xr58 hs _).1]; exact hmv
    have hsp9 := pd_14
    have hpq := fun b hb => pn_eq (b := b) hf_10 (show 1 ≤ 61 by decide) (show 61 < 117 by decide) rfl (q0.part b hb).choose_spec.choose_spec.1 (q0.part b hb).choose_spec.choose_spec.2.1
    have f_15 := xr57_3 hs_9
    refine ⟨by omega, ?_⟩
    have f_16 := xr58 hs_9 (Int.toNat (gp_I s_7 57 3))
    have w_17 := gz_td (gp_I s_7 58 (Int.toNat (gp_I s_7 57 3))) (100) (by omega)
    try rw [show gp_wr ((gp_I s_7 58 (Int.toNat (gp_I s_7 57 3))).tdiv 100) = (gp_I s_7 58 (Int.toNat (gp_I s_7 57 3))).tdiv 100 from gp_wr_id (by omega) (by omega)]
    have f_18 := xr57_3 hs_9
    refine ⟨by omega, ?_⟩
    have f_19 := xr59 hs_9 (Int.toNat (gp_I s_7 57 3))
    refine ⟨by omega, ?_⟩
    intro s_20 e_21
    have hs_22 : XI L 0 s_20 := by rw [e_21]; exact xw62 hs_9 _ _ (by omega)
    have hf_23 : gX L false [62, 2826, 2827] s s_20 := by rw [e_21]; exact gX.wI hf_10 (Or.inl rfl)
    have q_24 : gp_I s_20 57 3 = gp_I s_7 57 3 := by rw [e_21] <;> first | rfl | exact I_ne (by omega)
    have q_25 : gp_I s_20 58 (Int.toNat (gp_I s 57 3 - 1)) = gp_I s_7 58 (Int.toNat (gp_I s 57 3 - 1)) := by rw [e_21] <;> first | rfl | exact I_ne (by omega)
    have q_26 : gp_I s_20 59 (Int.toNat (gp_I s 57 3 - 1)) = gp_I s_7 59 (Int.toNat (gp_I s 57 3 - 1)) := by rw [e_21] <;> first | rfl | exact I_ne (by omega)
    have hSP : SVP L 61 s_20 := SVP_at hsp9 (by assumption) (fun hb => by rw [hpq _ hb]; omega)
    have f_27 := xr57_2 hs_22
    try rw [show gp_wr (1 - (gp_I s_20 57 2)) = 1 - (gp_I s_20 57 2) from gp_wr_id (by omega) (by omega)]
    intro s_28 e_29
    have hs_30 : XI L 0 s_28 := by rw [e_29]; exact xw57_2 hs_22 _ (by omega)
    have hf_31 : gX L false [62, 2826, 2827] s s_28 := by rw [e_29]; exact gX.wI hf_23 (Or.inl rfl)
    have q_32 : gp_I s_28 57 3 = gp_I s_20 57 3 := by rw [e_29] <;> first | rfl | exact I_ne (by omega)
    have q_33 : gp_I s_28 58 (Int.toNat (gp_I s 57 3 - 1)) = gp_I s_20 58 (Int.toNat (gp_I s 57 3 - 1)) := by rw [e_29] <;> first | rfl | exact I_ne (by omega)
    have q_34 : gp_I s_28 59 (Int.toNat (gp_I s 57 3 - 1)) = gp_I s_20 59 (Int.toNat (gp_I s 57 3 - 1)) := by rw [e_29] <;> first | rfl | exact I_ne (by omega)
    have pd_35 : SVP L 61 s_28 := by rw [e_29]; exact SVP61_fr hSP (gX.wI (gX.refl L true [2826] _) (Or.inl rfl)) rfl rfl
    refine s_517_56 ?_
    exact k s_28 hs_30 hf_31 (pd_35) (by first | exact q1 | exact MFV_le q1 hf_31 rfl rfl rfl (fun k => xr58 hs k) (by omega)) (by first | omega | assumption)
  · refine s_517_56 ?_
    exact k s hs (gX.refl _ _ _ _) (q0) (by first | exact q1 | exact MFV_le q1 (gF.refl _ _ _) rfl rfl rfl (fun k => xr58 hs k) (by omega)) (by first | omega | assumption)
