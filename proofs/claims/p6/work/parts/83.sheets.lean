/-! the class's sheets -/
theorem shR {L : Nat} {s : gH} {i : Nat} (h : i < 4) : gp_R (gp_mk L s) 67 i = some (68 + i) := by
  rcases (by omega : i = 0 ∨ i = 1 ∨ i = 2 ∨ i = 3) with q | q | q | q <;> subst q <;> rfl
theorem NTrw {L : Nat} {s : gH} {p : Nat} (h : 68 ≤ p ∧ p ≤ 71) : NT L s p := fun a ha e => by
  rcases (by omega : a = 63 ∨ a = 64 ∨ a = 65 ∨ a = 66) with q | q | q | q <;> subst q
  · exact absurd (show (gp_ss 63).1 = 9 from ha) (by decide)
  · exact absurd (show (gp_ss 64).1 = 9 from ha) (by decide)
  · exact absurd (show (gp_ss 65).1 = 9 from ha) (by decide)
  · exact absurd (show (gp_ss 66).1 = 9 from ha) (by decide)
theorem xPrw {p k : Nat} {v : Int} (h : 68 ≤ p ∧ p ≤ 71) : p < 74 → xP p k v := by
  rcases (by omega : p = 68 ∨ p = 69 ∨ p = 70 ∨ p = 71) with q | q | q | q <;> subst q <;> exact fun _ => trivial
theorem gXrw {p k : Nat} {m : List Nat} (h : 68 ≤ p ∧ p ≤ 71) (hm : [68, 69, 70, 71].all (fun x => m.contains x) = true) : m.contains (gcd p k) = true ∨ 117 ≤ p := by
  rw [List.all_eq_true] at hm
  rcases (by omega : p = 68 ∨ p = 69 ∨ p = 70 ∨ p = 71) with q | q | q | q <;> subst q
  · exact Or.inl (hm 68 (by decide))
  · exact Or.inl (hm 69 (by decide))
  · exact Or.inl (hm 70 (by decide))
  · exact Or.inl (hm 71 (by decide))
set_option maxRecDepth 100000 in
/-- Sheets.beyond -/
theorem xm_sh_beyond  {L d : Nat} {K : Option gV → gH → Prop} {s : gH}  (p0 : Int) (hs : XI L 0 s)   (k : ∀ (r : Int), (0 ≤ r ∧ r ≤ 1) → ((r = 0 ∧ 0 ≤ p0 ∧ p0 ≤ 3) ∨ (r = 1 ∧ ¬ (0 ≤ p0 ∧ p0 ≤ 3))) → K (some (gp_i r)) s) : gs_C L d 1793 2 [gp_r (some 66), gp_i p0] s K := by
  refine s_1793_e _ ?_
  refine ⟨fun h_1 => ?_, fun h_1 => ?_⟩
  · refine s_1793_9 _ ?_
    refine s_1793_14 _ _ ?_
    refine ⟨by omega, ?_⟩
    exact k _ (by omega) (by first | omega | assumption)
  · refine ⟨fun h_2 => ?_, fun h_2 => ?_⟩
    · refine s_1793_14 _ _ ?_
      refine ⟨by omega, ?_⟩
      exact k _ (by omega) (by first | omega | assumption)
    · refine s_1793_9 _ ?_
      refine s_1793_14 _ _ ?_
      refine ⟨by omega, ?_⟩
      exact k _ (by omega) (by first | omega | assumption)
set_option maxRecDepth 100000 in
/-- Sheets.missing -/
theorem xm_sh_missing  {L d : Nat} {K : Option gV → gH → Prop} {s : gH}  (p0 : Int) (hs : XI L 0 s) (h_p0 : 0 ≤ p0 ∧ p0 ≤ 3)  (k : ∀ (r : Int), (0 ≤ r ∧ r ≤ 1) → K (some (gp_i r)) s) : gs_C L d 1794 2 [gp_r (some 66), gp_i p0] s K := by
  refine s_1794_e _ ?_
  refine ⟨by omega, ?_⟩
  refine ⟨fun h_1 => ?_, fun h_1 => ?_⟩
  · refine s_1794_14 _ _ ?_
    refine ⟨by omega, ?_⟩
    exact k _ (by omega)
  · refine s_1794_14 _ _ ?_
    refine ⟨by omega, ?_⟩
    exact k _ (by omega)
set_option maxRecDepth 100000 in
/-- Sheets.lay -/
theorem xm_sh_lay  {L d : Nat} {K : Option gV → gH → Prop} {s : gH}  (p0 : Int) (p1 : Int) (p2 : Int) (hs : XI L 0 s) (h_p0 : 0 ≤ p0 ∧ p0 ≤ 3) (h_p2 : 0 ≤ p2 ∧ p2 ≤ 20)  (k : ∀ (t : gH), XI L 0 t → gX L false [68, 69, 70, 71, 72, 73] s t → K none t) : gs_C L d 1795 5 [gp_r (some 66), gp_i p0, gp_i p1, gp_i p2] s K := by
  refine s_1795_e _ _ _ ?_
  refine ⟨by omega, ?_⟩
  intro s_1 e_2
  have hs_3 : XI L 0 s_1 := by rw [e_2]; exact xw72 hs _ _
  have hf_4 : gX L false [68, 69, 70, 71, 72, 73] s s_1 := by rw [e_2]; exact gX.wI (gX.refl _ _ _ _) (Or.inl rfl)
  refine ⟨by omega, ?_⟩
  intro s_5 e_6
  have hs_7 : XI L 0 s_5 := by rw [e_6]; exact xw73 hs_3 _ _ (by omega)
  have hf_8 : gX L false [68, 69, 70, 71, 72, 73] s s_5 := by rw [e_6]; exact gX.wI hf_4 (Or.inl rfl)
  have lp_9 : ∀ (n_9 : Nat) (v4_9 : Int) (s_9 : gH), (XI L 0 s_9) → (gX L false [68, 69, 70, 71, 72, 73] s s_9) → (0 ≤ v4_9 ∧ v4_9 ≤ 20) → (21 - v4_9).toNat < n_9 → gs_E L d 1795 17 [gp_r (some 66), gp_i p0, gp_i p1, gp_i p2, gp_i v4_9] [] s_9 K := by
    intro n_9
    induction n_9 with
    | zero => intro v4_9 s_9 hs_s_9 hf_s_9 hv4_9 hm_9; exact absurd hm_9 (Nat.not_lt_zero _)
    | succ n_9 ih_9 =>
      intro v4_9 s_9 hs_s_9 hf_s_9 hv4_9 hm_9
      refine s_1795_17 _ _ _ _ ?_
      refine ⟨fun h_10 => ?_, fun h_10 => ?_⟩
      · refine ⟨by omega, ?_⟩
        refine ⟨(68 + Int.toNat p0), shR (by omega), ?_⟩
        refine ⟨gin (rowsh ⟨by omega, by omega⟩) (by omega), ?_⟩
        intro s_11 e_12
        have hs_13 : XI L 0 s_11 := by rw [e_12]; exact XI.nt hs_s_9 _ _ _ (by rw [rowsh ⟨by omega, by omega⟩]) (NTrw ⟨by omega, by omega⟩) (xPrw ⟨by omega, by omega⟩)
        have hf_14 : gX L false [68, 69, 70, 71, 72, 73] s s_11 := by rw [e_12]; exact gX.wI hf_s_9 (gXrw ⟨by omega, by omega⟩ rfl)
        try rw [show gp_wr (v4_9 + 1) = v4_9 + 1 from gp_wr_id (by omega) (by omega)]
        exact ih_9 _ _ hs_13 hf_14 (by omega) (by omega)
      · exact k s_9 hs_s_9 hf_s_9
  exact lp_9 _ _ _ hs_7 hf_8 (by omega) (Nat.lt_succ_self _)
set_option maxRecDepth 100000 in
/-- Sheets.write -/
theorem xm_sh_write  {L d : Nat} {K : Option gV → gH → Prop} {s : gH}  (p0 : Int) (p1 : Int) (p2 : Int) (hs : XI L 0 s) (h_p0 : 0 ≤ p0 ∧ p0 ≤ 3) (h_p1 : 0 ≤ p1 ∧ p1 ≤ 19)  (k : ∀ (t : gH), XI L 0 t → gX L false [68, 69, 70, 71] s t → K none t) : gs_C L d 1796 4 [gp_r (some 66), gp_i p0, gp_i p1, gp_i p2] s K := by
  refine s_1796_e _ _ _ ?_
  refine ⟨by omega, ?_⟩
  refine ⟨by omega, ?_⟩
  refine ⟨fun h_1 => ?_, fun h_1 => ?_⟩
  · have w_2 := gz_b (p2)
    refine s_1796_40 _ _ _ _ _ _ ?_
    refine ⟨(68 + Int.toNat p0), shR (by omega), ?_⟩
    refine ⟨gin (rowsh ⟨by omega, by omega⟩) (by omega), ?_⟩
    intro s_4 e_5
    have hs_6 : XI L 0 s_4 := by rw [e_5]; exact XI.nt hs _ _ _ (by rw [rowsh ⟨by omega, by omega⟩]) (NTrw ⟨by omega, by omega⟩) (xPrw ⟨by omega, by omega⟩)
    have hf_7 : gX L false [68, 69, 70, 71] s s_4 := by rw [e_5]; exact gX.wI (gX.refl _ _ _ _) (gXrw ⟨by omega, by omega⟩ rfl)
    exact k s_4 hs_6 hf_7
  · refine ⟨by omega, ?_⟩
    refine ⟨fun h_8 => ?_, fun h_8 => ?_⟩
    · have w_9 := gz_s (p2)
      refine s_1796_40 _ _ _ _ _ _ ?_
      refine ⟨(68 + Int.toNat p0), shR (by omega), ?_⟩
      refine ⟨gin (rowsh ⟨by omega, by omega⟩) (by omega), ?_⟩
      intro s_11 e_12
      have hs_13 : XI L 0 s_11 := by rw [e_12]; exact XI.nt hs _ _ _ (by rw [rowsh ⟨by omega, by omega⟩]) (NTrw ⟨by omega, by omega⟩) (xPrw ⟨by omega, by omega⟩)
      have hf_14 : gX L false [68, 69, 70, 71] s s_11 := by rw [e_12]; exact gX.wI (gX.refl _ _ _ _) (gXrw ⟨by omega, by omega⟩ rfl)
      exact k s_11 hs_13 hf_14
    · refine s_1796_40 _ _ _ _ _ _ ?_
      refine ⟨(68 + Int.toNat p0), shR (by omega), ?_⟩
      refine ⟨gin (rowsh ⟨by omega, by omega⟩) (by omega), ?_⟩
      intro s_16 e_17
      have hs_18 : XI L 0 s_16 := by rw [e_17]; exact XI.nt hs _ _ _ (by rw [rowsh ⟨by omega, by omega⟩]) (NTrw ⟨by omega, by omega⟩) (xPrw ⟨by omega, by omega⟩)
      have hf_19 : gX L false [68, 69, 70, 71] s s_16 := by rw [e_17]; exact gX.wI (gX.refl _ _ _ _) (gXrw ⟨by omega, by omega⟩ rfl)
      exact k s_16 hs_18 hf_19
set_option maxRecDepth 100000 in
/-- Sheets.stand -/
theorem xm_sh_stand  {L d : Nat} {K : Option gV → gH → Prop} {s : gH}  (p0 : Int) (p1 : Int) (p2 : Int) (hs : XI L 0 s) (h_p0 : 0 ≤ p0 ∧ p0 ≤ 3)  (k : ∀ (r : Int), (0 ≤ r ∧ r ≤ 1) → (r = 1 → 0 ≤ p1 ∧ 0 ≤ p2 ∧ p1 + p2 ≤ 20) → K (some (gp_i r)) s) : gs_C L d 1797 4 [gp_r (some 66), gp_i p0, gp_i p1, gp_i p2] s K := by
  refine s_1797_e _ _ _ ?_
  refine ⟨fun h_1 => ?_, fun h_1 => ?_⟩
  · refine s_1797_34 _ _ _ ?_
    refine s_1797_35 _ _ _ _ ?_
    refine ⟨by omega, ?_⟩
    exact k _ (by omega) (by first | omega | assumption)
  · refine ⟨fun h_2 => ?_, fun h_2 => ?_⟩
    · refine s_1797_34 _ _ _ ?_
      refine s_1797_35 _ _ _ _ ?_
      refine ⟨by omega, ?_⟩
      exact k _ (by omega) (by first | omega | assumption)
    · refine ⟨by omega, ?_⟩
      have f_3 := xr73 hs (Int.toNat p0)
      refine ⟨fun h_4 => ?_, fun h_4 => ?_⟩
      · refine s_1797_34 _ _ _ ?_
        refine s_1797_35 _ _ _ _ ?_
        refine ⟨by omega, ?_⟩
        exact k _ (by omega) (by first | omega | assumption)
      · refine ⟨by omega, ?_⟩
        have f_5 := xr73 hs (Int.toNat p0)
        try rw [show gp_wr ((gp_I s 73 (Int.toNat p0)) - p1) = (gp_I s 73 (Int.toNat p0)) - p1 from gp_wr_id (by omega) (by omega)]
        refine ⟨fun h_6 => ?_, fun h_6 => ?_⟩
        · refine s_1797_34 _ _ _ ?_
          refine s_1797_35 _ _ _ _ ?_
          refine ⟨by omega, ?_⟩
          exact k _ (by omega) (by first | omega | assumption)
        · refine s_1797_35 _ _ _ _ ?_
          refine ⟨by omega, ?_⟩
          exact k _ (by omega) (by first | omega | assumption)
set_option maxRecDepth 100000 in
/-- Sheets.tooBig -/
theorem xm_sh_tooBig  {L d : Nat} {K : Option gV → gH → Prop} {s : gH}  (p0 : Int) (hs : XI L 0 s) (h_p0 : 0 ≤ p0 ∧ p0 ≤ 3)  (k : ∀ (r : Int), (0 ≤ r ∧ r ≤ 1) → K (some (gp_i r)) s) : gs_C L d 1798 3 [gp_r (some 66), gp_i p0] s K := by
  refine s_1798_e _ ?_
  have lp_1 : ∀ (n_1 : Nat) (v2_1 : Int), (0 ≤ v2_1 ∧ v2_1 ≤ 20) → (21 - v2_1).toNat < n_1 → gs_E L d 1798 2 [gp_r (some 66), gp_i p0, gp_i v2_1] [] s K := by
    intro n_1
    induction n_1 with
    | zero => intro v2_1 hv2_1 hm_1; exact absurd hm_1 (Nat.not_lt_zero _)
    | succ n_1 ih_1 =>
      intro v2_1 hv2_1 hm_1
      refine s_1798_2 _ _ ?_
      refine ⟨by omega, ?_⟩
      have f_2 := xr73 hs (Int.toNat p0)
      refine ⟨fun h_3 => ?_, fun h_3 => ?_⟩
      · refine ⟨by omega, ?_⟩
        refine ⟨(68 + Int.toNat p0), shR (by omega), ?_⟩
        refine ⟨gin (rowsh ⟨by omega, by omega⟩) (by omega), ?_⟩
        refine ⟨fun h_4 => ?_, fun h_4 => ?_⟩
        · refine s_1798_38 _ _ ?_
          exact k _ (by omega)
        · refine ⟨by omega, ?_⟩
          refine ⟨(68 + Int.toNat p0), shR (by omega), ?_⟩
          refine ⟨gin (rowsh ⟨by omega, by omega⟩) (by omega), ?_⟩
          refine ⟨fun h_5 => ?_, fun h_5 => ?_⟩
          · refine s_1798_38 _ _ ?_
            exact k _ (by omega)
          · try rw [show gp_wr (v2_1 + 1) = v2_1 + 1 from gp_wr_id (by omega) (by omega)]
            exact ih_1 _ (by omega) (by omega)
      · exact k _ (by omega)
  exact lp_1 _ _ (by omega) (Nat.lt_succ_self _)
