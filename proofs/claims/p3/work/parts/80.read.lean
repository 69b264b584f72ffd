/-! the class's reader -/
def RTX (L : Nat) (s : gH) : Prop := gp_R (gp_mk L s) 46 4 = some 3
theorem RTX_fr {L : Nat} {al : Bool} {m : List Nat} {s t : gH} (h : RTX L s) (g : gX L al m s t) (e : m.contains 2476 = false) : RTX L t := by
  have r := (g.2.2.1 46 4 (by decide) (by decide) e).2.2
  have h2 : s.2.2.2.2.2 46 4 = some 3 := h
  show t.2.2.2.2.2 46 4 = some 3
  rw [r, h2]
theorem RTX_w {L : Nat} {s : gH} : RTX L (gp_wR s 46 4 (some 3)) := R_wRs rfl
/-- the byte that comes next -/
def nxb (s : gH) : Int := if gp_I s 46 7 < 0 ∧ gp_I s 46 6 < gp_I s 46 5 then gp_I s 3 (gp_I s 46 6).toNat else -1
theorem nxb_y {s : gH} (h : gp_I s 46 7 < 0) (h2 : gp_I s 46 6 < gp_I s 46 5) : gp_I s 3 (gp_I s 46 6).toNat = nxb s := (if_pos ⟨h, h2⟩).symm
theorem nxb_n {s : gH} (h : ¬ (gp_I s 46 7 < 0 ∧ gp_I s 46 6 < gp_I s 46 5)) : -1 = nxb s := (if_neg h).symm
/-- tables that wait -/
def RV (L : Nat) (s : gH) : Prop := ∀ k : Nat, (k : Int) < gp_I s 46 3 → ∃ a n, gp_R (gp_mk L s) 47 k = some a ∧ kT L s a n ∧ n ≤ 60
theorem RV.get {L : Nat} {s : gH} (h : RV L s) (k : Nat) (hk : (k : Int) < gp_I s 46 3) : ∃ a n, gp_R (gp_mk L s) 47 k = some a ∧ kT L s a n ∧ n ≤ 60 := h k hk
theorem RV_0 {L : Nat} {s : gH} (h : gp_I s 46 3 = 0) : RV L s := fun k hk => by omega
theorem RV_le {L : Nat} {al : Bool} {m : List Nat} {s t : gH} (h : RV L s) (g : gX L al m s t) (e : m.contains 47 = false) (hw : gp_I t 46 3 ≤ gp_I s 46 3) : RV L t := by
  intro k hk
  obtain ⟨a, n, h1, h2, h3⟩ := h k (by omega)
  have r := (g.2.2.1 47 k (by decide) (by decide) e).2.2
  refine ⟨a, n, ?_, h2.fr g.1, h3⟩
  have h1' : s.2.2.2.2.2 47 k = some a := h1
  show t.2.2.2.2.2 47 k = some a
  rw [r, h1']
theorem RV_fr {L : Nat} {al : Bool} {m : List Nat} {s t : gH} (h : RV L s) (g : gX L al m s t) (e : m.contains 47 = false) (e2 : m.contains 2475 = false) : RV L t := RV_le h g e (by rw [(g.2.2.1 46 3 (by decide) (by decide) e2).1]; exact Int.le_refl _)
theorem RV_hang {L : Nat} {s u t : gH} {a n : Nat} (h : RV L s) (kt : kT L s a n) (hn : n ≤ 60) (h0 : 0 ≤ gp_I s 46 3) (eu : u = gp_wR s 47 (Int.toNat (gp_I s 46 3)) (some a)) (et : t = gp_wI u 46 3 (gp_I u 46 3 + 1)) : RV L t := by
  intro k hk
  have ew : gp_I t 46 3 = gp_I s 46 3 + 1 := by
    rw [et, (gz_rw _ _ _ _ _).1 rfl, eu]
  rw [ew] at hk
  have hkT : ∀ {a' n'}, kT L s a' n' → kT L t a' n' := fun q => by rw [et, eu]; exact q
  have hR : gp_R (gp_mk L t) 47 k = gp_R (gp_mk L u) 47 k := by rw [et]; rfl
  rw [hR, eu]
  by_cases c : k = (gp_I s 46 3).toNat
  · exact ⟨a, n, by rw [c]; exact R_wRs rfl, hkT kt, hn⟩
  · obtain ⟨a', n', h1, h2, h3⟩ := h k (by omega)
    exact ⟨a', n', by rw [R_wR k (Or.inr c)]; exact h1, hkT h2, h3⟩
set_option maxRecDepth 100000 in
/-- Reader.next -/
theorem xm_next  {L d : Nat} {K : Option gV → gH → Prop} {s : gH}   (hs : XI L 0 s)  (q0 : RTX L s) (k : ∀ (r : Int), ((-128) ≤ r ∧ r ≤ 127) → (r = nxb s) → ((gp_I s 46 7 < 0 ∧ gp_I s 46 6 < gp_I s 46 5) ∨ r = -1) → K (some (gp_i r)) s) : gs_C L d 1282 1 [gp_r (some 46)] s K := by
  refine s_1282_e ?_
  have f_1 := xr46_7 hs
  refine ⟨fun h_2 => ?_, fun h_2 => ?_⟩
  · have f_3 := xr46_6 hs
    have f_4 := xr46_5 hs
    refine ⟨fun h_5 => ?_, fun h_5 => ?_⟩
    · have f_6 := xr46_6 hs
      refine ⟨3, q0, ?_⟩
      refine ⟨⟨rfl, by show 0 ≤ gp_I s 46 6 ∧ gp_I s 46 6 < 100; omega⟩, ?_⟩
      have f_7 := xr3 hs (Int.toNat (gp_I s 46 6))
      refine s_1282_31 _ ?_
      exact k _ (by omega) (by first | exact nxb_y (by omega) (by omega) | exact nxb_n (by omega)) (by first | omega | assumption)
    · refine s_1282_30 ?_
      refine s_1282_31 _ ?_
      exact k _ (by omega) (by first | exact nxb_y (by omega) (by omega) | exact nxb_n (by omega)) (by first | omega | assumption)
  · refine s_1282_30 ?_
    refine s_1282_31 _ ?_
    exact k _ (by omega) (by first | exact nxb_y (by omega) (by omega) | exact nxb_n (by omega)) (by first | omega | assumption)
set_option maxRecDepth 100000 in
/-- Reader.fail -/
theorem xm_fail  {L d : Nat} {K : Option gV → gH → Prop} {s : gH}   (hs : XI L 0 s)   (k : ∀ (t : gH), XI L 0 t → gX L false [2479] s t → K none t) : gs_C L d 1283 1 [gp_r (some 46)] s K := by
  have f_1 := xr46_5 hs
  have f_2 := xr46_6 hs
  have f_3 := xr46_7 hs
  have f_4 := xr46_3 hs
  refine s_1283_e ?_
  have f_5 := xr46_7 hs
  refine ⟨fun h_6 => ?_, fun h_6 => ?_⟩
  · have f_7 := xr46_6 hs
    intro s_8 e_9
    have hs_10 : XI L 0 s_8 := by rw [e_9]; exact xw46_7 hs _ (by omega)
    have hf_11 : gX L false [2479] s s_8 := by rw [e_9]; exact gX.wI (gX.refl _ _ _ _) (Or.inl rfl)
    have q_12 : gp_I s_8 46 5 = gp_I s 46 5 := by rw [e_9] <;> first | rfl | exact I_ne (by omega)
    have q_13 : gp_I s_8 46 6 = gp_I s 46 6 := by rw [e_9] <;> first | rfl | exact I_ne (by omega)
    have q_14 : gp_I s_8 46 7 = gp_I s 46 6 := by rw [e_9]; exact (gz_rw _ _ _ _ _).1 rfl
    have q_15 : gp_I s_8 46 3 = gp_I s 46 3 := by rw [e_9] <;> first | rfl | exact I_ne (by omega)
    refine s_1283_15 ?_
    exact k s_8 hs_10 hf_11
  · refine s_1283_15 ?_
    exact k s hs (gX.refl _ _ _ _)
set_option maxRecDepth 100000 in
/-- Reader.digit -/
theorem xm_digit  {L d : Nat} {K : Option gV → gH → Prop} {s : gH}  (p0 : Int)    (k : ∀ (r : Int), (0 ≤ r ∧ r ≤ 1) → ((r = 1 ∧ 48 ≤ p0 ∧ p0 ≤ 57) ∨ (r = 0 ∧ ¬ (48 ≤ p0 ∧ p0 ≤ 57))) → K (some (gp_i r)) s) : gs_C L d 1291 1 [gp_i p0] s K := by
  refine s_1291_e _ ?_
  refine ⟨fun h_1 => ?_, fun h_1 => ?_⟩
  · refine s_1291_16 _ ?_
    refine s_1291_17 _ _ ?_
    refine ⟨by omega, ?_⟩
    exact k _ (by omega) (by first | omega | assumption)
  · refine ⟨fun h_2 => ?_, fun h_2 => ?_⟩
    · refine s_1291_16 _ ?_
      refine s_1291_17 _ _ ?_
      refine ⟨by omega, ?_⟩
      exact k _ (by omega) (by first | omega | assumption)
    · refine s_1291_17 _ _ ?_
      refine ⟨by omega, ?_⟩
      exact k _ (by omega) (by first | omega | assumption)
set_option maxRecDepth 100000 in
/-- Reader.unfit -/
theorem xm_unfit  {L d : Nat} {K : Option gV → gH → Prop} {s : gH}   (hs : XI L 0 s)   (k : ∀ (r : Int), (0 ≤ r ∧ r ≤ 1) → K (some (gp_i r)) s) : gs_C L d 1292 1 [gp_r (some 46)] s K := by
  refine s_1292_e ?_
  have f_1 := xr46_7 hs
  refine ⟨fun h_2 => ?_, fun h_2 => ?_⟩
  · have f_3 := xr46_8 hs
    refine ⟨fun h_4 => ?_, fun h_4 => ?_⟩
    · refine s_1292_19 _ ?_
      refine ⟨by omega, ?_⟩
      exact k _ (by omega)
    · refine s_1292_14 ?_
      refine s_1292_19 _ ?_
      refine ⟨by omega, ?_⟩
      exact k _ (by omega)
  · refine s_1292_14 ?_
    refine s_1292_19 _ ?_
    refine ⟨by omega, ?_⟩
    exact k _ (by omega)
set_option maxRecDepth 100000 in
/-- Reader.expect -/
theorem xm_expect  {L d : Nat} {K : Option gV → gH → Prop} {s : gH}  (p0 : Int) (hs : XI L 0 s) (h_p0 : 0 ≤ p0 ∧ p0 ≤ 127) (q0 : RTX L s) (q1 : gp_I s 46 6 ≤ gp_I s 46 5) (k : ∀ (t : gH), XI L 0 t → gX L false [2478, 2479] s t → (gp_I s 46 6 ≤ gp_I t 46 6 ∧ gp_I t 46 6 ≤ gp_I t 46 5) → (RTX L t) → K none t) : gs_C L (d + 1) 1284 2 [gp_r (some 46), gp_i p0] s K := by
  have f_1 := xr46_5 hs
  have f_2 := xr46_6 hs
  have f_3 := xr46_7 hs
  have f_4 := xr46_3 hs
  refine s_1284_e _ ?_
  refine xm_next hs (q0) (fun x_5 p_6 p_7 p_8 => ⟨_, rfl, ?_⟩)
  refine ⟨fun h_9 => ?_, fun h_9 => ?_⟩
  · have f_10 := xr46_6 hs
    try rw [show gp_wr ((gp_I s 46 6) + 1) = (gp_I s 46 6) + 1 from gp_wr_id (by omega) (by omega)]
    intro s_11 e_12
    have hs_13 : XI L 0 s_11 := by rw [e_12]; exact xw46_6 hs _ (by omega)
    have hf_14 : gX L false [2478, 2479] s s_11 := by rw [e_12]; exact gX.wI (gX.refl _ _ _ _) (Or.inl rfl)
    have q_15 : gp_I s_11 46 5 = gp_I s 46 5 := by rw [e_12] <;> first | rfl | exact I_ne (by omega)
    have q_16 : gp_I s_11 46 6 = (gp_I s 46 6) + 1 := by rw [e_12]; exact (gz_rw _ _ _ _ _).1 rfl
    have q_17 : gp_I s_11 46 7 = gp_I s 46 7 := by rw [e_12] <;> first | rfl | exact I_ne (by omega)
    have q_18 : gp_I s_11 46 3 = gp_I s 46 3 := by rw [e_12] <;> first | rfl | exact I_ne (by omega)
    have pd_19 : RTX L s_11 := by rw [e_12]; exact RTX_fr q0 (gX.wI (gX.refl L true [2478] _) (Or.inl rfl)) rfl
    refine s_1284_25 _ ?_
    exact k s_11 hs_13 hf_14 (by first | omega | assumption) (pd_19)
  · refine xm_fail hs (fun s_20 hs_21 hf_22 => ⟨rfl, ?_⟩)
    have hf_23 : gX L false [2478, 2479] s s_20 := gX.sub hf_22 rfl rfl
    have pd_24 : RTX L s_20 := RTX_fr q0 hf_22 rfl
    have q_25 : gp_I s_20 46 5 = gp_I s 46 5 := (hf_22.2.2.1 46 5 (by decide) (by decide) rfl).1
    have q_26 : gp_I s_20 46 6 = gp_I s 46 6 := (hf_22.2.2.1 46 6 (by decide) (by decide) rfl).1
    have q_27 : gp_I s_20 46 3 = gp_I s 46 3 := (hf_22.2.2.1 46 3 (by decide) (by decide) rfl).1
    refine s_1284_25 _ ?_
    exact k s_20 hs_21 hf_23 (by first | omega | assumption) (pd_24)
set_option maxRecDepth 100000 in
/-- Reader.readDigits -/
theorem xm_readDigits  {L d : Nat} {K : Option gV → gH → Prop} {s : gH}  (p0 : Int) (hs : XI L 0 s) (h_p0 : 1 ≤ p0 ∧ p0 ≤ 3) (q0 : RTX L s) (q1 : gp_I s 46 6 ≤ gp_I s 46 5) (k : ∀ (r : Int), ∀ (t : gH), XI L 0 t → gX L false [2478, 2479] s t → (0 ≤ r ∧ r ≤ 999) → (gp_I s 46 6 ≤ gp_I t 46 6 ∧ gp_I t 46 6 ≤ gp_I t 46 5) → (RTX L t) → (p0 = 1 → r ≤ 9) → (48 ≤ nxb s ∧ nxb s ≤ 57 → gp_I s 46 6 + 1 ≤ gp_I t 46 6) → K (some (gp_i r)) t) : gs_C L (d + 1) 1290 4 [gp_r (some 46), gp_i p0] s K := by
  have f_1 := xr46_5 hs
  have f_2 := xr46_6 hs
  have f_3 := xr46_7 hs
  have f_4 := xr46_3 hs
  refine s_1290_e _ ?_
  have lp_5 : ∀ (n_5 : Nat) (v2_5 : Int) (v3_5 : Int) (s_5 : gH), (XI L 0 s_5) → (gX L false [2478, 2479] s s_5) → (RTX L s_5) → (0 ≤ v2_5 ∧ v2_5 ≤ 999) → (0 ≤ v3_5 ∧ v3_5 ≤ 3) → (gp_I s_5 46 5 = gp_I s 46 5) → (gp_I s_5 46 7 = gp_I s 46 7) → (gp_I s_5 46 3 = gp_I s 46 3) → (v3_5 ≤ p0) → ((v3_5 = 0 ∧ v2_5 = 0) ∨ (v3_5 = 1 ∧ v2_5 ≤ 9) ∨ (v3_5 = 2 ∧ v2_5 ≤ 99) ∨ (v3_5 = 3 ∧ v2_5 ≤ 999)) → (gp_I s 46 6 ≤ gp_I s_5 46 6 ∧ gp_I s_5 46 6 ≤ gp_I s_5 46 5) → (v3_5 = 0 → nxb s_5 = nxb s) → (1 ≤ v3_5 → gp_I s 46 6 + 1 ≤ gp_I s_5 46 6) → (4 - v3_5).toNat < n_5 → gs_E L (d + 1) 1290 4 [gp_r (some 46), gp_i p0, gp_i v2_5, gp_i v3_5] [] s_5 K := by
    intro n_5
    induction n_5 with
    | zero => intro v2_5 v3_5 s_5 hs_s_5 hf_s_5 RTX_L_s_5 hv2_5 hv3_5 tk0_5 tk1_5 tk2_5 iv0_5 iv1_5 iv2_5 iv3_5 iv4_5 hm_5; exact absurd hm_5 (Nat.not_lt_zero _)
    | succ n_5 ih_5 =>
      intro v2_5 v3_5 s_5 hs_s_5 hf_s_5 RTX_L_s_5 hv2_5 hv3_5 tk0_5 tk1_5 tk2_5 iv0_5 iv1_5 iv2_5 iv3_5 iv4_5 hm_5
      refine s_1290_4 _ _ _ ?_
      refine ⟨fun h_6 => ?_, fun h_6 => ?_⟩
      · refine xm_next hs_s_5 (RTX_L_s_5) (fun x_7 p_8 p_9 p_10 => ⟨_, rfl, ?_⟩)
        refine xm_digit _ (fun x_11 p_12 p_13 => ⟨_, rfl, ?_⟩)
        refine ⟨fun h_14 => ?_, fun h_14 => ?_⟩
        · refine s_1290_48 _ _ _ ?_
          refine ⟨fun h_15 => ?_, fun h_15 => ?_⟩
          · refine xm_fail hs_s_5 (fun s_16 hs_17 hf_18 => ⟨rfl, ?_⟩)
            have hf_19 : gX L false [2478, 2479] s s_16 := gX.trans hf_s_5 hf_18 rfl rfl
            have pd_20 : RTX L s_16 := RTX_fr RTX_L_s_5 hf_18 rfl
            have q_21 : gp_I s_16 46 5 = gp_I s_5 46 5 := (hf_18.2.2.1 46 5 (by decide) (by decide) rfl).1
            have q_22 : gp_I s_16 46 6 = gp_I s_5 46 6 := (hf_18.2.2.1 46 6 (by decide) (by decide) rfl).1
            have q_23 : gp_I s_16 46 3 = gp_I s_5 46 3 := (hf_18.2.2.1 46 3 (by decide) (by decide) rfl).1
            refine s_1290_56 _ _ _ ?_
            exact k _ s_16 hs_17 hf_19 (by omega) (by first | omega | assumption) (pd_20) (by first | omega | assumption) (by first | omega | assumption)
          · refine s_1290_56 _ _ _ ?_
            exact k _ s_5 hs_s_5 hf_s_5 (by omega) (by first | omega | assumption) (RTX_L_s_5) (by first | omega | assumption) (by first | omega | assumption)
        · try rw [show gp_wr (v2_5 * 10) = v2_5 * 10 from gp_wr_id (by omega) (by omega)]
          refine xm_next hs_s_5 (RTX_L_s_5) (fun x_24 p_25 p_26 p_27 => ⟨_, rfl, ?_⟩)
          try rw [show gp_wr (x_24 - 48) = x_24 - 48 from gp_wr_id (by omega) (by omega)]
          try rw [show gp_wr ((v2_5 * 10) + (x_24 - 48)) = (v2_5 * 10) + (x_24 - 48) from gp_wr_id (by omega) (by omega)]
          have f_28 := xr46_6 hs_s_5
          try rw [show gp_wr ((gp_I s_5 46 6) + 1) = (gp_I s_5 46 6) + 1 from gp_wr_id (by omega) (by omega)]
          intro s_29 e_30
          have hs_31 : XI L 0 s_29 := by rw [e_30]; exact xw46_6 hs_s_5 _ (by omega)
          have hf_32 : gX L false [2478, 2479] s s_29 := by rw [e_30]; exact gX.wI hf_s_5 (Or.inl rfl)
          have q_33 : gp_I s_29 46 5 = gp_I s_5 46 5 := by rw [e_30] <;> first | rfl | exact I_ne (by omega)
          have q_34 : gp_I s_29 46 6 = (gp_I s_5 46 6) + 1 := by rw [e_30]; exact (gz_rw _ _ _ _ _).1 rfl
          have q_35 : gp_I s_29 46 7 = gp_I s_5 46 7 := by rw [e_30] <;> first | rfl | exact I_ne (by omega)
          have q_36 : gp_I s_29 46 3 = gp_I s_5 46 3 := by rw [e_30] <;> first | rfl | exact I_ne (by omega)
          have pd_37 : RTX L s_29 := by rw [e_30]; exact RTX_fr RTX_L_s_5 (gX.wI (gX.refl L true [2478] _) (Or.inl rfl)) rfl
          try rw [show gp_wr (v3_5 + 1) = v3_5 + 1 from gp_wr_id (by omega) (by omega)]
          exact ih_5 _ _ _ hs_31 hf_32 pd_37 (by omega) (by omega) (by first | rfl | omega) (by first | rfl | omega) (by first | rfl | omega) (by first | omega | assumption) (by first | omega | assumption) (by first | omega | assumption) (by first | omega | assumption) (by first | omega | assumption) (by omega)
      · refine s_1290_48 _ _ _ ?_
        refine ⟨fun h_38 => ?_, fun h_38 => ?_⟩
        · exfalso; omega
        · refine s_1290_56 _ _ _ ?_
          exact k _ s_5 hs_s_5 hf_s_5 (by omega) (by first | omega | assumption) (RTX_L_s_5) (by first | omega | assumption) (by first | omega | assumption)
  exact lp_5 _ _ _ _ hs (gX.refl _ _ _ _) q0 (by omega) (by omega) (by first | rfl | omega) (by first | rfl | omega) (by first | rfl | omega) (by first | omega | assumption) (by first | omega | assumption) (by first | omega | assumption) (by first | omega | assumption) (by first | omega | assumption) (Nat.lt_succ_self _)
set_option maxRecDepth 100000 in
/-- Reader.fitting -/
theorem xm_fitting  {L d : Nat} {K : Option gV → gH → Prop} {s : gH}  (p0 : Option Nat) (hs : XI L 0 s)  (q0 : p0 = none ∨ ∃ a n, p0 = some a ∧ kT L s a n ∧ n ≤ 60) (k : ∀ (r : Option Nat), ∀ (t : gH), XI L 0 t → gX L false [2480] s t → (∃ a n, r = some a ∧ kT L t a n ∧ n ≤ 60) → K (some (gp_r r)) t) : gs_C L (d + 1) 1293 2 [gp_r (some 46), gp_r p0] s K := by
  refine s_1293_e _ ?_
  refine ⟨fun hq_1 => ?_, fun q_2 hq_1 => ?_⟩
  · intro s_3 e_4
    have hs_5 : XI L 0 s_3 := by rw [e_4]; exact xw46_8 hs _ (by omega)
    have hf_6 : gX L false [2480] s s_3 := by rw [e_4]; exact gX.wI (gX.refl _ _ _ _) (Or.inl rfl)
    exact k _ s_3 hs_5 hf_6 (⟨25, 1, rfl, kT25 hs_5.1.1, by omega⟩)
  · obtain ⟨n_7, kt_8, hn_9⟩ := nn_of q0 hq_1
    have hn_q_2 := kt_8.n hs
    refine ⟨kt_8.2.1, ?_⟩
    refine xm_tooBig n_7 _ hs (by first | assumption | exact kT7 hs.1.1 | exact kT25 hs.1.1) (fun x_10 p_11 => ⟨_, rfl, ?_⟩)
    refine ⟨fun h_12 => ?_, fun h_12 => ?_⟩
    · refine s_1293_30 _ ?_
      exact k _ s hs (gX.refl _ _ _ _) (⟨_, _, rfl, kt_8, by omega⟩)
    · intro s_14 e_15
      have hs_16 : XI L 0 s_14 := by rw [e_15]; exact xw46_8 hs _ (by omega)
      have hf_17 : gX L false [2480] s s_14 := by rw [e_15]; exact gX.wI (gX.refl _ _ _ _) (Or.inl rfl)
      have kt_18 : kT L s_14 q_2 n_7 := by rw [e_15]; exact kt_8
      refine s_1293_30 _ ?_
      exact k _ s_14 hs_16 hf_17 (⟨_, _, rfl, kt_18, by omega⟩)
set_option maxRecDepth 100000 in
/-- Reader.hang -/
theorem xm_hang  {L d : Nat} {K : Option gV → gH → Prop} {s : gH} (n_p0 : Nat) (p0 : Nat) (hs : XI L 0 s)  (q0 : kT L s p0 n_p0) (q1 : n_p0 ≤ 60) (q2 : RV L s) (k : ∀ (t : gH), XI L 0 t → gX L false [47, 2475] s t → (RV L t) → (gp_I s 46 3 ≤ gp_I t 46 3) → K none t) : gs_C L d 1289 2 [gp_r (some 46), gp_r (some p0)] s K := by
  have hn_p0 := q0.n hs
  have f_1 := xr46_3 hs
  refine s_1289_e _ ?_
  have f_2 := xr46_3 hs
  refine ⟨fun h_3 => ?_, fun h_3 => ?_⟩
  · have f_4 := xr46_3 hs
    refine ⟨p0, rfl, ?_⟩
    refine ⟨by omega, ?_⟩
    refine ⟨q0.2.1, ?_⟩
    intro s_5 e_6
    have hs_7 : XI L 0 s_5 := by rw [e_6]; exact XI.wR hs 47 (Int.toNat (gp_I s 46 3)) _ (Or.inl (show ¬ (gp_ss 47).1 = 9 by decide))
    have hf_8 : gX L false [47, 2475] s s_5 := by rw [e_6]; exact gX.wR (gX.refl _ _ _ _) (Or.inl rfl) (Or.inl (show ¬ (gp_ss 47).1 = 9 by decide))
    have kt_9 : kT L s_5 p0 n_p0 := by rw [e_6]; exact q0
    have q_10 : gp_I s_5 46 3 = gp_I s 46 3 := by rw [e_6] <;> first | rfl | exact I_ne (by omega)
    have f_11 := xr46_3 hs_7
    try rw [show gp_wr ((gp_I s_5 46 3) + 1) = (gp_I s_5 46 3) + 1 from gp_wr_id (by omega) (by omega)]
    intro s_12 e_13
    have hs_14 : XI L 0 s_12 := by rw [e_13]; exact xw46_3 hs_7 _ (by omega)
    have hf_15 : gX L false [47, 2475] s s_12 := by rw [e_13]; exact gX.wI hf_8 (Or.inl rfl)
    have kt_16 : kT L s_12 p0 n_p0 := by rw [e_13]; exact kt_9
    have q_17 : gp_I s_12 46 3 = (gp_I s_5 46 3) + 1 := by rw [e_13]; exact (gz_rw _ _ _ _ _).1 rfl
    refine s_1289_32 _ ?_
    exact k s_12 hs_14 hf_15 (by first | assumption | exact RV_hang q2 q0 q1 (by omega) (by assumption) (by assumption)) (by first | omega | assumption)
  · refine s_1289_32 _ ?_
    exact k s hs (gX.refl _ _ _ _) (by first | assumption | exact RV_hang q2 q0 q1 (by omega) (by assumption) (by assumption)) (by first | omega | assumption)
set_option maxRecDepth 100000 in
/-- Reader.framed -/
theorem xm_framed  {L d : Nat} {K : Option gV → gH → Prop} {s : gH}  (p0 : Int) (p1 : Int) (p2 : Int) (p3 : Int) (hs : XI L 0 s) (h_p0 : 0 ≤ p0 ∧ p0 ≤ 100) (h_p1 : 0 ≤ p1 ∧ p1 ≤ 100) (q0 : RV L s) (k : ∀ (r : Option Nat), ∀ (t : gH), XI L 0 t → gX L true [8, 9, 10, 11, 12, 13, 14, 15, 1196, 2480] s t → (∃ a n, r = some a ∧ kT L t a n ∧ n ≤ 60) → (gp_sz t ≤ gp_sz s + 6) → (gp_us t ≤ gp_us s + 310) → K (some (gp_r r)) t) : gs_C L (d + 5) 1294 11 [gp_r (some 46), gp_i p0, gp_i p1, gp_i p2, gp_i p3] s K := by
  have f_1 := xr6_4 hs
  have f_2 := xr46_3 hs
  refine s_1294_e _ _ _ _ ?_
  refine xm_unfit hs (fun x_3 p_4 => ⟨_, rfl, ?_⟩)
  refine ⟨fun h_5 => ?_, fun h_5 => ?_⟩
  · refine xm_empty hs (fun s_6 hs_7 hf_8 p_9 p_10 => ⟨rfl, ?_⟩)
    have hf_11 : gX L true [8, 9, 10, 11, 12, 13, 14, 15, 1196, 2480] s s_6 := gX.sub hf_8 rfl rfl
    have pd_12 : RV L s_6 := RV_fr q0 hf_8 rfl rfl
    have q_13 : gp_I s_6 46 3 = gp_I s 46 3 := (hf_8.2.2.1 46 3 (by decide) (by decide) rfl).1
    have z_14 : gp_sz s_6 = gp_sz s ∧ gp_us s_6 = gp_us s := hf_8.2.1 rfl
    have lp_15 : ∀ (n_15 : Nat) (v5_15 : BitVec 64) (v7_15 : BitVec 64) (v9_15 : Int) (v10_15 : gV) (s_15 : gH), (XI L 0 s_15) → (gX L true [8, 9, 10, 11, 12, 13, 14, 15, 1196, 2480] s s_15) → (PO s_15) → (RV L s_15) → (gp_sz s_15 ≤ gp_sz s + 0 ∧ gp_us s_15 ≤ gp_us s + 0) → (0 ≤ v9_15 ∧ v9_15 ≤ 100) → (gp_I s_15 46 3 = gp_I s_6 46 3) → (bd v5_15 (gp_I s_15 6 4)) → (bd v7_15 (gp_I s_15 6 4)) → (101 - v9_15).toNat < n_15 → gs_E L (d + 5) 1294 31 [gp_r (some 46), gp_i p0, gp_i p1, gp_i p2, gp_i p3, gp_l v5_15, gp_n, gp_l v7_15, gp_n, gp_i v9_15, v10_15] [] s_15 K := by
      intro n_15
      induction n_15 with
      | zero => intro v5_15 v7_15 v9_15 v10_15 s_15 hs_s_15 hf_s_15 PO_s_15 RV_L_s_15 rm_s_15 hv9_15 tk0_15 iv0_15 iv1_15 hm_15; exact absurd hm_15 (Nat.not_lt_zero _)
      | succ n_15 ih_15 =>
        intro v5_15 v7_15 v9_15 v10_15 s_15 hs_s_15 hf_s_15 PO_s_15 RV_L_s_15 rm_s_15 hv9_15 tk0_15 iv0_15 iv1_15 hm_15
        refine s_1294_31 _ _ _ _ _ _ _ _ ?_
        have f_16 := xr46_3 hs_s_15
        refine ⟨fun h_17 => ?_, fun h_17 => ?_⟩
        · have hN60 := xr6_4 hs_s_15
          refine ⟨by omega, ?_⟩
          refine ⟨by omega, ?_⟩
          obtain ⟨a_18, n_19, e_20, kt_21, hn_22⟩ := RV.get (by assumption) (Int.toNat v9_15) (by omega)
          have hn_a_18 := kt_21.n hs_s_15
          refine ⟨a_18, e_20, ?_⟩
          refine ⟨kt_21.2.1, ?_⟩
          refine xm_root n_19 _ hs_s_15 (by first | assumption | exact kT7 hs_s_15.1.1 | exact kT25 hs_s_15.1.1) (fun x_23 p_24 p_25 => ⟨_, rfl, ?_⟩)
          refine xm_take n_19 _ _ hs_s_15 (by omega) (by first | assumption | exact kT7 hs_s_15.1.1 | exact kT25 hs_s_15.1.1) (by first | omega | assumption) (by first | omega | assumption) (PO_s_15) (fun x_26 s_27 hs_28 hf_29 p_30 p_31 p_32 p_33 => ⟨_, rfl, ?_⟩)
          have hf_34 : gX L true [8, 9, 10, 11, 12, 13, 14, 15, 1196, 2480] s s_27 := gX.trans hf_s_15 hf_29 rfl rfl
          have kt_35 : kT L s_27 a_18 n_19 := kt_21.fr hf_29.1
          have pd_36 : RV L s_27 := RV_fr RV_L_s_15 hf_29 rfl rfl
          have q_37 : gp_I s_27 46 3 = gp_I s_15 46 3 := (hf_29.2.2.1 46 3 (by decide) (by decide) rfl).1
          have z_38 : gp_sz s_27 = gp_sz s_15 ∧ gp_us s_27 = gp_us s_15 := hf_29.2.1 rfl
          refine ⟨fun h_39 => ?_, fun h_39 => ?_⟩
          · intro s_40 e_41
            have hs_42 : XI L 0 s_40 := by rw [e_41]; exact xw46_8 hs_28 _ (by omega)
            have hf_43 : gX L true [8, 9, 10, 11, 12, 13, 14, 15, 1196, 2480] s s_40 := by rw [e_41]; exact gX.wI hf_34 (Or.inl rfl)
            have kt_44 : kT L s_40 a_18 n_19 := by rw [e_41]; exact kt_35
            have z_45 : gp_sz s_40 = gp_sz s_27 ∧ gp_us s_40 = gp_us s_27 := by rw [e_41]; exact ⟨rfl, rfl⟩
            have q_46 : gp_I s_40 6 4 = gp_I s_27 6 4 := by rw [e_41] <;> first | rfl | exact I_ne (by omega)
            have q_47 : gp_I s_40 46 3 = gp_I s_27 46 3 := by rw [e_41] <;> first | rfl | exact I_ne (by omega)
            have pd_48 : PO s_40 := by rw [e_41]; exact PO_fr p_31 (gX.wI (gX.refl L true [2480] _) (Or.inl rfl)) rfl rfl rfl rfl rfl rfl
            have pd_49 : RV L s_40 := by rw [e_41]; exact RV_fr pd_36 (gX.wI (gX.refl L true [2480] _) (Or.inl rfl)) rfl rfl
            exact k _ s_40 hs_42 hf_43 (⟨25, 1, rfl, kT25 hs_42.1.1, by omega⟩) (by first | omega | assumption) (by first | omega | assumption)
          · refine ⟨fun h_50 => ?_, fun h_50 => ?_⟩
            · refine s_1294_100 _ _ _ _ _ _ _ _ _ _ ?_
              refine ⟨fun h_51 => ?_, fun h_51 => ?_⟩
              · refine s_1294_119 _ _ _ _ _ _ _ _ _ _ ?_
                try rw [show gp_wr (v9_15 + 1) = v9_15 + 1 from gp_wr_id (by omega) (by omega)]
                exact ih_15 _ _ _ _ _ hs_28 hf_34 p_31 pd_36 (by omega) (by omega) (by first | rfl | omega) (by first | (refine bd_or (bd_le iv0_15 ?_) (bd_sh ?_ ?_ ?_) <;> omega) | (refine bd_or (bd_le iv0_15 ?_) (bd_0 _); omega)) (by first | (refine bd_or (bd_le iv1_15 ?_) (bd_sh ?_ ?_ ?_) <;> omega) | (refine bd_or (bd_le iv1_15 ?_) (bd_0 _); omega)) (by omega)
              · refine s_1294_119 _ _ _ _ _ _ _ _ _ _ ?_
                try rw [show gp_wr (v9_15 + 1) = v9_15 + 1 from gp_wr_id (by omega) (by omega)]
                exact ih_15 _ _ _ _ _ hs_28 hf_34 p_31 pd_36 (by omega) (by omega) (by first | rfl | omega) (by first | (refine bd_or (bd_le iv0_15 ?_) (bd_sh ?_ ?_ ?_) <;> omega) | (refine bd_or (bd_le iv0_15 ?_) (bd_0 _); omega)) (by first | (refine bd_or (bd_le iv1_15 ?_) (bd_sh ?_ ?_ ?_) <;> omega) | (refine bd_or (bd_le iv1_15 ?_) (bd_0 _); omega)) (by omega)
            · refine s_1294_100 _ _ _ _ _ _ _ _ _ _ ?_
              refine ⟨fun h_52 => ?_, fun h_52 => ?_⟩
              · refine s_1294_119 _ _ _ _ _ _ _ _ _ _ ?_
                try rw [show gp_wr (v9_15 + 1) = v9_15 + 1 from gp_wr_id (by omega) (by omega)]
                exact ih_15 _ _ _ _ _ hs_28 hf_34 p_31 pd_36 (by omega) (by omega) (by first | rfl | omega) (by first | (refine bd_or (bd_le iv0_15 ?_) (bd_sh ?_ ?_ ?_) <;> omega) | (refine bd_or (bd_le iv0_15 ?_) (bd_0 _); omega)) (by first | (refine bd_or (bd_le iv1_15 ?_) (bd_sh ?_ ?_ ?_) <;> omega) | (refine bd_or (bd_le iv1_15 ?_) (bd_0 _); omega)) (by omega)
              · refine s_1294_119 _ _ _ _ _ _ _ _ _ _ ?_
                try rw [show gp_wr (v9_15 + 1) = v9_15 + 1 from gp_wr_id (by omega) (by omega)]
                exact ih_15 _ _ _ _ _ hs_28 hf_34 p_31 pd_36 (by omega) (by omega) (by first | rfl | omega) (by first | (refine bd_or (bd_le iv0_15 ?_) (bd_sh ?_ ?_ ?_) <;> omega) | (refine bd_or (bd_le iv0_15 ?_) (bd_0 _); omega)) (by first | (refine bd_or (bd_le iv1_15 ?_) (bd_sh ?_ ?_ ?_) <;> omega) | (refine bd_or (bd_le iv1_15 ?_) (bd_0 _); omega)) (by omega)
        · refine xm_add _ _ _ _ hs_s_15 (PO_s_15) (iv0_15) (iv1_15) (fun x_53 s_54 hs_55 hf_56 p_57 p_58 p_59 => ⟨_, rfl, ?_⟩)
          have hf_60 : gX L true [8, 9, 10, 11, 12, 13, 14, 15, 1196, 2480] s s_54 := gX.trans hf_s_15 hf_56 rfl rfl
          have pd_61 : RV L s_54 := RV_fr RV_L_s_15 hf_56 rfl rfl
          have q_62 : gp_I s_54 46 3 = gp_I s_15 46 3 := (hf_56.2.2.1 46 3 (by decide) (by decide) rfl).1
          have z_63 : gp_sz s_54 = gp_sz s_15 ∧ gp_us s_54 = gp_us s_15 := hf_56.2.1 rfl
          refine ⟨fun h_64 => ?_, fun h_64 => ?_⟩
          · intro s_65 e_66
            have hs_67 : XI L 0 s_65 := by rw [e_66]; exact xw46_8 hs_55 _ (by omega)
            have hf_68 : gX L true [8, 9, 10, 11, 12, 13, 14, 15, 1196, 2480] s s_65 := by rw [e_66]; exact gX.wI hf_60 (Or.inl rfl)
            have z_69 : gp_sz s_65 = gp_sz s_54 ∧ gp_us s_65 = gp_us s_54 := by rw [e_66]; exact ⟨rfl, rfl⟩
            have q_70 : gp_I s_65 6 4 = gp_I s_54 6 4 := by rw [e_66] <;> first | rfl | exact I_ne (by omega)
            have q_71 : gp_I s_65 46 3 = gp_I s_54 46 3 := by rw [e_66] <;> first | rfl | exact I_ne (by omega)
            have pd_72 : PO s_65 := by rw [e_66]; exact PO_fr p_58 (gX.wI (gX.refl L true [2480] _) (Or.inl rfl)) rfl rfl rfl rfl rfl rfl
            have pd_73 : RV L s_65 := by rw [e_66]; exact RV_fr pd_61 (gX.wI (gX.refl L true [2480] _) (Or.inl rfl)) rfl rfl
            exact k _ s_65 hs_67 hf_68 (⟨25, 1, rfl, kT25 hs_67.1.1, by omega⟩) (by first | omega | assumption) (by first | omega | assumption)
          · refine xm_tableOf _ hs_55 (by omega) (p_58) (by first | omega | assumption) (fun o_74 s_75 hs_76 hf_77 p_78 p_79 p_80 => ⟨_, rfl, ?_⟩)
            have hf_81 : gX L true [8, 9, 10, 11, 12, 13, 14, 15, 1196, 2480] s s_75 := gX.trans hf_60 hf_77 rfl rfl
            have pd_82 : PO s_75 := PO_fr p_58 hf_77 rfl rfl rfl rfl rfl rfl
            have pd_83 : RV L s_75 := RV_fr pd_61 hf_77 rfl rfl
            have q_84 : gp_I s_75 6 4 = gp_I s_54 6 4 := (hf_77.2.2.1 6 4 (by decide) (by decide) rfl).1
            have q_85 : gp_I s_75 46 3 = gp_I s_54 46 3 := (hf_77.2.2.1 46 3 (by decide) (by decide) rfl).1
            obtain ⟨a_86, n_87, rfl, kt_88, hn_89⟩ := p_78
            have hn_a_86 := kt_88.n hs_76
            exact k _ s_75 hs_76 hf_81 (⟨_, _, rfl, by assumption, by omega⟩) (by first | omega | assumption) (by first | omega | assumption)
    exact lp_15 _ _ _ _ _ _ hs_7 hf_11 p_10 pd_12 (by omega) (by omega) (by first | rfl | omega) (bd_0 _) (bd_0 _) (Nat.lt_succ_self _)
  · exact k _ s hs (gX.refl _ _ _ _) (⟨25, 1, rfl, kT25 hs.1.1, by omega⟩) (by first | omega | assumption) (by first | omega | assumption)
