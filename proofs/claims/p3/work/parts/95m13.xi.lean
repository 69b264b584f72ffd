/-! the class's reader: what its calls keep -/
def RK (L : Nat) (s t : gH) : Prop := ∀ k : Nat, (k : Int) < gp_I s 46 3 → gp_R (gp_mk L t) 47 k = gp_R (gp_mk L s) 47 k
theorem RK_fr {L : Nat} {al : Bool} {m : List Nat} {s u t : gH} (h : RK L s u) (g : gX L al m u t) (e : m.contains 47 = false) : RK L s t := fun k hk => (R47 g e k).trans (h k hk)
theorem RK_t {L : Nat} {s u t : gH} (h : RK L s u) (g : RK L u t) (hw : gp_I s 46 3 ≤ gp_I u 46 3) : RK L s t := fun k hk => (g k (by omega)).trans (h k hk)
theorem RTW_c {L : Nat} {g g' : Nat → Int} {n n' : Int} {s t : gH} {k : Nat} {o : Int} {r : Option Nat} (h : RTW L g' n' s t k o r) (e : G3 s = g ∧ gp_I s 46 5 = n) (e1 : g' = G3 s) (e2 : n' = gp_I s 46 5) : RTW L g n s t k o r := by
  rw [e1, e2, e.1, e.2] at h; exact h
theorem SDW_c {L : Nat} {g g' : Nat → Int} {n n' : Int} {s t : gH} {o r : Int} (h : SDW L g' n' s t o r) (e : G3 s = g ∧ gp_I s 46 5 = n) (e1 : g' = G3 s) (e2 : n' = gp_I s 46 5) : SDW L g n s t o r := by
  rw [e1, e2, e.1, e.2] at h; exact h
theorem GT_wI {L : Nat} {u t : gH} {c i : Nat} {v : Int} {r : Option Nat} {x : Nat} (h : GT L u r x) (e : t = gp_wI u c i v) (hc : c < 117) : GT L t r x := by
  obtain ⟨a, n, h1, h2, h3, h4, h5, h6⟩ := h
  have f : TF t a = TF u a := funext fun k => by
    rw [e]
    unfold TF
    rw [I_ne (show a + 3 ≠ c by omega), I_ne (show a + 4 ≠ c by omega)]
    try rfl
  exact ⟨a, n, h1, by rw [e]; exact h2, h3, h4, by rw [f]; exact h5, by rw [f]; exact h6⟩
theorem GT_wR {L : Nat} {u t : gH} {c i : Nat} {v : Option Nat} {r : Option Nat} {x : Nat} (h : GT L u r x) (e : t = gp_wR u c i v) : GT L t r x := by
  obtain ⟨a, n, h1, h2, h3, h4, h5, h6⟩ := h
  have f : TF t a = TF u a := by rw [e]; rfl
  exact ⟨a, n, h1, by rw [e]; exact h2, h3, h4, by rw [f]; exact h5, by rw [f]; exact h6⟩
theorem MONO {g : Nat → Int} {n o : Int} : ∀ (N : Nat) (q2 : R5) (p f : Int) (v : Nat) (tr b : Int), RDZ g n N 0 o (p, f, v, tr, b) q2 → q2.2.2.2.1 = 0 → tr = 0 := fun N q2 p f v tr b h h2 => by
  by_cases c : tr = 0
  · exact c
  · exact absurd h2 (RDZ_tr _ _ _ _ _ h c)
theorem ESW_f {L : Nat} {g : Nat → Int} {n o : Int} {s u : gH} {r : Option Nat} (h : ESW L g n s u o r) : gp_I u 46 7 < 0 → gp_I s 46 7 < 0 := fun f => by
  by_cases q : gp_I s 46 7 < 0
  · exact q
  · have := (h.1 (by omega)).2.1; omega
theorem TSW_f {L : Nat} {g : Nat → Int} {n o : Int} {s u : gH} (h : TSW L g n s u o) : gp_I u 46 7 < 0 → gp_I s 46 7 < 0 := fun f => by
  by_cases q : gp_I s 46 7 < 0
  · exact q
  · have := (h.1 (by omega)).2.1; omega
theorem RTW_f {L : Nat} {g : Nat → Int} {n o : Int} {s u : gH} {k : Nat} {r : Option Nat} (h : RTW L g n s u k o r) : gp_I u 46 7 < 0 → gp_I s 46 7 < 0 := fun f => by
  by_cases q : gp_I s 46 7 < 0
  · exact q
  · have := (h.1 (by omega)).2.1; omega
theorem SDW_f {L : Nat} {g : Nat → Int} {n o r : Int} {s u : gH} (h : SDW L g n s u o r) : gp_I u 46 7 < 0 → gp_I s 46 7 < 0 := fun f => by
  by_cases q : gp_I s 46 7 < 0
  · exact q
  · have := (h.1 (by omega)).2.1; omega
theorem EXW_f {s u : gH} {c : Int} (h : EXW s u c) (p : 0 ≤ gp_I s 46 6) : gp_I u 46 7 < 0 → gp_I s 46 7 < 0 ∧ gp_I u 46 6 = gp_I s 46 6 + 1 := fun f => by
  by_cases q : gp_I s 46 7 < 0
  · refine ⟨q, ?_⟩
    rcases h.2 q with ⟨_, a, _⟩ | ⟨_, _, a⟩
    · exact a
    · omega
  · have := (h.1 (by omega)).2; omega
theorem RTW_w {L : Nat} {g : Nat → Int} {n o v : Int} {s u t : gH} {k : Nat} {r : Option Nat} (h : RTW L g n s u k o r) (e : t = gp_wI u 46 3 v) : RTW L g n s t k o r := by
  have e6 : gp_I t 46 6 = gp_I u 46 6 := by rw [e]; exact (gz_rw _ _ _ _ _).2 (by decide)
  have e7 : gp_I t 46 7 = gp_I u 46 7 := by rw [e]; exact (gz_rw _ _ _ _ _).2 (by decide)
  have e8 : gp_I t 46 8 = gp_I u 46 8 := by rw [e]; exact (gz_rw _ _ _ _ _).2 (by decide)
  refine ⟨fun q => ?_, fun q => ?_⟩
  · have z := h.1 q
    exact ⟨e6.trans z.1, e7.trans z.2.1, e8.trans z.2.2⟩
  · obtain ⟨N, w, y, z1, z2, z3, z4⟩ := h.2 q
    refine ⟨N, w, y, e6.trans z1, ?_, e8.trans z3, fun ok => GT_wI (z4 ok) e (by decide)⟩
    unfold FTE at z2 ⊢
    rw [e7]; exact z2
def RUV (m : Nat) : Prop := ∀ (L D : Nat) (K : Option gV → gH → Prop) (s : gH)  (p0 : Int), ((4 * m + 20 ≤ D)) → (XI L 0 s) → (0 ≤ p0 ∧ p0 ≤ 8) → (RTX L s) → (RV L s) → (9 ≤ p0 + m) → (gp_I s 46 6 ≤ gp_I s 46 5) → (gp_I s 46 7 < 0 → gp_I s 46 3 ≤ gp_I s 46 6) → (∀ (r : Option Nat), ∀ (t : gH), XI L 0 t → gX L true [8, 9, 10, 11, 12, 13, 14, 15, 21, 22, 47, 1196, 2475, 2478, 2479, 2480] s t → (∃ a n, r = some a ∧ kT L t a n ∧ n ≤ 60) → (gp_I s 46 6 ≤ gp_I t 46 6 ∧ gp_I t 46 6 ≤ gp_I t 46 5) → (RTX L t) → (RV L t) → (gp_I t 46 3 = gp_I s 46 3) → ((gp_sz t : Int) ≤ gp_sz s + 6 * (gp_I t 46 6 - gp_I s 46 6) ∧ (gp_us t : Int) ≤ gp_us s + 310 * (gp_I t 46 6 - gp_I s 46 6)) → (IK s t) → (RTW L (G3 s) (gp_I s 46 5) s t 0 p0 r) → (RK L s t) → (gp_I s 46 7 < 0 ∧ gp_I t 46 7 < 0 → gp_I s 46 6 + 1 ≤ gp_I t 46 6) → K (some (gp_r r)) t) → gs_C L D 1286 3 [gp_r (some 46), gp_i p0] s K
def RSV (m : Nat) : Prop := ∀ (L D : Nat) (K : Option gV → gH → Prop) (s : gH)  (p0 : Int), ((4 * m + 21 ≤ D)) → (XI L 0 s) → (0 ≤ p0 ∧ p0 ≤ 8) → (RTX L s) → (RV L s) → (9 ≤ p0 + m) → (gp_I s 46 6 ≤ gp_I s 46 5) → (gp_I s 46 7 < 0 → gp_I s 46 3 ≤ gp_I s 46 6) → (∀ (r : Option Nat), ∀ (t : gH), XI L 0 t → gX L true [8, 9, 10, 11, 12, 13, 14, 15, 21, 22, 47, 1196, 2475, 2478, 2479, 2480] s t → (∃ a n, r = some a ∧ kT L t a n ∧ n ≤ 60) → (gp_I s 46 6 ≤ gp_I t 46 6 ∧ gp_I t 46 6 ≤ gp_I t 46 5) → (RTX L t) → (RV L t) → (gp_I t 46 3 = gp_I s 46 3) → ((gp_sz t : Int) ≤ gp_sz s + 6 * (gp_I t 46 6 - gp_I s 46 6) ∧ (gp_us t : Int) ≤ gp_us s + 310 * (gp_I t 46 6 - gp_I s 46 6)) → (IK s t) → (RTW L (G3 s) (gp_I s 46 5) s t 1 p0 r) → (RK L s t) → (gp_I s 46 7 < 0 ∧ gp_I t 46 7 < 0 → gp_I s 46 6 + 1 ≤ gp_I t 46 6) → K (some (gp_r r)) t) → gs_C L D 1285 5 [gp_r (some 46), gp_i p0] s K
def RDV (m : Nat) : Prop := ∀ (L D : Nat) (K : Option gV → gH → Prop) (s : gH)  (p0 : Int), ((4 * m + 22 ≤ D)) → (XI L 0 s) → (0 ≤ p0 ∧ p0 ≤ 8) → (RTX L s) → (RV L s) → (9 ≤ p0 + m) → (gp_I s 46 6 ≤ gp_I s 46 5) → (gp_I s 46 7 < 0 → gp_I s 46 3 ≤ gp_I s 46 6) → (∀ (r : Int), ∀ (t : gH), XI L 0 t → gX L true [8, 9, 10, 11, 12, 13, 14, 15, 21, 22, 47, 1196, 2475, 2478, 2479, 2480] s t → (gp_I s 46 6 ≤ gp_I t 46 6 ∧ gp_I t 46 6 ≤ gp_I t 46 5) → (RTX L t) → (RV L t) → (gp_I s 46 3 ≤ gp_I t 46 3) → ((gp_sz t : Int) ≤ gp_sz s + 6 * (gp_I t 46 6 - gp_I s 46 6) ∧ (gp_us t : Int) ≤ gp_us s + 310 * (gp_I t 46 6 - gp_I s 46 6)) → (IK s t) → (SDW L (G3 s) (gp_I s 46 5) s t p0 r) → (RK L s t) → (gp_I s 46 7 < 0 ∧ gp_I t 46 7 < 0 → gp_I s 46 6 + 1 ≤ gp_I t 46 6) → (gp_I s 46 7 < 0 ∧ gp_I t 46 7 < 0 → gp_I t 46 3 ≤ gp_I t 46 6) → K (some (gp_i r)) t) → gs_C L D 1288 3 [gp_r (some 46), gp_i p0] s K
def RFV (m : Nat) : Prop := ∀ (L D : Nat) (K : Option gV → gH → Prop) (s : gH)  (p0 : Int), ((4 * m + 23 ≤ D)) → (XI L 0 s) → (0 ≤ p0 ∧ p0 ≤ 8) → (RTX L s) → (RV L s) → (9 ≤ p0 + m) → (gp_I s 46 6 ≤ gp_I s 46 5) → (gp_I s 46 7 < 0 → gp_I s 46 3 ≤ gp_I s 46 6) → (∀ (r : Option Nat), ∀ (t : gH), XI L 0 t → gX L true [8, 9, 10, 11, 12, 13, 14, 15, 21, 22, 47, 1196, 2475, 2478, 2479, 2480] s t → (∃ a n, r = some a ∧ kT L t a n ∧ n ≤ 60) → (gp_I s 46 6 ≤ gp_I t 46 6 ∧ gp_I t 46 6 ≤ gp_I t 46 5) → (RTX L t) → (RV L t) → (gp_I t 46 3 = gp_I s 46 3) → ((gp_sz t : Int) ≤ gp_sz s + 6 * (gp_I t 46 6 - gp_I s 46 6) + 6 ∧ (gp_us t : Int) ≤ gp_us s + 310 * (gp_I t 46 6 - gp_I s 46 6) + 310) → (IK s t) → (RTW L (G3 s) (gp_I s 46 5) s t 5 p0 r) → (RK L s t) → (gp_I s 46 7 < 0 ∧ gp_I t 46 7 < 0 → gp_I s 46 6 + 1 ≤ gp_I t 46 6) → K (some (gp_r r)) t) → gs_C L D 1287 7 [gp_r (some 46), gp_i p0] s K
set_option maxRecDepth 100000 in
/-- Reader.readUnit -/
theorem xm_readUnitV (m : Nat) (ihU : RUV m) (ihF : RFV m) : RUV (m + 1) := by
  intro L D K s p0 hD hs h_p0 q0 q1 q2 q3 q4 k
  obtain ⟨d, rfl⟩ : ∃ d, D = d + 18 := ⟨D - 18, by omega⟩
  have f_1 := xr46_3 hs
  have f_2 := xr46_5 hs
  have f_3 := xr46_6 hs
  have f_4 := xr46_7 hs
  have f_5 := xr46_8 hs
  refine s_1286_e _ ?_
  have hRK0 : RK L s s := fun _ _ => rfl
  have hR3 : SRC s (G3 s) (gp_I s 46 5) := ⟨rfl, rfl⟩
  refine xm_next hs (q0) (fun x_6 p_7 p_8 p_9 => ⟨_, rfl, ?_⟩)
  have hnx := p_8
  refine ⟨fun h_10 => ?_, fun h_10 => ?_⟩
  · have f_11 := xr46_6 hs
    try rw [show gp_wr ((gp_I s 46 6) + 1) = (gp_I s 46 6) + 1 from gp_wr_id (by omega) (by omega)]
    intro s_12 e_13
    have hs_14 : XI L 0 s_12 := by rw [e_13]; exact xw46_6 hs _ (by omega)
    have hf_15 : gX L true [8, 9, 10, 11, 12, 13, 14, 15, 21, 22, 47, 1196, 2475, 2478, 2479, 2480] s s_12 := by rw [e_13]; exact gX.wI (gX.refl _ _ _ _) (Or.inl rfl)
    have z_16 : gp_sz s_12 = gp_sz s ∧ gp_us s_12 = gp_us s := by rw [e_13]; exact ⟨rfl, rfl⟩
    have q_17 : gp_I s_12 46 3 = gp_I s 46 3 := by rw [e_13] <;> first | rfl | exact I_ne (by omega)
    have q_18 : gp_I s_12 46 5 = gp_I s 46 5 := by rw [e_13] <;> first | rfl | exact I_ne (by omega)
    have q_19 : gp_I s_12 46 6 = (gp_I s 46 6) + 1 := by rw [e_13]; exact (gz_rw _ _ _ _ _).1 rfl
    have q_20 : gp_I s_12 46 7 = gp_I s 46 7 := by rw [e_13] <;> first | rfl | exact I_ne (by omega)
    have q_21 : gp_I s_12 46 8 = gp_I s 46 8 := by rw [e_13] <;> first | rfl | exact I_ne (by omega)
    have pd_22 : RTX L s_12 := by rw [e_13]; exact RTX_fr q0 (gX.wI (gX.refl L true [2478] _) (Or.inl rfl)) rfl
    have pd_23 : RV L s_12 := by rw [e_13]; exact RV_fr q1 (gX.wI (gX.refl L true [2478] _) (Or.inl rfl)) rfl rfl
    have pd_24 : IK s s_12 := by rw [e_13]; exact IK_wI (IK_r s) (Or.inl (by decide))
    have pd_25 : RK L s s_12 := by rw [e_13]; exact RK_fr hRK0 (gX.wI (gX.refl L true [2478] _) (Or.inl rfl)) rfl
    have hSu : SRC s_12 (G3 s) (gp_I s 46 5) := ⟨G3_fr hf_15 rfl, by omega⟩
    have hEu : gp_I s_12 46 6 = gp_I s 46 6 + 1 ∧ gp_I s_12 46 7 = gp_I s 46 7 ∧ gp_I s_12 46 8 = gp_I s 46 8 := ⟨by omega, by omega, by omega⟩
    refine xm_readDigitsV _ hs_14 (by omega) (pd_22) (by first | omega | assumption) (fun x_26 s_27 hs_28 hf_29 p_30 p_31 p_32 p_33 p_34 p_35 p_36 p_37 => ⟨_, rfl, ?_⟩)
    have hf_38 : gX L true [8, 9, 10, 11, 12, 13, 14, 15, 21, 22, 47, 1196, 2475, 2478, 2479, 2480] s s_27 := gX.trans hf_15 hf_29 rfl rfl
    have pd_39 : RV L s_27 := RV_fr pd_23 hf_29 rfl rfl
    have pd_40 : RK L s s_27 := RK_fr pd_25 hf_29 rfl
    have q_41 : gp_I s_27 46 3 = gp_I s_12 46 3 := (hf_29.2.2.1 46 3 (by decide) (by decide) rfl).1
    have q_42 : gp_I s_27 46 5 = gp_I s_12 46 5 := (hf_29.2.2.1 46 5 (by decide) (by decide) rfl).1
    have q_43 : gp_I s_27 46 8 = gp_I s_12 46 8 := (hf_29.2.2.1 46 8 (by decide) (by decide) rfl).1
    have z_44 : gp_sz s_27 = gp_sz s_12 ∧ gp_us s_27 = gp_us s_12 := hf_29.2.1 rfl
    have pd_45 : IK s s_27 := IK_t pd_24 p_35 ((hf_15).1.1)
    have hDG := p_36
    refine xm_pausesV _ hs_28 (by omega) (fun o_46 s_47 hs_48 hf_49 p_50 p_51 p_52 p_53 => ⟨_, rfl, ?_⟩)
    have hf_54 : gX L true [8, 9, 10, 11, 12, 13, 14, 15, 21, 22, 47, 1196, 2475, 2478, 2479, 2480] s s_47 := gX.trans hf_38 hf_49 rfl rfl
    have pd_55 : RTX L s_47 := RTX_fr p_32 hf_49 rfl
    have pd_56 : RV L s_47 := RV_fr pd_39 hf_49 rfl rfl
    have pd_57 : RK L s s_47 := RK_fr pd_40 hf_49 rfl
    have q_58 : gp_I s_47 46 3 = gp_I s_27 46 3 := (hf_49.2.2.1 46 3 (by decide) (by decide) rfl).1
    have q_59 : gp_I s_47 46 5 = gp_I s_27 46 5 := (hf_49.2.2.1 46 5 (by decide) (by decide) rfl).1
    have q_60 : gp_I s_47 46 6 = gp_I s_27 46 6 := (hf_49.2.2.1 46 6 (by decide) (by decide) rfl).1
    have q_61 : gp_I s_47 46 7 = gp_I s_27 46 7 := (hf_49.2.2.1 46 7 (by decide) (by decide) rfl).1
    have q_62 : gp_I s_47 46 8 = gp_I s_27 46 8 := (hf_49.2.2.1 46 8 (by decide) (by decide) rfl).1
    have pd_63 : IK s s_47 := IK_t pd_45 p_53 ((hf_38).1.1)
    obtain ⟨a_64, n_65, rfl, kt_66, hn_67⟩ := p_50
    have hn_a_64 := kt_66.n hs_48
    exact k _ s_47 hs_48 hf_54 (⟨_, _, rfl, by assumption, by omega⟩) (by first | omega | assumption) (pd_55) (pd_56) (by first | omega | assumption) (by first | omega | assumption) (pd_63) (U_w hR3 hSu hnx (by omega) (by omega) hEu hDG (by omega) ⟨by omega, by omega, by omega⟩ ⟨_, _, rfl, kt_66, hn_67⟩) (pd_57) (by first | omega | assumption)
  · refine xm_digit _ (fun x_68 p_69 p_70 => ⟨_, rfl, ?_⟩)
    refine ⟨fun h_71 => ?_, fun h_71 => ?_⟩
    · refine ⟨fun h_72 => ?_, fun h_72 => ?_⟩
      · refine s_1286_66 _ _ ?_
        refine ⟨fun h_73 => ?_, fun h_73 => ?_⟩
        · have f_74 := xr46_6 hs
          try rw [show gp_wr ((gp_I s 46 6) + 1) = (gp_I s 46 6) + 1 from gp_wr_id (by omega) (by omega)]
          intro s_75 e_76
          have hs_77 : XI L 0 s_75 := by rw [e_76]; exact xw46_6 hs _ (by omega)
          have hf_78 : gX L true [8, 9, 10, 11, 12, 13, 14, 15, 21, 22, 47, 1196, 2475, 2478, 2479, 2480] s s_75 := by rw [e_76]; exact gX.wI (gX.refl _ _ _ _) (Or.inl rfl)
          have z_79 : gp_sz s_75 = gp_sz s ∧ gp_us s_75 = gp_us s := by rw [e_76]; exact ⟨rfl, rfl⟩
          have q_80 : gp_I s_75 46 3 = gp_I s 46 3 := by rw [e_76] <;> first | rfl | exact I_ne (by omega)
          have q_81 : gp_I s_75 46 5 = gp_I s 46 5 := by rw [e_76] <;> first | rfl | exact I_ne (by omega)
          have q_82 : gp_I s_75 46 6 = (gp_I s 46 6) + 1 := by rw [e_76]; exact (gz_rw _ _ _ _ _).1 rfl
          have q_83 : gp_I s_75 46 7 = gp_I s 46 7 := by rw [e_76] <;> first | rfl | exact I_ne (by omega)
          have q_84 : gp_I s_75 46 8 = gp_I s 46 8 := by rw [e_76] <;> first | rfl | exact I_ne (by omega)
          have pd_85 : RTX L s_75 := by rw [e_76]; exact RTX_fr q0 (gX.wI (gX.refl L true [2478] _) (Or.inl rfl)) rfl
          have pd_86 : RV L s_75 := by rw [e_76]; exact RV_fr q1 (gX.wI (gX.refl L true [2478] _) (Or.inl rfl)) rfl rfl
          have pd_87 : IK s s_75 := by rw [e_76]; exact IK_wI (IK_r s) (Or.inl (by decide))
          have pd_88 : RK L s s_75 := by rw [e_76]; exact RK_fr hRK0 (gX.wI (gX.refl L true [2478] _) (Or.inl rfl)) rfl
          have hSu : SRC s_75 (G3 s) (gp_I s 46 5) := ⟨G3_fr hf_78 rfl, by omega⟩
          have hEu : gp_I s_75 46 6 = gp_I s 46 6 + 1 ∧ gp_I s_75 46 7 = gp_I s 46 7 ∧ gp_I s_75 46 8 = gp_I s 46 8 := ⟨by omega, by omega, by omega⟩
          refine ⟨fun h_89 => ?_, fun h_89 => ?_⟩
          · try rw [show gp_wr (p0 + 1) = p0 + 1 from gp_wr_id (by omega) (by omega)]
            have hRKo := pd_88
            refine ihU _ _ _ _ _ (by omega) hs_77 (by omega) (pd_85) (pd_86) (by first | omega | assumption) (by first | omega | assumption) (by first | omega | assumption) (fun o_90 s_91 hs_92 hf_93 p_94 p_95 p_96 p_97 p_98 p_99 p_100 p_101 p_102 p_103 => ⟨_, rfl, ?_⟩)
            have hf_104 : gX L true [8, 9, 10, 11, 12, 13, 14, 15, 21, 22, 47, 1196, 2475, 2478, 2479, 2480] s s_91 := gX.trans hf_78 hf_93 rfl rfl
            have q_105 : gp_I s_91 46 5 = gp_I s_75 46 5 := (hf_93.2.2.1 46 5 (by decide) (by decide) rfl).1
            have pd_106 : IK s s_91 := IK_t pd_87 p_100 ((hf_78).1.1)
            obtain ⟨a_107, n_108, rfl, kt_109, hn_110⟩ := p_94
            have hn_a_107 := kt_109.n hs_92
            have hUN := RTW_c p_101 hSu rfl rfl
            have hKD := kt_109
            have hRKn : RK L s s_91 := RK_t hRKo p_102 (by omega)
            refine xm_negatedV n_108 _ hs_92 (by first | assumption | exact kT7 hs_92.1.1 | exact kT25 hs_92.1.1) (by first | omega | assumption) (fun o_111 s_112 hs_113 hf_114 p_115 p_116 p_117 p_118 => ⟨_, rfl, ?_⟩)
            have hf_119 : gX L true [8, 9, 10, 11, 12, 13, 14, 15, 21, 22, 47, 1196, 2475, 2478, 2479, 2480] s s_112 := gX.trans hf_104 hf_114 rfl rfl
            have kt_120 : kT L s_112 a_107 n_108 := kt_109.fr hf_114.1
            have pd_121 : RTX L s_112 := RTX_fr p_96 hf_114 rfl
            have pd_122 : RV L s_112 := RV_fr p_97 hf_114 rfl rfl
            have pd_123 : RK L s s_112 := RK_fr hRKn hf_114 rfl
            have q_124 : gp_I s_112 46 3 = gp_I s_91 46 3 := (hf_114.2.2.1 46 3 (by decide) (by decide) rfl).1
            have q_125 : gp_I s_112 46 5 = gp_I s_91 46 5 := (hf_114.2.2.1 46 5 (by decide) (by decide) rfl).1
            have q_126 : gp_I s_112 46 6 = gp_I s_91 46 6 := (hf_114.2.2.1 46 6 (by decide) (by decide) rfl).1
            have q_127 : gp_I s_112 46 7 = gp_I s_91 46 7 := (hf_114.2.2.1 46 7 (by decide) (by decide) rfl).1
            have q_128 : gp_I s_112 46 8 = gp_I s_91 46 8 := (hf_114.2.2.1 46 8 (by decide) (by decide) rfl).1
            have pd_129 : IK s s_112 := IK_t pd_106 p_118 ((hf_104).1.1)
            obtain ⟨a_130, n_131, rfl, kt_132, hn_133⟩ := p_115
            have hn_a_130 := kt_132.n hs_113
            refine s_1286_124 _ _ _ ?_
            exact k _ s_112 hs_113 hf_119 (⟨_, _, rfl, by assumption, by omega⟩) (by first | omega | assumption) (pd_121) (pd_122) (by first | omega | assumption) (by first | omega | assumption) (pd_129) (by first | exact U_n (al := true) (m := []) hR3 hnx ⟨by omega, by omega⟩ hEu hUN hKD ⟨_, _, rfl, kt_132, hn_133⟩ ⟨by omega, by omega, by omega⟩ | exact U_f hR3 hnx ⟨by omega, by omega⟩ hEu (RTW_c p_101 hSu rfl rfl)) (by first | assumption | exact RK_t hRKo p_102 (by omega)) (by first | omega | assumption)
          · exfalso; omega
        · refine s_1286_72 _ _ ?_
          refine xm_failV hs (fun s_135 hs_136 hf_137 p_138 p_139 p_140 => ⟨rfl, ?_⟩)
          have hf_141 : gX L true [8, 9, 10, 11, 12, 13, 14, 15, 21, 22, 47, 1196, 2475, 2478, 2479, 2480] s s_135 := gX.sub hf_137 rfl rfl
          have pd_142 : RTX L s_135 := RTX_fr q0 hf_137 rfl
          have pd_143 : RV L s_135 := RV_fr q1 hf_137 rfl rfl
          have pd_144 : RK L s s_135 := RK_fr hRK0 hf_137 rfl
          have q_145 : gp_I s_135 46 3 = gp_I s 46 3 := (hf_137.2.2.1 46 3 (by decide) (by decide) rfl).1
          have q_146 : gp_I s_135 46 5 = gp_I s 46 5 := (hf_137.2.2.1 46 5 (by decide) (by decide) rfl).1
          have q_147 : gp_I s_135 46 6 = gp_I s 46 6 := (hf_137.2.2.1 46 6 (by decide) (by decide) rfl).1
          have q_148 : gp_I s_135 46 8 = gp_I s 46 8 := (hf_137.2.2.1 46 8 (by decide) (by decide) rfl).1
          have z_149 : gp_sz s_135 = gp_sz s ∧ gp_us s_135 = gp_us s := hf_137.2.1 rfl
          have pd_150 : IK s s_135 := IK_t (IK_r s) p_138 ((gX.refl L true [] s).1.1)
          have hFL := p_139
          exact k _ s_135 hs_136 hf_141 (⟨25, 1, rfl, kT25 hs_136.1.1, by omega⟩) (by first | omega | assumption) (pd_142) (pd_143) (by first | omega | assumption) (by first | omega | assumption) (pd_150) (U_x hR3 hnx (by omega) ⟨by omega, by omega, by omega⟩ hFL (by omega) (by omega)) (pd_144) (fun h9 => by have h8 := hFL.1 h9.1; omega)
      · refine ⟨fun h_151 => ?_, fun h_151 => ?_⟩
        · refine s_1286_66 _ _ ?_
          refine ⟨fun h_152 => ?_, fun h_152 => ?_⟩
          · have f_153 := xr46_6 hs
            try rw [show gp_wr ((gp_I s 46 6) + 1) = (gp_I s 46 6) + 1 from gp_wr_id (by omega) (by omega)]
            intro s_154 e_155
            have hs_156 : XI L 0 s_154 := by rw [e_155]; exact xw46_6 hs _ (by omega)
            have hf_157 : gX L true [8, 9, 10, 11, 12, 13, 14, 15, 21, 22, 47, 1196, 2475, 2478, 2479, 2480] s s_154 := by rw [e_155]; exact gX.wI (gX.refl _ _ _ _) (Or.inl rfl)
            have z_158 : gp_sz s_154 = gp_sz s ∧ gp_us s_154 = gp_us s := by rw [e_155]; exact ⟨rfl, rfl⟩
            have q_159 : gp_I s_154 46 3 = gp_I s 46 3 := by rw [e_155] <;> first | rfl | exact I_ne (by omega)
            have q_160 : gp_I s_154 46 5 = gp_I s 46 5 := by rw [e_155] <;> first | rfl | exact I_ne (by omega)
            have q_161 : gp_I s_154 46 6 = (gp_I s 46 6) + 1 := by rw [e_155]; exact (gz_rw _ _ _ _ _).1 rfl
            have q_162 : gp_I s_154 46 7 = gp_I s 46 7 := by rw [e_155] <;> first | rfl | exact I_ne (by omega)
            have q_163 : gp_I s_154 46 8 = gp_I s 46 8 := by rw [e_155] <;> first | rfl | exact I_ne (by omega)
            have pd_164 : RTX L s_154 := by rw [e_155]; exact RTX_fr q0 (gX.wI (gX.refl L true [2478] _) (Or.inl rfl)) rfl
            have pd_165 : RV L s_154 := by rw [e_155]; exact RV_fr q1 (gX.wI (gX.refl L true [2478] _) (Or.inl rfl)) rfl rfl
            have pd_166 : IK s s_154 := by rw [e_155]; exact IK_wI (IK_r s) (Or.inl (by decide))
            have pd_167 : RK L s s_154 := by rw [e_155]; exact RK_fr hRK0 (gX.wI (gX.refl L true [2478] _) (Or.inl rfl)) rfl
            have hSu : SRC s_154 (G3 s) (gp_I s 46 5) := ⟨G3_fr hf_157 rfl, by omega⟩
            have hEu : gp_I s_154 46 6 = gp_I s 46 6 + 1 ∧ gp_I s_154 46 7 = gp_I s 46 7 ∧ gp_I s_154 46 8 = gp_I s 46 8 := ⟨by omega, by omega, by omega⟩
            refine ⟨fun h_168 => ?_, fun h_168 => ?_⟩
            · exfalso; omega
            · try rw [show gp_wr (p0 + 1) = p0 + 1 from gp_wr_id (by omega) (by omega)]
              have hRKo := pd_167
              refine ihF _ _ _ _ _ (by omega) hs_156 (by omega) (pd_164) (pd_165) (by first | omega | assumption) (by first | omega | assumption) (by first | omega | assumption) (fun o_169 s_170 hs_171 hf_172 p_173 p_174 p_175 p_176 p_177 p_178 p_179 p_180 p_181 p_182 => ⟨_, rfl, ?_⟩)
              have hf_183 : gX L true [8, 9, 10, 11, 12, 13, 14, 15, 21, 22, 47, 1196, 2475, 2478, 2479, 2480] s s_170 := gX.trans hf_157 hf_172 rfl rfl
              have q_184 : gp_I s_170 46 5 = gp_I s_154 46 5 := (hf_172.2.2.1 46 5 (by decide) (by decide) rfl).1
              have pd_185 : IK s s_170 := IK_t pd_166 p_179 ((hf_157).1.1)
              obtain ⟨a_186, n_187, rfl, kt_188, hn_189⟩ := p_173
              have hn_a_186 := kt_188.n hs_171
              refine s_1286_124 _ _ _ ?_
              exact k _ s_170 hs_171 hf_183 (⟨_, _, rfl, by assumption, by omega⟩) (by first | omega | assumption) (p_175) (p_176) (by first | omega | assumption) (by first | omega | assumption) (pd_185) (by first | exact U_n (al := true) (m := []) hR3 hnx ⟨by omega, by omega⟩ hEu hUN hKD ⟨_, _, rfl, kt_188, hn_189⟩ ⟨by omega, by omega, by omega⟩ | exact U_f hR3 hnx ⟨by omega, by omega⟩ hEu (RTW_c p_180 hSu rfl rfl)) (by first | assumption | exact RK_t hRKo p_181 (by omega)) (by first | omega | assumption)
          · refine s_1286_72 _ _ ?_
            refine xm_failV hs (fun s_191 hs_192 hf_193 p_194 p_195 p_196 => ⟨rfl, ?_⟩)
            have hf_197 : gX L true [8, 9, 10, 11, 12, 13, 14, 15, 21, 22, 47, 1196, 2475, 2478, 2479, 2480] s s_191 := gX.sub hf_193 rfl rfl
            have pd_198 : RTX L s_191 := RTX_fr q0 hf_193 rfl
            have pd_199 : RV L s_191 := RV_fr q1 hf_193 rfl rfl
            have pd_200 : RK L s s_191 := RK_fr hRK0 hf_193 rfl
            have q_201 : gp_I s_191 46 3 = gp_I s 46 3 := (hf_193.2.2.1 46 3 (by decide) (by decide) rfl).1
            have q_202 : gp_I s_191 46 5 = gp_I s 46 5 := (hf_193.2.2.1 46 5 (by decide) (by decide) rfl).1
            have q_203 : gp_I s_191 46 6 = gp_I s 46 6 := (hf_193.2.2.1 46 6 (by decide) (by decide) rfl).1
            have q_204 : gp_I s_191 46 8 = gp_I s 46 8 := (hf_193.2.2.1 46 8 (by decide) (by decide) rfl).1
            have z_205 : gp_sz s_191 = gp_sz s ∧ gp_us s_191 = gp_us s := hf_193.2.1 rfl
            have pd_206 : IK s s_191 := IK_t (IK_r s) p_194 ((gX.refl L true [] s).1.1)
            have hFL := p_195
            exact k _ s_191 hs_192 hf_197 (⟨25, 1, rfl, kT25 hs_192.1.1, by omega⟩) (by first | omega | assumption) (pd_198) (pd_199) (by first | omega | assumption) (by first | omega | assumption) (pd_206) (U_x hR3 hnx (by omega) ⟨by omega, by omega, by omega⟩ hFL (by omega) (by omega)) (pd_200) (fun h9 => by have h8 := hFL.1 h9.1; omega)
        · refine s_1286_72 _ _ ?_
          refine xm_failV hs (fun s_207 hs_208 hf_209 p_210 p_211 p_212 => ⟨rfl, ?_⟩)
          have hf_213 : gX L true [8, 9, 10, 11, 12, 13, 14, 15, 21, 22, 47, 1196, 2475, 2478, 2479, 2480] s s_207 := gX.sub hf_209 rfl rfl
          have pd_214 : RTX L s_207 := RTX_fr q0 hf_209 rfl
          have pd_215 : RV L s_207 := RV_fr q1 hf_209 rfl rfl
          have pd_216 : RK L s s_207 := RK_fr hRK0 hf_209 rfl
          have q_217 : gp_I s_207 46 3 = gp_I s 46 3 := (hf_209.2.2.1 46 3 (by decide) (by decide) rfl).1
          have q_218 : gp_I s_207 46 5 = gp_I s 46 5 := (hf_209.2.2.1 46 5 (by decide) (by decide) rfl).1
          have q_219 : gp_I s_207 46 6 = gp_I s 46 6 := (hf_209.2.2.1 46 6 (by decide) (by decide) rfl).1
          have q_220 : gp_I s_207 46 8 = gp_I s 46 8 := (hf_209.2.2.1 46 8 (by decide) (by decide) rfl).1
          have z_221 : gp_sz s_207 = gp_sz s ∧ gp_us s_207 = gp_us s := hf_209.2.1 rfl
          have pd_222 : IK s s_207 := IK_t (IK_r s) p_210 ((gX.refl L true [] s).1.1)
          have hFL := p_211
          exact k _ s_207 hs_208 hf_213 (⟨25, 1, rfl, kT25 hs_208.1.1, by omega⟩) (by first | omega | assumption) (pd_214) (pd_215) (by first | omega | assumption) (by first | omega | assumption) (pd_222) (U_x hR3 hnx (by omega) ⟨by omega, by omega, by omega⟩ hFL (by omega) (by omega)) (pd_216) (fun h9 => by have h8 := hFL.1 h9.1; omega)
    · refine xm_readDigitsV _ hs (by omega) (q0) (by first | omega | assumption) (fun x_223 s_224 hs_225 hf_226 p_227 p_228 p_229 p_230 p_231 p_232 p_233 p_234 => ⟨_, rfl, ?_⟩)
      have hf_235 : gX L true [8, 9, 10, 11, 12, 13, 14, 15, 21, 22, 47, 1196, 2475, 2478, 2479, 2480] s s_224 := gX.sub hf_226 rfl rfl
      have pd_236 : RV L s_224 := RV_fr q1 hf_226 rfl rfl
      have pd_237 : RK L s s_224 := RK_fr hRK0 hf_226 rfl
      have q_238 : gp_I s_224 46 3 = gp_I s 46 3 := (hf_226.2.2.1 46 3 (by decide) (by decide) rfl).1
      have q_239 : gp_I s_224 46 5 = gp_I s 46 5 := (hf_226.2.2.1 46 5 (by decide) (by decide) rfl).1
      have q_240 : gp_I s_224 46 8 = gp_I s 46 8 := (hf_226.2.2.1 46 8 (by decide) (by decide) rfl).1
      have z_241 : gp_sz s_224 = gp_sz s ∧ gp_us s_224 = gp_us s := hf_226.2.1 rfl
      have pd_242 : IK s s_224 := IK_t (IK_r s) p_232 ((gX.refl L true [] s).1.1)
      have hDG := p_233
      refine xm_plainV _ hs_225 (by omega) (fun o_243 s_244 hs_245 hf_246 p_247 p_248 p_249 p_250 => ⟨_, rfl, ?_⟩)
      have hf_251 : gX L true [8, 9, 10, 11, 12, 13, 14, 15, 21, 22, 47, 1196, 2475, 2478, 2479, 2480] s s_244 := gX.trans hf_235 hf_246 rfl rfl
      have pd_252 : RTX L s_244 := RTX_fr p_229 hf_246 rfl
      have pd_253 : RV L s_244 := RV_fr pd_236 hf_246 rfl rfl
      have pd_254 : RK L s s_244 := RK_fr pd_237 hf_246 rfl
      have q_255 : gp_I s_244 46 3 = gp_I s_224 46 3 := (hf_246.2.2.1 46 3 (by decide) (by decide) rfl).1
      have q_256 : gp_I s_244 46 5 = gp_I s_224 46 5 := (hf_246.2.2.1 46 5 (by decide) (by decide) rfl).1
      have q_257 : gp_I s_244 46 6 = gp_I s_224 46 6 := (hf_246.2.2.1 46 6 (by decide) (by decide) rfl).1
      have q_258 : gp_I s_244 46 7 = gp_I s_224 46 7 := (hf_246.2.2.1 46 7 (by decide) (by decide) rfl).1
      have q_259 : gp_I s_244 46 8 = gp_I s_224 46 8 := (hf_246.2.2.1 46 8 (by decide) (by decide) rfl).1
      have pd_260 : IK s s_244 := IK_t pd_242 p_250 ((hf_235).1.1)
      obtain ⟨a_261, n_262, rfl, kt_263, hn_264⟩ := p_247
      have hn_a_261 := kt_263.n hs_245
      exact k _ s_244 hs_245 hf_251 (⟨_, _, rfl, by assumption, by omega⟩) (by first | omega | assumption) (pd_252) (pd_253) (by first | omega | assumption) (by first | omega | assumption) (pd_260) (U_d hR3 hnx ⟨by omega, by omega⟩ hDG (by omega) ⟨by omega, by omega, by omega⟩ ⟨_, _, rfl, kt_263, hn_264⟩) (pd_254) (by first | omega | assumption)
set_option maxRecDepth 100000 in
/-- Reader.readSum -/
theorem xm_readSumV (m : Nat) (ihU : RUV m) : RSV m := by
  intro L D K s p0 hD hs h_p0 q0 q1 q2 q3 q4 k
  obtain ⟨d, rfl⟩ : ∃ d, D = d + 18 := ⟨D - 18, by omega⟩
  have f_1 := xr46_3 hs
  have f_2 := xr46_5 hs
  have f_3 := xr46_6 hs
  have f_4 := xr46_7 hs
  have f_5 := xr46_8 hs
  refine s_1285_e _ ?_
  have hRK0 : RK L s s := fun _ _ => rfl
  have hR3 : SRC s (G3 s) (gp_I s 46 5) := ⟨rfl, rfl⟩
  have hRKo := hRK0
  refine ihU _ _ _ _ _ (by omega) hs (by omega) (q0) (q1) (by first | omega | assumption) (by first | omega | assumption) (by first | omega | assumption) (fun o_6 s_7 hs_8 hf_9 p_10 p_11 p_12 p_13 p_14 p_15 p_16 p_17 p_18 p_19 => ⟨_, rfl, ?_⟩)
  have hf_20 : gX L true [8, 9, 10, 11, 12, 13, 14, 15, 21, 22, 47, 1196, 2475, 2478, 2479, 2480] s s_7 := gX.sub hf_9 rfl rfl
  have q_21 : gp_I s_7 46 5 = gp_I s 46 5 := (hf_9.2.2.1 46 5 (by decide) (by decide) rfl).1
  have pd_22 : IK s s_7 := IK_t (IK_r s) p_16 ((gX.refl L true [] s).1.1)
  obtain ⟨a_23, n_24, rfl, kt_25, hn_26⟩ := p_10
  have hn_a_23 := kt_25.n hs_8
  have hE0 := ESW_0 (r := a_23) (RTW_c p_17 hR3 rfl rfl)
  have hRKn : RK L s s_7 := RK_t hRKo p_18 (by omega)
  have lp_28 : ∀ (n_28 : Nat) (v2_28 : Nat) (nv2_28 : Nat) (v3_28 : Int) (v4_28 : gV) (s_28 : gH), (XI L 0 s_28) → (gX L true [8, 9, 10, 11, 12, 13, 14, 15, 21, 22, 47, 1196, 2475, 2478, 2479, 2480] s s_28) → (RTX L s_28) → (RV L s_28) → (IK s s_28) → (RK L s s_28) → (kT L s_28 a_23 n_24) → (kT L s_28 v2_28 nv2_28) → ((gp_sz s_28 : Int) ≤ gp_sz s + 6 * (gp_I s_28 46 6 - gp_I s 46 6) ∧ (gp_us s_28 : Int) ≤ gp_us s + 310 * (gp_I s_28 46 6 - gp_I s 46 6)) → (nv2_28 ≤ 60) → (0 ≤ v3_28 ∧ v3_28 ≤ 100) → (gp_I s_28 46 5 = gp_I s_7 46 5) → (gp_I s 46 6 ≤ gp_I s_28 46 6 ∧ gp_I s_28 46 6 ≤ gp_I s_28 46 5) → (gp_I s_28 46 3 = gp_I s 46 3) → (ESW L (G3 s) (gp_I s 46 5) s s_28 p0 (some v2_28)) → (v3_28 ≤ gp_I s_28 46 6) → (gp_I s_28 46 5 = gp_I s 46 5) → (gp_I s 46 7 < 0 ∧ gp_I s_28 46 7 < 0 → gp_I s 46 6 + 1 ≤ gp_I s_28 46 6) → (101 - v3_28).toNat < n_28 → gs_E L (d + 18) 1285 8 [gp_r (some 46), gp_i p0, gp_r (some v2_28), gp_i v3_28, v4_28] [] s_28 K := by
    intro n_28
    induction n_28 with
    | zero => intro v2_28 nv2_28 v3_28 v4_28 s_28 hs_s_28 hf_s_28 RTX_L_s_28 RV_L_s_28 IK_s_s_28 RK_L_s_s_28 kt_a_23_s_28 kt_v2_28_s_28 rm_s_28 hn60_v2_28 hv3_28 tk0_28 iv0_28 iv1_28 iv2_28 iv3_28 iv4_28 iv5_28 hm_28; exact absurd hm_28 (Nat.not_lt_zero _)
    | succ n_28 ih_28 =>
      intro v2_28 nv2_28 v3_28 v4_28 s_28 hs_s_28 hf_s_28 RTX_L_s_28 RV_L_s_28 IK_s_s_28 RK_L_s_s_28 kt_a_23_s_28 kt_v2_28_s_28 rm_s_28 hn60_v2_28 hv3_28 tk0_28 iv0_28 iv1_28 iv2_28 iv3_28 iv4_28 iv5_28 hm_28
      refine s_1285_8 _ _ _ _ ?_
      refine ⟨fun h_29 => ?_, fun h_29 => ?_⟩
      · refine xm_next hs_s_28 (RTX_L_s_28) (fun x_30 p_31 p_32 p_33 => ⟨_, rfl, ?_⟩)
        have hnx := p_32
        refine ⟨fun h_34 => ?_, fun h_34 => ?_⟩
        · have f_35 := xr46_6 hs_s_28
          try rw [show gp_wr ((gp_I s_28 46 6) + 1) = (gp_I s_28 46 6) + 1 from gp_wr_id (by omega) (by omega)]
          intro s_36 e_37
          have hs_38 : XI L 0 s_36 := by rw [e_37]; exact xw46_6 hs_s_28 _ (by omega)
          have hf_39 : gX L true [8, 9, 10, 11, 12, 13, 14, 15, 21, 22, 47, 1196, 2475, 2478, 2479, 2480] s s_36 := by rw [e_37]; exact gX.wI hf_s_28 (Or.inl rfl)
          have kt_40 : kT L s_36 a_23 n_24 := by rw [e_37]; exact kt_a_23_s_28
          have kt_41 : kT L s_36 v2_28 nv2_28 := by rw [e_37]; exact kt_v2_28_s_28
          have z_42 : gp_sz s_36 = gp_sz s_28 ∧ gp_us s_36 = gp_us s_28 := by rw [e_37]; exact ⟨rfl, rfl⟩
          have q_43 : gp_I s_36 46 3 = gp_I s_28 46 3 := by rw [e_37] <;> first | rfl | exact I_ne (by omega)
          have q_44 : gp_I s_36 46 5 = gp_I s_28 46 5 := by rw [e_37] <;> first | rfl | exact I_ne (by omega)
          have q_45 : gp_I s_36 46 6 = (gp_I s_28 46 6) + 1 := by rw [e_37]; exact (gz_rw _ _ _ _ _).1 rfl
          have q_46 : gp_I s_36 46 7 = gp_I s_28 46 7 := by rw [e_37] <;> first | rfl | exact I_ne (by omega)
          have q_47 : gp_I s_36 46 8 = gp_I s_28 46 8 := by rw [e_37] <;> first | rfl | exact I_ne (by omega)
          have pd_48 : RTX L s_36 := by rw [e_37]; exact RTX_fr RTX_L_s_28 (gX.wI (gX.refl L true [2478] _) (Or.inl rfl)) rfl
          have pd_49 : RV L s_36 := by rw [e_37]; exact RV_fr RV_L_s_28 (gX.wI (gX.refl L true [2478] _) (Or.inl rfl)) rfl rfl
          have pd_50 : IK s s_36 := by rw [e_37]; exact IK_wI IK_s_s_28 (Or.inl (by decide))
          have pd_51 : RK L s s_36 := by rw [e_37]; exact RK_fr RK_L_s_s_28 (gX.wI (gX.refl L true [2478] _) (Or.inl rfl)) rfl
          have hSu : SRC s_36 (G3 s) (gp_I s 46 5) := ⟨G3_fr hf_39 rfl, by omega⟩
          have hEu : gp_I s_36 46 6 = gp_I s_28 46 6 + 1 ∧ gp_I s_36 46 7 = gp_I s_28 46 7 ∧ gp_I s_36 46 8 = gp_I s_28 46 8 := ⟨by omega, by omega, by omega⟩
          have hf9 := ESW_f iv2_28
          have hRKo := pd_51
          refine ihU _ _ _ _ _ (by omega) hs_38 (by omega) (pd_48) (pd_49) (by first | omega | assumption) (by first | omega | assumption) (by first | omega | assumption) (fun o_52 s_53 hs_54 hf_55 p_56 p_57 p_58 p_59 p_60 p_61 p_62 p_63 p_64 p_65 => ⟨_, rfl, ?_⟩)
          have hf_66 : gX L true [8, 9, 10, 11, 12, 13, 14, 15, 21, 22, 47, 1196, 2475, 2478, 2479, 2480] s s_53 := gX.trans hf_39 hf_55 rfl rfl
          have kt_67 : kT L s_53 a_23 n_24 := kt_40.fr hf_55.1
          have kt_68 : kT L s_53 v2_28 nv2_28 := kt_41.fr hf_55.1
          have q_69 : gp_I s_53 46 5 = gp_I s_36 46 5 := (hf_55.2.2.1 46 5 (by decide) (by decide) rfl).1
          have pd_70 : IK s s_53 := IK_t pd_50 p_62 ((hf_39).1.1)
          obtain ⟨a_71, n_72, rfl, kt_73, hn_74⟩ := p_56
          have hn_a_71 := kt_73.n hs_54
          have hUN := RTW_c p_63 hSu rfl rfl
          have hgp : ∀ r x, GT L s_28 r x → GT L s_53 r x := fun r x h => GT_fr (GT_wI h ‹_ = gp_wI s_28 46 6 _› (by decide)) hf_55 p_62
          have hRKn : RK L s s_53 := RK_t hRKo p_64 (by omega)
          have hk0 := kt_68
          have hk1 := kt_73
          have hSs : SRC s_28 (G3 s) (gp_I s 46 5) := ⟨G3_fr hf_s_28 rfl, by omega⟩
          refine xm_unfitV hs_54 (fun x_75 p_76 p_77 => ⟨_, rfl, ?_⟩)
          have hun := p_77
          refine ⟨fun h_78 => ?_, fun h_78 => ?_⟩
          · refine xm_joinedV nv2_28 n_72 _ _ hs_54 (by first | assumption | exact kT7 hs_54.1.1 | exact kT25 hs_54.1.1) (by first | omega | assumption) (by first | assumption | exact kT7 hs_54.1.1 | exact kT25 hs_54.1.1) (by first | omega | assumption) (fun o_79 s_80 hs_81 hf_82 p_83 p_84 p_85 p_86 p_87 => ⟨_, rfl, ?_⟩)
            have hf_88 : gX L true [8, 9, 10, 11, 12, 13, 14, 15, 21, 22, 47, 1196, 2475, 2478, 2479, 2480] s s_80 := gX.trans hf_66 hf_82 rfl rfl
            have kt_89 : kT L s_80 a_23 n_24 := kt_67.fr hf_82.1
            have kt_90 : kT L s_80 v2_28 nv2_28 := kt_68.fr hf_82.1
            have kt_91 : kT L s_80 a_71 n_72 := kt_73.fr hf_82.1
            have pd_92 : RTX L s_80 := RTX_fr p_58 hf_82 rfl
            have pd_93 : RV L s_80 := RV_fr p_59 hf_82 rfl rfl
            have pd_94 : RK L s s_80 := RK_fr hRKn hf_82 rfl
            have q_95 : gp_I s_80 46 3 = gp_I s_53 46 3 := (hf_82.2.2.1 46 3 (by decide) (by decide) rfl).1
            have q_96 : gp_I s_80 46 5 = gp_I s_53 46 5 := (hf_82.2.2.1 46 5 (by decide) (by decide) rfl).1
            have q_97 : gp_I s_80 46 6 = gp_I s_53 46 6 := (hf_82.2.2.1 46 6 (by decide) (by decide) rfl).1
            have q_98 : gp_I s_80 46 7 = gp_I s_53 46 7 := (hf_82.2.2.1 46 7 (by decide) (by decide) rfl).1
            have q_99 : gp_I s_80 46 8 = gp_I s_53 46 8 := (hf_82.2.2.1 46 8 (by decide) (by decide) rfl).1
            have pd_100 : IK s s_80 := IK_t pd_70 p_86 ((hf_66).1.1)
            have hJN := p_87
            have hIKj := p_86
            refine xm_fittingV _ hs_81 (by first | assumption | exact kT7 hs_81.1.1 | exact kT25 hs_81.1.1) (fun o_101 s_102 hs_103 hf_104 p_105 p_106 p_107 => ⟨_, rfl, ?_⟩)
            have hf_108 : gX L true [8, 9, 10, 11, 12, 13, 14, 15, 21, 22, 47, 1196, 2475, 2478, 2479, 2480] s s_102 := gX.trans hf_88 hf_104 rfl rfl
            have kt_109 : kT L s_102 a_23 n_24 := kt_89.fr hf_104.1
            have kt_110 : kT L s_102 v2_28 nv2_28 := kt_90.fr hf_104.1
            have kt_111 : kT L s_102 a_71 n_72 := kt_91.fr hf_104.1
            have pd_112 : RTX L s_102 := RTX_fr pd_92 hf_104 rfl
            have pd_113 : RV L s_102 := RV_fr pd_93 hf_104 rfl rfl
            have pd_114 : RK L s s_102 := RK_fr pd_94 hf_104 rfl
            have q_115 : gp_I s_102 46 3 = gp_I s_80 46 3 := (hf_104.2.2.1 46 3 (by decide) (by decide) rfl).1
            have q_116 : gp_I s_102 46 5 = gp_I s_80 46 5 := (hf_104.2.2.1 46 5 (by decide) (by decide) rfl).1
            have q_117 : gp_I s_102 46 6 = gp_I s_80 46 6 := (hf_104.2.2.1 46 6 (by decide) (by decide) rfl).1
            have q_118 : gp_I s_102 46 7 = gp_I s_80 46 7 := (hf_104.2.2.1 46 7 (by decide) (by decide) rfl).1
            have z_119 : gp_sz s_102 = gp_sz s_80 ∧ gp_us s_102 = gp_us s_80 := hf_104.2.1 rfl
            have pd_120 : IK s s_102 := IK_t pd_100 p_106 ((hf_88).1.1)
            obtain ⟨a_121, n_122, rfl, kt_123, hn_124⟩ := p_105
            have hn_a_121 := kt_123.n hs_103
            refine s_1285_71 _ _ _ _ _ ?_
            try rw [show gp_wr (v3_28 + 1) = v3_28 + 1 from gp_wr_id (by omega) (by omega)]
            exact ih_28 _ _ _ _ _ hs_103 hf_108 pd_112 pd_113 pd_120 pd_114 kt_109 kt_123 (by omega) (by omega) (by omega) (by first | rfl | omega) (by first | omega | assumption) (by first | omega | assumption) (by first | exact ESW_s iv2_28 hSs hnx (by omega) hEu _ hUN (fun q q2 z z2 okk => SU_no z2 (by omega) ⟨by omega, by omega, by omega⟩) MONO | exact ESW_s iv2_28 hSs hnx (by omega) hEu _ hUN (fun q q2 z z2 okk => SU_y z z2 (hgp _ _) okk hk0 hk1 (by omega) hJN ⟨by omega, by omega, by omega⟩ p_107 ⟨by omega, by omega⟩ (fun a n x h _ => GT_fr h hf_104 p_106)) MONO) (by first | omega | assumption) (by first | omega | assumption) (by first | omega | assumption) (by omega)
          · refine s_1285_71 _ _ _ _ _ ?_
            try rw [show gp_wr (v3_28 + 1) = v3_28 + 1 from gp_wr_id (by omega) (by omega)]
            exact ih_28 _ _ _ _ _ hs_54 hf_66 p_58 p_59 pd_70 hRKn kt_67 (kT25 hs_54.1.1) (by omega) (by omega) (by omega) (by first | rfl | omega) (by first | omega | assumption) (by first | omega | assumption) (by first | exact ESW_s iv2_28 hSs hnx (by omega) hEu _ hUN (fun q q2 z z2 okk => SU_no z2 (by omega) ⟨by omega, by omega, by omega⟩) MONO | exact ESW_s iv2_28 hSs hnx (by omega) hEu _ hUN (fun q q2 z z2 okk => SU_y z z2 (hgp _ _) okk hk0 hk1 (by omega) hJN ⟨by omega, by omega, by omega⟩ p_58 ⟨by omega, by omega⟩ (fun a n x h _ => GT_fr h hf_55 p_57)) MONO) (by first | omega | assumption) (by first | omega | assumption) (by first | omega | assumption) (by omega)
        · refine s_1285_78 _ _ _ _ ?_
          exact k _ s_28 hs_s_28 hf_s_28 (⟨_, _, rfl, kt_v2_28_s_28, by omega⟩) (by first | omega | assumption) (RTX_L_s_28) (RV_L_s_28) (by first | omega | assumption) (by first | omega | assumption) (IK_s_s_28) (ESW_e iv2_28 ⟨G3_fr hf_s_28 rfl, by omega⟩ (by omega)) (RK_L_s_s_28) (by first | omega | assumption)
      · refine s_1285_78 _ _ _ _ ?_
        exact k _ s_28 hs_s_28 hf_s_28 (⟨_, _, rfl, kt_v2_28_s_28, by omega⟩) (by first | omega | assumption) (RTX_L_s_28) (RV_L_s_28) (by first | omega | assumption) (by first | omega | assumption) (IK_s_s_28) (ESW_e iv2_28 ⟨G3_fr hf_s_28 rfl, by omega⟩ (by omega)) (RK_L_s_s_28) (by first | omega | assumption)
  exact lp_28 _ _ _ _ _ _ hs_8 hf_20 p_12 p_13 pd_22 hRKn kt_25 kt_25 (by omega) (by omega) (by omega) (by first | rfl | omega) (by first | omega | assumption) (by first | omega | assumption) (hE0) (by first | omega | assumption) (by first | omega | assumption) (by first | omega | assumption) (Nat.lt_succ_self _)
