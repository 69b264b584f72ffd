/-! makers of games -/
theorem rowsh {L : Nat} {s : gH} {p : Nat} (h : 68 ≤ p ∧ p ≤ 71) : gp_sh (gp_mk L s) p = (100, 20) := by
  rcases (by omega : p = 68 ∨ p = 69 ∨ p = 70 ∨ p = 71) with q | q | q | q <;> subst q <;> rfl
theorem ng_step {L : Nat} {al : Bool} {m : List Nat} {s v t : gH} {c : Nat} {i x N N' : Int} (hc : 1 ≤ c ∧ c < 117) (hi : 0 ≤ i) (iv : ∀ k : Nat, (k : Int) < i → 0 ≤ gp_I s c k ∧ gp_I s c k < N) (g : gX L al m s v) (m1 : ∀ k, m.contains (gcd c k) = false) (et : t = gp_wI v c (Int.toNat i) x) (hN : N ≤ N') (hx : 0 ≤ x) (hx2 : x < N') : ∀ k : Nat, (k : Int) < i + 1 → 0 ≤ gp_I t c k ∧ gp_I t c k < N' := by
  intro k hk
  rw [et, gz_rwi]
  by_cases q : k = i.toNat
  · rw [if_pos q]; exact ⟨hx, hx2⟩
  · rw [if_neg q, (g.2.2.1 c k (Nat.zero_le _) hc.2 (m1 k)).1]
    have := iv k (by omega)
    omega
theorem pr_in {L : Nat} {al al' : Bool} {m m' : List Nat} {s u v t : gH} {i j x N N' n1 : Int} (hi : 0 ≤ i) (hj : 0 ≤ j ∧ j < n1) (hn : n1 ≤ 60) (a1 : ∀ a b : Nat, (a : Int) < i → (b : Int) < n1 → 0 ≤ gp_I s 22 (a * 60 + b) ∧ gp_I s 22 (a * 60 + b) < N) (a2 : ∀ b : Nat, (b : Int) < j → 0 ≤ gp_I s 22 (Int.toNat i * 60 + b) ∧ gp_I s 22 (Int.toNat i * 60 + b) < N) (g1 : gX L al m s u) (g2 : gX L al' m' u v) (m1 : m.contains 22 = false) (m2 : m'.contains 22 = false) (et : t = gp_wI v 22 (Int.toNat (i * 60 + j)) x) (hN : N ≤ N') (hx : 0 ≤ x) (hx2 : x < N') : (∀ a b : Nat, (a : Int) < i → (b : Int) < n1 → 0 ≤ gp_I t 22 (a * 60 + b) ∧ gp_I t 22 (a * 60 + b) < N') ∧ (∀ b : Nat, (b : Int) < j + 1 → 0 ≤ gp_I t 22 (Int.toNat i * 60 + b) ∧ gp_I t 22 (Int.toNat i * 60 + b) < N') := by
  have e : ∀ k, k ≠ Int.toNat (i * 60 + j) → gp_I t 22 k = gp_I s 22 k := fun k hk => by
    rw [et, gz_rwi, if_neg hk]
    exact (g2.2.2.1 22 k (by decide) (by decide) m2).1.trans (g1.2.2.1 22 k (by decide) (by decide) m1).1
  refine ⟨fun a b ha hb => ?_, fun b hb => ?_⟩
  · rw [e _ (by omega)]
    have := a1 a b ha hb
    omega
  · by_cases c : (b : Int) = j
    · have q : Int.toNat i * 60 + b = Int.toNat (i * 60 + j) := by omega
      rw [q, et, gz_rwi, if_pos rfl]; exact ⟨hx, hx2⟩
    · rw [e _ (by omega)]
      have := a2 b (by omega)
      omega
theorem pr_out {s : gH} {i j N n1 : Int} (hi : 0 ≤ i) (hj : n1 ≤ j) (a1 : ∀ a b : Nat, (a : Int) < i → (b : Int) < n1 → 0 ≤ gp_I s 22 (a * 60 + b) ∧ gp_I s 22 (a * 60 + b) < N) (a2 : ∀ b : Nat, (b : Int) < j → 0 ≤ gp_I s 22 (Int.toNat i * 60 + b) ∧ gp_I s 22 (Int.toNat i * 60 + b) < N) : ∀ a b : Nat, (a : Int) < i + 1 → (b : Int) < n1 → 0 ≤ gp_I s 22 (a * 60 + b) ∧ gp_I s 22 (a * 60 + b) < N := by
  intro a b ha hb
  by_cases c : (a : Int) = i
  · have : a = Int.toNat i := by omega
    rw [this]; exact a2 b (by omega)
  · exact a1 a b (by omega) hb
set_option maxRecDepth 100000 in
/-- Maker.plain -/
theorem xm_plain  {L d : Nat} {K : Option gV → gH → Prop} {s : gH}  (p0 : Int) (hs : XI L 0 s)   (k : ∀ (r : Option Nat), ∀ (t : gH), XI L 0 t → gX L true [] s t → (∃ a n, r = some a ∧ kT L t a n ∧ n ≤ 60) → (gp_sz t ≤ gp_sz s + 6) → (gp_us t ≤ gp_us s + 15) → K (some (gp_r r)) t) : gs_C L (d + 1) 257 3 [gp_r (some 20), gp_i p0] s K := by
  refine s_257_e _ ?_
  refine ⟨hs.1.1, ?_⟩
  intro s_1 e_2
  have h9_s_1 : (gp_sh (gp_mk L s_1) (gp_sz s)) = (9, 10) := by rw [e_2, sh_new hs.1.1, if_pos rfl]
  have hR_s_1 : ∀ f, gp_R (gp_mk L s_1) (gp_sz s) f = none := fun f => by rw [e_2, R_new hs.1.1, if_pos rfl]
  have hz_s_1 : gp_sz s_1 = gp_sz s + 1 ∧ gp_us s_1 = gp_us s + 10 := by rw [e_2]; exact ⟨rfl, rfl⟩
  have hw_s_1 : 117 ≤ gp_sz s := hs.1.1
  have hs_3 : XI L (gp_sz s) s_1 := by rw [e_2]; exact XI.new ⟨XT.weak hs.1, hs.2⟩ _ _ (Or.inr rfl)
  have hk_s_1 : (gp_sh (gp_mk L s_1) (gp_sz s)).1 = 9 := by rw [h9_s_1]
  have hf_4 : gX L true [] s s_1 := by rw [e_2]; exact gX.new (gX.refl _ _ _ _) _ _ hs.1.1
  have hg_s_1 : gX L true [] s s_1 := by rw [e_2]; exact gX.new (gX.refl L true [] _) _ _ hs.1.1
  refine xm_init _ _ (by omega) (by assumption) (by first | omega | assumption) (by first | omega | assumption) (by first | omega | assumption) (by first | omega | assumption) (fun s_5 hs_6 hf_7 p_8 p_9 p_10 p_11 => ⟨rfl, ?_⟩)
  have hf_12 : gX L true [] s s_5 := gX.trans hf_4 hf_7 rfl rfl
  obtain ⟨a_13, ha_13⟩ : ∃ a, (gp_sz s) = a := ⟨_, rfl⟩
  have hba_13 : s.1 = a_13 := ha_13
  obtain ⟨n_14, hn_14⟩ : ∃ n : Nat, Int.toNat 1 = n := ⟨_, rfl⟩
  rw [ha_13] at p_8 p_9 ⊢
  rw [hn_14] at p_8
  have hn_a_13 := p_8.n hs_6
  have hr_a_13 := (p_8.tt hs_6).1.1
  refine ⟨p_8.2.1, ?_⟩
  refine ⟨(a_13 + 3), (p_8.tt hs_6).1.2.2.2.1.2.2.1, ?_⟩
  refine ⟨gin ((p_8.tt hs_6).1.2.2.2.2.1.2.2.1) (by omega), ?_⟩
  intro s_15 e_16
  have hs_17 : XI L 0 s_15 := by rw [e_16]; exact XI.t34 hs_6 p_8 _ _ _ (Or.inl rfl)
  have hf_18 : gX L true [] s s_15 := by rw [e_16]; exact gX.wI hf_12 (gXt p_8 hs_6 (by omega) (by omega) (by omega))
  have kt_19 : kT L s_15 a_13 n_14 := by rw [e_16]; exact p_8
  have z_20 : gp_sz s_15 = gp_sz s_5 ∧ gp_us s_15 = gp_us s_5 := by rw [e_16]; exact ⟨rfl, rfl⟩
  refine ⟨kt_19.2.1, ?_⟩
  refine ⟨(a_13 + 4), (kt_19.tt hs_17).1.2.2.2.1.2.2.2.1, ?_⟩
  refine ⟨gin ((kt_19.tt hs_17).1.2.2.2.2.1.2.2.2.1) (by omega), ?_⟩
  intro s_21 e_22
  have hs_23 : XI L 0 s_21 := by rw [e_22]; exact XI.t34 hs_17 kt_19 _ _ _ (Or.inr rfl)
  have hf_24 : gX L true [] s s_21 := by rw [e_22]; exact gX.wI hf_18 (gXt kt_19 hs_17 (by omega) (by omega) (by omega))
  have kt_25 : kT L s_21 a_13 n_14 := by rw [e_22]; exact kt_19
  have z_26 : gp_sz s_21 = gp_sz s_15 ∧ gp_us s_21 = gp_us s_15 := by rw [e_22]; exact ⟨rfl, rfl⟩
  exact k _ s_21 hs_23 hf_24 (⟨_, _, rfl, kt_25, by omega⟩) (by first | omega | assumption) (by first | omega | assumption)
set_option maxRecDepth 100000 in
/-- Maker.pauses -/
theorem xm_pauses  {L d : Nat} {K : Option gV → gH → Prop} {s : gH}  (p0 : Int) (hs : XI L 0 s) (h_p0 : 0 ≤ p0 ∧ p0 ≤ 20)  (k : ∀ (r : Option Nat), ∀ (t : gH), XI L 0 t → gX L true [] s t → (∃ a n, r = some a ∧ kT L t a n ∧ n ≤ 60) → (gp_sz t ≤ gp_sz s + 6) → (gp_us t ≤ gp_us s + 115) → K (some (gp_r r)) t) : gs_C L (d + 1) 258 4 [gp_r (some 20), gp_i p0] s K := by
  refine s_258_e _ ?_
  refine ⟨hs.1.1, ?_⟩
  intro s_1 e_2
  have h9_s_1 : (gp_sh (gp_mk L s_1) (gp_sz s)) = (9, 10) := by rw [e_2, sh_new hs.1.1, if_pos rfl]
  have hR_s_1 : ∀ f, gp_R (gp_mk L s_1) (gp_sz s) f = none := fun f => by rw [e_2, R_new hs.1.1, if_pos rfl]
  have hz_s_1 : gp_sz s_1 = gp_sz s + 1 ∧ gp_us s_1 = gp_us s + 10 := by rw [e_2]; exact ⟨rfl, rfl⟩
  have hw_s_1 : 117 ≤ gp_sz s := hs.1.1
  have hs_3 : XI L (gp_sz s) s_1 := by rw [e_2]; exact XI.new ⟨XT.weak hs.1, hs.2⟩ _ _ (Or.inr rfl)
  have hk_s_1 : (gp_sh (gp_mk L s_1) (gp_sz s)).1 = 9 := by rw [h9_s_1]
  have hf_4 : gX L true [] s s_1 := by rw [e_2]; exact gX.new (gX.refl _ _ _ _) _ _ hs.1.1
  have hg_s_1 : gX L true [] s s_1 := by rw [e_2]; exact gX.new (gX.refl L true [] _) _ _ hs.1.1
  try rw [show gp_wr (p0 + 1) = p0 + 1 from gp_wr_id (by omega) (by omega)]
  refine xm_init _ _ (by omega) (by assumption) (by first | omega | assumption) (by first | omega | assumption) (by first | omega | assumption) (by first | omega | assumption) (fun s_5 hs_6 hf_7 p_8 p_9 p_10 p_11 => ⟨rfl, ?_⟩)
  have hf_12 : gX L true [] s s_5 := gX.trans hf_4 hf_7 rfl rfl
  obtain ⟨a_13, ha_13⟩ : ∃ a, (gp_sz s) = a := ⟨_, rfl⟩
  have hba_13 : s.1 = a_13 := ha_13
  obtain ⟨n_14, hn_14⟩ : ∃ n : Nat, Int.toNat (p0 + 1) = n := ⟨_, rfl⟩
  rw [ha_13] at p_8 p_9 ⊢
  rw [hn_14] at p_8
  have hn_a_13 := p_8.n hs_6
  have hr_a_13 := (p_8.tt hs_6).1.1
  have lp_16 : ∀ (n_16 : Nat) (v3_16 : Int) (s_16 : gH), (XI L 0 s_16) → (gX L true [] s s_16) → (kT L s_16 a_13 n_14) → (gp_sz s_16 ≤ gp_sz s + 6 ∧ gp_us s_16 ≤ gp_us s + 115) → (1 ≤ v3_16 ∧ v3_16 ≤ 59) → (60 - v3_16).toNat < n_16 → gs_E L (d + 1) 258 13 [gp_r (some 20), gp_i p0, gp_r (some a_13), gp_i v3_16] [] s_16 K := by
    intro n_16
    induction n_16 with
    | zero => intro v3_16 s_16 hs_s_16 hf_s_16 kt_a_13_s_16 rm_s_16 hv3_16 hm_16; exact absurd hm_16 (Nat.not_lt_zero _)
    | succ n_16 ih_16 =>
      intro v3_16 s_16 hs_s_16 hf_s_16 kt_a_13_s_16 rm_s_16 hv3_16 hm_16
      refine s_258_13 _ _ _ ?_
      refine ⟨fun h_17 => ?_, fun h_17 => ?_⟩
      · exact k _ s_16 hs_s_16 hf_s_16 (⟨_, _, rfl, kt_a_13_s_16, by omega⟩) (by first | omega | assumption) (by first | omega | assumption)
      · refine ⟨a_13, rfl, ?_⟩
        refine ⟨kt_a_13_s_16.2.1, ?_⟩
        try rw [show gp_wr (v3_16 - 1) = v3_16 - 1 from gp_wr_id (by omega) (by omega)]
        refine ⟨(a_13 + 1), (kt_a_13_s_16.tt hs_s_16).1.2.2.2.1.1, ?_⟩
        refine ⟨gin ((kt_a_13_s_16.tt hs_s_16).1.2.2.2.2.1.1) (by omega), ?_⟩
        intro s_18 e_19
        have hs_20 : XI L 0 s_18 := by rw [e_19]; exact XI.t12 hs_s_16 kt_a_13_s_16 _ _ _ (Or.inl rfl) (by exact bd_sh (by omega) (by omega) (by omega))
        have hf_21 : gX L true [] s s_18 := by rw [e_19]; exact gX.wL hf_s_16 (gXl (by omega) (by omega))
        have kt_22 : kT L s_18 a_13 n_14 := by rw [e_19]; exact kt_a_13_s_16
        have z_23 : gp_sz s_18 = gp_sz s_16 ∧ gp_us s_18 = gp_us s_16 := by rw [e_19]; exact ⟨rfl, rfl⟩
        refine ⟨kt_22.2.1, ?_⟩
        refine ⟨(a_13 + 5), (kt_22.tt hs_20).1.2.2.2.1.2.2.2.2, ?_⟩
        refine ⟨gin ((kt_22.tt hs_20).1.2.2.2.2.1.2.2.2.2) (by omega), ?_⟩
        intro s_24 e_25
        have hs_26 : XI L 0 s_24 := by rw [e_25]; exact XI.t5 hs_20 kt_22 _ _ _ rfl (by omega) (by omega)
        have hf_27 : gX L true [] s s_24 := by rw [e_25]; exact gX.wI hf_21 (gXt kt_22 hs_20 (by omega) (by omega) (by omega))
        have kt_28 : kT L s_24 a_13 n_14 := by rw [e_25]; exact kt_22
        have z_29 : gp_sz s_24 = gp_sz s_18 ∧ gp_us s_24 = gp_us s_18 := by rw [e_25]; exact ⟨rfl, rfl⟩
        try rw [show gp_wr (v3_16 + 1) = v3_16 + 1 from gp_wr_id (by omega) (by omega)]
        exact ih_16 _ _ hs_26 hf_27 kt_28 (by omega) (by omega) (by omega)
  exact lp_16 _ _ _ hs_6 hf_12 p_8 (by omega) (by omega) (Nat.lt_succ_self _)
set_option maxRecDepth 100000 in
/-- Maker.rungs -/
theorem xm_rungs  {L d : Nat} {K : Option gV → gH → Prop} {s : gH}  (p0 : Nat) (p1 : Int) (hs : XI L 0 s) (h_p1 : 1 ≤ p1 ∧ p1 ≤ 20) (q0 : 68 ≤ p0 ∧ p0 ≤ 71) (k : ∀ (r : Option Nat), ∀ (t : gH), XI L 0 t → gX L true [8, 9, 10, 11, 12, 13, 14, 15, 1196] s t → (∃ a n, r = some a ∧ kT L t a n ∧ n ≤ 60) → (gp_sz t ≤ gp_sz s + 6) → (gp_us t ≤ gp_us s + 310) → K (some (gp_r r)) t) : gs_C L (d + 5) 259 6 [gp_r (some 20), gp_r (some p0), gp_i p1] s K := by
  have f_1 := xr6_4 hs
  refine s_259_e _ _ ?_
  refine xm_empty hs (fun s_2 hs_3 hf_4 p_5 p_6 => ⟨rfl, ?_⟩)
  have hf_7 : gX L true [8, 9, 10, 11, 12, 13, 14, 15, 1196] s s_2 := gX.sub hf_4 rfl rfl
  have z_8 : gp_sz s_2 = gp_sz s ∧ gp_us s_2 = gp_us s := hf_4.2.1 rfl
  try rw [show gp_wr (p1 - 1) = p1 - 1 from gp_wr_id (by omega) (by omega)]
  refine ⟨p0, rfl, ?_⟩
  refine ⟨gin (rowsh q0) (by omega), ?_⟩
  try rw [show gp_wr (p1 - 1) = p1 - 1 from gp_wr_id (by omega) (by omega)]
  refine ⟨gin (rowsh q0) (by omega), ?_⟩
  refine xm_add _ _ _ _ hs_3 (p_6) (bd_0 _) (bd_0 _) (fun x_9 s_10 hs_11 hf_12 p_13 p_14 p_15 => ⟨_, rfl, ?_⟩)
  have hf_16 : gX L true [8, 9, 10, 11, 12, 13, 14, 15, 1196] s s_10 := gX.trans hf_7 hf_12 rfl rfl
  have z_17 : gp_sz s_10 = gp_sz s_2 ∧ gp_us s_10 = gp_us s_2 := hf_12.2.1 rfl
  try rw [show gp_wr (p1 - 2) = p1 - 2 from gp_wr_id (by omega) (by omega)]
  have lp_19 : ∀ (n_19 : Nat) (v3_19 : Int) (v4_19 : Int) (v5_19 : gV) (s_19 : gH), (XI L 0 s_19) → (gX L true [8, 9, 10, 11, 12, 13, 14, 15, 1196] s s_19) → (PO s_19) → (gp_sz s_19 ≤ gp_sz s + 0 ∧ gp_us s_19 ≤ gp_us s + 0) → (0 ≤ v3_19 ∧ v3_19 ≤ 59) → ((-1) ≤ v4_19 ∧ v4_19 ≤ 18) → (v3_19 < gp_I s_19 6 4) → (gp_I s_19 6 4 ≤ 1 + 2 * (p1 - 2 - v4_19)) → (v4_19 ≤ p1 - 2) → (v4_19 + 2).toNat < n_19 → gs_E L (d + 5) 259 32 [gp_r (some 20), gp_r (some p0), gp_i p1, gp_i v3_19, gp_i v4_19, v5_19] [] s_19 K := by
    intro n_19
    induction n_19 with
    | zero => intro v3_19 v4_19 v5_19 s_19 hs_s_19 hf_s_19 PO_s_19 rm_s_19 hv3_19 hv4_19 iv0_19 iv1_19 iv2_19 hm_19; exact absurd hm_19 (Nat.not_lt_zero _)
    | succ n_19 ih_19 =>
      intro v3_19 v4_19 v5_19 s_19 hs_s_19 hf_s_19 PO_s_19 rm_s_19 hv3_19 hv4_19 iv0_19 iv1_19 iv2_19 hm_19
      refine s_259_32 _ _ _ _ _ ?_
      refine ⟨fun h_20 => ?_, fun h_20 => ?_⟩
      · refine xm_tableOf _ hs_s_19 (by omega) (PO_s_19) (by first | omega | assumption) (fun o_21 s_22 hs_23 hf_24 p_25 p_26 p_27 => ⟨_, rfl, ?_⟩)
        have hf_28 : gX L true [8, 9, 10, 11, 12, 13, 14, 15, 1196] s s_22 := gX.trans hf_s_19 hf_24 rfl rfl
        have pd_29 : PO s_22 := PO_fr PO_s_19 hf_24 rfl rfl rfl rfl rfl rfl
        have q_30 : gp_I s_22 6 4 = gp_I s_19 6 4 := (hf_24.2.2.1 6 4 (by decide) (by decide) rfl).1
        obtain ⟨a_31, n_32, rfl, kt_33, hn_34⟩ := p_25
        have hn_a_31 := kt_33.n hs_23
        exact k _ s_22 hs_23 hf_28 (⟨_, _, rfl, by assumption, by omega⟩) (by first | omega | assumption) (by first | omega | assumption)
      · refine ⟨p0, rfl, ?_⟩
        refine ⟨gin (rowsh q0) (by omega), ?_⟩
        refine ⟨gin (rowsh q0) (by omega), ?_⟩
        refine xm_add _ _ _ _ hs_s_19 (PO_s_19) (bd_0 _) (bd_0 _) (fun x_35 s_36 hs_37 hf_38 p_39 p_40 p_41 => ⟨_, rfl, ?_⟩)
        have hf_42 : gX L true [8, 9, 10, 11, 12, 13, 14, 15, 1196] s s_36 := gX.trans hf_s_19 hf_38 rfl rfl
        have z_43 : gp_sz s_36 = gp_sz s_19 ∧ gp_us s_36 = gp_us s_19 := hf_38.2.1 rfl
        refine xm_add _ _ _ _ hs_37 (p_40) (bd_sh (by omega) (by omega) (by omega)) (bd_sh (by omega) (by omega) (by omega)) (fun x_44 s_45 hs_46 hf_47 p_48 p_49 p_50 => ⟨_, rfl, ?_⟩)
        have hf_51 : gX L true [8, 9, 10, 11, 12, 13, 14, 15, 1196] s s_45 := gX.trans hf_42 hf_47 rfl rfl
        have z_52 : gp_sz s_45 = gp_sz s_36 ∧ gp_us s_45 = gp_us s_36 := hf_47.2.1 rfl
        try rw [show gp_wr (v4_19 + (-1)) = v4_19 + (-1) from gp_wr_id (by omega) (by omega)]
        exact ih_19 _ _ _ _ hs_46 hf_51 p_49 (by omega) (by omega) (by omega) (by first | omega | assumption) (by first | omega | assumption) (by first | omega | assumption) (by omega)
  exact lp_19 _ _ _ _ _ hs_11 hf_16 p_14 (by omega) (by omega) (by omega) (by first | omega | assumption) (by first | omega | assumption) (by first | omega | assumption) (Nat.lt_succ_self _)
set_option maxRecDepth 100000 in
/-- Maker.negated -/
theorem xm_negated  {L d : Nat} {K : Option gV → gH → Prop} {s : gH} (n_p0 : Nat) (p0 : Nat) (hs : XI L 0 s)  (q0 : kT L s p0 n_p0) (q1 : n_p0 ≤ 60) (k : ∀ (r : Option Nat), ∀ (t : gH), XI L 0 t → gX L true [8, 9, 10, 11, 12, 13, 14, 15, 21, 1196] s t → (∃ a n, r = some a ∧ kT L t a n ∧ n ≤ 60) → (gp_sz t ≤ gp_sz s + 6) → (gp_us t ≤ gp_us s + 310) → K (some (gp_r r)) t) : gs_C L (d + 5) 260 3 [gp_r (some 20), gp_r (some p0)] s K := by
  have hn_p0 := q0.n hs
  have f_1 := xr6_4 hs
  refine s_260_e _ ?_
  refine xm_empty hs (fun s_2 hs_3 hf_4 p_5 p_6 => ⟨rfl, ?_⟩)
  have hf_7 : gX L true [8, 9, 10, 11, 12, 13, 14, 15, 21, 1196] s s_2 := gX.sub hf_4 rfl rfl
  have kt_8 : kT L s_2 p0 n_p0 := q0.fr hf_4.1
  have z_9 : gp_sz s_2 = gp_sz s ∧ gp_us s_2 = gp_us s := hf_4.2.1 rfl
  have lp_11 : ∀ (n_11 : Nat) (v2_11 : Int) (s_11 : gH), (XI L 0 s_11) → (gX L true [8, 9, 10, 11, 12, 13, 14, 15, 21, 1196] s s_11) → (PO s_11) → (kT L s_11 p0 n_p0) → (gp_sz s_11 ≤ gp_sz s + 0 ∧ gp_us s_11 ≤ gp_us s + 0) → (0 ≤ v2_11 ∧ v2_11 ≤ 60) → (∀ k : Nat, (k : Int) < v2_11 → 0 ≤ gp_I s_11 21 k ∧ gp_I s_11 21 k < gp_I s_11 6 4) → (gp_I s_11 6 4 ≤ v2_11) → (61 - v2_11).toNat < n_11 → gs_E L (d + 5) 260 9 [gp_r (some 20), gp_r (some p0), gp_i v2_11] [] s_11 K := by
    intro n_11
    induction n_11 with
    | zero => intro v2_11 s_11 hs_s_11 hf_s_11 PO_s_11 kt_p0_s_11 rm_s_11 hv2_11 iv0_11 iv1_11 hm_11; exact absurd hm_11 (Nat.not_lt_zero _)
    | succ n_11 ih_11 =>
      intro v2_11 s_11 hs_s_11 hf_s_11 PO_s_11 kt_p0_s_11 rm_s_11 hv2_11 iv0_11 iv1_11 hm_11
      refine s_260_9 _ _ ?_
      refine ⟨p0, rfl, ?_⟩
      refine ⟨kt_p0_s_11.2.1, ?_⟩
      have f_12 := (kt_p0_s_11.tt hs_s_11).1.2.2.1
      have f_13 := kt_p0_s_11.n hs_s_11
      refine ⟨fun h_14 => ?_, fun h_14 => ?_⟩
      · have hN60 := xr6_4 hs_s_11
        refine ⟨kt_p0_s_11.2.1, ?_⟩
        refine ⟨(p0 + 2), (kt_p0_s_11.tt hs_s_11).1.2.2.2.1.2.1, ?_⟩
        refine ⟨gin ((kt_p0_s_11.tt hs_s_11).1.2.2.2.2.1.2.1) (by omega), ?_⟩
        have b_15 : bd (gp_L s_11 (p0 + 2) (Int.toNat v2_11)) v2_11 := bd_le ((kt_p0_s_11.tt hs_s_11).1.2.2.2.2.2 (Int.toNat v2_11)).1.2 (by omega)
        refine xm_carried21 (gp_I s_11 6 4) v2_11 _ hs_s_11 (by first | assumption | exact bd_le (by assumption) (by omega) | exact bd_0 _) (by first | omega | assumption) (by first | omega | assumption) (fun k hk => iv0_11 k (by have h9 := (‹bd (gp_L s_11 (p0 + 2) (Int.toNat v2_11)) v2_11›) k hk; omega)) (fun m_16 p_17 => ⟨_, rfl, ?_⟩)
        refine ⟨kt_p0_s_11.2.1, ?_⟩
        refine ⟨(p0 + 1), (kt_p0_s_11.tt hs_s_11).1.2.2.2.1.1, ?_⟩
        refine ⟨gin ((kt_p0_s_11.tt hs_s_11).1.2.2.2.2.1.1) (by omega), ?_⟩
        have b_18 : bd (gp_L s_11 (p0 + 1) (Int.toNat v2_11)) v2_11 := bd_le ((kt_p0_s_11.tt hs_s_11).1.2.2.2.2.2 (Int.toNat v2_11)).1.1 (by omega)
        refine xm_carried21 (gp_I s_11 6 4) v2_11 _ hs_s_11 (by first | assumption | exact bd_le (by assumption) (by omega) | exact bd_0 _) (by first | omega | assumption) (by first | omega | assumption) (fun k hk => iv0_11 k (by have h9 := (‹bd (gp_L s_11 (p0 + 1) (Int.toNat v2_11)) v2_11›) k hk; omega)) (fun m_19 p_20 => ⟨_, rfl, ?_⟩)
        refine ⟨kt_p0_s_11.2.1, ?_⟩
        refine ⟨(p0 + 4), (kt_p0_s_11.tt hs_s_11).1.2.2.2.1.2.2.2.1, ?_⟩
        refine ⟨gin ((kt_p0_s_11.tt hs_s_11).1.2.2.2.2.1.2.2.2.1) (by omega), ?_⟩
        have w_21 := wr_rng (-(gp_I s_11 (p0 + 4) (Int.toNat v2_11)))
        refine ⟨kt_p0_s_11.2.1, ?_⟩
        refine ⟨(p0 + 3), (kt_p0_s_11.tt hs_s_11).1.2.2.2.1.2.2.1, ?_⟩
        refine ⟨gin ((kt_p0_s_11.tt hs_s_11).1.2.2.2.2.1.2.2.1) (by omega), ?_⟩
        have w_22 := wr_rng (-(gp_I s_11 (p0 + 3) (Int.toNat v2_11)))
        refine xm_add _ _ _ _ hs_s_11 (PO_s_11) (by first | assumption | exact bd_le (by assumption) (by omega) | exact bd_0 _) (by first | assumption | exact bd_le (by assumption) (by omega) | exact bd_0 _) (fun x_23 s_24 hs_25 hf_26 p_27 p_28 p_29 => ⟨_, rfl, ?_⟩)
        have hf_30 : gX L true [8, 9, 10, 11, 12, 13, 14, 15, 21, 1196] s s_24 := gX.trans hf_s_11 hf_26 rfl rfl
        have kt_31 : kT L s_24 p0 n_p0 := kt_p0_s_11.fr hf_26.1
        have z_32 : gp_sz s_24 = gp_sz s_11 ∧ gp_us s_24 = gp_us s_11 := hf_26.2.1 rfl
        have hcf1 := hf_26
        refine ⟨by omega, ?_⟩
        intro s_33 e_34
        have hs_35 : XI L 0 s_33 := by rw [e_34]; exact xw21 hs_25 _ _ (by omega)
        have hf_36 : gX L true [8, 9, 10, 11, 12, 13, 14, 15, 21, 1196] s s_33 := by rw [e_34]; exact gX.wI hf_30 (Or.inl rfl)
        have kt_37 : kT L s_33 p0 n_p0 := by rw [e_34]; exact kt_31
        have z_38 : gp_sz s_33 = gp_sz s_24 ∧ gp_us s_33 = gp_us s_24 := by rw [e_34]; exact ⟨rfl, rfl⟩
        have q_39 : gp_I s_33 6 4 = gp_I s_24 6 4 := by rw [e_34] <;> first | rfl | exact I_ne (by omega)
        have pd_40 : PO s_33 := by rw [e_34]; exact PO_fr p_28 (gX.wI (gX.refl L true [21] _) (Or.inl rfl)) rfl rfl rfl rfl rfl rfl
        try rw [show gp_wr (v2_11 + 1) = v2_11 + 1 from gp_wr_id (by omega) (by omega)]
        exact ih_11 _ _ hs_35 hf_36 pd_40 kt_37 (by omega) (by omega) (ng_step (by decide) (by omega) iv0_11 hcf1 (fun _ => rfl) (by assumption) (by omega) (by omega) (by omega)) (by first | omega | assumption) (by omega)
      · refine ⟨kt_p0_s_11.2.1, ?_⟩
        refine xm_root n_p0 _ hs_s_11 (by first | assumption | exact kT7 hs_s_11.1.1 | exact kT25 hs_s_11.1.1) (fun x_42 p_43 p_44 => ⟨_, rfl, ?_⟩)
        have hrt := iv0_11 (Int.toNat x_42) (by omega)
        refine ⟨by omega, ?_⟩
        have f_45 := xr21 hs_s_11 (Int.toNat x_42)
        refine xm_tableOf _ hs_s_11 (by omega) (PO_s_11) (by first | omega | assumption) (fun o_46 s_47 hs_48 hf_49 p_50 p_51 p_52 => ⟨_, rfl, ?_⟩)
        have hf_53 : gX L true [8, 9, 10, 11, 12, 13, 14, 15, 21, 1196] s s_47 := gX.trans hf_s_11 hf_49 rfl rfl
        have kt_54 : kT L s_47 p0 n_p0 := kt_p0_s_11.fr hf_49.1
        have pd_55 : PO s_47 := PO_fr PO_s_11 hf_49 rfl rfl rfl rfl rfl rfl
        have q_56 : gp_I s_47 6 4 = gp_I s_11 6 4 := (hf_49.2.2.1 6 4 (by decide) (by decide) rfl).1
        obtain ⟨a_57, n_58, rfl, kt_59, hn_60⟩ := p_50
        have hn_a_57 := kt_59.n hs_48
        exact k _ s_47 hs_48 hf_53 (⟨_, _, rfl, by assumption, by omega⟩) (by first | omega | assumption) (by first | omega | assumption)
  exact lp_11 _ _ _ hs_3 hf_7 p_6 kt_8 (by omega) (by omega) (fun k hk => by omega) (by first | omega | assumption) (Nat.lt_succ_self _)
set_option maxRecDepth 100000 in
/-- Maker.part -/
theorem xm_part  {L d : Nat} {K : Option gV → gH → Prop} {s : gH} (n_p0 : Nat) (p0 : Nat) (p1 : Int) (hs : XI L 0 s) (h_p1 : 0 ≤ p1 ∧ p1 ≤ 59) (q0 : kT L s p0 n_p0) (q1 : n_p0 ≤ 60) (q2 : p1 < n_p0) (k : ∀ (r : Option Nat), ∀ (t : gH), XI L 0 t → gX L true [8, 9, 10, 11, 12, 13, 14, 15, 1196] s t → (∃ a n, r = some a ∧ kT L t a n ∧ n ≤ 60) → (gp_sz t ≤ gp_sz s + 6) → (gp_us t ≤ gp_us s + 310) → K (some (gp_r r)) t) : gs_C L (d + 5) 261 3 [gp_r (some 20), gp_r (some p0), gp_i p1] s K := by
  have hn_p0 := q0.n hs
  have f_1 := xr6_4 hs
  refine s_261_e _ _ ?_
  refine ⟨p0, rfl, ?_⟩
  refine ⟨q0.2.1, ?_⟩
  refine xm_root n_p0 _ hs (by first | assumption | exact kT7 hs.1.1 | exact kT25 hs.1.1) (fun x_2 p_3 p_4 => ⟨_, rfl, ?_⟩)
  refine ⟨fun h_5 => ?_, fun h_5 => ?_⟩
  · exact k _ s hs (gX.refl _ _ _ _) (⟨_, _, rfl, by assumption, by omega⟩) (by first | omega | assumption) (by first | omega | assumption)
  · refine xm_empty hs (fun s_6 hs_7 hf_8 p_9 p_10 => ⟨rfl, ?_⟩)
    have hf_11 : gX L true [8, 9, 10, 11, 12, 13, 14, 15, 1196] s s_6 := gX.sub hf_8 rfl rfl
    have kt_12 : kT L s_6 p0 n_p0 := q0.fr hf_8.1
    have z_13 : gp_sz s_6 = gp_sz s ∧ gp_us s_6 = gp_us s := hf_8.2.1 rfl
    refine xm_take n_p0 _ _ hs_7 (by omega) (by first | assumption | exact kT7 hs_7.1.1 | exact kT25 hs_7.1.1) (by first | omega | assumption) (by first | omega | assumption) (p_10) (fun x_14 s_15 hs_16 hf_17 p_18 p_19 p_20 p_21 => ⟨_, rfl, ?_⟩)
    have hf_22 : gX L true [8, 9, 10, 11, 12, 13, 14, 15, 1196] s s_15 := gX.trans hf_11 hf_17 rfl rfl
    have kt_23 : kT L s_15 p0 n_p0 := kt_12.fr hf_17.1
    have z_24 : gp_sz s_15 = gp_sz s_6 ∧ gp_us s_15 = gp_us s_6 := hf_17.2.1 rfl
    refine xm_tableOf _ hs_16 (by omega) (p_19) (by first | omega | assumption) (fun o_25 s_26 hs_27 hf_28 p_29 p_30 p_31 => ⟨_, rfl, ?_⟩)
    have hf_32 : gX L true [8, 9, 10, 11, 12, 13, 14, 15, 1196] s s_26 := gX.trans hf_22 hf_28 rfl rfl
    have kt_33 : kT L s_26 p0 n_p0 := kt_23.fr hf_28.1
    have pd_34 : PO s_26 := PO_fr p_19 hf_28 rfl rfl rfl rfl rfl rfl
    have q_35 : gp_I s_26 6 4 = gp_I s_15 6 4 := (hf_28.2.2.1 6 4 (by decide) (by decide) rfl).1
    obtain ⟨a_36, n_37, rfl, kt_38, hn_39⟩ := p_29
    have hn_a_36 := kt_38.n hs_27
    exact k _ s_26 hs_27 hf_32 (⟨_, _, rfl, by assumption, by omega⟩) (by first | omega | assumption) (by first | omega | assumption)
set_option maxRecDepth 100000 in
/-- Maker.pairMask -/
theorem xm_pairMask  {L d : Nat} {K : Option gV → gH → Prop} {s : gH} (N : Int) (p0 : BitVec 64) (p1 : BitVec 64) (p2 : Int) (p3 : Int) (hs : XI L 0 s) (h_p2 : 0 ≤ p2 ∧ p2 ≤ 59) (h_p3 : 0 ≤ p3 ∧ p3 ≤ 59) (q0 : bd p0 p2) (q1 : bd p1 p3) (q2 : N ≤ 61) (q3 : ∀ a : Nat, p0.getLsbD a = true → 0 ≤ gp_I s 22 (a * 60 + Int.toNat p3) ∧ gp_I s 22 (a * 60 + Int.toNat p3) < N) (q4 : ∀ b : Nat, p1.getLsbD b = true → 0 ≤ gp_I s 22 (Int.toNat p2 * 60 + b) ∧ gp_I s 22 (Int.toNat p2 * 60 + b) < N) (k : ∀ (r : BitVec 64), (bd r N) → K (some (gp_l r)) s) : gs_C L (d + 2) 263 11 [gp_r (some 20), gp_l p0, gp_l p1, gp_i p2, gp_i p3] s K := by
  refine s_263_e _ _ _ _ ?_
  have lp_1 : ∀ (n_1 : Nat) (v7_1 : BitVec 64) (v9_1 : BitVec 64), (bd v7_1 N) → (sub v9_1 p0) → ((v9_1).toNat) < n_1 → gs_E L (d + 2) 263 6 [gp_r (some 20), gp_l p0, gp_n, gp_l p1, gp_n, gp_i p2, gp_i p3, gp_l v7_1, gp_n, gp_l v9_1, gp_n] [] s K := by
    intro n_1
    induction n_1 with
    | zero => intro v7_1 v9_1 iv0_1 iv1_1 hm_1; exact absurd hm_1 (Nat.not_lt_zero _)
    | succ n_1 ih_1 =>
      intro v7_1 v9_1 iv0_1 iv1_1 hm_1
      refine s_263_6 _ _ _ _ _ _ ?_
      refine ⟨fun h_2 => ?_, fun h_2 => ?_⟩
      · have hz_3 : v9_1 = 0#64 := (gm_cmp0 _ _).mp h_2
        have lp_4 : ∀ (n_4 : Nat) (v7_4 : BitVec 64) (v9_4 : BitVec 64), (bd v7_4 N) → (sub v9_4 p1) → ((v9_4).toNat) < n_4 → gs_E L (d + 2) 263 51 [gp_r (some 20), gp_l p0, gp_n, gp_l p1, gp_n, gp_i p2, gp_i p3, gp_l v7_4, gp_n, gp_l v9_4, gp_n] [] s K := by
          intro n_4
          induction n_4 with
          | zero => intro v7_4 v9_4 iv0_4 iv1_4 hm_4; exact absurd hm_4 (Nat.not_lt_zero _)
          | succ n_4 ih_4 =>
            intro v7_4 v9_4 iv0_4 iv1_4 hm_4
            refine s_263_51 _ _ _ _ _ _ ?_
            refine ⟨fun h_5 => ?_, fun h_5 => ?_⟩
            · have hz_6 : v9_4 = 0#64 := (gm_cmp0 _ _).mp h_5
              exact k _ (by first | assumption | exact bd_le (by assumption) (by omega) | exact bd_0 _)
            · have hz_7 : ¬ v9_4 = 0#64 := fun q => h_5 ((gm_cmp0 _ _).mpr q)
              try rw [show gp_wr (p2 * 60) = p2 * 60 from gp_wr_id (by omega) (by omega)]
              refine xm_lowest _ (fun x_8 p_9 p_10 => ⟨_, rfl, ?_⟩)
              have hlw := iv1_4.low (by assumption) p_10
              have hl0 := q1 _ hlw.2.2
              try rw [show gp_wr ((p2 * 60) + x_8) = (p2 * 60) + x_8 from gp_wr_id (by omega) (by omega)]
              have hq4 := q4 _ hlw.2.2
              have hix : ∀ a : Nat, a = Int.toNat ((p2 * 60) + x_8) → 0 ≤ gp_I s 22 a → gp_I s 22 a < N → 0 ≤ gp_I s 22 (Int.toNat ((p2 * 60) + x_8)) ∧ gp_I s 22 (Int.toNat ((p2 * 60) + x_8)) < N := fun a e h1 h2 => by subst e; exact ⟨h1, h2⟩
              have hq9 := hix _ (by omega) hq4.1 hq4.2
              refine ⟨by omega, ?_⟩
              have f_11 := xr22 hs (Int.toNat ((p2 * 60) + x_8))
              exact ih_4 _ _ (by refine bd_or iv0_4 (bd_sh ?_ ?_ ?_) <;> omega) (by first | assumption | exact sub.refl _ | exact sub.rest (by assumption)) (by have := rest_lt (by assumption : ¬ v9_4 = 0#64); omega)
        exact lp_4 _ _ _ (iv0_1) (by first | assumption | exact sub.refl _ | exact sub.rest (by assumption)) (Nat.lt_succ_self _)
      · have hz_12 : ¬ v9_1 = 0#64 := fun q => h_2 ((gm_cmp0 _ _).mpr q)
        refine xm_lowest _ (fun x_13 p_14 p_15 => ⟨_, rfl, ?_⟩)
        have hlw := iv1_1.low (by assumption) p_15
        have hl0 := q0 _ hlw.2.2
        try rw [show gp_wr (x_13 * 60) = x_13 * 60 from gp_wr_id (by omega) (by omega)]
        try rw [show gp_wr ((x_13 * 60) + p3) = (x_13 * 60) + p3 from gp_wr_id (by omega) (by omega)]
        have hq3 := q3 _ hlw.2.2
        have hix : ∀ a : Nat, a = Int.toNat ((x_13 * 60) + p3) → 0 ≤ gp_I s 22 a → gp_I s 22 a < N → 0 ≤ gp_I s 22 (Int.toNat ((x_13 * 60) + p3)) ∧ gp_I s 22 (Int.toNat ((x_13 * 60) + p3)) < N := fun a e h1 h2 => by subst e; exact ⟨h1, h2⟩
        have hq9 := hix _ (by omega) hq3.1 hq3.2
        refine ⟨by omega, ?_⟩
        have f_16 := xr22 hs (Int.toNat ((x_13 * 60) + p3))
        exact ih_1 _ _ (by refine bd_or iv0_1 (bd_sh ?_ ?_ ?_) <;> omega) (by first | assumption | exact sub.refl _ | exact sub.rest (by assumption)) (by have := rest_lt (by assumption : ¬ v9_1 = 0#64); omega)
  exact lp_1 _ _ _ (bd_0 _) (by first | assumption | exact sub.refl _ | exact sub.rest (by assumption)) (Nat.lt_succ_self _)
set_option maxRecDepth 100000 in
/-- Maker.joined -/
theorem xm_joined  {L d : Nat} {K : Option gV → gH → Prop} {s : gH} (n_p0 n_p1 : Nat) (p0 : Nat) (p1 : Nat) (hs : XI L 0 s)  (q0 : kT L s p0 n_p0) (q1 : n_p0 ≤ 60) (q2 : kT L s p1 n_p1) (q3 : n_p1 ≤ 60) (k : ∀ (r : Option Nat), ∀ (t : gH), XI L 0 t → gX L true [8, 9, 10, 11, 12, 13, 14, 15, 22, 1196] s t → (r = none ∨ ∃ a n, r = some a ∧ kT L t a n ∧ n ≤ 60) → (gp_sz t ≤ gp_sz s + 6) → (gp_us t ≤ gp_us s + 310) → K (some (gp_r r)) t) : gs_C L (d + 4) 262 6 [gp_r (some 20), gp_r (some p0), gp_r (some p1)] s K := by
  have hn_p0 := q0.n hs
  have hn_p1 := q2.n hs
  have f_1 := xr6_4 hs
  refine s_262_e _ _ ?_
  refine xm_empty hs (fun s_2 hs_3 hf_4 p_5 p_6 => ⟨rfl, ?_⟩)
  have hf_7 : gX L true [8, 9, 10, 11, 12, 13, 14, 15, 22, 1196] s s_2 := gX.sub hf_4 rfl rfl
  have kt_8 : kT L s_2 p0 n_p0 := q0.fr hf_4.1
  have kt_9 : kT L s_2 p1 n_p1 := q2.fr hf_4.1
  have z_10 : gp_sz s_2 = gp_sz s ∧ gp_us s_2 = gp_us s := hf_4.2.1 rfl
  have lp_13 : ∀ (n_13 : Nat) (v3_13 : Int) (v4_13 : gV) (v5_13 : gV) (s_13 : gH), (XI L 0 s_13) → (gX L true [8, 9, 10, 11, 12, 13, 14, 15, 22, 1196] s s_13) → (PO s_13) → (kT L s_13 p0 n_p0) → (kT L s_13 p1 n_p1) → (gp_sz s_13 ≤ gp_sz s + 0 ∧ gp_us s_13 ≤ gp_us s + 0) → (0 ≤ v3_13 ∧ v3_13 ≤ 60) → (∀ a b : Nat, (a : Int) < v3_13 → (b : Int) < n_p1 → 0 ≤ gp_I s_13 22 (a * 60 + b) ∧ gp_I s_13 22 (a * 60 + b) < gp_I s_13 6 4) → (61 - v3_13).toNat < n_13 → gs_E L (d + 4) 262 9 [gp_r (some 20), gp_r (some p0), gp_r (some p1), gp_i v3_13, v4_13, v5_13] [] s_13 K := by
    intro n_13
    induction n_13 with
    | zero => intro v3_13 v4_13 v5_13 s_13 hs_s_13 hf_s_13 PO_s_13 kt_p0_s_13 kt_p1_s_13 rm_s_13 hv3_13 iv0_13 hm_13; exact absurd hm_13 (Nat.not_lt_zero _)
    | succ n_13 ih_13 =>
      intro v3_13 v4_13 v5_13 s_13 hs_s_13 hf_s_13 PO_s_13 kt_p0_s_13 kt_p1_s_13 rm_s_13 hv3_13 iv0_13 hm_13
      refine s_262_9 _ _ _ _ _ ?_
      refine ⟨p0, rfl, ?_⟩
      refine ⟨kt_p0_s_13.2.1, ?_⟩
      have f_14 := (kt_p0_s_13.tt hs_s_13).1.2.2.1
      have f_15 := kt_p0_s_13.n hs_s_13
      refine ⟨fun h_16 => ?_, fun h_16 => ?_⟩
      · have lp_19 : ∀ (n_19 : Nat) (v4_19 : Int) (v5_19 : gV) (s_19 : gH), (XI L 0 s_19) → (gX L true [8, 9, 10, 11, 12, 13, 14, 15, 22, 1196] s s_19) → (PO s_19) → (kT L s_19 p0 n_p0) → (kT L s_19 p1 n_p1) → (gp_sz s_19 ≤ gp_sz s + 0 ∧ gp_us s_19 ≤ gp_us s + 0) → (0 ≤ v4_19 ∧ v4_19 ≤ 60) → (∀ a b : Nat, (a : Int) < v3_13 → (b : Int) < n_p1 → 0 ≤ gp_I s_19 22 (a * 60 + b) ∧ gp_I s_19 22 (a * 60 + b) < gp_I s_19 6 4) → (∀ b : Nat, (b : Int) < v4_19 → 0 ≤ gp_I s_19 22 (Int.toNat v3_13 * 60 + b) ∧ gp_I s_19 22 (Int.toNat v3_13 * 60 + b) < gp_I s_19 6 4) → (61 - v4_19).toNat < n_19 → gs_E L (d + 4) 262 20 [gp_r (some 20), gp_r (some p0), gp_r (some p1), gp_i v3_13, gp_i v4_19, v5_19] [] s_19 K := by
          intro n_19
          induction n_19 with
          | zero => intro v4_19 v5_19 s_19 hs_s_19 hf_s_19 PO_s_19 kt_p0_s_19 kt_p1_s_19 rm_s_19 hv4_19 iv0_19 iv1_19 hm_19; exact absurd hm_19 (Nat.not_lt_zero _)
          | succ n_19 ih_19 =>
            intro v4_19 v5_19 s_19 hs_s_19 hf_s_19 PO_s_19 kt_p0_s_19 kt_p1_s_19 rm_s_19 hv4_19 iv0_19 iv1_19 hm_19
            refine s_262_20 _ _ _ _ _ ?_
            refine ⟨p1, rfl, ?_⟩
            refine ⟨kt_p1_s_19.2.1, ?_⟩
            have f_20 := (kt_p1_s_19.tt hs_s_19).1.2.2.1
            have f_21 := kt_p1_s_19.n hs_s_19
            refine ⟨fun h_22 => ?_, fun h_22 => ?_⟩
            · have hN60 := xr6_4 hs_s_19
              refine ⟨p0, rfl, ?_⟩
              refine ⟨kt_p0_s_19.2.1, ?_⟩
              refine ⟨(p0 + 1), (kt_p0_s_19.tt hs_s_19).1.2.2.2.1.1, ?_⟩
              refine ⟨gin ((kt_p0_s_19.tt hs_s_19).1.2.2.2.2.1.1) (by omega), ?_⟩
              have b_23 : bd (gp_L s_19 (p0 + 1) (Int.toNat v3_13)) v3_13 := bd_le ((kt_p0_s_19.tt hs_s_19).1.2.2.2.2.2 (Int.toNat v3_13)).1.1 (by omega)
              refine ⟨kt_p1_s_19.2.1, ?_⟩
              refine ⟨(p1 + 1), (kt_p1_s_19.tt hs_s_19).1.2.2.2.1.1, ?_⟩
              refine ⟨gin ((kt_p1_s_19.tt hs_s_19).1.2.2.2.2.1.1) (by omega), ?_⟩
              have b_24 : bd (gp_L s_19 (p1 + 1) (Int.toNat v4_19)) v4_19 := bd_le ((kt_p1_s_19.tt hs_s_19).1.2.2.2.2.2 (Int.toNat v4_19)).1.1 (by omega)
              refine xm_pairMask (gp_I s_19 6 4) _ _ _ _ hs_s_19 (by omega) (by omega) (by first | assumption | exact bd_le (by assumption) (by omega) | exact bd_0 _) (by first | assumption | exact bd_le (by assumption) (by omega) | exact bd_0 _) (by first | omega | assumption) (fun a ha => iv0_19 a (Int.toNat v4_19) (by have h9 := (‹bd (gp_L s_19 (p0 + 1) (Int.toNat v3_13)) v3_13›) a ha; omega) (by omega)) (fun b hb => iv1_19 b (by have h9 := (‹bd (gp_L s_19 (p1 + 1) (Int.toNat v4_19)) v4_19›) b hb; omega)) (fun m_25 p_26 => ⟨_, rfl, ?_⟩)
              refine ⟨kt_p0_s_19.2.1, ?_⟩
              refine ⟨(p0 + 2), (kt_p0_s_19.tt hs_s_19).1.2.2.2.1.2.1, ?_⟩
              refine ⟨gin ((kt_p0_s_19.tt hs_s_19).1.2.2.2.2.1.2.1) (by omega), ?_⟩
              have b_27 : bd (gp_L s_19 (p0 + 2) (Int.toNat v3_13)) v3_13 := bd_le ((kt_p0_s_19.tt hs_s_19).1.2.2.2.2.2 (Int.toNat v3_13)).1.2 (by omega)
              refine ⟨kt_p1_s_19.2.1, ?_⟩
              refine ⟨(p1 + 2), (kt_p1_s_19.tt hs_s_19).1.2.2.2.1.2.1, ?_⟩
              refine ⟨gin ((kt_p1_s_19.tt hs_s_19).1.2.2.2.2.1.2.1) (by omega), ?_⟩
              have b_28 : bd (gp_L s_19 (p1 + 2) (Int.toNat v4_19)) v4_19 := bd_le ((kt_p1_s_19.tt hs_s_19).1.2.2.2.2.2 (Int.toNat v4_19)).1.2 (by omega)
              refine xm_pairMask (gp_I s_19 6 4) _ _ _ _ hs_s_19 (by omega) (by omega) (by first | assumption | exact bd_le (by assumption) (by omega) | exact bd_0 _) (by first | assumption | exact bd_le (by assumption) (by omega) | exact bd_0 _) (by first | omega | assumption) (fun a ha => iv0_19 a (Int.toNat v4_19) (by have h9 := (‹bd (gp_L s_19 (p0 + 2) (Int.toNat v3_13)) v3_13›) a ha; omega) (by omega)) (fun b hb => iv1_19 b (by have h9 := (‹bd (gp_L s_19 (p1 + 2) (Int.toNat v4_19)) v4_19›) b hb; omega)) (fun m_29 p_30 => ⟨_, rfl, ?_⟩)
              refine ⟨kt_p0_s_19.2.1, ?_⟩
              refine ⟨(p0 + 3), (kt_p0_s_19.tt hs_s_19).1.2.2.2.1.2.2.1, ?_⟩
              refine ⟨gin ((kt_p0_s_19.tt hs_s_19).1.2.2.2.2.1.2.2.1) (by omega), ?_⟩
              refine ⟨kt_p1_s_19.2.1, ?_⟩
              refine ⟨(p1 + 3), (kt_p1_s_19.tt hs_s_19).1.2.2.2.1.2.2.1, ?_⟩
              refine ⟨gin ((kt_p1_s_19.tt hs_s_19).1.2.2.2.2.1.2.2.1) (by omega), ?_⟩
              have w_31 := wr_rng ((gp_I s_19 (p0 + 3) (Int.toNat v3_13)) + (gp_I s_19 (p1 + 3) (Int.toNat v4_19)))
              refine ⟨kt_p0_s_19.2.1, ?_⟩
              refine ⟨(p0 + 4), (kt_p0_s_19.tt hs_s_19).1.2.2.2.1.2.2.2.1, ?_⟩
              refine ⟨gin ((kt_p0_s_19.tt hs_s_19).1.2.2.2.2.1.2.2.2.1) (by omega), ?_⟩
              refine ⟨kt_p1_s_19.2.1, ?_⟩
              refine ⟨(p1 + 4), (kt_p1_s_19.tt hs_s_19).1.2.2.2.1.2.2.2.1, ?_⟩
              refine ⟨gin ((kt_p1_s_19.tt hs_s_19).1.2.2.2.2.1.2.2.2.1) (by omega), ?_⟩
              have w_32 := wr_rng ((gp_I s_19 (p0 + 4) (Int.toNat v3_13)) + (gp_I s_19 (p1 + 4) (Int.toNat v4_19)))
              refine xm_sketch _ _ _ _ hs_s_19 (PO_s_19) (by first | assumption | exact bd_le (by assumption) (by omega) | exact bd_0 _) (by first | assumption | exact bd_le (by assumption) (by omega) | exact bd_0 _) (fun s_33 hs_34 hf_35 p_36 p_37 => ⟨rfl, ?_⟩)
              have hf_38 : gX L true [8, 9, 10, 11, 12, 13, 14, 15, 22, 1196] s s_33 := gX.trans hf_s_19 hf_35 rfl rfl
              have kt_39 : kT L s_33 p0 n_p0 := kt_p0_s_19.fr hf_35.1
              have kt_40 : kT L s_33 p1 n_p1 := kt_p1_s_19.fr hf_35.1
              have q_41 : gp_I s_33 6 4 = gp_I s_19 6 4 := (hf_35.2.2.1 6 4 (by decide) (by decide) rfl).1
              have z_42 : gp_sz s_33 = gp_sz s_19 ∧ gp_us s_33 = gp_us s_19 := hf_35.2.1 rfl
              have hcf1 := hf_35
              refine xm_settle hs_34 (p_36) (p_37) (fun x_43 s_44 hs_45 hf_46 p_47 p_48 p_49 => ⟨_, rfl, ?_⟩)
              have hf_50 : gX L true [8, 9, 10, 11, 12, 13, 14, 15, 22, 1196] s s_44 := gX.trans hf_38 hf_46 rfl rfl
              have kt_51 : kT L s_44 p0 n_p0 := kt_39.fr hf_46.1
              have kt_52 : kT L s_44 p1 n_p1 := kt_40.fr hf_46.1
              have z_53 : gp_sz s_44 = gp_sz s_33 ∧ gp_us s_44 = gp_us s_33 := hf_46.2.1 rfl
              have hcf2 := hf_46
              refine ⟨fun h_54 => ?_, fun h_54 => ?_⟩
              · exact k _ s_44 hs_45 hf_50 (Or.inl rfl) (by first | omega | assumption) (by first | omega | assumption)
              · try rw [show gp_wr (v3_13 * 60) = v3_13 * 60 from gp_wr_id (by omega) (by omega)]
                try rw [show gp_wr ((v3_13 * 60) + v4_19) = (v3_13 * 60) + v4_19 from gp_wr_id (by omega) (by omega)]
                refine ⟨by omega, ?_⟩
                intro s_55 e_56
                have hs_57 : XI L 0 s_55 := by rw [e_56]; exact xw22 hs_45 _ _ (by omega)
                have hf_58 : gX L true [8, 9, 10, 11, 12, 13, 14, 15, 22, 1196] s s_55 := by rw [e_56]; exact gX.wI hf_50 (Or.inl rfl)
                have kt_59 : kT L s_55 p0 n_p0 := by rw [e_56]; exact kt_51
                have kt_60 : kT L s_55 p1 n_p1 := by rw [e_56]; exact kt_52
                have z_61 : gp_sz s_55 = gp_sz s_44 ∧ gp_us s_55 = gp_us s_44 := by rw [e_56]; exact ⟨rfl, rfl⟩
                have q_62 : gp_I s_55 6 4 = gp_I s_44 6 4 := by rw [e_56] <;> first | rfl | exact I_ne (by omega)
                have pd_63 : PO s_55 := by rw [e_56]; exact PO_fr p_48 (gX.wI (gX.refl L true [22] _) (Or.inl rfl)) rfl rfl rfl rfl rfl rfl
                have hpr := pr_in (i := v3_13) (j := v4_19) (n1 := n_p1) (by omega) (by omega) (by omega) iv0_19 iv1_19 hcf1 hcf2 rfl rfl (by assumption) (show _ ≤ gp_I s_55 6 4 by omega) (by omega) (by omega)
                try rw [show gp_wr (v4_19 + 1) = v4_19 + 1 from gp_wr_id (by omega) (by omega)]
                exact ih_19 _ _ _ hs_57 hf_58 pd_63 kt_59 kt_60 (by omega) (by omega) (hpr.1) (hpr.2) (by omega)
            · try rw [show gp_wr (v3_13 + 1) = v3_13 + 1 from gp_wr_id (by omega) (by omega)]
              exact ih_13 _ _ _ _ hs_s_19 hf_s_19 PO_s_19 kt_p0_s_19 kt_p1_s_19 (by omega) (by omega) (pr_out (by omega) (by omega) iv0_19 iv1_19) (by omega)
        exact lp_19 _ _ _ _ hs_s_13 hf_s_13 PO_s_13 kt_p0_s_13 kt_p1_s_13 (by omega) (by omega) (iv0_13) (fun b hb => by omega) (Nat.lt_succ_self _)
      · refine ⟨kt_p0_s_13.2.1, ?_⟩
        refine xm_root n_p0 _ hs_s_13 (by first | assumption | exact kT7 hs_s_13.1.1 | exact kT25 hs_s_13.1.1) (fun x_68 p_69 p_70 => ⟨_, rfl, ?_⟩)
        try rw [show gp_wr (x_68 * 60) = x_68 * 60 from gp_wr_id (by omega) (by omega)]
        refine ⟨p1, rfl, ?_⟩
        refine ⟨kt_p1_s_13.2.1, ?_⟩
        refine xm_root n_p1 _ hs_s_13 (by first | assumption | exact kT7 hs_s_13.1.1 | exact kT25 hs_s_13.1.1) (fun x_71 p_72 p_73 => ⟨_, rfl, ?_⟩)
        try rw [show gp_wr ((x_68 * 60) + x_71) = (x_68 * 60) + x_71 from gp_wr_id (by omega) (by omega)]
        have hrt := iv0_13 (n_p0 - 1) (n_p1 - 1) (by omega) (by omega)
        rw [show (n_p0 - 1) * 60 + (n_p1 - 1) = Int.toNat ((x_68 * 60) + x_71) by omega] at hrt
        refine ⟨by omega, ?_⟩
        have f_74 := xr22 hs_s_13 (Int.toNat ((x_68 * 60) + x_71))
        refine xm_tableOf _ hs_s_13 (by omega) (PO_s_13) (by first | omega | assumption) (fun o_75 s_76 hs_77 hf_78 p_79 p_80 p_81 => ⟨_, rfl, ?_⟩)
        have hf_82 : gX L true [8, 9, 10, 11, 12, 13, 14, 15, 22, 1196] s s_76 := gX.trans hf_s_13 hf_78 rfl rfl
        have kt_83 : kT L s_76 p0 n_p0 := kt_p0_s_13.fr hf_78.1
        have kt_84 : kT L s_76 p1 n_p1 := kt_p1_s_13.fr hf_78.1
        have pd_85 : PO s_76 := PO_fr PO_s_13 hf_78 rfl rfl rfl rfl rfl rfl
        have q_86 : gp_I s_76 6 4 = gp_I s_13 6 4 := (hf_78.2.2.1 6 4 (by decide) (by decide) rfl).1
        obtain ⟨a_87, n_88, rfl, kt_89, hn_90⟩ := p_79
        have hn_a_87 := kt_89.n hs_77
        exact k _ s_76 hs_77 hf_82 (Or.inr ⟨_, _, rfl, by assumption, by omega⟩) (by first | omega | assumption) (by first | omega | assumption)
  exact lp_13 _ _ _ _ _ hs_3 hf_7 p_6 kt_8 kt_9 (by omega) (by omega) (fun a b h1 h2 => by omega) (Nat.lt_succ_self _)
set_option maxRecDepth 100000 in
/-- Maker.sideWay -/
theorem xm_sideWayM  {L d : Nat} {K : Option gV → gH → Prop} {s : gH} (n_p0 n_p2 : Nat) (p0 : Nat) (p1 : Int) (p2 : Nat) (p3 : Int) (p4 : Int) (hs : XI L 0 s) (h_p1 : 0 ≤ p1 ∧ p1 ≤ 59) (h_p3 : 0 ≤ p3 ∧ p3 ≤ 59) (q0 : kT L s p0 n_p0) (q1 : n_p0 ≤ 60) (q2 : kT L s p2 n_p2) (q3 : n_p2 ≤ 60) (q4 : p1 < n_p0) (q5 : p3 < n_p2) (k : ∀ (r : Int), ((-1) ≤ r ∧ r ≤ 1) → K (some (gp_i r)) s) : gs_C L (d + 2) 266 11 [gp_r (some 20), gp_r (some p0), gp_i p1, gp_r (some p2), gp_i p3, gp_i p4] s K := by
  have hn_p0 := q0.n hs
  have hn_p2 := q2.n hs
  refine s_266_e _ _ _ _ _ ?_
  refine ⟨p0, rfl, ?_⟩
  refine ⟨q0.2.1, ?_⟩
  refine xm_options n_p0 _ _ _ hs (by omega) (by first | assumption | exact kT7 hs.1.1 | exact kT25 hs.1.1) (by first | omega | assumption) (fun m_1 p_2 p_3 => ⟨_, rfl, ?_⟩)
  refine ⟨p2, rfl, ?_⟩
  refine ⟨q2.2.1, ?_⟩
  refine xm_options n_p2 _ _ _ hs (by omega) (by first | assumption | exact kT7 hs.1.1 | exact kT25 hs.1.1) (by first | omega | assumption) (fun m_4 p_5 p_6 => ⟨_, rfl, ?_⟩)
  refine ⟨fun h_7 => ?_, fun h_7 => ?_⟩
  · have hz_8 : m_1 = 0#64 := (gm_cmp0 _ _).mp h_7
    refine ⟨fun h_9 => ?_, fun h_9 => ?_⟩
    · have hz_10 : m_4 = 0#64 := (gm_cmp0 _ _).mp h_9
      refine ⟨q0.2.1, ?_⟩
      refine xm_shutNumber n_p0 _ _ _ hs (by omega) (by first | assumption | exact kT7 hs.1.1 | exact kT25 hs.1.1) (by first | omega | assumption) (fun x_11 => ⟨_, rfl, ?_⟩)
      refine ⟨q2.2.1, ?_⟩
      refine xm_shutNumber n_p2 _ _ _ hs (by omega) (by first | assumption | exact kT7 hs.1.1 | exact kT25 hs.1.1) (by first | omega | assumption) (fun x_12 => ⟨_, rfl, ?_⟩)
      refine xm_cmp _ _ (fun x_13 p_14 p_15 => ⟨_, rfl, ?_⟩)
      exact k _ (by omega)
    · have hz_16 : ¬ m_4 = 0#64 := fun q => h_9 ((gm_cmp0 _ _).mpr q)
      refine s_266_52 _ _ _ _ _ _ _ _ ?_
      have hbd0 : bd (tO s p0 p4 p1) p1 := by rw [← ‹_ = tO s p0 p4 p1›]; assumption
      have hbd1 : bd (tO s p2 p4 p3) p3 := by rw [← ‹_ = tO s p2 p4 p3›]; assumption
      refine xm_bc _ (fun x_19 p_20 p_21 => ⟨_, rfl, ?_⟩)
      refine xm_bc _ (fun x_22 p_23 p_24 => ⟨_, rfl, ?_⟩)
      refine xm_cmp _ _ (fun x_25 p_26 p_27 => ⟨_, rfl, ?_⟩)
      have lp_30 : ∀ (n_30 : Nat) (v6_30 : BitVec 64) (v8_30 : BitVec 64) (v10_30 : Int), ((-1) ≤ v10_30 ∧ v10_30 ≤ 1) → (sub v6_30 (tO s p0 p4 p1)) → (sub v8_30 (tO s p2 p4 p3)) → ((v6_30).toNat) < n_30 → gs_E L (d + 2) 266 67 [gp_r (some 20), gp_r (some p0), gp_i p1, gp_r (some p2), gp_i p3, gp_i p4, gp_l v6_30, gp_n, gp_l v8_30, gp_n, gp_i v10_30] [] s K := by
        intro n_30
        induction n_30 with
        | zero => intro v6_30 v8_30 v10_30 hv10_30 iv0_30 iv1_30 hm_30; exact absurd hm_30 (Nat.not_lt_zero _)
        | succ n_30 ih_30 =>
          intro v6_30 v8_30 v10_30 hv10_30 iv0_30 iv1_30 hm_30
          refine s_266_67 _ _ _ _ _ _ _ _ ?_
          refine ⟨fun h_31 => ?_, fun h_31 => ?_⟩
          · refine ⟨fun h_32 => ?_, fun h_32 => ?_⟩
            · have hz_33 : v6_30 = 0#64 := (gm_cmp0 _ _).mp h_32
              refine s_266_132 _ _ _ _ _ _ _ _ ?_
              exact k _ (by omega)
            · have hz_36 : ¬ v6_30 = 0#64 := fun q => h_32 ((gm_cmp0 _ _).mpr q)
              refine ⟨fun h_37 => ?_, fun h_37 => ?_⟩
              · have hz_38 : v8_30 = 0#64 := (gm_cmp0 _ _).mp h_37
                refine s_266_132 _ _ _ _ _ _ _ _ ?_
                exact k _ (by omega)
              · have hz_41 : ¬ v8_30 = 0#64 := fun q => h_37 ((gm_cmp0 _ _).mpr q)
                refine xm_lowest _ (fun x_42 p_43 p_44 => ⟨_, rfl, ?_⟩)
                have hlw := iv0_30.low (by assumption) p_44
                have hl0 := hbd0 _ hlw.2.2
                refine ⟨by omega, ?_⟩
                refine xm_lowest _ (fun x_45 p_46 p_47 => ⟨_, rfl, ?_⟩)
                have hlw2 := iv1_30.low (by assumption) p_47
                have hl2 := hbd1 _ hlw2.2.2
                refine ⟨by omega, ?_⟩
                refine xm_cmp _ _ (fun x_48 p_49 p_50 => ⟨_, rfl, ?_⟩)
                exact ih_30 _ _ _ (by omega) (by first | assumption | exact sub.refl _ | exact sub.rest (by assumption)) (by first | assumption | exact sub.refl _ | exact sub.rest (by assumption)) (by have := rest_lt (by assumption : ¬ v6_30 = 0#64); omega)
          · refine s_266_132 _ _ _ _ _ _ _ _ ?_
            exact k _ (by omega)
      exact lp_30 _ _ _ _ (by omega) (by rw [← ‹_ = tO s p0 p4 p1›]; exact sub.refl _) (by rw [← ‹_ = tO s p2 p4 p3›]; exact sub.refl _) (Nat.lt_succ_self _)
  · have hz_55 : ¬ m_1 = 0#64 := fun q => h_7 ((gm_cmp0 _ _).mpr q)
    refine s_266_52 _ _ _ _ _ _ _ _ ?_
    have hbd0 : bd (tO s p0 p4 p1) p1 := by rw [← ‹_ = tO s p0 p4 p1›]; assumption
    have hbd1 : bd (tO s p2 p4 p3) p3 := by rw [← ‹_ = tO s p2 p4 p3›]; assumption
    refine xm_bc _ (fun x_58 p_59 p_60 => ⟨_, rfl, ?_⟩)
    refine xm_bc _ (fun x_61 p_62 p_63 => ⟨_, rfl, ?_⟩)
    refine xm_cmp _ _ (fun x_64 p_65 p_66 => ⟨_, rfl, ?_⟩)
    have lp_69 : ∀ (n_69 : Nat) (v6_69 : BitVec 64) (v8_69 : BitVec 64) (v10_69 : Int), ((-1) ≤ v10_69 ∧ v10_69 ≤ 1) → (sub v6_69 (tO s p0 p4 p1)) → (sub v8_69 (tO s p2 p4 p3)) → ((v6_69).toNat) < n_69 → gs_E L (d + 2) 266 67 [gp_r (some 20), gp_r (some p0), gp_i p1, gp_r (some p2), gp_i p3, gp_i p4, gp_l v6_69, gp_n, gp_l v8_69, gp_n, gp_i v10_69] [] s K := by
      intro n_69
      induction n_69 with
      | zero => intro v6_69 v8_69 v10_69 hv10_69 iv0_69 iv1_69 hm_69; exact absurd hm_69 (Nat.not_lt_zero _)
      | succ n_69 ih_69 =>
        intro v6_69 v8_69 v10_69 hv10_69 iv0_69 iv1_69 hm_69
        refine s_266_67 _ _ _ _ _ _ _ _ ?_
        refine ⟨fun h_70 => ?_, fun h_70 => ?_⟩
        · refine ⟨fun h_71 => ?_, fun h_71 => ?_⟩
          · have hz_72 : v6_69 = 0#64 := (gm_cmp0 _ _).mp h_71
            refine s_266_132 _ _ _ _ _ _ _ _ ?_
            exact k _ (by omega)
          · have hz_75 : ¬ v6_69 = 0#64 := fun q => h_71 ((gm_cmp0 _ _).mpr q)
            refine ⟨fun h_76 => ?_, fun h_76 => ?_⟩
            · have hz_77 : v8_69 = 0#64 := (gm_cmp0 _ _).mp h_76
              refine s_266_132 _ _ _ _ _ _ _ _ ?_
              exact k _ (by omega)
            · have hz_80 : ¬ v8_69 = 0#64 := fun q => h_76 ((gm_cmp0 _ _).mpr q)
              refine xm_lowest _ (fun x_81 p_82 p_83 => ⟨_, rfl, ?_⟩)
              have hlw := iv0_69.low (by assumption) p_83
              have hl0 := hbd0 _ hlw.2.2
              refine ⟨by omega, ?_⟩
              refine xm_lowest _ (fun x_84 p_85 p_86 => ⟨_, rfl, ?_⟩)
              have hlw2 := iv1_69.low (by assumption) p_86
              have hl2 := hbd1 _ hlw2.2.2
              refine ⟨by omega, ?_⟩
              refine xm_cmp _ _ (fun x_87 p_88 p_89 => ⟨_, rfl, ?_⟩)
              exact ih_69 _ _ _ (by omega) (by first | assumption | exact sub.refl _ | exact sub.rest (by assumption)) (by first | assumption | exact sub.refl _ | exact sub.rest (by assumption)) (by have := rest_lt (by assumption : ¬ v6_69 = 0#64); omega)
        · refine s_266_132 _ _ _ _ _ _ _ _ ?_
          exact k _ (by omega)
    exact lp_69 _ _ _ _ (by omega) (by rw [← ‹_ = tO s p0 p4 p1›]; exact sub.refl _) (by rw [← ‹_ = tO s p2 p4 p3›]; exact sub.refl _) (Nat.lt_succ_self _)
set_option maxRecDepth 100000 in
/-- Maker.nodeWay -/
theorem xm_nodeWay  {L d : Nat} {K : Option gV → gH → Prop} {s : gH} (n_p0 n_p2 : Nat) (p0 : Nat) (p1 : Int) (p2 : Nat) (p3 : Int) (hs : XI L 0 s) (h_p1 : 0 ≤ p1 ∧ p1 ≤ 59) (h_p3 : 0 ≤ p3 ∧ p3 ≤ 59) (q0 : kT L s p0 n_p0) (q1 : n_p0 ≤ 60) (q2 : kT L s p2 n_p2) (q3 : n_p2 ≤ 60) (q4 : p1 < n_p0) (q5 : p3 < n_p2) (k : ∀ (r : Int), ((-1) ≤ r ∧ r ≤ 1) → K (some (gp_i r)) s) : gs_C L (d + 3) 265 6 [gp_r (some 20), gp_r (some p0), gp_i p1, gp_r (some p2), gp_i p3] s K := by
  have hn_p0 := q0.n hs
  have hn_p2 := q2.n hs
  refine s_265_e _ _ _ _ ?_
  refine ⟨p0, rfl, ?_⟩
  refine ⟨q0.2.1, ?_⟩
  refine ⟨(p0 + 5), (q0.tt hs).1.2.2.2.1.2.2.2.2, ?_⟩
  refine ⟨gin ((q0.tt hs).1.2.2.2.2.1.2.2.2.2) (by omega), ?_⟩
  have f_1 := ((q0.tt hs).1.2.2.2.2.2 (Int.toNat p1)).2
  refine ⟨p2, rfl, ?_⟩
  refine ⟨q2.2.1, ?_⟩
  refine ⟨(p2 + 5), (q2.tt hs).1.2.2.2.1.2.2.2.2, ?_⟩
  refine ⟨gin ((q2.tt hs).1.2.2.2.2.1.2.2.2.2) (by omega), ?_⟩
  have f_2 := ((q2.tt hs).1.2.2.2.2.2 (Int.toNat p3)).2
  refine ⟨fun h_3 => ?_, fun h_3 => ?_⟩
  · refine xm_sideWayM n_p0 n_p2 _ _ _ _ _ hs (by omega) (by omega) (by first | assumption | exact kT7 hs.1.1 | exact kT25 hs.1.1) (by first | omega | assumption) (by first | assumption | exact kT7 hs.1.1 | exact kT25 hs.1.1) (by first | omega | assumption) (by first | omega | assumption) (by first | omega | assumption) (fun x_4 p_5 => ⟨_, rfl, ?_⟩)
    refine ⟨fun h_6 => ?_, fun h_6 => ?_⟩
    · refine xm_sideWayM n_p0 n_p2 _ _ _ _ _ hs (by omega) (by omega) (by first | assumption | exact kT7 hs.1.1 | exact kT25 hs.1.1) (by first | omega | assumption) (by first | assumption | exact kT7 hs.1.1 | exact kT25 hs.1.1) (by first | omega | assumption) (by first | omega | assumption) (by first | omega | assumption) (fun x_7 p_8 => ⟨_, rfl, ?_⟩)
      refine s_265_70 _ _ _ _ _ _ ?_
      exact k _ (by omega)
    · refine s_265_70 _ _ _ _ _ _ ?_
      exact k _ (by omega)
  · refine ⟨q0.2.1, ?_⟩
    refine ⟨(p0 + 5), (q0.tt hs).1.2.2.2.1.2.2.2.2, ?_⟩
    refine ⟨gin ((q0.tt hs).1.2.2.2.2.1.2.2.2.2) (by omega), ?_⟩
    have f_13 := ((q0.tt hs).1.2.2.2.2.2 (Int.toNat p1)).2
    refine ⟨q2.2.1, ?_⟩
    refine ⟨(p2 + 5), (q2.tt hs).1.2.2.2.1.2.2.2.2, ?_⟩
    refine ⟨gin ((q2.tt hs).1.2.2.2.2.1.2.2.2.2) (by omega), ?_⟩
    have f_14 := ((q2.tt hs).1.2.2.2.2.2 (Int.toNat p3)).2
    refine ⟨fun h_15 => ?_, fun h_15 => ?_⟩
    · refine s_265_37 _ _ _ _ _ _ ?_
      exact k _ (by omega)
    · refine s_265_37 _ _ _ _ _ _ ?_
      exact k _ (by omega)
set_option maxRecDepth 100000 in
/-- Maker.wayOf -/
theorem xm_wayOf  {L d : Nat} {K : Option gV → gH → Prop} {s : gH} (n_p0 n_p1 : Nat) (p0 : Nat) (p1 : Nat) (hs : XI L 0 s)  (q0 : kT L s p0 n_p0) (q1 : n_p0 ≤ 60) (q2 : kT L s p1 n_p1) (q3 : n_p1 ≤ 60) (k : ∀ (r : Int), ∀ (t : gH), XI L 0 t → gX L false [23, 24] s t → ((-1) ≤ r ∧ r ≤ 1) → K (some (gp_i r)) t) : gs_C L (d + 4) 264 7 [gp_r (some 20), gp_r (some p0), gp_r (some p1)] s K := by
  have hn_p0 := q0.n hs
  have hn_p1 := q2.n hs
  refine s_264_e _ _ ?_
  have lp_3 : ∀ (n_3 : Nat) (v3_3 : Int) (v4_3 : Int) (v5_3 : Int) (v6_3 : gV) (s_3 : gH), (XI L 0 s_3) → (gX L false [23, 24] s s_3) → (kT L s_3 p0 n_p0) → (kT L s_3 p1 n_p1) → (0 ≤ v3_3 ∧ v3_3 ≤ 60) → (0 ≤ v4_3 ∧ v4_3 ≤ 60) → (0 ≤ v5_3 ∧ v5_3 ≤ 120) → (v5_3 ≤ v3_3 + v4_3) → (Int.toNat (130 - v3_3 - v4_3)) < n_3 → gs_E L (d + 4) 264 8 [gp_r (some 20), gp_r (some p0), gp_r (some p1), gp_i v3_3, gp_i v4_3, gp_i v5_3, v6_3] [] s_3 K := by
    intro n_3
    induction n_3 with
    | zero => intro v3_3 v4_3 v5_3 v6_3 s_3 hs_s_3 hf_s_3 kt_p0_s_3 kt_p1_s_3 hv3_3 hv4_3 hv5_3 iv0_3 hm_3; exact absurd hm_3 (Nat.not_lt_zero _)
    | succ n_3 ih_3 =>
      intro v3_3 v4_3 v5_3 v6_3 s_3 hs_s_3 hf_s_3 kt_p0_s_3 kt_p1_s_3 hv3_3 hv4_3 hv5_3 iv0_3 hm_3
      refine s_264_8 _ _ _ _ _ _ ?_
      refine ⟨p0, rfl, ?_⟩
      refine ⟨kt_p0_s_3.2.1, ?_⟩
      have f_4 := (kt_p0_s_3.tt hs_s_3).1.2.2.1
      have f_5 := kt_p0_s_3.n hs_s_3
      refine ⟨fun h_6 => ?_, fun h_6 => ?_⟩
      · refine ⟨p1, rfl, ?_⟩
        refine ⟨kt_p1_s_3.2.1, ?_⟩
        have f_7 := (kt_p1_s_3.tt hs_s_3).1.2.2.1
        have f_8 := kt_p1_s_3.n hs_s_3
        refine ⟨fun h_9 => ?_, fun h_9 => ?_⟩
        · refine xm_nodeWay n_p0 n_p1 _ _ _ _ hs_s_3 (by omega) (by omega) (by first | assumption | exact kT7 hs_s_3.1.1 | exact kT25 hs_s_3.1.1) (by first | omega | assumption) (by first | assumption | exact kT7 hs_s_3.1.1 | exact kT25 hs_s_3.1.1) (by first | omega | assumption) (by first | omega | assumption) (by first | omega | assumption) (fun x_10 p_11 => ⟨_, rfl, ?_⟩)
          refine ⟨fun h_12 => ?_, fun h_12 => ?_⟩
          · refine s_264_52 _ _ _ _ _ _ ?_
            refine ⟨fun h_15 => ?_, fun h_15 => ?_⟩
            · exfalso; omega
            · refine ⟨by omega, ?_⟩
              intro s_16 e_17
              have hs_18 : XI L 0 s_16 := by rw [e_17]; exact xw24 hs_s_3 _ _
              have hf_19 : gX L false [23, 24] s s_16 := by rw [e_17]; exact gX.wI hf_s_3 (Or.inl rfl)
              have kt_20 : kT L s_16 p0 n_p0 := by rw [e_17]; exact kt_p0_s_3
              have kt_21 : kT L s_16 p1 n_p1 := by rw [e_17]; exact kt_p1_s_3
              try rw [show gp_wr (v4_3 + 1) = v4_3 + 1 from gp_wr_id (by omega) (by omega)]
              refine s_264_69 _ _ _ _ _ _ ?_
              try rw [show gp_wr (v5_3 + 1) = v5_3 + 1 from gp_wr_id (by omega) (by omega)]
              refine ⟨fun h_24 => ?_, fun h_24 => ?_⟩
              · exfalso; omega
              · refine s_264_96 _ _ _ _ _ _ ?_
                exact ih_3 _ _ _ _ _ hs_18 hf_19 kt_20 kt_21 (by omega) (by omega) (by omega) (by first | omega | assumption) (by omega)
          · refine ⟨by omega, ?_⟩
            intro s_29 e_30
            have hs_31 : XI L 0 s_29 := by rw [e_30]; exact xw23 hs_s_3 _ _
            have hf_32 : gX L false [23, 24] s s_29 := by rw [e_30]; exact gX.wI hf_s_3 (Or.inl rfl)
            have kt_33 : kT L s_29 p0 n_p0 := by rw [e_30]; exact kt_p0_s_3
            have kt_34 : kT L s_29 p1 n_p1 := by rw [e_30]; exact kt_p1_s_3
            try rw [show gp_wr (v3_3 + 1) = v3_3 + 1 from gp_wr_id (by omega) (by omega)]
            refine s_264_52 _ _ _ _ _ _ ?_
            refine ⟨fun h_37 => ?_, fun h_37 => ?_⟩
            · refine s_264_69 _ _ _ _ _ _ ?_
              try rw [show gp_wr (v5_3 + 1) = v5_3 + 1 from gp_wr_id (by omega) (by omega)]
              refine ⟨fun h_40 => ?_, fun h_40 => ?_⟩
              · exfalso; omega
              · refine s_264_96 _ _ _ _ _ _ ?_
                exact ih_3 _ _ _ _ _ hs_31 hf_32 kt_33 kt_34 (by omega) (by omega) (by omega) (by first | omega | assumption) (by omega)
            · refine ⟨by omega, ?_⟩
              intro s_45 e_46
              have hs_47 : XI L 0 s_45 := by rw [e_46]; exact xw24 hs_31 _ _
              have hf_48 : gX L false [23, 24] s s_45 := by rw [e_46]; exact gX.wI hf_32 (Or.inl rfl)
              have kt_49 : kT L s_45 p0 n_p0 := by rw [e_46]; exact kt_33
              have kt_50 : kT L s_45 p1 n_p1 := by rw [e_46]; exact kt_34
              try rw [show gp_wr (v4_3 + 1) = v4_3 + 1 from gp_wr_id (by omega) (by omega)]
              refine s_264_69 _ _ _ _ _ _ ?_
              try rw [show gp_wr (v5_3 + 1) = v5_3 + 1 from gp_wr_id (by omega) (by omega)]
              refine ⟨fun h_53 => ?_, fun h_53 => ?_⟩
              · refine ⟨p0, rfl, ?_⟩
                refine ⟨kt_49.2.1, ?_⟩
                have f_54 := (kt_49.tt hs_47).1.2.2.1
                have f_55 := kt_49.n hs_47
                refine ⟨fun h_56 => ?_, fun h_56 => ?_⟩
                · refine ⟨p1, rfl, ?_⟩
                  refine ⟨kt_50.2.1, ?_⟩
                  have f_57 := (kt_50.tt hs_47).1.2.2.1
                  have f_58 := kt_50.n hs_47
                  refine ⟨fun h_59 => ?_, fun h_59 => ?_⟩
                  · exact k _ s_45 hs_47 hf_48 (by omega)
                  · refine s_264_96 _ _ _ _ _ _ ?_
                    exact ih_3 _ _ _ _ _ hs_47 hf_48 kt_49 kt_50 (by omega) (by omega) (by omega) (by first | omega | assumption) (by omega)
                · refine s_264_96 _ _ _ _ _ _ ?_
                  exact ih_3 _ _ _ _ _ hs_47 hf_48 kt_49 kt_50 (by omega) (by omega) (by omega) (by first | omega | assumption) (by omega)
              · exfalso; omega
        · refine s_264_99 _ _ _ _ _ _ ?_
          refine ⟨p0, rfl, ?_⟩
          refine ⟨kt_p0_s_3.2.1, ?_⟩
          have f_70 := (kt_p0_s_3.tt hs_s_3).1.2.2.1
          have f_71 := kt_p0_s_3.n hs_s_3
          refine ⟨fun h_72 => ?_, fun h_72 => ?_⟩
          · refine s_264_112 _ _ _ _ _ _ _ ?_
            exact k _ s_3 hs_s_3 hf_s_3 (by omega)
          · refine s_264_112 _ _ _ _ _ _ _ ?_
            exact k _ s_3 hs_s_3 hf_s_3 (by omega)
      · refine s_264_99 _ _ _ _ _ _ ?_
        refine ⟨p0, rfl, ?_⟩
        refine ⟨kt_p0_s_3.2.1, ?_⟩
        have f_79 := (kt_p0_s_3.tt hs_s_3).1.2.2.1
        have f_80 := kt_p0_s_3.n hs_s_3
        refine ⟨fun h_81 => ?_, fun h_81 => ?_⟩
        · refine s_264_112 _ _ _ _ _ _ _ ?_
          exact k _ s_3 hs_s_3 hf_s_3 (by omega)
        · refine s_264_112 _ _ _ _ _ _ _ ?_
          exact k _ s_3 hs_s_3 hf_s_3 (by omega)
  exact lp_3 _ _ _ _ _ _ hs (gX.refl _ _ _ _) q0 q2 (by omega) (by omega) (by omega) (by first | omega | assumption) (Nat.lt_succ_self _)
