/-! the class's own methods, first -/
theorem XS_set {L i a n : Nat} {s t : gH} (h : XS L s) (et : t = gp_wR s 4 i (some a)) (kt : kT L t a n) (hn : n ≤ 60) : XS L t := fun k hk => by
  by_cases c : k = i
  · exact ⟨a, n, by rw [et, c]; exact R_wRs rfl, kt, hn⟩
  · obtain ⟨a', n', q1, q2, q3⟩ := h k hk
    exact ⟨a', n', by rw [et, R_wR k (Or.inr c)]; exact q1, by rw [et]; exact q2, q3⟩
theorem XK_set {L i a n : Nat} {s t : gH} (h : XK L s) (et : t = gp_wR s 5 i (some a)) (kt : kT L t a n) (hn : n ≤ 60) : XK L t := fun k hk => by
  by_cases c : k = i
  · exact ⟨a, n, by rw [et, c]; exact R_wRs rfl, kt, hn⟩
  · obtain ⟨a', n', q1, q2, q3⟩ := h k hk
    exact ⟨a', n', by rw [et, R_wR k (Or.inr c)]; exact q1, by rw [et]; exact q2, q3⟩
theorem SVF_fl {L P S A n0 n1 n2 : Nat} {s : gH} (h : SVF L P S s) (hn : SVN L P n0 n1 n2 s) (ha : SVA L S A s) : gp_I s S 8 = 0 ∨ p3m n0 n1 n2 ≤ A := by
  rcases h.2 with q | q
  · exact Or.inl q
  · right
    obtain ⟨l, r, a1, a2, a3, a4, a5, a6⟩ := ha
    rw [pr3_N hn, aln_of a1, a5] at q
    exact q
theorem SVF_of {L P S A n0 n1 n2 : Nat} {s : gH} (hn : SVN L P n0 n1 n2 s) (ha : SVA L S A s) (hb : p3m n0 n1 n2 ≤ A) : SVF L P S s := by
  have h9 := pr3_N hn
  obtain ⟨l, r, a1, a2, a3, a4, a5, a6⟩ := ha
  obtain ⟨⟨a, q1, q2⟩, ⟨b, q3, q4⟩, ⟨c, q5, q6⟩, h3⟩ := hn
  refine ⟨⟨fun k hk => ?_, l, a1, a3⟩, Or.inr ?_⟩
  · rcases (by omega : k = 0 ∨ k = 1 ∨ k = 2) with q | q | q <;> subst q
    · exact ⟨a, n0, q1, q2⟩
    · exact ⟨b, n1, q3, q4⟩
    · exact ⟨c, n2, q5, q6⟩
  · rw [h9, aln_of a1, a5]; exact hb
theorem MFV_0 {L : Nat} {s : gH} (h : SVP L 61 s) (h0 : gp_I s 57 3 = 0) : MFV L s := ⟨fun b hb => by
  obtain ⟨a, n, q1, q2, q3⟩ := h b hb
  exact ⟨a, n, q1, q2⟩, fun k hk => by omega⟩
theorem XI.ur {L : Nat} {s : gH} (h : XI L 0 s) (c : Nat) (g : Nat → Int) (hk : (gp_sh (gp_mk L s) c).1 = 100) (hn : NT L s c) (hx : ∀ k v, c < 74 → xP c k v) : XI L 0 (s.1, s.2.1, s.2.2.1, gp_ur s.2.2.2.1 c g, s.2.2.2.2.1, s.2.2.2.2.2) := by
  refine ⟨⟨h.1.1, fun a ha he => ?_⟩, fun a k h1 => ⟨?_, (h.2 a k h1).2⟩⟩
  · have ha2 : (gp_sh (gp_mk L s) a).1 = 9 := ha
    obtain ⟨n, ⟨h1, h2, h3, h4, h5, h6⟩, h7⟩ := h.1.2 a ha2 he
    have c1 : a ≠ c := fun q => by rw [← q, ha2] at hk; exact absurd hk (by decide)
    have c2 : a + 5 ≠ c := fun q => hn a ha2 q.symm
    refine ⟨n, ⟨h1, h2, ?_, h4, h5, fun i => ⟨(h6 i).1, ?_⟩⟩, h7⟩
    · show gp_ur _ _ _ _ _ = _
      rw [ur_i, if_neg c1]; exact h3
    · show 0 ≤ gp_ur _ _ _ _ _ ∧ (gp_ur _ _ _ _ _ ≤ 59 ∨ gp_ur _ _ _ _ _ ≤ _)
      rw [ur_i, if_neg c2]; exact (h6 i).2
  · show xP a k (gp_ur _ _ _ _ _)
    rw [ur_i]
    by_cases q : a = c
    · rw [if_pos q, q]; exact hx k _ (by omega)
    · rw [if_neg q]; exact (h.2 a k h1).1
theorem gX.ur {L : Nat} {al : Bool} {m : List Nat} {s t : gH} (h : gX L al m s t) {c : Nat} {g : Nat → Int} (q : ∀ k, m.contains (gcd c k) = true ∨ 117 ≤ c) : gX L al m s (t.1, t.2.1, t.2.2.1, gp_ur t.2.2.2.1 c g, t.2.2.2.2.1, t.2.2.2.2.2) := by
  refine ⟨h.1, h.2.1, fun a k h1 h2 h3 => ⟨?_, (h.2.2.1 a k h1 h2 h3).2⟩, h.2.2.2⟩
  show gp_ur _ _ _ _ _ = _
  rw [ur_i, if_neg]
  · exact (h.2.2.1 a k h1 h2 h3).1
  · intro e
    rw [e] at h3; rw [e] at h2
    rcases q k with q | q
    · rw [q] at h3; cases h3
    · omega
set_option maxRecDepth 100000 in
/-- GatheredPoints.refused -/
theorem xp_refused  {L d : Nat} {K : Option gV → gH → Prop} {s : gH}  (p0 : Int) (hs : XI L 0 s) (h_p0 : 0 ≤ p0 ∧ p0 ≤ 6)  (k : ∀ (r : Int), ∀ (t : gH), XI L 0 t → gX L false [2] s t → (r = -1000000000 - p0) → K (some (gp_i r)) t) : gs_C L d 2855 2 [gp_r (some 1), gp_i p0] s K := by
  refine s_2855_e _ ?_
  refine ⟨by omega, ?_⟩
  have w_1 := wr_rng ((gp_I s 2 (Int.toNat p0)) + 1)
  refine ⟨by omega, ?_⟩
  intro s_2 e_3
  have hs_4 : XI L 0 s_2 := by rw [e_3]; exact xw2 hs _ _
  have hf_5 : gX L false [2] s s_2 := by rw [e_3]; exact gX.wI (gX.refl _ _ _ _) (Or.inl rfl)
  try rw [show gp_wr ((-1000000000) - p0) = (-1000000000) - p0 from gp_wr_id (by omega) (by omega)]
  exact k _ s_2 hs_4 hf_5 (by first | omega | assumption)
set_option maxRecDepth 100000 in
/-- GatheredPoints.hold -/
theorem xp_hold  {L d : Nat} {K : Option gV → gH → Prop} {s : gH} (n_p1 : Nat) (p0 : Int) (p1 : Nat) (hs : XI L 0 s) (h_p0 : 0 ≤ p0 ∧ p0 ≤ 7) (q0 : kT L s p1 n_p1) (q1 : n_p1 ≤ 60) (q2 : XS L s) (k : ∀ (r : Int), ∀ (t : gH), XI L 0 t → gX L false [4] s t → (1 ≤ r ∧ r ≤ 60) → (XS L t) → K (some (gp_i r)) t) : gs_C L d 2854 3 [gp_r (some 1), gp_i p0, gp_r (some p1)] s K := by
  have hn_p1 := q0.n hs
  refine s_2854_e _ _ ?_
  refine ⟨p1, rfl, ?_⟩
  refine ⟨by omega, ?_⟩
  refine ⟨q0.2.1, ?_⟩
  intro s_1 e_2
  have hs_3 : XI L 0 s_1 := by rw [e_2]; exact XI.wR hs 4 (Int.toNat p0) _ (Or.inl (show ¬ (gp_ss 4).1 = 9 by decide))
  have hf_4 : gX L false [4] s s_1 := by rw [e_2]; exact gX.wR (gX.refl _ _ _ _) (Or.inl rfl) (Or.inl (show ¬ (gp_ss 4).1 = 9 by decide))
  have kt_5 : kT L s_1 p1 n_p1 := by rw [e_2]; exact q0
  refine ⟨kt_5.2.1, ?_⟩
  have f_6 := (kt_5.tt hs_3).1.2.2.1
  have f_7 := kt_5.n hs_3
  exact k _ s_1 hs_3 hf_4 (by omega) (XS_set q2 (by assumption) (by assumption) q1)
set_option maxRecDepth 100000 in
/-- GatheredPoints.waits -/
theorem xp_waits  {L d : Nat} {K : Option gV → gH → Prop} {s : gH}  (p0 : Int) (p1 : Int) (hs : XI L 0 s) (h_p0 : (-2147483648) ≤ p0 ∧ p0 ≤ 2147483647) (h_p1 : (-2147483648) ≤ p1 ∧ p1 ≤ 2147483647) (q0 : XS L s) (k : ∀ (r : Int), ∀ (t : gH), XI L 0 t → gX L true [2, 4] s t → (XS L t) → (gp_sz t ≤ gp_sz s + 6) → (gp_us t ≤ gp_us s + 115) → K (some (gp_i r)) t) : gs_C L (d + 2) 2821 3 [gp_r (some 1), gp_i p0, gp_i p1] s K := by
  refine s_2821_e _ _ ?_
  refine xm_noSlot _ (by omega) (fun x_1 p_2 p_3 p_4 => ⟨_, rfl, ?_⟩)
  refine ⟨fun h_5 => ?_, fun h_5 => ?_⟩
  · refine ⟨fun h_6 => ?_, fun h_6 => ?_⟩
    · refine s_2821_17 _ _ ?_
      refine xp_refused _ hs (by omega) (fun x_7 s_8 hs_9 hf_10 p_11 => ⟨_, rfl, ?_⟩)
      have hf_12 : gX L true [2, 4] s s_8 := gX.sub hf_10 rfl rfl
      have pd_13 : XS L s_8 := XS_fr q0 hf_10 rfl
      have z_14 : gp_sz s_8 = gp_sz s ∧ gp_us s_8 = gp_us s := hf_10.2.1 rfl
      exact k _ s_8 hs_9 hf_12 (pd_13) (by first | omega | assumption) (by first | omega | assumption)
    · refine ⟨fun h_15 => ?_, fun h_15 => ?_⟩
      · refine s_2821_17 _ _ ?_
        refine xp_refused _ hs (by omega) (fun x_16 s_17 hs_18 hf_19 p_20 => ⟨_, rfl, ?_⟩)
        have hf_21 : gX L true [2, 4] s s_17 := gX.sub hf_19 rfl rfl
        have pd_22 : XS L s_17 := XS_fr q0 hf_19 rfl
        have z_23 : gp_sz s_17 = gp_sz s ∧ gp_us s_17 = gp_us s := hf_19.2.1 rfl
        exact k _ s_17 hs_18 hf_21 (pd_22) (by first | omega | assumption) (by first | omega | assumption)
      · refine xm_pauses _ hs (by omega) (fun o_24 s_25 hs_26 hf_27 p_28 p_29 p_30 => ⟨_, rfl, ?_⟩)
        have hf_31 : gX L true [2, 4] s s_25 := gX.sub hf_27 rfl rfl
        have pd_32 : XS L s_25 := XS_fr q0 hf_27 rfl
        obtain ⟨a_33, n_34, rfl, kt_35, hn_36⟩ := p_28
        have hn_a_33 := kt_35.n hs_26
        refine xp_hold n_34 _ _ hs_26 (by omega) (by first | assumption | exact kT7 hs_26.1.1 | exact kT25 hs_26.1.1) (by first | omega | assumption) (pd_32) (fun x_37 s_38 hs_39 hf_40 p_41 p_42 => ⟨_, rfl, ?_⟩)
        have hf_43 : gX L true [2, 4] s s_38 := gX.trans hf_31 hf_40 rfl rfl
        have kt_44 : kT L s_38 a_33 n_34 := kt_35.fr hf_40.1
        have z_45 : gp_sz s_38 = gp_sz s_25 ∧ gp_us s_38 = gp_us s_25 := hf_40.2.1 rfl
        exact k _ s_38 hs_39 hf_43 (p_42) (by first | omega | assumption) (by first | omega | assumption)
  · refine s_2821_17 _ _ ?_
    refine xp_refused _ hs (by omega) (fun x_46 s_47 hs_48 hf_49 p_50 => ⟨_, rfl, ?_⟩)
    have hf_51 : gX L true [2, 4] s s_47 := gX.sub hf_49 rfl rfl
    have pd_52 : XS L s_47 := XS_fr q0 hf_49 rfl
    have z_53 : gp_sz s_47 = gp_sz s ∧ gp_us s_47 = gp_us s := hf_49.2.1 rfl
    exact k _ s_47 hs_48 hf_51 (pd_52) (by first | omega | assumption) (by first | omega | assumption)
set_option maxRecDepth 100000 in
/-- GatheredPoints.ladder -/
theorem xp_ladder  {L d : Nat} {K : Option gV → gH → Prop} {s : gH}  (p0 : Int) (p1 : Int) (hs : XI L 0 s) (h_p0 : (-2147483648) ≤ p0 ∧ p0 ≤ 2147483647) (h_p1 : (-2147483648) ≤ p1 ∧ p1 ≤ 2147483647) (q0 : XS L s) (k : ∀ (r : Int), ∀ (t : gH), XI L 0 t → gX L true [2, 4, 8, 9, 10, 11, 12, 13, 14, 15, 1196] s t → (XS L t) → (gp_sz t ≤ gp_sz s + 6) → (gp_us t ≤ gp_us s + 310) → K (some (gp_i r)) t) : gs_C L (d + 6) 2820 3 [gp_r (some 1), gp_i p0, gp_i p1] s K := by
  refine s_2820_e _ _ ?_
  refine xm_noSlot _ (by omega) (fun x_1 p_2 p_3 p_4 => ⟨_, rfl, ?_⟩)
  refine ⟨fun h_5 => ?_, fun h_5 => ?_⟩
  · refine xm_sh_beyond _ hs (fun x_6 p_7 p_8 => ⟨_, rfl, ?_⟩)
    refine ⟨fun h_9 => ?_, fun h_9 => ?_⟩
    · refine xm_sh_missing _ hs (by omega) (fun x_10 p_11 => ⟨_, rfl, ?_⟩)
      refine ⟨fun h_12 => ?_, fun h_12 => ?_⟩
      · refine ⟨by omega, ?_⟩
        have f_13 := xr73 hs (Int.toNat p1)
        refine ⟨fun h_14 => ?_, fun h_14 => ?_⟩
        · refine s_2820_47 _ _ ?_
          refine xp_refused _ hs (by omega) (fun x_15 s_16 hs_17 hf_18 p_19 => ⟨_, rfl, ?_⟩)
          have hf_20 : gX L true [2, 4, 8, 9, 10, 11, 12, 13, 14, 15, 1196] s s_16 := gX.sub hf_18 rfl rfl
          have pd_21 : XS L s_16 := XS_fr q0 hf_18 rfl
          have z_22 : gp_sz s_16 = gp_sz s ∧ gp_us s_16 = gp_us s := hf_18.2.1 rfl
          exact k _ s_16 hs_17 hf_20 (pd_21) (by first | omega | assumption) (by first | omega | assumption)
        · refine xm_sh_tooBig _ hs (by omega) (fun x_23 p_24 => ⟨_, rfl, ?_⟩)
          refine ⟨fun h_25 => ?_, fun h_25 => ?_⟩
          · refine ⟨by omega, ?_⟩
            refine ⟨by omega, ?_⟩
            have f_26 := xr73 hs (Int.toNat p1)
            rw [show gp_r (gp_R (gp_mk L s) 67 (Int.toNat p1)) = gp_r (some (68 + Int.toNat p1)) from congrArg gp_r (shR (by omega))]
            refine xm_rungs _ _ hs (by omega) (by first | omega | assumption) (fun o_27 s_28 hs_29 hf_30 p_31 p_32 p_33 => ⟨_, rfl, ?_⟩)
            have hf_34 : gX L true [2, 4, 8, 9, 10, 11, 12, 13, 14, 15, 1196] s s_28 := gX.sub hf_30 rfl rfl
            have pd_35 : XS L s_28 := XS_fr q0 hf_30 rfl
            obtain ⟨a_36, n_37, rfl, kt_38, hn_39⟩ := p_31
            have hn_a_36 := kt_38.n hs_29
            refine xp_hold n_37 _ _ hs_29 (by omega) (by first | assumption | exact kT7 hs_29.1.1 | exact kT25 hs_29.1.1) (by first | omega | assumption) (pd_35) (fun x_40 s_41 hs_42 hf_43 p_44 p_45 => ⟨_, rfl, ?_⟩)
            have hf_46 : gX L true [2, 4, 8, 9, 10, 11, 12, 13, 14, 15, 1196] s s_41 := gX.trans hf_34 hf_43 rfl rfl
            have kt_47 : kT L s_41 a_36 n_37 := kt_38.fr hf_43.1
            have z_48 : gp_sz s_41 = gp_sz s_28 ∧ gp_us s_41 = gp_us s_28 := hf_43.2.1 rfl
            exact k _ s_41 hs_42 hf_46 (p_45) (by first | omega | assumption) (by first | omega | assumption)
          · refine xp_refused _ hs (by omega) (fun x_49 s_50 hs_51 hf_52 p_53 => ⟨_, rfl, ?_⟩)
            have hf_54 : gX L true [2, 4, 8, 9, 10, 11, 12, 13, 14, 15, 1196] s s_50 := gX.sub hf_52 rfl rfl
            have pd_55 : XS L s_50 := XS_fr q0 hf_52 rfl
            have z_56 : gp_sz s_50 = gp_sz s ∧ gp_us s_50 = gp_us s := hf_52.2.1 rfl
            exact k _ s_50 hs_51 hf_54 (pd_55) (by first | omega | assumption) (by first | omega | assumption)
      · refine s_2820_47 _ _ ?_
        refine xp_refused _ hs (by omega) (fun x_57 s_58 hs_59 hf_60 p_61 => ⟨_, rfl, ?_⟩)
        have hf_62 : gX L true [2, 4, 8, 9, 10, 11, 12, 13, 14, 15, 1196] s s_58 := gX.sub hf_60 rfl rfl
        have pd_63 : XS L s_58 := XS_fr q0 hf_60 rfl
        have z_64 : gp_sz s_58 = gp_sz s ∧ gp_us s_58 = gp_us s := hf_60.2.1 rfl
        exact k _ s_58 hs_59 hf_62 (pd_63) (by first | omega | assumption) (by first | omega | assumption)
    · refine s_2820_18 _ _ ?_
      refine xp_refused _ hs (by omega) (fun x_65 s_66 hs_67 hf_68 p_69 => ⟨_, rfl, ?_⟩)
      have hf_70 : gX L true [2, 4, 8, 9, 10, 11, 12, 13, 14, 15, 1196] s s_66 := gX.sub hf_68 rfl rfl
      have pd_71 : XS L s_66 := XS_fr q0 hf_68 rfl
      have z_72 : gp_sz s_66 = gp_sz s ∧ gp_us s_66 = gp_us s := hf_68.2.1 rfl
      exact k _ s_66 hs_67 hf_70 (pd_71) (by first | omega | assumption) (by first | omega | assumption)
  · refine s_2820_18 _ _ ?_
    refine xp_refused _ hs (by omega) (fun x_73 s_74 hs_75 hf_76 p_77 => ⟨_, rfl, ?_⟩)
    have hf_78 : gX L true [2, 4, 8, 9, 10, 11, 12, 13, 14, 15, 1196] s s_74 := gX.sub hf_76 rfl rfl
    have pd_79 : XS L s_74 := XS_fr q0 hf_76 rfl
    have z_80 : gp_sz s_74 = gp_sz s ∧ gp_us s_74 = gp_us s := hf_76.2.1 rfl
    exact k _ s_74 hs_75 hf_78 (pd_79) (by first | omega | assumption) (by first | omega | assumption)
set_option maxRecDepth 100000 in
/-- GatheredPoints.join -/
theorem xp_join  {L d : Nat} {K : Option gV → gH → Prop} {s : gH}  (p0 : Int) (p1 : Int) (p2 : Int) (hs : XI L 0 s) (h_p0 : (-2147483648) ≤ p0 ∧ p0 ≤ 2147483647) (h_p1 : (-2147483648) ≤ p1 ∧ p1 ≤ 2147483647) (h_p2 : (-2147483648) ≤ p2 ∧ p2 ≤ 2147483647) (q0 : XS L s) (k : ∀ (r : Int), ∀ (t : gH), XI L 0 t → gX L true [2, 4, 8, 9, 10, 11, 12, 13, 14, 15, 22, 1196] s t → (XS L t) → (gp_sz t ≤ gp_sz s + 6) → (gp_us t ≤ gp_us s + 310) → K (some (gp_i r)) t) : gs_C L (d + 5) 2822 5 [gp_r (some 1), gp_i p0, gp_i p1, gp_i p2] s K := by
  refine s_2822_e _ _ _ ?_
  refine xm_noSlot _ (by omega) (fun x_1 p_2 p_3 p_4 => ⟨_, rfl, ?_⟩)
  refine ⟨fun h_5 => ?_, fun h_5 => ?_⟩
  · refine xm_noSlot _ (by omega) (fun x_6 p_7 p_8 p_9 => ⟨_, rfl, ?_⟩)
    refine ⟨fun h_10 => ?_, fun h_10 => ?_⟩
    · refine xm_noSlot _ (by omega) (fun x_11 p_12 p_13 p_14 => ⟨_, rfl, ?_⟩)
      refine ⟨fun h_15 => ?_, fun h_15 => ?_⟩
      · refine ⟨by omega, ?_⟩
        obtain ⟨a_16, n_17, e_18, kt_19, hn_20⟩ := XS.get (q0) (Int.toNat p0) (by omega)
        have hn_a_16 := kt_19.n hs
        refine ⟨by omega, ?_⟩
        obtain ⟨a_21, n_22, e_23, kt_24, hn_25⟩ := XS.get (q0) (Int.toNat p1) (by omega)
        have hn_a_21 := kt_24.n hs
        rw [show gp_r (gp_R (gp_mk L s) 4 (Int.toNat p0)) = gp_r (some a_16) from congrArg gp_r e_18]
        rw [show gp_r (gp_R (gp_mk L s) 4 (Int.toNat p1)) = gp_r (some a_21) from congrArg gp_r e_23]
        refine xm_joined n_17 n_22 _ _ hs (by first | assumption | exact kT7 hs.1.1 | exact kT25 hs.1.1) (by first | omega | assumption) (by first | assumption | exact kT7 hs.1.1 | exact kT25 hs.1.1) (by first | omega | assumption) (fun o_26 s_27 hs_28 hf_29 p_30 p_31 p_32 => ⟨_, rfl, ?_⟩)
        have hf_33 : gX L true [2, 4, 8, 9, 10, 11, 12, 13, 14, 15, 22, 1196] s s_27 := gX.sub hf_29 rfl rfl
        have kt_34 : kT L s_27 a_16 n_17 := kt_19.fr hf_29.1
        have kt_35 : kT L s_27 a_21 n_22 := kt_24.fr hf_29.1
        have pd_36 : XS L s_27 := XS_fr q0 hf_29 rfl
        refine ⟨fun hq_37 => ?_, fun q_38 hq_37 => ?_⟩
        · refine xp_refused _ hs_28 (by omega) (fun x_39 s_40 hs_41 hf_42 p_43 => ⟨_, rfl, ?_⟩)
          have hf_44 : gX L true [2, 4, 8, 9, 10, 11, 12, 13, 14, 15, 22, 1196] s s_40 := gX.trans hf_33 hf_42 rfl rfl
          have kt_45 : kT L s_40 a_16 n_17 := kt_34.fr hf_42.1
          have kt_46 : kT L s_40 a_21 n_22 := kt_35.fr hf_42.1
          have pd_47 : XS L s_40 := XS_fr pd_36 hf_42 rfl
          have z_48 : gp_sz s_40 = gp_sz s_27 ∧ gp_us s_40 = gp_us s_27 := hf_42.2.1 rfl
          exact k _ s_40 hs_41 hf_44 (pd_47) (by first | omega | assumption) (by first | omega | assumption)
        · obtain ⟨n_49, kt_50, hn_51⟩ := nn_of p_30 hq_37
          have hn_q_38 := kt_50.n hs_28
          refine ⟨kt_50.2.1, ?_⟩
          refine xm_tooBig n_49 _ hs_28 (by first | assumption | exact kT7 hs_28.1.1 | exact kT25 hs_28.1.1) (fun x_52 p_53 => ⟨_, rfl, ?_⟩)
          refine ⟨fun h_54 => ?_, fun h_54 => ?_⟩
          · refine xp_hold n_49 _ _ hs_28 (by omega) (by first | assumption | exact kT7 hs_28.1.1 | exact kT25 hs_28.1.1) (by first | omega | assumption) (pd_36) (fun x_55 s_56 hs_57 hf_58 p_59 p_60 => ⟨_, rfl, ?_⟩)
            have hf_61 : gX L true [2, 4, 8, 9, 10, 11, 12, 13, 14, 15, 22, 1196] s s_56 := gX.trans hf_33 hf_58 rfl rfl
            have kt_62 : kT L s_56 a_16 n_17 := kt_34.fr hf_58.1
            have kt_63 : kT L s_56 a_21 n_22 := kt_35.fr hf_58.1
            have kt_64 : kT L s_56 q_38 n_49 := kt_50.fr hf_58.1
            have z_65 : gp_sz s_56 = gp_sz s_27 ∧ gp_us s_56 = gp_us s_27 := hf_58.2.1 rfl
            exact k _ s_56 hs_57 hf_61 (p_60) (by first | omega | assumption) (by first | omega | assumption)
          · refine xp_refused _ hs_28 (by omega) (fun x_66 s_67 hs_68 hf_69 p_70 => ⟨_, rfl, ?_⟩)
            have hf_71 : gX L true [2, 4, 8, 9, 10, 11, 12, 13, 14, 15, 22, 1196] s s_67 := gX.trans hf_33 hf_69 rfl rfl
            have kt_72 : kT L s_67 a_16 n_17 := kt_34.fr hf_69.1
            have kt_73 : kT L s_67 a_21 n_22 := kt_35.fr hf_69.1
            have kt_74 : kT L s_67 q_38 n_49 := kt_50.fr hf_69.1
            have pd_75 : XS L s_67 := XS_fr pd_36 hf_69 rfl
            have z_76 : gp_sz s_67 = gp_sz s_27 ∧ gp_us s_67 = gp_us s_27 := hf_69.2.1 rfl
            exact k _ s_67 hs_68 hf_71 (pd_75) (by first | omega | assumption) (by first | omega | assumption)
      · refine s_2822_21 _ _ _ _ ?_
        refine xp_refused _ hs (by omega) (fun x_77 s_78 hs_79 hf_80 p_81 => ⟨_, rfl, ?_⟩)
        have hf_82 : gX L true [2, 4, 8, 9, 10, 11, 12, 13, 14, 15, 22, 1196] s s_78 := gX.sub hf_80 rfl rfl
        have pd_83 : XS L s_78 := XS_fr q0 hf_80 rfl
        have z_84 : gp_sz s_78 = gp_sz s ∧ gp_us s_78 = gp_us s := hf_80.2.1 rfl
        exact k _ s_78 hs_79 hf_82 (pd_83) (by first | omega | assumption) (by first | omega | assumption)
    · refine s_2822_21 _ _ _ _ ?_
      refine xp_refused _ hs (by omega) (fun x_85 s_86 hs_87 hf_88 p_89 => ⟨_, rfl, ?_⟩)
      have hf_90 : gX L true [2, 4, 8, 9, 10, 11, 12, 13, 14, 15, 22, 1196] s s_86 := gX.sub hf_88 rfl rfl
      have pd_91 : XS L s_86 := XS_fr q0 hf_88 rfl
      have z_92 : gp_sz s_86 = gp_sz s ∧ gp_us s_86 = gp_us s := hf_88.2.1 rfl
      exact k _ s_86 hs_87 hf_90 (pd_91) (by first | omega | assumption) (by first | omega | assumption)
  · refine s_2822_21 _ _ _ _ ?_
    refine xp_refused _ hs (by omega) (fun x_93 s_94 hs_95 hf_96 p_97 => ⟨_, rfl, ?_⟩)
    have hf_98 : gX L true [2, 4, 8, 9, 10, 11, 12, 13, 14, 15, 22, 1196] s s_94 := gX.sub hf_96 rfl rfl
    have pd_99 : XS L s_94 := XS_fr q0 hf_96 rfl
    have z_100 : gp_sz s_94 = gp_sz s ∧ gp_us s_94 = gp_us s := hf_96.2.1 rfl
    exact k _ s_94 hs_95 hf_98 (pd_99) (by first | omega | assumption) (by first | omega | assumption)
set_option maxRecDepth 100000 in
/-- GatheredPoints.negate -/
theorem xp_negate  {L d : Nat} {K : Option gV → gH → Prop} {s : gH}  (p0 : Int) (p1 : Int) (hs : XI L 0 s) (h_p0 : (-2147483648) ≤ p0 ∧ p0 ≤ 2147483647) (h_p1 : (-2147483648) ≤ p1 ∧ p1 ≤ 2147483647) (q0 : XS L s) (k : ∀ (r : Int), ∀ (t : gH), XI L 0 t → gX L true [2, 4, 8, 9, 10, 11, 12, 13, 14, 15, 21, 1196] s t → (XS L t) → (gp_sz t ≤ gp_sz s + 6) → (gp_us t ≤ gp_us s + 310) → K (some (gp_i r)) t) : gs_C L (d + 6) 2823 3 [gp_r (some 1), gp_i p0, gp_i p1] s K := by
  refine s_2823_e _ _ ?_
  refine xm_noSlot _ (by omega) (fun x_1 p_2 p_3 p_4 => ⟨_, rfl, ?_⟩)
  refine ⟨fun h_5 => ?_, fun h_5 => ?_⟩
  · refine xm_noSlot _ (by omega) (fun x_6 p_7 p_8 p_9 => ⟨_, rfl, ?_⟩)
    refine ⟨fun h_10 => ?_, fun h_10 => ?_⟩
    · refine ⟨by omega, ?_⟩
      obtain ⟨a_11, n_12, e_13, kt_14, hn_15⟩ := XS.get (q0) (Int.toNat p0) (by omega)
      have hn_a_11 := kt_14.n hs
      rw [show gp_r (gp_R (gp_mk L s) 4 (Int.toNat p0)) = gp_r (some a_11) from congrArg gp_r e_13]
      refine xm_negated n_12 _ hs (by first | assumption | exact kT7 hs.1.1 | exact kT25 hs.1.1) (by first | omega | assumption) (fun o_16 s_17 hs_18 hf_19 p_20 p_21 p_22 => ⟨_, rfl, ?_⟩)
      have hf_23 : gX L true [2, 4, 8, 9, 10, 11, 12, 13, 14, 15, 21, 1196] s s_17 := gX.sub hf_19 rfl rfl
      have kt_24 : kT L s_17 a_11 n_12 := kt_14.fr hf_19.1
      have pd_25 : XS L s_17 := XS_fr q0 hf_19 rfl
      obtain ⟨a_26, n_27, rfl, kt_28, hn_29⟩ := p_20
      have hn_a_26 := kt_28.n hs_18
      refine xp_hold n_27 _ _ hs_18 (by omega) (by first | assumption | exact kT7 hs_18.1.1 | exact kT25 hs_18.1.1) (by first | omega | assumption) (pd_25) (fun x_30 s_31 hs_32 hf_33 p_34 p_35 => ⟨_, rfl, ?_⟩)
      have hf_36 : gX L true [2, 4, 8, 9, 10, 11, 12, 13, 14, 15, 21, 1196] s s_31 := gX.trans hf_23 hf_33 rfl rfl
      have kt_37 : kT L s_31 a_11 n_12 := kt_24.fr hf_33.1
      have kt_38 : kT L s_31 a_26 n_27 := kt_28.fr hf_33.1
      have z_39 : gp_sz s_31 = gp_sz s_17 ∧ gp_us s_31 = gp_us s_17 := hf_33.2.1 rfl
      exact k _ s_31 hs_32 hf_36 (p_35) (by first | omega | assumption) (by first | omega | assumption)
    · refine s_2823_14 _ _ ?_
      refine xp_refused _ hs (by omega) (fun x_40 s_41 hs_42 hf_43 p_44 => ⟨_, rfl, ?_⟩)
      have hf_45 : gX L true [2, 4, 8, 9, 10, 11, 12, 13, 14, 15, 21, 1196] s s_41 := gX.sub hf_43 rfl rfl
      have pd_46 : XS L s_41 := XS_fr q0 hf_43 rfl
      have z_47 : gp_sz s_41 = gp_sz s ∧ gp_us s_41 = gp_us s := hf_43.2.1 rfl
      exact k _ s_41 hs_42 hf_45 (pd_46) (by first | omega | assumption) (by first | omega | assumption)
  · refine s_2823_14 _ _ ?_
    refine xp_refused _ hs (by omega) (fun x_48 s_49 hs_50 hf_51 p_52 => ⟨_, rfl, ?_⟩)
    have hf_53 : gX L true [2, 4, 8, 9, 10, 11, 12, 13, 14, 15, 21, 1196] s s_49 := gX.sub hf_51 rfl rfl
    have pd_54 : XS L s_49 := XS_fr q0 hf_51 rfl
    have z_55 : gp_sz s_49 = gp_sz s ∧ gp_us s_49 = gp_us s := hf_51.2.1 rfl
    exact k _ s_49 hs_50 hf_53 (pd_54) (by first | omega | assumption) (by first | omega | assumption)
set_option maxRecDepth 100000 in
/-- GatheredPoints.option -/
theorem xp_option  {L d : Nat} {K : Option gV → gH → Prop} {s : gH}  (p0 : Int) (p1 : Int) (p2 : Int) (p3 : Int) (hs : XI L 0 s) (h_p0 : (-2147483648) ≤ p0 ∧ p0 ≤ 2147483647) (h_p1 : (-2147483648) ≤ p1 ∧ p1 ≤ 2147483647) (h_p2 : (-2147483648) ≤ p2 ∧ p2 ≤ 2147483647) (h_p3 : (-2147483648) ≤ p3 ∧ p3 ≤ 2147483647) (q0 : XS L s) (k : ∀ (r : Int), ∀ (t : gH), XI L 0 t → gX L true [2, 4, 8, 9, 10, 11, 12, 13, 14, 15, 1196] s t → (XS L t) → (gp_sz t ≤ gp_sz s + 6) → (gp_us t ≤ gp_us s + 310) → K (some (gp_i r)) t) : gs_C L (d + 6) 2824 8 [gp_r (some 1), gp_i p0, gp_i p1, gp_i p2, gp_i p3] s K := by
  refine s_2824_e _ _ _ _ ?_
  refine xm_noSlot _ (by omega) (fun x_1 p_2 p_3 p_4 => ⟨_, rfl, ?_⟩)
  refine ⟨fun h_5 => ?_, fun h_5 => ?_⟩
  · refine xm_noSide _ (by omega) (fun x_6 p_7 p_8 p_9 => ⟨_, rfl, ?_⟩)
    refine ⟨fun h_10 => ?_, fun h_10 => ?_⟩
    · refine xm_noSlot _ (by omega) (fun x_11 p_12 p_13 p_14 => ⟨_, rfl, ?_⟩)
      refine ⟨fun h_15 => ?_, fun h_15 => ?_⟩
      · refine ⟨by omega, ?_⟩
        obtain ⟨a_16, n_17, e_18, kt_19, hn_20⟩ := XS.get (q0) (Int.toNat p0) (by omega)
        have hn_a_16 := kt_19.n hs
        refine ⟨a_16, e_18, ?_⟩
        refine ⟨kt_19.2.1, ?_⟩
        refine xm_root n_17 _ hs (by first | assumption | exact kT7 hs.1.1 | exact kT25 hs.1.1) (fun x_21 p_22 p_23 => ⟨_, rfl, ?_⟩)
        refine ⟨kt_19.2.1, ?_⟩
        refine xm_options n_17 _ _ _ hs (by omega) (by first | assumption | exact kT7 hs.1.1 | exact kT25 hs.1.1) (by first | omega | assumption) (fun m_24 p_25 p_26 => ⟨_, rfl, ?_⟩)
        have hbo := p_25
        refine ⟨fun h_27 => ?_, fun h_27 => ?_⟩
        · refine s_2824_62 _ _ _ _ _ _ ?_
          refine xp_refused _ hs (by omega) (fun x_29 s_30 hs_31 hf_32 p_33 => ⟨_, rfl, ?_⟩)
          have hf_34 : gX L true [2, 4, 8, 9, 10, 11, 12, 13, 14, 15, 1196] s s_30 := gX.sub hf_32 rfl rfl
          have kt_35 : kT L s_30 a_16 n_17 := kt_19.fr hf_32.1
          have pd_36 : XS L s_30 := XS_fr q0 hf_32 rfl
          have z_37 : gp_sz s_30 = gp_sz s ∧ gp_us s_30 = gp_us s := hf_32.2.1 rfl
          exact k _ s_30 hs_31 hf_34 (pd_36) (by first | omega | assumption) (by first | omega | assumption)
        · refine xm_bc _ (fun x_38 p_39 p_40 => ⟨_, rfl, ?_⟩)
          refine ⟨fun h_41 => ?_, fun h_41 => ?_⟩
          · refine xm_pick _ _ (by omega) (fun x_42 p_43 p_44 => ⟨_, rfl, ?_⟩)
            have hpk := p_44 (by omega)
            have hlt := hbo _ hpk.2
            refine xm_part n_17 _ _ hs (by omega) (by first | assumption | exact kT7 hs.1.1 | exact kT25 hs.1.1) (by first | omega | assumption) (by first | omega | assumption) (fun o_45 s_46 hs_47 hf_48 p_49 p_50 p_51 => ⟨_, rfl, ?_⟩)
            have hf_52 : gX L true [2, 4, 8, 9, 10, 11, 12, 13, 14, 15, 1196] s s_46 := gX.sub hf_48 rfl rfl
            have kt_53 : kT L s_46 a_16 n_17 := kt_19.fr hf_48.1
            have pd_54 : XS L s_46 := XS_fr q0 hf_48 rfl
            obtain ⟨a_55, n_56, rfl, kt_57, hn_58⟩ := p_49
            have hn_a_55 := kt_57.n hs_47
            refine xp_hold n_56 _ _ hs_47 (by omega) (by first | assumption | exact kT7 hs_47.1.1 | exact kT25 hs_47.1.1) (by first | omega | assumption) (pd_54) (fun x_59 s_60 hs_61 hf_62 p_63 p_64 => ⟨_, rfl, ?_⟩)
            have hf_65 : gX L true [2, 4, 8, 9, 10, 11, 12, 13, 14, 15, 1196] s s_60 := gX.trans hf_52 hf_62 rfl rfl
            have kt_66 : kT L s_60 a_16 n_17 := kt_53.fr hf_62.1
            have kt_67 : kT L s_60 a_55 n_56 := kt_57.fr hf_62.1
            have z_68 : gp_sz s_60 = gp_sz s_46 ∧ gp_us s_60 = gp_us s_46 := hf_62.2.1 rfl
            exact k _ s_60 hs_61 hf_65 (p_64) (by first | omega | assumption) (by first | omega | assumption)
          · refine s_2824_62 _ _ _ _ _ _ ?_
            refine xp_refused _ hs (by omega) (fun x_70 s_71 hs_72 hf_73 p_74 => ⟨_, rfl, ?_⟩)
            have hf_75 : gX L true [2, 4, 8, 9, 10, 11, 12, 13, 14, 15, 1196] s s_71 := gX.sub hf_73 rfl rfl
            have kt_76 : kT L s_71 a_16 n_17 := kt_19.fr hf_73.1
            have pd_77 : XS L s_71 := XS_fr q0 hf_73 rfl
            have z_78 : gp_sz s_71 = gp_sz s ∧ gp_us s_71 = gp_us s := hf_73.2.1 rfl
            exact k _ s_71 hs_72 hf_75 (pd_77) (by first | omega | assumption) (by first | omega | assumption)
      · refine s_2824_22 _ _ _ _ _ _ _ ?_
        refine xp_refused _ hs (by omega) (fun x_79 s_80 hs_81 hf_82 p_83 => ⟨_, rfl, ?_⟩)
        have hf_84 : gX L true [2, 4, 8, 9, 10, 11, 12, 13, 14, 15, 1196] s s_80 := gX.sub hf_82 rfl rfl
        have pd_85 : XS L s_80 := XS_fr q0 hf_82 rfl
        have z_86 : gp_sz s_80 = gp_sz s ∧ gp_us s_80 = gp_us s := hf_82.2.1 rfl
        exact k _ s_80 hs_81 hf_84 (pd_85) (by first | omega | assumption) (by first | omega | assumption)
    · refine s_2824_22 _ _ _ _ _ _ _ ?_
      refine xp_refused _ hs (by omega) (fun x_87 s_88 hs_89 hf_90 p_91 => ⟨_, rfl, ?_⟩)
      have hf_92 : gX L true [2, 4, 8, 9, 10, 11, 12, 13, 14, 15, 1196] s s_88 := gX.sub hf_90 rfl rfl
      have pd_93 : XS L s_88 := XS_fr q0 hf_90 rfl
      have z_94 : gp_sz s_88 = gp_sz s ∧ gp_us s_88 = gp_us s := hf_90.2.1 rfl
      exact k _ s_88 hs_89 hf_92 (pd_93) (by first | omega | assumption) (by first | omega | assumption)
  · refine s_2824_22 _ _ _ _ _ _ _ ?_
    refine xp_refused _ hs (by omega) (fun x_95 s_96 hs_97 hf_98 p_99 => ⟨_, rfl, ?_⟩)
    have hf_100 : gX L true [2, 4, 8, 9, 10, 11, 12, 13, 14, 15, 1196] s s_96 := gX.sub hf_98 rfl rfl
    have pd_101 : XS L s_96 := XS_fr q0 hf_98 rfl
    have z_102 : gp_sz s_96 = gp_sz s ∧ gp_us s_96 = gp_us s := hf_98.2.1 rfl
    exact k _ s_96 hs_97 hf_100 (pd_101) (by first | omega | assumption) (by first | omega | assumption)
set_option maxRecDepth 100000 in
/-- GatheredPoints.waited -/
theorem xp_waited  {L d : Nat} {K : Option gV → gH → Prop} {s : gH} (n_p0 : Nat) (p0 : Nat) (p1 : Int) (hs : XI L 0 s)  (q0 : kT L s p0 n_p0) (q1 : n_p0 ≤ 60) (k : ∀ (r : Int), ∀ (t : gH), XI L 0 t → gX L true [16, 17, 18, 19, 32, 33, 34, 35, 1806, 1807, 1808, 1809] s t → (gp_sz t ≤ gp_sz s + 4) → (gp_us t ≤ gp_us s + 240) → K (some (gp_i r)) t) : gs_C L (d + 6) 2826 4 [gp_r (some 1), gp_r (some p0), gp_i p1] s K := by
  have hn_p0 := q0.n hs
  refine s_2826_e _ _ ?_
  refine xm_bound n_p0 _ hs (by first | assumption | exact kT7 hs.1.1 | exact kT25 hs.1.1) (by first | omega | assumption) (fun s_1 hs_2 hf_3 p_4 p_5 p_6 => ⟨rfl, ?_⟩)
  have hf_7 : gX L true [16, 17, 18, 19, 32, 33, 34, 35, 1806, 1807, 1808, 1809] s s_1 := gX.sub hf_3 rfl rfl
  have kt_8 : kT L s_1 p0 n_p0 := q0.fr hf_3.1
  refine ⟨p0, rfl, ?_⟩
  refine ⟨kt_8.2.1, ?_⟩
  refine xm_root n_p0 _ hs_2 (by first | assumption | exact kT7 hs_2.1.1 | exact kT25 hs_2.1.1) (fun x_9 p_10 p_11 => ⟨_, rfl, ?_⟩)
  refine ⟨fun h_12 => ?_, fun h_12 => ?_, fun h_12 => ?_, fun h_12 => ?_⟩
  · refine ⟨kt_8.2.1, ?_⟩
    obtain ⟨b_13, rb_13, lb_13, hb_13, tb_13, cb_13⟩ := (p_4.bb (kt_8.tt hs_2)).1
    refine ⟨b_13, rb_13, ?_⟩
    refine ⟨gin hb_13 (by omega), ?_⟩
    exact k _ s_1 hs_2 hf_7 (by first | omega | assumption) (by first | omega | assumption)
  · refine ⟨kt_8.2.1, ?_⟩
    obtain ⟨b_14, rb_14, lb_14, hb_14, tb_14, cb_14⟩ := (p_4.bb (kt_8.tt hs_2)).2.1
    refine ⟨b_14, rb_14, ?_⟩
    refine ⟨gin hb_14 (by omega), ?_⟩
    exact k _ s_1 hs_2 hf_7 (by first | omega | assumption) (by first | omega | assumption)
  · refine ⟨kt_8.2.1, ?_⟩
    obtain ⟨b_15, rb_15, lb_15, hb_15, tb_15, cb_15⟩ := (p_4.bb (kt_8.tt hs_2)).2.2.1
    refine ⟨b_15, rb_15, ?_⟩
    refine ⟨gin hb_15 (by omega), ?_⟩
    exact k _ s_1 hs_2 hf_7 (by first | omega | assumption) (by first | omega | assumption)
  · refine ⟨kt_8.2.1, ?_⟩
    obtain ⟨b_16, rb_16, lb_16, hb_16, tb_16, cb_16⟩ := (p_4.bb (kt_8.tt hs_2)).2.2.2
    refine ⟨b_16, rb_16, ?_⟩
    refine ⟨gin hb_16 (by omega), ?_⟩
    exact k _ s_1 hs_2 hf_7 (by first | omega | assumption) (by first | omega | assumption)
set_option maxRecDepth 100000 in
/-- GatheredPoints.gameOf -/
theorem xp_gameOf  {L d : Nat} {K : Option gV → gH → Prop} {s : gH}  (p0 : Int) (p1 : Int) (hs : XI L 0 s) (h_p0 : (-2147483648) ≤ p0 ∧ p0 ≤ 2147483647) (h_p1 : (-2147483648) ≤ p1 ∧ p1 ≤ 2147483647) (q0 : XS L s) (k : ∀ (r : Int), ∀ (t : gH), XI L 0 t → gX L true [2, 16, 17, 18, 19, 32, 33, 34, 35, 36, 37, 1806, 1807, 1808, 1809] s t → (gp_sz t ≤ gp_sz s + 4) → (gp_us t ≤ gp_us s + 240) → K (some (gp_i r)) t) : gs_C L (d + 7) 2825 5 [gp_r (some 1), gp_i p0, gp_i p1] s K := by
  refine s_2825_e _ _ ?_
  refine xm_noSlot _ (by omega) (fun x_1 p_2 p_3 p_4 => ⟨_, rfl, ?_⟩)
  refine ⟨fun h_5 => ?_, fun h_5 => ?_⟩
  · refine ⟨fun h_6 => ?_, fun h_6 => ?_⟩
    · refine s_2825_17 _ _ _ _ ?_
      refine xp_refused _ hs (by omega) (fun x_7 s_8 hs_9 hf_10 p_11 => ⟨_, rfl, ?_⟩)
      have hf_12 : gX L true [2, 16, 17, 18, 19, 32, 33, 34, 35, 36, 37, 1806, 1807, 1808, 1809] s s_8 := gX.sub hf_10 rfl rfl
      have pd_13 : XS L s_8 := XS_fr q0 hf_10 rfl
      have z_14 : gp_sz s_8 = gp_sz s ∧ gp_us s_8 = gp_us s := hf_10.2.1 rfl
      exact k _ s_8 hs_9 hf_12 (by first | omega | assumption) (by first | omega | assumption)
    · refine ⟨fun h_15 => ?_, fun h_15 => ?_⟩
      · refine s_2825_17 _ _ _ _ ?_
        refine xp_refused _ hs (by omega) (fun x_16 s_17 hs_18 hf_19 p_20 => ⟨_, rfl, ?_⟩)
        have hf_21 : gX L true [2, 16, 17, 18, 19, 32, 33, 34, 35, 36, 37, 1806, 1807, 1808, 1809] s s_17 := gX.sub hf_19 rfl rfl
        have pd_22 : XS L s_17 := XS_fr q0 hf_19 rfl
        have z_23 : gp_sz s_17 = gp_sz s ∧ gp_us s_17 = gp_us s := hf_19.2.1 rfl
        exact k _ s_17 hs_18 hf_21 (by first | omega | assumption) (by first | omega | assumption)
      · refine ⟨by omega, ?_⟩
        obtain ⟨a_24, n_25, e_26, kt_27, hn_28⟩ := XS.get (q0) (Int.toNat p0) (by omega)
        have hn_a_24 := kt_27.n hs
        refine ⟨a_24, e_26, ?_⟩
        refine ⟨kt_27.2.1, ?_⟩
        refine xm_root n_25 _ hs (by first | assumption | exact kT7 hs.1.1 | exact kT25 hs.1.1) (fun x_29 p_30 p_31 => ⟨_, rfl, ?_⟩)
        refine ⟨fun h_32 => ?_, fun h_32 => ?_, fun h_32 => ?_, fun h_32 => ?_, fun h_32 => ?_, fun h_32 => ?_, fun h_32 => ?_, fun h_32 => ?_, fun h_32 => ?_, fun h_32 => ?_, fun h_32 => ?_, fun h_32 => ?_, fun h_32 => ?_, fun h_32 => ?_⟩
        · refine ⟨kt_27.2.1, ?_⟩
          have f_33 := (kt_27.tt hs).1.2.2.1
          have f_34 := kt_27.n hs
          exact k _ s hs (gX.refl _ _ _ _) (by first | omega | assumption) (by first | omega | assumption)
        · refine ⟨kt_27.2.1, ?_⟩
          refine ⟨(a_24 + 5), (kt_27.tt hs).1.2.2.2.1.2.2.2.2, ?_⟩
          refine ⟨gin ((kt_27.tt hs).1.2.2.2.2.1.2.2.2.2) (by omega), ?_⟩
          have f_35 := ((kt_27.tt hs).1.2.2.2.2.2 (Int.toNat x_29)).2
          exact k _ s hs (gX.refl _ _ _ _) (by first | omega | assumption) (by first | omega | assumption)
        · refine ⟨kt_27.2.1, ?_⟩
          refine ⟨(a_24 + 1), (kt_27.tt hs).1.2.2.2.1.1, ?_⟩
          refine ⟨gin ((kt_27.tt hs).1.2.2.2.2.1.1) (by omega), ?_⟩
          have b_36 : bd (gp_L s (a_24 + 1) (Int.toNat x_29)) x_29 := bd_le ((kt_27.tt hs).1.2.2.2.2.2 (Int.toNat x_29)).1.1 (by omega)
          refine xm_bc _ (fun x_37 p_38 p_39 => ⟨_, rfl, ?_⟩)
          exact k _ s hs (gX.refl _ _ _ _) (by first | omega | assumption) (by first | omega | assumption)
        · refine ⟨kt_27.2.1, ?_⟩
          refine ⟨(a_24 + 2), (kt_27.tt hs).1.2.2.2.1.2.1, ?_⟩
          refine ⟨gin ((kt_27.tt hs).1.2.2.2.2.1.2.1) (by omega), ?_⟩
          have b_40 : bd (gp_L s (a_24 + 2) (Int.toNat x_29)) x_29 := bd_le ((kt_27.tt hs).1.2.2.2.2.2 (Int.toNat x_29)).1.2 (by omega)
          refine xm_bc _ (fun x_41 p_42 p_43 => ⟨_, rfl, ?_⟩)
          exact k _ s hs (gX.refl _ _ _ _) (by first | omega | assumption) (by first | omega | assumption)
        · refine ⟨kt_27.2.1, ?_⟩
          refine ⟨(a_24 + 1), (kt_27.tt hs).1.2.2.2.1.1, ?_⟩
          refine ⟨gin ((kt_27.tt hs).1.2.2.2.2.1.1) (by omega), ?_⟩
          have b_44 : bd (gp_L s (a_24 + 1) (Int.toNat x_29)) x_29 := bd_le ((kt_27.tt hs).1.2.2.2.2.2 (Int.toNat x_29)).1.1 (by omega)
          refine ⟨fun h_45 => ?_, fun h_45 => ?_⟩
          · have hz_46 : gp_L s (a_24 + 1) (Int.toNat x_29) = 0#64 := (gm_cmp0 _ _).mp h_45
            refine ⟨kt_27.2.1, ?_⟩
            refine ⟨(a_24 + 3), (kt_27.tt hs).1.2.2.2.1.2.2.1, ?_⟩
            refine ⟨gin ((kt_27.tt hs).1.2.2.2.2.1.2.2.1) (by omega), ?_⟩
            refine s_2825_166 _ _ _ _ _ ?_
            exact k _ s hs (gX.refl _ _ _ _) (by first | omega | assumption) (by first | omega | assumption)
          · have hz_48 : ¬ (gp_L s (a_24 + 1) (Int.toNat x_29)) = 0#64 := fun q => h_45 ((gm_cmp0 _ _).mpr q)
            refine xp_refused _ hs (by omega) (fun x_49 s_50 hs_51 hf_52 p_53 => ⟨_, rfl, ?_⟩)
            have hf_54 : gX L true [2, 16, 17, 18, 19, 32, 33, 34, 35, 36, 37, 1806, 1807, 1808, 1809] s s_50 := gX.sub hf_52 rfl rfl
            have kt_55 : kT L s_50 a_24 n_25 := kt_27.fr hf_52.1
            have pd_56 : XS L s_50 := XS_fr q0 hf_52 rfl
            have z_57 : gp_sz s_50 = gp_sz s ∧ gp_us s_50 = gp_us s := hf_52.2.1 rfl
            refine s_2825_166 _ _ _ _ _ ?_
            exact k _ s_50 hs_51 hf_54 (by first | omega | assumption) (by first | omega | assumption)
        · refine ⟨kt_27.2.1, ?_⟩
          refine ⟨(a_24 + 2), (kt_27.tt hs).1.2.2.2.1.2.1, ?_⟩
          refine ⟨gin ((kt_27.tt hs).1.2.2.2.2.1.2.1) (by omega), ?_⟩
          have b_59 : bd (gp_L s (a_24 + 2) (Int.toNat x_29)) x_29 := bd_le ((kt_27.tt hs).1.2.2.2.2.2 (Int.toNat x_29)).1.2 (by omega)
          refine ⟨fun h_60 => ?_, fun h_60 => ?_⟩
          · have hz_61 : gp_L s (a_24 + 2) (Int.toNat x_29) = 0#64 := (gm_cmp0 _ _).mp h_60
            refine ⟨kt_27.2.1, ?_⟩
            refine ⟨(a_24 + 4), (kt_27.tt hs).1.2.2.2.1.2.2.2.1, ?_⟩
            refine ⟨gin ((kt_27.tt hs).1.2.2.2.2.1.2.2.2.1) (by omega), ?_⟩
            refine s_2825_194 _ _ _ _ _ ?_
            exact k _ s hs (gX.refl _ _ _ _) (by first | omega | assumption) (by first | omega | assumption)
          · have hz_63 : ¬ (gp_L s (a_24 + 2) (Int.toNat x_29)) = 0#64 := fun q => h_60 ((gm_cmp0 _ _).mpr q)
            refine xp_refused _ hs (by omega) (fun x_64 s_65 hs_66 hf_67 p_68 => ⟨_, rfl, ?_⟩)
            have hf_69 : gX L true [2, 16, 17, 18, 19, 32, 33, 34, 35, 36, 37, 1806, 1807, 1808, 1809] s s_65 := gX.sub hf_67 rfl rfl
            have kt_70 : kT L s_65 a_24 n_25 := kt_27.fr hf_67.1
            have pd_71 : XS L s_65 := XS_fr q0 hf_67 rfl
            have z_72 : gp_sz s_65 = gp_sz s ∧ gp_us s_65 = gp_us s := hf_67.2.1 rfl
            refine s_2825_194 _ _ _ _ _ ?_
            exact k _ s_65 hs_66 hf_69 (by first | omega | assumption) (by first | omega | assumption)
        · refine xm_worth n_25 _ _ hs (by first | assumption | exact kT7 hs.1.1 | exact kT25 hs.1.1) (by first | omega | assumption) (fun x_74 s_75 hs_76 hf_77 => ⟨_, rfl, ?_⟩)
          have hf_78 : gX L true [2, 16, 17, 18, 19, 32, 33, 34, 35, 36, 37, 1806, 1807, 1808, 1809] s s_75 := gX.sub hf_77 rfl rfl
          have kt_79 : kT L s_75 a_24 n_25 := kt_27.fr hf_77.1
          have pd_80 : XS L s_75 := XS_fr q0 hf_77 rfl
          have z_81 : gp_sz s_75 = gp_sz s ∧ gp_us s_75 = gp_us s := hf_77.2.1 rfl
          exact k _ s_75 hs_76 hf_78 (by first | omega | assumption) (by first | omega | assumption)
        · refine xm_worth n_25 _ _ hs (by first | assumption | exact kT7 hs.1.1 | exact kT25 hs.1.1) (by first | omega | assumption) (fun x_82 s_83 hs_84 hf_85 => ⟨_, rfl, ?_⟩)
          have hf_86 : gX L true [2, 16, 17, 18, 19, 32, 33, 34, 35, 36, 37, 1806, 1807, 1808, 1809] s s_83 := gX.sub hf_85 rfl rfl
          have kt_87 : kT L s_83 a_24 n_25 := kt_27.fr hf_85.1
          have pd_88 : XS L s_83 := XS_fr q0 hf_85 rfl
          have z_89 : gp_sz s_83 = gp_sz s ∧ gp_us s_83 = gp_us s := hf_85.2.1 rfl
          exact k _ s_83 hs_84 hf_86 (by first | omega | assumption) (by first | omega | assumption)
        · refine xp_waited n_25 _ _ hs (by first | assumption | exact kT7 hs.1.1 | exact kT25 hs.1.1) (by first | omega | assumption) (fun x_90 s_91 hs_92 hf_93 p_94 p_95 => ⟨_, rfl, ?_⟩)
          have hf_96 : gX L true [2, 16, 17, 18, 19, 32, 33, 34, 35, 36, 37, 1806, 1807, 1808, 1809] s s_91 := gX.sub hf_93 rfl rfl
          have kt_97 : kT L s_91 a_24 n_25 := kt_27.fr hf_93.1
          have pd_98 : XS L s_91 := XS_fr q0 hf_93 rfl
          exact k _ s_91 hs_92 hf_96 (by first | omega | assumption) (by first | omega | assumption)
        · refine xp_waited n_25 _ _ hs (by first | assumption | exact kT7 hs.1.1 | exact kT25 hs.1.1) (by first | omega | assumption) (fun x_99 s_100 hs_101 hf_102 p_103 p_104 => ⟨_, rfl, ?_⟩)
          have hf_105 : gX L true [2, 16, 17, 18, 19, 32, 33, 34, 35, 36, 37, 1806, 1807, 1808, 1809] s s_100 := gX.sub hf_102 rfl rfl
          have kt_106 : kT L s_100 a_24 n_25 := kt_27.fr hf_102.1
          have pd_107 : XS L s_100 := XS_fr q0 hf_102 rfl
          exact k _ s_100 hs_101 hf_105 (by first | omega | assumption) (by first | omega | assumption)
        · refine xp_waited n_25 _ _ hs (by first | assumption | exact kT7 hs.1.1 | exact kT25 hs.1.1) (by first | omega | assumption) (fun x_108 s_109 hs_110 hf_111 p_112 p_113 => ⟨_, rfl, ?_⟩)
          have hf_114 : gX L true [2, 16, 17, 18, 19, 32, 33, 34, 35, 36, 37, 1806, 1807, 1808, 1809] s s_109 := gX.sub hf_111 rfl rfl
          have kt_115 : kT L s_109 a_24 n_25 := kt_27.fr hf_111.1
          have pd_116 : XS L s_109 := XS_fr q0 hf_111 rfl
          exact k _ s_109 hs_110 hf_114 (by first | omega | assumption) (by first | omega | assumption)
        · refine xp_waited n_25 _ _ hs (by first | assumption | exact kT7 hs.1.1 | exact kT25 hs.1.1) (by first | omega | assumption) (fun x_117 s_118 hs_119 hf_120 p_121 p_122 => ⟨_, rfl, ?_⟩)
          have hf_123 : gX L true [2, 16, 17, 18, 19, 32, 33, 34, 35, 36, 37, 1806, 1807, 1808, 1809] s s_118 := gX.sub hf_120 rfl rfl
          have kt_124 : kT L s_118 a_24 n_25 := kt_27.fr hf_120.1
          have pd_125 : XS L s_118 := XS_fr q0 hf_120 rfl
          exact k _ s_118 hs_119 hf_123 (by first | omega | assumption) (by first | omega | assumption)
        · refine xm_sure n_25 _ hs (by first | assumption | exact kT7 hs.1.1 | exact kT25 hs.1.1) (by first | omega | assumption) (fun x_126 s_127 hs_128 hf_129 p_130 => ⟨_, rfl, ?_⟩)
          have hf_131 : gX L true [2, 16, 17, 18, 19, 32, 33, 34, 35, 36, 37, 1806, 1807, 1808, 1809] s s_127 := gX.sub hf_129 rfl rfl
          have kt_132 : kT L s_127 a_24 n_25 := kt_27.fr hf_129.1
          have pd_133 : XS L s_127 := XS_fr q0 hf_129 rfl
          have z_134 : gp_sz s_127 = gp_sz s ∧ gp_us s_127 = gp_us s := hf_129.2.1 rfl
          refine ⟨fun h_135 => ?_, fun h_135 => ?_⟩
          · refine s_2825_231 _ _ _ _ _ ?_
            exact k _ s_127 hs_128 hf_131 (by first | omega | assumption) (by first | omega | assumption)
          · refine s_2825_231 _ _ _ _ _ ?_
            exact k _ s_127 hs_128 hf_131 (by first | omega | assumption) (by first | omega | assumption)
        · exfalso; omega
  · refine s_2825_17 _ _ _ _ ?_
    refine xp_refused _ hs (by omega) (fun x_138 s_139 hs_140 hf_141 p_142 => ⟨_, rfl, ?_⟩)
    have hf_143 : gX L true [2, 16, 17, 18, 19, 32, 33, 34, 35, 36, 37, 1806, 1807, 1808, 1809] s s_139 := gX.sub hf_141 rfl rfl
    have pd_144 : XS L s_139 := XS_fr q0 hf_141 rfl
    have z_145 : gp_sz s_139 = gp_sz s ∧ gp_us s_139 = gp_us s := hf_141.2.1 rfl
    exact k _ s_139 hs_140 hf_143 (by first | omega | assumption) (by first | omega | assumption)
set_option maxRecDepth 100000 in
/-- GatheredPoints.order -/
theorem xp_order  {L d : Nat} {K : Option gV → gH → Prop} {s : gH}  (p0 : Int) (p1 : Int) (hs : XI L 0 s) (h_p0 : (-2147483648) ≤ p0 ∧ p0 ≤ 2147483647) (h_p1 : (-2147483648) ≤ p1 ∧ p1 ≤ 2147483647) (q0 : XS L s) (k : ∀ (r : Int), ∀ (t : gH), XI L 0 t → gX L false [2, 23, 24] s t → K (some (gp_i r)) t) : gs_C L (d + 5) 2827 3 [gp_r (some 1), gp_i p0, gp_i p1] s K := by
  refine s_2827_e _ _ ?_
  refine xm_noSlot _ (by omega) (fun x_1 p_2 p_3 p_4 => ⟨_, rfl, ?_⟩)
  refine ⟨fun h_5 => ?_, fun h_5 => ?_⟩
  · refine xm_noSlot _ (by omega) (fun x_6 p_7 p_8 p_9 => ⟨_, rfl, ?_⟩)
    refine ⟨fun h_10 => ?_, fun h_10 => ?_⟩
    · refine ⟨by omega, ?_⟩
      obtain ⟨a_11, n_12, e_13, kt_14, hn_15⟩ := XS.get (q0) (Int.toNat p0) (by omega)
      have hn_a_11 := kt_14.n hs
      refine ⟨by omega, ?_⟩
      obtain ⟨a_16, n_17, e_18, kt_19, hn_20⟩ := XS.get (q0) (Int.toNat p1) (by omega)
      have hn_a_16 := kt_19.n hs
      rw [show gp_r (gp_R (gp_mk L s) 4 (Int.toNat p0)) = gp_r (some a_11) from congrArg gp_r e_13]
      rw [show gp_r (gp_R (gp_mk L s) 4 (Int.toNat p1)) = gp_r (some a_16) from congrArg gp_r e_18]
      refine xm_wayOf n_12 n_17 _ _ hs (by first | assumption | exact kT7 hs.1.1 | exact kT25 hs.1.1) (by first | omega | assumption) (by first | assumption | exact kT7 hs.1.1 | exact kT25 hs.1.1) (by first | omega | assumption) (fun x_21 s_22 hs_23 hf_24 p_25 => ⟨_, rfl, ?_⟩)
      have hf_26 : gX L false [2, 23, 24] s s_22 := gX.sub hf_24 rfl rfl
      have kt_27 : kT L s_22 a_11 n_12 := kt_14.fr hf_24.1
      have kt_28 : kT L s_22 a_16 n_17 := kt_19.fr hf_24.1
      have pd_29 : XS L s_22 := XS_fr q0 hf_24 rfl
      exact k _ s_22 hs_23 hf_26
    · refine s_2827_14 _ _ ?_
      refine xp_refused _ hs (by omega) (fun x_30 s_31 hs_32 hf_33 p_34 => ⟨_, rfl, ?_⟩)
      have hf_35 : gX L false [2, 23, 24] s s_31 := gX.sub hf_33 rfl rfl
      have pd_36 : XS L s_31 := XS_fr q0 hf_33 rfl
      exact k _ s_31 hs_32 hf_35
  · refine s_2827_14 _ _ ?_
    refine xp_refused _ hs (by omega) (fun x_37 s_38 hs_39 hf_40 p_41 => ⟨_, rfl, ?_⟩)
    have hf_42 : gX L false [2, 23, 24] s s_38 := gX.sub hf_40 rfl rfl
    have pd_43 : XS L s_38 := XS_fr q0 hf_40 rfl
    exact k _ s_38 hs_39 hf_42
set_option maxRecDepth 100000 in
/-- GatheredPoints.atLeast -/
theorem xp_atLeast  {L d : Nat} {K : Option gV → gH → Prop} {s : gH} (n_p0 n_p1 : Nat) (p0 : Nat) (p1 : Nat) (hs : XI L 0 s)  (q0 : kT L s p0 n_p0) (q1 : n_p0 ≤ 60) (q2 : kT L s p1 n_p1) (q3 : n_p1 ≤ 60) (k : ∀ (r : Int), ∀ (t : gH), XI L 0 t → gX L true [16, 17, 18, 19, 32, 33, 34, 35, 39, 40, 1806, 1807, 1808, 1809] s t → (0 ≤ r ∧ r ≤ 1) → (gp_sz t ≤ gp_sz s + 8) → (gp_us t ≤ gp_us s + 480) → K (some (gp_i r)) t) : gs_C L (d + 6) 2829 3 [gp_r (some 1), gp_r (some p0), gp_r (some p1)] s K := by
  have hn_p0 := q0.n hs
  have hn_p1 := q2.n hs
  refine s_2829_e _ _ ?_
  refine xm_bound n_p0 _ hs (by first | assumption | exact kT7 hs.1.1 | exact kT25 hs.1.1) (by first | omega | assumption) (fun s_1 hs_2 hf_3 p_4 p_5 p_6 => ⟨rfl, ?_⟩)
  have hf_7 : gX L true [16, 17, 18, 19, 32, 33, 34, 35, 39, 40, 1806, 1807, 1808, 1809] s s_1 := gX.sub hf_3 rfl rfl
  have kt_8 : kT L s_1 p0 n_p0 := q0.fr hf_3.1
  have kt_9 : kT L s_1 p1 n_p1 := q2.fr hf_3.1
  refine xm_bound n_p1 _ hs_2 (by first | assumption | exact kT7 hs_2.1.1 | exact kT25 hs_2.1.1) (by first | omega | assumption) (fun s_10 hs_11 hf_12 p_13 p_14 p_15 => ⟨rfl, ?_⟩)
  have hf_16 : gX L true [16, 17, 18, 19, 32, 33, 34, 35, 39, 40, 1806, 1807, 1808, 1809] s s_10 := gX.trans hf_7 hf_12 rfl rfl
  have kt_17 : kT L s_10 p0 n_p0 := kt_8.fr hf_12.1
  have kt_18 : kT L s_10 p1 n_p1 := kt_9.fr hf_12.1
  have kb_19 : kB L s_10 p0 := p_4.fr hf_12.1
  refine xm_relate38 n_p0 n_p1 _ _ hs_11 (by first | assumption | exact kT7 hs_11.1.1 | exact kT25 hs_11.1.1) (by first | omega | assumption) (by first | assumption | exact kT7 hs_11.1.1 | exact kT25 hs_11.1.1) (by first | omega | assumption) (by first | assumption | exact kB7 hs_11.1.1) (by first | assumption | exact kB7 hs_11.1.1) (fun x_20 s_21 hs_22 hf_23 p_24 => ⟨_, rfl, ?_⟩)
  have hf_25 : gX L true [16, 17, 18, 19, 32, 33, 34, 35, 39, 40, 1806, 1807, 1808, 1809] s s_21 := gX.trans hf_16 hf_23 rfl rfl
  have kt_26 : kT L s_21 p0 n_p0 := kt_17.fr hf_23.1
  have kt_27 : kT L s_21 p1 n_p1 := kt_18.fr hf_23.1
  have kb_28 : kB L s_21 p0 := kb_19.fr hf_23.1
  have kb_29 : kB L s_21 p1 := p_13.fr hf_23.1
  have z_30 : gp_sz s_21 = gp_sz s_10 ∧ gp_us s_21 = gp_us s_10 := hf_23.2.1 rfl
  refine ⟨by omega, ?_⟩
  exact k _ s_21 hs_22 hf_25 (by omega) (by first | omega | assumption) (by first | omega | assumption)
set_option maxRecDepth 100000 in
/-- GatheredPoints.compare -/
theorem xp_compare  {L d : Nat} {K : Option gV → gH → Prop} {s : gH}  (p0 : Int) (p1 : Int) (hs : XI L 0 s) (h_p0 : (-2147483648) ≤ p0 ∧ p0 ≤ 2147483647) (h_p1 : (-2147483648) ≤ p1 ∧ p1 ≤ 2147483647) (q0 : XS L s) (k : ∀ (r : Int), ∀ (t : gH), XI L 0 t → gX L true [2, 16, 17, 18, 19, 32, 33, 34, 35, 36, 37, 39, 40, 1806, 1807, 1808, 1809] s t → (gp_sz t ≤ gp_sz s + 16) → (gp_us t ≤ gp_us s + 960) → K (some (gp_i r)) t) : gs_C L (d + 7) 2828 4 [gp_r (some 1), gp_i p0, gp_i p1] s K := by
  refine s_2828_e _ _ ?_
  refine xm_noSlot _ (by omega) (fun x_1 p_2 p_3 p_4 => ⟨_, rfl, ?_⟩)
  refine ⟨fun h_5 => ?_, fun h_5 => ?_⟩
  · refine xm_noSlot _ (by omega) (fun x_6 p_7 p_8 p_9 => ⟨_, rfl, ?_⟩)
    refine ⟨fun h_10 => ?_, fun h_10 => ?_⟩
    · refine ⟨by omega, ?_⟩
      obtain ⟨a_11, n_12, e_13, kt_14, hn_15⟩ := XS.get (q0) (Int.toNat p0) (by omega)
      have hn_a_11 := kt_14.n hs
      rw [show gp_r (gp_R (gp_mk L s) 4 (Int.toNat p0)) = gp_r (some a_11) from congrArg gp_r e_13]
      refine xm_sure n_12 _ hs (by first | assumption | exact kT7 hs.1.1 | exact kT25 hs.1.1) (by first | omega | assumption) (fun x_16 s_17 hs_18 hf_19 p_20 => ⟨_, rfl, ?_⟩)
      have hf_21 : gX L true [2, 16, 17, 18, 19, 32, 33, 34, 35, 36, 37, 39, 40, 1806, 1807, 1808, 1809] s s_17 := gX.sub hf_19 rfl rfl
      have kt_22 : kT L s_17 a_11 n_12 := kt_14.fr hf_19.1
      have pd_23 : XS L s_17 := XS_fr q0 hf_19 rfl
      have z_24 : gp_sz s_17 = gp_sz s ∧ gp_us s_17 = gp_us s := hf_19.2.1 rfl
      refine ⟨fun h_25 => ?_, fun h_25 => ?_⟩
      · refine s_2828_52 _ _ _ ?_
        refine xp_refused _ hs_18 (by omega) (fun x_26 s_27 hs_28 hf_29 p_30 => ⟨_, rfl, ?_⟩)
        have hf_31 : gX L true [2, 16, 17, 18, 19, 32, 33, 34, 35, 36, 37, 39, 40, 1806, 1807, 1808, 1809] s s_27 := gX.trans hf_21 hf_29 rfl rfl
        have kt_32 : kT L s_27 a_11 n_12 := kt_22.fr hf_29.1
        have pd_33 : XS L s_27 := XS_fr pd_23 hf_29 rfl
        have z_34 : gp_sz s_27 = gp_sz s_17 ∧ gp_us s_27 = gp_us s_17 := hf_29.2.1 rfl
        exact k _ s_27 hs_28 hf_31 (by first | omega | assumption) (by first | omega | assumption)
      · refine ⟨by omega, ?_⟩
        obtain ⟨a_35, n_36, e_37, kt_38, hn_39⟩ := XS.get (pd_23) (Int.toNat p1) (by omega)
        have hn_a_35 := kt_38.n hs_18
        rw [show gp_r (gp_R (gp_mk L s_17) 4 (Int.toNat p1)) = gp_r (some a_35) from congrArg gp_r e_37]
        refine xm_sure n_36 _ hs_18 (by first | assumption | exact kT7 hs_18.1.1 | exact kT25 hs_18.1.1) (by first | omega | assumption) (fun x_40 s_41 hs_42 hf_43 p_44 => ⟨_, rfl, ?_⟩)
        have hf_45 : gX L true [2, 16, 17, 18, 19, 32, 33, 34, 35, 36, 37, 39, 40, 1806, 1807, 1808, 1809] s s_41 := gX.trans hf_21 hf_43 rfl rfl
        have kt_46 : kT L s_41 a_11 n_12 := kt_22.fr hf_43.1
        have kt_47 : kT L s_41 a_35 n_36 := kt_38.fr hf_43.1
        have pd_48 : XS L s_41 := XS_fr pd_23 hf_43 rfl
        have z_49 : gp_sz s_41 = gp_sz s_17 ∧ gp_us s_41 = gp_us s_17 := hf_43.2.1 rfl
        refine ⟨fun h_50 => ?_, fun h_50 => ?_⟩
        · refine s_2828_52 _ _ _ ?_
          refine xp_refused _ hs_42 (by omega) (fun x_51 s_52 hs_53 hf_54 p_55 => ⟨_, rfl, ?_⟩)
          have hf_56 : gX L true [2, 16, 17, 18, 19, 32, 33, 34, 35, 36, 37, 39, 40, 1806, 1807, 1808, 1809] s s_52 := gX.trans hf_45 hf_54 rfl rfl
          have kt_57 : kT L s_52 a_11 n_12 := kt_46.fr hf_54.1
          have kt_58 : kT L s_52 a_35 n_36 := kt_47.fr hf_54.1
          have pd_59 : XS L s_52 := XS_fr pd_48 hf_54 rfl
          have z_60 : gp_sz s_52 = gp_sz s_41 ∧ gp_us s_52 = gp_us s_41 := hf_54.2.1 rfl
          exact k _ s_52 hs_53 hf_56 (by first | omega | assumption) (by first | omega | assumption)
        · refine ⟨by omega, ?_⟩
          obtain ⟨a_61, n_62, e_63, kt_64, hn_65⟩ := XS.get (pd_48) (Int.toNat p0) (by omega)
          have hn_a_61 := kt_64.n hs_42
          refine ⟨by omega, ?_⟩
          obtain ⟨a_66, n_67, e_68, kt_69, hn_70⟩ := XS.get (pd_48) (Int.toNat p1) (by omega)
          have hn_a_66 := kt_69.n hs_42
          rw [show gp_r (gp_R (gp_mk L s_41) 4 (Int.toNat p0)) = gp_r (some a_61) from congrArg gp_r e_63]
          rw [show gp_r (gp_R (gp_mk L s_41) 4 (Int.toNat p1)) = gp_r (some a_66) from congrArg gp_r e_68]
          refine xp_atLeast n_62 n_67 _ _ hs_42 (by first | assumption | exact kT7 hs_42.1.1 | exact kT25 hs_42.1.1) (by first | omega | assumption) (by first | assumption | exact kT7 hs_42.1.1 | exact kT25 hs_42.1.1) (by first | omega | assumption) (fun x_71 s_72 hs_73 hf_74 p_75 p_76 p_77 => ⟨_, rfl, ?_⟩)
          have hf_78 : gX L true [2, 16, 17, 18, 19, 32, 33, 34, 35, 36, 37, 39, 40, 1806, 1807, 1808, 1809] s s_72 := gX.trans hf_45 hf_74 rfl rfl
          have kt_79 : kT L s_72 a_11 n_12 := kt_46.fr hf_74.1
          have kt_80 : kT L s_72 a_35 n_36 := kt_47.fr hf_74.1
          have kt_81 : kT L s_72 a_61 n_62 := kt_64.fr hf_74.1
          have kt_82 : kT L s_72 a_66 n_67 := kt_69.fr hf_74.1
          have pd_83 : XS L s_72 := XS_fr pd_48 hf_74 rfl
          refine ⟨fun h_84 => ?_, fun h_84 => ?_⟩
          · refine s_2828_82 _ _ _ _ ?_
            refine ⟨by omega, ?_⟩
            obtain ⟨a_85, n_86, e_87, kt_88, hn_89⟩ := XS.get (pd_83) (Int.toNat p1) (by omega)
            have hn_a_85 := kt_88.n hs_73
            refine ⟨by omega, ?_⟩
            obtain ⟨a_90, n_91, e_92, kt_93, hn_94⟩ := XS.get (pd_83) (Int.toNat p0) (by omega)
            have hn_a_90 := kt_93.n hs_73
            rw [show gp_r (gp_R (gp_mk L s_72) 4 (Int.toNat p1)) = gp_r (some a_85) from congrArg gp_r e_87]
            rw [show gp_r (gp_R (gp_mk L s_72) 4 (Int.toNat p0)) = gp_r (some a_90) from congrArg gp_r e_92]
            refine xp_atLeast n_86 n_91 _ _ hs_73 (by first | assumption | exact kT7 hs_73.1.1 | exact kT25 hs_73.1.1) (by first | omega | assumption) (by first | assumption | exact kT7 hs_73.1.1 | exact kT25 hs_73.1.1) (by first | omega | assumption) (fun x_95 s_96 hs_97 hf_98 p_99 p_100 p_101 => ⟨_, rfl, ?_⟩)
            have hf_102 : gX L true [2, 16, 17, 18, 19, 32, 33, 34, 35, 36, 37, 39, 40, 1806, 1807, 1808, 1809] s s_96 := gX.trans hf_78 hf_98 rfl rfl
            have kt_103 : kT L s_96 a_11 n_12 := kt_79.fr hf_98.1
            have kt_104 : kT L s_96 a_35 n_36 := kt_80.fr hf_98.1
            have kt_105 : kT L s_96 a_61 n_62 := kt_81.fr hf_98.1
            have kt_106 : kT L s_96 a_66 n_67 := kt_82.fr hf_98.1
            have kt_107 : kT L s_96 a_85 n_86 := kt_88.fr hf_98.1
            have kt_108 : kT L s_96 a_90 n_91 := kt_93.fr hf_98.1
            have pd_109 : XS L s_96 := XS_fr pd_83 hf_98 rfl
            refine ⟨fun h_110 => ?_, fun h_110 => ?_⟩
            · refine s_2828_109 _ _ _ _ ?_
              exact k _ s_96 hs_97 hf_102 (by first | omega | assumption) (by first | omega | assumption)
            · try rw [show gp_wr (0 + 2) = 0 + 2 from gp_wr_id (by omega) (by omega)]
              refine s_2828_109 _ _ _ _ ?_
              exact k _ s_96 hs_97 hf_102 (by first | omega | assumption) (by first | omega | assumption)
          · refine s_2828_82 _ _ _ _ ?_
            refine ⟨by omega, ?_⟩
            obtain ⟨a_111, n_112, e_113, kt_114, hn_115⟩ := XS.get (pd_83) (Int.toNat p1) (by omega)
            have hn_a_111 := kt_114.n hs_73
            refine ⟨by omega, ?_⟩
            obtain ⟨a_116, n_117, e_118, kt_119, hn_120⟩ := XS.get (pd_83) (Int.toNat p0) (by omega)
            have hn_a_116 := kt_119.n hs_73
            rw [show gp_r (gp_R (gp_mk L s_72) 4 (Int.toNat p1)) = gp_r (some a_111) from congrArg gp_r e_113]
            rw [show gp_r (gp_R (gp_mk L s_72) 4 (Int.toNat p0)) = gp_r (some a_116) from congrArg gp_r e_118]
            refine xp_atLeast n_112 n_117 _ _ hs_73 (by first | assumption | exact kT7 hs_73.1.1 | exact kT25 hs_73.1.1) (by first | omega | assumption) (by first | assumption | exact kT7 hs_73.1.1 | exact kT25 hs_73.1.1) (by first | omega | assumption) (fun x_121 s_122 hs_123 hf_124 p_125 p_126 p_127 => ⟨_, rfl, ?_⟩)
            have hf_128 : gX L true [2, 16, 17, 18, 19, 32, 33, 34, 35, 36, 37, 39, 40, 1806, 1807, 1808, 1809] s s_122 := gX.trans hf_78 hf_124 rfl rfl
            have kt_129 : kT L s_122 a_11 n_12 := kt_79.fr hf_124.1
            have kt_130 : kT L s_122 a_35 n_36 := kt_80.fr hf_124.1
            have kt_131 : kT L s_122 a_61 n_62 := kt_81.fr hf_124.1
            have kt_132 : kT L s_122 a_66 n_67 := kt_82.fr hf_124.1
            have kt_133 : kT L s_122 a_111 n_112 := kt_114.fr hf_124.1
            have kt_134 : kT L s_122 a_116 n_117 := kt_119.fr hf_124.1
            have pd_135 : XS L s_122 := XS_fr pd_83 hf_124 rfl
            refine ⟨fun h_136 => ?_, fun h_136 => ?_⟩
            · refine s_2828_109 _ _ _ _ ?_
              exact k _ s_122 hs_123 hf_128 (by first | omega | assumption) (by first | omega | assumption)
            · try rw [show gp_wr (1 + 2) = 1 + 2 from gp_wr_id (by omega) (by omega)]
              refine s_2828_109 _ _ _ _ ?_
              exact k _ s_122 hs_123 hf_128 (by first | omega | assumption) (by first | omega | assumption)
    · refine s_2828_14 _ _ _ ?_
      refine xp_refused _ hs (by omega) (fun x_137 s_138 hs_139 hf_140 p_141 => ⟨_, rfl, ?_⟩)
      have hf_142 : gX L true [2, 16, 17, 18, 19, 32, 33, 34, 35, 36, 37, 39, 40, 1806, 1807, 1808, 1809] s s_138 := gX.sub hf_140 rfl rfl
      have pd_143 : XS L s_138 := XS_fr q0 hf_140 rfl
      have z_144 : gp_sz s_138 = gp_sz s ∧ gp_us s_138 = gp_us s := hf_140.2.1 rfl
      exact k _ s_138 hs_139 hf_142 (by first | omega | assumption) (by first | omega | assumption)
  · refine s_2828_14 _ _ _ ?_
    refine xp_refused _ hs (by omega) (fun x_145 s_146 hs_147 hf_148 p_149 => ⟨_, rfl, ?_⟩)
    have hf_150 : gX L true [2, 16, 17, 18, 19, 32, 33, 34, 35, 36, 37, 39, 40, 1806, 1807, 1808, 1809] s s_146 := gX.sub hf_148 rfl rfl
    have pd_151 : XS L s_146 := XS_fr q0 hf_148 rfl
    have z_152 : gp_sz s_146 = gp_sz s ∧ gp_us s_146 = gp_us s := hf_148.2.1 rfl
    exact k _ s_146 hs_147 hf_150 (by first | omega | assumption) (by first | omega | assumption)
set_option maxRecDepth 100000 in
/-- GatheredPoints.answer -/
theorem xp_answer  {L d : Nat} {K : Option gV → gH → Prop} {s : gH}  (p0 : Int) (p1 : Int) (p2 : Int) (p3 : Int) (hs : XI L 0 s) (h_p0 : (-2147483648) ≤ p0 ∧ p0 ≤ 2147483647) (h_p1 : (-2147483648) ≤ p1 ∧ p1 ≤ 2147483647) (h_p2 : (-2147483648) ≤ p2 ∧ p2 ≤ 2147483647) (h_p3 : (-2147483648) ≤ p3 ∧ p3 ≤ 2147483647) (q0 : XS L s) (k : ∀ (r : Int), ∀ (t : gH), XI L 0 t → gX L true [2, 16, 17, 18, 19, 32, 33, 34, 35, 36, 37, 39, 40, 1806, 1807, 1808, 1809] s t → (gp_sz t ≤ gp_sz s + 8) → (gp_us t ≤ gp_us s + 480) → K (some (gp_i r)) t) : gs_C L (d + 7) 2830 11 [gp_r (some 1), gp_i p0, gp_i p1, gp_i p2, gp_i p3] s K := by
  refine s_2830_e _ _ _ _ ?_
  refine xm_noSlot _ (by omega) (fun x_1 p_2 p_3 p_4 => ⟨_, rfl, ?_⟩)
  refine ⟨fun h_5 => ?_, fun h_5 => ?_⟩
  · refine xm_noSlot _ (by omega) (fun x_6 p_7 p_8 p_9 => ⟨_, rfl, ?_⟩)
    refine ⟨fun h_10 => ?_, fun h_10 => ?_⟩
    · refine xm_noSide _ (by omega) (fun x_11 p_12 p_13 p_14 => ⟨_, rfl, ?_⟩)
      refine ⟨fun h_15 => ?_, fun h_15 => ?_⟩
      · refine ⟨by omega, ?_⟩
        obtain ⟨a_16, n_17, e_18, kt_19, hn_20⟩ := XS.get (q0) (Int.toNat p0) (by omega)
        have hn_a_16 := kt_19.n hs
        refine ⟨by omega, ?_⟩
        obtain ⟨a_21, n_22, e_23, kt_24, hn_25⟩ := XS.get (q0) (Int.toNat p1) (by omega)
        have hn_a_21 := kt_24.n hs
        rw [show gp_r (gp_R (gp_mk L s) 4 (Int.toNat p0)) = gp_r (some a_16) from congrArg gp_r e_18]
        refine xm_sure n_17 _ hs (by first | assumption | exact kT7 hs.1.1 | exact kT25 hs.1.1) (by first | omega | assumption) (fun x_26 s_27 hs_28 hf_29 p_30 => ⟨_, rfl, ?_⟩)
        have hf_31 : gX L true [2, 16, 17, 18, 19, 32, 33, 34, 35, 36, 37, 39, 40, 1806, 1807, 1808, 1809] s s_27 := gX.sub hf_29 rfl rfl
        have kt_32 : kT L s_27 a_16 n_17 := kt_19.fr hf_29.1
        have kt_33 : kT L s_27 a_21 n_22 := kt_24.fr hf_29.1
        have pd_34 : XS L s_27 := XS_fr q0 hf_29 rfl
        have z_35 : gp_sz s_27 = gp_sz s ∧ gp_us s_27 = gp_us s := hf_29.2.1 rfl
        refine ⟨fun h_36 => ?_, fun h_36 => ?_⟩
        · refine s_2830_67 _ _ _ _ _ _ _ _ _ _ ?_
          refine xp_refused _ hs_28 (by omega) (fun x_39 s_40 hs_41 hf_42 p_43 => ⟨_, rfl, ?_⟩)
          have hf_44 : gX L true [2, 16, 17, 18, 19, 32, 33, 34, 35, 36, 37, 39, 40, 1806, 1807, 1808, 1809] s s_40 := gX.trans hf_31 hf_42 rfl rfl
          have kt_45 : kT L s_40 a_16 n_17 := kt_32.fr hf_42.1
          have kt_46 : kT L s_40 a_21 n_22 := kt_33.fr hf_42.1
          have pd_47 : XS L s_40 := XS_fr pd_34 hf_42 rfl
          have z_48 : gp_sz s_40 = gp_sz s_27 ∧ gp_us s_40 = gp_us s_27 := hf_42.2.1 rfl
          exact k _ s_40 hs_41 hf_44 (by first | omega | assumption) (by first | omega | assumption)
        · rw [show gp_r (gp_R (gp_mk L s) 4 (Int.toNat p1)) = gp_r (some a_21) from congrArg gp_r e_23]
          refine xm_sure n_22 _ hs_28 (by first | assumption | exact kT7 hs_28.1.1 | exact kT25 hs_28.1.1) (by first | omega | assumption) (fun x_49 s_50 hs_51 hf_52 p_53 => ⟨_, rfl, ?_⟩)
          have hf_54 : gX L true [2, 16, 17, 18, 19, 32, 33, 34, 35, 36, 37, 39, 40, 1806, 1807, 1808, 1809] s s_50 := gX.trans hf_31 hf_52 rfl rfl
          have kt_55 : kT L s_50 a_16 n_17 := kt_32.fr hf_52.1
          have kt_56 : kT L s_50 a_21 n_22 := kt_33.fr hf_52.1
          have pd_57 : XS L s_50 := XS_fr pd_34 hf_52 rfl
          have z_58 : gp_sz s_50 = gp_sz s_27 ∧ gp_us s_50 = gp_us s_27 := hf_52.2.1 rfl
          refine ⟨fun h_59 => ?_, fun h_59 => ?_⟩
          · refine s_2830_67 _ _ _ _ _ _ _ _ _ _ ?_
            refine xp_refused _ hs_51 (by omega) (fun x_62 s_63 hs_64 hf_65 p_66 => ⟨_, rfl, ?_⟩)
            have hf_67 : gX L true [2, 16, 17, 18, 19, 32, 33, 34, 35, 36, 37, 39, 40, 1806, 1807, 1808, 1809] s s_63 := gX.trans hf_54 hf_65 rfl rfl
            have kt_68 : kT L s_63 a_16 n_17 := kt_55.fr hf_65.1
            have kt_69 : kT L s_63 a_21 n_22 := kt_56.fr hf_65.1
            have pd_70 : XS L s_63 := XS_fr pd_57 hf_65 rfl
            have z_71 : gp_sz s_63 = gp_sz s_50 ∧ gp_us s_63 = gp_us s_50 := hf_65.2.1 rfl
            exact k _ s_63 hs_64 hf_67 (by first | omega | assumption) (by first | omega | assumption)
          · refine xp_atLeast n_17 n_22 _ _ hs_51 (by first | assumption | exact kT7 hs_51.1.1 | exact kT25 hs_51.1.1) (by first | omega | assumption) (by first | assumption | exact kT7 hs_51.1.1 | exact kT25 hs_51.1.1) (by first | omega | assumption) (fun x_72 s_73 hs_74 hf_75 p_76 p_77 p_78 => ⟨_, rfl, ?_⟩)
            have hf_79 : gX L true [2, 16, 17, 18, 19, 32, 33, 34, 35, 36, 37, 39, 40, 1806, 1807, 1808, 1809] s s_73 := gX.trans hf_54 hf_75 rfl rfl
            have kt_80 : kT L s_73 a_16 n_17 := kt_55.fr hf_75.1
            have kt_81 : kT L s_73 a_21 n_22 := kt_56.fr hf_75.1
            have pd_82 : XS L s_73 := XS_fr pd_57 hf_75 rfl
            refine ⟨fun h_83 => ?_, fun h_83 => ?_⟩
            · refine xp_refused _ hs_74 (by omega) (fun x_84 s_85 hs_86 hf_87 p_88 => ⟨_, rfl, ?_⟩)
              have hf_89 : gX L true [2, 16, 17, 18, 19, 32, 33, 34, 35, 36, 37, 39, 40, 1806, 1807, 1808, 1809] s s_85 := gX.trans hf_79 hf_87 rfl rfl
              have kt_90 : kT L s_85 a_16 n_17 := kt_80.fr hf_87.1
              have kt_91 : kT L s_85 a_21 n_22 := kt_81.fr hf_87.1
              have pd_92 : XS L s_85 := XS_fr pd_82 hf_87 rfl
              have z_93 : gp_sz s_85 = gp_sz s_73 ∧ gp_us s_85 = gp_us s_73 := hf_87.2.1 rfl
              exact k _ s_85 hs_86 hf_89 (by first | omega | assumption) (by first | omega | assumption)
            · refine ⟨fun h_94 => ?_, fun h_94 => ?_⟩
              · refine s_2830_101 _ _ _ _ _ _ _ _ _ _ _ ?_
                refine ⟨a_21, rfl, ?_⟩
                refine ⟨kt_81.2.1, ?_⟩
                refine xm_root n_22 _ hs_74 (by first | assumption | exact kT7 hs_74.1.1 | exact kT25 hs_74.1.1) (fun x_98 p_99 p_100 => ⟨_, rfl, ?_⟩)
                refine ⟨kt_81.2.1, ?_⟩
                refine xm_options n_22 _ _ _ hs_74 (by omega) (by first | assumption | exact kT7 hs_74.1.1 | exact kT25 hs_74.1.1) (by first | omega | assumption) (fun m_101 p_102 p_103 => ⟨_, rfl, ?_⟩)
                have hbo := p_102
                refine ⟨fun h_104 => ?_, fun h_104 => ?_⟩
                · refine s_2830_131 _ _ _ _ _ _ _ _ _ ?_
                  refine xp_refused _ hs_74 (by omega) (fun x_108 s_109 hs_110 hf_111 p_112 => ⟨_, rfl, ?_⟩)
                  have hf_113 : gX L true [2, 16, 17, 18, 19, 32, 33, 34, 35, 36, 37, 39, 40, 1806, 1807, 1808, 1809] s s_109 := gX.trans hf_79 hf_111 rfl rfl
                  have kt_114 : kT L s_109 a_16 n_17 := kt_80.fr hf_111.1
                  have kt_115 : kT L s_109 a_21 n_22 := kt_81.fr hf_111.1
                  have pd_116 : XS L s_109 := XS_fr pd_82 hf_111 rfl
                  have z_117 : gp_sz s_109 = gp_sz s_73 ∧ gp_us s_109 = gp_us s_73 := hf_111.2.1 rfl
                  exact k _ s_109 hs_110 hf_113 (by first | omega | assumption) (by first | omega | assumption)
                · refine xm_bc _ (fun x_118 p_119 p_120 => ⟨_, rfl, ?_⟩)
                  refine ⟨fun h_121 => ?_, fun h_121 => ?_⟩
                  · refine xm_pick _ _ (by omega) (fun x_122 p_123 p_124 => ⟨_, rfl, ?_⟩)
                    have hpk := p_124 (by omega)
                    have hlt := hbo _ hpk.2
                    refine ⟨fun h_125 => ?_, fun h_125 => ?_⟩
                    · refine xm_leftAnswer38 n_17 n_22 _ _ _ hs_74 (by omega) (by first | assumption | exact kT7 hs_74.1.1 | exact kT25 hs_74.1.1) (by first | omega | assumption) (by first | assumption | exact kT7 hs_74.1.1 | exact kT25 hs_74.1.1) (by first | omega | assumption) (by first | omega | assumption) (fun x_126 p_127 => ⟨_, rfl, ?_⟩)
                      refine s_2830_179 _ _ _ _ _ _ _ _ _ _ ?_
                      exact k _ s_73 hs_74 hf_79 (by first | omega | assumption) (by first | omega | assumption)
                    · exfalso; omega
                  · refine s_2830_131 _ _ _ _ _ _ _ _ _ ?_
                    refine xp_refused _ hs_74 (by omega) (fun x_134 s_135 hs_136 hf_137 p_138 => ⟨_, rfl, ?_⟩)
                    have hf_139 : gX L true [2, 16, 17, 18, 19, 32, 33, 34, 35, 36, 37, 39, 40, 1806, 1807, 1808, 1809] s s_135 := gX.trans hf_79 hf_137 rfl rfl
                    have kt_140 : kT L s_135 a_16 n_17 := kt_80.fr hf_137.1
                    have kt_141 : kT L s_135 a_21 n_22 := kt_81.fr hf_137.1
                    have pd_142 : XS L s_135 := XS_fr pd_82 hf_137 rfl
                    have z_143 : gp_sz s_135 = gp_sz s_73 ∧ gp_us s_135 = gp_us s_73 := hf_137.2.1 rfl
                    exact k _ s_135 hs_136 hf_139 (by first | omega | assumption) (by first | omega | assumption)
              · refine s_2830_101 _ _ _ _ _ _ _ _ _ _ _ ?_
                refine ⟨a_16, rfl, ?_⟩
                refine ⟨kt_80.2.1, ?_⟩
                refine xm_root n_17 _ hs_74 (by first | assumption | exact kT7 hs_74.1.1 | exact kT25 hs_74.1.1) (fun x_147 p_148 p_149 => ⟨_, rfl, ?_⟩)
                refine ⟨kt_80.2.1, ?_⟩
                refine xm_options n_17 _ _ _ hs_74 (by omega) (by first | assumption | exact kT7 hs_74.1.1 | exact kT25 hs_74.1.1) (by first | omega | assumption) (fun m_150 p_151 p_152 => ⟨_, rfl, ?_⟩)
                have hbo := p_151
                refine ⟨fun h_153 => ?_, fun h_153 => ?_⟩
                · refine s_2830_131 _ _ _ _ _ _ _ _ _ ?_
                  refine xp_refused _ hs_74 (by omega) (fun x_157 s_158 hs_159 hf_160 p_161 => ⟨_, rfl, ?_⟩)
                  have hf_162 : gX L true [2, 16, 17, 18, 19, 32, 33, 34, 35, 36, 37, 39, 40, 1806, 1807, 1808, 1809] s s_158 := gX.trans hf_79 hf_160 rfl rfl
                  have kt_163 : kT L s_158 a_16 n_17 := kt_80.fr hf_160.1
                  have kt_164 : kT L s_158 a_21 n_22 := kt_81.fr hf_160.1
                  have pd_165 : XS L s_158 := XS_fr pd_82 hf_160 rfl
                  have z_166 : gp_sz s_158 = gp_sz s_73 ∧ gp_us s_158 = gp_us s_73 := hf_160.2.1 rfl
                  exact k _ s_158 hs_159 hf_162 (by first | omega | assumption) (by first | omega | assumption)
                · refine xm_bc _ (fun x_167 p_168 p_169 => ⟨_, rfl, ?_⟩)
                  refine ⟨fun h_170 => ?_, fun h_170 => ?_⟩
                  · refine xm_pick _ _ (by omega) (fun x_171 p_172 p_173 => ⟨_, rfl, ?_⟩)
                    have hpk := p_173 (by omega)
                    have hlt := hbo _ hpk.2
                    refine ⟨fun h_174 => ?_, fun h_174 => ?_⟩
                    · exfalso; omega
                    · refine xm_rightAnswer38 n_17 n_22 _ _ _ hs_74 (by omega) (by first | assumption | exact kT7 hs_74.1.1 | exact kT25 hs_74.1.1) (by first | omega | assumption) (by first | assumption | exact kT7 hs_74.1.1 | exact kT25 hs_74.1.1) (by first | omega | assumption) (by first | omega | assumption) (fun x_175 p_176 => ⟨_, rfl, ?_⟩)
                      refine s_2830_179 _ _ _ _ _ _ _ _ _ _ ?_
                      exact k _ s_73 hs_74 hf_79 (by first | omega | assumption) (by first | omega | assumption)
                  · refine s_2830_131 _ _ _ _ _ _ _ _ _ ?_
                    refine xp_refused _ hs_74 (by omega) (fun x_183 s_184 hs_185 hf_186 p_187 => ⟨_, rfl, ?_⟩)
                    have hf_188 : gX L true [2, 16, 17, 18, 19, 32, 33, 34, 35, 36, 37, 39, 40, 1806, 1807, 1808, 1809] s s_184 := gX.trans hf_79 hf_186 rfl rfl
                    have kt_189 : kT L s_184 a_16 n_17 := kt_80.fr hf_186.1
                    have kt_190 : kT L s_184 a_21 n_22 := kt_81.fr hf_186.1
                    have pd_191 : XS L s_184 := XS_fr pd_82 hf_186 rfl
                    have z_192 : gp_sz s_184 = gp_sz s_73 ∧ gp_us s_184 = gp_us s_73 := hf_186.2.1 rfl
                    exact k _ s_184 hs_185 hf_188 (by first | omega | assumption) (by first | omega | assumption)
      · refine s_2830_21 _ _ _ _ _ _ _ _ _ _ ?_
        refine xp_refused _ hs (by omega) (fun x_193 s_194 hs_195 hf_196 p_197 => ⟨_, rfl, ?_⟩)
        have hf_198 : gX L true [2, 16, 17, 18, 19, 32, 33, 34, 35, 36, 37, 39, 40, 1806, 1807, 1808, 1809] s s_194 := gX.sub hf_196 rfl rfl
        have pd_199 : XS L s_194 := XS_fr q0 hf_196 rfl
        have z_200 : gp_sz s_194 = gp_sz s ∧ gp_us s_194 = gp_us s := hf_196.2.1 rfl
        exact k _ s_194 hs_195 hf_198 (by first | omega | assumption) (by first | omega | assumption)
    · refine s_2830_21 _ _ _ _ _ _ _ _ _ _ ?_
      refine xp_refused _ hs (by omega) (fun x_201 s_202 hs_203 hf_204 p_205 => ⟨_, rfl, ?_⟩)
      have hf_206 : gX L true [2, 16, 17, 18, 19, 32, 33, 34, 35, 36, 37, 39, 40, 1806, 1807, 1808, 1809] s s_202 := gX.sub hf_204 rfl rfl
      have pd_207 : XS L s_202 := XS_fr q0 hf_204 rfl
      have z_208 : gp_sz s_202 = gp_sz s ∧ gp_us s_202 = gp_us s := hf_204.2.1 rfl
      exact k _ s_202 hs_203 hf_206 (by first | omega | assumption) (by first | omega | assumption)
  · refine s_2830_21 _ _ _ _ _ _ _ _ _ _ ?_
    refine xp_refused _ hs (by omega) (fun x_209 s_210 hs_211 hf_212 p_213 => ⟨_, rfl, ?_⟩)
    have hf_214 : gX L true [2, 16, 17, 18, 19, 32, 33, 34, 35, 36, 37, 39, 40, 1806, 1807, 1808, 1809] s s_210 := gX.sub hf_212 rfl rfl
    have pd_215 : XS L s_210 := XS_fr q0 hf_212 rfl
    have z_216 : gp_sz s_210 = gp_sz s ∧ gp_us s_210 = gp_us s := hf_212.2.1 rfl
    exact k _ s_210 hs_211 hf_214 (by first | omega | assumption) (by first | omega | assumption)
set_option maxRecDepth 100000 in
/-- GatheredPoints.reduce -/
theorem xp_reduce  {L d : Nat} {K : Option gV → gH → Prop} {s : gH}  (p0 : Int) (p1 : Int) (hs : XI L 0 s) (h_p0 : (-2147483648) ≤ p0 ∧ p0 ≤ 2147483647) (h_p1 : (-2147483648) ≤ p1 ∧ p1 ≤ 2147483647) (q0 : XS L s) (k : ∀ (r : Int), ∀ (t : gH), XI L 0 t → gX L true [2, 4, 8, 9, 10, 11, 12, 13, 14, 15, 16, 17, 18, 19, 32, 33, 34, 35, 36, 37, 43, 44, 45, 1196, 2316, 2317] s t → (XS L t) → (gp_sz t ≤ gp_sz s + 6) → (gp_us t ≤ gp_us s + 310) → K (some (gp_i r)) t) : gs_C L (d + 6) 2831 3 [gp_r (some 1), gp_i p0, gp_i p1] s K := by
  refine s_2831_e _ _ ?_
  refine xm_noSlot _ (by omega) (fun x_1 p_2 p_3 p_4 => ⟨_, rfl, ?_⟩)
  refine ⟨fun h_5 => ?_, fun h_5 => ?_⟩
  · refine xm_noSlot _ (by omega) (fun x_6 p_7 p_8 p_9 => ⟨_, rfl, ?_⟩)
    refine ⟨fun h_10 => ?_, fun h_10 => ?_⟩
    · refine ⟨by omega, ?_⟩
      obtain ⟨a_11, n_12, e_13, kt_14, hn_15⟩ := XS.get (q0) (Int.toNat p0) (by omega)
      have hn_a_11 := kt_14.n hs
      rw [show gp_r (gp_R (gp_mk L s) 4 (Int.toNat p0)) = gp_r (some a_11) from congrArg gp_r e_13]
      refine xm_sure n_12 _ hs (by first | assumption | exact kT7 hs.1.1 | exact kT25 hs.1.1) (by first | omega | assumption) (fun x_16 s_17 hs_18 hf_19 p_20 => ⟨_, rfl, ?_⟩)
      have hf_21 : gX L true [2, 4, 8, 9, 10, 11, 12, 13, 14, 15, 16, 17, 18, 19, 32, 33, 34, 35, 36, 37, 43, 44, 45, 1196, 2316, 2317] s s_17 := gX.sub hf_19 rfl rfl
      have kt_22 : kT L s_17 a_11 n_12 := kt_14.fr hf_19.1
      have pd_23 : XS L s_17 := XS_fr q0 hf_19 rfl
      have z_24 : gp_sz s_17 = gp_sz s ∧ gp_us s_17 = gp_us s := hf_19.2.1 rfl
      refine ⟨fun h_25 => ?_, fun h_25 => ?_⟩
      · refine xp_refused _ hs_18 (by omega) (fun x_26 s_27 hs_28 hf_29 p_30 => ⟨_, rfl, ?_⟩)
        have hf_31 : gX L true [2, 4, 8, 9, 10, 11, 12, 13, 14, 15, 16, 17, 18, 19, 32, 33, 34, 35, 36, 37, 43, 44, 45, 1196, 2316, 2317] s s_27 := gX.trans hf_21 hf_29 rfl rfl
        have kt_32 : kT L s_27 a_11 n_12 := kt_22.fr hf_29.1
        have pd_33 : XS L s_27 := XS_fr pd_23 hf_29 rfl
        have z_34 : gp_sz s_27 = gp_sz s_17 ∧ gp_us s_27 = gp_us s_17 := hf_29.2.1 rfl
        exact k _ s_27 hs_28 hf_31 (pd_33) (by first | omega | assumption) (by first | omega | assumption)
      · refine ⟨by omega, ?_⟩
        obtain ⟨a_35, n_36, e_37, kt_38, hn_39⟩ := XS.get (pd_23) (Int.toNat p0) (by omega)
        have hn_a_35 := kt_38.n hs_18
        rw [show gp_r (gp_R (gp_mk L s_17) 4 (Int.toNat p0)) = gp_r (some a_35) from congrArg gp_r e_37]
        refine xm_reduced n_36 _ hs_18 (by first | assumption | exact kT7 hs_18.1.1 | exact kT25 hs_18.1.1) (by first | omega | assumption) (fun o_40 s_41 hs_42 hf_43 p_44 p_45 p_46 => ⟨_, rfl, ?_⟩)
        have hf_47 : gX L true [2, 4, 8, 9, 10, 11, 12, 13, 14, 15, 16, 17, 18, 19, 32, 33, 34, 35, 36, 37, 43, 44, 45, 1196, 2316, 2317] s s_41 := gX.trans hf_21 hf_43 rfl rfl
        have kt_48 : kT L s_41 a_11 n_12 := kt_22.fr hf_43.1
        have kt_49 : kT L s_41 a_35 n_36 := kt_38.fr hf_43.1
        have pd_50 : XS L s_41 := XS_fr pd_23 hf_43 rfl
        obtain ⟨a_51, n_52, rfl, kt_53, hn_54⟩ := p_44
        have hn_a_51 := kt_53.n hs_42
        refine xp_hold n_52 _ _ hs_42 (by omega) (by first | assumption | exact kT7 hs_42.1.1 | exact kT25 hs_42.1.1) (by first | omega | assumption) (pd_50) (fun x_55 s_56 hs_57 hf_58 p_59 p_60 => ⟨_, rfl, ?_⟩)
        have hf_61 : gX L true [2, 4, 8, 9, 10, 11, 12, 13, 14, 15, 16, 17, 18, 19, 32, 33, 34, 35, 36, 37, 43, 44, 45, 1196, 2316, 2317] s s_56 := gX.trans hf_47 hf_58 rfl rfl
        have kt_62 : kT L s_56 a_11 n_12 := kt_48.fr hf_58.1
        have kt_63 : kT L s_56 a_35 n_36 := kt_49.fr hf_58.1
        have kt_64 : kT L s_56 a_51 n_52 := kt_53.fr hf_58.1
        have z_65 : gp_sz s_56 = gp_sz s_41 ∧ gp_us s_56 = gp_us s_41 := hf_58.2.1 rfl
        exact k _ s_56 hs_57 hf_61 (p_60) (by first | omega | assumption) (by first | omega | assumption)
    · refine s_2831_14 _ _ ?_
      refine xp_refused _ hs (by omega) (fun x_66 s_67 hs_68 hf_69 p_70 => ⟨_, rfl, ?_⟩)
      have hf_71 : gX L true [2, 4, 8, 9, 10, 11, 12, 13, 14, 15, 16, 17, 18, 19, 32, 33, 34, 35, 36, 37, 43, 44, 45, 1196, 2316, 2317] s s_67 := gX.sub hf_69 rfl rfl
      have pd_72 : XS L s_67 := XS_fr q0 hf_69 rfl
      have z_73 : gp_sz s_67 = gp_sz s ∧ gp_us s_67 = gp_us s := hf_69.2.1 rfl
      exact k _ s_67 hs_68 hf_71 (pd_72) (by first | omega | assumption) (by first | omega | assumption)
  · refine s_2831_14 _ _ ?_
    refine xp_refused _ hs (by omega) (fun x_74 s_75 hs_76 hf_77 p_78 => ⟨_, rfl, ?_⟩)
    have hf_79 : gX L true [2, 4, 8, 9, 10, 11, 12, 13, 14, 15, 16, 17, 18, 19, 32, 33, 34, 35, 36, 37, 43, 44, 45, 1196, 2316, 2317] s s_75 := gX.sub hf_77 rfl rfl
    have pd_80 : XS L s_75 := XS_fr q0 hf_77 rfl
    have z_81 : gp_sz s_75 = gp_sz s ∧ gp_us s_75 = gp_us s := hf_77.2.1 rfl
    exact k _ s_75 hs_76 hf_79 (pd_80) (by first | omega | assumption) (by first | omega | assumption)
set_option maxRecDepth 100000 in
/-- GatheredPoints.judge -/
theorem xp_judge  {L d : Nat} {K : Option gV → gH → Prop} {s : gH}  (p0 : Int) (p1 : Int) (hs : XI L 0 s) (h_p0 : (-2147483648) ≤ p0 ∧ p0 ≤ 2147483647) (h_p1 : (-2147483648) ≤ p1 ∧ p1 ≤ 2147483647) (q0 : XS L s) (k : ∀ (r : Int), ∀ (t : gH), XI L 0 t → gX L false [2, 32, 33] s t → K (some (gp_i r)) t) : gs_C L (d + 5) 2846 4 [gp_r (some 1), gp_i p0, gp_i p1] s K := by
  refine s_2846_e _ _ ?_
  refine xm_sh_beyond _ hs (fun x_1 p_2 p_3 => ⟨_, rfl, ?_⟩)
  refine ⟨fun h_4 => ?_, fun h_4 => ?_⟩
  · refine xm_noSide _ (by omega) (fun x_5 p_6 p_7 p_8 => ⟨_, rfl, ?_⟩)
    refine ⟨fun h_9 => ?_, fun h_9 => ?_⟩
    · refine xm_sh_missing _ hs (by omega) (fun x_10 p_11 => ⟨_, rfl, ?_⟩)
      refine ⟨fun h_12 => ?_, fun h_12 => ?_⟩
      · have lp_13 : ∀ (n_13 : Nat) (v3_13 : Int) (s_13 : gH), (XI L 0 s_13) → (gX L false [2, 32, 33] s s_13) → (XS L s_13) → (0 ≤ v3_13 ∧ v3_13 ≤ 20) → (21 - v3_13).toNat < n_13 → gs_E L (d + 5) 2846 43 [gp_r (some 1), gp_i p0, gp_i p1, gp_i v3_13] [] s_13 K := by
          intro n_13
          induction n_13 with
          | zero => intro v3_13 s_13 hs_s_13 hf_s_13 XS_L_s_13 hv3_13 hm_13; exact absurd hm_13 (Nat.not_lt_zero _)
          | succ n_13 ih_13 =>
            intro v3_13 s_13 hs_s_13 hf_s_13 XS_L_s_13 hv3_13 hm_13
            refine s_2846_43 _ _ _ ?_
            refine ⟨by omega, ?_⟩
            have f_14 := xr73 hs_s_13 (Int.toNat p0)
            refine ⟨fun h_15 => ?_, fun h_15 => ?_⟩
            · refine ⟨fun h_16 => ?_, fun h_16 => ?_⟩
              · refine ⟨by omega, ?_⟩
                refine ⟨(68 + Int.toNat p0), shR (by omega), ?_⟩
                refine ⟨gin (rowsh ⟨by omega, by omega⟩) (by omega), ?_⟩
                refine ⟨by omega, ?_⟩
                obtain ⟨a_17, n_18, e_19, kt_20, hn_21⟩ := XS.get (XS_L_s_13) (Int.toNat v3_13) (by omega)
                have hn_a_17 := kt_20.n hs_s_13
                rw [show gp_r (gp_R (gp_mk L s_13) 4 (Int.toNat v3_13)) = gp_r (some a_17) from congrArg gp_r e_19]
                refine xm_worth n_18 _ _ hs_s_13 (by first | assumption | exact kT7 hs_s_13.1.1 | exact kT25 hs_s_13.1.1) (by first | omega | assumption) (fun x_22 s_23 hs_24 hf_25 => ⟨_, rfl, ?_⟩)
                have hf_26 : gX L false [2, 32, 33] s s_23 := gX.trans hf_s_13 hf_25 rfl rfl
                have kt_27 : kT L s_23 a_17 n_18 := kt_20.fr hf_25.1
                have pd_28 : XS L s_23 := XS_fr XS_L_s_13 hf_25 rfl
                refine ⟨fun h_29 => ?_, fun h_29 => ?_⟩
                · try rw [show gp_wr (v3_13 + 1) = v3_13 + 1 from gp_wr_id (by omega) (by omega)]
                  exact ih_13 _ _ hs_24 hf_26 pd_28 (by omega) (by omega)
                · refine s_2846_90 _ _ _ ?_
                  exact k _ s_23 hs_24 hf_26
              · refine s_2846_90 _ _ _ ?_
                exact k _ s_13 hs_s_13 hf_s_13
            · exact k _ s_13 hs_s_13 hf_s_13
        exact lp_13 _ _ _ hs (gX.refl _ _ _ _) q0 (by omega) (Nat.lt_succ_self _)
      · refine xp_refused _ hs (by omega) (fun x_30 s_31 hs_32 hf_33 p_34 => ⟨_, rfl, ?_⟩)
        have hf_35 : gX L false [2, 32, 33] s s_31 := gX.sub hf_33 rfl rfl
        have pd_36 : XS L s_31 := XS_fr q0 hf_33 rfl
        exact k _ s_31 hs_32 hf_35
    · refine s_2846_18 _ _ _ ?_
      refine xp_refused _ hs (by omega) (fun x_37 s_38 hs_39 hf_40 p_41 => ⟨_, rfl, ?_⟩)
      have hf_42 : gX L false [2, 32, 33] s s_38 := gX.sub hf_40 rfl rfl
      have pd_43 : XS L s_38 := XS_fr q0 hf_40 rfl
      exact k _ s_38 hs_39 hf_42
  · refine s_2846_18 _ _ _ ?_
    refine xp_refused _ hs (by omega) (fun x_44 s_45 hs_46 hf_47 p_48 => ⟨_, rfl, ?_⟩)
    have hf_49 : gX L false [2, 32, 33] s s_45 := gX.sub hf_47 rfl rfl
    have pd_50 : XS L s_45 := XS_fr q0 hf_47 rfl
    exact k _ s_45 hs_46 hf_49
