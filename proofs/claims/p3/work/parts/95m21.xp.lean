/-! the reference: what results answers -/
def VB (y : Nat) : Prop := ∃ L R a b, y = cod4 L R a b ∧ (-2147483648 ≤ a ∧ a ≤ 2147483647) ∧ (-2147483648 ≤ b ∧ b ≤ 2147483647)
def V9 (y : Nat) : Prop := ∃ L R a b, y = cod4 L R a b ∧ (-99999 ≤ a ∧ a ≤ 99999) ∧ (-99999 ≤ b ∧ b ≤ 99999)
theorem VB_m {s : gH} (h : ∀ y, PS (MP s) y → VB y) : BNM s := fun k hk => by
  obtain ⟨L, R, a, b, e, h1, h2⟩ := h (val (MP s).2 k) ⟨k, by show k < (gp_I s 81 20).toNat; omega, rfl⟩
  rw [val_e] at e
  obtain ⟨_, _, c, d⟩ := cod4_inj e
  have c' : mA s k = a := c
  have d' : mB s k = b := d
  omega
theorem V9_at {f : Nat → ND} {k : Nat} (h : V9 (val f k)) : -99999 ≤ (f k).2.2.1 ∧ (f k).2.2.1 ≤ 99999 ∧ -99999 ≤ (f k).2.2.2 ∧ (f k).2.2.2 ≤ 99999 := by
  obtain ⟨L, R, a, b, e, h1, h2⟩ := h
  rw [val_e] at e
  obtain ⟨_, _, c, d⟩ := cod4_inj e
  omega
theorem V9_B {y : Nat} (h : V9 y) : VB y := by
  obtain ⟨L, R, a, b, e, h1, h2⟩ := h
  exact ⟨L, R, a, b, e, by omega, by omega⟩
theorem ENV_G {s t : gH} {p : Int} (e : ENV s t p) (n60 : gp_I t 81 19 ≤ 60) (h : ∀ y, PS (MP s) y → V9 y) : GTM t 19 (val (MP s).2 p.toNat) := by
  obtain ⟨e1, e2, e3, e4⟩ := e
  exact ⟨⟨e1, e2, fun j hj => V9_at (h _ (e4 j hj))⟩, by omega, e3⟩
theorem BGR_B99 {s t : gH} {p : Int} (e : ENV s t p) : BGR t ↔ ¬ B99 (TM t 19) (gp_I t 81 19).toNat := by
  have ix : ∀ j : Nat, 64 * 19 + j = 1216 + j := fun j => by omega
  have fi : ∀ j : Nat, TM t 19 j = (gp_L t 76 (1216 + j), gp_L t 77 (1216 + j), gp_I t 78 (1216 + j), gp_I t 79 (1216 + j)) := fun j => by
    unfold TM
    rw [ix]
  constructor
  · rintro ⟨j, hj, hb⟩ b
    have z := b j (by omega)
    rw [fi] at z
    have z' : -99999 ≤ gp_I t 78 (1216 + j) ∧ gp_I t 78 (1216 + j) ≤ 99999 ∧ -99999 ≤ gp_I t 79 (1216 + j) ∧ gp_I t 79 (1216 + j) ≤ 99999 := z
    unfold BBi outr at hb
    rcases hb with ⟨_, q⟩ | ⟨_, q⟩ <;> omega
  · intro h
    refine Classical.byContradiction fun c => h fun j hj => ?_
    have nb : ¬ BBi t (1216 + j) := fun q => c ⟨j, by omega, q⟩
    have nr := e.2.1 j hj
    rw [fi] at nr ⊢
    have nr' : (¬ gp_L t 76 (1216 + j) = 0#64 → gp_I t 78 (1216 + j) = 0) ∧ (¬ gp_L t 77 (1216 + j) = 0#64 → gp_I t 79 (1216 + j) = 0) := nr
    show -99999 ≤ gp_I t 78 (1216 + j) ∧ gp_I t 78 (1216 + j) ≤ 99999 ∧ -99999 ≤ gp_I t 79 (1216 + j) ∧ gp_I t 79 (1216 + j) ≤ 99999
    unfold BBi outr at nb
    have a : -99999 ≤ gp_I t 78 (1216 + j) ∧ gp_I t 78 (1216 + j) ≤ 99999 := by
      by_cases q : gp_L t 76 (1216 + j) = 0#64
      · exact Classical.byContradiction fun c2 => nb (Or.inl ⟨q, by omega⟩)
      · have := nr'.1 q; omega
    have b : -99999 ≤ gp_I t 79 (1216 + j) ∧ gp_I t 79 (1216 + j) ≤ 99999 := by
      by_cases q : gp_L t 77 (1216 + j) = 0#64
      · exact Classical.byContradiction fun c2 => nb (Or.inr ⟨q, by omega⟩)
      · have := nr'.2 q; omega
    exact ⟨a.1, a.2, b.1, b.2⟩
def RSW (s t : gH) (p r : Int) : Prop := (gp_I s 74 15 ≠ 0 ∧ r = 4) ∨ (gp_I s 74 15 = 0 ∧ ((BIGV (val (MP s).2 p.toNat) ∧ r = 6) ∨ (¬ BIGV (val (MP s).2 p.toNat) ∧ r = 0 ∧ GTM t 19 (val (MP s).2 p.toNat))))
theorem RSW_4 {s t : gH} {p r : Int} (h : gp_I s 74 15 ≠ 0) (hr : r = 4) : RSW s t p r := Or.inl ⟨h, hr⟩
theorem RSW_of {s t : gH} {p r q : Int} (h15 : gp_I s 74 15 = 0) (e : ENV s t p) (n60 : gp_I t 81 19 ≤ 60) (ib : (q = 1 ∧ BGR t) ∨ (q = 0 ∧ ¬ BGR t)) (hr : (q ≠ 0 ∧ r = 6) ∨ (q = 0 ∧ r = 0)) : RSW s t p r := by
  have bb := BGR_B99 e
  obtain ⟨e1, e2, e3, e4⟩ := e
  have bv := BIGV_of e1
  rw [e3] at bv
  refine Or.inr ⟨h15, ?_⟩
  rcases ib with ⟨q1, q2⟩ | ⟨q1, q2⟩
  · exact Or.inl ⟨bv.mpr (bb.mp q2), by omega⟩
  · have b9 : B99 (TM t 19) (gp_I t 81 19).toNat := Classical.byContradiction fun c => q2 (bb.mpr c)
    exact Or.inr ⟨fun c => (bv.mp c) b9, by omega, ⟨⟨e1, e2, b9⟩, by omega, e3⟩⟩
/-! waits, and single numbers, at the reference -/
theorem VOF_w {v : Nat → Nat} {n k : Nat} (hk : k < n) (h64 : k < 64) : VOF v n (nx (1#64 <<< k) 0#64 0 0) = cod4 (2 ^ v k) 0 0 0 := by
  have c1 : cset (1#64 <<< k) v n = 2 ^ v k := by
    have := cset_or (x := 0#64) (v := v) (w := v) (n := 0) (m := n) (k := k) (fun q hq => by simp at hq) (by omega) (fun q hq => rfl) hk h64
    rw [show (0#64 ||| 1#64 <<< k) = 1#64 <<< k by simp] at this
    rw [this]
    show 0 ||| 2 ^ v k = _
    rw [Nat.zero_or]
  have u0 : VOF v n (nx (1#64 <<< k) 0#64 0 0) = cod4 (cset (1#64 <<< k) v n) (cset 0#64 v n) (nrm (1#64 <<< k) 0) (nrm 0#64 0) := rfl
  rw [u0]
  rw [c1, cset_z]
  have z : ∀ l : BitVec 64, nrm l 0 = 0 := fun l => by
    unfold nrm
    by_cases c : l = 0#64
    · rw [if_pos c]
    · rw [if_neg c]
  rw [z, z]
theorem VOF_n {v : Nat → Nat} {n : Nat} (a b : Int) : VOF v n (nx 0#64 0#64 a b) = cod4 0 0 a b := by
  show cod4 (cset 0#64 v n) (cset 0#64 v n) (nrm 0#64 a) (nrm 0#64 b) = _
  rw [cset_z]
  unfold nrm
  rw [if_pos rfl, if_pos rfl]
theorem wtv_V9 : ∀ j, V9 (wtv j)
  | 0 => ⟨0, 0, 0, 0, rfl, by omega, by omega⟩
  | j + 1 => ⟨2 ^ wtv j, 0, 0, 0, rfl, by omega, by omega⟩
def WTM (u : gH) (v k : Int) : Prop := GVM u ∧ gp_I u 74 15 = 0 ∧ v.toNat < (MP u).1 ∧ val (MP u).2 v.toNat = wtv k.toNat ∧ ∀ y, PS (MP u) y → ∃ j, j ≤ k.toNat ∧ y = wtv j
theorem WTM_0 {s t : gH} {res : Int} (h : gp_I s 81 20 = 0) (h15 : gp_I s 74 15 = 0) (av : AVM s t 0#64 0#64 0 0 res) : WTM t res 0 := by
  obtain ⟨g, av⟩ := av
  rw [VOF_n] at av
  rcases av with ⟨k, k1, k2, k3, k4, k5, k6⟩ | ⟨k1, k2⟩
  · subst k1
    exact ⟨g, by omega, k3, k4, fun y hy => ⟨0, Nat.le_refl _, by
      rcases (k5 y).mp hy with q | q
      · exact absurd q (PS_m0 h y)
      · exact q⟩⟩
  · exact absurd (⟨fun _ => cod4 0 0 0 0, fun y hy => ⟨0, by omega, by
      rcases hy with q | q
      · exact absurd q (PS_m0 h y)
      · exact q.symm⟩⟩ : C60 _) k2
theorem WTM_s {u t : gH} {v k res : Int} {m : BitVec 64} (h : WTM u v k) (h0 : 0 ≤ v ∧ v ≤ 63) (hk : 0 ≤ k ∧ k ≤ 30) (hm : m = 1#64 <<< Int.toNat (v % 64)) (av : AVM u t m 0#64 0 0 res) : WTM t res (k + 1) := by
  have x1 : Int.toNat (v % 64) = v.toNat := by clear av h; omega
  have x2 : v.toNat < 64 := by clear av h; omega
  have x3 : (k + 1).toNat = k.toNat + 1 := by clear av h; omega
  obtain ⟨g, h1, h2, h3, h4⟩ := h
  obtain ⟨g2, av⟩ := av
  rw [hm, x1, VOF_w h2 x2, h3] at av
  have e : cod4 (2 ^ wtv k.toNat) 0 0 0 = wtv (k + 1).toNat := by rw [x3, wtv]
  rw [e] at av
  rcases av with ⟨j, k1, k2, k3, k4, k5, k6⟩ | ⟨k1, k2⟩
  · subst k1
    exact ⟨g2, by omega, k3, k4, fun y hy => by
      rcases (k5 y).mp hy with q | q
      · obtain ⟨i, i1, i2⟩ := h4 y q
        exact ⟨i, by omega, i2⟩
      · exact ⟨(k + 1).toNat, Nat.le_refl _, q⟩⟩
  · exact absurd (⟨wtv, fun y hy => by
      rcases hy with q | q
      · obtain ⟨i, i1, i2⟩ := h4 y q
        exact ⟨i, by omega, i2.symm⟩
      · exact ⟨(k + 1).toNat, by omega, q.symm⟩⟩ : C60 _) k2
theorem WTM_e {u t : gH} {v k : Int} (h : WTM u v k) (en : ENV u t v) (n60 : gp_I t 81 19 ≤ 60) : GTM t 19 (wtv k.toNat) := by
  have z := ENV_G en n60 (fun y hy => by
    obtain ⟨j, _, e⟩ := h.2.2.2.2 y hy
    rw [e]; exact wtv_V9 j)
  rw [h.2.2.2.1] at z
  exact z
def NUM1 (u : gH) (v a : Int) : Prop := gp_I u 74 15 = 0 ∧ val (MP u).2 v.toNat = cod4 0 0 a a ∧ ∀ y, PS (MP u) y → y = cod4 0 0 a a
theorem NUM1_0 {s t : gH} {a res : Int} (h : gp_I s 81 20 = 0) (h15 : gp_I s 74 15 = 0) (av : AVM s t 0#64 0#64 a a res) : NUM1 t res a := by
  obtain ⟨g, av⟩ := av
  rw [VOF_n] at av
  rcases av with ⟨k, k1, k2, k3, k4, k5, k6⟩ | ⟨k1, k2⟩
  · subst k1
    exact ⟨by omega, k4, fun y hy => by
      rcases (k5 y).mp hy with q | q
      · exact absurd q (PS_m0 h y)
      · exact q⟩
  · exact absurd (⟨fun _ => cod4 0 0 a a, fun y hy => ⟨0, by omega, by
      rcases hy with q | q
      · exact absurd q (PS_m0 h y)
      · exact q.symm⟩⟩ : C60 _) k2
theorem NUM1_e {u t : gH} {v a : Int} (h : NUM1 u v a) (en : ENV u t v) (n60 : gp_I t 81 19 ≤ 60) (ha : -99999 ≤ a ∧ a ≤ 99999) : GTM t 19 (cod4 0 0 a a) := by
  have z := ENV_G en n60 (fun y hy => by
    rw [h.2.2 y hy]; exact ⟨0, 0, a, a, rfl, ha, ha⟩)
  rw [h.2.1] at z
  exact z
set_option maxRecDepth 100000 in
/-- GatheredPointsModel.results -/
theorem vm_resultsV  {L d : Nat} {K : Option gV → gH → Prop} {s : gH}  (p0 : Int) (hs : MI s) (h_p0 : 0 ≤ p0 ∧ p0 ≤ 63) (q0 : MDi s) (q1 : p0 < gp_I s 81 20) (q2 : gp_I s 74 15 = 0 → ∀ y, PS (MP s) y → VB y) (q3 : GVM s) (k : ∀ (r : Int), ∀ (t : gH), MI t → gF [76, 77, 78, 79, 80, 81, 86, 87, 88] [] s t → (0 ≤ r ∧ r ≤ 6) → (r ≠ 4 → 1 ≤ gp_I t 81 19 ∧ gp_I t 81 19 ≤ 60) → (r = 4 ∨ r = 6 ∨ r = 0) → (r = 4 → gp_I s 74 15 ≠ 0) → (mK s t) → (RSW s t p0 r) → (CK s t) → K (some (gp_i r)) t) : gs_C L (d + 185) 3119 2 [gp_r (some 74), gp_i p0] s K := by
  have f_1 := mr81 hs 20
  have f_2 := mr81 hs 19
  refine s_3119_e _ ?_
  have f_3 := mr74_15 hs
  refine ⟨fun h_4 => ?_, fun h_4 => ?_⟩
  · refine vm_endsV _ hs (by omega) (by assumption) (by first | omega | assumption) (by first | omega | assumption) (fun s_5 hs_6 hf_7 p_8 p_9 p_10 p_11 p_12 p_13 p_14 => ⟨rfl, ?_⟩)
    have hf_15 : gF [76, 77, 78, 79, 80, 81, 86, 87, 88] [] s s_5 := gF.sub hf_7 rfl rfl
    have mb_16 : mK s s_5 := mK.trans (mK.refl _) p_9
    have hcn := p_10
    have hrs := p_11
    have hbn := BNR_of hrs p_12 (by omega) (VB_m (q2 (by omega)))
    have hENV := p_13
    have hCK9 := p_14
    refine vm_isBigX hs_6 (by first | omega | assumption) (fun x_17 p_18 p_19 => ⟨_, rfl, ?_⟩)
    have hib := p_19
    refine ⟨fun h_20 => ?_, fun h_20 => ?_⟩
    · refine s_3119_31 _ _ ?_
      exact k _ s_5 hs_6 hf_15 (by omega) (by first | omega | assumption) (by first | omega | assumption) (by first | omega | assumption) mb_16 (by first | exact RSW_4 (by assumption) rfl | exact RSW_of (by assumption) hENV (by omega) hib (by omega) | exact RSW_of (by omega) hENV (by omega) hib (by omega)) (by first | exact CK_r s | exact hCK9)
    · refine s_3119_31 _ _ ?_
      exact k _ s_5 hs_6 hf_15 (by omega) (by first | omega | assumption) (by first | omega | assumption) (by first | omega | assumption) mb_16 (by first | exact RSW_4 (by assumption) rfl | exact RSW_of (by assumption) hENV (by omega) hib (by omega) | exact RSW_of (by omega) hENV (by omega) hib (by omega)) (by first | exact CK_r s | exact hCK9)
  · exact k _ s hs (gF.refl _ _ _) (by omega) (by first | omega | assumption) (by first | omega | assumption) (by first | omega | assumption) (mK.refl _) (by first | exact RSW_4 (by assumption) rfl | exact RSW_of (by assumption) hENV (by omega) hib (by omega) | exact RSW_of (by omega) hENV (by omega) hib (by omega)) (by first | exact CK_r s | exact hCK9)
set_option maxRecDepth 100000 in
/-- GatheredPointsModel.waitsOf -/
theorem vm_waitsOfV  {L d : Nat} {K : Option gV → gH → Prop} {s : gH}  (p0 : Int) (hs : MI s) (h_p0 : 0 ≤ p0 ∧ p0 ≤ 20)  (k : ∀ (t : gH), MI t → gF [76, 77, 78, 79, 80, 81, 86, 87, 88] [15] s t → (1 ≤ gp_I t 81 19 ∧ gp_I t 81 19 ≤ 60) → (mK s t) → (GTM t 19 (wtv p0.toNat)) → (CK s t) → K none t) : gs_C L (d + 185) 3122 4 [gp_r (some 74), gp_i p0] s K := by
  have f_1 := mr81 hs 20
  have f_2 := mr81 hs 19
  have f_3 := mr74_15 hs
  refine s_3122_e _ ?_
  have hck0 := CK_r s
  refine vm_begins2 hs (fun s_4 hs_5 hf_6 p_7 p_8 p_9 p_10 => ⟨rfl, ?_⟩)
  have hf_11 : gF [76, 77, 78, 79, 80, 81, 86, 87, 88] [15] s s_4 := gF.sub hf_6 rfl rfl
  have pd_12 : CK s s_4 := CK_fr hck0 hf_6 rfl rfl rfl rfl
  have mb_13 : mK s s_4 := mK.trans (mK.refl _) (mK_o p_10)
  have q_14 := p_10.1 19 (by omega)
  have hck1 : CK s s_4 := CK_o p_10
  have hg1 := GVM_0 (s := s_4) (by omega)
  refine vm_madeV _ _ _ _ hs_5 (p_9) (bd_0 _) (bd_0 _) (by first | omega | assumption) (fun x_15 s_16 hs_17 hf_18 p_19 p_20 p_21 p_22 p_23 p_24 p_25 p_26 p_27 p_28 p_29 => ⟨_, rfl, ?_⟩)
  have hf_30 : gF [76, 77, 78, 79, 80, 81, 86, 87, 88] [15] s s_16 := gF.trans hf_11 hf_18 rfl rfl
  have mb_31 : mK s s_16 := mK.trans mb_13 (mK_o p_24)
  have q_32 := p_24.1 19 (by omega)
  have hw0 := WTM_0 (by omega) (by omega) p_29
  have hck2 : CK s s_16 := CK_t hck1 (CK_o p_24)
  have lp_33 : ∀ (n_33 : Nat) (v2_33 : Int) (v3_33 : Int) (s_33 : gH), (MI s_33) → (gF [76, 77, 78, 79, 80, 81, 86, 87, 88] [15] s s_33) → (MDi s_33) → (mK s s_33) → (CK s s_33) → (0 ≤ v2_33 ∧ v2_33 ≤ 63) → (0 ≤ v3_33 ∧ v3_33 ≤ 20) → (v2_33 < gp_I s_33 81 20) → (WTM s_33 v2_33 v3_33) → (v3_33 ≤ p0) → (21 - v3_33).toNat < n_33 → gs_E L (d + 185) 3122 15 [gp_r (some 74), gp_i p0, gp_i v2_33, gp_i v3_33] [] s_33 K := by
    intro n_33
    induction n_33 with
    | zero => intro v2_33 v3_33 s_33 hs_s_33 hf_s_33 MDi_s_33 mK_s_33 CK_s_s_33 hv2_33 hv3_33 iv0_33 iv1_33 iv2_33 hm_33; exact absurd hm_33 (Nat.not_lt_zero _)
    | succ n_33 ih_33 =>
      intro v2_33 v3_33 s_33 hs_s_33 hf_s_33 MDi_s_33 mK_s_33 CK_s_s_33 hv2_33 hv3_33 iv0_33 iv1_33 iv2_33 hm_33
      refine s_3122_15 _ _ _ ?_
      refine ⟨fun h_34 => ?_, fun h_34 => ?_⟩
      · have hwi9 := iv1_33
        have hgw := hwi9.1
        have hck3 := CK_s_s_33
        refine vm_madeV _ _ _ _ hs_s_33 (MDi_s_33) (bd_sh (by omega) (by omega) (by omega)) (bd_0 _) (by first | omega | assumption) (fun x_35 s_36 hs_37 hf_38 p_39 p_40 p_41 p_42 p_43 p_44 p_45 p_46 p_47 p_48 p_49 => ⟨_, rfl, ?_⟩)
        have hf_50 : gF [76, 77, 78, 79, 80, 81, 86, 87, 88] [15] s s_36 := gF.trans hf_s_33 hf_38 rfl rfl
        have mb_51 : mK s s_36 := mK.trans mK_s_33 (mK_o p_44)
        have q_52 := p_44.1 19 (by omega)
        have hws := WTM_s hwi9 ⟨by omega, by omega⟩ ⟨by omega, by omega⟩ rfl p_49
        have hck4 : CK s s_36 := CK_t hck3 (CK_o p_44)
        try rw [show gp_wr (v3_33 + 1) = v3_33 + 1 from gp_wr_id (by omega) (by omega)]
        exact ih_33 _ _ _ hs_37 hf_50 p_40 mb_51 hck4 (by omega) (by omega) (by first | omega | assumption) (hws) (by first | omega | assumption) (by omega)
      · have hwe := iv1_33
        have hgv := hwe.1
        have hck5 := CK_s_s_33
        refine vm_endsV _ hs_s_33 (by omega) (MDi_s_33) (by first | omega | assumption) (by first | omega | assumption) (fun s_53 hs_54 hf_55 p_56 p_57 p_58 p_59 p_60 p_61 p_62 => ⟨rfl, ?_⟩)
        have hf_63 : gF [76, 77, 78, 79, 80, 81, 86, 87, 88] [15] s s_53 := gF.trans hf_s_33 hf_55 rfl rfl
        have q_64 := (hf_55.2 74 15 rfl (fun _ => rfl)).1
        have mb_65 : mK s s_53 := mK.trans mK_s_33 p_57
        have hEN := p_61
        have hck6 := CK_t hck5 p_62
        exact k s_53 hs_54 hf_63 (by first | omega | assumption) mb_65 (by rw [show p0.toNat = Int.toNat v3_33 by omega]; exact WTM_e hwe hEN (by omega)) (hck6)
  exact lp_33 _ _ _ _ hs_17 hf_30 p_20 mb_31 hck2 (by omega) (by omega) (by first | omega | assumption) (hw0) (by first | omega | assumption) (Nat.lt_succ_self _)
set_option maxRecDepth 100000 in
/-- GatheredPointsModel.pilesNumber -/
theorem vm_pilesNumberV  {L d : Nat} {K : Option gV → gH → Prop} {s : gH}  (p0 : Int) (hs : MI s) (h_p0 : (-999) ≤ p0 ∧ p0 ≤ 999) (q0 : gp_I s 74 42 ≤ 62) (k : ∀ (t : gH), MI t → gF [76, 77, 78, 79, 80, 81, 86, 87, 88] [15, 42] s t → (gp_I t 74 42 = gp_I s 74 42 + 1) → (kq s t) → (1 ≤ gp_I t 81 (Int.toNat (21 + gp_I s 74 42))) → (GTM t (Int.toNat (21 + gp_I s 74 42)) (cod4 0 0 p0 p0)) → (KCQ (gp_I s 74 42) s t) → K none t) : gs_C L (d + 185) 3133 2 [gp_r (some 74), gp_i p0] s K := by
  have f_1 := mr74_42 hs
  have f_2 := mr81 hs 20
  have f_3 := mr81 hs 19
  have f_4 := mr74_15 hs
  refine s_3133_e _ ?_
  have hkq0 := kq.refl s
  refine vm_begins2 hs (fun s_5 hs_6 hf_7 p_8 p_9 p_10 p_11 => ⟨rfl, ?_⟩)
  have hf_12 : gF [76, 77, 78, 79, 80, 81, 86, 87, 88] [15, 42] s s_5 := gF.sub hf_7 rfl rfl
  have q_13 := (hf_7.2 74 42 rfl (fun _ => rfl)).1
  have q_14 := p_11.1 19 (by omega)
  have hkq1 : kq s s_5 := kq_K hkq0 (mK_o p_11)
  have hck1 : CK s s_5 := CK_o p_11
  have hg1 := GVM_0 (s := s_5) (by omega)
  refine vm_madeV _ _ _ _ hs_6 (p_10) (bd_0 _) (bd_0 _) (by first | omega | assumption) (fun x_15 s_16 hs_17 hf_18 p_19 p_20 p_21 p_22 p_23 p_24 p_25 p_26 p_27 p_28 p_29 => ⟨_, rfl, ?_⟩)
  have hf_30 : gF [76, 77, 78, 79, 80, 81, 86, 87, 88] [15, 42] s s_16 := gF.trans hf_12 hf_18 rfl rfl
  have q_31 := (hf_18.2 74 42 rfl (fun _ => rfl)).1
  have q_32 := p_24.1 19 (by omega)
  have hkq2 : kq s s_16 := kq_K hkq1 (mK_o p_24)
  have hn1 := NUM1_0 (by omega) (by omega) p_29
  have hck2 : CK s s_16 := CK_t hck1 (CK_o p_24)
  have hg2 := p_29.1
  refine vm_endsV _ hs_17 (by omega) (p_20) (by first | omega | assumption) (by first | omega | assumption) (fun s_33 hs_34 hf_35 p_36 p_37 p_38 p_39 p_40 p_41 p_42 => ⟨rfl, ?_⟩)
  have hf_43 : gF [76, 77, 78, 79, 80, 81, 86, 87, 88] [15, 42] s s_33 := gF.trans hf_30 hf_35 rfl rfl
  have q_44 := (hf_35.2 74 42 rfl (fun _ => rfl)).1
  have q_45 := (hf_35.2 74 15 rfl (fun _ => rfl)).1
  have hkq3 : kq s s_33 := kq_K hkq2 p_37
  have hGT := NUM1_e hn1 p_41 (by omega) ⟨by omega, by omega⟩
  have hck3 := CK_t hck2 p_42
  refine vm_pilesV hs_34 (by first | omega | assumption) (fun s_46 hs_47 hf_48 p_49 p_50 p_51 p_52 p_53 => ⟨rfl, ?_⟩)
  have hf_54 : gF [76, 77, 78, 79, 80, 81, 86, 87, 88] [15, 42] s s_46 := gF.trans hf_43 hf_48 rfl rfl
  have q_55 := (hf_48.2 74 15 rfl (fun _ => rfl)).1
  have hkq4 : kq s s_46 := kq_p hkq3 p_50 (by omega)
  have hn9 : gp_I s_46 81 (Int.toNat (21 + gp_I s 74 42)) = gp_I s_33 81 19 := by rw [show gp_I s 74 42 = gp_I s_33 74 42 by omega]; exact p_51
  have hG2 := p_52 _ hGT
  have hK2 := p_53
  exact k s_46 hs_47 hf_54 (by first | omega | assumption) (hkq4) (by first | omega | assumption) (by rw [show gp_I s 74 42 = gp_I s_33 74 42 by omega]; exact hG2) (KCQ_t (KCQ_c (KCQ_r _ s) hck3) hK2 (by omega))
