/-! waits: how many followers -/
def sameAt (s : gH) (f : Nat) (l r : BitVec 64) (a b : Int) : Prop := mL s f = l ∧ mR s f = r ∧ (l = 0#64 → mA s f = a) ∧ (r = 0#64 → mB s f = b)
def KM (s t : gH) : Prop := (∀ f, mL t f = mL s f ∧ mR t f = mR s f ∧ mA t f = mA s f ∧ mB t f = mB s f ∧ mD t f = mD s f) ∧ gp_I t 81 20 = gp_I s 81 20
def MDX (s t : gH) (l r : BitVec 64) (a b res : Int) : Prop := (∃ k : Nat, (k : Int) < gp_I s 81 20 ∧ res = k ∧ sameAt s k l r a b ∧ KM s t) ∨ ((∀ k : Nat, (k : Int) < gp_I s 81 20 → ¬ sameAt s k l r a b) ∧ ((gp_I s 81 20 < 60 ∧ res = gp_I s 81 20 ∧ gp_I t 81 20 = gp_I s 81 20 + 1 ∧ LayP s t (gp_I s 81 20).toNat l r a b) ∨ (gp_I s 81 20 = 60 ∧ res = 0 ∧ KM s t)))
theorem MDX_old {s : gH} {l r : BitVec 64} {a b v : Int} (h0 : 0 ≤ v) (h1 : v < gp_I s 81 20) (hl : gp_L s 76 (Int.toNat (1280 + v)) = l) (hr : gp_L s 77 (Int.toNat (1280 + v)) = r) (ha : l = 0#64 → gp_I s 78 (Int.toNat (1280 + v)) = a) (hb : r = 0#64 → gp_I s 79 (Int.toNat (1280 + v)) = b) : MDX s s l r a b v := by
  rw [ix20m h0] at hl hr ha hb
  exact Or.inl ⟨v.toNat, by omega, by omega, ⟨hl, hr, ha, hb⟩, fun _ => ⟨rfl, rfl, rfl, rfl, rfl⟩, rfl⟩
theorem MDX_no {s : gH} {l r : BitVec 64} {a b v : Int} (hv : gp_I s 81 20 ≤ v) (h : ∀ f : Int, 0 ≤ f → f < v → ¬ (gp_L s 76 (Int.toNat (1280 + f)) = l ∧ gp_L s 77 (Int.toNat (1280 + f)) = r ∧ (l = 0#64 → gp_I s 78 (Int.toNat (1280 + f)) = a) ∧ (r = 0#64 → gp_I s 79 (Int.toNat (1280 + f)) = b))) : ∀ k : Nat, (k : Int) < gp_I s 81 20 → ¬ sameAt s k l r a b := fun k hk q => by
  refine h k (by omega) (by omega) ?_
  rw [ix20m (by omega)]
  exact q
theorem MDX_full {s t : gH} {l r : BitVec 64} {a b v : Int} (h : ∀ k : Nat, (k : Int) < gp_I s 81 20 → ¬ sameAt s k l r a b) (h6 : gp_I s 81 20 = 60) (e : t = gp_wI s 74 15 v) : MDX s t l r a b 0 := by
  subst e
  exact Or.inr ⟨h, Or.inr ⟨h6, rfl, fun _ => ⟨rfl, rfl, rfl, rfl, rfl⟩, rfl⟩⟩
theorem MDX_new {s u t : gH} {l r : BitVec 64} {a b x : Int} (h : ∀ k : Nat, (k : Int) < gp_I s 81 20 → ¬ sameAt s k l r a b) (h6 : gp_I s 81 20 < 60) (p : LayP s u (gp_I s 81 20).toNat l r a b) (e : t = gp_wI u 81 20 x) (hx : x = gp_I s 81 20 + 1) : MDX s t l r a b (gp_I s 81 20) := by
  subst e; subst hx
  exact Or.inr ⟨h, Or.inl ⟨h6, rfl, (gz_rw _ _ _ _ _).1 rfl, p⟩⟩
/-- WAITS v are made -/
def WI (s : gH) (v : Int) : Prop := gp_I s 81 20 = v + 1 ∧ ∀ k : Nat, (k : Int) ≤ v → mR s k = 0#64 ∧ mL s k = if k = 0 then 0#64 else 1#64 <<< (k - 1)
theorem sh_inj {i j : Nat} (hi : i < 64) (h : (1#64 <<< i : BitVec 64) = 1#64 <<< j) : i = j := by
  have e : (1#64 <<< i : BitVec 64).getLsbD i = (1#64 <<< j : BitVec 64).getLsbD i := by rw [h]
  rw [BitVec.getLsbD_shiftLeft, BitVec.getLsbD_shiftLeft] at e
  simp [hi] at e
  omega
theorem sh_ne0 {j : Nat} (hj : j < 64) : ¬ (1#64 <<< j : BitVec 64) = 0#64 := fun h => by
  have e : (1#64 <<< j : BitVec 64).getLsbD j = false := by rw [h]; simp
  rw [BitVec.getLsbD_shiftLeft] at e
  simp [hj] at e
theorem WI_0 {s t : gH} {r : Int} (h0 : gp_I s 81 20 = 0) (m : MDX s t 0#64 0#64 0 0 r) : WI t 0 ∧ r = 0 := by
  rcases m with ⟨k, k1, k2⟩ | ⟨n, ⟨m1, m2, m3, m4⟩ | ⟨m1, m2⟩⟩
  · omega
  · refine ⟨⟨by omega, fun k hk => ?_⟩, by omega⟩
    have ek : k = (gp_I s 81 20).toNat := by omega
    subst ek
    refine ⟨m4.1.2.1, ?_⟩
    rw [if_pos (by omega)]; exact m4.1.1
  · omega
theorem WI_s {s t : gH} {v r : Int} {l : BitVec 64} (h : WI s v) (h0 : 0 ≤ v) (hv : v < 20) (hl : l = 1#64 <<< v.toNat) (m : MDX s t l 0#64 0 0 r) : WI t (v + 1) ∧ r = v + 1 := by
  rcases m with ⟨k, k1, k2, k3, k4⟩ | ⟨n, ⟨m1, m2, m3, m4⟩ | ⟨m1, m2⟩⟩
  · exfalso
    have q := (h.2 k (by have := h.1; omega)).2
    have q2 := k3.1
    rw [q, hl] at q2
    by_cases c : k = 0
    · rw [if_pos c] at q2; exact sh_ne0 (by omega) q2.symm
    · rw [if_neg c] at q2
      have := sh_inj (by have := h.1; omega) q2
      have := h.1
      omega
  · have e := h.1
    refine ⟨⟨by omega, fun k hk => ?_⟩, by omega⟩
    by_cases c : k = (gp_I s 81 20).toNat
    · rw [c]
      refine ⟨m4.1.2.1, ?_⟩
      rw [if_neg (by omega), m4.1.1, hl]
      congr 1; omega
    · have f := m4.2 k c
      have g := h.2 k (by omega)
      rw [f.1, f.2.1]; exact g
  · have := h.1
    omega
theorem WI_fr {m g : List Nat} {s t : gH} {v : Int} (h : WI s v) (hf : gF m g s t) (e1 : m.contains 76 = false) (e2 : m.contains 77 = false) (e6 : m.contains 81 = false) : WI t v := by
  refine ⟨(hf.2 81 20 e6 (fun h => absurd h (by decide))).1.trans h.1, fun k hk => ?_⟩
  have q := h.2 k hk
  exact ⟨((hf.2 77 _ e2 (fun h => absurd h (by decide))).2).trans q.1, ((hf.2 76 _ e1 (fun h => absurd h (by decide))).2).trans q.2⟩
def WB (x : BitVec 64) (v p : Int) : Prop := ∀ j : Nat, x.getLsbD j = true ↔ (v ≤ (j : Int) ∧ (j : Int) ≤ p)
theorem WB_0 {p : Int} (h0 : 0 ≤ p) (hp : p ≤ 63) : WB (1#64 <<< (Int.toNat (p % 64))) p p := fun j => by
  rw [BitVec.getLsbD_shiftLeft]
  simp
  omega
theorem WB_s {x l r : BitVec 64} {v p : Int} (h : WB x v p) (h0 : 0 ≤ v) (hv : v ≤ p) (hp : p ≤ 63) (hr : r = 0#64) (hl : l = if v.toNat = 0 then 0#64 else 1#64 <<< (v.toNat - 1)) : WB (x ||| (l ||| r)) (v + -1) p := fun j => by
  rw [BitVec.getLsbD_or, BitVec.getLsbD_or, hr, hl]
  have q := h j
  by_cases c : v.toNat = 0
  · rw [if_pos c]
    simp
    rw [q]; omega
  · rw [if_neg c, BitVec.getLsbD_shiftLeft]
    simp
    rw [q]; omega
theorem WB_ss {s : gH} {x : BitVec 64} {v p : Int} (h : WB x v p) (hw : WI s p) (h0 : 0 ≤ v) (hv : v ≤ p) (hp : p ≤ 63) : WB (x ||| (gp_L s 76 (Int.toNat (1280 + v)) ||| gp_L s 77 (Int.toNat (1280 + v)))) (v + -1) p := by
  rw [ix20m h0]
  have q := hw.2 v.toNat (by omega)
  exact WB_s h h0 hv hp q.1 q.2
theorem cnt_WB {x : BitVec 64} {v p : Int} (h : WB x v p) (hv : v ≤ 0) (h0 : 0 ≤ p) (hp : p ≤ 63) : (gm_cnt x 64 : Int) = p + 1 := by
  have key : ∀ n : Nat, n ≤ 64 → (gm_cnt x n : Int) = if (n : Int) ≤ p + 1 then (n : Int) else p + 1 := by
    intro n
    induction n with
    | zero => intro _; rw [if_pos (by omega)]; rfl
    | succ n ih =>
      intro hn
      have q := h n
      have i9 := ih (by omega)
      show ((gm_cnt x n + (if x.getLsbD n = true then 1 else 0) : Nat) : Int) = _
      by_cases c : (n : Int) ≤ p
      · rw [if_pos (q.mpr ⟨by omega, c⟩)]
        rw [if_pos (by omega)] at i9
        rw [if_pos (by omega)]
        push_cast; omega
      · rw [if_neg (fun z => c (q.mp z).2)]
        rw [if_neg (by push_cast; omega)]
        by_cases d : (n : Int) ≤ p + 1
        · rw [if_pos d] at i9; push_cast; omega
        · rw [if_neg d] at i9; push_cast; omega
  have := key 64 (Nat.le_refl _)
  rw [this]
  by_cases c : ((64 : Nat) : Int) ≤ p + 1
  · rw [if_pos c]; omega
  · rw [if_neg c]
set_option maxRecDepth 100000 in
/-- Maker.pauses -/
theorem xm_pauses2  {L d : Nat} {K : Option gV → gH → Prop} {s : gH}  (p0 : Int) (hs : XI L 0 s) (h_p0 : 0 ≤ p0 ∧ p0 ≤ 20)  (k : ∀ (r : Option Nat), ∀ (t : gH), XI L 0 t → gX L true [] s t → (∃ a n, r = some a ∧ kT L t a n ∧ n ≤ 60 ∧ (n : Int) = p0 + 1) → (gp_sz t ≤ gp_sz s + 6) → (gp_us t ≤ gp_us s + 115) → K (some (gp_r r)) t) : gs_C L (d + 1) 258 4 [gp_r (some 20), gp_i p0] s K := by
  refine s_258_e _ ?_
  refine ⟨hs.1.1, ?_⟩
  intro s_1 e_2
  have h9_s_1 : (gp_sh (gp_mk L s_1) (gp_sz s)) = (9, 10) := by rw [e_2, sh_new hs.1.1, if_pos rfl]
  have hR_s_1 : ∀ f, gp_R (gp_mk L s_1) (gp_sz s) f = none := fun f => by rw [e_2, R_new hs.1.1, if_pos rfl]
  have hz_s_1 : gp_sz s_1 = gp_sz s + 1 ∧ gp_us s_1 = gp_us s + 10 := by rw [e_2]; exact ⟨rfl, rfl⟩
  have hw_s_1 : 117 ≤ gp_sz s := hs.1.1
  have hs_3 : XI L (gp_sz s) s_1 := by rw [e_2]; exact XI.new ⟨XT.weak hs.1, hs.2⟩ _ _ (Or.inr rfl)
  have hk_s_1 : (gp_sh (gp_mk L s_1) (gp_sz s)).1 = 9 := by rw [h9_s_1]
  have hf_4 : gX L true [] s s_1 := by rw [e_2]; exact gX.new (gX.refl _ _ _ _) _ _ hs.1.1
  have hg_s_1 : gX L true [] s s_1 := by rw [e_2]; exact gX.new (gX.refl L true [] _) _ _ hs.1.1
  try rw [show gp_wr (p0 + 1) = p0 + 1 from gp_wr_id (by omega) (by omega)]
  refine xm_init _ _ (by omega) (by assumption) (by first | omega | assumption) (by first | omega | assumption) (by first | omega | assumption) (by first | omega | assumption) (fun s_5 hs_6 hf_7 p_8 p_9 p_10 p_11 => ⟨rfl, ?_⟩)
  have hf_12 : gX L true [] s s_5 := gX.trans hf_4 hf_7 rfl rfl
  obtain ⟨a_13, ha_13⟩ : ∃ a, (gp_sz s) = a := ⟨_, rfl⟩
  have hba_13 : s.1 = a_13 := ha_13
  obtain ⟨n_14, hn_14⟩ : ∃ n : Nat, Int.toNat (p0 + 1) = n := ⟨_, rfl⟩
  rw [ha_13] at p_8 p_9 ⊢
  rw [hn_14] at p_8
  have hn_a_13 := p_8.n hs_6
  have hr_a_13 := (p_8.tt hs_6).1.1
  have lp_16 : ∀ (n_16 : Nat) (v3_16 : Int) (s_16 : gH), (XI L 0 s_16) → (gX L true [] s s_16) → (kT L s_16 a_13 n_14) → (gp_sz s_16 ≤ gp_sz s + 6 ∧ gp_us s_16 ≤ gp_us s + 115) → (1 ≤ v3_16 ∧ v3_16 ≤ 59) → (60 - v3_16).toNat < n_16 → gs_E L (d + 1) 258 13 [gp_r (some 20), gp_i p0, gp_r (some a_13), gp_i v3_16] [] s_16 K := by
    intro n_16
    induction n_16 with
    | zero => intro v3_16 s_16 hs_s_16 hf_s_16 kt_a_13_s_16 rm_s_16 hv3_16 hm_16; exact absurd hm_16 (Nat.not_lt_zero _)
    | succ n_16 ih_16 =>
      intro v3_16 s_16 hs_s_16 hf_s_16 kt_a_13_s_16 rm_s_16 hv3_16 hm_16
      refine s_258_13 _ _ _ ?_
      refine ⟨fun h_17 => ?_, fun h_17 => ?_⟩
      · exact k _ s_16 hs_s_16 hf_s_16 (⟨_, _, rfl, kt_a_13_s_16, by omega, by omega⟩) (by first | omega | assumption) (by first | omega | assumption)
      · refine ⟨a_13, rfl, ?_⟩
        refine ⟨kt_a_13_s_16.2.1, ?_⟩
        try rw [show gp_wr (v3_16 - 1) = v3_16 - 1 from gp_wr_id (by omega) (by omega)]
        refine ⟨(a_13 + 1), (kt_a_13_s_16.tt hs_s_16).1.2.2.2.1.1, ?_⟩
        refine ⟨gin ((kt_a_13_s_16.tt hs_s_16).1.2.2.2.2.1.1) (by omega), ?_⟩
        intro s_18 e_19
        have hs_20 : XI L 0 s_18 := by rw [e_19]; exact XI.t12 hs_s_16 kt_a_13_s_16 _ _ _ (Or.inl rfl) (by exact bd_sh (by omega) (by omega) (by omega))
        have hf_21 : gX L true [] s s_18 := by rw [e_19]; exact gX.wL hf_s_16 (gXl (by omega) (by omega))
        have kt_22 : kT L s_18 a_13 n_14 := by rw [e_19]; exact kt_a_13_s_16
        have z_23 : gp_sz s_18 = gp_sz s_16 ∧ gp_us s_18 = gp_us s_16 := by rw [e_19]; exact ⟨rfl, rfl⟩
        refine ⟨kt_22.2.1, ?_⟩
        refine ⟨(a_13 + 5), (kt_22.tt hs_20).1.2.2.2.1.2.2.2.2, ?_⟩
        refine ⟨gin ((kt_22.tt hs_20).1.2.2.2.2.1.2.2.2.2) (by omega), ?_⟩
        intro s_24 e_25
        have hs_26 : XI L 0 s_24 := by rw [e_25]; exact XI.t5 hs_20 kt_22 _ _ _ rfl (by omega) (by omega)
        have hf_27 : gX L true [] s s_24 := by rw [e_25]; exact gX.wI hf_21 (gXt kt_22 hs_20 (by omega) (by omega) (by omega))
        have kt_28 : kT L s_24 a_13 n_14 := by rw [e_25]; exact kt_22
        have z_29 : gp_sz s_24 = gp_sz s_18 ∧ gp_us s_24 = gp_us s_18 := by rw [e_25]; exact ⟨rfl, rfl⟩
        try rw [show gp_wr (v3_16 + 1) = v3_16 + 1 from gp_wr_id (by omega) (by omega)]
        exact ih_16 _ _ hs_26 hf_27 kt_28 (by omega) (by omega) (by omega)
  exact lp_16 _ _ _ hs_6 hf_12 p_8 (by omega) (by omega) (Nat.lt_succ_self _)
set_option maxRecDepth 100000 in
/-- GatheredPoints.hold -/
theorem xp_hold2  {L d : Nat} {K : Option gV → gH → Prop} {s : gH} (n_p1 : Nat) (p0 : Int) (p1 : Nat) (hs : XI L 0 s) (h_p0 : 0 ≤ p0 ∧ p0 ≤ 7) (q0 : kT L s p1 n_p1) (q1 : n_p1 ≤ 60) (q2 : XS L s) (k : ∀ (r : Int), ∀ (t : gH), XI L 0 t → gX L false [4] s t → (1 ≤ r ∧ r ≤ 60) → (XS L t) → (r = (n_p1 : Int)) → K (some (gp_i r)) t) : gs_C L d 2854 3 [gp_r (some 1), gp_i p0, gp_r (some p1)] s K := by
  have hn_p1 := q0.n hs
  refine s_2854_e _ _ ?_
  refine ⟨p1, rfl, ?_⟩
  refine ⟨by omega, ?_⟩
  refine ⟨q0.2.1, ?_⟩
  intro s_1 e_2
  have hs_3 : XI L 0 s_1 := by rw [e_2]; exact XI.wR hs 4 (Int.toNat p0) _ (Or.inl (show ¬ (gp_ss 4).1 = 9 by decide))
  have hf_4 : gX L false [4] s s_1 := by rw [e_2]; exact gX.wR (gX.refl _ _ _ _) (Or.inl rfl) (Or.inl (show ¬ (gp_ss 4).1 = 9 by decide))
  have kt_5 : kT L s_1 p1 n_p1 := by rw [e_2]; exact q0
  refine ⟨kt_5.2.1, ?_⟩
  have f_6 := (kt_5.tt hs_3).1.2.2.1
  have f_7 := kt_5.n hs_3
  exact k _ s_1 hs_3 hf_4 (by omega) (XS_set q2 (by assumption) (by assumption) q1) (by first | omega | assumption)
set_option maxRecDepth 100000 in
/-- GatheredPoints.waits -/
theorem xp_waits2  {L d : Nat} {K : Option gV → gH → Prop} {s : gH}  (p0 : Int) (p1 : Int) (hs : XI L 0 s) (h_p0 : (-2147483648) ≤ p0 ∧ p0 ≤ 2147483647) (h_p1 : (-2147483648) ≤ p1 ∧ p1 ≤ 2147483647) (q0 : XS L s) (k : ∀ (r : Int), ∀ (t : gH), XI L 0 t → gX L true [2, 4] s t → (XS L t) → (gp_sz t ≤ gp_sz s + 6) → (gp_us t ≤ gp_us s + 115) → (0 ≤ p0 ∧ p0 ≤ 7 ∧ 0 ≤ p1 ∧ p1 ≤ 20 → r = p1 + 1) → (¬ (0 ≤ p0 ∧ p0 ≤ 7 ∧ 0 ≤ p1 ∧ p1 ≤ 20) → r = -1000000001) → K (some (gp_i r)) t) : gs_C L (d + 2) 2821 3 [gp_r (some 1), gp_i p0, gp_i p1] s K := by
  refine s_2821_e _ _ ?_
  refine xm_noSlot _ (by omega) (fun x_1 p_2 p_3 p_4 => ⟨_, rfl, ?_⟩)
  refine ⟨fun h_5 => ?_, fun h_5 => ?_⟩
  · refine ⟨fun h_6 => ?_, fun h_6 => ?_⟩
    · refine s_2821_17 _ _ ?_
      refine xp_refused _ hs (by omega) (fun x_7 s_8 hs_9 hf_10 p_11 => ⟨_, rfl, ?_⟩)
      have hf_12 : gX L true [2, 4] s s_8 := gX.sub hf_10 rfl rfl
      have pd_13 : XS L s_8 := XS_fr q0 hf_10 rfl
      have z_14 : gp_sz s_8 = gp_sz s ∧ gp_us s_8 = gp_us s := hf_10.2.1 rfl
      exact k _ s_8 hs_9 hf_12 (pd_13) (by first | omega | assumption) (by first | omega | assumption) (by first | omega | assumption) (by first | omega | assumption)
    · refine ⟨fun h_15 => ?_, fun h_15 => ?_⟩
      · refine s_2821_17 _ _ ?_
        refine xp_refused _ hs (by omega) (fun x_16 s_17 hs_18 hf_19 p_20 => ⟨_, rfl, ?_⟩)
        have hf_21 : gX L true [2, 4] s s_17 := gX.sub hf_19 rfl rfl
        have pd_22 : XS L s_17 := XS_fr q0 hf_19 rfl
        have z_23 : gp_sz s_17 = gp_sz s ∧ gp_us s_17 = gp_us s := hf_19.2.1 rfl
        exact k _ s_17 hs_18 hf_21 (pd_22) (by first | omega | assumption) (by first | omega | assumption) (by first | omega | assumption) (by first | omega | assumption)
      · refine xm_pauses2 _ hs (by omega) (fun o_24 s_25 hs_26 hf_27 p_28 p_29 p_30 => ⟨_, rfl, ?_⟩)
        have hf_31 : gX L true [2, 4] s s_25 := gX.sub hf_27 rfl rfl
        have pd_32 : XS L s_25 := XS_fr q0 hf_27 rfl
        obtain ⟨a_33, n_34, rfl, kt_35, hn_36⟩ := p_28
        have hn_a_33 := kt_35.n hs_26
        refine xp_hold2 n_34 _ _ hs_26 (by omega) (by first | assumption | exact kT7 hs_26.1.1 | exact kT25 hs_26.1.1) (by first | omega | assumption) (pd_32) (fun x_37 s_38 hs_39 hf_40 p_41 p_42 p_43 => ⟨_, rfl, ?_⟩)
        have hf_44 : gX L true [2, 4] s s_38 := gX.trans hf_31 hf_40 rfl rfl
        have kt_45 : kT L s_38 a_33 n_34 := kt_35.fr hf_40.1
        have z_46 : gp_sz s_38 = gp_sz s_25 ∧ gp_us s_38 = gp_us s_25 := hf_40.2.1 rfl
        exact k _ s_38 hs_39 hf_44 (p_42) (by first | omega | assumption) (by first | omega | assumption) (by first | omega | assumption) (by first | omega | assumption)
  · refine s_2821_17 _ _ ?_
    refine xp_refused _ hs (by omega) (fun x_47 s_48 hs_49 hf_50 p_51 => ⟨_, rfl, ?_⟩)
    have hf_52 : gX L true [2, 4] s s_48 := gX.sub hf_50 rfl rfl
    have pd_53 : XS L s_48 := XS_fr q0 hf_50 rfl
    have z_54 : gp_sz s_48 = gp_sz s ∧ gp_us s_48 = gp_us s := hf_50.2.1 rfl
    exact k _ s_48 hs_49 hf_52 (pd_53) (by first | omega | assumption) (by first | omega | assumption) (by first | omega | assumption) (by first | omega | assumption)
set_option maxRecDepth 100000 in
/-- GatheredPointsModel.made -/
theorem vm_madeX  {L d : Nat} {K : Option gV → gH → Prop} {s : gH}  (p0 : BitVec 64) (p1 : BitVec 64) (p2 : Int) (p3 : Int) (hs : MI s)  (q0 : MDi s) (q1 : bd p0 (gp_I s 81 20)) (q2 : bd p1 (gp_I s 81 20)) (k : ∀ (r : Int), ∀ (t : gH), MI t → gF [76, 77, 78, 79, 80, 81] [15] s t → (0 ≤ r ∧ r ≤ 63) → (MDi t) → (r < gp_I t 81 20) → (gp_I s 81 20 ≤ gp_I t 81 20) → (gp_I t 81 20 ≤ gp_I s 81 20 + 1) → (mOut s t) → (gp_I s 81 20 < 60 → gp_I t 74 15 = gp_I s 74 15) → (MDX s t p0 p1 p2 p3 r) → K (some (gp_i r)) t) : gs_C L (d + 3) 3088 9 [gp_r (some 74), gp_l p0, gp_l p1, gp_i p2, gp_i p3] s K := by
  have f_1 := mr81 hs 20
  have f_2 := mr74_15 hs
  refine s_3088_e _ _ _ _ ?_
  have lp_3 : ∀ (n_3 : Nat) (v7_3 : Int) (v8_3 : gV), (0 ≤ v7_3 ∧ v7_3 ≤ 60) → (∀ f : Int, 0 ≤ f → f < v7_3 → ¬ (gp_L s 76 (Int.toNat (1280 + f)) = p0 ∧ gp_L s 77 (Int.toNat (1280 + f)) = p1 ∧ (p0 = 0#64 → gp_I s 78 (Int.toNat (1280 + f)) = p2) ∧ (p1 = 0#64 → gp_I s 79 (Int.toNat (1280 + f)) = p3))) → (61 - v7_3).toNat < n_3 → gs_E L (d + 3) 3088 3 [gp_r (some 74), gp_l p0, gp_n, gp_l p1, gp_n, gp_i p2, gp_i p3, gp_i v7_3, v8_3] [] s K := by
    intro n_3
    induction n_3 with
    | zero => intro v7_3 v8_3 hv7_3 iv0_3 hm_3; exact absurd hm_3 (Nat.not_lt_zero _)
    | succ n_3 ih_3 =>
      intro v7_3 v8_3 hv7_3 iv0_3 hm_3
      refine s_3088_3 _ _ _ _ _ _ ?_
      have f_4 := mr81 hs 20
      have f_5 := mr81m hs
      refine ⟨fun h_6 => ?_, fun h_6 => ?_⟩
      · try rw [show gp_wr (1280 + v7_3) = 1280 + v7_3 from gp_wr_id (by omega) (by omega)]
        refine ⟨by omega, ?_⟩
        have b_7 := mr76m hs v7_3 (by omega)
        have w_8 := gz_cmp (gp_L s 76 (Int.toNat (1280 + v7_3))) p0
        refine ⟨fun h_9 => ?_, fun h_9 => ?_⟩
        · have hz_10 : gp_L s 76 (Int.toNat (1280 + v7_3)) = p0 := (gm_cmp0 _ _).mp h_9
          refine ⟨by omega, ?_⟩
          have b_11 := mr77m hs v7_3 (by omega)
          have w_12 := gz_cmp (gp_L s 77 (Int.toNat (1280 + v7_3))) p1
          refine ⟨fun h_13 => ?_, fun h_13 => ?_⟩
          · have hz_14 : gp_L s 77 (Int.toNat (1280 + v7_3)) = p1 := (gm_cmp0 _ _).mp h_13
            refine ⟨fun h_15 => ?_, fun h_15 => ?_⟩
            · have hz_16 : p0 = 0#64 := (gm_cmp0 _ _).mp h_15
              refine ⟨by omega, ?_⟩
              refine ⟨fun h_17 => ?_, fun h_17 => ?_⟩
              · refine s_3088_65 _ _ _ _ _ _ ?_
                refine ⟨fun h_18 => ?_, fun h_18 => ?_⟩
                · have hz_19 : p1 = 0#64 := (gm_cmp0 _ _).mp h_18
                  refine ⟨by omega, ?_⟩
                  refine ⟨fun h_20 => ?_, fun h_20 => ?_⟩
                  · refine s_3088_83 _ _ _ _ _ _ ?_
                    exact k _ s hs (gF.refl _ _ _) (by omega) (by assumption) (by first | omega | assumption) (by first | omega | assumption) (by first | omega | assumption) (mOut.refl _) (by first | omega | assumption) (MDX_old (by omega) (by omega) (by assumption) (by assumption) (by first | exact fun _ => by assumption | exact fun h => absurd h (by assumption)) (by first | exact fun _ => by assumption | exact fun h => absurd h (by assumption)))
                  · refine s_3088_86 _ _ _ _ _ _ ?_
                    try rw [show gp_wr (v7_3 + 1) = v7_3 + 1 from gp_wr_id (by omega) (by omega)]
                    exact ih_3 _ _ (by omega) (nf_step iv0_3 (fun q => by first | (refine absurd q.1 ?_; assumption) | (refine absurd q.2.1 ?_; assumption) | (refine absurd (q.2.2.1 ?_) ?_ <;> assumption) | (refine absurd (q.2.2.2 ?_) ?_ <;> assumption))) (by omega)
                · have hz_21 : ¬ p1 = 0#64 := fun q => h_18 ((gm_cmp0 _ _).mpr q)
                  refine s_3088_83 _ _ _ _ _ _ ?_
                  exact k _ s hs (gF.refl _ _ _) (by omega) (by assumption) (by first | omega | assumption) (by first | omega | assumption) (by first | omega | assumption) (mOut.refl _) (by first | omega | assumption) (MDX_old (by omega) (by omega) (by assumption) (by assumption) (by first | exact fun _ => by assumption | exact fun h => absurd h (by assumption)) (by first | exact fun _ => by assumption | exact fun h => absurd h (by assumption)))
              · refine s_3088_86 _ _ _ _ _ _ ?_
                try rw [show gp_wr (v7_3 + 1) = v7_3 + 1 from gp_wr_id (by omega) (by omega)]
                exact ih_3 _ _ (by omega) (nf_step iv0_3 (fun q => by first | (refine absurd q.1 ?_; assumption) | (refine absurd q.2.1 ?_; assumption) | (refine absurd (q.2.2.1 ?_) ?_ <;> assumption) | (refine absurd (q.2.2.2 ?_) ?_ <;> assumption))) (by omega)
            · have hz_22 : ¬ p0 = 0#64 := fun q => h_15 ((gm_cmp0 _ _).mpr q)
              refine s_3088_65 _ _ _ _ _ _ ?_
              refine ⟨fun h_23 => ?_, fun h_23 => ?_⟩
              · have hz_24 : p1 = 0#64 := (gm_cmp0 _ _).mp h_23
                refine ⟨by omega, ?_⟩
                refine ⟨fun h_25 => ?_, fun h_25 => ?_⟩
                · refine s_3088_83 _ _ _ _ _ _ ?_
                  exact k _ s hs (gF.refl _ _ _) (by omega) (by assumption) (by first | omega | assumption) (by first | omega | assumption) (by first | omega | assumption) (mOut.refl _) (by first | omega | assumption) (MDX_old (by omega) (by omega) (by assumption) (by assumption) (by first | exact fun _ => by assumption | exact fun h => absurd h (by assumption)) (by first | exact fun _ => by assumption | exact fun h => absurd h (by assumption)))
                · refine s_3088_86 _ _ _ _ _ _ ?_
                  try rw [show gp_wr (v7_3 + 1) = v7_3 + 1 from gp_wr_id (by omega) (by omega)]
                  exact ih_3 _ _ (by omega) (nf_step iv0_3 (fun q => by first | (refine absurd q.1 ?_; assumption) | (refine absurd q.2.1 ?_; assumption) | (refine absurd (q.2.2.1 ?_) ?_ <;> assumption) | (refine absurd (q.2.2.2 ?_) ?_ <;> assumption))) (by omega)
              · have hz_26 : ¬ p1 = 0#64 := fun q => h_23 ((gm_cmp0 _ _).mpr q)
                refine s_3088_83 _ _ _ _ _ _ ?_
                exact k _ s hs (gF.refl _ _ _) (by omega) (by assumption) (by first | omega | assumption) (by first | omega | assumption) (by first | omega | assumption) (mOut.refl _) (by first | omega | assumption) (MDX_old (by omega) (by omega) (by assumption) (by assumption) (by first | exact fun _ => by assumption | exact fun h => absurd h (by assumption)) (by first | exact fun _ => by assumption | exact fun h => absurd h (by assumption)))
          · have hz_27 : ¬ (gp_L s 77 (Int.toNat (1280 + v7_3))) = p1 := fun q => h_13 ((gm_cmp0 _ _).mpr q)
            refine s_3088_86 _ _ _ _ _ _ ?_
            try rw [show gp_wr (v7_3 + 1) = v7_3 + 1 from gp_wr_id (by omega) (by omega)]
            exact ih_3 _ _ (by omega) (nf_step iv0_3 (fun q => by first | (refine absurd q.1 ?_; assumption) | (refine absurd q.2.1 ?_; assumption) | (refine absurd (q.2.2.1 ?_) ?_ <;> assumption) | (refine absurd (q.2.2.2 ?_) ?_ <;> assumption))) (by omega)
        · have hz_28 : ¬ (gp_L s 76 (Int.toNat (1280 + v7_3))) = p0 := fun q => h_9 ((gm_cmp0 _ _).mpr q)
          refine s_3088_86 _ _ _ _ _ _ ?_
          try rw [show gp_wr (v7_3 + 1) = v7_3 + 1 from gp_wr_id (by omega) (by omega)]
          exact ih_3 _ _ (by omega) (nf_step iv0_3 (fun q => by first | (refine absurd q.1 ?_; assumption) | (refine absurd q.2.1 ?_; assumption) | (refine absurd (q.2.2.1 ?_) ?_ <;> assumption) | (refine absurd (q.2.2.2 ?_) ?_ <;> assumption))) (by omega)
      · have f_29 := mr81 hs 20
        have f_30 := mr81m hs
        refine ⟨fun h_31 => ?_, fun h_31 => ?_⟩
        · intro s_32 e_33
          have hs_34 : MI s_32 := by rw [e_33]; exact mw74_15 hs _ (by omega)
          have hf_35 : gF [76, 77, 78, 79, 80, 81] [15] s s_32 := by rw [e_33]; exact gF.wI (gF.refl _ _ _) (Or.inr ⟨rfl, rfl⟩)
          have q_36 : gp_I s_32 81 20 = gp_I s 81 20 := by rw [e_33] <;> rfl
          have q_37 : gp_I s_32 74 15 = 1 := by rw [e_33]; exact (gz_rw _ _ _ _ _).1 rfl
          exact k _ s_32 hs_34 hf_35 (by omega) (by subst_vars; exact q0) (by first | omega | assumption) (by first | omega | assumption) (by first | omega | assumption) (by subst_vars; exact mOut_wI (mOut.refl _) (by decide)) (by first | omega | assumption) (MDX_full (MDX_no (by omega) iv0_3) (by omega) (by assumption))
        · have f_38 := mr81 hs 20
          have f_39 := mr81m hs
          refine vm_lays _ _ _ _ _ hs (by omega) (by first | assumption | exact bd_le (by assumption) (by omega) | exact bd_0 _) (by first | assumption | exact bd_le (by assumption) (by omega) | exact bd_0 _) (fun s_40 hs_41 hf_42 p_43 p_44 => ⟨rfl, ?_⟩)
          have hf_45 : gF [76, 77, 78, 79, 80, 81] [15] s s_40 := gF.sub hf_42 rfl rfl
          have q_46 := (hf_42.2 81 20 rfl (fun h => absurd h (by decide))).1
          have q_47 := (hf_42.2 74 15 rfl (fun _ => rfl)).1
          have f_48 := mr81 hs_41 20
          have f_49 := mr81m hs_41
          try rw [show gp_wr ((gp_I s_40 81 20) + 1) = (gp_I s_40 81 20) + 1 from gp_wr_id (by omega) (by omega)]
          intro s_50 e_51
          have hs_52 : MI s_50 := by rw [e_51]; exact mw81 hs_41 _ _ (by omega)
          have hf_53 : gF [76, 77, 78, 79, 80, 81] [15] s s_50 := by rw [e_51]; exact gF.wI hf_45 (Or.inl rfl)
          have q_54 : gp_I s_50 81 20 = (gp_I s_40 81 20) + 1 := by rw [e_51]; exact (gz_rw _ _ _ _ _).1 rfl
          have q_55 : gp_I s_50 74 15 = gp_I s_40 74 15 := by rw [e_51] <;> rfl
          have f_56 := mr81 hs_52 20
          have f_57 := mr81m hs_52
          try rw [show gp_wr ((gp_I s_50 81 20) - 1) = (gp_I s_50 81 20) - 1 from gp_wr_id (by omega) (by omega)]
          exact k _ s_50 hs_52 hf_53 (by omega) (by subst_vars; exact MDi_new q0 hs (by omega) (by assumption) (by assumption) q1 q2 (fun f a b => iv0_3 f a (by omega)) (by omega)) (by first | omega | assumption) (by first | omega | assumption) (by first | omega | assumption) (by subst_vars; exact mOut_81 (by assumption)) (by first | omega | assumption) (by rw [show ((gp_I s_50 81 20) - 1) = gp_I s 81 20 by omega]; exact MDX_new (MDX_no (by omega) iv0_3) (by omega) (by assumption) (by assumption) (by omega))
  exact lp_3 _ _ _ (by omega) (fun f h0 h1 => absurd h1 (by omega)) (Nat.lt_succ_self _)
set_option maxRecDepth 100000 in
/-- GatheredPointsModel.ends -/
theorem vm_endsW  {L d : Nat} {K : Option gV → gH → Prop} {s : gH}  (p0 : Int) (hs : MI s) (h_p0 : 0 ≤ p0 ∧ p0 ≤ 63) (q0 : MDi s) (q1 : p0 < gp_I s 81 20) (q2 : WI s p0) (k : ∀ (t : gH), MI t → gF [76, 77, 78, 79, 80, 81, 86, 87, 88] [] s t → (1 ≤ gp_I t 81 19 ∧ gp_I t 81 19 ≤ 60) → (mK s t) → (gp_I t 81 19 = p0 + 1) → K none t) : gs_C L (d + 184) 3093 9 [gp_r (some 74), gp_i p0, gp_i 19] s K := by
  have f_1 := mr81 hs 20
  have f_2 := mr81 hs 19
  refine s_3093_e _ _ ?_
  obtain ⟨o, hms, hmc⟩ := q0
  have h60 := mr81m hs
  obtain ⟨N, hN⟩ : ∃ N : Nat, gp_I s 81 20 = N := ⟨_, (Int.toNat_of_nonneg (by omega)).symm⟩
  rw [hN] at hms hmc
  rw [Int.toNat_natCast] at hms hmc
  refine vm_forgets hs (fun s_3 hs_4 hf_5 p_6 => ⟨rfl, ?_⟩)
  have hf_7 : gF [76, 77, 78, 79, 80, 81, 86, 87, 88] [] s s_3 := gF.sub hf_5 rfl rfl
  have mb_8 : mK s s_3 := mK_fr (mK.refl _) hf_5 rfl
  have q_9 := (hf_5.2 81 20 rfl (fun h => absurd h (by decide))).1
  have q_10 := (hf_5.2 81 19 rfl (fun h => absurd h (by decide))).1
  have hms1 := MS_fr hms hf_5 rfl rfl rfl rfl rfl
  have hmc1 : MC s_3 N o := MC_z (by assumption)
  have hWI := WI_fr q2 hf_5 rfl rfl rfl
  have lp_11 : ∀ (n_11 : Nat) (v3_11 : BitVec 64) (v5_11 : Int) (v6_11 : gV) (v7_11 : gV) (v8_11 : gV), ((-1) ≤ v5_11 ∧ v5_11 ≤ 63) → (bd v3_11 (p0 + 1)) → ((v3_11).getLsbD p0.toNat = true) → (∀ i j : Nat, v5_11 < i → (v3_11).getLsbD i = true → ((mL s_3 i).getLsbD j = true ∨ (mR s_3 i).getLsbD j = true) → (v3_11).getLsbD j = true) → (v5_11 ≤ p0) → (WB v3_11 v5_11 p0) → (gp_I s_3 81 20 = p0 + 1) → (v5_11 + 2).toNat < n_11 → gs_E L (d + 184) 3093 11 [gp_r (some 74), gp_i p0, gp_i 19, gp_l v3_11, gp_n, gp_i v5_11, v6_11, v7_11, v8_11] [] s_3 K := by
    intro n_11
    induction n_11 with
    | zero => intro v3_11 v5_11 v6_11 v7_11 v8_11 hv5_11 iv0_11 iv1_11 iv2_11 iv3_11 iv4_11 iv5_11 hm_11; exact absurd hm_11 (Nat.not_lt_zero _)
    | succ n_11 ih_11 =>
      intro v3_11 v5_11 v6_11 v7_11 v8_11 hv5_11 iv0_11 iv1_11 iv2_11 iv3_11 iv4_11 iv5_11 hm_11
      refine s_3093_11 _ _ _ _ _ _ _ ?_
      refine ⟨fun h_12 => ?_, fun h_12 => ?_⟩
      · have hcl : ClP s_3 v3_11 := fun i j => iv2_11 i j (by omega)
        have hc1 := cnt_pos iv1_11
        have hc2 := cnt_bd iv0_11 (by omega)
        have hSN : bd v3_11 N := bd_le iv0_11 (by omega)
        have hcW := cnt_WB iv4_11 (by omega) (by omega) (by omega)
        refine vm_size _ (fun x_13 p_14 p_15 => ⟨_, rfl, ?_⟩)
        have lp_16 : ∀ (n_16 : Nat) (v6_16 : Int) (v7_16 : gV) (v8_16 : gV) (s_16 : gH), (MI s_16) → (gF [76, 77, 78, 79, 80, 81, 86, 87, 88] [] s s_16) → (mK s s_16) → (0 ≤ v6_16 ∧ v6_16 ≤ 64) → (gp_I s_16 81 20 = gp_I s_3 81 20) → (gp_I s_16 81 19 = gp_I s_3 81 19) → (MS s_16 N o) → (MC s_16 N o) → (RowP s_16 o v3_11 v6_16) → (ClP s_16 v3_11) → (v6_16 ≤ x_13) → (65 - v6_16).toNat < n_16 → gs_E L (d + 184) 3093 70 [gp_r (some 74), gp_i p0, gp_i 19, gp_l v3_11, gp_n, gp_i x_13, gp_i v6_16, v7_16, v8_16] [] s_16 K := by
          intro n_16
          induction n_16 with
          | zero => intro v6_16 v7_16 v8_16 s_16 hs_s_16 hf_s_16 mK_s_16 hv6_16 tk0_16 tk1_16 iv0_16 iv1_16 iv2_16 iv3_16 iv4_16 hm_16; exact absurd hm_16 (Nat.not_lt_zero _)
          | succ n_16 ih_16 =>
            intro v6_16 v7_16 v8_16 s_16 hs_s_16 hf_s_16 mK_s_16 hv6_16 tk0_16 tk1_16 iv0_16 iv1_16 iv2_16 iv3_16 iv4_16 hm_16
            refine s_3093_70 _ _ _ _ _ _ _ ?_
            refine ⟨fun h_17 => ?_, fun h_17 => ?_⟩
            · refine vm_option20 N o _ _ hs_s_16 (by omega) (by assumption) (by assumption) (by first | omega | assumption) (by first | assumption | exact bd_le (by assumption) (by omega) | exact bd_0 _) (by first | omega | assumption) (fun x_18 s_19 hs_20 hf_21 p_22 p_23 p_24 p_25 => ⟨_, rfl, ?_⟩)
              have hf_26 : gF [76, 77, 78, 79, 80, 81, 86, 87, 88] [] s s_19 := gF.trans hf_s_16 hf_21 rfl rfl
              have mb_27 : mK s s_19 := mK_fr mK_s_16 hf_21 rfl
              have q_28 := (hf_21.2 81 20 rfl (fun h => absurd h (by decide))).1
              have q_29 := (hf_21.2 81 19 rfl (fun h => absurd h (by decide))).1
              have hrow := RowP_fr iv2_16 hf_21 rfl rfl
              have hcl7 := ClP_fr iv3_16 hf_21 rfl rfl
              refine ⟨by omega, ?_⟩
              intro s_30 e_31
              have hs_32 : MI s_30 := by rw [e_31]; exact mw87 hs_20 _ _ (by omega)
              have hf_33 : gF [76, 77, 78, 79, 80, 81, 86, 87, 88] [] s s_30 := by rw [e_31]; exact gF.wI hf_26 (Or.inl rfl)
              have q_34 : gp_I s_30 81 20 = gp_I s_19 81 20 := by rw [e_31] <;> rfl
              have q_35 : gp_I s_30 81 19 = gp_I s_19 81 19 := by rw [e_31] <;> rfl
              have mb_36 : mK s s_30 := by rw [e_31]; exact mK_wI mb_27 (by decide)
              refine ⟨by omega, ?_⟩
              have f_37 := mr87 hs_32 (Int.toNat v6_16)
              refine ⟨by omega, ?_⟩
              intro s_38 e_39
              have hs_40 : MI s_38 := by rw [e_39]; exact mw88 hs_32 _ _ (by omega)
              have hf_41 : gF [76, 77, 78, 79, 80, 81, 86, 87, 88] [] s s_38 := by rw [e_39]; exact gF.wI hf_33 (Or.inl rfl)
              have q_42 : gp_I s_38 81 20 = gp_I s_30 81 20 := by rw [e_39] <;> rfl
              have q_43 : gp_I s_38 81 19 = gp_I s_30 81 19 := by rw [e_39] <;> rfl
              have mb_44 : mK s s_38 := by rw [e_39]; exact mK_wI mb_36 (by decide)
              try rw [show gp_wr (v6_16 + 1) = v6_16 + 1 from gp_wr_id (by omega) (by omega)]
              exact ih_16 _ _ _ _ hs_40 hf_41 mb_44 (by omega) (by first | rfl | omega) (by first | rfl | omega) (by subst_vars; assumption) (by subst_vars; assumption) (by subst_vars; exact RowP_s hrow (by omega) (by assumption) ((gz_rw _ _ _ _ _).1 rfl)) (by subst_vars; exact hcl7) (by first | omega | assumption) (by omega)
            · refine ⟨by omega, ?_⟩
              intro s_45 e_46
              have hs_47 : MI s_45 := by rw [e_46]; exact mw81 hs_s_16 _ _ (by omega)
              have hf_48 : gF [76, 77, 78, 79, 80, 81, 86, 87, 88] [] s s_45 := by rw [e_46]; exact gF.wI hf_s_16 (Or.inl rfl)
              have q_49 := gz_rw s_16 81 (Int.toNat 19) 20 x_13; rw [← e_46] at q_49
              have q_50 := gz_rw s_16 81 (Int.toNat 19) 19 x_13; rw [← e_46] at q_50
              have mb_51 : mK s s_45 := by rw [e_46]; exact mK_81 mK_s_16 (by omega)
              have lp_52 : ∀ (n_52 : Nat) (v6_52 : Int) (v7_52 : gV) (v8_52 : gV) (s_52 : gH), (MI s_52) → (gF [76, 77, 78, 79, 80, 81, 86, 87, 88] [] s s_52) → (mK s s_52) → (0 ≤ v6_52 ∧ v6_52 ≤ 64) → (gp_I s_52 81 20 = gp_I s_45 81 20) → (gp_I s_52 81 19 = gp_I s_45 81 19) → (MS s_52 N o) → (RowP s_52 o v3_11 x_13) → (ClP s_52 v3_11) → (65 - v6_52).toNat < n_52 → gs_E L (d + 184) 3093 124 [gp_r (some 74), gp_i p0, gp_i 19, gp_l v3_11, gp_n, gp_i x_13, gp_i v6_52, v7_52, v8_52] [] s_52 K := by
                intro n_52
                induction n_52 with
                | zero => intro v6_52 v7_52 v8_52 s_52 hs_s_52 hf_s_52 mK_s_52 hv6_52 tk0_52 tk1_52 iv0_52 iv1_52 iv2_52 hm_52; exact absurd hm_52 (Nat.not_lt_zero _)
                | succ n_52 ih_52 =>
                  intro v6_52 v7_52 v8_52 s_52 hs_s_52 hf_s_52 mK_s_52 hv6_52 tk0_52 tk1_52 iv0_52 iv1_52 iv2_52 hm_52
                  refine s_3093_124 _ _ _ _ _ _ _ ?_
                  refine ⟨fun h_53 => ?_, fun h_53 => ?_⟩
                  · refine ⟨by omega, ?_⟩
                    have f_54 := mr87 hs_s_52 (Int.toNat v6_52)
                    try rw [show gp_wr (1280 + (gp_I s_52 87 (Int.toNat v6_52))) = 1280 + (gp_I s_52 87 (Int.toNat v6_52)) from gp_wr_id (by omega) (by omega)]
                    try rw [show gp_wr (64 * 19) = 64 * 19 from gp_wr_id (by omega) (by omega)]
                    try rw [show gp_wr ((64 * 19) + v6_52) = (64 * 19) + v6_52 from gp_wr_id (by omega) (by omega)]
                    refine ⟨by omega, ?_⟩
                    have b_55 := mr76m hs_s_52 (gp_I s_52 87 (Int.toNat v6_52)) (by omega)
                    refine vm_placed v6_52 _ hs_s_52 (by intro w hw; rw [ix20m (by omega)] at hw; exact place_lt iv0_52 hSN (by first | rfl | assumption) iv1_52 (by omega) iv2_52 (Or.inl hw)) (fun m_56 p_57 => ⟨_, rfl, ?_⟩)
                    refine ⟨by omega, ?_⟩
                    intro s_58 e_59
                    have hs_60 : MI s_58 := by rw [e_59]; exact mw76 hs_s_52 _ _ (by exact bd_le (by assumption) (by omega))
                    have hf_61 : gF [76, 77, 78, 79, 80, 81, 86, 87, 88] [] s s_58 := by rw [e_59]; exact gF.wL hf_s_52 (Or.inl rfl)
                    have q_62 : gp_I s_58 81 20 = gp_I s_52 81 20 := by rw [e_59] <;> rfl
                    have q_63 : gp_I s_58 81 19 = gp_I s_52 81 19 := by rw [e_59] <;> rfl
                    have mb_64 : mK s s_58 := by rw [e_59]; exact mK_wL mK_s_52 (by decide)
                    refine ⟨by omega, ?_⟩
                    have b_65 := mr77m hs_60 (gp_I s_52 87 (Int.toNat v6_52)) (by omega)
                    refine vm_placed v6_52 _ hs_60 (by subst_vars; intro w hw; rw [ix20m (by omega)] at hw; exact place_lt iv0_52 hSN (by first | rfl | assumption) iv1_52 (by omega) iv2_52 (Or.inr hw)) (fun m_66 p_67 => ⟨_, rfl, ?_⟩)
                    refine ⟨by omega, ?_⟩
                    intro s_68 e_69
                    have hs_70 : MI s_68 := by rw [e_69]; exact mw77 hs_60 _ _ (by exact bd_le (by assumption) (by omega))
                    have hf_71 : gF [76, 77, 78, 79, 80, 81, 86, 87, 88] [] s s_68 := by rw [e_69]; exact gF.wL hf_61 (Or.inl rfl)
                    have q_72 : gp_I s_68 81 20 = gp_I s_58 81 20 := by rw [e_69] <;> rfl
                    have q_73 : gp_I s_68 81 19 = gp_I s_58 81 19 := by rw [e_69] <;> rfl
                    have mb_74 : mK s s_68 := by rw [e_69]; exact mK_wL mb_64 (by decide)
                    refine ⟨by omega, ?_⟩
                    refine ⟨by omega, ?_⟩
                    intro s_75 e_76
                    have hs_77 : MI s_75 := by rw [e_76]; exact mw78 hs_70 _ _
                    have hf_78 : gF [76, 77, 78, 79, 80, 81, 86, 87, 88] [] s s_75 := by rw [e_76]; exact gF.wI hf_71 (Or.inl rfl)
                    have q_79 : gp_I s_75 81 20 = gp_I s_68 81 20 := by rw [e_76] <;> rfl
                    have q_80 : gp_I s_75 81 19 = gp_I s_68 81 19 := by rw [e_76] <;> rfl
                    have mb_81 : mK s s_75 := by rw [e_76]; exact mK_wI mb_74 (by decide)
                    refine ⟨by omega, ?_⟩
                    refine ⟨by omega, ?_⟩
                    intro s_82 e_83
                    have hs_84 : MI s_82 := by rw [e_83]; exact mw79 hs_77 _ _
                    have hf_85 : gF [76, 77, 78, 79, 80, 81, 86, 87, 88] [] s s_82 := by rw [e_83]; exact gF.wI hf_78 (Or.inl rfl)
                    have q_86 : gp_I s_82 81 20 = gp_I s_75 81 20 := by rw [e_83] <;> rfl
                    have q_87 : gp_I s_82 81 19 = gp_I s_75 81 19 := by rw [e_83] <;> rfl
                    have mb_88 : mK s s_82 := by rw [e_83]; exact mK_wI mb_81 (by decide)
                    refine ⟨by omega, ?_⟩
                    have f_89 := mr80 hs_84 (Int.toNat (1280 + (gp_I s_52 87 (Int.toNat v6_52))))
                    refine ⟨by omega, ?_⟩
                    intro s_90 e_91
                    have hs_92 : MI s_90 := by rw [e_91]; exact mw80 hs_84 _ _ (by omega)
                    have hf_93 : gF [76, 77, 78, 79, 80, 81, 86, 87, 88] [] s s_90 := by rw [e_91]; exact gF.wI hf_85 (Or.inl rfl)
                    have q_94 : gp_I s_90 81 20 = gp_I s_82 81 20 := by rw [e_91] <;> rfl
                    have q_95 : gp_I s_90 81 19 = gp_I s_82 81 19 := by rw [e_91] <;> rfl
                    have mb_96 : mK s s_90 := by rw [e_91]; exact mK_wI mb_88 (by decide)
                    try rw [show gp_wr (v6_52 + 1) = v6_52 + 1 from gp_wr_id (by omega) (by omega)]
                    exact ih_52 _ _ _ _ hs_92 hf_93 mb_96 (by omega) (by first | rfl | omega) (by first | rfl | omega) (by subst_vars; exact MS_5 iv0_52 (by omega)) (by subst_vars; exact iv1_52) (by subst_vars; exact ClP_5 iv2_52 (by omega)) (by omega)
                  · exact k s_52 hs_s_52 hf_s_52 (by first | omega | assumption) mK_s_52 (by first | omega | assumption)
              exact lp_52 _ _ _ _ _ hs_47 hf_48 mb_51 (by omega) (by first | rfl | omega) (by first | rfl | omega) (by subst_vars; exact iv0_16) (by subst_vars; exact fun j hj => iv2_16 j (by omega)) (by subst_vars; exact iv3_16) (Nat.lt_succ_self _)
        exact lp_16 _ _ _ _ _ hs_4 hf_7 mb_8 (by omega) (by first | rfl | omega) (by first | rfl | omega) (by subst_vars; assumption) (by subst_vars; assumption) (fun j hj => absurd hj (by omega)) (hcl) (by first | omega | assumption) (Nat.lt_succ_self _)
      · refine vm_has _ _ (by omega) (fun x_97 p_98 p_99 => ⟨_, rfl, ?_⟩)
        refine ⟨fun h_100 => ?_, fun h_100 => ?_⟩
        · have hb_101 := hasF p_99 h_100
          refine s_3093_53 _ _ _ _ _ _ _ _ _ ?_
          try rw [show gp_wr (v5_11 + (-1)) = v5_11 + (-1) from gp_wr_id (by omega) (by omega)]
          exact ih_11 _ _ _ _ _ (by omega) (by first | (refine bd_or iv0_11 ?_; exact bd_0 _) | (refine bd_or iv0_11 (bd_or (bd_le (by assumption) ?_) (bd_le (by assumption) ?_)) <;> omega)) (or_bit iv1_11) (by first | (refine cl_3 ?_ ?_ iv2_11 <;> first | omega | assumption) | (refine cl_2 ?_ ?_ ?_ ?_ iv2_11 <;> first | omega | assumption)) (by first | omega | assumption) (by first | exact WB_ss iv4_11 hWI (by omega) (by omega) (by omega) | exact absurd ((iv4_11 (Int.toNat v5_11)).mpr ⟨by omega, by omega⟩) (by simp [*])) (iv5_11) (by omega)
        · have hb_102 := hasT p_99 h_100
          try rw [show gp_wr (1280 + v5_11) = 1280 + v5_11 from gp_wr_id (by omega) (by omega)]
          refine ⟨by omega, ?_⟩
          have b_103 := mr76m hs_4 v5_11 (by omega)
          try rw [show gp_wr (1280 + v5_11) = 1280 + v5_11 from gp_wr_id (by omega) (by omega)]
          refine ⟨by omega, ?_⟩
          have b_104 := mr77m hs_4 v5_11 (by omega)
          refine s_3093_53 _ _ _ _ _ _ _ _ _ ?_
          try rw [show gp_wr (v5_11 + (-1)) = v5_11 + (-1) from gp_wr_id (by omega) (by omega)]
          exact ih_11 _ _ _ _ _ (by omega) (by first | (refine bd_or iv0_11 ?_; exact bd_0 _) | (refine bd_or iv0_11 (bd_or (bd_le (by assumption) ?_) (bd_le (by assumption) ?_)) <;> omega)) (or_bit iv1_11) (by first | (refine cl_3 ?_ ?_ iv2_11 <;> first | omega | assumption) | (refine cl_2 ?_ ?_ ?_ ?_ iv2_11 <;> first | omega | assumption)) (by first | omega | assumption) (by first | exact WB_ss iv4_11 hWI (by omega) (by omega) (by omega) | exact absurd ((iv4_11 (Int.toNat v5_11)).mpr ⟨by omega, by omega⟩) (by simp [*])) (iv5_11) (by omega)
  exact lp_11 _ _ _ _ _ _ (by omega) (bd_sh (by omega) (by omega) (by omega)) (one_self (by omega) (by omega)) (fun i j h0 h1 => absurd (bd_sh (n := p0 + 1) (by omega) (by omega) (by omega) i h1) (by omega)) (by first | omega | assumption) (WB_0 (by omega) (by omega)) (hWI.1) (Nat.lt_succ_self _)
set_option maxRecDepth 100000 in
/-- GatheredPointsModel.waitsOf -/
theorem vm_waitsOfX  {L d : Nat} {K : Option gV → gH → Prop} {s : gH}  (p0 : Int) (hs : MI s) (h_p0 : 0 ≤ p0 ∧ p0 ≤ 20)  (k : ∀ (t : gH), MI t → gF [76, 77, 78, 79, 80, 81, 86, 87, 88] [15] s t → (1 ≤ gp_I t 81 19 ∧ gp_I t 81 19 ≤ 60) → (mK s t) → (gp_I t 81 19 = p0 + 1) → K none t) : gs_C L (d + 185) 3122 4 [gp_r (some 74), gp_i p0] s K := by
  have f_1 := mr81 hs 20
  have f_2 := mr81 hs 19
  refine s_3122_e _ ?_
  refine vm_begins2 hs (fun s_3 hs_4 hf_5 p_6 p_7 p_8 p_9 => ⟨rfl, ?_⟩)
  have hf_10 : gF [76, 77, 78, 79, 80, 81, 86, 87, 88] [15] s s_3 := gF.sub hf_5 rfl rfl
  have mb_11 : mK s s_3 := mK.trans (mK.refl _) (mK_o p_9)
  have q_12 := p_9.1 19 (by omega)
  refine vm_madeX _ _ _ _ hs_4 (p_8) (bd_0 _) (bd_0 _) (fun x_13 s_14 hs_15 hf_16 p_17 p_18 p_19 p_20 p_21 p_22 p_23 p_24 => ⟨_, rfl, ?_⟩)
  have hf_25 : gF [76, 77, 78, 79, 80, 81, 86, 87, 88] [15] s s_14 := gF.trans hf_10 hf_16 rfl rfl
  have mb_26 : mK s s_14 := mK.trans mb_11 (mK_o p_22)
  have q_27 := p_22.1 19 (by omega)
  have hw0 := WI_0 (by omega) p_24
  have lp_28 : ∀ (n_28 : Nat) (v2_28 : Int) (v3_28 : Int) (s_28 : gH), (MI s_28) → (gF [76, 77, 78, 79, 80, 81, 86, 87, 88] [15] s s_28) → (MDi s_28) → (mK s s_28) → (0 ≤ v2_28 ∧ v2_28 ≤ 63) → (0 ≤ v3_28 ∧ v3_28 ≤ 20) → (v2_28 < gp_I s_28 81 20) → (WI s_28 v3_28) → (v2_28 = v3_28) → (v3_28 ≤ p0) → (21 - v3_28).toNat < n_28 → gs_E L (d + 185) 3122 15 [gp_r (some 74), gp_i p0, gp_i v2_28, gp_i v3_28] [] s_28 K := by
    intro n_28
    induction n_28 with
    | zero => intro v2_28 v3_28 s_28 hs_s_28 hf_s_28 MDi_s_28 mK_s_28 hv2_28 hv3_28 iv0_28 iv1_28 iv2_28 iv3_28 hm_28; exact absurd hm_28 (Nat.not_lt_zero _)
    | succ n_28 ih_28 =>
      intro v2_28 v3_28 s_28 hs_s_28 hf_s_28 MDi_s_28 mK_s_28 hv2_28 hv3_28 iv0_28 iv1_28 iv2_28 iv3_28 hm_28
      refine s_3122_15 _ _ _ ?_
      refine ⟨fun h_29 => ?_, fun h_29 => ?_⟩
      · have hwi9 := iv1_28
        refine vm_madeX _ _ _ _ hs_s_28 (MDi_s_28) (bd_sh (by omega) (by omega) (by omega)) (bd_0 _) (fun x_30 s_31 hs_32 hf_33 p_34 p_35 p_36 p_37 p_38 p_39 p_40 p_41 => ⟨_, rfl, ?_⟩)
        have hf_42 : gF [76, 77, 78, 79, 80, 81, 86, 87, 88] [15] s s_31 := gF.trans hf_s_28 hf_33 rfl rfl
        have mb_43 : mK s s_31 := mK.trans mK_s_28 (mK_o p_39)
        have q_44 := p_39.1 19 (by omega)
        have hws := WI_s hwi9 (by omega) (by omega) (by rw [show (Int.toNat (v2_28 % 64)) = Int.toNat v3_28 by omega]) p_41
        try rw [show gp_wr (v3_28 + 1) = v3_28 + 1 from gp_wr_id (by omega) (by omega)]
        exact ih_28 _ _ _ hs_32 hf_42 p_35 mb_43 (by omega) (by omega) (by first | omega | assumption) (hws.1) (by first | omega | assumption) (by first | omega | assumption) (by omega)
      · have hwe : WI s_28 v2_28 := by rw [show v2_28 = v3_28 by omega]; exact iv1_28
        refine vm_endsW _ hs_s_28 (by omega) (MDi_s_28) (by first | omega | assumption) (by first | omega | assumption) (fun s_45 hs_46 hf_47 p_48 p_49 p_50 => ⟨rfl, ?_⟩)
        have hf_51 : gF [76, 77, 78, 79, 80, 81, 86, 87, 88] [15] s s_45 := gF.trans hf_s_28 hf_47 rfl rfl
        have mb_52 : mK s s_45 := mK.trans mK_s_28 p_49
        exact k s_45 hs_46 hf_51 (by first | omega | assumption) mb_52 (by first | omega | assumption)
  exact lp_28 _ _ _ _ hs_15 hf_25 p_18 mb_26 (by omega) (by omega) (by first | omega | assumption) (hw0.1) (by first | omega | assumption) (by first | omega | assumption) (Nat.lt_succ_self _)
set_option maxRecDepth 100000 in
/-- GatheredPointsModel.holds -/
theorem vm_holdsX  {L d : Nat} {K : Option gV → gH → Prop} {s : gH}  (p0 : Int) (hs : MI s) (h_p0 : 0 ≤ p0 ∧ p0 ≤ 7) (q0 : 1 ≤ gp_I s 81 19) (k : ∀ (r : Int), ∀ (t : gH), MI t → gF [76, 77, 78, 79, 80, 81] [] s t → (0 ≤ r ∧ r ≤ 64) → (∀ k : Nat, k ≠ p0.toNat → gp_I t 81 k = gp_I s 81 k) → (mK s t) → (r = gp_I s 81 19) → K (some (gp_i r)) t) : gs_C L (d + 1) 3123 2 [gp_r (some 74), gp_i p0] s K := by
  have f_1 := mr81 hs 19
  refine s_3123_e _ ?_
  refine vm_copies _ _ hs (by omega) (by omega) (by first | omega | assumption) (by show (p0 < 8 → 1 ≤ gp_I s 81 19); first | omega | assumption) (fun s_2 hs_3 hf_4 p_5 p_6 => ⟨rfl, ?_⟩)
  have hf_7 : gF [76, 77, 78, 79, 80, 81] [] s s_2 := gF.sub hf_4 rfl rfl
  have p_8 : gp_I s_2 81 p0.toNat = gp_I s 81 19 := p_5
  refine ⟨by omega, ?_⟩
  have f_9 := mr81 hs_3 (Int.toNat p0)
  have f_10 := mr81s hs_3 (Int.toNat p0) (by omega)
  exact k _ s_2 hs_3 hf_7 (by omega) (by assumption) (fun k a b c => p_6 k (by omega)) (by first | omega | assumption)
set_option maxRecDepth 100000 in
/-- GatheredPointsModel.waits -/
theorem wp_waits2  {L d : Nat} {K : Option gV → gH → Prop} {s : gH}  (p0 : Int) (p1 : Int) (hs : MI s) (h_p0 : (-2147483648) ≤ p0 ∧ p0 ≤ 2147483647) (h_p1 : (-2147483648) ≤ p1 ∧ p1 ≤ 2147483647)  (k : ∀ (r : Int), ∀ (t : gH), MI t → gF [75, 76, 77, 78, 79, 80, 81, 86, 87, 88] [15] s t → (mK s t) → (0 ≤ p0 ∧ p0 ≤ 7 ∧ 0 ≤ p1 ∧ p1 ≤ 20 → r = p1 + 1) → (¬ (0 ≤ p0 ∧ p0 ≤ 7 ∧ 0 ≤ p1 ∧ p1 ≤ 20) → r = -1000000001) → K (some (gp_i r)) t) : gs_C L (d + 186) 3145 3 [gp_r (some 74), gp_i p0, gp_i p1] s K := by
  have f_1 := mr81 hs 19
  refine s_3145_e _ _ ?_
  refine vm_isSlot _ (fun x_2 p_3 p_4 p_5 => ⟨_, rfl, ?_⟩)
  refine ⟨fun h_6 => ?_, fun h_6 => ?_⟩
  · refine s_3145_19 _ _ ?_
    refine vm_finds _ hs (by omega) (fun x_7 s_8 hs_9 hf_10 p_11 p_12 => ⟨_, rfl, ?_⟩)
    have hf_13 : gF [75, 76, 77, 78, 79, 80, 81, 86, 87, 88] [15] s s_8 := gF.sub hf_10 rfl rfl
    have mb_14 : mK s s_8 := mK_fr (mK.refl _) hf_10 rfl
    have q_15 := (hf_10.2 81 19 rfl (fun h => absurd h (by decide))).1
    exact k _ s_8 hs_9 hf_13 mb_14 (by first | omega | assumption) (by first | omega | assumption)
  · have w_16 := gz_oi (p1) (by omega)
    refine vm_isIn _ _ _ (fun x_17 p_18 p_19 => ⟨_, rfl, ?_⟩)
    have w_20 : BitVec.toInt (0#64) = 0 := by decide
    have w_21 : BitVec.toInt (BitVec.ofInt 64 20) = 20 := by decide
    refine ⟨fun h_22 => ?_, fun h_22 => ?_⟩
    · refine s_3145_19 _ _ ?_
      refine vm_finds _ hs (by omega) (fun x_23 s_24 hs_25 hf_26 p_27 p_28 => ⟨_, rfl, ?_⟩)
      have hf_29 : gF [75, 76, 77, 78, 79, 80, 81, 86, 87, 88] [15] s s_24 := gF.sub hf_26 rfl rfl
      have mb_30 : mK s s_24 := mK_fr (mK.refl _) hf_26 rfl
      have q_31 := (hf_26.2 81 19 rfl (fun h => absurd h (by decide))).1
      exact k _ s_24 hs_25 hf_29 mb_30 (by first | omega | assumption) (by first | omega | assumption)
    · refine vm_waitsOfX _ hs (by omega) (fun s_32 hs_33 hf_34 p_35 p_36 p_37 => ⟨rfl, ?_⟩)
      have hf_38 : gF [75, 76, 77, 78, 79, 80, 81, 86, 87, 88] [15] s s_32 := gF.sub hf_34 rfl rfl
      have mb_39 : mK s s_32 := mK.trans (mK.refl _) p_36
      refine vm_holdsX _ hs_33 (by omega) (by first | omega | assumption) (fun x_40 s_41 hs_42 hf_43 p_44 p_45 p_46 p_47 => ⟨_, rfl, ?_⟩)
      have hf_48 : gF [75, 76, 77, 78, 79, 80, 81, 86, 87, 88] [15] s s_41 := gF.trans hf_38 hf_43 rfl rfl
      have mb_49 : mK s s_41 := mK.trans mb_39 p_46
      exact k _ s_41 hs_42 hf_48 mb_49 (by first | omega | assumption) (by first | omega | assumption)
