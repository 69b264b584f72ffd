/-! the reducer -/
theorem sub_or1 {a y : BitVec 64} {x : Int} (h : sub a y) (hx : 0 ≤ x ∧ x < 64) (b : y.getLsbD x.toNat = true) : sub (a ||| (1#64 <<< (x % 64).toNat)) y := by
  intro i hi
  rw [BitVec.getLsbD_or, Bool.or_eq_true] at hi
  rcases hi with q | q
  · exact h i q
  · rw [BitVec.getLsbD_shiftLeft] at q
    have e : i = x.toNat := by simp at q; omega
    rw [e]; exact b
theorem sub.or {a b y : BitVec 64} (h : sub a y) (g : sub b y) : sub (a ||| b) y := by
  intro i hi
  rw [BitVec.getLsbD_or, Bool.or_eq_true] at hi
  exact hi.elim (h i) (g i)
theorem sub.zero (y : BitVec 64) : sub 0#64 y := fun i h => by simp at h
theorem drop_bit {m : BitVec 64} {x : Int} (hx : 0 ≤ x ∧ x < 64) (i : Nat) : (m &&& ((1#64 <<< (x % 64).toNat) ^^^ BitVec.ofInt 64 (-1))).getLsbD i = (m.getLsbD i && !decide (i = x.toNat)) := by
  by_cases hi : i < 64
  · have e : BitVec.ofInt 64 (-1) = BitVec.allOnes 64 := by decide
    rw [BitVec.getLsbD_and, e, BitVec.getLsbD_xor, BitVec.getLsbD_shiftLeft, show (x % 64).toNat = x.toNat by omega, BitVec.getLsbD_allOnes]
    by_cases c : i = x.toNat
    · subst c; simp [hi]
    · simp [hi, c]
      intro _; omega
  · rw [BitVec.getLsbD_of_ge _ _ (by omega), BitVec.getLsbD_of_ge m _ (by omega)]; rfl
theorem drop_cnt {m : BitVec 64} {x : Int} (hx : 0 ≤ x ∧ x < 64) (h : m.getLsbD x.toNat = true) : gm_cnt m 64 = gm_cnt (m &&& ((1#64 <<< (x % 64).toNat) ^^^ BitVec.ofInt 64 (-1))) 64 + 1 := by
  rw [cnt_drop h (drop_bit hx), if_pos (by omega)]
/-- places of the first ones, in what is kept -/
def RP (i : Int) (s : gH) : Prop := ∀ k : Nat, (k : Int) < i → 0 ≤ gp_I s 45 k ∧ gp_I s 45 k < gp_I s 6 4
theorem RP_0 (s : gH) : RP 0 s := fun k hk => by omega
theorem RP_fr {L : Nat} {al : Bool} {m : List Nat} {i : Int} {s t : gH} (h : RP i s) (g : gX L al m s t) (e : m.contains 45 = false) (e6 : m.contains 1196 = false) : RP i t := by
  intro k hk
  rw [(g.2.2.1 45 k (by decide) (by decide) e).1, (g.2.2.1 6 4 (by decide) (by decide) e6).1]
  exact h k hk
theorem RP_wL {i : Int} {s : gH} {c k : Nat} {v : BitVec 64} (h : RP i s) (_ : 10 ≤ c) : RP i (gp_wL s c k v) := fun k hk => h k hk
theorem RP_step {L : Nat} {al : Bool} {m : List Nat} {i x : Int} {s v t : gH} (h : RP i s) (hi : 0 ≤ i) (g : gX L al m s v) (m1 : m.contains 45 = false) (et : t = gp_wI v 45 (Int.toNat i) x) (hN : gp_I s 6 4 ≤ gp_I v 6 4) (hx : 0 ≤ x) (hx2 : x < gp_I v 6 4) : RP (i + 1) t := by
  have e6 : gp_I t 6 4 = gp_I v 6 4 := by rw [et]; rfl
  unfold RP
  rw [e6]
  exact ng_step (c := 45) (by decide) hi h g (fun _ => m1) et hN hx hx2
set_option maxRecDepth 100000 in
/-- Reducer.open -/
theorem xm_open8  {L d : Nat} {K : Option gV → gH → Prop} {s : gH}  (p0 : BitVec 64) (hs : XI L 0 s)  (q0 : bd p0 61) (k : ∀ (r : BitVec 64), (sub r p0) → K (some (gp_l r)) s) : gs_C L (d + 2) 1540 8 [gp_l p0, gp_r (some 8)] s K := by
  refine s_1540_e _ _ ?_
  have lp_2 : ∀ (n_2 : Nat) (v3_2 : BitVec 64) (v5_2 : BitVec 64) (v7_2 : gV), (sub v3_2 p0) → (sub v5_2 p0) → ((v5_2).toNat) < n_2 → gs_E L (d + 2) 1540 5 [gp_l p0, gp_n, gp_r (some 8), gp_l v3_2, gp_n, gp_l v5_2, gp_n, v7_2] [] s K := by
    intro n_2
    induction n_2 with
    | zero => intro v3_2 v5_2 v7_2 iv0_2 iv1_2 hm_2; exact absurd hm_2 (Nat.not_lt_zero _)
    | succ n_2 ih_2 =>
      intro v3_2 v5_2 v7_2 iv0_2 iv1_2 hm_2
      refine s_1540_5 _ _ _ _ _ ?_
      refine ⟨fun h_3 => ?_, fun h_3 => ?_⟩
      · have hz_4 : v5_2 = 0#64 := (gm_cmp0 _ _).mp h_3
        exact k _ (iv0_2)
      · have hz_5 : ¬ v5_2 = 0#64 := fun q => h_3 ((gm_cmp0 _ _).mpr q)
        refine xm_lowest _ (fun x_6 p_7 p_8 => ⟨_, rfl, ?_⟩)
        have hlw := iv1_2.low (by assumption) p_8
        have hl0 := q0 _ hlw.2.2
        refine ⟨8, rfl, ?_⟩
        refine ⟨⟨rfl, by show 0 ≤ x_6 ∧ x_6 < 61; omega⟩, ?_⟩
        have b_9 : bd (gp_L s 8 (Int.toNat x_6)) x_6 := bd_le (xr8 hs (Int.toNat x_6)) (by omega)
        refine ⟨fun h_10 => ?_, fun h_10 => ?_⟩
        · have hz_11 : gp_L s 8 (Int.toNat x_6) = 0#64 := (gm_cmp0 _ _).mp h_10
          refine s_1540_35 _ _ _ _ _ ?_
          exact ih_2 _ _ _ (by first | exact iv0_2 | exact sub_or1 iv0_2 (by omega) hlw.2.2) (by first | assumption | exact sub.refl _ | exact sub.rest (by assumption)) (by have := rest_lt (by assumption : ¬ v5_2 = 0#64); omega)
        · have hz_14 : ¬ (gp_L s 8 (Int.toNat x_6)) = 0#64 := fun q => h_10 ((gm_cmp0 _ _).mpr q)
          refine s_1540_35 _ _ _ _ _ ?_
          exact ih_2 _ _ _ (by first | exact iv0_2 | exact sub_or1 iv0_2 (by omega) hlw.2.2) (by first | assumption | exact sub.refl _ | exact sub.rest (by assumption)) (by have := rest_lt (by assumption : ¬ v5_2 = 0#64); omega)
  exact lp_2 _ _ _ _ (sub.zero _) (by first | assumption | exact sub.refl _ | exact sub.rest (by assumption)) (Nat.lt_succ_self _)
set_option maxRecDepth 100000 in
/-- Reducer.open -/
theorem xm_open9  {L d : Nat} {K : Option gV → gH → Prop} {s : gH}  (p0 : BitVec 64) (hs : XI L 0 s)  (q0 : bd p0 61) (k : ∀ (r : BitVec 64), (sub r p0) → K (some (gp_l r)) s) : gs_C L (d + 2) 1540 8 [gp_l p0, gp_r (some 9)] s K := by
  refine s_1540_e _ _ ?_
  have lp_2 : ∀ (n_2 : Nat) (v3_2 : BitVec 64) (v5_2 : BitVec 64) (v7_2 : gV), (sub v3_2 p0) → (sub v5_2 p0) → ((v5_2).toNat) < n_2 → gs_E L (d + 2) 1540 5 [gp_l p0, gp_n, gp_r (some 9), gp_l v3_2, gp_n, gp_l v5_2, gp_n, v7_2] [] s K := by
    intro n_2
    induction n_2 with
    | zero => intro v3_2 v5_2 v7_2 iv0_2 iv1_2 hm_2; exact absurd hm_2 (Nat.not_lt_zero _)
    | succ n_2 ih_2 =>
      intro v3_2 v5_2 v7_2 iv0_2 iv1_2 hm_2
      refine s_1540_5 _ _ _ _ _ ?_
      refine ⟨fun h_3 => ?_, fun h_3 => ?_⟩
      · have hz_4 : v5_2 = 0#64 := (gm_cmp0 _ _).mp h_3
        exact k _ (iv0_2)
      · have hz_5 : ¬ v5_2 = 0#64 := fun q => h_3 ((gm_cmp0 _ _).mpr q)
        refine xm_lowest _ (fun x_6 p_7 p_8 => ⟨_, rfl, ?_⟩)
        have hlw := iv1_2.low (by assumption) p_8
        have hl0 := q0 _ hlw.2.2
        refine ⟨9, rfl, ?_⟩
        refine ⟨⟨rfl, by show 0 ≤ x_6 ∧ x_6 < 61; omega⟩, ?_⟩
        have b_9 : bd (gp_L s 9 (Int.toNat x_6)) x_6 := bd_le (xr9 hs (Int.toNat x_6)) (by omega)
        refine ⟨fun h_10 => ?_, fun h_10 => ?_⟩
        · have hz_11 : gp_L s 9 (Int.toNat x_6) = 0#64 := (gm_cmp0 _ _).mp h_10
          refine s_1540_35 _ _ _ _ _ ?_
          exact ih_2 _ _ _ (by first | exact iv0_2 | exact sub_or1 iv0_2 (by omega) hlw.2.2) (by first | assumption | exact sub.refl _ | exact sub.rest (by assumption)) (by have := rest_lt (by assumption : ¬ v5_2 = 0#64); omega)
        · have hz_14 : ¬ (gp_L s 9 (Int.toNat x_6)) = 0#64 := fun q => h_10 ((gm_cmp0 _ _).mpr q)
          refine s_1540_35 _ _ _ _ _ ?_
          exact ih_2 _ _ _ (by first | exact iv0_2 | exact sub_or1 iv0_2 (by omega) hlw.2.2) (by first | assumption | exact sub.refl _ | exact sub.rest (by assumption)) (by have := rest_lt (by assumption : ¬ v5_2 = 0#64); omega)
  exact lp_2 _ _ _ _ (sub.zero _) (by first | assumption | exact sub.refl _ | exact sub.rest (by assumption)) (Nat.lt_succ_self _)
set_option maxRecDepth 100000 in
/-- Reducer.leftTurned -/
theorem xm_leftTurned  {L d : Nat} {K : Option gV → gH → Prop} {s : gH}   (hs : XI L 0 s)  (q0 : bd (gp_L s 41 4) (gp_I s 6 4)) (k : ∀ (r : Int), ∀ (t : gH), XI L 0 t → gX L false [2316] s t → (0 ≤ r ∧ r ≤ 1) → (bd (gp_L t 41 4) (gp_I t 6 4)) → K (some (gp_i r)) t) : gs_C L (d + 3) 1538 8 [gp_r (some 41)] s K := by
  have f_1 := xr6_4 hs
  refine s_1538_e ?_
  have hN60 := xr6_4 hs
  refine xm_bc _ (fun x_2 p_3 p_4 => ⟨_, rfl, ?_⟩)
  have lp_5 : ∀ (n_5 : Nat) (v2_5 : BitVec 64) (v4_5 : Int) (v5_5 : gV) (v6_5 : gV) (v7_5 : gV), (0 ≤ v4_5 ∧ v4_5 ≤ 64) → (sub v2_5 (gp_L s 41 4)) → ((gm_cnt v2_5 64 : Nat) = v4_5) → (v4_5 + 1).toNat < n_5 → gs_E L (d + 3) 1538 22 [gp_r (some 41), gp_r (some 7), gp_l v2_5, gp_n, gp_i v4_5, v5_5, v6_5, v7_5] [] s K := by
    intro n_5
    induction n_5 with
    | zero => intro v2_5 v4_5 v5_5 v6_5 v7_5 hv4_5 iv0_5 iv1_5 hm_5; exact absurd hm_5 (Nat.not_lt_zero _)
    | succ n_5 ih_5 =>
      intro v2_5 v4_5 v5_5 v6_5 v7_5 hv4_5 iv0_5 iv1_5 hm_5
      refine s_1538_22 _ _ _ _ _ ?_
      refine ⟨fun h_6 => ?_, fun h_6 => ?_⟩
      · refine xm_first _ hs (cnt_nz (by omega)) (bd_le (iv0_5.bd q0) (by omega)) (fun x_7 p_8 p_9 => ⟨_, rfl, ?_⟩)
        have hx5 := p_9
        have hx6 := q0 _ (iv0_5 _ hx5)
        refine ⟨by omega, ?_⟩
        have b_10 : bd (gp_L s 9 (Int.toNat x_7)) x_7 := bd_le (xr9 hs (Int.toNat x_7)) (by omega)
        have f_11 := xr6_4 hs
        refine ⟨by omega, ?_⟩
        refine xm_open8 _ hs (bd_le (bd_and (by assumption)) (by omega)) (fun m_12 p_13 => ⟨_, rfl, ?_⟩)
        have hsu := p_13
        refine ⟨fun h_14 => ?_, fun h_14 => ?_⟩
        · have hz_15 : m_12 = 0#64 := (gm_cmp0 _ _).mp h_14
          try rw [show gp_wr (v4_5 + (-1)) = v4_5 + (-1) from gp_wr_id (by omega) (by omega)]
          exact ih_5 _ _ _ _ _ (by omega) (iv0_5.and1) (by have h9 := drop_cnt (by omega) hx5; omega) (by omega)
        · have hz_16 : ¬ m_12 = 0#64 := fun q => h_14 ((gm_cmp0 _ _).mpr q)
          refine xm_first _ hs (by first | omega | assumption) (bd_le (hsu.bd (bd_and (‹bd (gp_L s 9 (Int.toNat x_7)) x_7›))) (by omega)) (fun x_17 p_18 p_19 => ⟨_, rfl, ?_⟩)
          have hy5 := hsu _ p_19
          have hy6 := (bd_and (y := gp_L s 43 (Int.toNat (gp_I s 6 4))) (‹bd (gp_L s 9 (Int.toNat x_7)) x_7›)) _ hy5
          refine ⟨by omega, ?_⟩
          have b_20 : bd (gp_L s 8 (Int.toNat x_17)) x_17 := bd_le (xr8 hs (Int.toNat x_17)) (by omega)
          intro s_21 e_22
          have hs_23 : XI L 0 s_21 := by rw [e_22]; exact xw41_4 hs _
          have hf_24 : gX L false [2316] s s_21 := by rw [e_22]; exact gX.wL (gX.refl _ _ _ _) (Or.inl ⟨by decide, rfl⟩)
          have q_25 : gp_I s_21 6 4 = gp_I s 6 4 := by rw [e_22] <;> first | rfl | exact I_ne (by omega)
          exact k _ s_21 hs_23 hf_24 (by omega) (by subst_vars; exact bd_or (bd_and q0) (bd_le (by assumption) (by omega)))
      · exact k _ s hs (gX.refl _ _ _ _) (by omega) (q0)
  exact lp_5 _ _ _ _ _ _ (by omega) (sub.refl _) (by omega) (Nat.lt_succ_self _)
set_option maxRecDepth 100000 in
/-- Reducer.rightTurned -/
theorem xm_rightTurned  {L d : Nat} {K : Option gV → gH → Prop} {s : gH}   (hs : XI L 0 s)  (q0 : bd (gp_L s 41 5) (gp_I s 6 4)) (k : ∀ (r : Int), ∀ (t : gH), XI L 0 t → gX L false [2317] s t → (0 ≤ r ∧ r ≤ 1) → (bd (gp_L t 41 5) (gp_I t 6 4)) → K (some (gp_i r)) t) : gs_C L (d + 3) 1539 8 [gp_r (some 41)] s K := by
  have f_1 := xr6_4 hs
  refine s_1539_e ?_
  have hN60 := xr6_4 hs
  refine xm_bc _ (fun x_2 p_3 p_4 => ⟨_, rfl, ?_⟩)
  have lp_5 : ∀ (n_5 : Nat) (v2_5 : BitVec 64) (v4_5 : Int) (v5_5 : gV) (v6_5 : gV) (v7_5 : gV), (0 ≤ v4_5 ∧ v4_5 ≤ 64) → (sub v2_5 (gp_L s 41 5)) → ((gm_cnt v2_5 64 : Nat) = v4_5) → (v4_5 + 1).toNat < n_5 → gs_E L (d + 3) 1539 22 [gp_r (some 41), gp_r (some 7), gp_l v2_5, gp_n, gp_i v4_5, v5_5, v6_5, v7_5] [] s K := by
    intro n_5
    induction n_5 with
    | zero => intro v2_5 v4_5 v5_5 v6_5 v7_5 hv4_5 iv0_5 iv1_5 hm_5; exact absurd hm_5 (Nat.not_lt_zero _)
    | succ n_5 ih_5 =>
      intro v2_5 v4_5 v5_5 v6_5 v7_5 hv4_5 iv0_5 iv1_5 hm_5
      refine s_1539_22 _ _ _ _ _ ?_
      refine ⟨fun h_6 => ?_, fun h_6 => ?_⟩
      · refine xm_first _ hs (cnt_nz (by omega)) (bd_le (iv0_5.bd q0) (by omega)) (fun x_7 p_8 p_9 => ⟨_, rfl, ?_⟩)
        have hx5 := p_9
        have hx6 := q0 _ (iv0_5 _ hx5)
        refine ⟨by omega, ?_⟩
        have b_10 : bd (gp_L s 8 (Int.toNat x_7)) x_7 := bd_le (xr8 hs (Int.toNat x_7)) (by omega)
        have f_11 := xr6_4 hs
        refine ⟨by omega, ?_⟩
        refine xm_open9 _ hs (bd_le (bd_and (by assumption)) (by omega)) (fun m_12 p_13 => ⟨_, rfl, ?_⟩)
        have hsu := p_13
        refine ⟨fun h_14 => ?_, fun h_14 => ?_⟩
        · have hz_15 : m_12 = 0#64 := (gm_cmp0 _ _).mp h_14
          try rw [show gp_wr (v4_5 + (-1)) = v4_5 + (-1) from gp_wr_id (by omega) (by omega)]
          exact ih_5 _ _ _ _ _ (by omega) (iv0_5.and1) (by have h9 := drop_cnt (by omega) hx5; omega) (by omega)
        · have hz_16 : ¬ m_12 = 0#64 := fun q => h_14 ((gm_cmp0 _ _).mpr q)
          refine xm_first _ hs (by first | omega | assumption) (bd_le (hsu.bd (bd_and (‹bd (gp_L s 8 (Int.toNat x_7)) x_7›))) (by omega)) (fun x_17 p_18 p_19 => ⟨_, rfl, ?_⟩)
          have hy5 := hsu _ p_19
          have hy6 := (bd_and (y := gp_L s 44 (Int.toNat (gp_I s 6 4))) (‹bd (gp_L s 8 (Int.toNat x_7)) x_7›)) _ hy5
          refine ⟨by omega, ?_⟩
          have b_20 : bd (gp_L s 9 (Int.toNat x_17)) x_17 := bd_le (xr9 hs (Int.toNat x_17)) (by omega)
          intro s_21 e_22
          have hs_23 : XI L 0 s_21 := by rw [e_22]; exact xw41_5 hs _
          have hf_24 : gX L false [2317] s s_21 := by rw [e_22]; exact gX.wL (gX.refl _ _ _ _) (Or.inl ⟨by decide, rfl⟩)
          have q_25 : gp_I s_21 6 4 = gp_I s 6 4 := by rw [e_22] <;> first | rfl | exact I_ne (by omega)
          exact k _ s_21 hs_23 hf_24 (by omega) (by subst_vars; exact bd_or (bd_and q0) (bd_le (by assumption) (by omega)))
      · exact k _ s hs (gX.refl _ _ _ _) (by omega) (q0)
  exact lp_5 _ _ _ _ _ _ (by omega) (sub.refl _) (by omega) (Nat.lt_succ_self _)
set_option maxRecDepth 100000 in
/-- Reducer.firstBeaten -/
theorem xm_firstBeaten44  {L d : Nat} {K : Option gV → gH → Prop} {s : gH}  (p0 : BitVec 64) (hs : XI L 0 s)  (q0 : bd p0 61) (k : ∀ (r : Int), ((-1) ≤ r ∧ r ≤ 60) → K (some (gp_i r)) s) : gs_C L (d + 3) 1543 11 [gp_r (some 41), gp_l p0, gp_r (some 44), gp_r (some 43)] s K := by
  refine s_1543_e _ _ _ ?_
  refine xm_bc _ (fun x_1 p_2 p_3 => ⟨_, rfl, ?_⟩)
  have lp_6 : ∀ (n_6 : Nat) (v5_6 : BitVec 64) (v7_6 : Int) (v8_6 : gV) (v9_6 : gV) (v10_6 : gV), (0 ≤ v7_6 ∧ v7_6 ≤ 64) → (sub v5_6 p0) → ((gm_cnt v5_6 64 : Nat) = v7_6) → (v7_6 + 1).toNat < n_6 → gs_E L (d + 3) 1543 9 [gp_r (some 41), gp_l p0, gp_n, gp_r (some 44), gp_r (some 43), gp_l v5_6, gp_n, gp_i v7_6, v8_6, v9_6, v10_6] [] s K := by
    intro n_6
    induction n_6 with
    | zero => intro v5_6 v7_6 v8_6 v9_6 v10_6 hv7_6 iv0_6 iv1_6 hm_6; exact absurd hm_6 (Nat.not_lt_zero _)
    | succ n_6 ih_6 =>
      intro v5_6 v7_6 v8_6 v9_6 v10_6 hv7_6 iv0_6 iv1_6 hm_6
      refine s_1543_9 _ _ _ _ _ _ _ _ ?_
      refine ⟨fun h_7 => ?_, fun h_7 => ?_⟩
      · refine xm_first _ hs (cnt_nz (by omega)) (iv0_6.bd q0) (fun x_8 p_9 p_10 => ⟨_, rfl, ?_⟩)
        have hx5 := p_10
        have hx6 := q0 _ (iv0_6 _ hx5)
        refine ⟨44, rfl, ?_⟩
        refine ⟨⟨rfl, by show 0 ≤ x_8 ∧ x_8 < 61; omega⟩, ?_⟩
        refine ⟨fun h_11 => ?_, fun h_11 => ?_⟩
        · have hz_12 : (p0 &&& (gp_L s 44 (Int.toNat x_8))) &&& (((1#64) <<< (Int.toNat (x_8 % 64))) ^^^ (BitVec.ofInt 64 (-1))) = 0#64 := (gm_cmp0 _ _).mp h_11
          refine s_1543_112 _ _ _ _ _ _ _ ?_
          try rw [show gp_wr (v7_6 + (-1)) = v7_6 + (-1) from gp_wr_id (by omega) (by omega)]
          exact ih_6 _ _ _ _ _ (by omega) (iv0_6.and1) (by have h9 := drop_cnt (by omega) hx5; omega) (by omega)
        · have hz_17 : ¬ ((p0 &&& (gp_L s 44 (Int.toNat x_8))) &&& (((1#64) <<< (Int.toNat (x_8 % 64))) ^^^ (BitVec.ofInt 64 (-1)))) = 0#64 := fun q => h_11 ((gm_cmp0 _ _).mpr q)
          refine ⟨43, rfl, ?_⟩
          refine ⟨⟨rfl, by show 0 ≤ x_8 ∧ x_8 < 61; omega⟩, ?_⟩
          refine ⟨fun h_18 => ?_, fun h_18 => ?_⟩
          · have hz_19 : ((p0 &&& (gp_L s 44 (Int.toNat x_8))) &&& (((1#64) <<< (Int.toNat (x_8 % 64))) ^^^ (BitVec.ofInt 64 (-1)))) &&& ((gp_L s 43 (Int.toNat x_8)) ^^^ (BitVec.ofInt 64 (-1))) = 0#64 := (gm_cmp0 _ _).mp h_18
            refine xm_first _ hs (by first | omega | assumption) ((sub.and1 (sub.and1 (sub.refl p0))).bd q0) (fun x_20 p_21 p_22 => ⟨_, rfl, ?_⟩)
            have hy6 := q0 _ ((sub.refl p0).and1.and1 _ p_22)
            refine ⟨by omega, ?_⟩
            have f_23 := xr13 hs (Int.toNat x_20)
            refine ⟨by omega, ?_⟩
            have f_24 := xr13 hs (Int.toNat x_8)
            refine ⟨fun h_25 => ?_, fun h_25 => ?_⟩
            · refine s_1543_109 _ _ _ _ _ _ _ ?_
              exact k _ (by omega)
            · refine s_1543_112 _ _ _ _ _ _ _ ?_
              try rw [show gp_wr (v7_6 + (-1)) = v7_6 + (-1) from gp_wr_id (by omega) (by omega)]
              exact ih_6 _ _ _ _ _ (by omega) (iv0_6.and1) (by have h9 := drop_cnt (by omega) hx5; omega) (by omega)
          · have hz_32 : ¬ (((p0 &&& (gp_L s 44 (Int.toNat x_8))) &&& (((1#64) <<< (Int.toNat (x_8 % 64))) ^^^ (BitVec.ofInt 64 (-1)))) &&& ((gp_L s 43 (Int.toNat x_8)) ^^^ (BitVec.ofInt 64 (-1)))) = 0#64 := fun q => h_18 ((gm_cmp0 _ _).mpr q)
            refine s_1543_109 _ _ _ _ _ _ _ ?_
            exact k _ (by omega)
      · exact k _ (by omega)
  exact lp_6 _ _ _ _ _ _ (by omega) (sub.refl _) (by omega) (Nat.lt_succ_self _)
set_option maxRecDepth 100000 in
/-- Reducer.firstBeaten -/
theorem xm_firstBeaten43  {L d : Nat} {K : Option gV → gH → Prop} {s : gH}  (p0 : BitVec 64) (hs : XI L 0 s)  (q0 : bd p0 61) (k : ∀ (r : Int), ((-1) ≤ r ∧ r ≤ 60) → K (some (gp_i r)) s) : gs_C L (d + 3) 1543 11 [gp_r (some 41), gp_l p0, gp_r (some 43), gp_r (some 44)] s K := by
  refine s_1543_e _ _ _ ?_
  refine xm_bc _ (fun x_1 p_2 p_3 => ⟨_, rfl, ?_⟩)
  have lp_6 : ∀ (n_6 : Nat) (v5_6 : BitVec 64) (v7_6 : Int) (v8_6 : gV) (v9_6 : gV) (v10_6 : gV), (0 ≤ v7_6 ∧ v7_6 ≤ 64) → (sub v5_6 p0) → ((gm_cnt v5_6 64 : Nat) = v7_6) → (v7_6 + 1).toNat < n_6 → gs_E L (d + 3) 1543 9 [gp_r (some 41), gp_l p0, gp_n, gp_r (some 43), gp_r (some 44), gp_l v5_6, gp_n, gp_i v7_6, v8_6, v9_6, v10_6] [] s K := by
    intro n_6
    induction n_6 with
    | zero => intro v5_6 v7_6 v8_6 v9_6 v10_6 hv7_6 iv0_6 iv1_6 hm_6; exact absurd hm_6 (Nat.not_lt_zero _)
    | succ n_6 ih_6 =>
      intro v5_6 v7_6 v8_6 v9_6 v10_6 hv7_6 iv0_6 iv1_6 hm_6
      refine s_1543_9 _ _ _ _ _ _ _ _ ?_
      refine ⟨fun h_7 => ?_, fun h_7 => ?_⟩
      · refine xm_first _ hs (cnt_nz (by omega)) (iv0_6.bd q0) (fun x_8 p_9 p_10 => ⟨_, rfl, ?_⟩)
        have hx5 := p_10
        have hx6 := q0 _ (iv0_6 _ hx5)
        refine ⟨43, rfl, ?_⟩
        refine ⟨⟨rfl, by show 0 ≤ x_8 ∧ x_8 < 61; omega⟩, ?_⟩
        refine ⟨fun h_11 => ?_, fun h_11 => ?_⟩
        · have hz_12 : (p0 &&& (gp_L s 43 (Int.toNat x_8))) &&& (((1#64) <<< (Int.toNat (x_8 % 64))) ^^^ (BitVec.ofInt 64 (-1))) = 0#64 := (gm_cmp0 _ _).mp h_11
          refine s_1543_112 _ _ _ _ _ _ _ ?_
          try rw [show gp_wr (v7_6 + (-1)) = v7_6 + (-1) from gp_wr_id (by omega) (by omega)]
          exact ih_6 _ _ _ _ _ (by omega) (iv0_6.and1) (by have h9 := drop_cnt (by omega) hx5; omega) (by omega)
        · have hz_17 : ¬ ((p0 &&& (gp_L s 43 (Int.toNat x_8))) &&& (((1#64) <<< (Int.toNat (x_8 % 64))) ^^^ (BitVec.ofInt 64 (-1)))) = 0#64 := fun q => h_11 ((gm_cmp0 _ _).mpr q)
          refine ⟨44, rfl, ?_⟩
          refine ⟨⟨rfl, by show 0 ≤ x_8 ∧ x_8 < 61; omega⟩, ?_⟩
          refine ⟨fun h_18 => ?_, fun h_18 => ?_⟩
          · have hz_19 : ((p0 &&& (gp_L s 43 (Int.toNat x_8))) &&& (((1#64) <<< (Int.toNat (x_8 % 64))) ^^^ (BitVec.ofInt 64 (-1)))) &&& ((gp_L s 44 (Int.toNat x_8)) ^^^ (BitVec.ofInt 64 (-1))) = 0#64 := (gm_cmp0 _ _).mp h_18
            refine xm_first _ hs (by first | omega | assumption) ((sub.and1 (sub.and1 (sub.refl p0))).bd q0) (fun x_20 p_21 p_22 => ⟨_, rfl, ?_⟩)
            have hy6 := q0 _ ((sub.refl p0).and1.and1 _ p_22)
            refine ⟨by omega, ?_⟩
            have f_23 := xr13 hs (Int.toNat x_20)
            refine ⟨by omega, ?_⟩
            have f_24 := xr13 hs (Int.toNat x_8)
            refine ⟨fun h_25 => ?_, fun h_25 => ?_⟩
            · refine s_1543_109 _ _ _ _ _ _ _ ?_
              exact k _ (by omega)
            · refine s_1543_112 _ _ _ _ _ _ _ ?_
              try rw [show gp_wr (v7_6 + (-1)) = v7_6 + (-1) from gp_wr_id (by omega) (by omega)]
              exact ih_6 _ _ _ _ _ (by omega) (iv0_6.and1) (by have h9 := drop_cnt (by omega) hx5; omega) (by omega)
          · have hz_32 : ¬ (((p0 &&& (gp_L s 43 (Int.toNat x_8))) &&& (((1#64) <<< (Int.toNat (x_8 % 64))) ^^^ (BitVec.ofInt 64 (-1)))) &&& ((gp_L s 44 (Int.toNat x_8)) ^^^ (BitVec.ofInt 64 (-1)))) = 0#64 := fun q => h_18 ((gm_cmp0 _ _).mpr q)
            refine s_1543_109 _ _ _ _ _ _ _ ?_
            exact k _ (by omega)
      · exact k _ (by omega)
  exact lp_6 _ _ _ _ _ _ (by omega) (sub.refl _) (by omega) (Nat.lt_succ_self _)
set_option maxRecDepth 100000 in
/-- Reducer.leftThinned -/
theorem xm_leftThinned  {L d : Nat} {K : Option gV → gH → Prop} {s : gH}   (hs : XI L 0 s)  (q0 : bd (gp_L s 41 4) (gp_I s 6 4)) (k : ∀ (r : Int), ∀ (t : gH), XI L 0 t → gX L false [2316] s t → (0 ≤ r ∧ r ≤ 1) → (bd (gp_L t 41 4) (gp_I t 6 4)) → K (some (gp_i r)) t) : gs_C L (d + 4) 1541 2 [gp_r (some 41)] s K := by
  have f_1 := xr6_4 hs
  refine s_1541_e ?_
  have hN60 := xr6_4 hs
  refine xm_firstBeaten44 _ hs (bd_le q0 (by omega)) (fun x_2 p_3 => ⟨_, rfl, ?_⟩)
  refine ⟨fun h_4 => ?_, fun h_4 => ?_⟩
  · refine s_1541_43 _ ?_
    refine ⟨fun h_5 => ?_, fun h_5 => ?_⟩
    · refine s_1541_52 _ _ ?_
      refine ⟨by omega, ?_⟩
      exact k _ s hs (gX.refl _ _ _ _) (by omega) (by first | exact q0 | (subst_vars; exact bd_and q0))
    · exfalso; omega
  · intro s_6 e_7
    have hs_8 : XI L 0 s_6 := by rw [e_7]; exact xw41_4 hs _
    have hf_9 : gX L false [2316] s s_6 := by rw [e_7]; exact gX.wL (gX.refl _ _ _ _) (Or.inl ⟨by decide, rfl⟩)
    have q_10 : gp_I s_6 6 4 = gp_I s 6 4 := by rw [e_7] <;> first | rfl | exact I_ne (by omega)
    refine s_1541_43 _ ?_
    refine ⟨fun h_11 => ?_, fun h_11 => ?_⟩
    · exfalso; omega
    · refine s_1541_52 _ _ ?_
      refine ⟨by omega, ?_⟩
      exact k _ s_6 hs_8 hf_9 (by omega) (by first | exact q0 | (subst_vars; exact bd_and q0))
set_option maxRecDepth 100000 in
/-- Reducer.rightThinned -/
theorem xm_rightThinned  {L d : Nat} {K : Option gV → gH → Prop} {s : gH}   (hs : XI L 0 s)  (q0 : bd (gp_L s 41 5) (gp_I s 6 4)) (k : ∀ (r : Int), ∀ (t : gH), XI L 0 t → gX L false [2317] s t → (0 ≤ r ∧ r ≤ 1) → (bd (gp_L t 41 5) (gp_I t 6 4)) → K (some (gp_i r)) t) : gs_C L (d + 4) 1542 2 [gp_r (some 41)] s K := by
  have f_1 := xr6_4 hs
  refine s_1542_e ?_
  have hN60 := xr6_4 hs
  refine xm_firstBeaten43 _ hs (bd_le q0 (by omega)) (fun x_2 p_3 => ⟨_, rfl, ?_⟩)
  refine ⟨fun h_4 => ?_, fun h_4 => ?_⟩
  · refine s_1542_43 _ ?_
    refine ⟨fun h_5 => ?_, fun h_5 => ?_⟩
    · refine s_1542_52 _ _ ?_
      refine ⟨by omega, ?_⟩
      exact k _ s hs (gX.refl _ _ _ _) (by omega) (by first | exact q0 | (subst_vars; exact bd_and q0))
    · exfalso; omega
  · intro s_6 e_7
    have hs_8 : XI L 0 s_6 := by rw [e_7]; exact xw41_5 hs _
    have hf_9 : gX L false [2317] s s_6 := by rw [e_7]; exact gX.wL (gX.refl _ _ _ _) (Or.inl ⟨by decide, rfl⟩)
    have q_10 : gp_I s_6 6 4 = gp_I s 6 4 := by rw [e_7] <;> first | rfl | exact I_ne (by omega)
    refine s_1542_43 _ ?_
    refine ⟨fun h_11 => ?_, fun h_11 => ?_⟩
    · exfalso; omega
    · refine s_1542_52 _ _ ?_
      refine ⟨by omega, ?_⟩
      exact k _ s_6 hs_8 hf_9 (by omega) (by first | exact q0 | (subst_vars; exact bd_and q0))
set_option maxRecDepth 100000 in
/-- Reducer.reduced -/
theorem xm_reduced  {L d : Nat} {K : Option gV → gH → Prop} {s : gH} (n_p0 : Nat) (p0 : Nat) (hs : XI L 0 s)  (q0 : kT L s p0 n_p0) (q1 : n_p0 ≤ 60) (k : ∀ (r : Option Nat), ∀ (t : gH), XI L 0 t → gX L true [8, 9, 10, 11, 12, 13, 14, 15, 16, 17, 18, 19, 32, 33, 34, 35, 43, 44, 45, 1196, 2316, 2317] s t → (∃ a n, r = some a ∧ kT L t a n ∧ n ≤ 60) → (gp_sz t ≤ gp_sz s + 6) → (gp_us t ≤ gp_us s + 310) → K (some (gp_r r)) t) : gs_C L (d + 5) 1537 6 [gp_r (some 41), gp_r (some p0)] s K := by
  have hn_p0 := q0.n hs
  have f_1 := xr6_4 hs
  refine s_1537_e _ ?_
  refine xm_empty hs (fun s_2 hs_3 hf_4 p_5 p_6 => ⟨rfl, ?_⟩)
  have hf_7 : gX L true [8, 9, 10, 11, 12, 13, 14, 15, 16, 17, 18, 19, 32, 33, 34, 35, 43, 44, 45, 1196, 2316, 2317] s s_2 := gX.sub hf_4 rfl rfl
  have kt_8 : kT L s_2 p0 n_p0 := q0.fr hf_4.1
  have z_9 : gp_sz s_2 = gp_sz s ∧ gp_us s_2 = gp_us s := hf_4.2.1 rfl
  refine ⟨p0, rfl, ?_⟩
  refine ⟨kt_8.2.1, ?_⟩
  refine ⟨kt_8.2.1, ?_⟩
  refine xm_root n_p0 _ hs_3 (by first | assumption | exact kT7 hs_3.1.1 | exact kT25 hs_3.1.1) (fun x_10 p_11 p_12 => ⟨_, rfl, ?_⟩)
  refine ⟨(p0 + 5), (kt_8.tt hs_3).1.2.2.2.1.2.2.2.2, ?_⟩
  refine ⟨gin ((kt_8.tt hs_3).1.2.2.2.2.1.2.2.2.2) (by omega), ?_⟩
  have f_13 := ((kt_8.tt hs_3).1.2.2.2.2.2 (Int.toNat x_10)).2
  try rw [show gp_wr ((gp_I s_2 (p0 + 5) (Int.toNat x_10)) + 1) = (gp_I s_2 (p0 + 5) (Int.toNat x_10)) + 1 from gp_wr_id (by omega) (by omega)]
  have lp_15 : ∀ (n_15 : Nat) (v3_15 : Int) (v4_15 : gV) (v5_15 : gV) (s_15 : gH), (XI L 0 s_15) → (gX L true [8, 9, 10, 11, 12, 13, 14, 15, 16, 17, 18, 19, 32, 33, 34, 35, 43, 44, 45, 1196, 2316, 2317] s s_15) → (PO s_15) → (kT L s_15 p0 n_p0) → (gp_sz s_15 ≤ gp_sz s + 0 ∧ gp_us s_15 ≤ gp_us s + 0) → (0 ≤ v3_15 ∧ v3_15 ≤ 60) → (RP v3_15 s_15) → (gp_I s_15 6 4 ≤ v3_15) → (61 - v3_15).toNat < n_15 → gs_E L (d + 5) 1537 21 [gp_r (some 41), gp_r (some p0), gp_i ((gp_I s_2 (p0 + 5) (Int.toNat x_10)) + 1), gp_i v3_15, v4_15, v5_15] [] s_15 K := by
    intro n_15
    induction n_15 with
    | zero => intro v3_15 v4_15 v5_15 s_15 hs_s_15 hf_s_15 PO_s_15 kt_p0_s_15 rm_s_15 hv3_15 iv0_15 iv1_15 hm_15; exact absurd hm_15 (Nat.not_lt_zero _)
    | succ n_15 ih_15 =>
      intro v3_15 v4_15 v5_15 s_15 hs_s_15 hf_s_15 PO_s_15 kt_p0_s_15 rm_s_15 hv3_15 iv0_15 iv1_15 hm_15
      refine s_1537_21 _ _ _ _ _ ?_
      have hN60 := xr6_4 hs_s_15
      refine ⟨p0, rfl, ?_⟩
      refine ⟨kt_p0_s_15.2.1, ?_⟩
      have f_16 := (kt_p0_s_15.tt hs_s_15).1.2.2.1
      have f_17 := kt_p0_s_15.n hs_s_15
      refine ⟨fun h_18 => ?_, fun h_18 => ?_⟩
      · refine ⟨kt_p0_s_15.2.1, ?_⟩
        refine ⟨(p0 + 1), (kt_p0_s_15.tt hs_s_15).1.2.2.2.1.1, ?_⟩
        refine ⟨gin ((kt_p0_s_15.tt hs_s_15).1.2.2.2.2.1.1) (by omega), ?_⟩
        have b_19 : bd (gp_L s_15 (p0 + 1) (Int.toNat v3_15)) v3_15 := bd_le ((kt_p0_s_15.tt hs_s_15).1.2.2.2.2.2 (Int.toNat v3_15)).1.1 (by omega)
        refine xm_carried45 (gp_I s_15 6 4) v3_15 _ hs_s_15 (by first | assumption | exact bd_le (by assumption) (by omega) | exact bd_0 _) (by first | omega | assumption) (by first | omega | assumption) (fun k hk => iv0_15 k (by have h9 := (‹bd (gp_L s_15 (p0 + 1) (Int.toNat v3_15)) v3_15›) k hk; omega)) (fun m_20 p_21 => ⟨_, rfl, ?_⟩)
        have hcl := p_21
        intro s_22 e_23
        have hs_24 : XI L 0 s_22 := by rw [e_23]; exact xw41_4 hs_s_15 _
        have hf_25 : gX L true [8, 9, 10, 11, 12, 13, 14, 15, 16, 17, 18, 19, 32, 33, 34, 35, 43, 44, 45, 1196, 2316, 2317] s s_22 := by rw [e_23]; exact gX.wL hf_s_15 (Or.inl ⟨by decide, rfl⟩)
        have kt_26 : kT L s_22 p0 n_p0 := by rw [e_23]; exact kt_p0_s_15
        have z_27 : gp_sz s_22 = gp_sz s_15 ∧ gp_us s_22 = gp_us s_15 := by rw [e_23]; exact ⟨rfl, rfl⟩
        have q_28 : gp_I s_22 6 4 = gp_I s_15 6 4 := by rw [e_23] <;> first | rfl | exact I_ne (by omega)
        have pd_29 : PO s_22 := by rw [e_23]; exact PO_fr PO_s_15 (gX.wL (gX.refl L true [2316] _) (Or.inl ⟨by decide, rfl⟩)) rfl rfl rfl rfl rfl rfl
        have pd_30 : RP v3_15 s_22 := by rw [e_23]; exact RP_fr iv0_15 (gX.wL (gX.refl L true [2316] _) (Or.inl ⟨by decide, rfl⟩)) rfl rfl
        have hL46 : bd (gp_L s_22 41 4) (gp_I s_22 6 4) := by subst_vars; exact hcl
        refine ⟨kt_26.2.1, ?_⟩
        refine ⟨(p0 + 2), (kt_26.tt hs_24).1.2.2.2.1.2.1, ?_⟩
        refine ⟨gin ((kt_26.tt hs_24).1.2.2.2.2.1.2.1) (by omega), ?_⟩
        have b_31 : bd (gp_L s_22 (p0 + 2) (Int.toNat v3_15)) v3_15 := bd_le ((kt_26.tt hs_24).1.2.2.2.2.2 (Int.toNat v3_15)).1.2 (by omega)
        refine xm_carried45 (gp_I s_22 6 4) v3_15 _ hs_24 (by first | assumption | exact bd_le (by assumption) (by omega) | exact bd_0 _) (by first | omega | assumption) (by first | omega | assumption) (fun k hk => pd_30 k (by have h9 := (‹bd (gp_L s_22 (p0 + 2) (Int.toNat v3_15)) v3_15›) k hk; omega)) (fun m_32 p_33 => ⟨_, rfl, ?_⟩)
        have hcr := p_33
        intro s_34 e_35
        have hs_36 : XI L 0 s_34 := by rw [e_35]; exact xw41_5 hs_24 _
        have hf_37 : gX L true [8, 9, 10, 11, 12, 13, 14, 15, 16, 17, 18, 19, 32, 33, 34, 35, 43, 44, 45, 1196, 2316, 2317] s s_34 := by rw [e_35]; exact gX.wL hf_25 (Or.inl ⟨by decide, rfl⟩)
        have kt_38 : kT L s_34 p0 n_p0 := by rw [e_35]; exact kt_26
        have z_39 : gp_sz s_34 = gp_sz s_22 ∧ gp_us s_34 = gp_us s_22 := by rw [e_35]; exact ⟨rfl, rfl⟩
        have q_40 : gp_I s_34 6 4 = gp_I s_22 6 4 := by rw [e_35] <;> first | rfl | exact I_ne (by omega)
        have pd_41 : PO s_34 := by rw [e_35]; exact PO_fr pd_29 (gX.wL (gX.refl L true [2317] _) (Or.inl ⟨by decide, rfl⟩)) rfl rfl rfl rfl rfl rfl
        have pd_42 : RP v3_15 s_34 := by rw [e_35]; exact RP_fr pd_30 (gX.wL (gX.refl L true [2317] _) (Or.inl ⟨by decide, rfl⟩)) rfl rfl
        have hL63 : bd (gp_L s_34 41 4) (gp_I s_34 6 4) := by subst_vars; exact hcl
        have hR63 : bd (gp_L s_34 41 5) (gp_I s_34 6 4) := by subst_vars; exact hcr
        have lp_44 : ∀ (n_44 : Nat) (v4_44 : Int) (v5_44 : Int) (s_44 : gH), (XI L 0 s_44) → (gX L true [8, 9, 10, 11, 12, 13, 14, 15, 16, 17, 18, 19, 32, 33, 34, 35, 43, 44, 45, 1196, 2316, 2317] s s_44) → (PO s_44) → (RP v3_15 s_44) → (kT L s_44 p0 n_p0) → (gp_sz s_44 ≤ gp_sz s + 0 ∧ gp_us s_44 ≤ gp_us s + 0) → (0 ≤ v4_44 ∧ v4_44 ≤ 1) → (0 ≤ v5_44 ∧ v5_44 ≤ 1000000) → (gp_I s_44 6 4 = gp_I s_34 6 4) → (bd (gp_L s_44 41 4) (gp_I s_44 6 4)) → (bd (gp_L s_44 41 5) (gp_I s_44 6 4)) → (v5_44 = 0 ∨ SK s_44) → (v5_44 = 0 → v4_44 = 1) → (1000001 - v5_44).toNat < n_44 → gs_E L (d + 5) 1537 69 [gp_r (some 41), gp_r (some p0), gp_i ((gp_I s_2 (p0 + 5) (Int.toNat x_10)) + 1), gp_i v3_15, gp_i v4_44, gp_i v5_44] [] s_44 K := by
          intro n_44
          induction n_44 with
          | zero => intro v4_44 v5_44 s_44 hs_s_44 hf_s_44 PO_s_44 RP_v3_15_s_44 kt_p0_s_44 rm_s_44 hv4_44 hv5_44 tk0_44 iv0_44 iv1_44 iv2_44 iv3_44 hm_44; exact absurd hm_44 (Nat.not_lt_zero _)
          | succ n_44 ih_44 =>
            intro v4_44 v5_44 s_44 hs_s_44 hf_s_44 PO_s_44 RP_v3_15_s_44 kt_p0_s_44 rm_s_44 hv4_44 hv5_44 tk0_44 iv0_44 iv1_44 iv2_44 iv3_44 hm_44
            refine s_1537_69 _ _ _ _ _ ?_
            refine ⟨fun h_45 => ?_, fun h_45 => ?_⟩
            · refine ⟨fun h_46 => ?_, fun h_46 => ?_⟩
              · refine s_1537_192 _ _ _ _ _ ?_
                have hSK : SK s_44 := by rcases iv2_44 with h9 | h9; (exfalso; omega); exact h9
                have hrp9 := RP_v3_15_s_44
                refine xm_settle hs_s_44 (PO_s_44) (hSK) (fun x_48 s_49 hs_50 hf_51 p_52 p_53 p_54 => ⟨_, rfl, ?_⟩)
                have hf_55 : gX L true [8, 9, 10, 11, 12, 13, 14, 15, 16, 17, 18, 19, 32, 33, 34, 35, 43, 44, 45, 1196, 2316, 2317] s s_49 := gX.trans hf_s_44 hf_51 rfl rfl
                have kt_56 : kT L s_49 p0 n_p0 := kt_p0_s_44.fr hf_51.1
                have z_57 : gp_sz s_49 = gp_sz s_44 ∧ gp_us s_49 = gp_us s_44 := hf_51.2.1 rfl
                have hcf9 := hf_51
                refine ⟨by omega, ?_⟩
                intro s_58 e_59
                have hs_60 : XI L 0 s_58 := by rw [e_59]; exact xw45 hs_50 _ _ (by omega)
                have hf_61 : gX L true [8, 9, 10, 11, 12, 13, 14, 15, 16, 17, 18, 19, 32, 33, 34, 35, 43, 44, 45, 1196, 2316, 2317] s s_58 := by rw [e_59]; exact gX.wI hf_55 (Or.inl rfl)
                have kt_62 : kT L s_58 p0 n_p0 := by rw [e_59]; exact kt_56
                have z_63 : gp_sz s_58 = gp_sz s_49 ∧ gp_us s_58 = gp_us s_49 := by rw [e_59]; exact ⟨rfl, rfl⟩
                have q_64 : gp_I s_58 6 4 = gp_I s_49 6 4 := by rw [e_59] <;> first | rfl | exact I_ne (by omega)
                have pd_65 : PO s_58 := by rw [e_59]; exact PO_fr p_53 (gX.wI (gX.refl L true [45] _) (Or.inl rfl)) rfl rfl rfl rfl rfl rfl
                have hrp2 : RP (v3_15 + 1) s_58 := RP_step hrp9 (by omega) hcf9 rfl (by assumption) (by omega) (by omega) (by omega)
                have hpl := hrp2 (Int.toNat v3_15) (by omega)
                refine ⟨by omega, ?_⟩
                have f_66 := xr45 hs_60 (Int.toNat v3_15)
                refine ⟨fun h_67 => ?_, fun h_67 => ?_⟩
                · exact k _ s_58 hs_60 hf_61 (⟨_, _, rfl, kt_62, by omega⟩) (by first | omega | assumption) (by first | omega | assumption)
                · refine ⟨by omega, ?_⟩
                  have f_68 := xr45 hs_60 (Int.toNat v3_15)
                  refine ⟨by omega, ?_⟩
                  have f_69 := xr45 hs_60 (Int.toNat v3_15)
                  refine xm_note42 _ _ hs_60 (by omega) (by omega) (fun s_70 hs_71 hf_72 => ⟨rfl, ?_⟩)
                  have hf_73 : gX L true [8, 9, 10, 11, 12, 13, 14, 15, 16, 17, 18, 19, 32, 33, 34, 35, 43, 44, 45, 1196, 2316, 2317] s s_70 := gX.trans hf_61 hf_72 rfl rfl
                  have kt_74 : kT L s_70 p0 n_p0 := kt_62.fr hf_72.1
                  have pd_75 : PO s_70 := PO_fr pd_65 hf_72 rfl rfl rfl rfl rfl rfl
                  have pd_76 : RP (v3_15 + 1) s_70 := RP_fr hrp2 hf_72 rfl rfl
                  have q_77 : gp_I s_70 6 4 = gp_I s_58 6 4 := (hf_72.2.2.1 6 4 (by decide) (by decide) rfl).1
                  have z_78 : gp_sz s_70 = gp_sz s_58 ∧ gp_us s_70 = gp_us s_58 := hf_72.2.1 rfl
                  try rw [show gp_wr (v3_15 + 1) = v3_15 + 1 from gp_wr_id (by omega) (by omega)]
                  exact ih_15 _ _ _ _ hs_71 hf_73 pd_75 kt_74 (by omega) (by omega) (pd_76) (by first | omega | assumption) (by omega)
              · refine ⟨p0, rfl, ?_⟩
                refine ⟨kt_p0_s_44.2.1, ?_⟩
                refine ⟨(p0 + 3), (kt_p0_s_44.tt hs_s_44).1.2.2.2.1.2.2.1, ?_⟩
                refine ⟨gin ((kt_p0_s_44.tt hs_s_44).1.2.2.2.2.1.2.2.1) (by omega), ?_⟩
                refine ⟨kt_p0_s_44.2.1, ?_⟩
                refine ⟨(p0 + 4), (kt_p0_s_44.tt hs_s_44).1.2.2.2.1.2.2.2.1, ?_⟩
                refine ⟨gin ((kt_p0_s_44.tt hs_s_44).1.2.2.2.2.1.2.2.2.1) (by omega), ?_⟩
                refine xm_sketch _ _ _ _ hs_s_44 (PO_s_44) (by first | assumption | exact bd_le (by assumption) (by omega) | exact bd_0 _) (by first | assumption | exact bd_le (by assumption) (by omega) | exact bd_0 _) (fun s_80 hs_81 hf_82 p_83 p_84 => ⟨rfl, ?_⟩)
                have hf_85 : gX L true [8, 9, 10, 11, 12, 13, 14, 15, 16, 17, 18, 19, 32, 33, 34, 35, 43, 44, 45, 1196, 2316, 2317] s s_80 := gX.trans hf_s_44 hf_82 rfl rfl
                have kt_86 : kT L s_80 p0 n_p0 := kt_p0_s_44.fr hf_82.1
                have pd_87 : RP v3_15 s_80 := RP_fr RP_v3_15_s_44 hf_82 rfl rfl
                have q_88 : gp_I s_80 6 4 = gp_I s_44 6 4 := (hf_82.2.2.1 6 4 (by decide) (by decide) rfl).1
                have z_89 : gp_sz s_80 = gp_sz s_44 ∧ gp_us s_80 = gp_us s_44 := hf_82.2.1 rfl
                have hb4_hf_82 : bd (gp_L s_80 41 4) (gp_I s_80 6 4) := by rw [(hf_82.2.2.1 41 4 (by decide) (by decide) rfl).2.1, (hf_82.2.2.1 6 4 (by decide) (by decide) rfl).1]; assumption
                have hb5_hf_82 : bd (gp_L s_80 41 5) (gp_I s_80 6 4) := by rw [(hf_82.2.2.1 41 5 (by decide) (by decide) rfl).2.1, (hf_82.2.2.1 6 4 (by decide) (by decide) rfl).1]; assumption
                have f_90 := xr6_4 hs_81
                refine xm_measure 61 _ _ _ hs_81 (by omega) (by omega) (by first | assumption | exact kT7 hs_81.1.1 | exact kT25 hs_81.1.1) (by first | assumption | exact kB7 hs_81.1.1) (by first | omega | assumption) (fun s_91 hs_92 hf_93 => ⟨rfl, ?_⟩)
                have hf_94 : gX L true [8, 9, 10, 11, 12, 13, 14, 15, 16, 17, 18, 19, 32, 33, 34, 35, 43, 44, 45, 1196, 2316, 2317] s s_91 := gX.trans hf_85 hf_93 rfl rfl
                have kt_95 : kT L s_91 p0 n_p0 := kt_86.fr hf_93.1
                have pd_96 : PO s_91 := PO_fr p_83 hf_93 rfl rfl rfl rfl rfl rfl
                have pd_97 : SK s_91 := SK_fr p_84 hf_93 rfl rfl rfl rfl
                have pd_98 : RP v3_15 s_91 := RP_fr pd_87 hf_93 rfl rfl
                have q_99 : gp_I s_91 6 4 = gp_I s_80 6 4 := (hf_93.2.2.1 6 4 (by decide) (by decide) rfl).1
                have z_100 : gp_sz s_91 = gp_sz s_80 ∧ gp_us s_91 = gp_us s_80 := hf_93.2.1 rfl
                have hb4_hf_93 : bd (gp_L s_91 41 4) (gp_I s_91 6 4) := by rw [(hf_93.2.2.1 41 4 (by decide) (by decide) rfl).2.1, (hf_93.2.2.1 6 4 (by decide) (by decide) rfl).1]; assumption
                have hb5_hf_93 : bd (gp_L s_91 41 5) (gp_I s_91 6 4) := by rw [(hf_93.2.2.1 41 5 (by decide) (by decide) rfl).2.1, (hf_93.2.2.1 6 4 (by decide) (by decide) rfl).1]; assumption
                have f_101 := xr6_4 hs_92
                refine xm_relateLast42 _ hs_92 (by omega) (fun s_102 hs_103 hf_104 => ⟨rfl, ?_⟩)
                have hf_105 : gX L true [8, 9, 10, 11, 12, 13, 14, 15, 16, 17, 18, 19, 32, 33, 34, 35, 43, 44, 45, 1196, 2316, 2317] s s_102 := gX.trans hf_94 hf_104 rfl rfl
                have kt_106 : kT L s_102 p0 n_p0 := kt_95.fr hf_104.1
                have pd_107 : PO s_102 := PO_fr pd_96 hf_104 rfl rfl rfl rfl rfl rfl
                have pd_108 : SK s_102 := SK_fr pd_97 hf_104 rfl rfl rfl rfl
                have pd_109 : RP v3_15 s_102 := RP_fr pd_98 hf_104 rfl rfl
                have q_110 : gp_I s_102 6 4 = gp_I s_91 6 4 := (hf_104.2.2.1 6 4 (by decide) (by decide) rfl).1
                have z_111 : gp_sz s_102 = gp_sz s_91 ∧ gp_us s_102 = gp_us s_91 := hf_104.2.1 rfl
                have hb4_hf_104 : bd (gp_L s_102 41 4) (gp_I s_102 6 4) := by rw [(hf_104.2.2.1 41 4 (by decide) (by decide) rfl).2.1, (hf_104.2.2.1 6 4 (by decide) (by decide) rfl).1]; assumption
                have hb5_hf_104 : bd (gp_L s_102 41 5) (gp_I s_102 6 4) := by rw [(hf_104.2.2.1 41 5 (by decide) (by decide) rfl).2.1, (hf_104.2.2.1 6 4 (by decide) (by decide) rfl).1]; assumption
                refine xm_leftTurned hs_103 (by first | assumption | exact bd_le (by assumption) (by omega) | exact bd_0 _) (fun x_112 s_113 hs_114 hf_115 p_116 p_117 => ⟨_, rfl, ?_⟩)
                have hf_118 : gX L true [8, 9, 10, 11, 12, 13, 14, 15, 16, 17, 18, 19, 32, 33, 34, 35, 43, 44, 45, 1196, 2316, 2317] s s_113 := gX.trans hf_105 hf_115 rfl rfl
                have kt_119 : kT L s_113 p0 n_p0 := kt_106.fr hf_115.1
                have pd_120 : PO s_113 := PO_fr pd_107 hf_115 rfl rfl rfl rfl rfl rfl
                have pd_121 : SK s_113 := SK_fr pd_108 hf_115 rfl rfl rfl rfl
                have pd_122 : RP v3_15 s_113 := RP_fr pd_109 hf_115 rfl rfl
                have q_123 : gp_I s_113 6 4 = gp_I s_102 6 4 := (hf_115.2.2.1 6 4 (by decide) (by decide) rfl).1
                have z_124 : gp_sz s_113 = gp_sz s_102 ∧ gp_us s_113 = gp_us s_102 := hf_115.2.1 rfl
                have hb5_hf_115 : bd (gp_L s_113 41 5) (gp_I s_113 6 4) := by rw [(hf_115.2.2.1 41 5 (by decide) (by decide) rfl).2.1, (hf_115.2.2.1 6 4 (by decide) (by decide) rfl).1]; assumption
                refine ⟨fun h_125 => ?_, fun h_125 => ?_⟩
                · refine xm_rightTurned hs_114 (by first | assumption | exact bd_le (by assumption) (by omega) | exact bd_0 _) (fun x_126 s_127 hs_128 hf_129 p_130 p_131 => ⟨_, rfl, ?_⟩)
                  have hf_132 : gX L true [8, 9, 10, 11, 12, 13, 14, 15, 16, 17, 18, 19, 32, 33, 34, 35, 43, 44, 45, 1196, 2316, 2317] s s_127 := gX.trans hf_118 hf_129 rfl rfl
                  have kt_133 : kT L s_127 p0 n_p0 := kt_119.fr hf_129.1
                  have pd_134 : PO s_127 := PO_fr pd_120 hf_129 rfl rfl rfl rfl rfl rfl
                  have pd_135 : SK s_127 := SK_fr pd_121 hf_129 rfl rfl rfl rfl
                  have pd_136 : RP v3_15 s_127 := RP_fr pd_122 hf_129 rfl rfl
                  have q_137 : gp_I s_127 6 4 = gp_I s_113 6 4 := (hf_129.2.2.1 6 4 (by decide) (by decide) rfl).1
                  have z_138 : gp_sz s_127 = gp_sz s_113 ∧ gp_us s_127 = gp_us s_113 := hf_129.2.1 rfl
                  have hb4_hf_129 : bd (gp_L s_127 41 4) (gp_I s_127 6 4) := by rw [(hf_129.2.2.1 41 4 (by decide) (by decide) rfl).2.1, (hf_129.2.2.1 6 4 (by decide) (by decide) rfl).1]; assumption
                  refine ⟨fun h_139 => ?_, fun h_139 => ?_⟩
                  · refine xm_leftThinned hs_128 (by first | assumption | exact bd_le (by assumption) (by omega) | exact bd_0 _) (fun x_140 s_141 hs_142 hf_143 p_144 p_145 => ⟨_, rfl, ?_⟩)
                    have hf_146 : gX L true [8, 9, 10, 11, 12, 13, 14, 15, 16, 17, 18, 19, 32, 33, 34, 35, 43, 44, 45, 1196, 2316, 2317] s s_141 := gX.trans hf_132 hf_143 rfl rfl
                    have kt_147 : kT L s_141 p0 n_p0 := kt_133.fr hf_143.1
                    have pd_148 : PO s_141 := PO_fr pd_134 hf_143 rfl rfl rfl rfl rfl rfl
                    have pd_149 : SK s_141 := SK_fr pd_135 hf_143 rfl rfl rfl rfl
                    have pd_150 : RP v3_15 s_141 := RP_fr pd_136 hf_143 rfl rfl
                    have q_151 : gp_I s_141 6 4 = gp_I s_127 6 4 := (hf_143.2.2.1 6 4 (by decide) (by decide) rfl).1
                    have z_152 : gp_sz s_141 = gp_sz s_127 ∧ gp_us s_141 = gp_us s_127 := hf_143.2.1 rfl
                    have hb5_hf_143 : bd (gp_L s_141 41 5) (gp_I s_141 6 4) := by rw [(hf_143.2.2.1 41 5 (by decide) (by decide) rfl).2.1, (hf_143.2.2.1 6 4 (by decide) (by decide) rfl).1]; assumption
                    refine ⟨fun h_153 => ?_, fun h_153 => ?_⟩
                    · refine xm_rightThinned hs_142 (by first | assumption | exact bd_le (by assumption) (by omega) | exact bd_0 _) (fun x_154 s_155 hs_156 hf_157 p_158 p_159 => ⟨_, rfl, ?_⟩)
                      have hf_160 : gX L true [8, 9, 10, 11, 12, 13, 14, 15, 16, 17, 18, 19, 32, 33, 34, 35, 43, 44, 45, 1196, 2316, 2317] s s_155 := gX.trans hf_146 hf_157 rfl rfl
                      have kt_161 : kT L s_155 p0 n_p0 := kt_147.fr hf_157.1
                      have pd_162 : PO s_155 := PO_fr pd_148 hf_157 rfl rfl rfl rfl rfl rfl
                      have pd_163 : SK s_155 := SK_fr pd_149 hf_157 rfl rfl rfl rfl
                      have pd_164 : RP v3_15 s_155 := RP_fr pd_150 hf_157 rfl rfl
                      have q_165 : gp_I s_155 6 4 = gp_I s_141 6 4 := (hf_157.2.2.1 6 4 (by decide) (by decide) rfl).1
                      have z_166 : gp_sz s_155 = gp_sz s_141 ∧ gp_us s_155 = gp_us s_141 := hf_157.2.1 rfl
                      have hb4_hf_157 : bd (gp_L s_155 41 4) (gp_I s_155 6 4) := by rw [(hf_157.2.2.1 41 4 (by decide) (by decide) rfl).2.1, (hf_157.2.2.1 6 4 (by decide) (by decide) rfl).1]; assumption
                      refine ⟨fun h_167 => ?_, fun h_167 => ?_⟩
                      · refine s_1537_184 _ _ _ _ _ _ ?_
                        try rw [show gp_wr (v5_44 + 1) = v5_44 + 1 from gp_wr_id (by omega) (by omega)]
                        exact ih_44 _ _ _ hs_156 hf_160 pd_162 pd_164 kt_161 (by omega) (by omega) (by omega) (by first | rfl | omega) (by assumption) (by assumption) (Or.inr (by assumption)) (by first | omega | assumption) (by omega)
                      · refine s_1537_179 _ _ _ _ _ ?_
                        refine s_1537_184 _ _ _ _ _ _ ?_
                        try rw [show gp_wr (v5_44 + 1) = v5_44 + 1 from gp_wr_id (by omega) (by omega)]
                        exact ih_44 _ _ _ hs_156 hf_160 pd_162 pd_164 kt_161 (by omega) (by omega) (by omega) (by first | rfl | omega) (by assumption) (by assumption) (Or.inr (by assumption)) (by first | omega | assumption) (by omega)
                    · refine s_1537_179 _ _ _ _ _ ?_
                      refine s_1537_184 _ _ _ _ _ _ ?_
                      try rw [show gp_wr (v5_44 + 1) = v5_44 + 1 from gp_wr_id (by omega) (by omega)]
                      exact ih_44 _ _ _ hs_142 hf_146 pd_148 pd_150 kt_147 (by omega) (by omega) (by omega) (by first | rfl | omega) (by assumption) (by assumption) (Or.inr (by assumption)) (by first | omega | assumption) (by omega)
                  · refine s_1537_179 _ _ _ _ _ ?_
                    refine s_1537_184 _ _ _ _ _ _ ?_
                    try rw [show gp_wr (v5_44 + 1) = v5_44 + 1 from gp_wr_id (by omega) (by omega)]
                    exact ih_44 _ _ _ hs_128 hf_132 pd_134 pd_136 kt_133 (by omega) (by omega) (by omega) (by first | rfl | omega) (by assumption) (by assumption) (Or.inr (by assumption)) (by first | omega | assumption) (by omega)
                · refine s_1537_179 _ _ _ _ _ ?_
                  refine s_1537_184 _ _ _ _ _ _ ?_
                  try rw [show gp_wr (v5_44 + 1) = v5_44 + 1 from gp_wr_id (by omega) (by omega)]
                  exact ih_44 _ _ _ hs_114 hf_118 pd_120 pd_122 kt_119 (by omega) (by omega) (by omega) (by first | rfl | omega) (by assumption) (by assumption) (Or.inr (by assumption)) (by first | omega | assumption) (by omega)
            · refine s_1537_192 _ _ _ _ _ ?_
              have hSK : SK s_44 := by rcases iv2_44 with h9 | h9; (exfalso; omega); exact h9
              have hrp9 := RP_v3_15_s_44
              refine xm_settle hs_s_44 (PO_s_44) (hSK) (fun x_183 s_184 hs_185 hf_186 p_187 p_188 p_189 => ⟨_, rfl, ?_⟩)
              have hf_190 : gX L true [8, 9, 10, 11, 12, 13, 14, 15, 16, 17, 18, 19, 32, 33, 34, 35, 43, 44, 45, 1196, 2316, 2317] s s_184 := gX.trans hf_s_44 hf_186 rfl rfl
              have kt_191 : kT L s_184 p0 n_p0 := kt_p0_s_44.fr hf_186.1
              have z_192 : gp_sz s_184 = gp_sz s_44 ∧ gp_us s_184 = gp_us s_44 := hf_186.2.1 rfl
              have hcf9 := hf_186
              refine ⟨by omega, ?_⟩
              intro s_193 e_194
              have hs_195 : XI L 0 s_193 := by rw [e_194]; exact xw45 hs_185 _ _ (by omega)
              have hf_196 : gX L true [8, 9, 10, 11, 12, 13, 14, 15, 16, 17, 18, 19, 32, 33, 34, 35, 43, 44, 45, 1196, 2316, 2317] s s_193 := by rw [e_194]; exact gX.wI hf_190 (Or.inl rfl)
              have kt_197 : kT L s_193 p0 n_p0 := by rw [e_194]; exact kt_191
              have z_198 : gp_sz s_193 = gp_sz s_184 ∧ gp_us s_193 = gp_us s_184 := by rw [e_194]; exact ⟨rfl, rfl⟩
              have q_199 : gp_I s_193 6 4 = gp_I s_184 6 4 := by rw [e_194] <;> first | rfl | exact I_ne (by omega)
              have pd_200 : PO s_193 := by rw [e_194]; exact PO_fr p_188 (gX.wI (gX.refl L true [45] _) (Or.inl rfl)) rfl rfl rfl rfl rfl rfl
              have hrp2 : RP (v3_15 + 1) s_193 := RP_step hrp9 (by omega) hcf9 rfl (by assumption) (by omega) (by omega) (by omega)
              have hpl := hrp2 (Int.toNat v3_15) (by omega)
              refine ⟨by omega, ?_⟩
              have f_201 := xr45 hs_195 (Int.toNat v3_15)
              refine ⟨fun h_202 => ?_, fun h_202 => ?_⟩
              · exact k _ s_193 hs_195 hf_196 (⟨_, _, rfl, kt_197, by omega⟩) (by first | omega | assumption) (by first | omega | assumption)
              · refine ⟨by omega, ?_⟩
                have f_203 := xr45 hs_195 (Int.toNat v3_15)
                refine ⟨by omega, ?_⟩
                have f_204 := xr45 hs_195 (Int.toNat v3_15)
                refine xm_note42 _ _ hs_195 (by omega) (by omega) (fun s_205 hs_206 hf_207 => ⟨rfl, ?_⟩)
                have hf_208 : gX L true [8, 9, 10, 11, 12, 13, 14, 15, 16, 17, 18, 19, 32, 33, 34, 35, 43, 44, 45, 1196, 2316, 2317] s s_205 := gX.trans hf_196 hf_207 rfl rfl
                have kt_209 : kT L s_205 p0 n_p0 := kt_197.fr hf_207.1
                have pd_210 : PO s_205 := PO_fr pd_200 hf_207 rfl rfl rfl rfl rfl rfl
                have pd_211 : RP (v3_15 + 1) s_205 := RP_fr hrp2 hf_207 rfl rfl
                have q_212 : gp_I s_205 6 4 = gp_I s_193 6 4 := (hf_207.2.2.1 6 4 (by decide) (by decide) rfl).1
                have z_213 : gp_sz s_205 = gp_sz s_193 ∧ gp_us s_205 = gp_us s_193 := hf_207.2.1 rfl
                try rw [show gp_wr (v3_15 + 1) = v3_15 + 1 from gp_wr_id (by omega) (by omega)]
                exact ih_15 _ _ _ _ hs_206 hf_208 pd_210 kt_209 (by omega) (by omega) (pd_211) (by first | omega | assumption) (by omega)
        exact lp_44 _ _ _ _ hs_36 hf_37 pd_41 pd_42 kt_38 (by omega) (by omega) (by omega) (by first | rfl | omega) (hL63) (hR63) (Or.inl rfl) (by first | omega | assumption) (Nat.lt_succ_self _)
      · refine ⟨kt_p0_s_15.2.1, ?_⟩
        refine xm_root n_p0 _ hs_s_15 (by first | assumption | exact kT7 hs_s_15.1.1 | exact kT25 hs_s_15.1.1) (fun x_215 p_216 p_217 => ⟨_, rfl, ?_⟩)
        have hrt := iv0_15 (Int.toNat x_215) (by omega)
        refine ⟨by omega, ?_⟩
        have f_218 := xr45 hs_s_15 (Int.toNat x_215)
        refine xm_tableOf _ hs_s_15 (by omega) (PO_s_15) (by first | omega | assumption) (fun o_219 s_220 hs_221 hf_222 p_223 p_224 p_225 => ⟨_, rfl, ?_⟩)
        have hf_226 : gX L true [8, 9, 10, 11, 12, 13, 14, 15, 16, 17, 18, 19, 32, 33, 34, 35, 43, 44, 45, 1196, 2316, 2317] s s_220 := gX.trans hf_s_15 hf_222 rfl rfl
        have kt_227 : kT L s_220 p0 n_p0 := kt_p0_s_15.fr hf_222.1
        have pd_228 : PO s_220 := PO_fr PO_s_15 hf_222 rfl rfl rfl rfl rfl rfl
        have pd_229 : RP v3_15 s_220 := RP_fr iv0_15 hf_222 rfl rfl
        have q_230 : gp_I s_220 6 4 = gp_I s_15 6 4 := (hf_222.2.2.1 6 4 (by decide) (by decide) rfl).1
        obtain ⟨a_231, n_232, rfl, kt_233, hn_234⟩ := p_223
        have hn_a_231 := kt_233.n hs_221
        exact k _ s_220 hs_221 hf_226 (⟨_, _, rfl, by assumption, by omega⟩) (by first | omega | assumption) (by first | omega | assumption)
  exact lp_15 _ _ _ _ _ hs_3 hf_7 p_6 kt_8 (by omega) (by omega) (RP_0 _) (by first | omega | assumption) (Nat.lt_succ_self _)
