theorem nt_fr {L : Nat} {al : Bool} {m : List Nat} {s t : gH} {b : Nat} (h : NT L s b) (g : gX L al m s t) (hb : b < s.1) : NT L t b := fun a ha => by
  by_cases c : a < s.1
  · exact h a (by rw [← g.1.2.1 a c]; exact ha)
  · omega
theorem mul_rng {a b A B : Int} (h1 : 0 ≤ a) (h2 : a ≤ A) (h3 : 0 ≤ b) (h4 : b ≤ B) : 0 ≤ a * b ∧ a * b ≤ A * B := ⟨Int.mul_nonneg h1 h3, Int.mul_le_mul h2 h4 h3 (Int.le_trans h1 h2)⟩
theorem plcI {a0 a1 a2 x1 x2 : Int} {n0 n1 n2 : Nat} (h0 : 0 ≤ a0) (k0 : a0 < n0) (h1 : 0 ≤ a1) (k1 : a1 < n1) (h2 : 0 ≤ a2) (k2 : a2 < n2) (e1 : x1 = n1) (e2 : x2 = n2) : (a0 * x1 + a1) * x2 + a2 < ((n0 * n1 * n2 : Nat) : Int) := by subst e1; subst e2; exact (plc3 h0 k0 h1 k1 h2 k2).2
/-- a row of places that starts where a place does, ends where one does -/
theorem plcW {a0 a1 x1 x2 : Int} {n0 n1 n2 : Nat} (h0 : 0 ≤ a0) (k0 : a0 < n0) (h1 : 0 ≤ a1) (k1 : a1 < n1) (e1 : x1 = n1) (e2 : x2 = n2) (hn : 1 ≤ n2) : (a0 * x1 + a1) * x2 + x2 ≤ ((n0 * n1 * n2 : Nat) : Int) := by
  subst e1; subst e2
  have := (plc3 h0 k0 h1 k1 (a2 := (n2 : Int) - 1) (by omega) (by omega : (n2 : Int) - 1 < n2)).2
  omega
/-- the rows of scores, so many places each -/
def SVA (L S A : Nat) (s : gH) : Prop := ∃ l r, gp_R (gp_mk L s) S 6 = some l ∧ gp_R (gp_mk L s) S 7 = some r ∧ l < s.1 ∧ r < s.1 ∧ gp_sh (gp_mk L s) l = (100, A) ∧ gp_sh (gp_mk L s) r = (100, A) ∧ NT L s l ∧ NT L s r ∧ (l < 117 → l = 55 ∨ l = 56 ∨ l = 64 ∨ l = 65) ∧ (r < 117 → r = 55 ∨ r = 56 ∨ r = 64 ∨ r = 65) ∧ 1 ≤ A ∧ A ≤ 216000
theorem SVA.arr6 {L S A : Nat} {s : gH} (h : SVA L S A s) : ∃ b, gp_R (gp_mk L s) S 6 = some b ∧ b < s.1 ∧ gp_sh (gp_mk L s) b = (100, A) ∧ NT L s b ∧ (b < 117 → b = 55 ∨ b = 56 ∨ b = 64 ∨ b = 65) := by
  obtain ⟨l, r, a1, a2, a3, a4, a5, a6, a7, a8, a9, b1, b2, b3⟩ := h
  exact ⟨l, a1, a3, a5, a7, a9⟩
theorem SVA.arr7 {L S A : Nat} {s : gH} (h : SVA L S A s) : ∃ b, gp_R (gp_mk L s) S 7 = some b ∧ b < s.1 ∧ gp_sh (gp_mk L s) b = (100, A) ∧ NT L s b ∧ (b < 117 → b = 55 ∨ b = 56 ∨ b = 64 ∨ b = 65) := by
  obtain ⟨l, r, a1, a2, a3, a4, a5, a6, a7, a8, a9, b1, b2, b3⟩ := h
  exact ⟨r, a2, a4, a6, a8, b1⟩
theorem SVA_fr' {L S A : Nat} {al : Bool} {m : List Nat} {s t : gH} (h : SVA L S A s) (g : gX L al m s t) (h3 : 1 ≤ S) (h4 : S < 117) (e6 : m.contains (gcd S 6) = false) (e7 : m.contains (gcd S 7) = false) : SVA L S A t := by
  obtain ⟨l, r, a1, a2, a3, a4, a5, a6, a7, a8, a9, b1, b2, b3⟩ := h
  exact ⟨l, r, (R_fr g h3 h4 e6).trans a1, (R_fr g h3 h4 e7).trans a2, Nat.lt_of_lt_of_le a3 g.1.1, Nat.lt_of_lt_of_le a4 g.1.1, sh_fr a5 g a3, sh_fr a6 g a4, nt_fr a7 g a3, nt_fr a8 g a4, a9, b1, b2, b3⟩
theorem SVA51_fr {L A : Nat} {al : Bool} {m : List Nat} {s t : gH} (h : SVA L 51 A s) (g : gX L al m s t) (e6 : m.contains 2638 = false) (e7 : m.contains 2639 = false) : SVA L 51 A t := SVA_fr' h g (by decide) (by decide) e6 e7
theorem SVA60_fr {L A : Nat} {al : Bool} {m : List Nat} {s t : gH} (h : SVA L 60 A s) (g : gX L al m s t) (e6 : m.contains 2926 = false) (e7 : m.contains 2927 = false) : SVA L 60 A t := SVA_fr' h g (by decide) (by decide) e6 e7
theorem xPs {b k : Nat} {v : Int} (h : b < 117 → b = 55 ∨ b = 56 ∨ b = 64 ∨ b = 65) : b < 74 → xP b k v := by
  intro h1
  rcases h (by omega) with q | q | q | q <;> subst q <;> exact trivial
theorem gXs {b k : Nat} {m : List Nat} (h : b < 117 → b = 55 ∨ b = 56 ∨ b = 64 ∨ b = 65) (hm : [55, 56, 64, 65].all (fun x => m.contains x) = true) : m.contains (gcd b k) = true ∨ 117 ≤ b := by
  by_cases c : b < 117
  · rw [List.all_eq_true] at hm
    rcases h c with q | q | q | q
    · subst q; exact Or.inl (hm 55 (by decide))
    · subst q; exact Or.inl (hm 56 (by decide))
    · subst q; exact Or.inl (hm 64 (by decide))
    · subst q; exact Or.inl (hm 65 (by decide))
  · exact Or.inr (by omega)
set_option maxRecDepth 100000 in
/-- Sum.place -/
theorem xm_splace51  {L d : Nat} {K : Option gV → gH → Prop} {s : gH}   (hs : XI L 0 s)  (q0 : SVP L 52 s) (k : ∀ (r : Int), (0 ≤ r ∧ r ≤ 215999) → (r < (pr3 L 52 s : Nat)) → K (some (gp_i r)) s) : gs_C L d 2059 1 [gp_r (some 51)] s K := by
  refine s_2059_e _ ?_
  obtain ⟨ay, ny, ry, ky, cy⟩ := SVP.p52 q0 0 (by decide)
  obtain ⟨az, nz, rz, kz, cz⟩ := SVP.p52 q0 1 (by decide)
  obtain ⟨aw, nw, rw_, kw, cw⟩ := SVP.p52 q0 2 (by decide)
  refine ⟨51, rfl, ?_⟩
  refine ⟨rfl, ?_⟩
  refine ⟨53, rfl, ?_⟩
  refine ⟨⟨rfl, by show 0 ≤ 0 ∧ 0 < 3; omega⟩, ?_⟩
  have f_1 := xr53 hs 0
  refine ⟨rfl, ?_⟩
  refine ⟨52, rfl, ?_⟩
  refine ⟨⟨rfl, by show 0 ≤ 1 ∧ 1 < 3; omega⟩, ?_⟩
  obtain ⟨a_2, n_3, e_4, kt_5, hn_6⟩ := SVP.p52 (by assumption : SVP L 52 s) 1 (by omega)
  have hn_a_2 := kt_5.n hs
  refine ⟨a_2, e_4, ?_⟩
  refine ⟨kt_5.2.1, ?_⟩
  have f_7 := (kt_5.tt hs).1.2.2.1
  have f_8 := kt_5.n hs
  have mr_9 := mul_rng (a := gp_I s 53 0) (b := gp_I s a_2 0) (A := 59) (B := 60) (by omega) (by omega) (by omega) (by omega)
  try rw [show gp_wr ((gp_I s 53 0) * (gp_I s a_2 0)) = (gp_I s 53 0) * (gp_I s a_2 0) from gp_wr_id (by omega) (by omega)]
  refine ⟨rfl, ?_⟩
  refine ⟨53, rfl, ?_⟩
  refine ⟨⟨rfl, by show 0 ≤ 1 ∧ 1 < 3; omega⟩, ?_⟩
  have f_10 := xr53 hs 1
  try rw [show gp_wr (((gp_I s 53 0) * (gp_I s a_2 0)) + (gp_I s 53 1)) = ((gp_I s 53 0) * (gp_I s a_2 0)) + (gp_I s 53 1) from gp_wr_id (by omega) (by omega)]
  refine ⟨rfl, ?_⟩
  refine ⟨52, rfl, ?_⟩
  refine ⟨⟨rfl, by show 0 ≤ 2 ∧ 2 < 3; omega⟩, ?_⟩
  obtain ⟨a_11, n_12, e_13, kt_14, hn_15⟩ := SVP.p52 (by assumption : SVP L 52 s) 2 (by omega)
  have hn_a_11 := kt_14.n hs
  refine ⟨a_11, e_13, ?_⟩
  refine ⟨kt_14.2.1, ?_⟩
  have f_16 := (kt_14.tt hs).1.2.2.1
  have f_17 := kt_14.n hs
  have mr_18 := mul_rng (a := ((gp_I s 53 0) * (gp_I s a_2 0)) + (gp_I s 53 1)) (b := gp_I s a_11 0) (A := 3599) (B := 60) (by omega) (by omega) (by omega) (by omega)
  try rw [show gp_wr ((((gp_I s 53 0) * (gp_I s a_2 0)) + (gp_I s 53 1)) * (gp_I s a_11 0)) = (((gp_I s 53 0) * (gp_I s a_2 0)) + (gp_I s 53 1)) * (gp_I s a_11 0) from gp_wr_id (by omega) (by omega)]
  refine ⟨rfl, ?_⟩
  refine ⟨53, rfl, ?_⟩
  refine ⟨⟨rfl, by show 0 ≤ 2 ∧ 2 < 3; omega⟩, ?_⟩
  have f_19 := xr53 hs 2
  try rw [show gp_wr (((((gp_I s 53 0) * (gp_I s a_2 0)) + (gp_I s 53 1)) * (gp_I s a_11 0)) + (gp_I s 53 2)) = ((((gp_I s 53 0) * (gp_I s a_2 0)) + (gp_I s 53 1)) * (gp_I s a_11 0)) + (gp_I s 53 2) from gp_wr_id (by omega) (by omega)]
  exact k _ (by omega) (plcI (by omega) (by omega) (by omega) (by omega) (by omega) (by omega) (by omega) (by omega))
set_option maxRecDepth 100000 in
/-- Sum.place -/
theorem xm_splace60  {L d : Nat} {K : Option gV → gH → Prop} {s : gH}   (hs : XI L 0 s)  (q0 : SVP L 61 s) (k : ∀ (r : Int), (0 ≤ r ∧ r ≤ 215999) → (r < (pr3 L 61 s : Nat)) → K (some (gp_i r)) s) : gs_C L d 2059 1 [gp_r (some 60)] s K := by
  refine s_2059_e _ ?_
  obtain ⟨ay, ny, ry, ky, cy⟩ := SVP.p61 q0 0 (by decide)
  obtain ⟨az, nz, rz, kz, cz⟩ := SVP.p61 q0 1 (by decide)
  obtain ⟨aw, nw, rw_, kw, cw⟩ := SVP.p61 q0 2 (by decide)
  refine ⟨60, rfl, ?_⟩
  refine ⟨rfl, ?_⟩
  refine ⟨62, rfl, ?_⟩
  refine ⟨⟨rfl, by show 0 ≤ 0 ∧ 0 < 3; omega⟩, ?_⟩
  have f_1 := xr62 hs 0
  refine ⟨rfl, ?_⟩
  refine ⟨61, rfl, ?_⟩
  refine ⟨⟨rfl, by show 0 ≤ 1 ∧ 1 < 3; omega⟩, ?_⟩
  obtain ⟨a_2, n_3, e_4, kt_5, hn_6⟩ := SVP.p61 (by assumption : SVP L 61 s) 1 (by omega)
  have hn_a_2 := kt_5.n hs
  refine ⟨a_2, e_4, ?_⟩
  refine ⟨kt_5.2.1, ?_⟩
  have f_7 := (kt_5.tt hs).1.2.2.1
  have f_8 := kt_5.n hs
  have mr_9 := mul_rng (a := gp_I s 62 0) (b := gp_I s a_2 0) (A := 59) (B := 60) (by omega) (by omega) (by omega) (by omega)
  try rw [show gp_wr ((gp_I s 62 0) * (gp_I s a_2 0)) = (gp_I s 62 0) * (gp_I s a_2 0) from gp_wr_id (by omega) (by omega)]
  refine ⟨rfl, ?_⟩
  refine ⟨62, rfl, ?_⟩
  refine ⟨⟨rfl, by show 0 ≤ 1 ∧ 1 < 3; omega⟩, ?_⟩
  have f_10 := xr62 hs 1
  try rw [show gp_wr (((gp_I s 62 0) * (gp_I s a_2 0)) + (gp_I s 62 1)) = ((gp_I s 62 0) * (gp_I s a_2 0)) + (gp_I s 62 1) from gp_wr_id (by omega) (by omega)]
  refine ⟨rfl, ?_⟩
  refine ⟨61, rfl, ?_⟩
  refine ⟨⟨rfl, by show 0 ≤ 2 ∧ 2 < 3; omega⟩, ?_⟩
  obtain ⟨a_11, n_12, e_13, kt_14, hn_15⟩ := SVP.p61 (by assumption : SVP L 61 s) 2 (by omega)
  have hn_a_11 := kt_14.n hs
  refine ⟨a_11, e_13, ?_⟩
  refine ⟨kt_14.2.1, ?_⟩
  have f_16 := (kt_14.tt hs).1.2.2.1
  have f_17 := kt_14.n hs
  have mr_18 := mul_rng (a := ((gp_I s 62 0) * (gp_I s a_2 0)) + (gp_I s 62 1)) (b := gp_I s a_11 0) (A := 3599) (B := 60) (by omega) (by omega) (by omega) (by omega)
  try rw [show gp_wr ((((gp_I s 62 0) * (gp_I s a_2 0)) + (gp_I s 62 1)) * (gp_I s a_11 0)) = (((gp_I s 62 0) * (gp_I s a_2 0)) + (gp_I s 62 1)) * (gp_I s a_11 0) from gp_wr_id (by omega) (by omega)]
  refine ⟨rfl, ?_⟩
  refine ⟨62, rfl, ?_⟩
  refine ⟨⟨rfl, by show 0 ≤ 2 ∧ 2 < 3; omega⟩, ?_⟩
  have f_19 := xr62 hs 2
  try rw [show gp_wr (((((gp_I s 62 0) * (gp_I s a_2 0)) + (gp_I s 62 1)) * (gp_I s a_11 0)) + (gp_I s 62 2)) = ((((gp_I s 62 0) * (gp_I s a_2 0)) + (gp_I s 62 1)) * (gp_I s a_11 0)) + (gp_I s 62 2) from gp_wr_id (by omega) (by omega)]
  exact k _ (by omega) (plcI (by omega) (by omega) (by omega) (by omega) (by omega) (by omega) (by omega) (by omega))
set_option maxRecDepth 100000 in
/-- Sum.weigh -/
theorem xm_sweigh51  {L d : Nat} {K : Option gV → gH → Prop} {s : gH} (A : Nat) (p0 : Int) (p1 : Int) (p2 : Int) (p3 : Int) (hs : XI L 0 s) (h_p1 : 0 ≤ p1 ∧ p1 ≤ 216000) (h_p2 : 0 ≤ p2 ∧ p2 ≤ 216000) (h_p3 : 0 ≤ p3 ∧ p3 ≤ 60) (q0 : SVA L 51 A s) (q1 : p1 + p3 ≤ A) (q2 : p2 + p3 ≤ A) (k : ∀ (t : gH), XI L 0 t → gX L false [55, 56, 64, 65] s t → K none t) : gs_C L d 2062 6 [gp_r (some 51), gp_i p0, gp_i p1, gp_i p2, gp_i p3] s K := by
  refine s_2062_e _ _ _ _ _ ?_
  have lp_2 : ∀ (n_2 : Nat) (v5_2 : Int) (s_2 : gH), (XI L 0 s_2) → (gX L false [55, 56, 64, 65] s s_2) → (SVA L 51 A s_2) → (0 ≤ v5_2 ∧ v5_2 ≤ 60) → (61 - v5_2).toNat < n_2 → gs_E L d 2062 3 [gp_r (some 51), gp_i p0, gp_i p1, gp_i p2, gp_i p3, gp_i v5_2] [] s_2 K := by
    intro n_2
    induction n_2 with
    | zero => intro v5_2 s_2 hs_s_2 hf_s_2 SVA_L_51_A_s_2 hv5_2 hm_2; exact absurd hm_2 (Nat.not_lt_zero _)
    | succ n_2 ih_2 =>
      intro v5_2 s_2 hs_s_2 hf_s_2 SVA_L_51_A_s_2 hv5_2 hm_2
      refine s_2062_3 _ _ _ _ _ _ ?_
      refine ⟨fun h_3 => ?_, fun h_3 => ?_⟩
      · refine ⟨fun h_4 => ?_, fun h_4 => ?_⟩
        · refine ⟨51, rfl, ?_⟩
          refine ⟨rfl, ?_⟩
          try rw [show gp_wr (p1 + v5_2) = p1 + v5_2 from gp_wr_id (by omega) (by omega)]
          refine ⟨rfl, ?_⟩
          try rw [show gp_wr (p1 + v5_2) = p1 + v5_2 from gp_wr_id (by omega) (by omega)]
          obtain ⟨b_5, rb_5, lb_5, hb_5, tb_5, cb_5⟩ := SVA.arr6 SVA_L_51_A_s_2
          refine ⟨b_5, rb_5, ?_⟩
          refine ⟨gin hb_5 (by omega), ?_⟩
          refine ⟨rfl, ?_⟩
          try rw [show gp_wr (p2 + v5_2) = p2 + v5_2 from gp_wr_id (by omega) (by omega)]
          obtain ⟨b_6, rb_6, lb_6, hb_6, tb_6, cb_6⟩ := SVA.arr7 SVA_L_51_A_s_2
          refine ⟨b_6, rb_6, ?_⟩
          refine ⟨gin hb_6 (by omega), ?_⟩
          have w_7 := gz_mx (gp_I s_2 b_5 (Int.toNat (p1 + v5_2))) (gp_I s_2 b_6 (Int.toNat (p2 + v5_2)))
          refine ⟨gin hb_5 (by omega), ?_⟩
          intro s_8 e_9
          have hs_10 : XI L 0 s_8 := by rw [e_9]; exact XI.nt hs_s_2 _ _ _ (by rw [hb_5]) tb_5 (xPs cb_5)
          have hf_11 : gX L false [55, 56, 64, 65] s s_8 := by rw [e_9]; exact gX.wI hf_s_2 (gXs cb_5 rfl)
          have pd_12 : SVA L 51 A s_8 := by rw [e_9]; exact SVA51_fr SVA_L_51_A_s_2 (gX.wI (gX.refl L true [55, 56, 64, 65] _) (gXs cb_5 rfl)) rfl rfl
          refine s_2062_77 _ _ _ _ _ _ ?_
          try rw [show gp_wr (v5_2 + 1) = v5_2 + 1 from gp_wr_id (by omega) (by omega)]
          exact ih_2 _ _ hs_10 hf_11 pd_12 (by omega) (by omega)
        · refine ⟨51, rfl, ?_⟩
          refine ⟨rfl, ?_⟩
          try rw [show gp_wr (p1 + v5_2) = p1 + v5_2 from gp_wr_id (by omega) (by omega)]
          refine ⟨rfl, ?_⟩
          try rw [show gp_wr (p1 + v5_2) = p1 + v5_2 from gp_wr_id (by omega) (by omega)]
          obtain ⟨b_15, rb_15, lb_15, hb_15, tb_15, cb_15⟩ := SVA.arr7 SVA_L_51_A_s_2
          refine ⟨b_15, rb_15, ?_⟩
          refine ⟨gin hb_15 (by omega), ?_⟩
          refine ⟨rfl, ?_⟩
          try rw [show gp_wr (p2 + v5_2) = p2 + v5_2 from gp_wr_id (by omega) (by omega)]
          obtain ⟨b_16, rb_16, lb_16, hb_16, tb_16, cb_16⟩ := SVA.arr6 SVA_L_51_A_s_2
          refine ⟨b_16, rb_16, ?_⟩
          refine ⟨gin hb_16 (by omega), ?_⟩
          have w_17 := gz_mi (gp_I s_2 b_15 (Int.toNat (p1 + v5_2))) (gp_I s_2 b_16 (Int.toNat (p2 + v5_2)))
          refine ⟨gin hb_15 (by omega), ?_⟩
          intro s_18 e_19
          have hs_20 : XI L 0 s_18 := by rw [e_19]; exact XI.nt hs_s_2 _ _ _ (by rw [hb_15]) tb_15 (xPs cb_15)
          have hf_21 : gX L false [55, 56, 64, 65] s s_18 := by rw [e_19]; exact gX.wI hf_s_2 (gXs cb_15 rfl)
          have pd_22 : SVA L 51 A s_18 := by rw [e_19]; exact SVA51_fr SVA_L_51_A_s_2 (gX.wI (gX.refl L true [55, 56, 64, 65] _) (gXs cb_15 rfl)) rfl rfl
          refine s_2062_77 _ _ _ _ _ _ ?_
          try rw [show gp_wr (v5_2 + 1) = v5_2 + 1 from gp_wr_id (by omega) (by omega)]
          exact ih_2 _ _ hs_20 hf_21 pd_22 (by omega) (by omega)
      · exact k s_2 hs_s_2 hf_s_2
  exact lp_2 _ _ _ hs (gX.refl _ _ _ _) q0 (by omega) (Nat.lt_succ_self _)
set_option maxRecDepth 100000 in
/-- Sum.weigh -/
theorem xm_sweigh60  {L d : Nat} {K : Option gV → gH → Prop} {s : gH} (A : Nat) (p0 : Int) (p1 : Int) (p2 : Int) (p3 : Int) (hs : XI L 0 s) (h_p1 : 0 ≤ p1 ∧ p1 ≤ 216000) (h_p2 : 0 ≤ p2 ∧ p2 ≤ 216000) (h_p3 : 0 ≤ p3 ∧ p3 ≤ 60) (q0 : SVA L 60 A s) (q1 : p1 + p3 ≤ A) (q2 : p2 + p3 ≤ A) (k : ∀ (t : gH), XI L 0 t → gX L false [55, 56, 64, 65] s t → K none t) : gs_C L d 2062 6 [gp_r (some 60), gp_i p0, gp_i p1, gp_i p2, gp_i p3] s K := by
  refine s_2062_e _ _ _ _ _ ?_
  have lp_2 : ∀ (n_2 : Nat) (v5_2 : Int) (s_2 : gH), (XI L 0 s_2) → (gX L false [55, 56, 64, 65] s s_2) → (SVA L 60 A s_2) → (0 ≤ v5_2 ∧ v5_2 ≤ 60) → (61 - v5_2).toNat < n_2 → gs_E L d 2062 3 [gp_r (some 60), gp_i p0, gp_i p1, gp_i p2, gp_i p3, gp_i v5_2] [] s_2 K := by
    intro n_2
    induction n_2 with
    | zero => intro v5_2 s_2 hs_s_2 hf_s_2 SVA_L_60_A_s_2 hv5_2 hm_2; exact absurd hm_2 (Nat.not_lt_zero _)
    | succ n_2 ih_2 =>
      intro v5_2 s_2 hs_s_2 hf_s_2 SVA_L_60_A_s_2 hv5_2 hm_2
      refine s_2062_3 _ _ _ _ _ _ ?_
      refine ⟨fun h_3 => ?_, fun h_3 => ?_⟩
      · refine ⟨fun h_4 => ?_, fun h_4 => ?_⟩
        · refine ⟨60, rfl, ?_⟩
          refine ⟨rfl, ?_⟩
          try rw [show gp_wr (p1 + v5_2) = p1 + v5_2 from gp_wr_id (by omega) (by omega)]
          refine ⟨rfl, ?_⟩
          try rw [show gp_wr (p1 + v5_2) = p1 + v5_2 from gp_wr_id (by omega) (by omega)]
          obtain ⟨b_5, rb_5, lb_5, hb_5, tb_5, cb_5⟩ := SVA.arr6 SVA_L_60_A_s_2
          refine ⟨b_5, rb_5, ?_⟩
          refine ⟨gin hb_5 (by omega), ?_⟩
          refine ⟨rfl, ?_⟩
          try rw [show gp_wr (p2 + v5_2) = p2 + v5_2 from gp_wr_id (by omega) (by omega)]
          obtain ⟨b_6, rb_6, lb_6, hb_6, tb_6, cb_6⟩ := SVA.arr7 SVA_L_60_A_s_2
          refine ⟨b_6, rb_6, ?_⟩
          refine ⟨gin hb_6 (by omega), ?_⟩
          have w_7 := gz_mx (gp_I s_2 b_5 (Int.toNat (p1 + v5_2))) (gp_I s_2 b_6 (Int.toNat (p2 + v5_2)))
          refine ⟨gin hb_5 (by omega), ?_⟩
          intro s_8 e_9
          have hs_10 : XI L 0 s_8 := by rw [e_9]; exact XI.nt hs_s_2 _ _ _ (by rw [hb_5]) tb_5 (xPs cb_5)
          have hf_11 : gX L false [55, 56, 64, 65] s s_8 := by rw [e_9]; exact gX.wI hf_s_2 (gXs cb_5 rfl)
          have pd_12 : SVA L 60 A s_8 := by rw [e_9]; exact SVA60_fr SVA_L_60_A_s_2 (gX.wI (gX.refl L true [55, 56, 64, 65] _) (gXs cb_5 rfl)) rfl rfl
          refine s_2062_77 _ _ _ _ _ _ ?_
          try rw [show gp_wr (v5_2 + 1) = v5_2 + 1 from gp_wr_id (by omega) (by omega)]
          exact ih_2 _ _ hs_10 hf_11 pd_12 (by omega) (by omega)
        · refine ⟨60, rfl, ?_⟩
          refine ⟨rfl, ?_⟩
          try rw [show gp_wr (p1 + v5_2) = p1 + v5_2 from gp_wr_id (by omega) (by omega)]
          refine ⟨rfl, ?_⟩
          try rw [show gp_wr (p1 + v5_2) = p1 + v5_2 from gp_wr_id (by omega) (by omega)]
          obtain ⟨b_15, rb_15, lb_15, hb_15, tb_15, cb_15⟩ := SVA.arr7 SVA_L_60_A_s_2
          refine ⟨b_15, rb_15, ?_⟩
          refine ⟨gin hb_15 (by omega), ?_⟩
          refine ⟨rfl, ?_⟩
          try rw [show gp_wr (p2 + v5_2) = p2 + v5_2 from gp_wr_id (by omega) (by omega)]
          obtain ⟨b_16, rb_16, lb_16, hb_16, tb_16, cb_16⟩ := SVA.arr6 SVA_L_60_A_s_2
          refine ⟨b_16, rb_16, ?_⟩
          refine ⟨gin hb_16 (by omega), ?_⟩
          have w_17 := gz_mi (gp_I s_2 b_15 (Int.toNat (p1 + v5_2))) (gp_I s_2 b_16 (Int.toNat (p2 + v5_2)))
          refine ⟨gin hb_15 (by omega), ?_⟩
          intro s_18 e_19
          have hs_20 : XI L 0 s_18 := by rw [e_19]; exact XI.nt hs_s_2 _ _ _ (by rw [hb_15]) tb_15 (xPs cb_15)
          have hf_21 : gX L false [55, 56, 64, 65] s s_18 := by rw [e_19]; exact gX.wI hf_s_2 (gXs cb_15 rfl)
          have pd_22 : SVA L 60 A s_18 := by rw [e_19]; exact SVA60_fr SVA_L_60_A_s_2 (gX.wI (gX.refl L true [55, 56, 64, 65] _) (gXs cb_15 rfl)) rfl rfl
          refine s_2062_77 _ _ _ _ _ _ ?_
          try rw [show gp_wr (v5_2 + 1) = v5_2 + 1 from gp_wr_id (by omega) (by omega)]
          exact ih_2 _ _ hs_20 hf_21 pd_22 (by omega) (by omega)
      · exact k s_2 hs_s_2 hf_s_2
  exact lp_2 _ _ _ hs (gX.refl _ _ _ _) q0 (by omega) (Nat.lt_succ_self _)
