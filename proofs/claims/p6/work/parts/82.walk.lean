/-! the class's walker -/
theorem shl1 (m : Nat) (h : m ≤ 7) : gp_shl 1 (m : Int) = ((2 ^ m : Nat) : Int) := by
  rcases (by omega : m = 0 ∨ m = 1 ∨ m = 2 ∨ m = 3 ∨ m = 4 ∨ m = 5 ∨ m = 6 ∨ m = 7) with q | q | q | q | q | q | q | q <;> subst q <;> decide
def sbN (x n : Int) : Prop := 0 ≤ x ∧ x < ((2 ^ n.toNat : Nat) : Int)
theorem sbN_0 : sbN 0 0 := ⟨by decide, by decide⟩
theorem sbN_n {x n : Int} (h : sbN x n) (h0 : 0 ≤ n) : sbN x (n + 1) := by
  refine ⟨h.1, ?_⟩
  have h2 := h.2
  rw [show (n + 1).toNat = n.toNat + 1 by omega, Nat.pow_succ]
  omega
theorem sbN_y {x n : Int} (h : sbN x n) (h0 : 0 ≤ n) (h7 : n ≤ 7) : sbN (gp_or x (gp_shl 1 n)) (n + 1) := by
  obtain ⟨a, ha⟩ : ∃ a : Nat, x = a := ⟨x.toNat, by have := h.1; omega⟩
  obtain ⟨m, hm⟩ : ∃ m : Nat, n = m := ⟨n.toNat, by omega⟩
  subst ha; subst hm
  have h2 : a < 2 ^ m := by
    have := h.2
    rw [Int.toNat_natCast] at this
    omega
  have hm7 : m ≤ 7 := by omega
  have hp : 2 ^ (m + 1) ≤ 2 ^ 8 := Nat.pow_le_pow_right (by decide) (by omega)
  have hs : 2 ^ (m + 1) = 2 ^ m * 2 := Nat.pow_succ 2 m
  have hor : a ||| 2 ^ m < 2 ^ (m + 1) := Nat.or_lt_two_pow (by omega) (by omega)
  rw [shl1 m hm7]
  have e : gp_or (a : Int) ((2 ^ m : Nat) : Int) = ((a ||| 2 ^ m : Nat) : Int) := by
    unfold gp_or
    have t : (BitVec.ofInt 32 (a : Int) ||| BitVec.ofInt 32 ((2 ^ m : Nat) : Int)).toNat = a ||| 2 ^ m := by
      rw [BitVec.toNat_or, BitVec.ofInt_natCast, BitVec.ofInt_natCast, BitVec.toNat_ofNat, BitVec.toNat_ofNat, Nat.mod_eq_of_lt (by omega), Nat.mod_eq_of_lt (by omega)]
    rw [BitVec.toInt_eq_toNat_of_lt (by omega), t]
  rw [e]
  refine ⟨by omega, ?_⟩
  rw [show ((m : Int) + 1).toNat = m + 1 by omega]
  omega
theorem sbN_i {x n : Int} (h : sbN x n) (h8 : n ≤ 8) : 0 ≤ x ∧ x < 256 := by
  refine ⟨h.1, ?_⟩
  have h2 := h.2
  have hp : 2 ^ n.toNat ≤ 2 ^ 8 := Nat.pow_le_pow_right (by decide) (by omega)
  omega
def okb (v : Int) : Prop := v = 108 ∨ v = 114 ∨ (48 ≤ v ∧ v ≤ 57)
/-- what is known is in the pool -/
def KN (s : gH) : Prop := ∀ k : Nat, (k : Int) < 256 → gp_I s 50 k < gp_I s 6 4
theorem KN_le {L : Nat} {al : Bool} {m : List Nat} {s t : gH} (h : KN s) (g : gX L al m s t) (e : m.contains 50 = false) (hw : gp_I s 6 4 ≤ gp_I t 6 4) : KN t := fun k hk => by
  have := h k hk
  rw [(g.2.2.1 50 k (by decide) (by decide) e).1]
  omega
theorem KN_fr {L : Nat} {al : Bool} {m : List Nat} {s t : gH} (h : KN s) (g : gX L al m s t) (e : m.contains 50 = false) (e2 : m.contains 1196 = false) : KN t := KN_le h g e (by rw [(g.2.2.1 6 4 (by decide) (by decide) e2).1]; exact Int.le_refl _)
theorem KN_w {s : gH} (h : KN s) {i : Nat} {v : Int} (hv : v < gp_I s 6 4) : KN (gp_wI s 50 i v) := fun k hk => by
  show gp_I (gp_wI s 50 i v) 50 k < gp_I s 6 4
  rw [gz_rwi]
  by_cases c : k = i
  · rw [if_pos c]; exact hv
  · rw [if_neg c]; exact h k hk
theorem KN_0 {L : Nat} {al : Bool} {m : List Nat} {s t : gH} (h : ∀ k : Nat, (k : Int) < 256 → gp_I s 50 k = -1) (g : gX L al m s t) (e : m.contains 50 = false) (hw : gp_I t 6 4 = 0) : KN t := fun k hk => by
  rw [(g.2.2.1 50 k (by decide) (by decide) e).1, h k hk, hw]; decide
theorem KL_s {s t : gH} {i : Int} (iv : ∀ k : Nat, (k : Int) < i → gp_I s 50 k = -1) (h0 : 0 ≤ i) (et : t = gp_wI s 50 (Int.toNat i) (-1)) : ∀ k : Nat, (k : Int) < i + 1 → gp_I t 50 k = -1 := by
  intro k hk
  rw [et, gz_rwi]
  by_cases c : k = i.toNat
  · rw [if_pos c]
  · rw [if_neg c]; exact iv k (by omega)
theorem okb_s {f : Nat → Int} {i : Int} (iv : ∀ k : Nat, (k : Int) < i → okb (f k)) (h0 : 0 ≤ i) (h : okb (f i.toNat)) : ∀ k : Nat, (k : Int) < i + 1 → okb (f k) := by
  intro k hk
  by_cases c : k = i.toNat
  · rw [c]; exact h
  · exact iv k (by omega)
set_option maxRecDepth 100000 in
/-- Walker.firstWrong -/
theorem xm_firstWrong  {L d : Nat} {K : Option gV → gH → Prop} {s : gH}  (p1 : Int) (hs : XI L 0 s) (h_p1 : 0 ≤ p1 ∧ p1 ≤ 100)  (k : ∀ (r : Int), ((-1) ≤ r ∧ r ≤ 100) → (r = -1 → 1 ≤ p1 ∧ p1 ≤ 8 ∧ ∀ k : Nat, (k : Int) < p1 → okb (gp_I s 3 k)) → K (some (gp_i r)) s) : gs_C L d 2561 6 [gp_r (some 48), gp_r (some 3), gp_i p1] s K := by
  refine s_2561_e _ _ ?_
  have lp_2 : ∀ (n_2 : Nat) (v3_2 : Int) (v4_2 : gV) (v5_2 : gV), (0 ≤ v3_2 ∧ v3_2 ≤ 8) → (∀ k : Nat, (k : Int) < v3_2 → okb (gp_I s 3 k)) → (9 - v3_2).toNat < n_2 → gs_E L d 2561 2 [gp_r (some 48), gp_r (some 3), gp_i p1, gp_i v3_2, v4_2, v5_2] [] s K := by
    intro n_2
    induction n_2 with
    | zero => intro v3_2 v4_2 v5_2 hv3_2 iv0_2 hm_2; exact absurd hm_2 (Nat.not_lt_zero _)
    | succ n_2 ih_2 =>
      intro v3_2 v4_2 v5_2 hv3_2 iv0_2 hm_2
      refine s_2561_2 _ _ _ _ _ ?_
      refine ⟨fun h_3 => ?_, fun h_3 => ?_⟩
      · refine ⟨3, rfl, ?_⟩
        refine ⟨⟨rfl, by show 0 ≤ v3_2 ∧ v3_2 < 100; omega⟩, ?_⟩
        have f_4 := xr3 hs (Int.toNat v3_2)
        refine ⟨fun h_5 => ?_, fun h_5 => ?_⟩
        · refine s_2561_40 _ _ _ _ _ ?_
          refine s_2561_45 _ _ _ _ _ _ ?_
          refine ⟨fun h_8 => ?_, fun h_8 => ?_⟩
          · exfalso; omega
          · refine ⟨fun h_9 => ?_, fun h_9 => ?_⟩
            · try rw [show gp_wr (v3_2 + 1) = v3_2 + 1 from gp_wr_id (by omega) (by omega)]
              exact ih_2 _ _ _ (by omega) (okb_s iv0_2 (by omega) (by unfold okb; omega)) (by omega)
            · refine s_2561_58 _ _ _ _ _ ?_
              exact k _ (by omega) (by first | exact (fun h9 => by exfalso; omega) | exact (fun _ => ⟨by omega, by omega, fun k hk => iv0_2 k (by omega)⟩))
        · refine ⟨fun h_12 => ?_, fun h_12 => ?_⟩
          · refine s_2561_40 _ _ _ _ _ ?_
            refine s_2561_45 _ _ _ _ _ _ ?_
            refine ⟨fun h_15 => ?_, fun h_15 => ?_⟩
            · exfalso; omega
            · refine ⟨fun h_16 => ?_, fun h_16 => ?_⟩
              · try rw [show gp_wr (v3_2 + 1) = v3_2 + 1 from gp_wr_id (by omega) (by omega)]
                exact ih_2 _ _ _ (by omega) (okb_s iv0_2 (by omega) (by unfold okb; omega)) (by omega)
              · refine s_2561_58 _ _ _ _ _ ?_
                exact k _ (by omega) (by first | exact (fun h9 => by exfalso; omega) | exact (fun _ => ⟨by omega, by omega, fun k hk => iv0_2 k (by omega)⟩))
          · refine ⟨fun h_19 => ?_, fun h_19 => ?_⟩
            · refine s_2561_44 _ _ _ _ _ ?_
              refine s_2561_45 _ _ _ _ _ _ ?_
              refine ⟨fun h_22 => ?_, fun h_22 => ?_⟩
              · refine s_2561_58 _ _ _ _ _ ?_
                exact k _ (by omega) (by first | exact (fun h9 => by exfalso; omega) | exact (fun _ => ⟨by omega, by omega, fun k hk => iv0_2 k (by omega)⟩))
              · exfalso; omega
            · refine ⟨fun h_24 => ?_, fun h_24 => ?_⟩
              · refine s_2561_44 _ _ _ _ _ ?_
                refine s_2561_45 _ _ _ _ _ _ ?_
                refine ⟨fun h_27 => ?_, fun h_27 => ?_⟩
                · refine s_2561_58 _ _ _ _ _ ?_
                  exact k _ (by omega) (by first | exact (fun h9 => by exfalso; omega) | exact (fun _ => ⟨by omega, by omega, fun k hk => iv0_2 k (by omega)⟩))
                · exfalso; omega
              · refine s_2561_40 _ _ _ _ _ ?_
                refine s_2561_45 _ _ _ _ _ _ ?_
                refine ⟨fun h_31 => ?_, fun h_31 => ?_⟩
                · exfalso; omega
                · refine ⟨fun h_32 => ?_, fun h_32 => ?_⟩
                  · try rw [show gp_wr (v3_2 + 1) = v3_2 + 1 from gp_wr_id (by omega) (by omega)]
                    exact ih_2 _ _ _ (by omega) (okb_s iv0_2 (by omega) (by unfold okb; omega)) (by omega)
                  · refine s_2561_58 _ _ _ _ _ ?_
                    exact k _ (by omega) (by first | exact (fun h9 => by exfalso; omega) | exact (fun _ => ⟨by omega, by omega, fun k hk => iv0_2 k (by omega)⟩))
      · refine ⟨fun h_35 => ?_, fun h_35 => ?_⟩
        · refine s_2561_75 _ _ _ _ _ _ ?_
          exact k _ (by omega) (by first | exact (fun h9 => by exfalso; omega) | exact (fun _ => ⟨by omega, by omega, fun k hk => iv0_2 k (by omega)⟩))
        · refine s_2561_75 _ _ _ _ _ _ ?_
          exact k _ (by omega) (by first | exact (fun h9 => by exfalso; omega) | exact (fun _ => ⟨by omega, by omega, fun k hk => iv0_2 k (by omega)⟩))
  exact lp_2 _ _ _ _ (by omega) (fun k hk => by omega) (Nat.lt_succ_self _)
def WS (m : Nat) : Prop := ∀ (L D : Nat) (K : Option gV → gH → Prop) (s : gH)  (p0 : Int) (p1 : Int), ((2 * m + 6 ≤ D)) → (XI L 0 s) → (0 ≤ p1 ∧ p1 ≤ 21) → (PO s) → (KN s) → (22 ≤ p1 + m) → (∀ (r : Int), ∀ (t : gH), XI L 0 t → gX L false [8, 9, 10, 11, 12, 13, 14, 49, 50, 1196] s t → ((-1) ≤ r ∧ r ≤ 59) → (PO t) → (KN t) → (gp_I s 6 4 ≤ gp_I t 6 4) → (r < gp_I t 6 4) → K (some (gp_i r)) t) → gs_C L D 2563 12 [gp_r (some 48), gp_i p0, gp_i p1] s K
def WP (m : Nat) : Prop := ∀ (L D : Nat) (K : Option gV → gH → Prop) (s : gH)  (p0 : Int) (p1 : Int) (p2 : Int) (p3 : Int), ((2 * m + 7 ≤ D)) → (XI L 0 s) → (0 ≤ p0 ∧ p0 ≤ 7) → (0 ≤ p1 ∧ p1 ≤ 7) → (0 ≤ p3 ∧ p3 ≤ 20) → (PO s) → (KN s) → (21 ≤ p3 + m) → (∀ (r : Int), ∀ (t : gH), XI L 0 t → gX L false [8, 9, 10, 11, 12, 13, 14, 49, 50, 1196] s t → ((-1) ≤ r ∧ r ≤ 59) → (PO t) → (KN t) → (gp_I s 6 4 ≤ gp_I t 6 4) → (r < gp_I t 6 4) → K (some (gp_i r)) t) → gs_C L D 2564 8 [gp_r (some 48), gp_i p0, gp_i p1, gp_i p2, gp_i p3] s K
set_option maxRecDepth 100000 in
/-- Walker.stand -/
theorem xm_wstand (m : Nat) (ihP : WP m) : WS (m + 1) := by
  intro L D K s p0 p1 hD hs h_p1 q0 q1 q2 k
  obtain ⟨d, rfl⟩ : ∃ d, D = d + 6 := ⟨D - 6, by omega⟩
  have f_1 := xr6_4 hs
  refine s_2563_e _ _ ?_
  have lp_2 : ∀ (n_2 : Nat) (v3_2 : Int) (v4_2 : Int) (v5_2 : Int) (v6_2 : gV) (v7_2 : gV) (v8_2 : gV) (v9_2 : gV) (v10_2 : gV) (v11_2 : gV), ((-2147483648) ≤ v3_2 ∧ v3_2 ≤ 2147483647) → ((-2147483648) ≤ v4_2 ∧ v4_2 ≤ 2147483647) → (0 ≤ v5_2 ∧ v5_2 ≤ 8) → (sbN v3_2 v5_2) → (9 - v5_2).toNat < n_2 → gs_E L (d + 6) 2563 8 [gp_r (some 48), gp_i p0, gp_i p1, gp_i v3_2, gp_i v4_2, gp_i v5_2, v6_2, v7_2, v8_2, v9_2, v10_2, v11_2] [] s K := by
    intro n_2
    induction n_2 with
    | zero => intro v3_2 v4_2 v5_2 v6_2 v7_2 v8_2 v9_2 v10_2 v11_2 hv3_2 hv4_2 hv5_2 iv0_2 hm_2; exact absurd hm_2 (Nat.not_lt_zero _)
    | succ n_2 ih_2 =>
      intro v3_2 v4_2 v5_2 v6_2 v7_2 v8_2 v9_2 v10_2 v11_2 hv3_2 hv4_2 hv5_2 iv0_2 hm_2
      refine s_2563_8 _ _ _ _ _ _ _ _ _ _ _ ?_
      have f_3 := xr48_2 hs
      refine ⟨fun h_4 => ?_, fun h_4 => ?_⟩
      · refine ⟨by omega, ?_⟩
        have f_5 := xr49 hs (Int.toNat v5_2)
        refine ⟨fun h_6 => ?_, fun h_6 => ?_⟩
        · have w_7 := gz_shlx (1) (v5_2)
          have w_8 := gz_orx (v3_2) (gp_shl 1 v5_2)
          refine s_2563_49 _ _ _ _ _ _ _ _ _ _ _ ?_
          try rw [show gp_wr (v5_2 + 1) = v5_2 + 1 from gp_wr_id (by omega) (by omega)]
          exact ih_2 _ _ _ _ _ _ _ _ _ (by omega) (by omega) (by omega) (by first | exact sbN_y iv0_2 (by omega) (by omega) | exact sbN_n iv0_2 (by omega)) (by omega)
        · refine ⟨by omega, ?_⟩
          have f_9 := xr49 hs (Int.toNat v5_2)
          have w_10 := wr_rng (v4_2 + (gp_I s 49 (Int.toNat v5_2)))
          refine s_2563_49 _ _ _ _ _ _ _ _ _ _ _ ?_
          try rw [show gp_wr (v5_2 + 1) = v5_2 + 1 from gp_wr_id (by omega) (by omega)]
          exact ih_2 _ _ _ _ _ _ _ _ _ (by omega) (by omega) (by omega) (by first | exact sbN_y iv0_2 (by omega) (by omega) | exact sbN_n iv0_2 (by omega)) (by omega)
      · have hsb := sbN_i iv0_2 (by omega)
        refine ⟨by omega, ?_⟩
        have f_11 := xr50 hs (Int.toNat v3_2)
        refine ⟨fun h_12 => ?_, fun h_12 => ?_⟩
        · refine ⟨fun h_13 => ?_, fun h_13 => ?_⟩
          · refine s_2563_70 _ _ _ _ _ _ _ _ _ _ _ ?_
            have hk9 := q1 (Int.toNat v3_2) (by omega)
            refine ⟨by omega, ?_⟩
            have f_14 := xr50 hs (Int.toNat v3_2)
            exact k _ s hs (gX.refl _ _ _ _) (by omega) (q0) (q1) (by first | omega | assumption) (by first | omega | assumption)
          · have lp_15 : ∀ (n_15 : Nat) (v5_15 : BitVec 64) (v7_15 : BitVec 64) (v9_15 : Int) (v10_15 : gV) (v11_15 : gV) (s_15 : gH), (XI L 0 s_15) → (gX L false [8, 9, 10, 11, 12, 13, 14, 49, 50, 1196] s s_15) → (PO s_15) → (KN s_15) → (0 ≤ v9_15 ∧ v9_15 ≤ 8) → (bd v5_15 (gp_I s_15 6 4)) → (bd v7_15 (gp_I s_15 6 4)) → (gp_I s 6 4 ≤ gp_I s_15 6 4) → (9 - v9_15).toNat < n_15 → gs_E L (d + 6) 2563 86 [gp_r (some 48), gp_i p0, gp_i p1, gp_i v3_2, gp_i v4_2, gp_l v5_15, gp_n, gp_l v7_15, gp_n, gp_i v9_15, v10_15, v11_15] [] s_15 K := by
              intro n_15
              induction n_15 with
              | zero => intro v5_15 v7_15 v9_15 v10_15 v11_15 s_15 hs_s_15 hf_s_15 PO_s_15 KN_s_15 hv9_15 iv0_15 iv1_15 iv2_15 hm_15; exact absurd hm_15 (Nat.not_lt_zero _)
              | succ n_15 ih_15 =>
                intro v5_15 v7_15 v9_15 v10_15 v11_15 s_15 hs_s_15 hf_s_15 PO_s_15 KN_s_15 hv9_15 iv0_15 iv1_15 iv2_15 hm_15
                refine s_2563_86 _ _ _ _ _ _ _ _ _ ?_
                have f_16 := xr48_2 hs_s_15
                refine ⟨fun h_17 => ?_, fun h_17 => ?_⟩
                · refine ⟨by omega, ?_⟩
                  have f_18 := xr49 hs_s_15 (Int.toNat v9_15)
                  refine ⟨fun h_19 => ?_, fun h_19 => ?_⟩
                  · try rw [show gp_wr (v9_15 + 1) = v9_15 + 1 from gp_wr_id (by omega) (by omega)]
                    refine s_2563_133 _ _ _ _ _ _ _ _ _ _ ?_
                    refine ⟨fun h_20 => ?_, fun h_20 => ?_⟩
                    · exfalso; omega
                    · have f_21 := xr48_2 hs_s_15
                      refine ⟨fun h_22 => ?_, fun h_22 => ?_⟩
                      · refine ⟨by omega, ?_⟩
                        have f_23 := xr49 hs_s_15 (Int.toNat (v9_15 + 1))
                        refine ⟨fun h_24 => ?_, fun h_24 => ?_⟩
                        · refine s_2563_227 _ _ _ _ _ _ _ _ _ ?_
                          try rw [show gp_wr (v9_15 + 1) = v9_15 + 1 from gp_wr_id (by omega) (by omega)]
                          exact ih_15 _ _ _ _ _ _ hs_s_15 hf_s_15 PO_s_15 KN_s_15 (by omega) (by first | exact bd_le iv0_15 (by omega) | (refine bd_or (bd_le iv0_15 ?_) (bd_sh ?_ ?_ ?_) <;> omega) | (refine bd_or (bd_le iv0_15 ?_) (bd_0 _); omega)) (by first | exact bd_le iv1_15 (by omega) | (refine bd_or (bd_le iv1_15 ?_) (bd_sh ?_ ?_ ?_) <;> omega) | (refine bd_or (bd_le iv1_15 ?_) (bd_0 _); omega)) (by first | omega | assumption) (by omega)
                        · refine ihP _ _ _ _ _ _ _ _ (by omega) hs_s_15 (by omega) (by omega) (by omega) (PO_s_15) (KN_s_15) (by first | omega | assumption) (fun x_25 s_26 hs_27 hf_28 p_29 p_30 p_31 p_32 p_33 => ⟨_, rfl, ?_⟩)
                          have hf_34 : gX L false [8, 9, 10, 11, 12, 13, 14, 49, 50, 1196] s s_26 := gX.trans hf_s_15 hf_28 rfl rfl
                          refine ⟨fun h_35 => ?_, fun h_35 => ?_⟩
                          · exact k _ s_26 hs_27 hf_34 (by omega) (p_30) (p_31) (by first | omega | assumption) (by first | omega | assumption)
                          · refine ⟨by omega, ?_⟩
                            have f_36 := xr49 hs_27 (Int.toNat v9_15)
                            refine ⟨fun h_37 => ?_, fun h_37 => ?_⟩
                            · refine s_2563_199 _ _ _ _ _ _ _ _ _ _ _ ?_
                              refine ⟨by omega, ?_⟩
                              have f_38 := xr49 hs_27 (Int.toNat v9_15)
                              refine ⟨fun h_39 => ?_, fun h_39 => ?_⟩
                              · refine s_2563_224 _ _ _ _ _ _ _ _ _ _ _ ?_
                                refine s_2563_227 _ _ _ _ _ _ _ _ _ ?_
                                try rw [show gp_wr (v9_15 + 1) = v9_15 + 1 from gp_wr_id (by omega) (by omega)]
                                exact ih_15 _ _ _ _ _ _ hs_27 hf_34 p_30 p_31 (by omega) (by first | exact bd_le iv0_15 (by omega) | (refine bd_or (bd_le iv0_15 ?_) (bd_sh ?_ ?_ ?_) <;> omega) | (refine bd_or (bd_le iv0_15 ?_) (bd_0 _); omega)) (by first | exact bd_le iv1_15 (by omega) | (refine bd_or (bd_le iv1_15 ?_) (bd_sh ?_ ?_ ?_) <;> omega) | (refine bd_or (bd_le iv1_15 ?_) (bd_0 _); omega)) (by first | omega | assumption) (by omega)
                              · refine s_2563_224 _ _ _ _ _ _ _ _ _ _ _ ?_
                                refine s_2563_227 _ _ _ _ _ _ _ _ _ ?_
                                try rw [show gp_wr (v9_15 + 1) = v9_15 + 1 from gp_wr_id (by omega) (by omega)]
                                exact ih_15 _ _ _ _ _ _ hs_27 hf_34 p_30 p_31 (by omega) (by first | exact bd_le iv0_15 (by omega) | (refine bd_or (bd_le iv0_15 ?_) (bd_sh ?_ ?_ ?_) <;> omega) | (refine bd_or (bd_le iv0_15 ?_) (bd_0 _); omega)) (by first | exact bd_le iv1_15 (by omega) | (refine bd_or (bd_le iv1_15 ?_) (bd_sh ?_ ?_ ?_) <;> omega) | (refine bd_or (bd_le iv1_15 ?_) (bd_0 _); omega)) (by first | omega | assumption) (by omega)
                            · refine s_2563_199 _ _ _ _ _ _ _ _ _ _ _ ?_
                              refine ⟨by omega, ?_⟩
                              have f_40 := xr49 hs_27 (Int.toNat v9_15)
                              refine ⟨fun h_41 => ?_, fun h_41 => ?_⟩
                              · refine s_2563_224 _ _ _ _ _ _ _ _ _ _ _ ?_
                                refine s_2563_227 _ _ _ _ _ _ _ _ _ ?_
                                try rw [show gp_wr (v9_15 + 1) = v9_15 + 1 from gp_wr_id (by omega) (by omega)]
                                exact ih_15 _ _ _ _ _ _ hs_27 hf_34 p_30 p_31 (by omega) (by first | exact bd_le iv0_15 (by omega) | (refine bd_or (bd_le iv0_15 ?_) (bd_sh ?_ ?_ ?_) <;> omega) | (refine bd_or (bd_le iv0_15 ?_) (bd_0 _); omega)) (by first | exact bd_le iv1_15 (by omega) | (refine bd_or (bd_le iv1_15 ?_) (bd_sh ?_ ?_ ?_) <;> omega) | (refine bd_or (bd_le iv1_15 ?_) (bd_0 _); omega)) (by first | omega | assumption) (by omega)
                              · refine s_2563_224 _ _ _ _ _ _ _ _ _ _ _ ?_
                                refine s_2563_227 _ _ _ _ _ _ _ _ _ ?_
                                try rw [show gp_wr (v9_15 + 1) = v9_15 + 1 from gp_wr_id (by omega) (by omega)]
                                exact ih_15 _ _ _ _ _ _ hs_27 hf_34 p_30 p_31 (by omega) (by first | exact bd_le iv0_15 (by omega) | (refine bd_or (bd_le iv0_15 ?_) (bd_sh ?_ ?_ ?_) <;> omega) | (refine bd_or (bd_le iv0_15 ?_) (bd_0 _); omega)) (by first | exact bd_le iv1_15 (by omega) | (refine bd_or (bd_le iv1_15 ?_) (bd_sh ?_ ?_ ?_) <;> omega) | (refine bd_or (bd_le iv1_15 ?_) (bd_0 _); omega)) (by first | omega | assumption) (by omega)
                      · refine s_2563_227 _ _ _ _ _ _ _ _ _ ?_
                        try rw [show gp_wr (v9_15 + 1) = v9_15 + 1 from gp_wr_id (by omega) (by omega)]
                        exact ih_15 _ _ _ _ _ _ hs_s_15 hf_s_15 PO_s_15 KN_s_15 (by omega) (by first | exact bd_le iv0_15 (by omega) | (refine bd_or (bd_le iv0_15 ?_) (bd_sh ?_ ?_ ?_) <;> omega) | (refine bd_or (bd_le iv0_15 ?_) (bd_0 _); omega)) (by first | exact bd_le iv1_15 (by omega) | (refine bd_or (bd_le iv1_15 ?_) (bd_sh ?_ ?_ ?_) <;> omega) | (refine bd_or (bd_le iv1_15 ?_) (bd_0 _); omega)) (by first | omega | assumption) (by omega)
                  · refine ⟨by omega, ?_⟩
                    have f_42 := xr49 hs_s_15 (Int.toNat v9_15)
                    refine ⟨fun h_43 => ?_, fun h_43 => ?_⟩
                    · try rw [show gp_wr (v9_15 - 1) = v9_15 - 1 from gp_wr_id (by omega) (by omega)]
                      refine s_2563_133 _ _ _ _ _ _ _ _ _ _ ?_
                      refine ⟨fun h_44 => ?_, fun h_44 => ?_⟩
                      · refine s_2563_227 _ _ _ _ _ _ _ _ _ ?_
                        try rw [show gp_wr (v9_15 + 1) = v9_15 + 1 from gp_wr_id (by omega) (by omega)]
                        exact ih_15 _ _ _ _ _ _ hs_s_15 hf_s_15 PO_s_15 KN_s_15 (by omega) (by first | exact bd_le iv0_15 (by omega) | (refine bd_or (bd_le iv0_15 ?_) (bd_sh ?_ ?_ ?_) <;> omega) | (refine bd_or (bd_le iv0_15 ?_) (bd_0 _); omega)) (by first | exact bd_le iv1_15 (by omega) | (refine bd_or (bd_le iv1_15 ?_) (bd_sh ?_ ?_ ?_) <;> omega) | (refine bd_or (bd_le iv1_15 ?_) (bd_0 _); omega)) (by first | omega | assumption) (by omega)
                      · have f_45 := xr48_2 hs_s_15
                        refine ⟨fun h_46 => ?_, fun h_46 => ?_⟩
                        · refine ⟨by omega, ?_⟩
                          have f_47 := xr49 hs_s_15 (Int.toNat (v9_15 - 1))
                          refine ⟨fun h_48 => ?_, fun h_48 => ?_⟩
                          · refine s_2563_227 _ _ _ _ _ _ _ _ _ ?_
                            try rw [show gp_wr (v9_15 + 1) = v9_15 + 1 from gp_wr_id (by omega) (by omega)]
                            exact ih_15 _ _ _ _ _ _ hs_s_15 hf_s_15 PO_s_15 KN_s_15 (by omega) (by first | exact bd_le iv0_15 (by omega) | (refine bd_or (bd_le iv0_15 ?_) (bd_sh ?_ ?_ ?_) <;> omega) | (refine bd_or (bd_le iv0_15 ?_) (bd_0 _); omega)) (by first | exact bd_le iv1_15 (by omega) | (refine bd_or (bd_le iv1_15 ?_) (bd_sh ?_ ?_ ?_) <;> omega) | (refine bd_or (bd_le iv1_15 ?_) (bd_0 _); omega)) (by first | omega | assumption) (by omega)
                          · refine ihP _ _ _ _ _ _ _ _ (by omega) hs_s_15 (by omega) (by omega) (by omega) (PO_s_15) (KN_s_15) (by first | omega | assumption) (fun x_49 s_50 hs_51 hf_52 p_53 p_54 p_55 p_56 p_57 => ⟨_, rfl, ?_⟩)
                            have hf_58 : gX L false [8, 9, 10, 11, 12, 13, 14, 49, 50, 1196] s s_50 := gX.trans hf_s_15 hf_52 rfl rfl
                            refine ⟨fun h_59 => ?_, fun h_59 => ?_⟩
                            · exact k _ s_50 hs_51 hf_58 (by omega) (p_54) (p_55) (by first | omega | assumption) (by first | omega | assumption)
                            · refine ⟨by omega, ?_⟩
                              have f_60 := xr49 hs_51 (Int.toNat v9_15)
                              refine ⟨fun h_61 => ?_, fun h_61 => ?_⟩
                              · refine s_2563_199 _ _ _ _ _ _ _ _ _ _ _ ?_
                                refine ⟨by omega, ?_⟩
                                have f_62 := xr49 hs_51 (Int.toNat v9_15)
                                refine ⟨fun h_63 => ?_, fun h_63 => ?_⟩
                                · refine s_2563_224 _ _ _ _ _ _ _ _ _ _ _ ?_
                                  refine s_2563_227 _ _ _ _ _ _ _ _ _ ?_
                                  try rw [show gp_wr (v9_15 + 1) = v9_15 + 1 from gp_wr_id (by omega) (by omega)]
                                  exact ih_15 _ _ _ _ _ _ hs_51 hf_58 p_54 p_55 (by omega) (by first | exact bd_le iv0_15 (by omega) | (refine bd_or (bd_le iv0_15 ?_) (bd_sh ?_ ?_ ?_) <;> omega) | (refine bd_or (bd_le iv0_15 ?_) (bd_0 _); omega)) (by first | exact bd_le iv1_15 (by omega) | (refine bd_or (bd_le iv1_15 ?_) (bd_sh ?_ ?_ ?_) <;> omega) | (refine bd_or (bd_le iv1_15 ?_) (bd_0 _); omega)) (by first | omega | assumption) (by omega)
                                · refine s_2563_224 _ _ _ _ _ _ _ _ _ _ _ ?_
                                  refine s_2563_227 _ _ _ _ _ _ _ _ _ ?_
                                  try rw [show gp_wr (v9_15 + 1) = v9_15 + 1 from gp_wr_id (by omega) (by omega)]
                                  exact ih_15 _ _ _ _ _ _ hs_51 hf_58 p_54 p_55 (by omega) (by first | exact bd_le iv0_15 (by omega) | (refine bd_or (bd_le iv0_15 ?_) (bd_sh ?_ ?_ ?_) <;> omega) | (refine bd_or (bd_le iv0_15 ?_) (bd_0 _); omega)) (by first | exact bd_le iv1_15 (by omega) | (refine bd_or (bd_le iv1_15 ?_) (bd_sh ?_ ?_ ?_) <;> omega) | (refine bd_or (bd_le iv1_15 ?_) (bd_0 _); omega)) (by first | omega | assumption) (by omega)
                              · refine s_2563_199 _ _ _ _ _ _ _ _ _ _ _ ?_
                                refine ⟨by omega, ?_⟩
                                have f_64 := xr49 hs_51 (Int.toNat v9_15)
                                refine ⟨fun h_65 => ?_, fun h_65 => ?_⟩
                                · refine s_2563_224 _ _ _ _ _ _ _ _ _ _ _ ?_
                                  refine s_2563_227 _ _ _ _ _ _ _ _ _ ?_
                                  try rw [show gp_wr (v9_15 + 1) = v9_15 + 1 from gp_wr_id (by omega) (by omega)]
                                  exact ih_15 _ _ _ _ _ _ hs_51 hf_58 p_54 p_55 (by omega) (by first | exact bd_le iv0_15 (by omega) | (refine bd_or (bd_le iv0_15 ?_) (bd_sh ?_ ?_ ?_) <;> omega) | (refine bd_or (bd_le iv0_15 ?_) (bd_0 _); omega)) (by first | exact bd_le iv1_15 (by omega) | (refine bd_or (bd_le iv1_15 ?_) (bd_sh ?_ ?_ ?_) <;> omega) | (refine bd_or (bd_le iv1_15 ?_) (bd_0 _); omega)) (by first | omega | assumption) (by omega)
                                · refine s_2563_224 _ _ _ _ _ _ _ _ _ _ _ ?_
                                  refine s_2563_227 _ _ _ _ _ _ _ _ _ ?_
                                  try rw [show gp_wr (v9_15 + 1) = v9_15 + 1 from gp_wr_id (by omega) (by omega)]
                                  exact ih_15 _ _ _ _ _ _ hs_51 hf_58 p_54 p_55 (by omega) (by first | exact bd_le iv0_15 (by omega) | (refine bd_or (bd_le iv0_15 ?_) (bd_sh ?_ ?_ ?_) <;> omega) | (refine bd_or (bd_le iv0_15 ?_) (bd_0 _); omega)) (by first | exact bd_le iv1_15 (by omega) | (refine bd_or (bd_le iv1_15 ?_) (bd_sh ?_ ?_ ?_) <;> omega) | (refine bd_or (bd_le iv1_15 ?_) (bd_0 _); omega)) (by first | omega | assumption) (by omega)
                        · refine s_2563_227 _ _ _ _ _ _ _ _ _ ?_
                          try rw [show gp_wr (v9_15 + 1) = v9_15 + 1 from gp_wr_id (by omega) (by omega)]
                          exact ih_15 _ _ _ _ _ _ hs_s_15 hf_s_15 PO_s_15 KN_s_15 (by omega) (by first | exact bd_le iv0_15 (by omega) | (refine bd_or (bd_le iv0_15 ?_) (bd_sh ?_ ?_ ?_) <;> omega) | (refine bd_or (bd_le iv0_15 ?_) (bd_0 _); omega)) (by first | exact bd_le iv1_15 (by omega) | (refine bd_or (bd_le iv1_15 ?_) (bd_sh ?_ ?_ ?_) <;> omega) | (refine bd_or (bd_le iv1_15 ?_) (bd_0 _); omega)) (by first | omega | assumption) (by omega)
                    · refine s_2563_133 _ _ _ _ _ _ _ _ _ _ ?_
                      refine ⟨fun h_66 => ?_, fun h_66 => ?_⟩
                      · refine s_2563_227 _ _ _ _ _ _ _ _ _ ?_
                        try rw [show gp_wr (v9_15 + 1) = v9_15 + 1 from gp_wr_id (by omega) (by omega)]
                        exact ih_15 _ _ _ _ _ _ hs_s_15 hf_s_15 PO_s_15 KN_s_15 (by omega) (by first | exact bd_le iv0_15 (by omega) | (refine bd_or (bd_le iv0_15 ?_) (bd_sh ?_ ?_ ?_) <;> omega) | (refine bd_or (bd_le iv0_15 ?_) (bd_0 _); omega)) (by first | exact bd_le iv1_15 (by omega) | (refine bd_or (bd_le iv1_15 ?_) (bd_sh ?_ ?_ ?_) <;> omega) | (refine bd_or (bd_le iv1_15 ?_) (bd_0 _); omega)) (by first | omega | assumption) (by omega)
                      · exfalso; omega
                · have hKN9 := KN_s_15
                  have w_67 := wr_rng (p0 - v4_2)
                  have w_68 := wr_rng (p0 + v4_2)
                  refine xm_add _ _ _ _ hs_s_15 (PO_s_15) (iv0_15) (iv1_15) (fun x_69 s_70 hs_71 hf_72 p_73 p_74 p_75 => ⟨_, rfl, ?_⟩)
                  have hf_76 : gX L false [8, 9, 10, 11, 12, 13, 14, 49, 50, 1196] s s_70 := gX.trans hf_s_15 hf_72 rfl rfl
                  have hKN8 : KN s_70 := KN_le hKN9 hf_72 rfl (by omega)
                  refine ⟨by omega, ?_⟩
                  intro s_77 e_78
                  have hs_79 : XI L 0 s_77 := by rw [e_78]; exact xw50 hs_71 _ _ (by omega)
                  have hf_80 : gX L false [8, 9, 10, 11, 12, 13, 14, 49, 50, 1196] s s_77 := by rw [e_78]; exact gX.wI hf_76 (Or.inl rfl)
                  have q_81 : gp_I s_77 6 4 = gp_I s_70 6 4 := by rw [e_78] <;> first | rfl | exact I_ne (by omega)
                  have pd_82 : PO s_77 := by rw [e_78]; exact PO_fr p_74 (gX.wI (gX.refl L true [50] _) (Or.inl rfl)) rfl rfl rfl rfl rfl rfl
                  have hKN7 : KN s_77 := by rw [‹s_77 = gp_wI _ 50 _ _›]; exact KN_w hKN8 (by omega)
                  have hk9 := hKN7 (Int.toNat v3_2) (by omega)
                  refine ⟨by omega, ?_⟩
                  have f_83 := xr50 hs_79 (Int.toNat v3_2)
                  exact k _ s_77 hs_79 hf_80 (by omega) (pd_82) (hKN7) (by first | omega | assumption) (by first | omega | assumption)
            exact lp_15 _ _ _ _ _ _ _ hs (gX.refl _ _ _ _) q0 q1 (by omega) (bd_0 _) (bd_0 _) (by first | omega | assumption) (Nat.lt_succ_self _)
        · refine s_2563_70 _ _ _ _ _ _ _ _ _ _ _ ?_
          have hk9 := q1 (Int.toNat v3_2) (by omega)
          refine ⟨by omega, ?_⟩
          have f_84 := xr50 hs (Int.toNat v3_2)
          exact k _ s hs (gX.refl _ _ _ _) (by omega) (q0) (q1) (by first | omega | assumption) (by first | omega | assumption)
  exact lp_2 _ _ _ _ _ _ _ _ _ _ (by omega) (by omega) (by omega) (sbN_0) (Nat.lt_succ_self _)
set_option maxRecDepth 100000 in
/-- Walker.step -/
theorem xm_wstep (m : Nat) (ihS : WS m) : WP m := by
  intro L D K s p0 p1 p2 p3 hD hs h_p0 h_p1 h_p3 q0 q1 q2 k
  obtain ⟨d, rfl⟩ : ∃ d, D = d + 6 := ⟨D - 6, by omega⟩
  have f_1 := xr6_4 hs
  refine s_2564_e _ _ _ _ ?_
  refine ⟨by omega, ?_⟩
  have f_2 := xr49 hs (Int.toNat p0)
  refine ⟨by omega, ?_⟩
  have f_3 := xr49 hs (Int.toNat p1)
  refine ⟨by omega, ?_⟩
  intro s_4 e_5
  have hs_6 : XI L 0 s_4 := by rw [e_5]; exact xw49 hs _ _ (by omega)
  have hf_7 : gX L false [8, 9, 10, 11, 12, 13, 14, 49, 50, 1196] s s_4 := by rw [e_5]; exact gX.wI (gX.refl _ _ _ _) (Or.inl rfl)
  have q_8 : gp_I s_4 6 4 = gp_I s 6 4 := by rw [e_5] <;> first | rfl | exact I_ne (by omega)
  have pd_9 : PO s_4 := by rw [e_5]; exact PO_fr q0 (gX.wI (gX.refl L true [49] _) (Or.inl rfl)) rfl rfl rfl rfl rfl rfl
  have pd_10 : KN s_4 := by rw [e_5]; exact KN_fr q1 (gX.wI (gX.refl L true [49] _) (Or.inl rfl)) rfl rfl
  refine ⟨by omega, ?_⟩
  intro s_11 e_12
  have hs_13 : XI L 0 s_11 := by rw [e_12]; exact xw49 hs_6 _ _ (by omega)
  have hf_14 : gX L false [8, 9, 10, 11, 12, 13, 14, 49, 50, 1196] s s_11 := by rw [e_12]; exact gX.wI hf_7 (Or.inl rfl)
  have q_15 : gp_I s_11 6 4 = gp_I s_4 6 4 := by rw [e_12] <;> first | rfl | exact I_ne (by omega)
  have pd_16 : PO s_11 := by rw [e_12]; exact PO_fr pd_9 (gX.wI (gX.refl L true [49] _) (Or.inl rfl)) rfl rfl rfl rfl rfl rfl
  have pd_17 : KN s_11 := by rw [e_12]; exact KN_fr pd_10 (gX.wI (gX.refl L true [49] _) (Or.inl rfl)) rfl rfl
  refine ⟨fun h_18 => ?_, fun h_18 => ?_⟩
  · have w_19 := wr_rng (p2 + (gp_I s 49 (Int.toNat p1)))
    refine s_2564_49 _ _ _ _ _ _ _ _ ?_
    try rw [show gp_wr (p3 + 1) = p3 + 1 from gp_wr_id (by omega) (by omega)]
    refine ihS _ _ _ _ _ _ (by omega) hs_13 (by omega) (pd_16) (pd_17) (by first | omega | assumption) (fun x_20 s_21 hs_22 hf_23 p_24 p_25 p_26 p_27 p_28 => ⟨_, rfl, ?_⟩)
    have hf_29 : gX L false [8, 9, 10, 11, 12, 13, 14, 49, 50, 1196] s s_21 := gX.trans hf_14 hf_23 rfl rfl
    refine ⟨by omega, ?_⟩
    intro s_30 e_31
    have hs_32 : XI L 0 s_30 := by rw [e_31]; exact xw49 hs_22 _ _ (by omega)
    have hf_33 : gX L false [8, 9, 10, 11, 12, 13, 14, 49, 50, 1196] s s_30 := by rw [e_31]; exact gX.wI hf_29 (Or.inl rfl)
    have q_34 : gp_I s_30 6 4 = gp_I s_21 6 4 := by rw [e_31] <;> first | rfl | exact I_ne (by omega)
    have pd_35 : PO s_30 := by rw [e_31]; exact PO_fr p_25 (gX.wI (gX.refl L true [49] _) (Or.inl rfl)) rfl rfl rfl rfl rfl rfl
    have pd_36 : KN s_30 := by rw [e_31]; exact KN_fr p_26 (gX.wI (gX.refl L true [49] _) (Or.inl rfl)) rfl rfl
    refine ⟨by omega, ?_⟩
    intro s_37 e_38
    have hs_39 : XI L 0 s_37 := by rw [e_38]; exact xw49 hs_32 _ _ (by omega)
    have hf_40 : gX L false [8, 9, 10, 11, 12, 13, 14, 49, 50, 1196] s s_37 := by rw [e_38]; exact gX.wI hf_33 (Or.inl rfl)
    have q_41 : gp_I s_37 6 4 = gp_I s_30 6 4 := by rw [e_38] <;> first | rfl | exact I_ne (by omega)
    have pd_42 : PO s_37 := by rw [e_38]; exact PO_fr pd_35 (gX.wI (gX.refl L true [49] _) (Or.inl rfl)) rfl rfl rfl rfl rfl rfl
    have pd_43 : KN s_37 := by rw [e_38]; exact KN_fr pd_36 (gX.wI (gX.refl L true [49] _) (Or.inl rfl)) rfl rfl
    exact k _ s_37 hs_39 hf_40 (by omega) (pd_42) (pd_43) (by first | omega | assumption) (by first | omega | assumption)
  · have w_44 := wr_rng (p2 - (gp_I s 49 (Int.toNat p1)))
    refine s_2564_49 _ _ _ _ _ _ _ _ ?_
    try rw [show gp_wr (p3 + 1) = p3 + 1 from gp_wr_id (by omega) (by omega)]
    refine ihS _ _ _ _ _ _ (by omega) hs_13 (by omega) (pd_16) (pd_17) (by first | omega | assumption) (fun x_45 s_46 hs_47 hf_48 p_49 p_50 p_51 p_52 p_53 => ⟨_, rfl, ?_⟩)
    have hf_54 : gX L false [8, 9, 10, 11, 12, 13, 14, 49, 50, 1196] s s_46 := gX.trans hf_14 hf_48 rfl rfl
    refine ⟨by omega, ?_⟩
    intro s_55 e_56
    have hs_57 : XI L 0 s_55 := by rw [e_56]; exact xw49 hs_47 _ _ (by omega)
    have hf_58 : gX L false [8, 9, 10, 11, 12, 13, 14, 49, 50, 1196] s s_55 := by rw [e_56]; exact gX.wI hf_54 (Or.inl rfl)
    have q_59 : gp_I s_55 6 4 = gp_I s_46 6 4 := by rw [e_56] <;> first | rfl | exact I_ne (by omega)
    have pd_60 : PO s_55 := by rw [e_56]; exact PO_fr p_50 (gX.wI (gX.refl L true [49] _) (Or.inl rfl)) rfl rfl rfl rfl rfl rfl
    have pd_61 : KN s_55 := by rw [e_56]; exact KN_fr p_51 (gX.wI (gX.refl L true [49] _) (Or.inl rfl)) rfl rfl
    refine ⟨by omega, ?_⟩
    intro s_62 e_63
    have hs_64 : XI L 0 s_62 := by rw [e_63]; exact xw49 hs_57 _ _ (by omega)
    have hf_65 : gX L false [8, 9, 10, 11, 12, 13, 14, 49, 50, 1196] s s_62 := by rw [e_63]; exact gX.wI hf_58 (Or.inl rfl)
    have q_66 : gp_I s_62 6 4 = gp_I s_55 6 4 := by rw [e_63] <;> first | rfl | exact I_ne (by omega)
    have pd_67 : PO s_62 := by rw [e_63]; exact PO_fr pd_60 (gX.wI (gX.refl L true [49] _) (Or.inl rfl)) rfl rfl rfl rfl rfl rfl
    have pd_68 : KN s_62 := by rw [e_63]; exact KN_fr pd_61 (gX.wI (gX.refl L true [49] _) (Or.inl rfl)) rfl rfl
    exact k _ s_62 hs_64 hf_65 (by omega) (pd_67) (pd_68) (by first | omega | assumption) (by first | omega | assumption)
theorem WS_all : ∀ m, WS m
  | 0 => by intro L D K s p0; intros; omega
  | m + 1 => xm_wstand m (xm_wstep m (WS_all m))
theorem xm_wstand22 {L d : Nat} {K : Option gV → gH → Prop} {s : gH} (p0 : Int) (p1 : Int) (hs : XI L 0 s) (h_p1 : 0 ≤ p1 ∧ p1 ≤ 21) (q0 : PO s) (q1 : KN s) (k : ∀ (r : Int), ∀ (t : gH), XI L 0 t → gX L false [8, 9, 10, 11, 12, 13, 14, 49, 50, 1196] s t → (-1 ≤ r ∧ r ≤ 59) → (PO t) → (KN t) → (gp_I s 6 4 ≤ gp_I t 6 4) → (r < gp_I t 6 4) → K (some (gp_i r)) t) : gs_C L (d + 50) 2563 12 [gp_r (some 48), gp_i p0, gp_i p1] s K := xm_wstand 21 (xm_wstep 21 (WS_all 21)) _ _ _ _ _ _ (by omega) hs h_p1 q0 q1 (by omega) k
set_option maxRecDepth 100000 in
/-- Walker.walk -/
theorem xm_walk  {L d : Nat} {K : Option gV → gH → Prop} {s : gH}  (p1 : Int) (hs : XI L 0 s) (h_p1 : 1 ≤ p1 ∧ p1 ≤ 8) (q0 : ∀ k : Nat, (k : Int) < p1 → okb (gp_I s 3 k)) (k : ∀ (r : Option Nat), ∀ (t : gH), XI L 0 t → gX L true [8, 9, 10, 11, 12, 13, 14, 15, 49, 50, 1196, 2538] s t → (r = none ∨ ∃ a n, r = some a ∧ kT L t a n ∧ n ≤ 60) → (gp_sz t ≤ gp_sz s + 6) → (gp_us t ≤ gp_us s + 310) → K (some (gp_r r)) t) : gs_C L (d + 51) 2562 5 [gp_r (some 48), gp_r (some 3), gp_i p1] s K := by
  have f_1 := xr6_4 hs
  refine s_2562_e _ _ ?_
  intro s_2 e_3
  have hs_4 : XI L 0 s_2 := by rw [e_3]; exact xw48_2 hs _ (by omega)
  have hf_5 : gX L true [8, 9, 10, 11, 12, 13, 14, 15, 49, 50, 1196, 2538] s s_2 := by rw [e_3]; exact gX.wI (gX.refl _ _ _ _) (Or.inl rfl)
  have z_6 : gp_sz s_2 = gp_sz s ∧ gp_us s_2 = gp_us s := by rw [e_3]; exact ⟨rfl, rfl⟩
  have q_7 : gp_I s_2 6 4 = gp_I s 6 4 := by rw [e_3] <;> first | rfl | exact I_ne (by omega)
  have lp_9 : ∀ (n_9 : Nat) (v3_9 : Int) (v4_9 : gV) (s_9 : gH), (XI L 0 s_9) → (gX L true [8, 9, 10, 11, 12, 13, 14, 15, 49, 50, 1196, 2538] s s_9) → (gp_sz s_9 ≤ gp_sz s + 0 ∧ gp_us s_9 ≤ gp_us s + 0) → (0 ≤ v3_9 ∧ v3_9 ≤ 8) → (gp_I s_9 6 4 = gp_I s_2 6 4) → (9 - v3_9).toNat < n_9 → gs_E L (d + 51) 2562 7 [gp_r (some 48), gp_r (some 3), gp_i p1, gp_i v3_9, v4_9] [] s_9 K := by
    intro n_9
    induction n_9 with
    | zero => intro v3_9 v4_9 s_9 hs_s_9 hf_s_9 rm_s_9 hv3_9 tk0_9 hm_9; exact absurd hm_9 (Nat.not_lt_zero _)
    | succ n_9 ih_9 =>
      intro v3_9 v4_9 s_9 hs_s_9 hf_s_9 rm_s_9 hv3_9 tk0_9 hm_9
      refine s_2562_7 _ _ _ _ ?_
      refine ⟨fun h_10 => ?_, fun h_10 => ?_⟩
      · refine ⟨3, rfl, ?_⟩
        refine ⟨⟨rfl, by show 0 ≤ v3_9 ∧ v3_9 < 100; omega⟩, ?_⟩
        have f_11 := xr3 hs_s_9 (Int.toNat v3_9)
        have hok := q0 (Int.toNat v3_9) (by omega)
        rw [← (hf_s_9.2.2.1 3 (Int.toNat v3_9) (by decide) (by decide) rfl).1] at hok
        unfold okb at hok
        refine ⟨fun h_12 => ?_, fun h_12 => ?_⟩
        · refine s_2562_50 _ _ _ _ _ _ ?_
          refine ⟨by omega, ?_⟩
          intro s_14 e_15
          have hs_16 : XI L 0 s_14 := by rw [e_15]; exact xw49 hs_s_9 _ _ (by omega)
          have hf_17 : gX L true [8, 9, 10, 11, 12, 13, 14, 15, 49, 50, 1196, 2538] s s_14 := by rw [e_15]; exact gX.wI hf_s_9 (Or.inl rfl)
          have z_18 : gp_sz s_14 = gp_sz s_9 ∧ gp_us s_14 = gp_us s_9 := by rw [e_15]; exact ⟨rfl, rfl⟩
          have q_19 : gp_I s_14 6 4 = gp_I s_9 6 4 := by rw [e_15] <;> first | rfl | exact I_ne (by omega)
          try rw [show gp_wr (v3_9 + 1) = v3_9 + 1 from gp_wr_id (by omega) (by omega)]
          exact ih_9 _ _ _ hs_16 hf_17 (by omega) (by omega) (by first | rfl | omega) (by omega)
        · refine ⟨fun h_21 => ?_, fun h_21 => ?_⟩
          · refine s_2562_50 _ _ _ _ _ _ ?_
            refine ⟨by omega, ?_⟩
            intro s_23 e_24
            have hs_25 : XI L 0 s_23 := by rw [e_24]; exact xw49 hs_s_9 _ _ (by omega)
            have hf_26 : gX L true [8, 9, 10, 11, 12, 13, 14, 15, 49, 50, 1196, 2538] s s_23 := by rw [e_24]; exact gX.wI hf_s_9 (Or.inl rfl)
            have z_27 : gp_sz s_23 = gp_sz s_9 ∧ gp_us s_23 = gp_us s_9 := by rw [e_24]; exact ⟨rfl, rfl⟩
            have q_28 : gp_I s_23 6 4 = gp_I s_9 6 4 := by rw [e_24] <;> first | rfl | exact I_ne (by omega)
            try rw [show gp_wr (v3_9 + 1) = v3_9 + 1 from gp_wr_id (by omega) (by omega)]
            exact ih_9 _ _ _ hs_25 hf_26 (by omega) (by omega) (by first | rfl | omega) (by omega)
          · try rw [show gp_wr ((gp_I s_9 3 (Int.toNat v3_9)) - 48) = (gp_I s_9 3 (Int.toNat v3_9)) - 48 from gp_wr_id (by omega) (by omega)]
            refine s_2562_50 _ _ _ _ _ _ ?_
            refine ⟨by omega, ?_⟩
            intro s_31 e_32
            have hs_33 : XI L 0 s_31 := by rw [e_32]; exact xw49 hs_s_9 _ _ (by omega)
            have hf_34 : gX L true [8, 9, 10, 11, 12, 13, 14, 15, 49, 50, 1196, 2538] s s_31 := by rw [e_32]; exact gX.wI hf_s_9 (Or.inl rfl)
            have z_35 : gp_sz s_31 = gp_sz s_9 ∧ gp_us s_31 = gp_us s_9 := by rw [e_32]; exact ⟨rfl, rfl⟩
            have q_36 : gp_I s_31 6 4 = gp_I s_9 6 4 := by rw [e_32] <;> first | rfl | exact I_ne (by omega)
            try rw [show gp_wr (v3_9 + 1) = v3_9 + 1 from gp_wr_id (by omega) (by omega)]
            exact ih_9 _ _ _ hs_33 hf_34 (by omega) (by omega) (by first | rfl | omega) (by omega)
      · have lp_39 : ∀ (n_39 : Nat) (v3_39 : Int) (v4_39 : gV) (s_39 : gH), (XI L 0 s_39) → (gX L true [8, 9, 10, 11, 12, 13, 14, 15, 49, 50, 1196, 2538] s s_39) → (gp_sz s_39 ≤ gp_sz s + 0 ∧ gp_us s_39 ≤ gp_us s + 0) → (0 ≤ v3_39 ∧ v3_39 ≤ 256) → (gp_I s_39 6 4 = gp_I s_9 6 4) → (∀ k : Nat, (k : Int) < v3_39 → gp_I s_39 50 k = -1) → (257 - v3_39).toNat < n_39 → gs_E L (d + 51) 2562 59 [gp_r (some 48), gp_r (some 3), gp_i p1, gp_i v3_39, v4_39] [] s_39 K := by
          intro n_39
          induction n_39 with
          | zero => intro v3_39 v4_39 s_39 hs_s_39 hf_s_39 rm_s_39 hv3_39 tk0_39 iv0_39 hm_39; exact absurd hm_39 (Nat.not_lt_zero _)
          | succ n_39 ih_39 =>
            intro v3_39 v4_39 s_39 hs_s_39 hf_s_39 rm_s_39 hv3_39 tk0_39 iv0_39 hm_39
            refine s_2562_59 _ _ _ _ ?_
            refine ⟨fun h_40 => ?_, fun h_40 => ?_⟩
            · refine ⟨by omega, ?_⟩
              intro s_41 e_42
              have hs_43 : XI L 0 s_41 := by rw [e_42]; exact xw50 hs_s_39 _ _ (by omega)
              have hf_44 : gX L true [8, 9, 10, 11, 12, 13, 14, 15, 49, 50, 1196, 2538] s s_41 := by rw [e_42]; exact gX.wI hf_s_39 (Or.inl rfl)
              have z_45 : gp_sz s_41 = gp_sz s_39 ∧ gp_us s_41 = gp_us s_39 := by rw [e_42]; exact ⟨rfl, rfl⟩
              have q_46 : gp_I s_41 6 4 = gp_I s_39 6 4 := by rw [e_42] <;> first | rfl | exact I_ne (by omega)
              try rw [show gp_wr (v3_39 + 1) = v3_39 + 1 from gp_wr_id (by omega) (by omega)]
              exact ih_39 _ _ _ hs_43 hf_44 (by omega) (by omega) (by first | rfl | omega) (KL_s iv0_39 (by omega) (by assumption)) (by omega)
            · have hKL := iv0_39
              refine xm_empty hs_s_39 (fun s_48 hs_49 hf_50 p_51 p_52 => ⟨rfl, ?_⟩)
              have hf_53 : gX L true [8, 9, 10, 11, 12, 13, 14, 15, 49, 50, 1196, 2538] s s_48 := gX.trans hf_s_39 hf_50 rfl rfl
              have z_54 : gp_sz s_48 = gp_sz s_39 ∧ gp_us s_48 = gp_us s_39 := hf_50.2.1 rfl
              have hKN8 : KN s_48 := KN_0 (fun k hk => hKL k (by omega)) hf_50 rfl (by omega)
              refine xm_wstand22 _ _ hs_49 (by omega) (p_52) (hKN8) (fun x_55 s_56 hs_57 hf_58 p_59 p_60 p_61 p_62 p_63 => ⟨_, rfl, ?_⟩)
              have hf_64 : gX L true [8, 9, 10, 11, 12, 13, 14, 15, 49, 50, 1196, 2538] s s_56 := gX.trans hf_53 hf_58 rfl rfl
              have z_65 : gp_sz s_56 = gp_sz s_48 ∧ gp_us s_56 = gp_us s_48 := hf_58.2.1 rfl
              refine ⟨fun h_66 => ?_, fun h_66 => ?_⟩
              · refine s_2562_111 _ _ _ _ _ ?_
                exact k _ s_56 hs_57 hf_64 (by first | exact Or.inl rfl | exact Or.inr ⟨_, _, rfl, by assumption, by omega⟩) (by first | omega | assumption) (by first | omega | assumption)
              · refine xm_tableOf _ hs_57 (by omega) (p_60) (by first | omega | assumption) (fun o_69 s_70 hs_71 hf_72 p_73 p_74 p_75 => ⟨_, rfl, ?_⟩)
                have hf_76 : gX L true [8, 9, 10, 11, 12, 13, 14, 15, 49, 50, 1196, 2538] s s_70 := gX.trans hf_64 hf_72 rfl rfl
                have pd_77 : PO s_70 := PO_fr p_60 hf_72 rfl rfl rfl rfl rfl rfl
                have pd_78 : KN s_70 := KN_fr p_61 hf_72 rfl rfl
                have q_79 : gp_I s_70 6 4 = gp_I s_56 6 4 := (hf_72.2.2.1 6 4 (by decide) (by decide) rfl).1
                obtain ⟨a_80, n_81, rfl, kt_82, hn_83⟩ := p_73
                have hn_a_80 := kt_82.n hs_71
                refine s_2562_111 _ _ _ _ _ ?_
                exact k _ s_70 hs_71 hf_76 (by first | exact Or.inl rfl | exact Or.inr ⟨_, _, rfl, by assumption, by omega⟩) (by first | omega | assumption) (by first | omega | assumption)
        exact lp_39 _ _ _ _ hs_s_9 hf_s_9 (by omega) (by omega) (by first | rfl | omega) (fun k hk => by omega) (Nat.lt_succ_self _)
  exact lp_9 _ _ _ _ hs_4 hf_5 (by omega) (by omega) (by first | rfl | omega) (Nat.lt_succ_self _)
