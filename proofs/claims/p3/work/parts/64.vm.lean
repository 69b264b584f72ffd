/-! sums of slots, matches -/
theorem cnt_step {A : BitVec 64} {x g : Int} (hx : 0 ≤ x) (h : g = (gm_cnt A x.toNat : Nat)) : (A.getLsbD x.toNat = true → g + 1 = (gm_cnt A (Int.toNat (x + 1)) : Nat)) ∧ (A.getLsbD x.toNat = false → g = (gm_cnt A (Int.toNat (x + 1)) : Nat)) := by
  rw [show Int.toNat (x + 1) = x.toNat + 1 by omega]
  refine ⟨fun q => ?_, fun q => ?_⟩
  · rw [gm_cnt_s q, h]; simp
  · rw [gm_cnt_z q, h]
theorem cnt_lt {A : BitVec 64} {x : Int} (hx : 0 ≤ x ∧ x < 64) (q : A.getLsbD x.toNat = true) : gm_cnt A x.toNat + 1 ≤ gm_cnt A 64 := by
  have := gm_cnt_mono A (show x.toNat + 1 ≤ 64 by omega)
  rw [gm_cnt_s q] at this; exact this
theorem th3 (s : gH) (v : Int) : (v = 0 → gp_I s 107 v.toNat = gp_I s 107 0) ∧ (v = 1 → gp_I s 107 v.toNat = gp_I s 107 1) ∧ (v = 2 → gp_I s 107 v.toNat = gp_I s 107 2) := by
  refine ⟨fun h => ?_, fun h => ?_, fun h => ?_⟩ <;> subst h <;> rfl
/-- what a best move is, as far as its number goes -/
def BM (s : gH) (sdv k v : Int) : Prop := (v = -1 ∧ ∀ n : Nat, (n : Int) < k → gm_cnt (sd s sdv (gp_I s 106 n) (gp_I s 107 n)) 64 = 0) ∨ ∃ a b : Nat, v = 100 * a + b ∧ (a : Int) < k ∧ b < gm_cnt (sd s sdv (gp_I s 106 a) (gp_I s 107 a)) 64
theorem BM_0 (s : gH) (sdv : Int) : BM s sdv 0 (-1) := Or.inl ⟨rfl, fun n h => absurd h (by omega)⟩
theorem BM_new {s : gH} {sdv k i : Int} {A : BitVec 64} (hk : 0 ≤ k) (hi : 0 ≤ i) (hA : A = sd s sdv (gp_I s 106 k.toNat) (gp_I s 107 k.toNat)) (h : i < (gm_cnt A 64 : Nat)) : BM s sdv (k + 1) (100 * k + i) := by
  refine Or.inr ⟨k.toNat, i.toNat, by omega, by omega, ?_⟩
  rw [← hA]; omega
theorem BM_up {s : gH} {sdv k v : Int} (h : BM s sdv k v) (hv : 0 ≤ v) : BM s sdv (k + 1) v := by
  rcases h with h | ⟨a, b, h1, h2, h3⟩
  · omega
  · exact Or.inr ⟨a, b, h1, by omega, h3⟩
theorem BM_z {s : gH} {sdv k v x : Int} {A : BitVec 64} (hk : 0 ≤ k) (h : BM s sdv k v) (hA : A = sd s sdv (gp_I s 106 k.toNat) (gp_I s 107 k.toNat)) (hx : x = (gm_cnt A 64 : Nat)) (z : x = 0) : BM s sdv (k + 1) v := by
  rcases h with h | ⟨a, b, h1, h2, h3⟩
  · refine Or.inl ⟨h.1, fun n hn => ?_⟩
    by_cases c : (n : Int) < k
    · exact h.2 n c
    · have : n = k.toNat := by omega
      rw [this, ← hA]; omega
  · exact Or.inr ⟨a, b, h1, by omega, h3⟩
theorem tm_rng (x y : Int) (hx : 0 ≤ x) (hy : 0 < y) : 0 ≤ x.tmod y ∧ x.tmod y < y := by
  rw [Int.tmod_eq_emod_of_nonneg hx]
  exact ⟨Int.emod_nonneg _ (by omega), Int.emod_lt_of_pos _ hy⟩
def BMi (s : gH) (sdv k v i : Int) : Prop := (i = 0 ∧ BM s sdv k v) ∨ (0 ≤ v ∧ BM s sdv (k + 1) v)
theorem BMi_0 {s : gH} {sdv k v : Int} (h : BM s sdv k v) : BMi s sdv k v 0 := Or.inl ⟨rfl, h⟩
theorem BMi_keep {s : gH} {sdv k v i j : Int} (h : BMi s sdv k v i) (hv : 0 ≤ v) : BMi s sdv k v j := by
  rcases h with h | h
  · exact Or.inr ⟨hv, BM_up h.2 hv⟩
  · exact Or.inr h
theorem BMi_new {s : gH} {sdv k i j : Int} {A : BitVec 64} (hk : 0 ≤ k) (hi : 0 ≤ i) (hA : A = sd s sdv (gp_I s 106 k.toNat) (gp_I s 107 k.toNat)) (h : i < (gm_cnt A 64 : Nat)) : BMi s sdv k (100 * k + i) j := Or.inr ⟨by omega, BM_new hk hi hA h⟩
theorem BMi_out {s : gH} {sdv k v i : Int} {A : BitVec 64} (hk : 0 ≤ k) (h : BMi s sdv k v i) (hA : A = sd s sdv (gp_I s 106 k.toNat) (gp_I s 107 k.toNat)) (z : ¬ i < (gm_cnt A 64 : Nat)) : BM s sdv (k + 1) v := by
  rcases h with h | h
  · exact BM_z hk h.2 hA rfl (by omega)
  · exact h.2
set_option maxRecDepth 100000 in
/-- GatheredPointsModel.isSetOfThree -/
theorem vm_isSetOfThree  {L d : Nat} {K : Option gV → gH → Prop} {s : gH}  (p0 : Int)  (h_p0 : (-2147483648) ≤ p0 ∧ p0 ≤ 2147483647)  (k : ∀ (r : Int), (0 ≤ r ∧ r ≤ 1) → (r = 1 → (gm_cnt (BitVec.ofInt 64 p0) 64 : Nat) ≤ 3 ∧ 1 ≤ p0 ∧ p0 ≤ 255) → K (some (gp_i r)) s) : gs_C L (d + 2) 3155 1 [gp_i p0] s K := by
  refine s_3155_e _ ?_
  have w_1 := gz_oi (p0) (by omega)
  refine vm_isIn _ _ _ (fun x_2 p_3 p_4 => ⟨_, rfl, ?_⟩)
  have w_5 : BitVec.toInt (1#64) = 1 := by decide
  have w_6 : BitVec.toInt (BitVec.ofInt 64 255) = 255 := by decide
  refine ⟨fun h_7 => ?_, fun h_7 => ?_⟩
  · refine s_3155_25 _ ?_
    refine s_3155_26 _ _ ?_
    refine ⟨by omega, ?_⟩
    exact k _ (by omega) (by first | omega | assumption)
  · have w_8 := gz_oi (p0) (by omega)
    refine vm_size _ (fun x_9 p_10 p_11 => ⟨_, rfl, ?_⟩)
    refine ⟨fun h_12 => ?_, fun h_12 => ?_⟩
    · refine s_3155_25 _ ?_
      refine s_3155_26 _ _ ?_
      refine ⟨by omega, ?_⟩
      exact k _ (by omega) (by first | omega | assumption)
    · refine s_3155_26 _ _ ?_
      refine ⟨by omega, ?_⟩
      exact k _ (by omega) (by first | omega | assumption)
set_option maxRecDepth 100000 in
/-- GatheredPointsModel.setsUp -/
theorem vm_setsUp  {L d : Nat} {K : Option gV → gH → Prop} {s : gH}  (p0 : Int) (hs : MI s) (h_p0 : 1 ≤ p0 ∧ p0 ≤ 255) (q0 : (gm_cnt (BitVec.ofInt 64 p0) 64 : Nat) ≤ 3) (k : ∀ (t : gH), MI t → gF [106, 107] [49] s t → K none t) : gs_C L (d + 1) 3159 3 [gp_r (some 74), gp_i p0] s K := by
  have f_1 := mr74_49 hs
  refine s_3159_e _ ?_
  intro s_2 e_3
  have hs_4 : MI s_2 := by rw [e_3]; exact mw74_49 hs _ (by omega)
  have hf_5 : gF [106, 107] [49] s s_2 := by rw [e_3]; exact gF.wI (gF.refl _ _ _) (Or.inr ⟨rfl, rfl⟩)
  have q_6 : gp_I s_2 74 49 = 0 := by rw [e_3]; exact (gz_rw _ _ _ _ _).1 rfl
  have lp_7 : ∀ (n_7 : Nat) (v2_7 : Int) (s_7 : gH), (MI s_7) → (gF [106, 107] [49] s s_7) → (0 ≤ v2_7 ∧ v2_7 ≤ 8) → (gp_I s_7 74 49 = (gm_cnt (BitVec.ofInt 64 p0) (Int.toNat v2_7) : Nat)) → (9 - v2_7).toNat < n_7 → gs_E L (d + 1) 3159 7 [gp_r (some 74), gp_i p0, gp_i v2_7] [] s_7 K := by
    intro n_7
    induction n_7 with
    | zero => intro v2_7 s_7 hs_s_7 hf_s_7 hv2_7 iv0_7 hm_7; exact absurd hm_7 (Nat.not_lt_zero _)
    | succ n_7 ih_7 =>
      intro v2_7 s_7 hs_s_7 hf_s_7 hv2_7 iv0_7 hm_7
      refine s_3159_7 _ _ ?_
      have hcs := cnt_step (A := BitVec.ofInt 64 p0) (x := v2_7) (by omega) iv0_7
      refine ⟨fun h_8 => ?_, fun h_8 => ?_⟩
      · have w_9 := gz_oi (p0) (by omega)
        refine vm_has _ _ (by omega) (fun x_10 p_11 p_12 => ⟨_, rfl, ?_⟩)
        refine ⟨fun h_13 => ?_, fun h_13 => ?_⟩
        · have hb_14 := hasF p_12 h_13
          refine s_3159_56 _ _ ?_
          try rw [show gp_wr (v2_7 + 1) = v2_7 + 1 from gp_wr_id (by omega) (by omega)]
          exact ih_7 _ _ hs_s_7 hf_s_7 (by omega) (by first | (have h9 := hcs.1 (by assumption); omega) | (have h9 := hcs.2 (by assumption); omega)) (by omega)
        · have hb_15 := hasT p_12 h_13
          have hcl := cnt_lt (A := BitVec.ofInt 64 p0) (x := v2_7) (by omega) (by assumption)
          have f_16 := mr74_49 hs_s_7
          refine ⟨by omega, ?_⟩
          intro s_17 e_18
          have hs_19 : MI s_17 := by rw [e_18]; exact mw106 hs_s_7 _ _ (by omega)
          have hf_20 : gF [106, 107] [49] s s_17 := by rw [e_18]; exact gF.wI hf_s_7 (Or.inl rfl)
          have q_21 : gp_I s_17 74 49 = gp_I s_7 74 49 := by rw [e_18] <;> rfl
          have f_22 := mr74_49 hs_19
          have hm2 := mr81s hs_19 (Int.toNat v2_7) (by omega)
          refine vm_root _ hs_19 (by omega) (fun x_23 p_24 p_25 => ⟨_, rfl, ?_⟩)
          refine ⟨by omega, ?_⟩
          intro s_26 e_27
          have hs_28 : MI s_26 := by rw [e_27]; exact mw107 hs_19 _ _ (by omega)
          have hf_29 : gF [106, 107] [49] s s_26 := by rw [e_27]; exact gF.wI hf_20 (Or.inl rfl)
          have q_30 : gp_I s_26 74 49 = gp_I s_17 74 49 := by rw [e_27] <;> rfl
          have f_31 := mr74_49 hs_28
          try rw [show gp_wr ((gp_I s_26 74 49) + 1) = (gp_I s_26 74 49) + 1 from gp_wr_id (by omega) (by omega)]
          intro s_32 e_33
          have hs_34 : MI s_32 := by rw [e_33]; exact mw74_49 hs_28 _ (by omega)
          have hf_35 : gF [106, 107] [49] s s_32 := by rw [e_33]; exact gF.wI hf_29 (Or.inr ⟨rfl, rfl⟩)
          have q_36 : gp_I s_32 74 49 = (gp_I s_26 74 49) + 1 := by rw [e_33]; exact (gz_rw _ _ _ _ _).1 rfl
          refine s_3159_56 _ _ ?_
          try rw [show gp_wr (v2_7 + 1) = v2_7 + 1 from gp_wr_id (by omega) (by omega)]
          exact ih_7 _ _ hs_34 hf_35 (by omega) (by first | (have h9 := hcs.1 (by assumption); omega) | (have h9 := hcs.2 (by assumption); omega)) (by omega)
      · exact k s_7 hs_s_7 hf_s_7
  exact lp_7 _ _ _ hs_4 hf_5 (by omega) (by show _ = ((0 : Nat) : Int); omega) (Nat.lt_succ_self _)
set_option maxRecDepth 100000 in
/-- GatheredPointsModel.scoreNow -/
theorem vm_scoreNow  {L d : Nat} {K : Option gV → gH → Prop} {s : gH}  (p0 : Int) (hs : MI s)   (k : ∀ (r : Int), K (some (gp_i r)) s) : gs_C L (d + 1) 3160 3 [gp_r (some 74), gp_i p0] s K := by
  refine s_3160_e _ ?_
  have f_1 := mr107 hs 0
  have f_2 := mr74_49 hs
  have jn24_5 : ∀ (j_4 : Int), (0 ≤ j_4 ∧ j_4 ≤ 63) → gs_E L (d + 1) 3160 24 [gp_r (some 74), gp_i p0, gp_n] [gp_i j_4, gp_i (gp_I s 107 0)] s K := by
    intro j_4 hj_5
    refine s_3160_24 _ _ _ _ ?_
    have f_7 := mr74_49 hs
    have jn42_10 : ∀ (j_9 : Int), (0 ≤ j_9 ∧ j_9 ≤ 63) → gs_E L (d + 1) 3160 42 [gp_r (some 74), gp_i p0, gp_n] [gp_i j_9, gp_i j_4, gp_i (gp_I s 107 0)] s K := by
      intro j_9 hj_10
      refine s_3160_42 _ _ _ _ _ ?_
      refine vm_code _ _ _ (by omega) (by omega) (by omega) (fun x_12 p_13 p_14 => ⟨_, rfl, ?_⟩)
      refine ⟨fun h_15 => ?_, fun h_15 => ?_⟩
      · refine ⟨by omega, ?_⟩
        refine s_3160_65 _ _ _ ?_
        exact k _
      · refine ⟨by omega, ?_⟩
        refine s_3160_65 _ _ _ ?_
        exact k _
    refine ⟨fun h_8 => ?_, fun h_8 => ?_⟩
    · have f_16 := mr107 hs 2
      exact jn42_10 _ (by omega)
    · exact jn42_10 _ (by omega)
  refine ⟨fun h_3 => ?_, fun h_3 => ?_⟩
  · have f_17 := mr107 hs 1
    exact jn24_5 _ (by omega)
  · exact jn24_5 _ (by omega)
set_option maxRecDepth 100000 in
/-- GatheredPointsModel.bestMove -/
theorem vm_bestMove  {L d : Nat} {K : Option gV → gH → Prop} {s : gH}  (p0 : Int) (hs : MI s) (h_p0 : 0 ≤ p0 ∧ p0 ≤ 1)  (k : ∀ (r : Int), ((-1) ≤ r ∧ r ≤ 263) → (BM s p0 (gp_I s 74 49) r) → K (some (gp_i r)) s) : gs_C L (d + 2) 3161 12 [gp_r (some 74), gp_i p0] s K := by
  refine s_3161_e _ ?_
  have f_1 := mr107 hs 0
  have f_2 := mr74_49 hs
  have jn24_6 : ∀ (j_4 : Int), (0 ≤ j_4 ∧ j_4 ≤ 63) → ((j_4 = gp_I s 107 1 ∨ gp_I s 74 49 ≤ 1)) → gs_E L (d + 2) 3161 24 [gp_r (some 74), gp_i p0, gp_n, gp_n, gp_n, gp_n, gp_n, gp_n, gp_n, gp_n, gp_n, gp_n] [gp_i j_4, gp_i (gp_I s 107 0)] s K := by
    intro j_4 hj_5 ij_6
    refine s_3161_24 _ _ _ _ _ _ _ _ _ _ _ _ _ ?_
    have f_8 := mr74_49 hs
    have jn42_12 : ∀ (j_10 : Int), (0 ≤ j_10 ∧ j_10 ≤ 63) → ((j_10 = gp_I s 107 2 ∨ gp_I s 74 49 ≤ 2)) → gs_E L (d + 2) 3161 42 [gp_r (some 74), gp_i p0, gp_n, gp_n, gp_n, gp_n, gp_n, gp_n, gp_n, gp_n, gp_n, gp_n] [gp_i j_10, gp_i j_4, gp_i (gp_I s 107 0)] s K := by
      intro j_10 hj_11 ij_12
      refine s_3161_42 _ _ _ _ _ _ _ _ _ _ _ _ _ _ ?_
      refine vm_code _ _ _ (by omega) (by omega) (by omega) (fun x_14 p_15 p_16 => ⟨_, rfl, ?_⟩)
      have lp_17 : ∀ (n_17 : Nat) (v3_17 : Int) (v4_17 : Int) (v5_17 : Int) (v6_17 : gV) (v7_17 : gV) (v8_17 : gV) (v9_17 : gV) (v10_17 : gV) (v11_17 : gV), ((-1) ≤ v3_17 ∧ v3_17 ≤ 263) → (0 ≤ v5_17 ∧ v5_17 ≤ 3) → (BM s p0 v5_17 v3_17) → (v5_17 ≤ gp_I s 74 49) → (4 - v5_17).toNat < n_17 → gs_E L (d + 2) 3161 54 [gp_r (some 74), gp_i p0, gp_i x_14, gp_i v3_17, gp_i v4_17, gp_i v5_17, v6_17, v7_17, v8_17, v9_17, v10_17, v11_17] [] s K := by
        intro n_17
        induction n_17 with
        | zero => intro v3_17 v4_17 v5_17 v6_17 v7_17 v8_17 v9_17 v10_17 v11_17 hv3_17 hv5_17 iv0_17 iv1_17 hm_17; exact absurd hm_17 (Nat.not_lt_zero _)
        | succ n_17 ih_17 =>
          intro v3_17 v4_17 v5_17 v6_17 v7_17 v8_17 v9_17 v10_17 v11_17 hv3_17 hv5_17 iv0_17 iv1_17 hm_17
          refine s_3161_54 _ _ _ _ _ _ _ _ _ _ _ ?_
          have hth := th3 s v5_17
          have f_18 := mr74_49 hs
          refine ⟨fun h_19 => ?_, fun h_19 => ?_⟩
          · refine ⟨by omega, ?_⟩
            have f_20 := mr106 hs (Int.toNat v5_17)
            refine ⟨by omega, ?_⟩
            have f_21 := mr107 hs (Int.toNat v5_17)
            refine vm_sideOf _ _ _ hs (by omega) (by omega) (fun m_22 p_23 p_24 p_25 p_26 => ⟨_, rfl, ?_⟩)
            refine ⟨fun h_27 => ?_, fun h_27 => ?_⟩
            · refine s_3161_107 _ _ _ _ _ _ _ _ _ _ _ ?_
              have lp_28 : ∀ (n_28 : Nat) (v3_28 : Int) (v4_28 : Int) (v9_28 : Int) (v10_28 : gV) (v11_28 : gV), ((-1) ≤ v3_28 ∧ v3_28 ≤ 263) → (0 ≤ v9_28 ∧ v9_28 ≤ 64) → (BMi s p0 v5_17 v3_28 v9_28) → (65 - v9_28).toNat < n_28 → gs_E L (d + 2) 3161 112 [gp_r (some 74), gp_i p0, gp_i x_14, gp_i v3_28, gp_i v4_28, gp_i v5_17, gp_l m_22, gp_n, gp_i 4096, gp_i v9_28, v10_28, v11_28] [] s K := by
                intro n_28
                induction n_28 with
                | zero => intro v3_28 v4_28 v9_28 v10_28 v11_28 hv3_28 hv9_28 iv0_28 hm_28; exact absurd hm_28 (Nat.not_lt_zero _)
                | succ n_28 ih_28 =>
                  intro v3_28 v4_28 v9_28 v10_28 v11_28 hv3_28 hv9_28 iv0_28 hm_28
                  refine s_3161_112 _ _ _ _ _ _ _ _ _ _ ?_
                  refine vm_size _ (fun x_29 p_30 p_31 => ⟨_, rfl, ?_⟩)
                  refine ⟨fun h_32 => ?_, fun h_32 => ?_⟩
                  · refine vm_inSet _ _ (fun x_33 p_34 p_35 => ⟨_, rfl, ?_⟩)
                    refine ⟨by omega, ?_⟩
                    have f_36 := mr107 hs (Int.toNat v5_17)
                    try rw [show gp_wr (x_33 - (gp_I s 107 (Int.toNat v5_17))) = x_33 - (gp_I s 107 (Int.toNat v5_17)) from gp_wr_id (by omega) (by omega)]
                    try rw [show gp_wr ((x_33 - (gp_I s 107 (Int.toNat v5_17))) * 4096) = (x_33 - (gp_I s 107 (Int.toNat v5_17))) * 4096 from gp_wr_id (by omega) (by omega)]
                    try rw [show gp_wr (x_14 + ((x_33 - (gp_I s 107 (Int.toNat v5_17))) * 4096)) = x_14 + ((x_33 - (gp_I s 107 (Int.toNat v5_17))) * 4096) from gp_wr_id (by omega) (by omega)]
                    have jn165_38 : ∀ (j_38 : Int), gs_E L (d + 2) 3161 165 [gp_r (some 74), gp_i p0, gp_i x_14, gp_i v3_28, gp_i v4_28, gp_i v5_17, gp_l m_22, gp_n, gp_i 4096, gp_i v9_28, gp_i (x_14 + ((x_33 - (gp_I s 107 (Int.toNat v5_17))) * 4096)), v11_28] [gp_i j_38] s K := by
                      intro j_38
                      refine s_3161_165 _ _ _ _ _ _ _ _ _ _ _ ?_
                      refine ⟨fun h_40 => ?_, fun h_40 => ?_⟩
                      · refine s_3161_192 _ _ _ _ _ _ _ _ _ _ ?_
                        try rw [show gp_wr (100 * v5_17) = 100 * v5_17 from gp_wr_id (by omega) (by omega)]
                        try rw [show gp_wr ((100 * v5_17) + v9_28) = (100 * v5_17) + v9_28 from gp_wr_id (by omega) (by omega)]
                        refine s_3161_205 _ _ _ _ _ _ _ _ _ _ ?_
                        try rw [show gp_wr (v9_28 + 1) = v9_28 + 1 from gp_wr_id (by omega) (by omega)]
                        exact ih_28 _ _ _ _ _ (by omega) (by omega) (by first | (refine BMi_new (A := m_22) ?_ ?_ ?_ ?_ <;> first | omega | assumption) | (refine BMi_keep iv0_28 ?_; omega)) (by omega)
                      · refine ⟨fun h_41 => ?_, fun h_41 => ?_⟩
                        · refine ⟨fun h_42 => ?_, fun h_42 => ?_⟩
                          · refine s_3161_192 _ _ _ _ _ _ _ _ _ _ ?_
                            try rw [show gp_wr (100 * v5_17) = 100 * v5_17 from gp_wr_id (by omega) (by omega)]
                            try rw [show gp_wr ((100 * v5_17) + v9_28) = (100 * v5_17) + v9_28 from gp_wr_id (by omega) (by omega)]
                            refine s_3161_205 _ _ _ _ _ _ _ _ _ _ ?_
                            try rw [show gp_wr (v9_28 + 1) = v9_28 + 1 from gp_wr_id (by omega) (by omega)]
                            exact ih_28 _ _ _ _ _ (by omega) (by omega) (by first | (refine BMi_new (A := m_22) ?_ ?_ ?_ ?_ <;> first | omega | assumption) | (refine BMi_keep iv0_28 ?_; omega)) (by omega)
                          · refine s_3161_205 _ _ _ _ _ _ _ _ _ _ ?_
                            try rw [show gp_wr (v9_28 + 1) = v9_28 + 1 from gp_wr_id (by omega) (by omega)]
                            exact ih_28 _ _ _ _ _ (by omega) (by omega) (by first | (refine BMi_new (A := m_22) ?_ ?_ ?_ ?_ <;> first | omega | assumption) | (refine BMi_keep iv0_28 ?_; omega)) (by omega)
                        · refine ⟨fun h_43 => ?_, fun h_43 => ?_⟩
                          · refine s_3161_192 _ _ _ _ _ _ _ _ _ _ ?_
                            try rw [show gp_wr (100 * v5_17) = 100 * v5_17 from gp_wr_id (by omega) (by omega)]
                            try rw [show gp_wr ((100 * v5_17) + v9_28) = (100 * v5_17) + v9_28 from gp_wr_id (by omega) (by omega)]
                            refine s_3161_205 _ _ _ _ _ _ _ _ _ _ ?_
                            try rw [show gp_wr (v9_28 + 1) = v9_28 + 1 from gp_wr_id (by omega) (by omega)]
                            exact ih_28 _ _ _ _ _ (by omega) (by omega) (by first | (refine BMi_new (A := m_22) ?_ ?_ ?_ ?_ <;> first | omega | assumption) | (refine BMi_keep iv0_28 ?_; omega)) (by omega)
                          · refine s_3161_205 _ _ _ _ _ _ _ _ _ _ ?_
                            try rw [show gp_wr (v9_28 + 1) = v9_28 + 1 from gp_wr_id (by omega) (by omega)]
                            exact ih_28 _ _ _ _ _ (by omega) (by omega) (by first | (refine BMi_new (A := m_22) ?_ ?_ ?_ ?_ <;> first | omega | assumption) | (refine BMi_keep iv0_28 ?_; omega)) (by omega)
                    refine ⟨fun h_37 => ?_, fun h_37 => ?_⟩
                    · refine ⟨by omega, ?_⟩
                      exact jn165_38 _
                    · refine ⟨by omega, ?_⟩
                      exact jn165_38 _
                  · try rw [show gp_wr (v5_17 + 1) = v5_17 + 1 from gp_wr_id (by omega) (by omega)]
                    exact ih_17 _ _ _ _ _ _ _ _ _ (by omega) (by omega) (BMi_out (by omega) iv0_28 (by assumption) (by omega)) (by first | omega | assumption) (by omega)
              exact lp_28 _ _ _ _ _ _ (by omega) (by omega) (BMi_0 iv0_17) (Nat.lt_succ_self _)
            · refine ⟨fun h_44 => ?_, fun h_44 => ?_⟩
              · refine s_3161_107 _ _ _ _ _ _ _ _ _ _ _ ?_
                have lp_45 : ∀ (n_45 : Nat) (v3_45 : Int) (v4_45 : Int) (v9_45 : Int) (v10_45 : gV) (v11_45 : gV), ((-1) ≤ v3_45 ∧ v3_45 ≤ 263) → (0 ≤ v9_45 ∧ v9_45 ≤ 64) → (BMi s p0 v5_17 v3_45 v9_45) → (65 - v9_45).toNat < n_45 → gs_E L (d + 2) 3161 112 [gp_r (some 74), gp_i p0, gp_i x_14, gp_i v3_45, gp_i v4_45, gp_i v5_17, gp_l m_22, gp_n, gp_i 64, gp_i v9_45, v10_45, v11_45] [] s K := by
                  intro n_45
                  induction n_45 with
                  | zero => intro v3_45 v4_45 v9_45 v10_45 v11_45 hv3_45 hv9_45 iv0_45 hm_45; exact absurd hm_45 (Nat.not_lt_zero _)
                  | succ n_45 ih_45 =>
                    intro v3_45 v4_45 v9_45 v10_45 v11_45 hv3_45 hv9_45 iv0_45 hm_45
                    refine s_3161_112 _ _ _ _ _ _ _ _ _ _ ?_
                    refine vm_size _ (fun x_46 p_47 p_48 => ⟨_, rfl, ?_⟩)
                    refine ⟨fun h_49 => ?_, fun h_49 => ?_⟩
                    · refine vm_inSet _ _ (fun x_50 p_51 p_52 => ⟨_, rfl, ?_⟩)
                      refine ⟨by omega, ?_⟩
                      have f_53 := mr107 hs (Int.toNat v5_17)
                      try rw [show gp_wr (x_50 - (gp_I s 107 (Int.toNat v5_17))) = x_50 - (gp_I s 107 (Int.toNat v5_17)) from gp_wr_id (by omega) (by omega)]
                      try rw [show gp_wr ((x_50 - (gp_I s 107 (Int.toNat v5_17))) * 64) = (x_50 - (gp_I s 107 (Int.toNat v5_17))) * 64 from gp_wr_id (by omega) (by omega)]
                      try rw [show gp_wr (x_14 + ((x_50 - (gp_I s 107 (Int.toNat v5_17))) * 64)) = x_14 + ((x_50 - (gp_I s 107 (Int.toNat v5_17))) * 64) from gp_wr_id (by omega) (by omega)]
                      have jn165_55 : ∀ (j_55 : Int), gs_E L (d + 2) 3161 165 [gp_r (some 74), gp_i p0, gp_i x_14, gp_i v3_45, gp_i v4_45, gp_i v5_17, gp_l m_22, gp_n, gp_i 64, gp_i v9_45, gp_i (x_14 + ((x_50 - (gp_I s 107 (Int.toNat v5_17))) * 64)), v11_45] [gp_i j_55] s K := by
                        intro j_55
                        refine s_3161_165 _ _ _ _ _ _ _ _ _ _ _ ?_
                        refine ⟨fun h_57 => ?_, fun h_57 => ?_⟩
                        · refine s_3161_192 _ _ _ _ _ _ _ _ _ _ ?_
                          try rw [show gp_wr (100 * v5_17) = 100 * v5_17 from gp_wr_id (by omega) (by omega)]
                          try rw [show gp_wr ((100 * v5_17) + v9_45) = (100 * v5_17) + v9_45 from gp_wr_id (by omega) (by omega)]
                          refine s_3161_205 _ _ _ _ _ _ _ _ _ _ ?_
                          try rw [show gp_wr (v9_45 + 1) = v9_45 + 1 from gp_wr_id (by omega) (by omega)]
                          exact ih_45 _ _ _ _ _ (by omega) (by omega) (by first | (refine BMi_new (A := m_22) ?_ ?_ ?_ ?_ <;> first | omega | assumption) | (refine BMi_keep iv0_45 ?_; omega)) (by omega)
                        · refine ⟨fun h_58 => ?_, fun h_58 => ?_⟩
                          · refine ⟨fun h_59 => ?_, fun h_59 => ?_⟩
                            · refine s_3161_192 _ _ _ _ _ _ _ _ _ _ ?_
                              try rw [show gp_wr (100 * v5_17) = 100 * v5_17 from gp_wr_id (by omega) (by omega)]
                              try rw [show gp_wr ((100 * v5_17) + v9_45) = (100 * v5_17) + v9_45 from gp_wr_id (by omega) (by omega)]
                              refine s_3161_205 _ _ _ _ _ _ _ _ _ _ ?_
                              try rw [show gp_wr (v9_45 + 1) = v9_45 + 1 from gp_wr_id (by omega) (by omega)]
                              exact ih_45 _ _ _ _ _ (by omega) (by omega) (by first | (refine BMi_new (A := m_22) ?_ ?_ ?_ ?_ <;> first | omega | assumption) | (refine BMi_keep iv0_45 ?_; omega)) (by omega)
                            · refine s_3161_205 _ _ _ _ _ _ _ _ _ _ ?_
                              try rw [show gp_wr (v9_45 + 1) = v9_45 + 1 from gp_wr_id (by omega) (by omega)]
                              exact ih_45 _ _ _ _ _ (by omega) (by omega) (by first | (refine BMi_new (A := m_22) ?_ ?_ ?_ ?_ <;> first | omega | assumption) | (refine BMi_keep iv0_45 ?_; omega)) (by omega)
                          · refine ⟨fun h_60 => ?_, fun h_60 => ?_⟩
                            · refine s_3161_192 _ _ _ _ _ _ _ _ _ _ ?_
                              try rw [show gp_wr (100 * v5_17) = 100 * v5_17 from gp_wr_id (by omega) (by omega)]
                              try rw [show gp_wr ((100 * v5_17) + v9_45) = (100 * v5_17) + v9_45 from gp_wr_id (by omega) (by omega)]
                              refine s_3161_205 _ _ _ _ _ _ _ _ _ _ ?_
                              try rw [show gp_wr (v9_45 + 1) = v9_45 + 1 from gp_wr_id (by omega) (by omega)]
                              exact ih_45 _ _ _ _ _ (by omega) (by omega) (by first | (refine BMi_new (A := m_22) ?_ ?_ ?_ ?_ <;> first | omega | assumption) | (refine BMi_keep iv0_45 ?_; omega)) (by omega)
                            · refine s_3161_205 _ _ _ _ _ _ _ _ _ _ ?_
                              try rw [show gp_wr (v9_45 + 1) = v9_45 + 1 from gp_wr_id (by omega) (by omega)]
                              exact ih_45 _ _ _ _ _ (by omega) (by omega) (by first | (refine BMi_new (A := m_22) ?_ ?_ ?_ ?_ <;> first | omega | assumption) | (refine BMi_keep iv0_45 ?_; omega)) (by omega)
                      refine ⟨fun h_54 => ?_, fun h_54 => ?_⟩
                      · refine ⟨by omega, ?_⟩
                        exact jn165_55 _
                      · refine ⟨by omega, ?_⟩
                        exact jn165_55 _
                    · try rw [show gp_wr (v5_17 + 1) = v5_17 + 1 from gp_wr_id (by omega) (by omega)]
                      exact ih_17 _ _ _ _ _ _ _ _ _ (by omega) (by omega) (BMi_out (by omega) iv0_45 (by assumption) (by omega)) (by first | omega | assumption) (by omega)
                exact lp_45 _ _ _ _ _ _ (by omega) (by omega) (BMi_0 iv0_17) (Nat.lt_succ_self _)
              · refine s_3161_107 _ _ _ _ _ _ _ _ _ _ _ ?_
                have lp_61 : ∀ (n_61 : Nat) (v3_61 : Int) (v4_61 : Int) (v9_61 : Int) (v10_61 : gV) (v11_61 : gV), ((-1) ≤ v3_61 ∧ v3_61 ≤ 263) → (0 ≤ v9_61 ∧ v9_61 ≤ 64) → (BMi s p0 v5_17 v3_61 v9_61) → (65 - v9_61).toNat < n_61 → gs_E L (d + 2) 3161 112 [gp_r (some 74), gp_i p0, gp_i x_14, gp_i v3_61, gp_i v4_61, gp_i v5_17, gp_l m_22, gp_n, gp_i 1, gp_i v9_61, v10_61, v11_61] [] s K := by
                  intro n_61
                  induction n_61 with
                  | zero => intro v3_61 v4_61 v9_61 v10_61 v11_61 hv3_61 hv9_61 iv0_61 hm_61; exact absurd hm_61 (Nat.not_lt_zero _)
                  | succ n_61 ih_61 =>
                    intro v3_61 v4_61 v9_61 v10_61 v11_61 hv3_61 hv9_61 iv0_61 hm_61
                    refine s_3161_112 _ _ _ _ _ _ _ _ _ _ ?_
                    refine vm_size _ (fun x_62 p_63 p_64 => ⟨_, rfl, ?_⟩)
                    refine ⟨fun h_65 => ?_, fun h_65 => ?_⟩
                    · refine vm_inSet _ _ (fun x_66 p_67 p_68 => ⟨_, rfl, ?_⟩)
                      refine ⟨by omega, ?_⟩
                      have f_69 := mr107 hs (Int.toNat v5_17)
                      try rw [show gp_wr (x_66 - (gp_I s 107 (Int.toNat v5_17))) = x_66 - (gp_I s 107 (Int.toNat v5_17)) from gp_wr_id (by omega) (by omega)]
                      try rw [show gp_wr ((x_66 - (gp_I s 107 (Int.toNat v5_17))) * 1) = (x_66 - (gp_I s 107 (Int.toNat v5_17))) * 1 from gp_wr_id (by omega) (by omega)]
                      try rw [show gp_wr (x_14 + ((x_66 - (gp_I s 107 (Int.toNat v5_17))) * 1)) = x_14 + ((x_66 - (gp_I s 107 (Int.toNat v5_17))) * 1) from gp_wr_id (by omega) (by omega)]
                      have jn165_71 : ∀ (j_71 : Int), gs_E L (d + 2) 3161 165 [gp_r (some 74), gp_i p0, gp_i x_14, gp_i v3_61, gp_i v4_61, gp_i v5_17, gp_l m_22, gp_n, gp_i 1, gp_i v9_61, gp_i (x_14 + ((x_66 - (gp_I s 107 (Int.toNat v5_17))) * 1)), v11_61] [gp_i j_71] s K := by
                        intro j_71
                        refine s_3161_165 _ _ _ _ _ _ _ _ _ _ _ ?_
                        refine ⟨fun h_73 => ?_, fun h_73 => ?_⟩
                        · refine s_3161_192 _ _ _ _ _ _ _ _ _ _ ?_
                          try rw [show gp_wr (100 * v5_17) = 100 * v5_17 from gp_wr_id (by omega) (by omega)]
                          try rw [show gp_wr ((100 * v5_17) + v9_61) = (100 * v5_17) + v9_61 from gp_wr_id (by omega) (by omega)]
                          refine s_3161_205 _ _ _ _ _ _ _ _ _ _ ?_
                          try rw [show gp_wr (v9_61 + 1) = v9_61 + 1 from gp_wr_id (by omega) (by omega)]
                          exact ih_61 _ _ _ _ _ (by omega) (by omega) (by first | (refine BMi_new (A := m_22) ?_ ?_ ?_ ?_ <;> first | omega | assumption) | (refine BMi_keep iv0_61 ?_; omega)) (by omega)
                        · refine ⟨fun h_74 => ?_, fun h_74 => ?_⟩
                          · refine ⟨fun h_75 => ?_, fun h_75 => ?_⟩
                            · refine s_3161_192 _ _ _ _ _ _ _ _ _ _ ?_
                              try rw [show gp_wr (100 * v5_17) = 100 * v5_17 from gp_wr_id (by omega) (by omega)]
                              try rw [show gp_wr ((100 * v5_17) + v9_61) = (100 * v5_17) + v9_61 from gp_wr_id (by omega) (by omega)]
                              refine s_3161_205 _ _ _ _ _ _ _ _ _ _ ?_
                              try rw [show gp_wr (v9_61 + 1) = v9_61 + 1 from gp_wr_id (by omega) (by omega)]
                              exact ih_61 _ _ _ _ _ (by omega) (by omega) (by first | (refine BMi_new (A := m_22) ?_ ?_ ?_ ?_ <;> first | omega | assumption) | (refine BMi_keep iv0_61 ?_; omega)) (by omega)
                            · refine s_3161_205 _ _ _ _ _ _ _ _ _ _ ?_
                              try rw [show gp_wr (v9_61 + 1) = v9_61 + 1 from gp_wr_id (by omega) (by omega)]
                              exact ih_61 _ _ _ _ _ (by omega) (by omega) (by first | (refine BMi_new (A := m_22) ?_ ?_ ?_ ?_ <;> first | omega | assumption) | (refine BMi_keep iv0_61 ?_; omega)) (by omega)
                          · refine ⟨fun h_76 => ?_, fun h_76 => ?_⟩
                            · refine s_3161_192 _ _ _ _ _ _ _ _ _ _ ?_
                              try rw [show gp_wr (100 * v5_17) = 100 * v5_17 from gp_wr_id (by omega) (by omega)]
                              try rw [show gp_wr ((100 * v5_17) + v9_61) = (100 * v5_17) + v9_61 from gp_wr_id (by omega) (by omega)]
                              refine s_3161_205 _ _ _ _ _ _ _ _ _ _ ?_
                              try rw [show gp_wr (v9_61 + 1) = v9_61 + 1 from gp_wr_id (by omega) (by omega)]
                              exact ih_61 _ _ _ _ _ (by omega) (by omega) (by first | (refine BMi_new (A := m_22) ?_ ?_ ?_ ?_ <;> first | omega | assumption) | (refine BMi_keep iv0_61 ?_; omega)) (by omega)
                            · refine s_3161_205 _ _ _ _ _ _ _ _ _ _ ?_
                              try rw [show gp_wr (v9_61 + 1) = v9_61 + 1 from gp_wr_id (by omega) (by omega)]
                              exact ih_61 _ _ _ _ _ (by omega) (by omega) (by first | (refine BMi_new (A := m_22) ?_ ?_ ?_ ?_ <;> first | omega | assumption) | (refine BMi_keep iv0_61 ?_; omega)) (by omega)
                      refine ⟨fun h_70 => ?_, fun h_70 => ?_⟩
                      · refine ⟨by omega, ?_⟩
                        exact jn165_71 _
                      · refine ⟨by omega, ?_⟩
                        exact jn165_71 _
                    · try rw [show gp_wr (v5_17 + 1) = v5_17 + 1 from gp_wr_id (by omega) (by omega)]
                      exact ih_17 _ _ _ _ _ _ _ _ _ (by omega) (by omega) (BMi_out (by omega) iv0_61 (by assumption) (by omega)) (by first | omega | assumption) (by omega)
                exact lp_61 _ _ _ _ _ _ (by omega) (by omega) (BMi_0 iv0_17) (Nat.lt_succ_self _)
          · exact k _ (by omega) (by rw [show gp_I s 74 49 = v5_17 by omega]; exact iv0_17)
      exact lp_17 _ _ _ _ _ _ _ _ _ _ (by omega) (by omega) (BM_0 _ _) (by first | omega | assumption) (Nat.lt_succ_self _)
    refine ⟨fun h_9 => ?_, fun h_9 => ?_⟩
    · have f_77 := mr107 hs 2
      exact jn42_12 _ (by omega) (by first | omega | assumption)
    · exact jn42_12 _ (by omega) (by first | omega | assumption)
  refine ⟨fun h_3 => ?_, fun h_3 => ?_⟩
  · have f_78 := mr107 hs 1
    exact jn24_6 _ (by omega) (by first | omega | assumption)
  · exact jn24_6 _ (by omega) (by first | omega | assumption)
