/-! strips: cells of four bits -/
def cl (x : BitVec 64) (k : Int) : Int := gp_wr ((x.sshiftRight (Int.toNat ((4 * k) % 64))) &&& (BitVec.ofInt 64 15)).toInt
def wt (x : BitVec 64) (k v : Int) : BitVec 64 := (x &&& (((BitVec.ofInt 64 15) <<< (Int.toNat ((4 * k) % 64))) ^^^ (BitVec.ofInt 64 (-1)))) ||| ((BitVec.ofInt 64 v) <<< (Int.toNat ((4 * k) % 64)))
theorem b15 : BitVec.ofInt 64 15 = 15#64 := by decide
theorem b15b : ∀ i : Nat, (15#64).getLsbD i = decide (i < 4) := by
  intro i
  by_cases h : i < 64
  · have : ∀ j : Fin 64, (15#64).getLsbD j.val = decide (j.val < 4) := by decide
    exact this ⟨i, h⟩
  · rw [BitVec.getLsbD_of_ge _ _ (by omega)]
    exact (decide_eq_false (by omega)).symm
theorem and15 (y : BitVec 64) : 0 ≤ (y &&& BitVec.ofInt 64 15).toInt ∧ (y &&& BitVec.ofInt 64 15).toInt ≤ 15 := by
  have h : (y &&& BitVec.ofInt 64 15).toNat ≤ 15 := by
    rw [BitVec.toNat_and, b15]
    exact Nat.and_le_right
  rw [BitVec.toInt_eq_toNat_of_lt (by omega)]
  omega
theorem cl_rng (x : BitVec 64) (k : Int) : 0 ≤ cl x k ∧ cl x k ≤ 15 := by
  have h := and15 (x.sshiftRight (Int.toNat ((4 * k) % 64)))
  unfold cl
  rw [gp_wr_id (by omega) (by omega)]
  exact h
theorem cl_bits {x y : BitVec 64} {k j : Int} (h : ∀ i : Nat, i < 4 → x.getLsbD ((4 * k).toNat + i) = y.getLsbD ((4 * j).toNat + i)) (hk : 0 ≤ k ∧ k < 16) (hj : 0 ≤ j ∧ j < 16) : cl x k = cl y j := by
  unfold cl
  congr 2
  apply BitVec.eq_of_getLsbD_eq
  intro i hi
  rw [BitVec.getLsbD_and, BitVec.getLsbD_and, b15, b15b]
  by_cases c : i < 4
  · rw [BitVec.getLsbD_sshiftRight, BitVec.getLsbD_sshiftRight, if_pos (by omega), if_pos (by omega), show ((4 * k) % 64).toNat = (4 * k).toNat by omega, show ((4 * j) % 64).toNat = (4 * j).toNat by omega, h i c]
  · simp [c]
theorem ofInt_bit {v : Int} (h : 0 ≤ v ∧ v ≤ 15) : ∀ i : Nat, 4 ≤ i → (BitVec.ofInt 64 v).getLsbD i = false := by
  intro i hi
  rw [show v = ((v.toNat : Nat) : Int) by omega, show BitVec.ofInt 64 ((v.toNat : Nat) : Int) = BitVec.ofNat 64 v.toNat from rfl, BitVec.getLsbD_ofNat]
  rw [Nat.testBit_lt_two_pow (Nat.lt_of_lt_of_le (show v.toNat < 2 ^ 4 by omega) (Nat.pow_le_pow_right (by decide) hi))]
  simp
theorem wt_bit {x : BitVec 64} {k v : Int} (hk : 0 ≤ k ∧ k < 16) (hv : 0 ≤ v ∧ v ≤ 15) (p : Nat) (hp : p < 64) : (wt x k v).getLsbD p = if (4 * k).toNat ≤ p ∧ p < (4 * k).toNat + 4 then (BitVec.ofInt 64 v).getLsbD (p - (4 * k).toNat) else x.getLsbD p := by
  unfold wt
  have e : BitVec.ofInt 64 (-1) = BitVec.allOnes 64 := by decide
  rw [BitVec.getLsbD_or, BitVec.getLsbD_and, BitVec.getLsbD_xor, BitVec.getLsbD_shiftLeft, BitVec.getLsbD_shiftLeft, e, BitVec.getLsbD_allOnes, b15, b15b, show ((4 * k) % 64).toNat = (4 * k).toNat by omega]
  by_cases c : (4 * k).toNat ≤ p
  · by_cases c2 : p < (4 * k).toNat + 4
    · rw [if_pos ⟨c, c2⟩]
      have : p - (4 * k).toNat < 4 := by omega
      have q : ¬ p < (4 * k).toNat := by omega
      simp [hp, this, q]
    · rw [if_neg (fun h => c2 h.2), ofInt_bit hv _ (by omega)]
      have : ¬ p - (4 * k).toNat < 4 := by omega
      simp [hp, this]
  · rw [if_neg (fun h => c h.1)]
    have q : p < (4 * k).toNat := by omega
    simp [hp, q]
theorem cl_wt {x : BitVec 64} {k v j : Int} (hk : 0 ≤ k ∧ k < 16) (hv : 0 ≤ v ∧ v ≤ 15) (hj : 0 ≤ j ∧ j < 16) : (j ≠ k → cl (wt x k v) j = cl x j) ∧ cl (wt x k v) k = v := by
  constructor
  · intro hne
    refine cl_bits (fun i hi => ?_) hj hj
    rw [wt_bit hk hv _ (by omega), if_neg (by omega)]
  · have e : cl (wt x k v) k = cl (BitVec.ofInt 64 v) 0 := by
      refine cl_bits (fun i hi => ?_) hk (by omega)
      rw [wt_bit hk hv _ (by omega), if_pos (by omega)]
      congr 1
      omega
    rw [e]
    have : ∀ w : Fin 16, cl (BitVec.ofInt 64 (w.val : Int)) 0 = (w.val : Int) := by decide
    have h := this ⟨v.toNat, by omega⟩
    rw [show (((⟨v.toNat, by omega⟩ : Fin 16).val : Nat) : Int) = v by show ((v.toNat : Nat) : Int) = v; omega] at h
    exact h
/-- steps that stones can still take, at most -/
def sS (g : Nat → Nat) : Nat → Nat
  | 0 => 0
  | k + 1 => sS g k + g k
theorem sS_eq {g g' : Nat → Nat} : ∀ (c : Nat), (∀ i, i < c → g' i = g i) → sS g' c = sS g c
  | 0, _ => rfl
  | c + 1, h => by
    show sS g' c + g' c = sS g c + g c
    rw [sS_eq c (fun i hi => h i (by omega)), h c (by omega)]
theorem sS_upd {g g' : Nat → Nat} {j : Nat} : ∀ (c : Nat), (∀ i, i < c → i ≠ j → g' i = g i) → j < c → sS g' c + g j = sS g c + g' j
  | 0, _, hj => absurd hj (Nat.not_lt_zero _)
  | c + 1, h, hj => by
    show sS g' c + g' c + g j = sS g c + g c + g' j
    by_cases q : j = c
    · subst q
      rw [sS_eq j (fun i hi => h i (by omega) (by omega))]
      omega
    · have := sS_upd c (fun i hi => h i (by omega)) (by omega)
      rw [h c (by omega) (fun e => q e.symm)]
      omega
def wg (c i : Nat) (v : Int) : Nat := if v = 10 then c - 1 - i else if v = 11 then i else 0
def pm (x : BitVec 64) (c : Nat) : Nat := sS (fun i => wg c i (cl x i)) c
theorem pm_step {x : BitVec 64} {c k j v : Int} (hc : c ≤ 8) (hk : 0 ≤ k ∧ k < c) (hj : 0 ≤ j ∧ j < c) (hv : v = cl x k) (h : (v = 10 ∧ j = k + 1) ∨ (v = 11 ∧ j = k - 1)) (h9 : cl x j ≤ 9) : pm (wt (wt x k 0) j v) c.toNat < pm x c.toNat := by
  have h1 : sS (fun i => wg c.toNat i (cl (wt x k 0) i)) c.toNat + wg c.toNat k.toNat (cl x k.toNat) = sS (fun i => wg c.toNat i (cl x i)) c.toNat + wg c.toNat k.toNat (cl (wt x k 0) k.toNat) :=
    sS_upd (g := fun i => wg c.toNat i (cl x i)) (g' := fun i => wg c.toNat i (cl (wt x k 0) i)) (j := k.toNat) c.toNat (fun i hi hne => by
      show wg _ _ (cl (wt x k 0) (i : Int)) = wg _ _ (cl x (i : Int))
      rw [(cl_wt (by omega) (by omega) (by omega)).1 (by omega)]) (by omega)
  have h2 : sS (fun i => wg c.toNat i (cl (wt (wt x k 0) j v) i)) c.toNat + wg c.toNat j.toNat (cl (wt x k 0) j.toNat) = sS (fun i => wg c.toNat i (cl (wt x k 0) i)) c.toNat + wg c.toNat j.toNat (cl (wt (wt x k 0) j v) j.toNat) :=
    sS_upd (g := fun i => wg c.toNat i (cl (wt x k 0) i)) (g' := fun i => wg c.toNat i (cl (wt (wt x k 0) j v) i)) (j := j.toNat) c.toNat (fun i hi hne => by
      show wg _ _ (cl (wt (wt x k 0) j v) (i : Int)) = wg _ _ (cl (wt x k 0) (i : Int))
      rw [(cl_wt (by omega) (by omega) (by omega)).1 (by omega)]) (by omega)
  have ek : ((k.toNat : Nat) : Int) = k := by omega
  have ej : ((j.toNat : Nat) : Int) = j := by omega
  rw [ek, ← hv, (cl_wt (by omega) (by omega) (j := k) (by omega)).2] at h1
  rw [ej, (cl_wt (by omega) (by omega) (j := j) (by omega)).2, (cl_wt (by omega) (by omega) (by omega)).1 (by omega)] at h2
  show sS _ _ < sS _ _
  have r := cl_rng x j
  have z0 : wg c.toNat k.toNat 0 = 0 := rfl
  have z1 : wg c.toNat j.toNat (cl x j) = 0 := by unfold wg; rw [if_neg (by omega), if_neg (by omega)]
  rw [z0] at h1
  rw [z1] at h2
  rcases h with ⟨h, e⟩ | ⟨h, e⟩
  · have a : wg c.toNat k.toNat v = c.toNat - 1 - k.toNat := by unfold wg; rw [if_pos h]
    have b : wg c.toNat j.toNat v = c.toNat - 1 - j.toNat := by unfold wg; rw [if_pos h]
    rw [a] at h1; rw [b] at h2
    omega
  · have a : wg c.toNat k.toNat v = k.toNat := by unfold wg; rw [if_neg (by omega), if_pos h]
    have b : wg c.toNat j.toNat v = j.toNat := by unfold wg; rw [if_neg (by omega), if_pos h]
    rw [a] at h1; rw [b] at h2
    omega
theorem wg_le (c i : Nat) (v : Int) (hi : i < c) : wg c i v ≤ c := by unfold wg; split; omega; split <;> omega
theorem sS_le {g : Nat → Nat} {b : Nat} : ∀ (c : Nat), (∀ i, i < c → g i ≤ b) → sS g c ≤ c * b
  | 0, _ => Nat.zero_le _
  | c + 1, h => by
    show sS g c + g c ≤ (c + 1) * b
    have := sS_le c (fun i hi => h i (by omega))
    have := h c (by omega)
    rw [Nat.succ_mul]
    omega
theorem pm_le (x : BitVec 64) {c : Int} (h : c ≤ 8) : pm x c.toNat ≤ 64 := by
  have := sS_le (g := fun i => wg c.toNat i (cl x i)) (b := 8) c.toNat (fun i hi => Nat.le_trans (wg_le _ _ _ hi) (by omega))
  show sS _ _ ≤ 64
  omega
theorem wr255 (y : BitVec 64) : 0 ≤ gp_wr (y &&& BitVec.ofInt 64 255).toInt ∧ gp_wr (y &&& BitVec.ofInt 64 255).toInt ≤ 255 := by
  have h : (y &&& BitVec.ofInt 64 255).toNat ≤ 255 := by
    rw [BitVec.toNat_and, show BitVec.ofInt 64 255 = 255#64 by decide]
    exact Nat.and_le_right
  rw [BitVec.toInt_eq_toNat_of_lt (by omega), gp_wr_id (by omega) (by omega)]
  omega
set_option maxRecDepth 100000 in
/-- GatheredPointsModel.cellAt -/
theorem vm_cellAt  {L d : Nat} {K : Option gV → gH → Prop} {s : gH}  (p0 : BitVec 64) (p1 : Int)  (h_p1 : 0 ≤ p1 ∧ p1 ≤ 15)  (k : ∀ (r : Int), (0 ≤ r ∧ r ≤ 15) → (r = cl p0 p1) → K (some (gp_i r)) s) : gs_C L d 3140 3 [gp_l p0, gp_i p1] s K := by
  refine s_3140_e _ _ ?_
  try rw [show gp_wr (4 * p1) = 4 * p1 from gp_wr_id (by omega) (by omega)]
  have w_1 := wr_rng (((p0.sshiftRight (Int.toNat ((4 * p1) % 64))) &&& (BitVec.ofInt 64 15)).toInt)
  have hcl : 0 ≤ (gp_wr ((p0.sshiftRight (Int.toNat ((4 * p1) % 64))) &&& (BitVec.ofInt 64 15)).toInt) ∧ (gp_wr ((p0.sshiftRight (Int.toNat ((4 * p1) % 64))) &&& (BitVec.ofInt 64 15)).toInt) ≤ 15 := cl_rng p0 p1
  exact k _ (by omega) (by first | rfl)
set_option maxRecDepth 100000 in
/-- GatheredPointsModel.with -/
theorem vm_with  {L d : Nat} {K : Option gV → gH → Prop} {s : gH}  (p0 : BitVec 64) (p1 : Int) (p2 : Int)  (h_p1 : 0 ≤ p1 ∧ p1 ≤ 15) (h_p2 : 0 ≤ p2 ∧ p2 ≤ 15)  (k : ∀ (r : BitVec 64), (r = wt p0 p1 p2) → K (some (gp_l r)) s) : gs_C L d 3141 4 [gp_l p0, gp_i p1, gp_i p2] s K := by
  refine s_3141_e _ _ _ ?_
  try rw [show gp_wr (4 * p1) = 4 * p1 from gp_wr_id (by omega) (by omega)]
  have w_1 := gz_oi (p2) (by omega)
  try rw [show gp_wr (4 * p1) = 4 * p1 from gp_wr_id (by omega) (by omega)]
  exact k _ (by first | rfl)
def PLW (m : Nat) : Prop := ∀ (L D : Nat) (K : Option gV → gH → Prop) (s : gH)  (p0 : BitVec 64) (p1 : Int), ((m + 6 ≤ D)) → (MI s) → (MDi s) → (gp_I s 74 15 ≠ 0 → 1 ≤ gp_I s 81 20) → (pm p0 (Int.toNat (gp_I s 74 46)) < m) → (∀ (r : Int), ∀ (t : gH), MI t → gF [76, 77, 78, 79, 80, 81] [15] s t → (0 ≤ r ∧ r ≤ 63) → (MDi t) → (mOut s t) → (r < gp_I t 81 20) → (gp_I s 81 20 ≤ gp_I t 81 20) → (gp_I t 74 15 ≠ 0 → 1 ≤ gp_I t 81 20) → K (some (gp_i r)) t) → gs_C L D 3142 17 [gp_r (some 74), gp_l p0, gp_i p1] s K
set_option maxRecDepth 100000 in
/-- GatheredPointsModel.played -/
theorem vm_played (m : Nat) (ihP : PLW m) : PLW (m + 1) := by
  intro L D K s p0 p1 hD hs q0 q1 q2 k
  obtain ⟨d, rfl⟩ : ∃ d, D = d + 6 := ⟨D - 6, by omega⟩
  have f_1 := mr81 hs 20
  have f_2 := mr74_15 hs
  have f_3 := mr74_46 hs
  refine s_3142_e _ _ ?_
  have lp_4 : ∀ (n_4 : Nat) (v4_4 : BitVec 64) (v6_4 : BitVec 64) (v8_4 : Int) (v9_4 : Int) (v10_4 : Int) (v11_4 : Int) (v12_4 : gV) (v13_4 : gV) (v14_4 : gV) (v15_4 : gV) (v16_4 : gV) (s_4 : gH), (MI s_4) → (gF [76, 77, 78, 79, 80, 81] [15] s s_4) → (MDi s_4) → (mOut s s_4) → ((-2147483648) ≤ v8_4 ∧ v8_4 ≤ 2147483647) → (0 ≤ v9_4 ∧ v9_4 ≤ 1) → (0 ≤ v10_4 ∧ v10_4 ≤ 1) → (0 ≤ v11_4 ∧ v11_4 ≤ 8) → (gp_I s_4 74 46 = gp_I s 74 46) → (bd v4_4 (gp_I s_4 81 20)) → (bd v6_4 (gp_I s_4 81 20)) → (gp_I s_4 74 15 ≠ 0 → 1 ≤ gp_I s_4 81 20) → (gp_I s 81 20 ≤ gp_I s_4 81 20) → (gp_I s_4 74 46 = gp_I s 74 46) → (9 - v11_4).toNat < n_4 → gs_E L (d + 6) 3142 18 [gp_r (some 74), gp_l p0, gp_n, gp_i p1, gp_l v4_4, gp_n, gp_l v6_4, gp_n, gp_i v8_4, gp_i v9_4, gp_i v10_4, gp_i v11_4, v12_4, v13_4, v14_4, v15_4, v16_4] [] s_4 K := by
    intro n_4
    induction n_4 with
    | zero => intro v4_4 v6_4 v8_4 v9_4 v10_4 v11_4 v12_4 v13_4 v14_4 v15_4 v16_4 s_4 hs_s_4 hf_s_4 MDi_s_4 mOut_s_4 hv8_4 hv9_4 hv10_4 hv11_4 tk0_4 iv0_4 iv1_4 iv2_4 iv3_4 iv4_4 hm_4; exact absurd hm_4 (Nat.not_lt_zero _)
    | succ n_4 ih_4 =>
      intro v4_4 v6_4 v8_4 v9_4 v10_4 v11_4 v12_4 v13_4 v14_4 v15_4 v16_4 s_4 hs_s_4 hf_s_4 MDi_s_4 mOut_s_4 hv8_4 hv9_4 hv10_4 hv11_4 tk0_4 iv0_4 iv1_4 iv2_4 iv3_4 iv4_4 hm_4
      refine s_3142_18 _ _ _ _ _ _ _ _ _ _ _ _ _ ?_
      have f_5 := mr74_46 hs_s_4
      refine ⟨fun h_6 => ?_, fun h_6 => ?_⟩
      · refine vm_cellAt _ _ (by omega) (fun x_7 p_8 p_9 => ⟨_, rfl, ?_⟩)
        have jn50_12 : ∀ (j_11 : Int), (0 ≤ j_11 ∧ j_11 ≤ 9) → gs_E L (d + 6) 3142 50 [gp_r (some 74), gp_l p0, gp_n, gp_i p1, gp_l v4_4, gp_n, gp_l v6_4, gp_n, gp_i v8_4, gp_i v9_4, gp_i v10_4, gp_i v11_4, gp_i x_7, v13_4, v14_4, v15_4, v16_4] [gp_i j_11, gp_i v8_4] s_4 K := by
          intro j_11 hj_12
          refine s_3142_50 _ _ _ _ _ _ _ _ _ _ _ _ _ _ _ ?_
          have w_14 := wr_rng (v8_4 + j_11)
          refine ⟨fun h_15 => ?_, fun h_15 => ?_⟩
          · try rw [show gp_wr (v11_4 + 1) = v11_4 + 1 from gp_wr_id (by omega) (by omega)]
            refine s_3142_82 _ _ _ _ _ _ _ _ _ _ _ _ _ _ ?_
            have w_16 := gz_oi (v11_4 + 1) (by omega)
            have f_17 := mr74_46 hs_s_4
            try rw [show gp_wr ((gp_I s_4 74 46) - 1) = (gp_I s_4 74 46) - 1 from gp_wr_id (by omega) (by omega)]
            have w_18 := gz_oi ((gp_I s_4 74 46) - 1) (by omega)
            refine vm_isIn _ _ _ (fun x_19 p_20 p_21 => ⟨_, rfl, ?_⟩)
            have w_22 : BitVec.toInt (0#64) = 0 := by decide
            refine ⟨fun h_23 => ?_, fun h_23 => ?_⟩
            · refine s_3142_249 _ _ _ _ _ _ _ _ _ _ _ _ _ ?_
              try rw [show gp_wr (v11_4 + 1) = v11_4 + 1 from gp_wr_id (by omega) (by omega)]
              exact ih_4 _ _ _ _ _ _ _ _ _ _ _ _ hs_s_4 hf_s_4 MDi_s_4 mOut_s_4 (by omega) (by omega) (by omega) (by omega) (by first | rfl | omega) (by first | (refine bd_or (bd_le iv0_4 ?_) (bd_0 _); omega) | (refine bd_or (bd_le iv0_4 ?_) (bd_sh ?_ ?_ ?_) <;> omega) | (refine bd_le iv0_4 ?_; omega)) (by first | (refine bd_or (bd_le iv1_4 ?_) (bd_0 _); omega) | (refine bd_or (bd_le iv1_4 ?_) (bd_sh ?_ ?_ ?_) <;> omega) | (refine bd_le iv1_4 ?_; omega)) (by first | omega | assumption) (by first | omega | assumption) (by first | omega | assumption) (by omega)
            · refine vm_cellAt _ _ (by omega) (fun x_24 p_25 p_26 => ⟨_, rfl, ?_⟩)
              refine ⟨fun h_27 => ?_, fun h_27 => ?_⟩
              · refine s_3142_249 _ _ _ _ _ _ _ _ _ _ _ _ _ ?_
                try rw [show gp_wr (v11_4 + 1) = v11_4 + 1 from gp_wr_id (by omega) (by omega)]
                exact ih_4 _ _ _ _ _ _ _ _ _ _ _ _ hs_s_4 hf_s_4 MDi_s_4 mOut_s_4 (by omega) (by omega) (by omega) (by omega) (by first | rfl | omega) (by first | (refine bd_or (bd_le iv0_4 ?_) (bd_0 _); omega) | (refine bd_or (bd_le iv0_4 ?_) (bd_sh ?_ ?_ ?_) <;> omega) | (refine bd_le iv0_4 ?_; omega)) (by first | (refine bd_or (bd_le iv1_4 ?_) (bd_0 _); omega) | (refine bd_or (bd_le iv1_4 ?_) (bd_sh ?_ ?_ ?_) <;> omega) | (refine bd_le iv1_4 ?_; omega)) (by first | omega | assumption) (by first | omega | assumption) (by first | omega | assumption) (by omega)
              · have f_28 := mr74_15 hs_s_4
                refine ⟨fun h_29 => ?_, fun h_29 => ?_⟩
                · refine vm_with _ _ _ (by omega) (by omega) (fun m_30 p_31 => ⟨_, rfl, ?_⟩)
                  refine vm_with _ _ _ (by omega) (by omega) (fun m_32 p_33 => ⟨_, rfl, ?_⟩)
                  have hpm9 : (cl p0 v11_4 = 10 ∧ (v11_4 + 1) = v11_4 + 1) ∨ (cl p0 v11_4 = 11 ∧ (v11_4 + 1) = v11_4 - 1) → cl p0 (v11_4 + 1) ≤ 9 → pm m_32 (Int.toNat (gp_I s_4 74 46)) < pm p0 (Int.toNat (gp_I s_4 74 46)) := fun a b => by have h8 : m_32 = wt (wt p0 v11_4 0) (v11_4 + 1) (cl p0 v11_4) := (by subst_vars; rfl); rw [h8]; exact pm_step (by omega) (by omega) (by omega) rfl a b
                  have hpmA := hpm9 (by omega) (by omega)
                  rw [show gp_I s_4 74 46 = gp_I s 74 46 by omega] at hpmA
                  refine ⟨fun h_34 => ?_, fun h_34 => ?_⟩
                  · refine vm_cellAt _ _ (by omega) (fun x_35 p_36 p_37 => ⟨_, rfl, ?_⟩)
                    refine s_3142_165 _ _ _ _ _ _ _ _ _ _ _ _ _ _ _ ?_
                    have w_38 := wr_rng (p1 + x_35)
                    refine ihP _ _ _ _ _ _ (by omega) hs_s_4 (MDi_s_4) (by first | omega | assumption) (by rw [show gp_I s_4 74 46 = gp_I s 74 46 by omega]; omega) (fun x_39 s_40 hs_41 hf_42 p_43 p_44 p_45 p_46 p_47 p_48 => ⟨_, rfl, ?_⟩)
                    have hf_49 : gF [76, 77, 78, 79, 80, 81] [15] s s_40 := gF.trans hf_s_4 hf_42 rfl rfl
                    have q_50 := (hf_42.2 74 46 rfl (fun _ => rfl)).1
                    have mo_51 : mOut s s_40 := mOut.trans mOut_s_4 p_45
                    refine ⟨fun h_52 => ?_, fun h_52 => ?_⟩
                    · refine s_3142_188 _ _ _ _ _ _ _ _ _ _ _ _ _ _ ?_
                      refine ⟨fun h_53 => ?_, fun h_53 => ?_⟩
                      · exfalso; omega
                      · refine s_3142_208 _ _ _ _ _ _ _ _ _ _ _ _ _ _ ?_
                        refine ⟨fun h_54 => ?_, fun h_54 => ?_⟩
                        · refine ⟨fun h_55 => ?_, fun h_55 => ?_⟩
                          · refine s_3142_223 _ _ _ _ _ _ _ _ _ _ _ _ ?_
                            refine s_3142_228 _ _ _ _ _ _ _ _ _ _ _ _ _ ?_
                            refine ⟨fun h_56 => ?_, fun h_56 => ?_⟩
                            · refine ⟨fun h_57 => ?_, fun h_57 => ?_⟩
                              · exfalso; omega
                              · refine s_3142_247 _ _ _ _ _ _ _ _ _ _ _ _ _ ?_
                                refine s_3142_249 _ _ _ _ _ _ _ _ _ _ _ _ _ ?_
                                try rw [show gp_wr (v11_4 + 1) = v11_4 + 1 from gp_wr_id (by omega) (by omega)]
                                exact ih_4 _ _ _ _ _ _ _ _ _ _ _ _ hs_41 hf_49 p_44 mo_51 (by omega) (by omega) (by omega) (by omega) (by first | rfl | omega) (by first | (refine bd_or (bd_le iv0_4 ?_) (bd_0 _); omega) | (refine bd_or (bd_le iv0_4 ?_) (bd_sh ?_ ?_ ?_) <;> omega) | (refine bd_le iv0_4 ?_; omega)) (by first | (refine bd_or (bd_le iv1_4 ?_) (bd_0 _); omega) | (refine bd_or (bd_le iv1_4 ?_) (bd_sh ?_ ?_ ?_) <;> omega) | (refine bd_le iv1_4 ?_; omega)) (by first | omega | assumption) (by first | omega | assumption) (by first | omega | assumption) (by omega)
                            · refine s_3142_242 _ _ _ _ _ _ _ _ _ _ _ _ ?_
                              refine s_3142_247 _ _ _ _ _ _ _ _ _ _ _ _ _ ?_
                              refine s_3142_249 _ _ _ _ _ _ _ _ _ _ _ _ _ ?_
                              try rw [show gp_wr (v11_4 + 1) = v11_4 + 1 from gp_wr_id (by omega) (by omega)]
                              exact ih_4 _ _ _ _ _ _ _ _ _ _ _ _ hs_41 hf_49 p_44 mo_51 (by omega) (by omega) (by omega) (by omega) (by first | rfl | omega) (by first | (refine bd_or (bd_le iv0_4 ?_) (bd_0 _); omega) | (refine bd_or (bd_le iv0_4 ?_) (bd_sh ?_ ?_ ?_) <;> omega) | (refine bd_le iv0_4 ?_; omega)) (by first | (refine bd_or (bd_le iv1_4 ?_) (bd_0 _); omega) | (refine bd_or (bd_le iv1_4 ?_) (bd_sh ?_ ?_ ?_) <;> omega) | (refine bd_le iv1_4 ?_; omega)) (by first | omega | assumption) (by first | omega | assumption) (by first | omega | assumption) (by omega)
                          · exfalso; omega
                        · refine s_3142_223 _ _ _ _ _ _ _ _ _ _ _ _ ?_
                          refine s_3142_228 _ _ _ _ _ _ _ _ _ _ _ _ _ ?_
                          refine ⟨fun h_58 => ?_, fun h_58 => ?_⟩
                          · refine ⟨fun h_59 => ?_, fun h_59 => ?_⟩
                            · exfalso; omega
                            · refine s_3142_247 _ _ _ _ _ _ _ _ _ _ _ _ _ ?_
                              refine s_3142_249 _ _ _ _ _ _ _ _ _ _ _ _ _ ?_
                              try rw [show gp_wr (v11_4 + 1) = v11_4 + 1 from gp_wr_id (by omega) (by omega)]
                              exact ih_4 _ _ _ _ _ _ _ _ _ _ _ _ hs_41 hf_49 p_44 mo_51 (by omega) (by omega) (by omega) (by omega) (by first | rfl | omega) (by first | (refine bd_or (bd_le iv0_4 ?_) (bd_0 _); omega) | (refine bd_or (bd_le iv0_4 ?_) (bd_sh ?_ ?_ ?_) <;> omega) | (refine bd_le iv0_4 ?_; omega)) (by first | (refine bd_or (bd_le iv1_4 ?_) (bd_0 _); omega) | (refine bd_or (bd_le iv1_4 ?_) (bd_sh ?_ ?_ ?_) <;> omega) | (refine bd_le iv1_4 ?_; omega)) (by first | omega | assumption) (by first | omega | assumption) (by first | omega | assumption) (by omega)
                          · refine s_3142_242 _ _ _ _ _ _ _ _ _ _ _ _ ?_
                            refine s_3142_247 _ _ _ _ _ _ _ _ _ _ _ _ _ ?_
                            refine s_3142_249 _ _ _ _ _ _ _ _ _ _ _ _ _ ?_
                            try rw [show gp_wr (v11_4 + 1) = v11_4 + 1 from gp_wr_id (by omega) (by omega)]
                            exact ih_4 _ _ _ _ _ _ _ _ _ _ _ _ hs_41 hf_49 p_44 mo_51 (by omega) (by omega) (by omega) (by omega) (by first | rfl | omega) (by first | (refine bd_or (bd_le iv0_4 ?_) (bd_0 _); omega) | (refine bd_or (bd_le iv0_4 ?_) (bd_sh ?_ ?_ ?_) <;> omega) | (refine bd_le iv0_4 ?_; omega)) (by first | (refine bd_or (bd_le iv1_4 ?_) (bd_0 _); omega) | (refine bd_or (bd_le iv1_4 ?_) (bd_sh ?_ ?_ ?_) <;> omega) | (refine bd_le iv1_4 ?_; omega)) (by first | omega | assumption) (by first | omega | assumption) (by first | omega | assumption) (by omega)
                    · exfalso; omega
                  · exfalso; omega
                · refine s_3142_249 _ _ _ _ _ _ _ _ _ _ _ _ _ ?_
                  try rw [show gp_wr (v11_4 + 1) = v11_4 + 1 from gp_wr_id (by omega) (by omega)]
                  exact ih_4 _ _ _ _ _ _ _ _ _ _ _ _ hs_s_4 hf_s_4 MDi_s_4 mOut_s_4 (by omega) (by omega) (by omega) (by omega) (by first | rfl | omega) (by first | (refine bd_or (bd_le iv0_4 ?_) (bd_0 _); omega) | (refine bd_or (bd_le iv0_4 ?_) (bd_sh ?_ ?_ ?_) <;> omega) | (refine bd_le iv0_4 ?_; omega)) (by first | (refine bd_or (bd_le iv1_4 ?_) (bd_0 _); omega) | (refine bd_or (bd_le iv1_4 ?_) (bd_sh ?_ ?_ ?_) <;> omega) | (refine bd_le iv1_4 ?_; omega)) (by first | omega | assumption) (by first | omega | assumption) (by first | omega | assumption) (by omega)
          · refine ⟨fun h_60 => ?_, fun h_60 => ?_⟩
            · try rw [show gp_wr (v11_4 - 1) = v11_4 - 1 from gp_wr_id (by omega) (by omega)]
              refine s_3142_82 _ _ _ _ _ _ _ _ _ _ _ _ _ _ ?_
              have w_61 := gz_oi (v11_4 - 1) (by omega)
              have f_62 := mr74_46 hs_s_4
              try rw [show gp_wr ((gp_I s_4 74 46) - 1) = (gp_I s_4 74 46) - 1 from gp_wr_id (by omega) (by omega)]
              have w_63 := gz_oi ((gp_I s_4 74 46) - 1) (by omega)
              refine vm_isIn _ _ _ (fun x_64 p_65 p_66 => ⟨_, rfl, ?_⟩)
              have w_67 : BitVec.toInt (0#64) = 0 := by decide
              refine ⟨fun h_68 => ?_, fun h_68 => ?_⟩
              · refine s_3142_249 _ _ _ _ _ _ _ _ _ _ _ _ _ ?_
                try rw [show gp_wr (v11_4 + 1) = v11_4 + 1 from gp_wr_id (by omega) (by omega)]
                exact ih_4 _ _ _ _ _ _ _ _ _ _ _ _ hs_s_4 hf_s_4 MDi_s_4 mOut_s_4 (by omega) (by omega) (by omega) (by omega) (by first | rfl | omega) (by first | (refine bd_or (bd_le iv0_4 ?_) (bd_0 _); omega) | (refine bd_or (bd_le iv0_4 ?_) (bd_sh ?_ ?_ ?_) <;> omega) | (refine bd_le iv0_4 ?_; omega)) (by first | (refine bd_or (bd_le iv1_4 ?_) (bd_0 _); omega) | (refine bd_or (bd_le iv1_4 ?_) (bd_sh ?_ ?_ ?_) <;> omega) | (refine bd_le iv1_4 ?_; omega)) (by first | omega | assumption) (by first | omega | assumption) (by first | omega | assumption) (by omega)
              · refine vm_cellAt _ _ (by omega) (fun x_69 p_70 p_71 => ⟨_, rfl, ?_⟩)
                refine ⟨fun h_72 => ?_, fun h_72 => ?_⟩
                · refine s_3142_249 _ _ _ _ _ _ _ _ _ _ _ _ _ ?_
                  try rw [show gp_wr (v11_4 + 1) = v11_4 + 1 from gp_wr_id (by omega) (by omega)]
                  exact ih_4 _ _ _ _ _ _ _ _ _ _ _ _ hs_s_4 hf_s_4 MDi_s_4 mOut_s_4 (by omega) (by omega) (by omega) (by omega) (by first | rfl | omega) (by first | (refine bd_or (bd_le iv0_4 ?_) (bd_0 _); omega) | (refine bd_or (bd_le iv0_4 ?_) (bd_sh ?_ ?_ ?_) <;> omega) | (refine bd_le iv0_4 ?_; omega)) (by first | (refine bd_or (bd_le iv1_4 ?_) (bd_0 _); omega) | (refine bd_or (bd_le iv1_4 ?_) (bd_sh ?_ ?_ ?_) <;> omega) | (refine bd_le iv1_4 ?_; omega)) (by first | omega | assumption) (by first | omega | assumption) (by first | omega | assumption) (by omega)
                · have f_73 := mr74_15 hs_s_4
                  refine ⟨fun h_74 => ?_, fun h_74 => ?_⟩
                  · refine vm_with _ _ _ (by omega) (by omega) (fun m_75 p_76 => ⟨_, rfl, ?_⟩)
                    refine vm_with _ _ _ (by omega) (by omega) (fun m_77 p_78 => ⟨_, rfl, ?_⟩)
                    have hpm9 : (cl p0 v11_4 = 10 ∧ (v11_4 - 1) = v11_4 + 1) ∨ (cl p0 v11_4 = 11 ∧ (v11_4 - 1) = v11_4 - 1) → cl p0 (v11_4 - 1) ≤ 9 → pm m_77 (Int.toNat (gp_I s_4 74 46)) < pm p0 (Int.toNat (gp_I s_4 74 46)) := fun a b => by have h8 : m_77 = wt (wt p0 v11_4 0) (v11_4 - 1) (cl p0 v11_4) := (by subst_vars; rfl); rw [h8]; exact pm_step (by omega) (by omega) (by omega) rfl a b
                    have hpmA := hpm9 (by omega) (by omega)
                    rw [show gp_I s_4 74 46 = gp_I s 74 46 by omega] at hpmA
                    refine ⟨fun h_79 => ?_, fun h_79 => ?_⟩
                    · exfalso; omega
                    · refine vm_cellAt _ _ (by omega) (fun x_80 p_81 p_82 => ⟨_, rfl, ?_⟩)
                      try rw [show gp_wr (-x_80) = -x_80 from gp_wr_id (by omega) (by omega)]
                      refine s_3142_165 _ _ _ _ _ _ _ _ _ _ _ _ _ _ _ ?_
                      have w_83 := wr_rng (p1 + (-x_80))
                      refine ihP _ _ _ _ _ _ (by omega) hs_s_4 (MDi_s_4) (by first | omega | assumption) (by rw [show gp_I s_4 74 46 = gp_I s 74 46 by omega]; omega) (fun x_84 s_85 hs_86 hf_87 p_88 p_89 p_90 p_91 p_92 p_93 => ⟨_, rfl, ?_⟩)
                      have hf_94 : gF [76, 77, 78, 79, 80, 81] [15] s s_85 := gF.trans hf_s_4 hf_87 rfl rfl
                      have q_95 := (hf_87.2 74 46 rfl (fun _ => rfl)).1
                      have mo_96 : mOut s s_85 := mOut.trans mOut_s_4 p_90
                      refine ⟨fun h_97 => ?_, fun h_97 => ?_⟩
                      · exfalso; omega
                      · refine s_3142_188 _ _ _ _ _ _ _ _ _ _ _ _ _ _ ?_
                        refine ⟨fun h_98 => ?_, fun h_98 => ?_⟩
                        · refine s_3142_208 _ _ _ _ _ _ _ _ _ _ _ _ _ _ ?_
                          refine ⟨fun h_99 => ?_, fun h_99 => ?_⟩
                          · refine ⟨fun h_100 => ?_, fun h_100 => ?_⟩
                            · exfalso; omega
                            · refine s_3142_228 _ _ _ _ _ _ _ _ _ _ _ _ _ ?_
                              refine ⟨fun h_101 => ?_, fun h_101 => ?_⟩
                              · refine ⟨fun h_102 => ?_, fun h_102 => ?_⟩
                                · refine s_3142_242 _ _ _ _ _ _ _ _ _ _ _ _ ?_
                                  refine s_3142_247 _ _ _ _ _ _ _ _ _ _ _ _ _ ?_
                                  refine s_3142_249 _ _ _ _ _ _ _ _ _ _ _ _ _ ?_
                                  try rw [show gp_wr (v11_4 + 1) = v11_4 + 1 from gp_wr_id (by omega) (by omega)]
                                  exact ih_4 _ _ _ _ _ _ _ _ _ _ _ _ hs_86 hf_94 p_89 mo_96 (by omega) (by omega) (by omega) (by omega) (by first | rfl | omega) (by first | (refine bd_or (bd_le iv0_4 ?_) (bd_0 _); omega) | (refine bd_or (bd_le iv0_4 ?_) (bd_sh ?_ ?_ ?_) <;> omega) | (refine bd_le iv0_4 ?_; omega)) (by first | (refine bd_or (bd_le iv1_4 ?_) (bd_0 _); omega) | (refine bd_or (bd_le iv1_4 ?_) (bd_sh ?_ ?_ ?_) <;> omega) | (refine bd_le iv1_4 ?_; omega)) (by first | omega | assumption) (by first | omega | assumption) (by first | omega | assumption) (by omega)
                                · exfalso; omega
                              · refine s_3142_242 _ _ _ _ _ _ _ _ _ _ _ _ ?_
                                refine s_3142_247 _ _ _ _ _ _ _ _ _ _ _ _ _ ?_
                                refine s_3142_249 _ _ _ _ _ _ _ _ _ _ _ _ _ ?_
                                try rw [show gp_wr (v11_4 + 1) = v11_4 + 1 from gp_wr_id (by omega) (by omega)]
                                exact ih_4 _ _ _ _ _ _ _ _ _ _ _ _ hs_86 hf_94 p_89 mo_96 (by omega) (by omega) (by omega) (by omega) (by first | rfl | omega) (by first | (refine bd_or (bd_le iv0_4 ?_) (bd_0 _); omega) | (refine bd_or (bd_le iv0_4 ?_) (bd_sh ?_ ?_ ?_) <;> omega) | (refine bd_le iv0_4 ?_; omega)) (by first | (refine bd_or (bd_le iv1_4 ?_) (bd_0 _); omega) | (refine bd_or (bd_le iv1_4 ?_) (bd_sh ?_ ?_ ?_) <;> omega) | (refine bd_le iv1_4 ?_; omega)) (by first | omega | assumption) (by first | omega | assumption) (by first | omega | assumption) (by omega)
                          · refine s_3142_223 _ _ _ _ _ _ _ _ _ _ _ _ ?_
                            refine s_3142_228 _ _ _ _ _ _ _ _ _ _ _ _ _ ?_
                            refine ⟨fun h_103 => ?_, fun h_103 => ?_⟩
                            · refine ⟨fun h_104 => ?_, fun h_104 => ?_⟩
                              · refine s_3142_242 _ _ _ _ _ _ _ _ _ _ _ _ ?_
                                refine s_3142_247 _ _ _ _ _ _ _ _ _ _ _ _ _ ?_
                                refine s_3142_249 _ _ _ _ _ _ _ _ _ _ _ _ _ ?_
                                try rw [show gp_wr (v11_4 + 1) = v11_4 + 1 from gp_wr_id (by omega) (by omega)]
                                exact ih_4 _ _ _ _ _ _ _ _ _ _ _ _ hs_86 hf_94 p_89 mo_96 (by omega) (by omega) (by omega) (by omega) (by first | rfl | omega) (by first | (refine bd_or (bd_le iv0_4 ?_) (bd_0 _); omega) | (refine bd_or (bd_le iv0_4 ?_) (bd_sh ?_ ?_ ?_) <;> omega) | (refine bd_le iv0_4 ?_; omega)) (by first | (refine bd_or (bd_le iv1_4 ?_) (bd_0 _); omega) | (refine bd_or (bd_le iv1_4 ?_) (bd_sh ?_ ?_ ?_) <;> omega) | (refine bd_le iv1_4 ?_; omega)) (by first | omega | assumption) (by first | omega | assumption) (by first | omega | assumption) (by omega)
                              · exfalso; omega
                            · refine s_3142_242 _ _ _ _ _ _ _ _ _ _ _ _ ?_
                              refine s_3142_247 _ _ _ _ _ _ _ _ _ _ _ _ _ ?_
                              refine s_3142_249 _ _ _ _ _ _ _ _ _ _ _ _ _ ?_
                              try rw [show gp_wr (v11_4 + 1) = v11_4 + 1 from gp_wr_id (by omega) (by omega)]
                              exact ih_4 _ _ _ _ _ _ _ _ _ _ _ _ hs_86 hf_94 p_89 mo_96 (by omega) (by omega) (by omega) (by omega) (by first | rfl | omega) (by first | (refine bd_or (bd_le iv0_4 ?_) (bd_0 _); omega) | (refine bd_or (bd_le iv0_4 ?_) (bd_sh ?_ ?_ ?_) <;> omega) | (refine bd_le iv0_4 ?_; omega)) (by first | (refine bd_or (bd_le iv1_4 ?_) (bd_0 _); omega) | (refine bd_or (bd_le iv1_4 ?_) (bd_sh ?_ ?_ ?_) <;> omega) | (refine bd_le iv1_4 ?_; omega)) (by first | omega | assumption) (by first | omega | assumption) (by first | omega | assumption) (by omega)
                        · exfalso; omega
                  · refine s_3142_249 _ _ _ _ _ _ _ _ _ _ _ _ _ ?_
                    try rw [show gp_wr (v11_4 + 1) = v11_4 + 1 from gp_wr_id (by omega) (by omega)]
                    exact ih_4 _ _ _ _ _ _ _ _ _ _ _ _ hs_s_4 hf_s_4 MDi_s_4 mOut_s_4 (by omega) (by omega) (by omega) (by omega) (by first | rfl | omega) (by first | (refine bd_or (bd_le iv0_4 ?_) (bd_0 _); omega) | (refine bd_or (bd_le iv0_4 ?_) (bd_sh ?_ ?_ ?_) <;> omega) | (refine bd_le iv0_4 ?_; omega)) (by first | (refine bd_or (bd_le iv1_4 ?_) (bd_0 _); omega) | (refine bd_or (bd_le iv1_4 ?_) (bd_sh ?_ ?_ ?_) <;> omega) | (refine bd_le iv1_4 ?_; omega)) (by first | omega | assumption) (by first | omega | assumption) (by first | omega | assumption) (by omega)
            · refine s_3142_82 _ _ _ _ _ _ _ _ _ _ _ _ _ _ ?_
              have w_105 := gz_oi ((-1)) (by omega)
              have f_106 := mr74_46 hs_s_4
              try rw [show gp_wr ((gp_I s_4 74 46) - 1) = (gp_I s_4 74 46) - 1 from gp_wr_id (by omega) (by omega)]
              have w_107 := gz_oi ((gp_I s_4 74 46) - 1) (by omega)
              refine vm_isIn _ _ _ (fun x_108 p_109 p_110 => ⟨_, rfl, ?_⟩)
              have w_111 : BitVec.toInt (0#64) = 0 := by decide
              refine ⟨fun h_112 => ?_, fun h_112 => ?_⟩
              · refine s_3142_249 _ _ _ _ _ _ _ _ _ _ _ _ _ ?_
                try rw [show gp_wr (v11_4 + 1) = v11_4 + 1 from gp_wr_id (by omega) (by omega)]
                exact ih_4 _ _ _ _ _ _ _ _ _ _ _ _ hs_s_4 hf_s_4 MDi_s_4 mOut_s_4 (by omega) (by omega) (by omega) (by omega) (by first | rfl | omega) (by first | (refine bd_or (bd_le iv0_4 ?_) (bd_0 _); omega) | (refine bd_or (bd_le iv0_4 ?_) (bd_sh ?_ ?_ ?_) <;> omega) | (refine bd_le iv0_4 ?_; omega)) (by first | (refine bd_or (bd_le iv1_4 ?_) (bd_0 _); omega) | (refine bd_or (bd_le iv1_4 ?_) (bd_sh ?_ ?_ ?_) <;> omega) | (refine bd_le iv1_4 ?_; omega)) (by first | omega | assumption) (by first | omega | assumption) (by first | omega | assumption) (by omega)
              · refine vm_cellAt _ _ (by omega) (fun x_113 p_114 p_115 => ⟨_, rfl, ?_⟩)
                refine ⟨fun h_116 => ?_, fun h_116 => ?_⟩
                · refine s_3142_249 _ _ _ _ _ _ _ _ _ _ _ _ _ ?_
                  try rw [show gp_wr (v11_4 + 1) = v11_4 + 1 from gp_wr_id (by omega) (by omega)]
                  exact ih_4 _ _ _ _ _ _ _ _ _ _ _ _ hs_s_4 hf_s_4 MDi_s_4 mOut_s_4 (by omega) (by omega) (by omega) (by omega) (by first | rfl | omega) (by first | (refine bd_or (bd_le iv0_4 ?_) (bd_0 _); omega) | (refine bd_or (bd_le iv0_4 ?_) (bd_sh ?_ ?_ ?_) <;> omega) | (refine bd_le iv0_4 ?_; omega)) (by first | (refine bd_or (bd_le iv1_4 ?_) (bd_0 _); omega) | (refine bd_or (bd_le iv1_4 ?_) (bd_sh ?_ ?_ ?_) <;> omega) | (refine bd_le iv1_4 ?_; omega)) (by first | omega | assumption) (by first | omega | assumption) (by first | omega | assumption) (by omega)
                · have f_117 := mr74_15 hs_s_4
                  refine ⟨fun h_118 => ?_, fun h_118 => ?_⟩
                  · refine vm_with _ _ _ (by omega) (by omega) (fun m_119 p_120 => ⟨_, rfl, ?_⟩)
                    refine vm_with _ _ _ (by omega) (by omega) (fun m_121 p_122 => ⟨_, rfl, ?_⟩)
                    have hpm9 : (cl p0 v11_4 = 10 ∧ (-1) = v11_4 + 1) ∨ (cl p0 v11_4 = 11 ∧ (-1) = v11_4 - 1) → cl p0 (-1) ≤ 9 → pm m_121 (Int.toNat (gp_I s_4 74 46)) < pm p0 (Int.toNat (gp_I s_4 74 46)) := fun a b => by have h8 : m_121 = wt (wt p0 v11_4 0) (-1) (cl p0 v11_4) := (by subst_vars; rfl); rw [h8]; exact pm_step (by omega) (by omega) (by omega) rfl a b
                    have hpmA := hpm9 (by omega) (by omega)
                    rw [show gp_I s_4 74 46 = gp_I s 74 46 by omega] at hpmA
                    have jn165_125 : ∀ (j_124 : Int), ((-15) ≤ j_124 ∧ j_124 ≤ 15) → gs_E L (d + 6) 3142 165 [gp_r (some 74), gp_l p0, gp_n, gp_i p1, gp_l v4_4, gp_n, gp_l v6_4, gp_n, gp_i (gp_wr (v8_4 + j_11)), gp_i v9_4, gp_i v10_4, gp_i v11_4, gp_i x_7, gp_i (-1), gp_l m_121, gp_n, v16_4] [gp_i j_124, gp_i p1, gp_l m_121, gp_r (some 74)] s_4 K := by
                      intro j_124 hj_125
                      refine s_3142_165 _ _ _ _ _ _ _ _ _ _ _ _ _ _ _ ?_
                      have w_127 := wr_rng (p1 + j_124)
                      refine ihP _ _ _ _ _ _ (by omega) hs_s_4 (MDi_s_4) (by first | omega | assumption) (by rw [show gp_I s_4 74 46 = gp_I s 74 46 by omega]; omega) (fun x_128 s_129 hs_130 hf_131 p_132 p_133 p_134 p_135 p_136 p_137 => ⟨_, rfl, ?_⟩)
                      have hf_138 : gF [76, 77, 78, 79, 80, 81] [15] s s_129 := gF.trans hf_s_4 hf_131 rfl rfl
                      have q_139 := (hf_131.2 74 46 rfl (fun _ => rfl)).1
                      have mo_140 : mOut s s_129 := mOut.trans mOut_s_4 p_134
                      refine ⟨fun h_141 => ?_, fun h_141 => ?_⟩
                      · refine s_3142_188 _ _ _ _ _ _ _ _ _ _ _ _ _ _ ?_
                        refine ⟨fun h_142 => ?_, fun h_142 => ?_⟩
                        · exfalso; omega
                        · refine s_3142_208 _ _ _ _ _ _ _ _ _ _ _ _ _ _ ?_
                          refine ⟨fun h_143 => ?_, fun h_143 => ?_⟩
                          · refine ⟨fun h_144 => ?_, fun h_144 => ?_⟩
                            · refine s_3142_223 _ _ _ _ _ _ _ _ _ _ _ _ ?_
                              refine s_3142_228 _ _ _ _ _ _ _ _ _ _ _ _ _ ?_
                              refine ⟨fun h_145 => ?_, fun h_145 => ?_⟩
                              · refine ⟨fun h_146 => ?_, fun h_146 => ?_⟩
                                · exfalso; omega
                                · refine s_3142_247 _ _ _ _ _ _ _ _ _ _ _ _ _ ?_
                                  refine s_3142_249 _ _ _ _ _ _ _ _ _ _ _ _ _ ?_
                                  try rw [show gp_wr (v11_4 + 1) = v11_4 + 1 from gp_wr_id (by omega) (by omega)]
                                  exact ih_4 _ _ _ _ _ _ _ _ _ _ _ _ hs_130 hf_138 p_133 mo_140 (by omega) (by omega) (by omega) (by omega) (by first | rfl | omega) (by first | (refine bd_or (bd_le iv0_4 ?_) (bd_0 _); omega) | (refine bd_or (bd_le iv0_4 ?_) (bd_sh ?_ ?_ ?_) <;> omega) | (refine bd_le iv0_4 ?_; omega)) (by first | (refine bd_or (bd_le iv1_4 ?_) (bd_0 _); omega) | (refine bd_or (bd_le iv1_4 ?_) (bd_sh ?_ ?_ ?_) <;> omega) | (refine bd_le iv1_4 ?_; omega)) (by first | omega | assumption) (by first | omega | assumption) (by first | omega | assumption) (by omega)
                              · refine s_3142_242 _ _ _ _ _ _ _ _ _ _ _ _ ?_
                                refine s_3142_247 _ _ _ _ _ _ _ _ _ _ _ _ _ ?_
                                refine s_3142_249 _ _ _ _ _ _ _ _ _ _ _ _ _ ?_
                                try rw [show gp_wr (v11_4 + 1) = v11_4 + 1 from gp_wr_id (by omega) (by omega)]
                                exact ih_4 _ _ _ _ _ _ _ _ _ _ _ _ hs_130 hf_138 p_133 mo_140 (by omega) (by omega) (by omega) (by omega) (by first | rfl | omega) (by first | (refine bd_or (bd_le iv0_4 ?_) (bd_0 _); omega) | (refine bd_or (bd_le iv0_4 ?_) (bd_sh ?_ ?_ ?_) <;> omega) | (refine bd_le iv0_4 ?_; omega)) (by first | (refine bd_or (bd_le iv1_4 ?_) (bd_0 _); omega) | (refine bd_or (bd_le iv1_4 ?_) (bd_sh ?_ ?_ ?_) <;> omega) | (refine bd_le iv1_4 ?_; omega)) (by first | omega | assumption) (by first | omega | assumption) (by first | omega | assumption) (by omega)
                            · exfalso; omega
                          · refine s_3142_223 _ _ _ _ _ _ _ _ _ _ _ _ ?_
                            refine s_3142_228 _ _ _ _ _ _ _ _ _ _ _ _ _ ?_
                            refine ⟨fun h_147 => ?_, fun h_147 => ?_⟩
                            · refine ⟨fun h_148 => ?_, fun h_148 => ?_⟩
                              · exfalso; omega
                              · refine s_3142_247 _ _ _ _ _ _ _ _ _ _ _ _ _ ?_
                                refine s_3142_249 _ _ _ _ _ _ _ _ _ _ _ _ _ ?_
                                try rw [show gp_wr (v11_4 + 1) = v11_4 + 1 from gp_wr_id (by omega) (by omega)]
                                exact ih_4 _ _ _ _ _ _ _ _ _ _ _ _ hs_130 hf_138 p_133 mo_140 (by omega) (by omega) (by omega) (by omega) (by first | rfl | omega) (by first | (refine bd_or (bd_le iv0_4 ?_) (bd_0 _); omega) | (refine bd_or (bd_le iv0_4 ?_) (bd_sh ?_ ?_ ?_) <;> omega) | (refine bd_le iv0_4 ?_; omega)) (by first | (refine bd_or (bd_le iv1_4 ?_) (bd_0 _); omega) | (refine bd_or (bd_le iv1_4 ?_) (bd_sh ?_ ?_ ?_) <;> omega) | (refine bd_le iv1_4 ?_; omega)) (by first | omega | assumption) (by first | omega | assumption) (by first | omega | assumption) (by omega)
                            · refine s_3142_242 _ _ _ _ _ _ _ _ _ _ _ _ ?_
                              refine s_3142_247 _ _ _ _ _ _ _ _ _ _ _ _ _ ?_
                              refine s_3142_249 _ _ _ _ _ _ _ _ _ _ _ _ _ ?_
                              try rw [show gp_wr (v11_4 + 1) = v11_4 + 1 from gp_wr_id (by omega) (by omega)]
                              exact ih_4 _ _ _ _ _ _ _ _ _ _ _ _ hs_130 hf_138 p_133 mo_140 (by omega) (by omega) (by omega) (by omega) (by first | rfl | omega) (by first | (refine bd_or (bd_le iv0_4 ?_) (bd_0 _); omega) | (refine bd_or (bd_le iv0_4 ?_) (bd_sh ?_ ?_ ?_) <;> omega) | (refine bd_le iv0_4 ?_; omega)) (by first | (refine bd_or (bd_le iv1_4 ?_) (bd_0 _); omega) | (refine bd_or (bd_le iv1_4 ?_) (bd_sh ?_ ?_ ?_) <;> omega) | (refine bd_le iv1_4 ?_; omega)) (by first | omega | assumption) (by first | omega | assumption) (by first | omega | assumption) (by omega)
                      · refine s_3142_188 _ _ _ _ _ _ _ _ _ _ _ _ _ _ ?_
                        refine ⟨fun h_149 => ?_, fun h_149 => ?_⟩
                        · refine s_3142_208 _ _ _ _ _ _ _ _ _ _ _ _ _ _ ?_
                          refine ⟨fun h_150 => ?_, fun h_150 => ?_⟩
                          · refine ⟨fun h_151 => ?_, fun h_151 => ?_⟩
                            · exfalso; omega
                            · refine s_3142_228 _ _ _ _ _ _ _ _ _ _ _ _ _ ?_
                              refine ⟨fun h_152 => ?_, fun h_152 => ?_⟩
                              · refine ⟨fun h_153 => ?_, fun h_153 => ?_⟩
                                · refine s_3142_242 _ _ _ _ _ _ _ _ _ _ _ _ ?_
                                  refine s_3142_247 _ _ _ _ _ _ _ _ _ _ _ _ _ ?_
                                  refine s_3142_249 _ _ _ _ _ _ _ _ _ _ _ _ _ ?_
                                  try rw [show gp_wr (v11_4 + 1) = v11_4 + 1 from gp_wr_id (by omega) (by omega)]
                                  exact ih_4 _ _ _ _ _ _ _ _ _ _ _ _ hs_130 hf_138 p_133 mo_140 (by omega) (by omega) (by omega) (by omega) (by first | rfl | omega) (by first | (refine bd_or (bd_le iv0_4 ?_) (bd_0 _); omega) | (refine bd_or (bd_le iv0_4 ?_) (bd_sh ?_ ?_ ?_) <;> omega) | (refine bd_le iv0_4 ?_; omega)) (by first | (refine bd_or (bd_le iv1_4 ?_) (bd_0 _); omega) | (refine bd_or (bd_le iv1_4 ?_) (bd_sh ?_ ?_ ?_) <;> omega) | (refine bd_le iv1_4 ?_; omega)) (by first | omega | assumption) (by first | omega | assumption) (by first | omega | assumption) (by omega)
                                · exfalso; omega
                              · refine s_3142_242 _ _ _ _ _ _ _ _ _ _ _ _ ?_
                                refine s_3142_247 _ _ _ _ _ _ _ _ _ _ _ _ _ ?_
                                refine s_3142_249 _ _ _ _ _ _ _ _ _ _ _ _ _ ?_
                                try rw [show gp_wr (v11_4 + 1) = v11_4 + 1 from gp_wr_id (by omega) (by omega)]
                                exact ih_4 _ _ _ _ _ _ _ _ _ _ _ _ hs_130 hf_138 p_133 mo_140 (by omega) (by omega) (by omega) (by omega) (by first | rfl | omega) (by first | (refine bd_or (bd_le iv0_4 ?_) (bd_0 _); omega) | (refine bd_or (bd_le iv0_4 ?_) (bd_sh ?_ ?_ ?_) <;> omega) | (refine bd_le iv0_4 ?_; omega)) (by first | (refine bd_or (bd_le iv1_4 ?_) (bd_0 _); omega) | (refine bd_or (bd_le iv1_4 ?_) (bd_sh ?_ ?_ ?_) <;> omega) | (refine bd_le iv1_4 ?_; omega)) (by first | omega | assumption) (by first | omega | assumption) (by first | omega | assumption) (by omega)
                          · refine s_3142_223 _ _ _ _ _ _ _ _ _ _ _ _ ?_
                            refine s_3142_228 _ _ _ _ _ _ _ _ _ _ _ _ _ ?_
                            refine ⟨fun h_154 => ?_, fun h_154 => ?_⟩
                            · refine ⟨fun h_155 => ?_, fun h_155 => ?_⟩
                              · refine s_3142_242 _ _ _ _ _ _ _ _ _ _ _ _ ?_
                                refine s_3142_247 _ _ _ _ _ _ _ _ _ _ _ _ _ ?_
                                refine s_3142_249 _ _ _ _ _ _ _ _ _ _ _ _ _ ?_
                                try rw [show gp_wr (v11_4 + 1) = v11_4 + 1 from gp_wr_id (by omega) (by omega)]
                                exact ih_4 _ _ _ _ _ _ _ _ _ _ _ _ hs_130 hf_138 p_133 mo_140 (by omega) (by omega) (by omega) (by omega) (by first | rfl | omega) (by first | (refine bd_or (bd_le iv0_4 ?_) (bd_0 _); omega) | (refine bd_or (bd_le iv0_4 ?_) (bd_sh ?_ ?_ ?_) <;> omega) | (refine bd_le iv0_4 ?_; omega)) (by first | (refine bd_or (bd_le iv1_4 ?_) (bd_0 _); omega) | (refine bd_or (bd_le iv1_4 ?_) (bd_sh ?_ ?_ ?_) <;> omega) | (refine bd_le iv1_4 ?_; omega)) (by first | omega | assumption) (by first | omega | assumption) (by first | omega | assumption) (by omega)
                              · exfalso; omega
                            · refine s_3142_242 _ _ _ _ _ _ _ _ _ _ _ _ ?_
                              refine s_3142_247 _ _ _ _ _ _ _ _ _ _ _ _ _ ?_
                              refine s_3142_249 _ _ _ _ _ _ _ _ _ _ _ _ _ ?_
                              try rw [show gp_wr (v11_4 + 1) = v11_4 + 1 from gp_wr_id (by omega) (by omega)]
                              exact ih_4 _ _ _ _ _ _ _ _ _ _ _ _ hs_130 hf_138 p_133 mo_140 (by omega) (by omega) (by omega) (by omega) (by first | rfl | omega) (by first | (refine bd_or (bd_le iv0_4 ?_) (bd_0 _); omega) | (refine bd_or (bd_le iv0_4 ?_) (bd_sh ?_ ?_ ?_) <;> omega) | (refine bd_le iv0_4 ?_; omega)) (by first | (refine bd_or (bd_le iv1_4 ?_) (bd_0 _); omega) | (refine bd_or (bd_le iv1_4 ?_) (bd_sh ?_ ?_ ?_) <;> omega) | (refine bd_le iv1_4 ?_; omega)) (by first | omega | assumption) (by first | omega | assumption) (by first | omega | assumption) (by omega)
                        · refine s_3142_208 _ _ _ _ _ _ _ _ _ _ _ _ _ _ ?_
                          refine ⟨fun h_156 => ?_, fun h_156 => ?_⟩
                          · refine ⟨fun h_157 => ?_, fun h_157 => ?_⟩
                            · refine s_3142_223 _ _ _ _ _ _ _ _ _ _ _ _ ?_
                              refine s_3142_228 _ _ _ _ _ _ _ _ _ _ _ _ _ ?_
                              refine ⟨fun h_158 => ?_, fun h_158 => ?_⟩
                              · refine ⟨fun h_159 => ?_, fun h_159 => ?_⟩
                                · exfalso; omega
                                · refine s_3142_247 _ _ _ _ _ _ _ _ _ _ _ _ _ ?_
                                  refine s_3142_249 _ _ _ _ _ _ _ _ _ _ _ _ _ ?_
                                  try rw [show gp_wr (v11_4 + 1) = v11_4 + 1 from gp_wr_id (by omega) (by omega)]
                                  exact ih_4 _ _ _ _ _ _ _ _ _ _ _ _ hs_130 hf_138 p_133 mo_140 (by omega) (by omega) (by omega) (by omega) (by first | rfl | omega) (by first | (refine bd_or (bd_le iv0_4 ?_) (bd_0 _); omega) | (refine bd_or (bd_le iv0_4 ?_) (bd_sh ?_ ?_ ?_) <;> omega) | (refine bd_le iv0_4 ?_; omega)) (by first | (refine bd_or (bd_le iv1_4 ?_) (bd_0 _); omega) | (refine bd_or (bd_le iv1_4 ?_) (bd_sh ?_ ?_ ?_) <;> omega) | (refine bd_le iv1_4 ?_; omega)) (by first | omega | assumption) (by first | omega | assumption) (by first | omega | assumption) (by omega)
                              · refine s_3142_242 _ _ _ _ _ _ _ _ _ _ _ _ ?_
                                refine s_3142_247 _ _ _ _ _ _ _ _ _ _ _ _ _ ?_
                                refine s_3142_249 _ _ _ _ _ _ _ _ _ _ _ _ _ ?_
                                try rw [show gp_wr (v11_4 + 1) = v11_4 + 1 from gp_wr_id (by omega) (by omega)]
                                exact ih_4 _ _ _ _ _ _ _ _ _ _ _ _ hs_130 hf_138 p_133 mo_140 (by omega) (by omega) (by omega) (by omega) (by first | rfl | omega) (by first | (refine bd_or (bd_le iv0_4 ?_) (bd_0 _); omega) | (refine bd_or (bd_le iv0_4 ?_) (bd_sh ?_ ?_ ?_) <;> omega) | (refine bd_le iv0_4 ?_; omega)) (by first | (refine bd_or (bd_le iv1_4 ?_) (bd_0 _); omega) | (refine bd_or (bd_le iv1_4 ?_) (bd_sh ?_ ?_ ?_) <;> omega) | (refine bd_le iv1_4 ?_; omega)) (by first | omega | assumption) (by first | omega | assumption) (by first | omega | assumption) (by omega)
                            · refine s_3142_228 _ _ _ _ _ _ _ _ _ _ _ _ _ ?_
                              refine ⟨fun h_160 => ?_, fun h_160 => ?_⟩
                              · refine ⟨fun h_161 => ?_, fun h_161 => ?_⟩
                                · refine s_3142_242 _ _ _ _ _ _ _ _ _ _ _ _ ?_
                                  refine s_3142_247 _ _ _ _ _ _ _ _ _ _ _ _ _ ?_
                                  refine s_3142_249 _ _ _ _ _ _ _ _ _ _ _ _ _ ?_
                                  try rw [show gp_wr (v11_4 + 1) = v11_4 + 1 from gp_wr_id (by omega) (by omega)]
                                  exact ih_4 _ _ _ _ _ _ _ _ _ _ _ _ hs_130 hf_138 p_133 mo_140 (by omega) (by omega) (by omega) (by omega) (by first | rfl | omega) (by first | (refine bd_or (bd_le iv0_4 ?_) (bd_0 _); omega) | (refine bd_or (bd_le iv0_4 ?_) (bd_sh ?_ ?_ ?_) <;> omega) | (refine bd_le iv0_4 ?_; omega)) (by first | (refine bd_or (bd_le iv1_4 ?_) (bd_0 _); omega) | (refine bd_or (bd_le iv1_4 ?_) (bd_sh ?_ ?_ ?_) <;> omega) | (refine bd_le iv1_4 ?_; omega)) (by first | omega | assumption) (by first | omega | assumption) (by first | omega | assumption) (by omega)
                                · refine s_3142_247 _ _ _ _ _ _ _ _ _ _ _ _ _ ?_
                                  refine s_3142_249 _ _ _ _ _ _ _ _ _ _ _ _ _ ?_
                                  try rw [show gp_wr (v11_4 + 1) = v11_4 + 1 from gp_wr_id (by omega) (by omega)]
                                  exact ih_4 _ _ _ _ _ _ _ _ _ _ _ _ hs_130 hf_138 p_133 mo_140 (by omega) (by omega) (by omega) (by omega) (by first | rfl | omega) (by first | (refine bd_or (bd_le iv0_4 ?_) (bd_0 _); omega) | (refine bd_or (bd_le iv0_4 ?_) (bd_sh ?_ ?_ ?_) <;> omega) | (refine bd_le iv0_4 ?_; omega)) (by first | (refine bd_or (bd_le iv1_4 ?_) (bd_0 _); omega) | (refine bd_or (bd_le iv1_4 ?_) (bd_sh ?_ ?_ ?_) <;> omega) | (refine bd_le iv1_4 ?_; omega)) (by first | omega | assumption) (by first | omega | assumption) (by first | omega | assumption) (by omega)
                              · refine s_3142_242 _ _ _ _ _ _ _ _ _ _ _ _ ?_
                                refine s_3142_247 _ _ _ _ _ _ _ _ _ _ _ _ _ ?_
                                refine s_3142_249 _ _ _ _ _ _ _ _ _ _ _ _ _ ?_
                                try rw [show gp_wr (v11_4 + 1) = v11_4 + 1 from gp_wr_id (by omega) (by omega)]
                                exact ih_4 _ _ _ _ _ _ _ _ _ _ _ _ hs_130 hf_138 p_133 mo_140 (by omega) (by omega) (by omega) (by omega) (by first | rfl | omega) (by first | (refine bd_or (bd_le iv0_4 ?_) (bd_0 _); omega) | (refine bd_or (bd_le iv0_4 ?_) (bd_sh ?_ ?_ ?_) <;> omega) | (refine bd_le iv0_4 ?_; omega)) (by first | (refine bd_or (bd_le iv1_4 ?_) (bd_0 _); omega) | (refine bd_or (bd_le iv1_4 ?_) (bd_sh ?_ ?_ ?_) <;> omega) | (refine bd_le iv1_4 ?_; omega)) (by first | omega | assumption) (by first | omega | assumption) (by first | omega | assumption) (by omega)
                          · refine s_3142_223 _ _ _ _ _ _ _ _ _ _ _ _ ?_
                            refine s_3142_228 _ _ _ _ _ _ _ _ _ _ _ _ _ ?_
                            refine ⟨fun h_162 => ?_, fun h_162 => ?_⟩
                            · refine ⟨fun h_163 => ?_, fun h_163 => ?_⟩
                              · refine s_3142_242 _ _ _ _ _ _ _ _ _ _ _ _ ?_
                                refine s_3142_247 _ _ _ _ _ _ _ _ _ _ _ _ _ ?_
                                refine s_3142_249 _ _ _ _ _ _ _ _ _ _ _ _ _ ?_
                                try rw [show gp_wr (v11_4 + 1) = v11_4 + 1 from gp_wr_id (by omega) (by omega)]
                                exact ih_4 _ _ _ _ _ _ _ _ _ _ _ _ hs_130 hf_138 p_133 mo_140 (by omega) (by omega) (by omega) (by omega) (by first | rfl | omega) (by first | (refine bd_or (bd_le iv0_4 ?_) (bd_0 _); omega) | (refine bd_or (bd_le iv0_4 ?_) (bd_sh ?_ ?_ ?_) <;> omega) | (refine bd_le iv0_4 ?_; omega)) (by first | (refine bd_or (bd_le iv1_4 ?_) (bd_0 _); omega) | (refine bd_or (bd_le iv1_4 ?_) (bd_sh ?_ ?_ ?_) <;> omega) | (refine bd_le iv1_4 ?_; omega)) (by first | omega | assumption) (by first | omega | assumption) (by first | omega | assumption) (by omega)
                              · refine s_3142_247 _ _ _ _ _ _ _ _ _ _ _ _ _ ?_
                                refine s_3142_249 _ _ _ _ _ _ _ _ _ _ _ _ _ ?_
                                try rw [show gp_wr (v11_4 + 1) = v11_4 + 1 from gp_wr_id (by omega) (by omega)]
                                exact ih_4 _ _ _ _ _ _ _ _ _ _ _ _ hs_130 hf_138 p_133 mo_140 (by omega) (by omega) (by omega) (by omega) (by first | rfl | omega) (by first | (refine bd_or (bd_le iv0_4 ?_) (bd_0 _); omega) | (refine bd_or (bd_le iv0_4 ?_) (bd_sh ?_ ?_ ?_) <;> omega) | (refine bd_le iv0_4 ?_; omega)) (by first | (refine bd_or (bd_le iv1_4 ?_) (bd_0 _); omega) | (refine bd_or (bd_le iv1_4 ?_) (bd_sh ?_ ?_ ?_) <;> omega) | (refine bd_le iv1_4 ?_; omega)) (by first | omega | assumption) (by first | omega | assumption) (by first | omega | assumption) (by omega)
                            · refine s_3142_242 _ _ _ _ _ _ _ _ _ _ _ _ ?_
                              refine s_3142_247 _ _ _ _ _ _ _ _ _ _ _ _ _ ?_
                              refine s_3142_249 _ _ _ _ _ _ _ _ _ _ _ _ _ ?_
                              try rw [show gp_wr (v11_4 + 1) = v11_4 + 1 from gp_wr_id (by omega) (by omega)]
                              exact ih_4 _ _ _ _ _ _ _ _ _ _ _ _ hs_130 hf_138 p_133 mo_140 (by omega) (by omega) (by omega) (by omega) (by first | rfl | omega) (by first | (refine bd_or (bd_le iv0_4 ?_) (bd_0 _); omega) | (refine bd_or (bd_le iv0_4 ?_) (bd_sh ?_ ?_ ?_) <;> omega) | (refine bd_le iv0_4 ?_; omega)) (by first | (refine bd_or (bd_le iv1_4 ?_) (bd_0 _); omega) | (refine bd_or (bd_le iv1_4 ?_) (bd_sh ?_ ?_ ?_) <;> omega) | (refine bd_le iv1_4 ?_; omega)) (by first | omega | assumption) (by first | omega | assumption) (by first | omega | assumption) (by omega)
                    refine ⟨fun h_123 => ?_, fun h_123 => ?_⟩
                    · refine vm_cellAt _ _ (by omega) (fun x_164 p_165 p_166 => ⟨_, rfl, ?_⟩)
                      exact jn165_125 _ (by omega)
                    · refine vm_cellAt _ _ (by omega) (fun x_167 p_168 p_169 => ⟨_, rfl, ?_⟩)
                      try rw [show gp_wr (-x_167) = -x_167 from gp_wr_id (by omega) (by omega)]
                      exact jn165_125 _ (by omega)
                  · refine s_3142_249 _ _ _ _ _ _ _ _ _ _ _ _ _ ?_
                    try rw [show gp_wr (v11_4 + 1) = v11_4 + 1 from gp_wr_id (by omega) (by omega)]
                    exact ih_4 _ _ _ _ _ _ _ _ _ _ _ _ hs_s_4 hf_s_4 MDi_s_4 mOut_s_4 (by omega) (by omega) (by omega) (by omega) (by first | rfl | omega) (by first | (refine bd_or (bd_le iv0_4 ?_) (bd_0 _); omega) | (refine bd_or (bd_le iv0_4 ?_) (bd_sh ?_ ?_ ?_) <;> omega) | (refine bd_le iv0_4 ?_; omega)) (by first | (refine bd_or (bd_le iv1_4 ?_) (bd_0 _); omega) | (refine bd_or (bd_le iv1_4 ?_) (bd_sh ?_ ?_ ?_) <;> omega) | (refine bd_le iv1_4 ?_; omega)) (by first | omega | assumption) (by first | omega | assumption) (by first | omega | assumption) (by omega)
        refine ⟨fun h_10 => ?_, fun h_10 => ?_⟩
        · exact jn50_12 _ (by omega)
        · exact jn50_12 _ (by omega)
      · have f_170 := mr74_15 hs_s_4
        refine ⟨fun h_171 => ?_, fun h_171 => ?_⟩
        · refine ⟨fun h_172 => ?_, fun h_172 => ?_⟩
          · refine s_3142_278 _ _ _ _ _ _ _ _ _ _ _ _ _ _ ?_
            refine ⟨fun h_173 => ?_, fun h_173 => ?_⟩
            · refine s_3142_289 _ _ _ _ _ _ _ _ _ _ _ _ _ _ _ ?_
              have w_174 := wr_rng (p1 - v8_4)
              have w_175 := wr_rng (p1 + v8_4)
              refine vm_made _ _ _ _ hs_s_4 (MDi_s_4) (by first | exact iv0_4 | exact bd_0 _ | assumption) (by first | exact iv1_4 | exact bd_0 _ | assumption) (fun x_176 s_177 hs_178 hf_179 p_180 p_181 p_182 p_183 p_184 p_185 p_186 => ⟨_, rfl, ?_⟩)
              have hf_187 : gF [76, 77, 78, 79, 80, 81] [15] s s_177 := gF.trans hf_s_4 hf_179 rfl rfl
              have q_188 := (hf_179.2 74 46 rfl (fun _ => rfl)).1
              have mo_189 : mOut s s_177 := mOut.trans mOut_s_4 p_185
              refine s_3142_300 _ _ _ _ _ _ _ _ _ _ _ _ _ _ ?_
              exact k _ s_177 hs_178 hf_187 (by omega) (p_181) mo_189 (by first | omega | assumption) (by first | omega | assumption) (by first | omega | assumption)
            · refine s_3142_289 _ _ _ _ _ _ _ _ _ _ _ _ _ _ _ ?_
              have w_190 := wr_rng (p1 - v8_4)
              have w_191 := wr_rng (p1 + v8_4)
              refine vm_made _ _ _ _ hs_s_4 (MDi_s_4) (by first | exact iv0_4 | exact bd_0 _ | assumption) (by first | exact iv1_4 | exact bd_0 _ | assumption) (fun x_192 s_193 hs_194 hf_195 p_196 p_197 p_198 p_199 p_200 p_201 p_202 => ⟨_, rfl, ?_⟩)
              have hf_203 : gF [76, 77, 78, 79, 80, 81] [15] s s_193 := gF.trans hf_s_4 hf_195 rfl rfl
              have q_204 := (hf_195.2 74 46 rfl (fun _ => rfl)).1
              have mo_205 : mOut s s_193 := mOut.trans mOut_s_4 p_201
              refine s_3142_300 _ _ _ _ _ _ _ _ _ _ _ _ _ _ ?_
              exact k _ s_193 hs_194 hf_203 (by omega) (p_197) mo_205 (by first | omega | assumption) (by first | omega | assumption) (by first | omega | assumption)
          · refine s_3142_278 _ _ _ _ _ _ _ _ _ _ _ _ _ _ ?_
            refine ⟨fun h_206 => ?_, fun h_206 => ?_⟩
            · refine s_3142_289 _ _ _ _ _ _ _ _ _ _ _ _ _ _ _ ?_
              have w_207 := wr_rng (p1 - v8_4)
              have w_208 := wr_rng (p1 + v8_4)
              refine vm_made _ _ _ _ hs_s_4 (MDi_s_4) (by first | exact iv0_4 | exact bd_0 _ | assumption) (by first | exact iv1_4 | exact bd_0 _ | assumption) (fun x_209 s_210 hs_211 hf_212 p_213 p_214 p_215 p_216 p_217 p_218 p_219 => ⟨_, rfl, ?_⟩)
              have hf_220 : gF [76, 77, 78, 79, 80, 81] [15] s s_210 := gF.trans hf_s_4 hf_212 rfl rfl
              have q_221 := (hf_212.2 74 46 rfl (fun _ => rfl)).1
              have mo_222 : mOut s s_210 := mOut.trans mOut_s_4 p_218
              refine s_3142_300 _ _ _ _ _ _ _ _ _ _ _ _ _ _ ?_
              exact k _ s_210 hs_211 hf_220 (by omega) (p_214) mo_222 (by first | omega | assumption) (by first | omega | assumption) (by first | omega | assumption)
            · refine s_3142_289 _ _ _ _ _ _ _ _ _ _ _ _ _ _ _ ?_
              have w_223 := wr_rng (p1 - v8_4)
              have w_224 := wr_rng (p1 + v8_4)
              refine vm_made _ _ _ _ hs_s_4 (MDi_s_4) (by first | exact iv0_4 | exact bd_0 _ | assumption) (by first | exact iv1_4 | exact bd_0 _ | assumption) (fun x_225 s_226 hs_227 hf_228 p_229 p_230 p_231 p_232 p_233 p_234 p_235 => ⟨_, rfl, ?_⟩)
              have hf_236 : gF [76, 77, 78, 79, 80, 81] [15] s s_226 := gF.trans hf_s_4 hf_228 rfl rfl
              have q_237 := (hf_228.2 74 46 rfl (fun _ => rfl)).1
              have mo_238 : mOut s s_226 := mOut.trans mOut_s_4 p_234
              refine s_3142_300 _ _ _ _ _ _ _ _ _ _ _ _ _ _ ?_
              exact k _ s_226 hs_227 hf_236 (by omega) (p_230) mo_238 (by first | omega | assumption) (by first | omega | assumption) (by first | omega | assumption)
        · refine s_3142_300 _ _ _ _ _ _ _ _ _ _ _ _ _ _ ?_
          exact k _ s_4 hs_s_4 hf_s_4 (by omega) (MDi_s_4) mOut_s_4 (by first | omega | assumption) (by first | omega | assumption) (by first | omega | assumption)
  exact lp_4 _ _ _ _ _ _ _ _ _ _ _ _ _ hs (gF.refl _ _ _) q0 (mOut.refl _) (by omega) (by omega) (by omega) (by omega) (by first | rfl | omega) (bd_0 _) (bd_0 _) (by first | omega | assumption) (by first | omega | assumption) (by first | omega | assumption) (Nat.lt_succ_self _)
theorem PLW_all : ∀ m, PLW m
  | 0 => by intro L D K s; intros; omega
  | m + 1 => vm_played m (PLW_all m)
theorem vm_played65 {L d : Nat} {K : Option gV → gH → Prop} {s : gH} (p0 : BitVec 64) (p1 : Int) (hs : MI s) (q0 : MDi s) (q1 : gp_I s 74 15 ≠ 0 → 1 ≤ gp_I s 81 20) (k : ∀ (r : Int), ∀ (t : gH), MI t → gF [76, 77, 78, 79, 80, 81] [15] s t → (0 ≤ r ∧ r ≤ 63) → (MDi t) → (mOut s t) → (r < gp_I t 81 20) → (gp_I s 81 20 ≤ gp_I t 81 20) → (gp_I t 74 15 ≠ 0 → 1 ≤ gp_I t 81 20) → K (some (gp_i r)) t) : gs_C L (d + 71) 3142 17 [gp_r (some 74), gp_l p0, gp_i p1] s K := PLW_all 65 _ _ _ _ _ _ (by omega) hs q0 q1 (by have := pm_le p0 (mr74_46 hs).2; omega) k
set_option maxRecDepth 100000 in
/-- GatheredPointsModel.strip -/
theorem wp_strip  {L d : Nat} {K : Option gV → gH → Prop} {s : gH}  (p0 : Int) (hs : MI s) (h_p0 : (-2147483648) ≤ p0 ∧ p0 ≤ 2147483647)  (k : ∀ (r : Int), ∀ (t : gH), MI t → gF [75, 76, 77, 78, 79, 80, 81, 86, 87, 88] [11, 15, 46] s t → (mK s t) → (0 ≤ p0 ∧ p0 ≤ 7 → gp_I t 74 11 = 0) → (p0 < 0 ∨ 7 < p0 → gp_I t 74 11 = gp_I s 74 11) → K (some (gp_i r)) t) : gs_C L (d + 186) 3143 8 [gp_r (some 74), gp_i p0] s K := by
  have f_1 := mr81 hs 20
  have f_2 := mr81 hs 19
  have f_3 := mr74_15 hs
  have f_4 := mr74_11 hs
  refine s_3143_e _ ?_
  refine vm_isSlot _ (fun x_5 p_6 p_7 p_8 => ⟨_, rfl, ?_⟩)
  refine ⟨fun h_9 => ?_, fun h_9 => ?_⟩
  · refine vm_finds _ hs (by omega) (fun x_10 s_11 hs_12 hf_13 p_14 p_15 => ⟨_, rfl, ?_⟩)
    have hf_16 : gF [75, 76, 77, 78, 79, 80, 81, 86, 87, 88] [11, 15, 46] s s_11 := gF.sub hf_13 rfl rfl
    have mb_17 : mK s s_11 := mK_fr (mK.refl _) hf_13 rfl
    have q_18 := (hf_13.2 81 20 rfl (fun h => absurd h (by decide))).1
    have q_19 := (hf_13.2 81 19 rfl (fun h => absurd h (by decide))).1
    have q_20 := (hf_13.2 74 15 rfl (fun _ => rfl)).1
    have q_21 := (hf_13.2 74 11 rfl (fun _ => rfl)).1
    exact k _ s_11 hs_12 hf_16 mb_17 (by first | omega | assumption) (by first | omega | assumption)
  · have f_22 := mr74_11 hs
    intro s_23 e_24
    have hs_25 : MI s_23 := by rw [e_24]; exact mw74_11 hs _ (by omega)
    have hf_26 : gF [75, 76, 77, 78, 79, 80, 81, 86, 87, 88] [11, 15, 46] s s_23 := by rw [e_24]; exact gF.wI (gF.refl _ _ _) (Or.inr ⟨rfl, rfl⟩)
    have q_27 : gp_I s_23 81 20 = gp_I s 81 20 := by rw [e_24] <;> rfl
    have q_28 : gp_I s_23 81 19 = gp_I s 81 19 := by rw [e_24] <;> rfl
    have q_29 : gp_I s_23 74 15 = gp_I s 74 15 := by rw [e_24] <;> rfl
    have q_30 : gp_I s_23 74 11 = 0 := by rw [e_24]; exact (gz_rw _ _ _ _ _).1 rfl
    have mb_31 : mK s s_23 := by rw [e_24]; exact mK_wI (mK.refl _) (by decide)
    have lp_32 : ∀ (n_32 : Nat) (v3_32 : BitVec 64) (v5_32 : Int) (v6_32 : gV) (v7_32 : gV), (0 ≤ v5_32 ∧ v5_32 ≤ 8) → (v5_32 = 0 ∨ 1 ≤ (gp_I s 74 11)) → (9 - v5_32).toNat < n_32 → gs_E L (d + 186) 3143 28 [gp_r (some 74), gp_i p0, gp_i (gp_I s 74 11), gp_l v3_32, gp_n, gp_i v5_32, v6_32, v7_32] [] s_23 K := by
      intro n_32
      induction n_32 with
      | zero => intro v3_32 v5_32 v6_32 v7_32 hv5_32 iv0_32 hm_32; exact absurd hm_32 (Nat.not_lt_zero _)
      | succ n_32 ih_32 =>
        intro v3_32 v5_32 v6_32 v7_32 hv5_32 iv0_32 hm_32
        refine s_3143_28 _ _ _ _ _ _ ?_
        refine ⟨fun h_33 => ?_, fun h_33 => ?_⟩
        · refine s_3143_39 _ _ _ _ _ _ ?_
          refine ⟨fun h_34 => ?_, fun h_34 => ?_⟩
          · refine ⟨by omega, ?_⟩
            have f_35 := mr82 hs_25 (Int.toNat v5_32)
            refine s_3143_56 _ _ _ _ _ _ _ ?_
            refine ⟨fun h_36 => ?_, fun h_36 => ?_⟩
            · refine s_3143_86 _ _ _ _ _ _ ?_
              refine s_3143_91 _ _ _ _ _ _ _ ?_
              refine ⟨fun h_37 => ?_, fun h_37 => ?_⟩
              · exfalso; omega
              · refine ⟨fun h_38 => ?_, fun h_38 => ?_⟩
                · refine s_3143_105 _ _ _ _ _ _ ?_
                  try rw [show gp_wr ((-10) - v5_32) = (-10) - v5_32 from gp_wr_id (by omega) (by omega)]
                  exact k _ s_23 hs_25 hf_26 mb_31 (by first | omega | assumption) (by first | omega | assumption)
                · refine ⟨fun h_39 => ?_, fun h_39 => ?_⟩
                  · refine s_3143_143 _ _ _ _ _ _ _ _ _ ?_
                    refine vm_with _ _ _ (by omega) (by omega) (fun m_40 p_41 => ⟨_, rfl, ?_⟩)
                    try rw [show gp_wr (v5_32 + 1) = v5_32 + 1 from gp_wr_id (by omega) (by omega)]
                    exact ih_32 _ _ _ _ (by omega) (by first | omega | assumption) (by omega)
                  · exfalso; omega
            · refine ⟨fun h_42 => ?_, fun h_42 => ?_⟩
              · refine s_3143_86 _ _ _ _ _ _ ?_
                refine s_3143_91 _ _ _ _ _ _ _ ?_
                refine ⟨fun h_43 => ?_, fun h_43 => ?_⟩
                · exfalso; omega
                · refine ⟨fun h_44 => ?_, fun h_44 => ?_⟩
                  · refine s_3143_105 _ _ _ _ _ _ ?_
                    try rw [show gp_wr ((-10) - v5_32) = (-10) - v5_32 from gp_wr_id (by omega) (by omega)]
                    exact k _ s_23 hs_25 hf_26 mb_31 (by first | omega | assumption) (by first | omega | assumption)
                  · refine ⟨fun h_45 => ?_, fun h_45 => ?_⟩
                    · exfalso; omega
                    · refine ⟨fun h_46 => ?_, fun h_46 => ?_⟩
                      · refine s_3143_143 _ _ _ _ _ _ _ _ _ ?_
                        refine vm_with _ _ _ (by omega) (by omega) (fun m_47 p_48 => ⟨_, rfl, ?_⟩)
                        try rw [show gp_wr (v5_32 + 1) = v5_32 + 1 from gp_wr_id (by omega) (by omega)]
                        exact ih_32 _ _ _ _ (by omega) (by first | omega | assumption) (by omega)
                      · exfalso; omega
              · refine ⟨fun h_49 => ?_, fun h_49 => ?_⟩
                · refine s_3143_90 _ _ _ _ _ _ ?_
                  refine s_3143_91 _ _ _ _ _ _ _ ?_
                  refine ⟨fun h_50 => ?_, fun h_50 => ?_⟩
                  · refine s_3143_105 _ _ _ _ _ _ ?_
                    try rw [show gp_wr ((-10) - v5_32) = (-10) - v5_32 from gp_wr_id (by omega) (by omega)]
                    exact k _ s_23 hs_25 hf_26 mb_31 (by first | omega | assumption) (by first | omega | assumption)
                  · exfalso; omega
                · refine ⟨fun h_51 => ?_, fun h_51 => ?_⟩
                  · refine s_3143_90 _ _ _ _ _ _ ?_
                    refine s_3143_91 _ _ _ _ _ _ _ ?_
                    refine ⟨fun h_52 => ?_, fun h_52 => ?_⟩
                    · refine s_3143_105 _ _ _ _ _ _ ?_
                      try rw [show gp_wr ((-10) - v5_32) = (-10) - v5_32 from gp_wr_id (by omega) (by omega)]
                      exact k _ s_23 hs_25 hf_26 mb_31 (by first | omega | assumption) (by first | omega | assumption)
                    · exfalso; omega
                  · refine s_3143_86 _ _ _ _ _ _ ?_
                    refine s_3143_91 _ _ _ _ _ _ _ ?_
                    refine ⟨fun h_53 => ?_, fun h_53 => ?_⟩
                    · exfalso; omega
                    · refine ⟨fun h_54 => ?_, fun h_54 => ?_⟩
                      · refine s_3143_105 _ _ _ _ _ _ ?_
                        try rw [show gp_wr ((-10) - v5_32) = (-10) - v5_32 from gp_wr_id (by omega) (by omega)]
                        exact k _ s_23 hs_25 hf_26 mb_31 (by first | omega | assumption) (by first | omega | assumption)
                      · refine ⟨fun h_55 => ?_, fun h_55 => ?_⟩
                        · exfalso; omega
                        · refine ⟨fun h_56 => ?_, fun h_56 => ?_⟩
                          · exfalso; omega
                          · try rw [show gp_wr ((gp_I s_23 82 (Int.toNat v5_32)) - 48) = (gp_I s_23 82 (Int.toNat v5_32)) - 48 from gp_wr_id (by omega) (by omega)]
                            refine s_3143_143 _ _ _ _ _ _ _ _ _ ?_
                            refine vm_with _ _ _ (by omega) (by omega) (fun m_57 p_58 => ⟨_, rfl, ?_⟩)
                            try rw [show gp_wr (v5_32 + 1) = v5_32 + 1 from gp_wr_id (by omega) (by omega)]
                            exact ih_32 _ _ _ _ (by omega) (by first | omega | assumption) (by omega)
          · refine s_3143_56 _ _ _ _ _ _ _ ?_
            refine ⟨fun h_59 => ?_, fun h_59 => ?_⟩
            · exfalso; omega
            · refine ⟨fun h_60 => ?_, fun h_60 => ?_⟩
              · exfalso; omega
              · refine ⟨fun h_61 => ?_, fun h_61 => ?_⟩
                · refine s_3143_90 _ _ _ _ _ _ ?_
                  refine s_3143_91 _ _ _ _ _ _ _ ?_
                  refine ⟨fun h_62 => ?_, fun h_62 => ?_⟩
                  · refine s_3143_105 _ _ _ _ _ _ ?_
                    try rw [show gp_wr ((-10) - v5_32) = (-10) - v5_32 from gp_wr_id (by omega) (by omega)]
                    exact k _ s_23 hs_25 hf_26 mb_31 (by first | omega | assumption) (by first | omega | assumption)
                  · exfalso; omega
                · exfalso; omega
        · refine ⟨fun h_63 => ?_, fun h_63 => ?_⟩
          · refine s_3143_39 _ _ _ _ _ _ ?_
            refine ⟨fun h_64 => ?_, fun h_64 => ?_⟩
            · refine ⟨by omega, ?_⟩
              have f_65 := mr82 hs_25 (Int.toNat v5_32)
              refine s_3143_56 _ _ _ _ _ _ _ ?_
              refine ⟨fun h_66 => ?_, fun h_66 => ?_⟩
              · refine s_3143_86 _ _ _ _ _ _ ?_
                refine s_3143_91 _ _ _ _ _ _ _ ?_
                refine ⟨fun h_67 => ?_, fun h_67 => ?_⟩
                · exfalso; omega
                · refine ⟨fun h_68 => ?_, fun h_68 => ?_⟩
                  · exfalso; omega
                  · refine ⟨fun h_69 => ?_, fun h_69 => ?_⟩
                    · refine s_3143_143 _ _ _ _ _ _ _ _ _ ?_
                      refine vm_with _ _ _ (by omega) (by omega) (fun m_70 p_71 => ⟨_, rfl, ?_⟩)
                      try rw [show gp_wr (v5_32 + 1) = v5_32 + 1 from gp_wr_id (by omega) (by omega)]
                      exact ih_32 _ _ _ _ (by omega) (by first | omega | assumption) (by omega)
                    · exfalso; omega
              · refine ⟨fun h_72 => ?_, fun h_72 => ?_⟩
                · refine s_3143_86 _ _ _ _ _ _ ?_
                  refine s_3143_91 _ _ _ _ _ _ _ ?_
                  refine ⟨fun h_73 => ?_, fun h_73 => ?_⟩
                  · exfalso; omega
                  · refine ⟨fun h_74 => ?_, fun h_74 => ?_⟩
                    · exfalso; omega
                    · refine ⟨fun h_75 => ?_, fun h_75 => ?_⟩
                      · exfalso; omega
                      · refine ⟨fun h_76 => ?_, fun h_76 => ?_⟩
                        · refine s_3143_143 _ _ _ _ _ _ _ _ _ ?_
                          refine vm_with _ _ _ (by omega) (by omega) (fun m_77 p_78 => ⟨_, rfl, ?_⟩)
                          try rw [show gp_wr (v5_32 + 1) = v5_32 + 1 from gp_wr_id (by omega) (by omega)]
                          exact ih_32 _ _ _ _ (by omega) (by first | omega | assumption) (by omega)
                        · exfalso; omega
                · refine ⟨fun h_79 => ?_, fun h_79 => ?_⟩
                  · refine s_3143_90 _ _ _ _ _ _ ?_
                    refine s_3143_91 _ _ _ _ _ _ _ ?_
                    refine ⟨fun h_80 => ?_, fun h_80 => ?_⟩
                    · refine s_3143_105 _ _ _ _ _ _ ?_
                      try rw [show gp_wr ((-10) - v5_32) = (-10) - v5_32 from gp_wr_id (by omega) (by omega)]
                      exact k _ s_23 hs_25 hf_26 mb_31 (by first | omega | assumption) (by first | omega | assumption)
                    · exfalso; omega
                  · refine ⟨fun h_81 => ?_, fun h_81 => ?_⟩
                    · refine s_3143_90 _ _ _ _ _ _ ?_
                      refine s_3143_91 _ _ _ _ _ _ _ ?_
                      refine ⟨fun h_82 => ?_, fun h_82 => ?_⟩
                      · refine s_3143_105 _ _ _ _ _ _ ?_
                        try rw [show gp_wr ((-10) - v5_32) = (-10) - v5_32 from gp_wr_id (by omega) (by omega)]
                        exact k _ s_23 hs_25 hf_26 mb_31 (by first | omega | assumption) (by first | omega | assumption)
                      · exfalso; omega
                    · refine s_3143_86 _ _ _ _ _ _ ?_
                      refine s_3143_91 _ _ _ _ _ _ _ ?_
                      refine ⟨fun h_83 => ?_, fun h_83 => ?_⟩
                      · exfalso; omega
                      · refine ⟨fun h_84 => ?_, fun h_84 => ?_⟩
                        · exfalso; omega
                        · refine ⟨fun h_85 => ?_, fun h_85 => ?_⟩
                          · exfalso; omega
                          · refine ⟨fun h_86 => ?_, fun h_86 => ?_⟩
                            · exfalso; omega
                            · try rw [show gp_wr ((gp_I s_23 82 (Int.toNat v5_32)) - 48) = (gp_I s_23 82 (Int.toNat v5_32)) - 48 from gp_wr_id (by omega) (by omega)]
                              refine s_3143_143 _ _ _ _ _ _ _ _ _ ?_
                              refine vm_with _ _ _ (by omega) (by omega) (fun m_87 p_88 => ⟨_, rfl, ?_⟩)
                              try rw [show gp_wr (v5_32 + 1) = v5_32 + 1 from gp_wr_id (by omega) (by omega)]
                              exact ih_32 _ _ _ _ (by omega) (by first | omega | assumption) (by omega)
            · refine s_3143_56 _ _ _ _ _ _ _ ?_
              refine ⟨fun h_89 => ?_, fun h_89 => ?_⟩
              · exfalso; omega
              · refine ⟨fun h_90 => ?_, fun h_90 => ?_⟩
                · exfalso; omega
                · refine ⟨fun h_91 => ?_, fun h_91 => ?_⟩
                  · refine s_3143_90 _ _ _ _ _ _ ?_
                    refine s_3143_91 _ _ _ _ _ _ _ ?_
                    refine ⟨fun h_92 => ?_, fun h_92 => ?_⟩
                    · refine s_3143_105 _ _ _ _ _ _ ?_
                      try rw [show gp_wr ((-10) - v5_32) = (-10) - v5_32 from gp_wr_id (by omega) (by omega)]
                      exact k _ s_23 hs_25 hf_26 mb_31 (by first | omega | assumption) (by first | omega | assumption)
                    · exfalso; omega
                  · exfalso; omega
          · intro s_93 e_94
            have hs_95 : MI s_93 := by rw [e_94]; exact mw74_46 hs_25 _ (by omega)
            have hf_96 : gF [75, 76, 77, 78, 79, 80, 81, 86, 87, 88] [11, 15, 46] s s_93 := by rw [e_94]; exact gF.wI hf_26 (Or.inr ⟨rfl, rfl⟩)
            have q_97 : gp_I s_93 81 20 = gp_I s_23 81 20 := by rw [e_94] <;> rfl
            have q_98 : gp_I s_93 81 19 = gp_I s_23 81 19 := by rw [e_94] <;> rfl
            have q_99 : gp_I s_93 74 15 = gp_I s_23 74 15 := by rw [e_94] <;> rfl
            have q_100 : gp_I s_93 74 11 = gp_I s_23 74 11 := by rw [e_94] <;> rfl
            have mb_101 : mK s s_93 := by rw [e_94]; exact mK_wI mb_31 (by decide)
            refine vm_begins2 hs_95 (fun s_102 hs_103 hf_104 p_105 p_106 p_107 p_108 => ⟨rfl, ?_⟩)
            have hf_109 : gF [75, 76, 77, 78, 79, 80, 81, 86, 87, 88] [11, 15, 46] s s_102 := gF.trans hf_96 hf_104 rfl rfl
            have q_110 := (hf_104.2 74 11 rfl (fun _ => rfl)).1
            have mb_111 : mK s s_102 := mK.trans mb_101 (mK_o p_108)
            have q_112 := p_108.1 19 (by omega)
            refine vm_played65 _ _ hs_103 (p_107) (by first | omega | assumption) (fun x_113 s_114 hs_115 hf_116 p_117 p_118 p_119 p_120 p_121 p_122 => ⟨_, rfl, ?_⟩)
            have hf_123 : gF [75, 76, 77, 78, 79, 80, 81, 86, 87, 88] [11, 15, 46] s s_114 := gF.trans hf_109 hf_116 rfl rfl
            have q_124 := (hf_116.2 74 11 rfl (fun _ => rfl)).1
            have mb_125 : mK s s_114 := mK.trans mb_111 (mK_o p_119)
            have q_126 := p_119.1 19 (by omega)
            refine vm_results _ hs_115 (by omega) (p_118) (by first | omega | assumption) (fun x_127 s_128 hs_129 hf_130 p_131 p_132 p_133 p_134 p_135 => ⟨_, rfl, ?_⟩)
            have hf_136 : gF [75, 76, 77, 78, 79, 80, 81, 86, 87, 88] [11, 15, 46] s s_128 := gF.trans hf_123 hf_130 rfl rfl
            have q_137 := (hf_130.2 74 15 rfl (fun _ => rfl)).1
            have q_138 := (hf_130.2 74 11 rfl (fun _ => rfl)).1
            have mb_139 : mK s s_128 := mK.trans mb_125 p_135
            refine ⟨fun h_140 => ?_, fun h_140 => ?_⟩
            · refine vm_finds _ hs_129 (by omega) (fun x_141 s_142 hs_143 hf_144 p_145 p_146 => ⟨_, rfl, ?_⟩)
              have hf_147 : gF [75, 76, 77, 78, 79, 80, 81, 86, 87, 88] [11, 15, 46] s s_142 := gF.trans hf_136 hf_144 rfl rfl
              have mb_148 : mK s s_142 := mK_fr mb_139 hf_144 rfl
              have q_149 := (hf_144.2 81 20 rfl (fun h => absurd h (by decide))).1
              have q_150 := (hf_144.2 81 19 rfl (fun h => absurd h (by decide))).1
              have q_151 := (hf_144.2 74 15 rfl (fun _ => rfl)).1
              have q_152 := (hf_144.2 74 11 rfl (fun _ => rfl)).1
              refine s_3143_193 _ _ _ _ _ _ _ ?_
              exact k _ s_142 hs_143 hf_147 mb_148 (by first | omega | assumption) (by first | omega | assumption)
            · refine vm_holds _ hs_129 (by omega) (by first | omega | assumption) (fun x_153 s_154 hs_155 hf_156 p_157 p_158 p_159 => ⟨_, rfl, ?_⟩)
              have hf_160 : gF [75, 76, 77, 78, 79, 80, 81, 86, 87, 88] [11, 15, 46] s s_154 := gF.trans hf_136 hf_156 rfl rfl
              have q_161 := (hf_156.2 74 15 rfl (fun _ => rfl)).1
              have q_162 := (hf_156.2 74 11 rfl (fun _ => rfl)).1
              have mb_163 : mK s s_154 := mK.trans mb_139 p_159
              refine s_3143_193 _ _ _ _ _ _ _ ?_
              exact k _ s_154 hs_155 hf_160 mb_163 (by first | omega | assumption) (by first | omega | assumption)
    exact lp_32 _ _ _ _ _ (by omega) (by first | omega | assumption) (Nat.lt_succ_self _)
set_option maxRecDepth 100000 in
/-- GatheredPointsModel.feed -/
theorem wp_feed  {L d : Nat} {K : Option gV → gH → Prop} {s : gH}  (p0 : BitVec 64) (p1 : Int) (hs : MI s) (h_p1 : (-2147483648) ≤ p1 ∧ p1 ≤ 2147483647)  (k : ∀ (r : Int), ∀ (t : gH), MI t → gF [75, 82] [11] s t → (1 ≤ p1 ∧ p1 ≤ 8 ∧ gp_I s 74 11 + p1 ≤ 100 → r = gp_I s 74 11 + p1 ∧ gp_I t 74 11 = gp_I s 74 11 + p1) → (¬ (1 ≤ p1 ∧ p1 ≤ 8) → r = -1000000001 ∧ gp_I t 74 11 = gp_I s 74 11) → (1 ≤ p1 ∧ p1 ≤ 8 ∧ 100 < gp_I s 74 11 + p1 → r = -1000000004 ∧ gp_I t 74 11 = gp_I s 74 11) → K (some (gp_i r)) t) : gs_C L (d + 1) 3124 5 [gp_r (some 74), gp_l p0, gp_i p1] s K := by
  have f_1 := mr74_11 hs
  refine s_3124_e _ _ ?_
  have w_2 := gz_oi (p1) (by omega)
  refine vm_isIn _ _ _ (fun x_3 p_4 p_5 => ⟨_, rfl, ?_⟩)
  have w_6 : BitVec.toInt (1#64) = 1 := by decide
  have w_7 : BitVec.toInt (BitVec.ofInt 64 8) = 8 := by decide
  refine ⟨fun h_8 => ?_, fun h_8 => ?_⟩
  · refine vm_finds _ hs (by omega) (fun x_9 s_10 hs_11 hf_12 p_13 p_14 => ⟨_, rfl, ?_⟩)
    have hf_15 : gF [75, 82] [11] s s_10 := gF.sub hf_12 rfl rfl
    have q_16 := (hf_12.2 74 11 rfl (fun _ => rfl)).1
    exact k _ s_10 hs_11 hf_15 (by first | omega | assumption) (by first | omega | assumption) (by first | omega | assumption)
  · have f_17 := mr74_11 hs
    try rw [show gp_wr ((gp_I s 74 11) + p1) = (gp_I s 74 11) + p1 from gp_wr_id (by omega) (by omega)]
    refine ⟨fun h_18 => ?_, fun h_18 => ?_⟩
    · refine vm_finds _ hs (by omega) (fun x_19 s_20 hs_21 hf_22 p_23 p_24 => ⟨_, rfl, ?_⟩)
      have hf_25 : gF [75, 82] [11] s s_20 := gF.sub hf_22 rfl rfl
      have q_26 := (hf_22.2 74 11 rfl (fun _ => rfl)).1
      exact k _ s_20 hs_21 hf_25 (by first | omega | assumption) (by first | omega | assumption) (by first | omega | assumption)
    · have lp_27 : ∀ (n_27 : Nat) (v4_27 : Int) (s_27 : gH), (MI s_27) → (gF [75, 82] [11] s s_27) → (0 ≤ v4_27 ∧ v4_27 ≤ 8) → (gp_I s_27 74 11 = gp_I s 74 11 + v4_27) → (v4_27 ≤ p1) → (9 - v4_27).toNat < n_27 → gs_E L (d + 1) 3124 38 [gp_r (some 74), gp_l p0, gp_n, gp_i p1, gp_i v4_27] [] s_27 K := by
        intro n_27
        induction n_27 with
        | zero => intro v4_27 s_27 hs_s_27 hf_s_27 hv4_27 iv0_27 iv1_27 hm_27; exact absurd hm_27 (Nat.not_lt_zero _)
        | succ n_27 ih_27 =>
          intro v4_27 s_27 hs_s_27 hf_s_27 hv4_27 iv0_27 iv1_27 hm_27
          refine s_3124_38 _ _ _ ?_
          refine ⟨fun h_28 => ?_, fun h_28 => ?_⟩
          · have f_29 := mr74_11 hs_s_27
            try rw [show gp_wr (8 * v4_27) = 8 * v4_27 from gp_wr_id (by omega) (by omega)]
            have w_30 := wr_rng (((p0.sshiftRight (Int.toNat ((8 * v4_27) % 64))) &&& (BitVec.ofInt 64 255)).toInt)
            have hby : 0 ≤ (gp_wr ((p0.sshiftRight (Int.toNat ((8 * v4_27) % 64))) &&& (BitVec.ofInt 64 255)).toInt) ∧ (gp_wr ((p0.sshiftRight (Int.toNat ((8 * v4_27) % 64))) &&& (BitVec.ofInt 64 255)).toInt) ≤ 255 := wr255 _
            refine ⟨by omega, ?_⟩
            intro s_31 e_32
            have hs_33 : MI s_31 := by rw [e_32]; exact mw82 hs_s_27 _ _ (by omega)
            have hf_34 : gF [75, 82] [11] s s_31 := by rw [e_32]; exact gF.wI hf_s_27 (Or.inl rfl)
            have q_35 : gp_I s_31 74 11 = gp_I s_27 74 11 := by rw [e_32] <;> rfl
            have f_36 := mr74_11 hs_33
            try rw [show gp_wr ((gp_I s_31 74 11) + 1) = (gp_I s_31 74 11) + 1 from gp_wr_id (by omega) (by omega)]
            intro s_37 e_38
            have hs_39 : MI s_37 := by rw [e_38]; exact mw74_11 hs_33 _ (by omega)
            have hf_40 : gF [75, 82] [11] s s_37 := by rw [e_38]; exact gF.wI hf_34 (Or.inr ⟨rfl, rfl⟩)
            have q_41 : gp_I s_37 74 11 = (gp_I s_31 74 11) + 1 := by rw [e_38]; exact (gz_rw _ _ _ _ _).1 rfl
            try rw [show gp_wr (v4_27 + 1) = v4_27 + 1 from gp_wr_id (by omega) (by omega)]
            exact ih_27 _ _ hs_39 hf_40 (by omega) (by first | omega | assumption) (by first | omega | assumption) (by omega)
          · have f_42 := mr74_11 hs_s_27
            exact k _ s_27 hs_s_27 hf_s_27 (by first | omega | assumption) (by first | omega | assumption) (by first | omega | assumption)
      exact lp_27 _ _ _ hs (gF.refl _ _ _) (by omega) (by first | omega | assumption) (by first | omega | assumption) (Nat.lt_succ_self _)
