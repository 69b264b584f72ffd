/-! ladders: the reference -/
def CLM (s : gH) (p : Int) : BitVec 64 := clo (fun k => mL s k ||| mR s k) p.toNat (1#64 <<< Int.toNat (p % 64))
theorem CLM_fr {m f : List Nat} {s t : gH} (h : gF m f s t) (e1 : m.contains 76 = false) (e2 : m.contains 77 = false) (p : Int) : CLM t p = CLM s p := by
  unfold CLM
  refine clo_congr _ _ (fun k _ => ?_)
  show mL t k ||| mR t k = mL s k ||| mR s k
  rw [show mL t k = mL s k from (h.2 76 _ e1 (fun h => absurd h (by decide))).2, show mR t k = mR s k from (h.2 77 _ e2 (fun h => absurd h (by decide))).2]
theorem CLM_RV {s : gH} {P : AP} {node : Nat} {v : Int} (h : RVm s P) (hv : v = (node : Nat)) (hn : node < P.1) (hp : node < 64) : CLM s v = clo (msk P) node (1#64 <<< node) := by
  unfold CLM
  have e1 : v.toNat = node := by omega
  have e2 : Int.toNat (v % 64) = node := by omega
  rw [e1, e2]
  refine clo_congr _ _ (fun k hk => ?_)
  have := h.2 k (by omega)
  unfold msk
  rw [← this]
def RW (s t : gH) (j k : Nat) : Prop := (gp_L t 76 (1216 + j) = 0#64 ↔ mL s k = 0#64) ∧ (gp_L t 77 (1216 + j) = 0#64 ↔ mR s k = 0#64) ∧ gp_I t 78 (1216 + j) = mA s k ∧ gp_I t 79 (1216 + j) = mB s k
def KMs (s t : gH) : Prop := ∀ f : Nat, mL t f = mL s f ∧ mR t f = mR s f ∧ mA t f = mA s f ∧ mB t f = mB s f
/-- the rows of what came out: its followers, all of them -/
def RSL (s t : gH) (C : BitVec 64) (n : Int) : Prop := (∀ j : Nat, (j : Int) < n → ∃ k : Nat, C.getLsbD k = true ∧ RW s t j k) ∧ ∀ k : Nat, C.getLsbD k = true → ∃ j : Nat, (j : Int) < n ∧ RW s t j k
theorem or_z {x y : BitVec 64} : x ||| y = 0#64 ↔ x = 0#64 ∧ y = 0#64 := by
  constructor
  · intro h
    have e : ∀ i, x.getLsbD i = false ∧ y.getLsbD i = false := fun i => by
      have : (x ||| y).getLsbD i = false := by rw [h]; simp
      rw [BitVec.getLsbD_or, Bool.or_eq_false_iff] at this
      exact this
    exact ⟨BitVec.eq_of_getLsbD_eq fun i _ => by rw [(e i).1]; simp, BitVec.eq_of_getLsbD_eq fun i _ => by rw [(e i).2]; simp⟩
  · rintro ⟨rfl, rfl⟩; simp
def PLZ (x m : BitVec 64) (v : Int) : Prop := x = 0#64 ↔ ∀ k : Nat, (k : Int) < v → m.getLsbD k = false
theorem PLZ_0 (m : BitVec 64) : PLZ 0#64 m 0 := ⟨fun _ k hk => by omega, fun _ => rfl⟩
theorem PLZ_n {x m : BitVec 64} {v : Int} (h : PLZ x m v) (h0 : 0 ≤ v) (hb : m.getLsbD v.toNat = false) : PLZ (x ||| 0#64) m (v + 1) := by
  unfold PLZ at h ⊢
  rw [show x ||| 0#64 = x by simp, h]
  constructor
  · intro q k hk
    by_cases c : k = v.toNat
    · rw [c]; exact hb
    · exact q k (by omega)
  · intro q k hk; exact q k (by omega)
theorem PLZ_y {x m y : BitVec 64} {v : Int} (h0 : 0 ≤ v) (hb : m.getLsbD v.toNat = true) (hy : ¬ y = 0#64) : PLZ (x ||| y) m (v + 1) := by
  unfold PLZ
  constructor
  · intro q; exact absurd (or_z.mp q).2 hy
  · intro q
    have := q v.toNat (by omega)
    rw [hb] at this; cases this
theorem PLZ_e {x m : BitVec 64} {v : Int} (h : PLZ x m v) (hv : 64 ≤ v) : x = 0#64 ↔ m = 0#64 := by
  unfold PLZ at h
  rw [h]
  constructor
  · intro q; exact BitVec.eq_of_getLsbD_eq fun i hi => by rw [q i (by omega)]; simp
  · intro q k _; rw [q]; simp
theorem RW_s {s u t : gH} {v : Int} {x y : BitVec 64} {a b d : Int} {n : Nat} (hk : KMs s u) (h : ∀ j : Nat, (j : Int) < v → RW s u j (gp_I u 87 j).toNat) (h0 : 0 ≤ v ∧ v ≤ 59) (i : Nat) (hi : i = Int.toNat (64 * 19 + v)) (et : t = gp_wI (gp_wI (gp_wI (gp_wL (gp_wL u 76 i x) 77 i y) 78 i a) 79 i b) 80 i d) (hn : n = (gp_I u 87 v.toNat).toNat) (hx : x = 0#64 ↔ mL u n = 0#64) (hy : y = 0#64 ↔ mR u n = 0#64) (ha : a = mA u n) (hb : b = mB u n) : KMs s t ∧ ∀ j : Nat, (j : Int) < v + 1 → RW s t j (gp_I t 87 j).toNat := by
  have ei : i = 1216 + v.toNat := by omega
  have L76 : ∀ k, gp_L t 76 k = if k = i then x else gp_L u 76 k := fun k => by rw [et]; exact gz_rwLi u 76 i x k
  have L77 : ∀ k, gp_L t 77 k = if k = i then y else gp_L u 77 k := fun k => by rw [et]; exact gz_rwLi (gp_wL u 76 i x) 77 i y k
  have I78 : ∀ k, gp_I t 78 k = if k = i then a else gp_I u 78 k := fun k => by rw [et]; exact gz_rwi (gp_wL (gp_wL u 76 i x) 77 i y) 78 i a k
  have I79 : ∀ k, gp_I t 79 k = if k = i then b else gp_I u 79 k := fun k => by rw [et]; exact gz_rwi (gp_wI (gp_wL (gp_wL u 76 i x) 77 i y) 78 i a) 79 i b k
  have I87 : ∀ k, gp_I t 87 k = gp_I u 87 k := fun k => by rw [et]; rfl
  refine ⟨fun f => ?_, fun j hj => ?_⟩
  · have q := hk f
    refine ⟨?_, ?_, ?_, ?_⟩
    · show gp_L t 76 (1280 + f) = _
      rw [L76, if_neg (by omega)]; exact q.1
    · show gp_L t 77 (1280 + f) = _
      rw [L77, if_neg (by omega)]; exact q.2.1
    · show gp_I t 78 (1280 + f) = _
      rw [I78, if_neg (by omega)]; exact q.2.2.1
    · show gp_I t 79 (1280 + f) = _
      rw [I79, if_neg (by omega)]; exact q.2.2.2
  · unfold RW
    rw [I87, L76, L77, I78, I79]
    by_cases c : j = v.toNat
    · rw [if_pos (by omega), if_pos (by omega), if_pos (by omega), if_pos (by omega), c, ← hn]
      have q := hk n
      rw [← q.1, ← q.2.1, ← q.2.2.1, ← q.2.2.2]
      exact ⟨hx, hy, ha, hb⟩
    · rw [if_neg (by omega), if_neg (by omega), if_neg (by omega), if_neg (by omega)]
      exact h j (by omega)
theorem RSL_of {s t : gH} {n : Nat} {o : Nat → Nat → Int} {C : BitVec 64} {c : Int} (hT : TO o n) (hC : bd C n) (hc : c = (gm_cnt C 64 : Nat)) (hr : RowP t o C c) (h : ∀ j : Nat, (j : Int) < c → RW s t j (gp_I t 87 j).toNat) : RSL s t C c := by
  refine ⟨fun j hj => ⟨_, (hr j hj).1.1, h j hj⟩, fun k hk => ?_⟩
  have h1 := rkb_cnt hT hC hk
  have h2 := hr (rkb o C 64 k) (by omega)
  have h3 := isop_un hT hC h2.1 ⟨hk, rfl⟩
  refine ⟨rkb o C 64 k, by omega, ?_⟩
  have := h (rkb o C 64 k) (by omega)
  rw [h3] at this
  exact this
/-- the rungs, at the reference -/
def LDM (s : gH) (w : Nat → Int) (n : Nat) (j : Int) (last : Int) : Prop := RVm s (ladF w n j.toNat).1 ∧ last = ((ladF w n j.toNat).2 : Nat)
theorem LDM_0 {s t : gH} {w : Nat → Int} {n : Nat} {a res : Int} (h0 : gp_I s 81 20 = 0) (ha : a = w (n - 1)) (m : MDX s t 0#64 0#64 a a res) : LDM t w n 0 res := by
  subst ha
  exact RV_add (P := (0, fun _ => nx 0#64 0#64 0 0)) ⟨h0, fun k hk => absurd hk (Nat.not_lt_zero _)⟩ GP_0 m (by show 0 < 60; decide)
theorem LDM_s {s u t : gH} {w : Nat → Int} {n : Nat} {j last a one res : Int} {l r : BitVec 64} (h : LDM s w n j last) (h0 : 0 ≤ j) (hj : j ≤ 28) (ha : a = w (n - 2 - j.toNat)) (m : MDX s u 0#64 0#64 a a one) (hl : l = 1#64 <<< Int.toNat (one % 64)) (hr : r = 1#64 <<< Int.toNat (last % 64)) (m2 : MDX u t l r 0 0 res) : LDM t w n (j + 1) res := by
  obtain ⟨c, e⟩ := h
  have le := lad_le w n j.toNat
  subst ha
  have a1 := RV_add c (GP_lad w n j.toNat) m (by omega)
  have le2 := aadd_le (P := (ladF w n j.toNat).1) (nx 0#64 0#64 (w (n - 2 - j.toNat)) (w (n - 2 - j.toNat)))
  have e1 : Int.toNat (one % 64) = (aadd (ladF w n j.toNat).1 (nx 0#64 0#64 (w (n - 2 - j.toNat)) (w (n - 2 - j.toNat)))).2 := by have := a1.2; omega
  have e2 : Int.toNat (last % 64) = (ladF w n j.toNat).2 := by omega
  rw [e1] at hl
  rw [e2] at hr
  subst hl; subst hr
  have b1 := RV_add a1.1 (GP_add (GP_lad w n j.toNat) _ _ _ _) m2 (by omega)
  unfold LDM
  rw [show (j + 1).toNat = j.toNat + 1 by omega]
  exact b1
theorem LDM_end {s : gH} {w : Nat → Int} {n : Nat} {j last : Int} (h : LDM s w n j last) (hj : j.toNat = n - 1) (hn : n ≤ 29) : (gm_cnt (CLM s last) 64 : Nat) = lsz w n := by
  obtain ⟨c, e⟩ := h
  rw [hj] at c e
  have le := lad_le w n (n - 1)
  unfold lsz
  rw [CLM_RV c e le.2 (by omega)]
/-- what a set of followers holds: closed, with its node -/
theorem clo_sup {m : Nat → BitVec 64} : ∀ (n : Nat) (x : BitVec 64) (i : Nat), x.getLsbD i = true → (clo m n x).getLsbD i = true
  | 0, x, i, h => by
    unfold clo
    by_cases c : x.getLsbD 0 = true
    · rw [if_pos c, BitVec.getLsbD_or, h]; rfl
    · rw [if_neg c]; exact h
  | n + 1, x, i, h => by
    unfold clo
    refine clo_sup n _ i ?_
    by_cases c : x.getLsbD (n + 1) = true
    · rw [if_pos c, BitVec.getLsbD_or, h]; rfl
    · rw [if_neg c]; exact h
theorem KMs_fr {m f : List Nat} {s t u : gH} (h : KMs s t) (g : gF m f t u) (e1 : m.contains 76 = false) (e2 : m.contains 77 = false) (e3 : m.contains 78 = false) (e4 : m.contains 79 = false) : KMs s u := fun k => by
  have q := h k
  have n : ∀ a, a ≠ 74 → a = 74 → f.contains (1280 + k) = false := fun a h1 h2 => absurd h2 h1
  exact ⟨(g.2 76 _ e1 (n 76 (by decide))).2.trans q.1, (g.2 77 _ e2 (n 77 (by decide))).2.trans q.2.1, (g.2 78 _ e3 (n 78 (by decide))).1.trans q.2.2.1, (g.2 79 _ e4 (n 79 (by decide))).1.trans q.2.2.2⟩
theorem KMs_r (s : gH) : KMs s s := fun _ => ⟨rfl, rfl, rfl, rfl⟩
def outr (x : Int) : Prop := x < -99999 ∨ 99999 < x
def BBi (s : gH) (i : Nat) : Prop := (gp_L s 76 i = 0#64 ∧ outr (gp_I s 78 i)) ∨ (gp_L s 77 i = 0#64 ∧ outr (gp_I s 79 i))
def BGR (s : gH) : Prop := ∃ j : Nat, (j : Int) < gp_I s 81 19 ∧ BBi s (1216 + j)
def BNR (s : gH) : Prop := ∀ j : Nat, (j : Int) < gp_I s 81 19 → (-2147483648 ≤ gp_I s 78 (1216 + j) ∧ gp_I s 78 (1216 + j) ≤ 2147483647) ∧ (-2147483648 ≤ gp_I s 79 (1216 + j) ∧ gp_I s 79 (1216 + j) ≤ 2147483647)
theorem BB_nx {s : gH} {v : Int} (h : ∀ j : Nat, (j : Int) < v → ¬ BBi s (1216 + j)) (h0 : 0 ≤ v) (hn : ¬ BBi s (Int.toNat (64 * 19 + v))) : ∀ j : Nat, (j : Int) < v + 1 → ¬ BBi s (1216 + j) := fun j hj => by
  by_cases c : j = v.toNat
  · rw [show 1216 + j = Int.toNat (64 * 19 + v) by omega]; exact hn
  · exact h j (by omega)
def BC (s : gH) (C : BitVec 64) : Prop := ∃ k : Nat, C.getLsbD k = true ∧ ((mL s k = 0#64 ∧ outr (mA s k)) ∨ (mR s k = 0#64 ∧ outr (mB s k)))
theorem BGR_BC {s t : gH} {C : BitVec 64} (h : RSL s t C (gp_I t 81 19)) : BGR t ↔ BC s C := by
  constructor
  · rintro ⟨j, j1, j2⟩
    obtain ⟨k, k1, k2, k3, k4, k5⟩ := h.1 j j1
    unfold BBi at j2
    rw [k2, k3, k4, k5] at j2
    exact ⟨k, k1, j2⟩
  · rintro ⟨k, k1, k2⟩
    obtain ⟨j, j1, w1, w2, w3, w4⟩ := h.2 k k1
    refine ⟨j, j1, ?_⟩
    unfold BBi
    rw [w1, w2, w3, w4]
    exact k2
def BNM (s : gH) : Prop := ∀ k : Nat, (k : Int) < gp_I s 81 20 → (-2147483648 ≤ mA s k ∧ mA s k ≤ 2147483647) ∧ (-2147483648 ≤ mB s k ∧ mB s k ≤ 2147483647)
theorem BNR_of {s t : gH} {C : BitVec 64} {p : Int} (h : RSL s t C (gp_I t 81 19)) (hb : bd C (p + 1)) (hp : p < gp_I s 81 20) (hn : BNM s) : BNR t := fun j hj => by
  obtain ⟨k, k1, k2, k3, k4, k5⟩ := h.1 j hj
  rw [k4, k5]
  exact hn k (by have := hb k k1; omega)
set_option maxRecDepth 100000 in
/-- GatheredPointsModel.placed -/
theorem vm_placedX  {L d : Nat} {K : Option gV → gH → Prop} {s : gH} (N : Int) (p0 : BitVec 64) (hs : MI s)  (q0 : ∀ w : Nat, p0.getLsbD w = true → gp_I s 88 w < N) (k : ∀ (r : BitVec 64), (bd r N) → (r = 0#64 ↔ p0 = 0#64) → K (some (gp_l r)) s) : gs_C L (d + 1) 3094 6 [gp_r (some 74), gp_l p0] s K := by
  refine s_3094_e _ ?_
  have lp_1 : ∀ (n_1 : Nat) (v3_1 : BitVec 64) (v5_1 : Int), (0 ≤ v5_1 ∧ v5_1 ≤ 64) → (bd v3_1 N) → (PLZ v3_1 p0 v5_1) → (65 - v5_1).toNat < n_1 → gs_E L (d + 1) 3094 5 [gp_r (some 74), gp_l p0, gp_n, gp_l v3_1, gp_n, gp_i v5_1] [] s K := by
    intro n_1
    induction n_1 with
    | zero => intro v3_1 v5_1 hv5_1 iv0_1 iv1_1 hm_1; exact absurd hm_1 (Nat.not_lt_zero _)
    | succ n_1 ih_1 =>
      intro v3_1 v5_1 hv5_1 iv0_1 iv1_1 hm_1
      refine s_3094_5 _ _ _ ?_
      refine ⟨fun h_2 => ?_, fun h_2 => ?_⟩
      · refine vm_has _ _ (by omega) (fun x_3 p_4 p_5 => ⟨_, rfl, ?_⟩)
        refine ⟨fun h_6 => ?_, fun h_6 => ?_⟩
        · have hb_7 := hasF p_5 h_6
          refine s_3094_35 _ _ _ _ _ ?_
          try rw [show gp_wr (v5_1 + 1) = v5_1 + 1 from gp_wr_id (by omega) (by omega)]
          exact ih_1 _ _ (by omega) (by first | (refine bd_or (by assumption) ?_; exact bd_0 _) | (refine bd_or (by assumption) (bd_sh ?_ ?_ ?_) <;> omega)) (by first | exact PLZ_y (by omega) (by assumption) (sh_ne0 (by omega)) | exact PLZ_n iv1_1 (by omega) (by assumption)) (by omega)
        · have hb_8 := hasT p_5 h_6
          refine ⟨by omega, ?_⟩
          have f_9 := mr88 hs (Int.toNat v5_1)
          have hq0 := q0 (Int.toNat v5_1) (by assumption)
          refine s_3094_35 _ _ _ _ _ ?_
          try rw [show gp_wr (v5_1 + 1) = v5_1 + 1 from gp_wr_id (by omega) (by omega)]
          exact ih_1 _ _ (by omega) (by first | (refine bd_or (by assumption) ?_; exact bd_0 _) | (refine bd_or (by assumption) (bd_sh ?_ ?_ ?_) <;> omega)) (by first | exact PLZ_y (by omega) (by assumption) (sh_ne0 (by omega)) | exact PLZ_n iv1_1 (by omega) (by assumption)) (by omega)
      · exact k _ (by first | assumption | exact bd_le (by assumption) (by omega) | exact bd_0 _) (PLZ_e iv1_1 (by omega))
  exact lp_1 _ _ _ (by omega) (bd_0 _) (PLZ_0 _) (Nat.lt_succ_self _)
set_option maxRecDepth 100000 in
/-- GatheredPointsModel.ends -/
theorem vm_endsZ  {L d : Nat} {K : Option gV → gH → Prop} {s : gH}  (p0 : Int) (hs : MI s) (h_p0 : 0 ≤ p0 ∧ p0 ≤ 63) (q0 : MDi s) (q1 : p0 < gp_I s 81 20) (k : ∀ (t : gH), MI t → gF [76, 77, 78, 79, 80, 81, 86, 87, 88] [] s t → (1 ≤ gp_I t 81 19 ∧ gp_I t 81 19 ≤ 60) → (mK s t) → (gp_I t 81 19 = (gm_cnt (CLM s p0) 64 : Nat)) → (RSL s t (CLM s p0) (gp_I t 81 19)) → (bd (CLM s p0) (p0 + 1)) → K none t) : gs_C L (d + 184) 3093 9 [gp_r (some 74), gp_i p0, gp_i 19] s K := by
  have f_1 := mr81 hs 20
  have f_2 := mr81 hs 19
  refine s_3093_e _ _ ?_
  obtain ⟨o, hms, hmc⟩ := q0
  have h60 := mr81m hs
  obtain ⟨N, hN⟩ : ∃ N : Nat, gp_I s 81 20 = N := ⟨_, (Int.toNat_of_nonneg (by omega)).symm⟩
  rw [hN] at hms hmc
  rw [Int.toNat_natCast] at hms hmc
  refine vm_forgets hs (fun s_3 hs_4 hf_5 p_6 => ⟨rfl, ?_⟩)
  have hf_7 : gF [76, 77, 78, 79, 80, 81, 86, 87, 88] [] s s_3 := gF.sub hf_5 rfl rfl
  have mb_8 : mK s s_3 := mK_fr (mK.refl _) hf_5 rfl
  have q_9 := (hf_5.2 81 20 rfl (fun h => absurd h (by decide))).1
  have q_10 := (hf_5.2 81 19 rfl (fun h => absurd h (by decide))).1
  have hms1 := MS_fr hms hf_5 rfl rfl rfl rfl rfl
  have hmc1 : MC s_3 N o := MC_z (by assumption)
  have hcf4 := hf_5
  have lp_11 : ∀ (n_11 : Nat) (v3_11 : BitVec 64) (v5_11 : Int) (v6_11 : gV) (v7_11 : gV) (v8_11 : gV), ((-1) ≤ v5_11 ∧ v5_11 ≤ 63) → (bd v3_11 (p0 + 1)) → ((v3_11).getLsbD p0.toNat = true) → (∀ i j : Nat, v5_11 < i → (v3_11).getLsbD i = true → ((mL s_3 i).getLsbD j = true ∨ (mR s_3 i).getLsbD j = true) → (v3_11).getLsbD j = true) → (v5_11 ≤ p0) → (cin (fun k => mL s_3 k ||| mR s_3 k) v5_11 v3_11 (CLM s_3 p0)) → (v5_11 + 2).toNat < n_11 → gs_E L (d + 184) 3093 11 [gp_r (some 74), gp_i p0, gp_i 19, gp_l v3_11, gp_n, gp_i v5_11, v6_11, v7_11, v8_11] [] s_3 K := by
    intro n_11
    induction n_11 with
    | zero => intro v3_11 v5_11 v6_11 v7_11 v8_11 hv5_11 iv0_11 iv1_11 iv2_11 iv3_11 iv4_11 hm_11; exact absurd hm_11 (Nat.not_lt_zero _)
    | succ n_11 ih_11 =>
      intro v3_11 v5_11 v6_11 v7_11 v8_11 hv5_11 iv0_11 iv1_11 iv2_11 iv3_11 iv4_11 hm_11
      refine s_3093_11 _ _ _ _ _ _ _ ?_
      refine ⟨fun h_12 => ?_, fun h_12 => ?_⟩
      · have hcl : ClP s_3 v3_11 := fun i j => iv2_11 i j (by omega)
        have hc1 := cnt_pos iv1_11
        have hc2 := cnt_bd iv0_11 (by omega)
        have hSN : bd v3_11 N := bd_le iv0_11 (by omega)
        have hC9 : v3_11 = CLM s p0 := (cin_end iv4_11 (by omega)).trans (CLM_fr hcf4 rfl rfl p0)
        refine vm_size _ (fun x_13 p_14 p_15 => ⟨_, rfl, ?_⟩)
        have hcz := p_15
        have hb99 := iv0_11
        have lp_16 : ∀ (n_16 : Nat) (v6_16 : Int) (v7_16 : gV) (v8_16 : gV) (s_16 : gH), (MI s_16) → (gF [76, 77, 78, 79, 80, 81, 86, 87, 88] [] s s_16) → (mK s s_16) → (0 ≤ v6_16 ∧ v6_16 ≤ 64) → (gp_I s_16 81 20 = gp_I s_3 81 20) → (gp_I s_16 81 19 = gp_I s_3 81 19) → (MS s_16 N o) → (MC s_16 N o) → (RowP s_16 o v3_11 v6_16) → (ClP s_16 v3_11) → (v6_16 ≤ x_13) → (KMs s s_16) → (65 - v6_16).toNat < n_16 → gs_E L (d + 184) 3093 70 [gp_r (some 74), gp_i p0, gp_i 19, gp_l v3_11, gp_n, gp_i x_13, gp_i v6_16, v7_16, v8_16] [] s_16 K := by
          intro n_16
          induction n_16 with
          | zero => intro v6_16 v7_16 v8_16 s_16 hs_s_16 hf_s_16 mK_s_16 hv6_16 tk0_16 tk1_16 iv0_16 iv1_16 iv2_16 iv3_16 iv4_16 iv5_16 hm_16; exact absurd hm_16 (Nat.not_lt_zero _)
          | succ n_16 ih_16 =>
            intro v6_16 v7_16 v8_16 s_16 hs_s_16 hf_s_16 mK_s_16 hv6_16 tk0_16 tk1_16 iv0_16 iv1_16 iv2_16 iv3_16 iv4_16 iv5_16 hm_16
            refine s_3093_70 _ _ _ _ _ _ _ ?_
            refine ⟨fun h_17 => ?_, fun h_17 => ?_⟩
            · refine vm_option20 N o _ _ hs_s_16 (by omega) (by assumption) (by assumption) (by first | omega | assumption) (by first | assumption | exact bd_le (by assumption) (by omega) | exact bd_0 _) (by first | omega | assumption) (fun x_18 s_19 hs_20 hf_21 p_22 p_23 p_24 p_25 => ⟨_, rfl, ?_⟩)
              have hf_26 : gF [76, 77, 78, 79, 80, 81, 86, 87, 88] [] s s_19 := gF.trans hf_s_16 hf_21 rfl rfl
              have mb_27 : mK s s_19 := mK_fr mK_s_16 hf_21 rfl
              have q_28 := (hf_21.2 81 20 rfl (fun h => absurd h (by decide))).1
              have q_29 := (hf_21.2 81 19 rfl (fun h => absurd h (by decide))).1
              have hrow := RowP_fr iv2_16 hf_21 rfl rfl
              have hcl7 := ClP_fr iv3_16 hf_21 rfl rfl
              have hkm9 := KMs_fr iv5_16 hf_21 rfl rfl rfl rfl
              refine ⟨by omega, ?_⟩
              intro s_30 e_31
              have hs_32 : MI s_30 := by rw [e_31]; exact mw87 hs_20 _ _ (by omega)
              have hf_33 : gF [76, 77, 78, 79, 80, 81, 86, 87, 88] [] s s_30 := by rw [e_31]; exact gF.wI hf_26 (Or.inl rfl)
              have q_34 : gp_I s_30 81 20 = gp_I s_19 81 20 := by rw [e_31] <;> rfl
              have q_35 : gp_I s_30 81 19 = gp_I s_19 81 19 := by rw [e_31] <;> rfl
              have mb_36 : mK s s_30 := by rw [e_31]; exact mK_wI mb_27 (by decide)
              refine ⟨by omega, ?_⟩
              have f_37 := mr87 hs_32 (Int.toNat v6_16)
              refine ⟨by omega, ?_⟩
              intro s_38 e_39
              have hs_40 : MI s_38 := by rw [e_39]; exact mw88 hs_32 _ _ (by omega)
              have hf_41 : gF [76, 77, 78, 79, 80, 81, 86, 87, 88] [] s s_38 := by rw [e_39]; exact gF.wI hf_33 (Or.inl rfl)
              have q_42 : gp_I s_38 81 20 = gp_I s_30 81 20 := by rw [e_39] <;> rfl
              have q_43 : gp_I s_38 81 19 = gp_I s_30 81 19 := by rw [e_39] <;> rfl
              have mb_44 : mK s s_38 := by rw [e_39]; exact mK_wI mb_36 (by decide)
              try rw [show gp_wr (v6_16 + 1) = v6_16 + 1 from gp_wr_id (by omega) (by omega)]
              exact ih_16 _ _ _ _ hs_40 hf_41 mb_44 (by omega) (by first | rfl | omega) (by first | rfl | omega) (by subst_vars; assumption) (by subst_vars; assumption) (by subst_vars; exact RowP_s hrow (by omega) (by assumption) ((gz_rw _ _ _ _ _).1 rfl)) (by subst_vars; exact hcl7) (by first | omega | assumption) (by subst_vars; exact hkm9) (by omega)
            · refine ⟨by omega, ?_⟩
              intro s_45 e_46
              have hs_47 : MI s_45 := by rw [e_46]; exact mw81 hs_s_16 _ _ (by omega)
              have hf_48 : gF [76, 77, 78, 79, 80, 81, 86, 87, 88] [] s s_45 := by rw [e_46]; exact gF.wI hf_s_16 (Or.inl rfl)
              have q_49 := gz_rw s_16 81 (Int.toNat 19) 20 x_13; rw [← e_46] at q_49
              have q_50 := gz_rw s_16 81 (Int.toNat 19) 19 x_13; rw [← e_46] at q_50
              have mb_51 : mK s s_45 := by rw [e_46]; exact mK_81 mK_s_16 (by omega)
              have lp_52 : ∀ (n_52 : Nat) (v6_52 : Int) (v7_52 : gV) (v8_52 : gV) (s_52 : gH), (MI s_52) → (gF [76, 77, 78, 79, 80, 81, 86, 87, 88] [] s s_52) → (mK s s_52) → (0 ≤ v6_52 ∧ v6_52 ≤ 64) → (gp_I s_52 81 20 = gp_I s_45 81 20) → (gp_I s_52 81 19 = gp_I s_45 81 19) → (MS s_52 N o) → (RowP s_52 o v3_11 x_13) → (ClP s_52 v3_11) → (KMs s s_52) → (∀ j : Nat, (j : Int) < v6_52 → RW s s_52 j (gp_I s_52 87 j).toNat) → (65 - v6_52).toNat < n_52 → gs_E L (d + 184) 3093 124 [gp_r (some 74), gp_i p0, gp_i 19, gp_l v3_11, gp_n, gp_i x_13, gp_i v6_52, v7_52, v8_52] [] s_52 K := by
                intro n_52
                induction n_52 with
                | zero => intro v6_52 v7_52 v8_52 s_52 hs_s_52 hf_s_52 mK_s_52 hv6_52 tk0_52 tk1_52 iv0_52 iv1_52 iv2_52 iv3_52 iv4_52 hm_52; exact absurd hm_52 (Nat.not_lt_zero _)
                | succ n_52 ih_52 =>
                  intro v6_52 v7_52 v8_52 s_52 hs_s_52 hf_s_52 mK_s_52 hv6_52 tk0_52 tk1_52 iv0_52 iv1_52 iv2_52 iv3_52 iv4_52 hm_52
                  refine s_3093_124 _ _ _ _ _ _ _ ?_
                  refine ⟨fun h_53 => ?_, fun h_53 => ?_⟩
                  · refine ⟨by omega, ?_⟩
                    have f_54 := mr87 hs_s_52 (Int.toNat v6_52)
                    try rw [show gp_wr (1280 + (gp_I s_52 87 (Int.toNat v6_52))) = 1280 + (gp_I s_52 87 (Int.toNat v6_52)) from gp_wr_id (by omega) (by omega)]
                    try rw [show gp_wr (64 * 19) = 64 * 19 from gp_wr_id (by omega) (by omega)]
                    try rw [show gp_wr ((64 * 19) + v6_52) = (64 * 19) + v6_52 from gp_wr_id (by omega) (by omega)]
                    refine ⟨by omega, ?_⟩
                    have b_55 := mr76m hs_s_52 (gp_I s_52 87 (Int.toNat v6_52)) (by omega)
                    refine vm_placedX v6_52 _ hs_s_52 (by intro w hw; rw [ix20m (by omega)] at hw; exact place_lt iv0_52 hSN (by first | rfl | assumption) iv1_52 (by omega) iv2_52 (Or.inl hw)) (fun m_56 p_57 p_58 => ⟨_, rfl, ?_⟩)
                    have hpx := p_58
                    rw [ix20m (by omega)] at hpx
                    refine ⟨by omega, ?_⟩
                    intro s_59 e_60
                    have hs_61 : MI s_59 := by rw [e_60]; exact mw76 hs_s_52 _ _ (by exact bd_le (by assumption) (by omega))
                    have hf_62 : gF [76, 77, 78, 79, 80, 81, 86, 87, 88] [] s s_59 := by rw [e_60]; exact gF.wL hf_s_52 (Or.inl rfl)
                    have q_63 : gp_I s_59 81 20 = gp_I s_52 81 20 := by rw [e_60] <;> rfl
                    have q_64 : gp_I s_59 81 19 = gp_I s_52 81 19 := by rw [e_60] <;> rfl
                    have mb_65 : mK s s_59 := by rw [e_60]; exact mK_wL mK_s_52 (by decide)
                    refine ⟨by omega, ?_⟩
                    have b_66 := mr77m hs_61 (gp_I s_52 87 (Int.toNat v6_52)) (by omega)
                    refine vm_placedX v6_52 _ hs_61 (by subst_vars; intro w hw; rw [ix20m (by omega)] at hw; exact place_lt iv0_52 hSN (by first | rfl | assumption) iv1_52 (by omega) iv2_52 (Or.inr hw)) (fun m_67 p_68 p_69 => ⟨_, rfl, ?_⟩)
                    have hpy := p_69
                    rw [ix20m (by omega)] at hpy
                    refine ⟨by omega, ?_⟩
                    intro s_70 e_71
                    have hs_72 : MI s_70 := by rw [e_71]; exact mw77 hs_61 _ _ (by exact bd_le (by assumption) (by omega))
                    have hf_73 : gF [76, 77, 78, 79, 80, 81, 86, 87, 88] [] s s_70 := by rw [e_71]; exact gF.wL hf_62 (Or.inl rfl)
                    have q_74 : gp_I s_70 81 20 = gp_I s_59 81 20 := by rw [e_71] <;> rfl
                    have q_75 : gp_I s_70 81 19 = gp_I s_59 81 19 := by rw [e_71] <;> rfl
                    have mb_76 : mK s s_70 := by rw [e_71]; exact mK_wL mb_65 (by decide)
                    refine ⟨by omega, ?_⟩
                    refine ⟨by omega, ?_⟩
                    intro s_77 e_78
                    have hs_79 : MI s_77 := by rw [e_78]; exact mw78 hs_72 _ _
                    have hf_80 : gF [76, 77, 78, 79, 80, 81, 86, 87, 88] [] s s_77 := by rw [e_78]; exact gF.wI hf_73 (Or.inl rfl)
                    have q_81 : gp_I s_77 81 20 = gp_I s_70 81 20 := by rw [e_78] <;> rfl
                    have q_82 : gp_I s_77 81 19 = gp_I s_70 81 19 := by rw [e_78] <;> rfl
                    have mb_83 : mK s s_77 := by rw [e_78]; exact mK_wI mb_76 (by decide)
                    refine ⟨by omega, ?_⟩
                    refine ⟨by omega, ?_⟩
                    intro s_84 e_85
                    have hs_86 : MI s_84 := by rw [e_85]; exact mw79 hs_79 _ _
                    have hf_87 : gF [76, 77, 78, 79, 80, 81, 86, 87, 88] [] s s_84 := by rw [e_85]; exact gF.wI hf_80 (Or.inl rfl)
                    have q_88 : gp_I s_84 81 20 = gp_I s_77 81 20 := by rw [e_85] <;> rfl
                    have q_89 : gp_I s_84 81 19 = gp_I s_77 81 19 := by rw [e_85] <;> rfl
                    have mb_90 : mK s s_84 := by rw [e_85]; exact mK_wI mb_83 (by decide)
                    refine ⟨by omega, ?_⟩
                    have f_91 := mr80 hs_86 (Int.toNat (1280 + (gp_I s_52 87 (Int.toNat v6_52))))
                    refine ⟨by omega, ?_⟩
                    intro s_92 e_93
                    have hs_94 : MI s_92 := by rw [e_93]; exact mw80 hs_86 _ _ (by omega)
                    have hf_95 : gF [76, 77, 78, 79, 80, 81, 86, 87, 88] [] s s_92 := by rw [e_93]; exact gF.wI hf_87 (Or.inl rfl)
                    have q_96 : gp_I s_92 81 20 = gp_I s_84 81 20 := by rw [e_93] <;> rfl
                    have q_97 : gp_I s_92 81 19 = gp_I s_84 81 19 := by rw [e_93] <;> rfl
                    have mb_98 : mK s s_92 := by rw [e_93]; exact mK_wI mb_90 (by decide)
                    have hrw9 : KMs s s_92 ∧ ∀ j : Nat, (j : Int) < v6_52 + 1 → RW s s_92 j (gp_I s_92 87 j).toNat := by subst_vars; exact RW_s iv3_52 iv4_52 (by omega) _ rfl rfl rfl hpx hpy (by (rw [ix20m (by omega)]) <;> rfl) (by (rw [ix20m (by omega)]) <;> rfl)
                    try rw [show gp_wr (v6_52 + 1) = v6_52 + 1 from gp_wr_id (by omega) (by omega)]
                    exact ih_52 _ _ _ _ hs_94 hf_95 mb_98 (by omega) (by first | rfl | omega) (by first | rfl | omega) (by subst_vars; exact MS_5 iv0_52 (by omega)) (by subst_vars; exact iv1_52) (by subst_vars; exact ClP_5 iv2_52 (by omega)) (hrw9.1) (hrw9.2) (by omega)
                  · exact k s_52 hs_s_52 hf_s_52 (by first | omega | assumption) mK_s_52 (by rw [← hC9]; omega) (by rw [← hC9, show gp_I s_52 81 19 = x_13 by omega]; exact RSL_of iv0_52.1 hSN hcz iv1_52 (fun j hj => iv4_52 j (by omega))) (by rw [← hC9]; exact hb99)
              exact lp_52 _ _ _ _ _ hs_47 hf_48 mb_51 (by omega) (by first | rfl | omega) (by first | rfl | omega) (by subst_vars; exact iv0_16) (by subst_vars; exact fun j hj => iv2_16 j (by omega)) (by subst_vars; exact iv3_16) (by subst_vars; exact iv5_16) (fun j hj => by omega) (Nat.lt_succ_self _)
        exact lp_16 _ _ _ _ _ hs_4 hf_7 mb_8 (by omega) (by first | rfl | omega) (by first | rfl | omega) (by subst_vars; assumption) (by subst_vars; assumption) (fun j hj => absurd hj (by omega)) (hcl) (by first | omega | assumption) (KMs_fr (KMs_r s) hcf4 rfl rfl rfl rfl) (Nat.lt_succ_self _)
      · refine vm_has _ _ (by omega) (fun x_99 p_100 p_101 => ⟨_, rfl, ?_⟩)
        refine ⟨fun h_102 => ?_, fun h_102 => ?_⟩
        · have hb_103 := hasF p_101 h_102
          refine s_3093_53 _ _ _ _ _ _ _ _ _ ?_
          try rw [show gp_wr (v5_11 + (-1)) = v5_11 + (-1) from gp_wr_id (by omega) (by omega)]
          exact ih_11 _ _ _ _ _ (by omega) (by first | (refine bd_or iv0_11 ?_; exact bd_0 _) | (refine bd_or iv0_11 (bd_or (bd_le (by assumption) ?_) (bd_le (by assumption) ?_)) <;> omega)) (or_bit iv1_11) (by first | (refine cl_3 ?_ ?_ iv2_11 <;> first | omega | assumption) | (refine cl_2 ?_ ?_ ?_ ?_ iv2_11 <;> first | omega | assumption)) (by first | omega | assumption) (by first | (refine cin_s iv4_11 (by omega) ?_; rw [if_pos (by assumption), ix20m (by omega)]) | (refine cin_s iv4_11 (by omega) ?_; rw [if_neg (by simp [*])]; simp)) (by omega)
        · have hb_104 := hasT p_101 h_102
          try rw [show gp_wr (1280 + v5_11) = 1280 + v5_11 from gp_wr_id (by omega) (by omega)]
          refine ⟨by omega, ?_⟩
          have b_105 := mr76m hs_4 v5_11 (by omega)
          try rw [show gp_wr (1280 + v5_11) = 1280 + v5_11 from gp_wr_id (by omega) (by omega)]
          refine ⟨by omega, ?_⟩
          have b_106 := mr77m hs_4 v5_11 (by omega)
          refine s_3093_53 _ _ _ _ _ _ _ _ _ ?_
          try rw [show gp_wr (v5_11 + (-1)) = v5_11 + (-1) from gp_wr_id (by omega) (by omega)]
          exact ih_11 _ _ _ _ _ (by omega) (by first | (refine bd_or iv0_11 ?_; exact bd_0 _) | (refine bd_or iv0_11 (bd_or (bd_le (by assumption) ?_) (bd_le (by assumption) ?_)) <;> omega)) (or_bit iv1_11) (by first | (refine cl_3 ?_ ?_ iv2_11 <;> first | omega | assumption) | (refine cl_2 ?_ ?_ ?_ ?_ iv2_11 <;> first | omega | assumption)) (by first | omega | assumption) (by first | (refine cin_s iv4_11 (by omega) ?_; rw [if_pos (by assumption), ix20m (by omega)]) | (refine cin_s iv4_11 (by omega) ?_; rw [if_neg (by simp [*])]; simp)) (by omega)
  exact lp_11 _ _ _ _ _ _ (by omega) (bd_sh (by omega) (by omega) (by omega)) (one_self (by omega) (by omega)) (fun i j h0 h1 => absurd (bd_sh (n := p0 + 1) (by omega) (by omega) (by omega) i h1) (by omega)) (by first | omega | assumption) (cin_0 (by omega) _) (Nat.lt_succ_self _)
set_option maxRecDepth 100000 in
/-- GatheredPointsModel.isBig -/
theorem vm_isBigX  {L d : Nat} {K : Option gV → gH → Prop} {s : gH}   (hs : MI s)  (q0 : BNR s) (k : ∀ (r : Int), (0 ≤ r ∧ r ≤ 1) → ((r = 1 ∧ BGR s) ∨ (r = 0 ∧ ¬ BGR s)) → K (some (gp_i r)) s) : gs_C L (d + 1) 3095 4 [gp_r (some 74), gp_i 19] s K := by
  refine s_3095_e _ ?_
  have h19 : gp_I s 81 (Int.toNat 19) = gp_I s 81 19 := rfl
  have lp_1 : ∀ (n_1 : Nat) (v2_1 : Int) (v3_1 : Int), (0 ≤ v2_1 ∧ v2_1 ≤ 1) → (0 ≤ v3_1 ∧ v3_1 ≤ 60) → ((v2_1 = 1 ∧ BGR s) ∨ (v2_1 = 0 ∧ ∀ j : Nat, (j : Int) < v3_1 → ¬ BBi s (1216 + j))) → (61 - v3_1).toNat < n_1 → gs_E L (d + 1) 3095 4 [gp_r (some 74), gp_i 19, gp_i v2_1, gp_i v3_1] [] s K := by
    intro n_1
    induction n_1 with
    | zero => intro v2_1 v3_1 hv2_1 hv3_1 iv0_1 hm_1; exact absurd hm_1 (Nat.not_lt_zero _)
    | succ n_1 ih_1 =>
      intro v2_1 v3_1 hv2_1 hv3_1 iv0_1 hm_1
      refine s_3095_4 _ _ _ ?_
      refine ⟨by omega, ?_⟩
      have f_2 := mr81 hs (Int.toNat 19)
      refine ⟨fun h_3 => ?_, fun h_3 => ?_⟩
      · refine ⟨fun h_4 => ?_, fun h_4 => ?_⟩
        · try rw [show gp_wr (64 * 19) = 64 * 19 from gp_wr_id (by omega) (by omega)]
          try rw [show gp_wr ((64 * 19) + v3_1) = (64 * 19) + v3_1 from gp_wr_id (by omega) (by omega)]
          refine ⟨by omega, ?_⟩
          have b_5 := mr76 hs 19 v3_1 (by omega) (by omega)
          refine ⟨fun h_6 => ?_, fun h_6 => ?_⟩
          · have hz_7 : gp_L s 76 (Int.toNat ((64 * 19) + v3_1)) = 0#64 := (gm_cmp0 _ _).mp h_6
            try rw [show gp_wr (64 * 19) = 64 * 19 from gp_wr_id (by omega) (by omega)]
            try rw [show gp_wr ((64 * 19) + v3_1) = (64 * 19) + v3_1 from gp_wr_id (by omega) (by omega)]
            refine ⟨by omega, ?_⟩
            have hq9 := (q0 (Int.toNat v3_1) (by omega)).1
            rw [show 1216 + Int.toNat v3_1 = Int.toNat (64 * 19 + v3_1) by omega] at hq9
            have hoi := gz_oi (gp_I s 78 (Int.toNat ((64 * 19) + v3_1))) (by omega)
            refine vm_isIn _ _ _ (fun x_8 p_9 p_10 => ⟨_, rfl, ?_⟩)
            have w_11 : BitVec.toInt (BitVec.ofInt 64 (-99999)) = (-99999) := by decide
            have w_12 : BitVec.toInt (BitVec.ofInt 64 99999) = 99999 := by decide
            refine ⟨fun h_13 => ?_, fun h_13 => ?_⟩
            · refine s_3095_98 _ _ _ ?_
              refine s_3095_103 _ _ _ _ ?_
              try rw [show gp_wr (v3_1 + 1) = v3_1 + 1 from gp_wr_id (by omega) (by omega)]
              exact ih_1 _ _ (by omega) (by omega) (by first | exact Or.inl ⟨rfl, by rcases iv0_1 with q9 | q9; exact q9.2; omega⟩ | exact Or.inl ⟨rfl, Int.toNat v3_1, by omega, by rw [show 1216 + Int.toNat v3_1 = Int.toNat (64 * 19 + v3_1) by omega]; first | exact Or.inl ⟨by assumption, by unfold outr; omega⟩ | exact Or.inr ⟨by assumption, by unfold outr; omega⟩⟩ | exact Or.inr ⟨rfl, BB_nx (by rcases iv0_1 with q9 | q9; omega; exact q9.2) (by omega) (fun q9 => by unfold BBi outr at q9; rcases q9 with ⟨a9, b9⟩ | ⟨a9, b9⟩ <;> first | contradiction | omega)⟩) (by omega)
            · refine s_3095_58 _ _ _ ?_
              try rw [show gp_wr (64 * 19) = 64 * 19 from gp_wr_id (by omega) (by omega)]
              try rw [show gp_wr ((64 * 19) + v3_1) = (64 * 19) + v3_1 from gp_wr_id (by omega) (by omega)]
              refine ⟨by omega, ?_⟩
              have b_14 := mr77 hs 19 v3_1 (by omega) (by omega)
              refine ⟨fun h_15 => ?_, fun h_15 => ?_⟩
              · have hz_16 : gp_L s 77 (Int.toNat ((64 * 19) + v3_1)) = 0#64 := (gm_cmp0 _ _).mp h_15
                try rw [show gp_wr (64 * 19) = 64 * 19 from gp_wr_id (by omega) (by omega)]
                try rw [show gp_wr ((64 * 19) + v3_1) = (64 * 19) + v3_1 from gp_wr_id (by omega) (by omega)]
                refine ⟨by omega, ?_⟩
                have hq9 := (q0 (Int.toNat v3_1) (by omega)).2
                rw [show 1216 + Int.toNat v3_1 = Int.toNat (64 * 19 + v3_1) by omega] at hq9
                have hoi := gz_oi (gp_I s 79 (Int.toNat ((64 * 19) + v3_1))) (by omega)
                refine vm_isIn _ _ _ (fun x_17 p_18 p_19 => ⟨_, rfl, ?_⟩)
                have w_20 : BitVec.toInt (BitVec.ofInt 64 (-99999)) = (-99999) := by decide
                have w_21 : BitVec.toInt (BitVec.ofInt 64 99999) = 99999 := by decide
                refine ⟨fun h_22 => ?_, fun h_22 => ?_⟩
                · refine s_3095_98 _ _ _ ?_
                  refine s_3095_103 _ _ _ _ ?_
                  try rw [show gp_wr (v3_1 + 1) = v3_1 + 1 from gp_wr_id (by omega) (by omega)]
                  exact ih_1 _ _ (by omega) (by omega) (by first | exact Or.inl ⟨rfl, by rcases iv0_1 with q9 | q9; exact q9.2; omega⟩ | exact Or.inl ⟨rfl, Int.toNat v3_1, by omega, by rw [show 1216 + Int.toNat v3_1 = Int.toNat (64 * 19 + v3_1) by omega]; first | exact Or.inl ⟨by assumption, by unfold outr; omega⟩ | exact Or.inr ⟨by assumption, by unfold outr; omega⟩⟩ | exact Or.inr ⟨rfl, BB_nx (by rcases iv0_1 with q9 | q9; omega; exact q9.2) (by omega) (fun q9 => by unfold BBi outr at q9; rcases q9 with ⟨a9, b9⟩ | ⟨a9, b9⟩ <;> first | contradiction | omega)⟩) (by omega)
                · refine s_3095_102 _ _ _ ?_
                  refine s_3095_103 _ _ _ _ ?_
                  try rw [show gp_wr (v3_1 + 1) = v3_1 + 1 from gp_wr_id (by omega) (by omega)]
                  exact ih_1 _ _ (by omega) (by omega) (by first | exact Or.inl ⟨rfl, by rcases iv0_1 with q9 | q9; exact q9.2; omega⟩ | exact Or.inl ⟨rfl, Int.toNat v3_1, by omega, by rw [show 1216 + Int.toNat v3_1 = Int.toNat (64 * 19 + v3_1) by omega]; first | exact Or.inl ⟨by assumption, by unfold outr; omega⟩ | exact Or.inr ⟨by assumption, by unfold outr; omega⟩⟩ | exact Or.inr ⟨rfl, BB_nx (by rcases iv0_1 with q9 | q9; omega; exact q9.2) (by omega) (fun q9 => by unfold BBi outr at q9; rcases q9 with ⟨a9, b9⟩ | ⟨a9, b9⟩ <;> first | contradiction | omega)⟩) (by omega)
              · have hz_23 : ¬ (gp_L s 77 (Int.toNat ((64 * 19) + v3_1))) = 0#64 := fun q => h_15 ((gm_cmp0 _ _).mpr q)
                refine s_3095_102 _ _ _ ?_
                refine s_3095_103 _ _ _ _ ?_
                try rw [show gp_wr (v3_1 + 1) = v3_1 + 1 from gp_wr_id (by omega) (by omega)]
                exact ih_1 _ _ (by omega) (by omega) (by first | exact Or.inl ⟨rfl, by rcases iv0_1 with q9 | q9; exact q9.2; omega⟩ | exact Or.inl ⟨rfl, Int.toNat v3_1, by omega, by rw [show 1216 + Int.toNat v3_1 = Int.toNat (64 * 19 + v3_1) by omega]; first | exact Or.inl ⟨by assumption, by unfold outr; omega⟩ | exact Or.inr ⟨by assumption, by unfold outr; omega⟩⟩ | exact Or.inr ⟨rfl, BB_nx (by rcases iv0_1 with q9 | q9; omega; exact q9.2) (by omega) (fun q9 => by unfold BBi outr at q9; rcases q9 with ⟨a9, b9⟩ | ⟨a9, b9⟩ <;> first | contradiction | omega)⟩) (by omega)
          · have hz_24 : ¬ (gp_L s 76 (Int.toNat ((64 * 19) + v3_1))) = 0#64 := fun q => h_6 ((gm_cmp0 _ _).mpr q)
            refine s_3095_58 _ _ _ ?_
            try rw [show gp_wr (64 * 19) = 64 * 19 from gp_wr_id (by omega) (by omega)]
            try rw [show gp_wr ((64 * 19) + v3_1) = (64 * 19) + v3_1 from gp_wr_id (by omega) (by omega)]
            refine ⟨by omega, ?_⟩
            have b_25 := mr77 hs 19 v3_1 (by omega) (by omega)
            refine ⟨fun h_26 => ?_, fun h_26 => ?_⟩
            · have hz_27 : gp_L s 77 (Int.toNat ((64 * 19) + v3_1)) = 0#64 := (gm_cmp0 _ _).mp h_26
              try rw [show gp_wr (64 * 19) = 64 * 19 from gp_wr_id (by omega) (by omega)]
              try rw [show gp_wr ((64 * 19) + v3_1) = (64 * 19) + v3_1 from gp_wr_id (by omega) (by omega)]
              refine ⟨by omega, ?_⟩
              have hq9 := (q0 (Int.toNat v3_1) (by omega)).2
              rw [show 1216 + Int.toNat v3_1 = Int.toNat (64 * 19 + v3_1) by omega] at hq9
              have hoi := gz_oi (gp_I s 79 (Int.toNat ((64 * 19) + v3_1))) (by omega)
              refine vm_isIn _ _ _ (fun x_28 p_29 p_30 => ⟨_, rfl, ?_⟩)
              have w_31 : BitVec.toInt (BitVec.ofInt 64 (-99999)) = (-99999) := by decide
              have w_32 : BitVec.toInt (BitVec.ofInt 64 99999) = 99999 := by decide
              refine ⟨fun h_33 => ?_, fun h_33 => ?_⟩
              · refine s_3095_98 _ _ _ ?_
                refine s_3095_103 _ _ _ _ ?_
                try rw [show gp_wr (v3_1 + 1) = v3_1 + 1 from gp_wr_id (by omega) (by omega)]
                exact ih_1 _ _ (by omega) (by omega) (by first | exact Or.inl ⟨rfl, by rcases iv0_1 with q9 | q9; exact q9.2; omega⟩ | exact Or.inl ⟨rfl, Int.toNat v3_1, by omega, by rw [show 1216 + Int.toNat v3_1 = Int.toNat (64 * 19 + v3_1) by omega]; first | exact Or.inl ⟨by assumption, by unfold outr; omega⟩ | exact Or.inr ⟨by assumption, by unfold outr; omega⟩⟩ | exact Or.inr ⟨rfl, BB_nx (by rcases iv0_1 with q9 | q9; omega; exact q9.2) (by omega) (fun q9 => by unfold BBi outr at q9; rcases q9 with ⟨a9, b9⟩ | ⟨a9, b9⟩ <;> first | contradiction | omega)⟩) (by omega)
              · refine s_3095_102 _ _ _ ?_
                refine s_3095_103 _ _ _ _ ?_
                try rw [show gp_wr (v3_1 + 1) = v3_1 + 1 from gp_wr_id (by omega) (by omega)]
                exact ih_1 _ _ (by omega) (by omega) (by first | exact Or.inl ⟨rfl, by rcases iv0_1 with q9 | q9; exact q9.2; omega⟩ | exact Or.inl ⟨rfl, Int.toNat v3_1, by omega, by rw [show 1216 + Int.toNat v3_1 = Int.toNat (64 * 19 + v3_1) by omega]; first | exact Or.inl ⟨by assumption, by unfold outr; omega⟩ | exact Or.inr ⟨by assumption, by unfold outr; omega⟩⟩ | exact Or.inr ⟨rfl, BB_nx (by rcases iv0_1 with q9 | q9; omega; exact q9.2) (by omega) (fun q9 => by unfold BBi outr at q9; rcases q9 with ⟨a9, b9⟩ | ⟨a9, b9⟩ <;> first | contradiction | omega)⟩) (by omega)
            · have hz_34 : ¬ (gp_L s 77 (Int.toNat ((64 * 19) + v3_1))) = 0#64 := fun q => h_26 ((gm_cmp0 _ _).mpr q)
              refine s_3095_102 _ _ _ ?_
              refine s_3095_103 _ _ _ _ ?_
              try rw [show gp_wr (v3_1 + 1) = v3_1 + 1 from gp_wr_id (by omega) (by omega)]
              exact ih_1 _ _ (by omega) (by omega) (by first | exact Or.inl ⟨rfl, by rcases iv0_1 with q9 | q9; exact q9.2; omega⟩ | exact Or.inl ⟨rfl, Int.toNat v3_1, by omega, by rw [show 1216 + Int.toNat v3_1 = Int.toNat (64 * 19 + v3_1) by omega]; first | exact Or.inl ⟨by assumption, by unfold outr; omega⟩ | exact Or.inr ⟨by assumption, by unfold outr; omega⟩⟩ | exact Or.inr ⟨rfl, BB_nx (by rcases iv0_1 with q9 | q9; omega; exact q9.2) (by omega) (fun q9 => by unfold BBi outr at q9; rcases q9 with ⟨a9, b9⟩ | ⟨a9, b9⟩ <;> first | contradiction | omega)⟩) (by omega)
        · refine s_3095_98 _ _ _ ?_
          refine s_3095_103 _ _ _ _ ?_
          try rw [show gp_wr (v3_1 + 1) = v3_1 + 1 from gp_wr_id (by omega) (by omega)]
          exact ih_1 _ _ (by omega) (by omega) (by first | exact Or.inl ⟨rfl, by rcases iv0_1 with q9 | q9; exact q9.2; omega⟩ | exact Or.inl ⟨rfl, Int.toNat v3_1, by omega, by rw [show 1216 + Int.toNat v3_1 = Int.toNat (64 * 19 + v3_1) by omega]; first | exact Or.inl ⟨by assumption, by unfold outr; omega⟩ | exact Or.inr ⟨by assumption, by unfold outr; omega⟩⟩ | exact Or.inr ⟨rfl, BB_nx (by rcases iv0_1 with q9 | q9; omega; exact q9.2) (by omega) (fun q9 => by unfold BBi outr at q9; rcases q9 with ⟨a9, b9⟩ | ⟨a9, b9⟩ <;> first | contradiction | omega)⟩) (by omega)
      · refine ⟨by omega, ?_⟩
        exact k _ (by omega) (by rcases iv0_1 with q9 | q9; exact Or.inl q9; exact Or.inr ⟨q9.1, fun z9 => by obtain ⟨j9, a9, b9⟩ := z9; exact q9.2 j9 (by omega) b9⟩)
  exact lp_1 _ _ _ (by omega) (by omega) (Or.inr ⟨rfl, fun j hj => by omega⟩) (Nat.lt_succ_self _)
set_option maxRecDepth 100000 in
/-- GatheredPointsModel.results -/
theorem vm_resultsX  {L d : Nat} {K : Option gV → gH → Prop} {s : gH}  (p0 : Int) (hs : MI s) (h_p0 : 0 ≤ p0 ∧ p0 ≤ 63) (q0 : MDi s) (q1 : p0 < gp_I s 81 20) (q2 : BNM s) (k : ∀ (r : Int), ∀ (t : gH), MI t → gF [76, 77, 78, 79, 80, 81, 86, 87, 88] [] s t → (0 ≤ r ∧ r ≤ 6) → (r ≠ 4 → 1 ≤ gp_I t 81 19 ∧ gp_I t 81 19 ≤ 60) → (r = 4 ∨ r = 6 ∨ r = 0) → (r = 4 → gp_I s 74 15 ≠ 0) → (mK s t) → (gp_I s 74 15 = 0 → (r = 6 ∧ BC s (CLM s p0)) ∨ (r = 0 ∧ ¬ BC s (CLM s p0))) → (gp_I s 74 15 = 0 → gp_I t 81 19 = (gm_cnt (CLM s p0) 64 : Nat)) → K (some (gp_i r)) t) : gs_C L (d + 185) 3119 2 [gp_r (some 74), gp_i p0] s K := by
  have f_1 := mr81 hs 20
  have f_2 := mr81 hs 19
  refine s_3119_e _ ?_
  have f_3 := mr74_15 hs
  refine ⟨fun h_4 => ?_, fun h_4 => ?_⟩
  · refine vm_endsZ _ hs (by omega) (by assumption) (by first | omega | assumption) (fun s_5 hs_6 hf_7 p_8 p_9 p_10 p_11 p_12 => ⟨rfl, ?_⟩)
    have hf_13 : gF [76, 77, 78, 79, 80, 81, 86, 87, 88] [] s s_5 := gF.sub hf_7 rfl rfl
    have mb_14 : mK s s_5 := mK.trans (mK.refl _) p_9
    have hcn := p_10
    have hrs := p_11
    have hbn := BNR_of hrs p_12 (by omega) q2
    refine vm_isBigX hs_6 (by first | omega | assumption) (fun x_15 p_16 p_17 => ⟨_, rfl, ?_⟩)
    have hib := p_17
    rw [BGR_BC hrs] at hib
    refine ⟨fun h_18 => ?_, fun h_18 => ?_⟩
    · refine s_3119_31 _ _ ?_
      exact k _ s_5 hs_6 hf_13 (by omega) (by first | omega | assumption) (by first | omega | assumption) (by first | omega | assumption) mb_14 (by first | exact fun h9 => absurd h9 (by assumption) | exact fun _ => by rcases hib with q9 | q9; exact Or.inl ⟨by omega, q9.2⟩; exact Or.inr ⟨by omega, q9.2⟩ | exact fun _ => by rcases hib with q9 | q9; (exfalso; omega); exact Or.inr ⟨rfl, q9.2⟩ | exact fun _ => by rcases hib with q9 | q9; exact Or.inl ⟨rfl, q9.2⟩; (exfalso; omega)) (by first | exact fun h9 => absurd h9 (by assumption) | exact fun _ => by omega)
    · refine s_3119_31 _ _ ?_
      exact k _ s_5 hs_6 hf_13 (by omega) (by first | omega | assumption) (by first | omega | assumption) (by first | omega | assumption) mb_14 (by first | exact fun h9 => absurd h9 (by assumption) | exact fun _ => by rcases hib with q9 | q9; exact Or.inl ⟨by omega, q9.2⟩; exact Or.inr ⟨by omega, q9.2⟩ | exact fun _ => by rcases hib with q9 | q9; (exfalso; omega); exact Or.inr ⟨rfl, q9.2⟩ | exact fun _ => by rcases hib with q9 | q9; exact Or.inl ⟨rfl, q9.2⟩; (exfalso; omega)) (by first | exact fun h9 => absurd h9 (by assumption) | exact fun _ => by omega)
  · exact k _ s hs (gF.refl _ _ _) (by omega) (by first | omega | assumption) (by first | omega | assumption) (by first | omega | assumption) (mK.refl _) (by first | exact fun h9 => absurd h9 (by assumption) | exact fun _ => by rcases hib with q9 | q9; exact Or.inl ⟨by omega, q9.2⟩; exact Or.inr ⟨by omega, q9.2⟩ | exact fun _ => by rcases hib with q9 | q9; (exfalso; omega); exact Or.inr ⟨rfl, q9.2⟩ | exact fun _ => by rcases hib with q9 | q9; exact Or.inl ⟨rfl, q9.2⟩; (exfalso; omega)) (by first | exact fun h9 => absurd h9 (by assumption) | exact fun _ => by omega)
