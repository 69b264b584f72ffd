/-! sets copied -/
def ROWS (u t : gH) (k : Nat) : Prop := gp_L t 76 k = gp_L u 76 k ∧ gp_L t 77 k = gp_L u 77 k ∧ gp_I t 78 k = gp_I u 78 k ∧ gp_I t 79 k = gp_I u 79 k
theorem ROWS_t {s u t : gH} {k : Nat} (h : ROWS s u k) (g : ROWS u t k) : ROWS s t k := ⟨g.1.trans h.1, g.2.1.trans h.2.1, g.2.2.1.trans h.2.2.1, g.2.2.2.trans h.2.2.2⟩
def CPI (s u : gH) (g h : Int) (v : Int) : Prop := (∀ k : Nat, (k : Int) < v → TM u h.toNat k = TM s g.toNat k) ∧ ∀ k : Nat, ((k : Int) < 64 * h ∨ 64 * h + 64 ≤ k) → ROWS s u k
theorem CPI_0 {s u : gH} {g h : Int} (e : ∀ k, ROWS s u k) : CPI s u g h 0 := ⟨fun k hk => by omega, fun k _ => e k⟩
theorem CPI_s {s u t : gH} {g h v d : Int} {i j : Nat} (c : CPI s u g h v) (hv : 0 ≤ v ∧ v < 64) (hg : 0 ≤ g) (hh : 0 ≤ h) (ne : g ≠ h) (hi : (i : Int) = 64 * h + v) (hj : (j : Int) = 64 * g + v) (et : t = gp_wI (gp_wI (gp_wI (gp_wL (gp_wL u 76 i (gp_L u 76 j)) 77 i (gp_L u 77 j)) 78 i (gp_I u 78 j)) 79 i (gp_I u 79 j)) 80 i d) : CPI s t g h (v + 1) := by
  have L76 : ∀ k, gp_L t 76 k = if k = i then gp_L u 76 j else gp_L u 76 k := fun k => by rw [et]; exact gz_rwLi u 76 i _ k
  have L77 : ∀ k, gp_L t 77 k = if k = i then gp_L u 77 j else gp_L u 77 k := fun k => by rw [et]; exact gz_rwLi (gp_wL u 76 i (gp_L u 76 j)) 77 i _ k
  have I78 : ∀ k, gp_I t 78 k = if k = i then gp_I u 78 j else gp_I u 78 k := fun k => by rw [et]; exact gz_rwi (gp_wL (gp_wL u 76 i (gp_L u 76 j)) 77 i (gp_L u 77 j)) 78 i _ k
  have I79 : ∀ k, gp_I t 79 k = if k = i then gp_I u 79 j else gp_I u 79 k := fun k => by rw [et]; exact gz_rwi (gp_wI (gp_wL (gp_wL u 76 i (gp_L u 76 j)) 77 i (gp_L u 77 j)) 78 i (gp_I u 78 j)) 79 i _ k
  have rj := c.2 j (by omega)
  refine ⟨fun k hk => ?_, fun k hk => ?_⟩
  · unfold TM
    rw [L76, L77, I78, I79]
    by_cases q : k = v.toNat
    · rw [if_pos (by omega), if_pos (by omega), if_pos (by omega), if_pos (by omega), rj.1, rj.2.1, rj.2.2.1, rj.2.2.2, show 64 * g.toNat + k = j by omega]
    · rw [if_neg (by omega), if_neg (by omega), if_neg (by omega), if_neg (by omega)]
      exact c.1 k (by omega)
  · have r := c.2 k hk
    unfold ROWS
    rw [L76, L77, I78, I79, if_neg (by omega), if_neg (by omega), if_neg (by omega), if_neg (by omega)]
    exact r
def CPW (s t : gH) (g h : Int) : Prop := (∀ k : Nat, (k : Int) < gp_I s 81 g.toNat → TM t h.toNat k = TM s g.toNat k) ∧ ∀ k : Nat, ((k : Int) < 64 * h ∨ 64 * h + 64 ≤ k) → ROWS s t k
theorem CPI_e {s u : gH} {g h v : Int} (c : CPI s u g h v) (hv : gp_I s 81 g.toNat ≤ v) : CPW s u g h := ⟨fun k hk => c.1 k (by omega), c.2⟩
/-- sets below the pile's top stay -/
def KCQ (p : Int) (s t : gH) : Prop := ∀ k : Nat, 1344 ≤ k → (k : Int) < 64 * (21 + p) → ROWS s t k
theorem KCQ_r (p : Int) (s : gH) : KCQ p s s := fun _ _ _ => ⟨rfl, rfl, rfl, rfl⟩
theorem KCQ_t {p q : Int} {s u t : gH} (h : KCQ p s u) (g : KCQ q u t) (e : p ≤ q) : KCQ p s t := fun k h1 h2 => ROWS_t (h k h1 h2) (g k h1 (by omega))
theorem KCQ_c {p : Int} {s u t : gH} (h : KCQ p s u) (g : CK u t) : KCQ p s t := fun k h1 h2 => ROWS_t (h k h1 h2) (g k h1)
theorem KCQ_fr {p : Int} {m f : List Nat} {s u t : gH} (h : KCQ p s u) (g : gF m f u t) (e1 : m.contains 76 = false) (e2 : m.contains 77 = false) (e3 : m.contains 78 = false) (e4 : m.contains 79 = false) : KCQ p s t := KCQ_c h (CK_fr (CK_r u) g e1 e2 e3 e4)
theorem GTM_kc {s t : gH} {g x : Nat} {p : Int} (h : GTM s g x) (c : KCQ p s t) (hg : 21 ≤ g ∧ (g : Int) < 21 + p) (e : gp_I t 81 g = gp_I s 81 g) : GTM t g x := GTM_e h e (fun k hk => by
  have q := c (64 * g + k) (by omega) (by omega)
  unfold TM
  rw [q.1, q.2.1, q.2.2.1, q.2.2.2])
theorem GTM_cp {s t : gH} {x : Nat} {h : Int} (a : GTM s 19 x) (c : CPW s t 19 h) (h81 : gp_I t 81 h.toNat = gp_I s 81 19) : GTM t h.toNat x := by
  obtain ⟨h1, h2, h3⟩ := a
  have n0 := h1.1.1
  have e : ∀ k, k < (gp_I s 81 19).toNat → TM t h.toNat k = TM s 19 k := fun k hk => c.1 k (by show (k : Int) < gp_I s 81 19; omega)
  unfold GTM
  rw [h81]
  exact ⟨TBG_congr (fun k hk => (e k hk).symm) h1, h2, by rw [← h3]; exact val_congr ((gp_I s 81 19).toNat) _ (by omega) (fun j hj => e j (by omega))⟩
theorem KCQ_cp {s t : gH} {g h : Int} {p : Int} (c : CPW s t g h) (e : h = 21 + p) : KCQ p s t := fun k _ h2 => c.2 k (Or.inl (by omega))
set_option maxRecDepth 100000 in
/-- GatheredPointsModel.copies -/
theorem vm_copiesV  {L d : Nat} {K : Option gV → gH → Prop} {s : gH}  (p0 : Int) (p1 : Int) (hs : MI s) (h_p0 : 0 ≤ p0 ∧ p0 ≤ 84) (h_p1 : 0 ≤ p1 ∧ p1 ≤ 84) (q0 : p1 ≠ 20) (q1 : (p1 < 8 → 1 ≤ gp_I s 81 p0.toNat)) (q2 : p0 ≠ p1) (k : ∀ (t : gH), MI t → gF [76, 77, 78, 79, 80, 81] [] s t → (gp_I t 81 p1.toNat = gp_I s 81 p0.toNat) → (∀ k : Nat, k ≠ p1.toNat → gp_I t 81 k = gp_I s 81 k) → (CPW s t p0 p1) → K none t) : gs_C L d 3084 6 [gp_r (some 74), gp_i p0, gp_i p1] s K := by
  have f_1 := mr81 hs p0.toNat
  have f_2 := mr81 hs p1.toNat
  refine s_3084_e _ _ ?_
  refine ⟨by omega, ?_⟩
  have f_3 := mr81 hs (Int.toNat p0)
  refine ⟨by omega, ?_⟩
  intro s_4 e_5
  have hs_6 : MI s_4 := by rw [e_5]; exact mw81 hs _ _ (by omega)
  have hf_7 : gF [76, 77, 78, 79, 80, 81] [] s s_4 := by rw [e_5]; exact gF.wI (gF.refl _ _ _) (Or.inl rfl)
  have q_8 := gz_rw s 81 (Int.toNat p1) p0.toNat (gp_I s 81 (Int.toNat p0)); rw [← e_5] at q_8
  have q_9 := gz_rw s 81 (Int.toNat p1) p1.toNat (gp_I s 81 (Int.toNat p0)); rw [← e_5] at q_9
  have lp_10 : ∀ (n_10 : Nat) (v3_10 : Int) (v4_10 : gV) (v5_10 : gV) (s_10 : gH), (MI s_10) → (gF [76, 77, 78, 79, 80, 81] [] s s_10) → (0 ≤ v3_10 ∧ v3_10 ≤ 60) → (gp_I s_10 81 p0.toNat = gp_I s_4 81 p0.toNat) → (gp_I s_10 81 p1.toNat = gp_I s_4 81 p1.toNat) → (∀ k : Nat, k ≠ p1.toNat → gp_I s_10 81 k = gp_I s 81 k) → (CPI s s_10 p0 p1 v3_10) → (gp_I s_10 81 p0.toNat = gp_I s 81 p0.toNat) → (61 - v3_10).toNat < n_10 → gs_E L d 3084 14 [gp_r (some 74), gp_i p0, gp_i p1, gp_i v3_10, v4_10, v5_10] [] s_10 K := by
    intro n_10
    induction n_10 with
    | zero => intro v3_10 v4_10 v5_10 s_10 hs_s_10 hf_s_10 hv3_10 tk0_10 tk1_10 iv0_10 iv1_10 iv2_10 hm_10; exact absurd hm_10 (Nat.not_lt_zero _)
    | succ n_10 ih_10 =>
      intro v3_10 v4_10 v5_10 s_10 hs_s_10 hf_s_10 hv3_10 tk0_10 tk1_10 iv0_10 iv1_10 iv2_10 hm_10
      refine s_3084_14 _ _ _ _ _ ?_
      refine ⟨by omega, ?_⟩
      have f_11 := mr81 hs_s_10 (Int.toNat p0)
      refine ⟨fun h_12 => ?_, fun h_12 => ?_⟩
      · try rw [show gp_wr (64 * p0) = 64 * p0 from gp_wr_id (by omega) (by omega)]
        try rw [show gp_wr ((64 * p0) + v3_10) = (64 * p0) + v3_10 from gp_wr_id (by omega) (by omega)]
        try rw [show gp_wr (64 * p1) = 64 * p1 from gp_wr_id (by omega) (by omega)]
        try rw [show gp_wr ((64 * p1) + v3_10) = (64 * p1) + v3_10 from gp_wr_id (by omega) (by omega)]
        refine ⟨by omega, ?_⟩
        have b_13 := mr76 hs_s_10 p0 v3_10 (by omega) (by omega)
        refine ⟨by omega, ?_⟩
        intro s_14 e_15
        have hs_16 : MI s_14 := by rw [e_15]; exact mw76 hs_s_10 _ _ (by exact bd_le (by assumption) (by omega))
        have hf_17 : gF [76, 77, 78, 79, 80, 81] [] s s_14 := by rw [e_15]; exact gF.wL hf_s_10 (Or.inl rfl)
        have q_18 : gp_I s_14 81 p0.toNat = gp_I s_10 81 p0.toNat := by rw [e_15] <;> rfl
        have q_19 : gp_I s_14 81 p1.toNat = gp_I s_10 81 p1.toNat := by rw [e_15] <;> rfl
        refine ⟨by omega, ?_⟩
        have b_20 := mr77 hs_16 p0 v3_10 (by omega) (by omega)
        refine ⟨by omega, ?_⟩
        intro s_21 e_22
        have hs_23 : MI s_21 := by rw [e_22]; exact mw77 hs_16 _ _ (by exact bd_le (by assumption) (by omega))
        have hf_24 : gF [76, 77, 78, 79, 80, 81] [] s s_21 := by rw [e_22]; exact gF.wL hf_17 (Or.inl rfl)
        have q_25 : gp_I s_21 81 p0.toNat = gp_I s_14 81 p0.toNat := by rw [e_22] <;> rfl
        have q_26 : gp_I s_21 81 p1.toNat = gp_I s_14 81 p1.toNat := by rw [e_22] <;> rfl
        refine ⟨by omega, ?_⟩
        refine ⟨by omega, ?_⟩
        intro s_27 e_28
        have hs_29 : MI s_27 := by rw [e_28]; exact mw78 hs_23 _ _
        have hf_30 : gF [76, 77, 78, 79, 80, 81] [] s s_27 := by rw [e_28]; exact gF.wI hf_24 (Or.inl rfl)
        have q_31 : gp_I s_27 81 p0.toNat = gp_I s_21 81 p0.toNat := by rw [e_28] <;> rfl
        have q_32 : gp_I s_27 81 p1.toNat = gp_I s_21 81 p1.toNat := by rw [e_28] <;> rfl
        refine ⟨by omega, ?_⟩
        refine ⟨by omega, ?_⟩
        intro s_33 e_34
        have hs_35 : MI s_33 := by rw [e_34]; exact mw79 hs_29 _ _
        have hf_36 : gF [76, 77, 78, 79, 80, 81] [] s s_33 := by rw [e_34]; exact gF.wI hf_30 (Or.inl rfl)
        have q_37 : gp_I s_33 81 p0.toNat = gp_I s_27 81 p0.toNat := by rw [e_34] <;> rfl
        have q_38 : gp_I s_33 81 p1.toNat = gp_I s_27 81 p1.toNat := by rw [e_34] <;> rfl
        refine ⟨by omega, ?_⟩
        have f_39 := mr80 hs_35 (Int.toNat ((64 * p0) + v3_10))
        refine ⟨by omega, ?_⟩
        intro s_40 e_41
        have hs_42 : MI s_40 := by rw [e_41]; exact mw80 hs_35 _ _ (by omega)
        have hf_43 : gF [76, 77, 78, 79, 80, 81] [] s s_40 := by rw [e_41]; exact gF.wI hf_36 (Or.inl rfl)
        have q_44 : gp_I s_40 81 p0.toNat = gp_I s_33 81 p0.toNat := by rw [e_41] <;> rfl
        have q_45 : gp_I s_40 81 p1.toNat = gp_I s_33 81 p1.toNat := by rw [e_41] <;> rfl
        try rw [show gp_wr (v3_10 + 1) = v3_10 + 1 from gp_wr_id (by omega) (by omega)]
        exact ih_10 _ _ _ _ hs_42 hf_43 (by omega) (by first | rfl | omega) (by first | rfl | omega) (by subst_vars; assumption) (by subst_vars; exact CPI_s iv1_10 ⟨by omega, by omega⟩ (by omega) (by omega) (by omega) (by omega) (by omega) rfl) (by omega) (by omega)
      · exact k s_10 hs_s_10 hf_s_10 (by first | omega | assumption) (iv0_10) (CPI_e iv1_10 (by omega))
  exact lp_10 _ _ _ _ _ hs_6 hf_7 (by omega) (by first | rfl | omega) (by first | rfl | omega) (by subst_vars; exact fun k hk => (gz_rw _ _ _ _ _).2 (fun h => hk h.symm)) (CPI_0 (by subst_vars; exact fun k => ⟨rfl, rfl, rfl, rfl⟩)) (by omega) (Nat.lt_succ_self _)
set_option maxRecDepth 100000 in
/-- GatheredPointsModel.piles -/
theorem vm_pilesV  {L d : Nat} {K : Option gV → gH → Prop} {s : gH}   (hs : MI s)  (q0 : gp_I s 74 42 ≤ 62) (k : ∀ (t : gH), MI t → gF [76, 77, 78, 79, 80, 81] [42] s t → (gp_I t 74 42 = gp_I s 74 42 + 1) → (kp (gp_I s 74 42) s t) → (gp_I t 81 (Int.toNat (21 + gp_I s 74 42)) = gp_I s 81 19) → (∀ x, GTM s 19 x → GTM t (Int.toNat (21 + gp_I s 74 42)) x) → (KCQ (gp_I s 74 42) s t) → K none t) : gs_C L (d + 1) 3132 1 [gp_r (some 74)] s K := by
  have f_1 := mr74_42 hs
  refine s_3132_e ?_
  have f_2 := mr74_42 hs
  try rw [show gp_wr (21 + (gp_I s 74 42)) = 21 + (gp_I s 74 42) from gp_wr_id (by omega) (by omega)]
  refine vm_copiesV _ _ hs (by omega) (by omega) (by first | omega | assumption) (by show ((21 + (gp_I s 74 42)) < 8 → 1 ≤ gp_I s 81 19); first | omega | assumption) (by first | omega | assumption) (fun s_3 hs_4 hf_5 p_6 p_7 p_8 => ⟨rfl, ?_⟩)
  have hf_9 : gF [76, 77, 78, 79, 80, 81] [42] s s_3 := gF.sub hf_5 rfl rfl
  have q_10 := (hf_5.2 74 42 rfl (fun _ => rfl)).1
  have p_11 : gp_I s_3 81 (21 + (gp_I s 74 42)).toNat = gp_I s 81 19 := p_6
  have hc0 := p_6
  have hc1 := p_7
  have hcp := p_8
  have hc81 := p_6
  have f_12 := mr74_42 hs_4
  try rw [show gp_wr ((gp_I s_3 74 42) + 1) = (gp_I s_3 74 42) + 1 from gp_wr_id (by omega) (by omega)]
  intro s_13 e_14
  have hs_15 : MI s_13 := by rw [e_14]; exact mw74_42 hs_4 _ (by omega)
  have hf_16 : gF [76, 77, 78, 79, 80, 81] [42] s s_13 := by rw [e_14]; exact gF.wI hf_9 (Or.inr ⟨rfl, rfl⟩)
  have q_17 : gp_I s_13 74 42 = (gp_I s_3 74 42) + 1 := by rw [e_14]; exact (gz_rw _ _ _ _ _).1 rfl
  exact k s_13 hs_15 hf_16 (by first | omega | assumption) ((pl_of (t := s_13) hc0 hc1 (by subst_vars; omega) (by subst_vars; exact fun k => rfl) (by omega)).2.1) ((pl_of (t := s_13) hc0 hc1 (by subst_vars; omega) (by subst_vars; exact fun k => rfl) (by omega)).2.2) (fun x h9 => by have h8 := GTM_cp h9 hcp hc81; subst_vars; exact GTM_e h8 rfl (fun k _ => rfl)) (by subst_vars; exact fun k h1 h2 => (KCQ_cp (p := gp_I s 74 42) hcp rfl) k h1 h2)
