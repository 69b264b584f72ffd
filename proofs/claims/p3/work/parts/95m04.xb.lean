/-! a table out of the class's pool -/
theorem TF_5 {u : gH} {a i p : Nat} {x n1 n2 d : Int} {c1 c2 : BitVec 64} (ha : 117 ≤ a) (j : Nat) : TF (gp_wI (gp_wI (gp_wI (gp_wL (gp_wL (gp_wI u 15 p x) (a + 1) i c1) (a + 2) i c2) (a + 3) i n1) (a + 4) i n2) (a + 5) i d) a j = if j = i then (c1, c2, n1, n2) else TF u a j := by
  unfold TF
  have e1 : gp_L (gp_wI (gp_wI (gp_wI (gp_wL (gp_wL (gp_wI u 15 p x) (a + 1) i c1) (a + 2) i c2) (a + 3) i n1) (a + 4) i n2) (a + 5) i d) (a + 1) j = if j = i then c1 else gp_L u (a + 1) j := (L_ne (show a + 1 ≠ a + 2 by omega)).trans (gz_rwLi (gp_wI u 15 p x) (a + 1) i c1 j)
  have e2 : gp_L (gp_wI (gp_wI (gp_wI (gp_wL (gp_wL (gp_wI u 15 p x) (a + 1) i c1) (a + 2) i c2) (a + 3) i n1) (a + 4) i n2) (a + 5) i d) (a + 2) j = if j = i then c2 else gp_L u (a + 2) j := (gz_rwLi (gp_wL (gp_wI u 15 p x) (a + 1) i c1) (a + 2) i c2 j).trans (by rw [show gp_L (gp_wL (gp_wI u 15 p x) (a + 1) i c1) (a + 2) j = gp_L u (a + 2) j from L_ne (by omega)])
  have e3 : gp_I (gp_wI (gp_wI (gp_wI (gp_wL (gp_wL (gp_wI u 15 p x) (a + 1) i c1) (a + 2) i c2) (a + 3) i n1) (a + 4) i n2) (a + 5) i d) (a + 3) j = if j = i then n1 else gp_I u (a + 3) j := by
    rw [I_ne (by omega), I_ne (by omega), gz_rwi]
    rw [show gp_I (gp_wL (gp_wL (gp_wI u 15 p x) (a + 1) i c1) (a + 2) i c2) (a + 3) j = gp_I u (a + 3) j from (I_ne (show a + 3 ≠ 15 by omega))]
  have e4 : gp_I (gp_wI (gp_wI (gp_wI (gp_wL (gp_wL (gp_wI u 15 p x) (a + 1) i c1) (a + 2) i c2) (a + 3) i n1) (a + 4) i n2) (a + 5) i d) (a + 4) j = if j = i then n2 else gp_I u (a + 4) j := by
    rw [I_ne (by omega), gz_rwi, I_ne (by omega)]
    rw [show gp_I (gp_wL (gp_wL (gp_wI u 15 p x) (a + 1) i c1) (a + 2) i c2) (a + 4) j = gp_I u (a + 4) j from (I_ne (show a + 4 ≠ 15 by omega))]
  rw [e1, e2, e3, e4]
  by_cases c : j = i
  · rw [if_pos c, if_pos c, if_pos c, if_pos c, if_pos c]
  · rw [if_neg c, if_neg c, if_neg c, if_neg c, if_neg c]
def TOS (s u : gH) (w : BitVec 64) (r nxt : Int) (a : Nat) : Prop := TOI (CP s).2 (fun q => (gp_I s 14 q).toNat) w r.toNat nxt.toNat (fun j => (gp_I u 15 j).toNat) (TF u a) ∧ MNO (fun q => (gp_I s 14 q).toNat) w r.toNat (fun j => (gp_I u 15 j).toNat) ∧ NRM (TF u a) nxt.toNat
theorem TOS_0 {s u : gH} {w : BitVec 64} {a : Nat} : TOS s u w 0 0 a := ⟨TOI_0, MNO_0, fun k hk => absurd hk (Nat.not_lt_zero _)⟩
theorem TOS_n {s u : gH} {w : BitVec 64} {r nxt : Int} {a : Nat} (h : TOS s u w r nxt a) (h0 : 0 ≤ r) (hw : w.getLsbD (gp_I s 14 r.toNat).toNat = false) : TOS s u w (r + 1) nxt a := by
  unfold TOS
  rw [show (r + 1).toNat = r.toNat + 1 by omega]
  have n : ¬ w.getLsbD (gp_I s 14 r.toNat).toNat = true := by rw [hw]; exact Bool.false_ne_true
  exact ⟨TOI_n h.1 n, MNO_n h.2.1 n, h.2.2⟩
theorem PO_at {L : Nat} {s : gH} (hs : XI L 0 s) (po : PO s) {q r : Nat} (hq : (q : Int) < gp_I s 6 4) (hr : (r : Int) < gp_I s 6 4) (e : (gp_I s 14 q).toNat = (gp_I s 14 r).toNat) : q = r := by
  have a := (po.1 q hq).2
  have b := (po.1 r hr).2
  rw [e] at a
  omega
theorem TOS_y {L : Nat} {s u0 u x1 x2 : gH} {w c1 c2 : BitVec 64} {r nxt : Int} {a : Nat} (h : TOS s u0 w r nxt a) (hs : XI L 0 s) (po : PO s) (gv : GVC s) (h0 : 0 ≤ r) (hr : r < gp_I s 6 4) (n0 : 0 ≤ nxt) (hw : w.getLsbD (gp_I s 14 r.toNat).toNat = true) (fc : FC (gp_L s 8) (gp_L s 9) w) (e15 : ∀ k, gp_I u 15 k = if k = (gp_I s 14 r.toNat).toNat then nxt else gp_I u0 15 k) (hTF : ∀ i, TF u a i = if i = nxt.toNat then (c1, c2, gp_I s 10 (gp_I s 14 r.toNat).toNat, gp_I s 11 (gp_I s 14 r.toNat).toNat) else TF u0 a i) (ca1 : CAR (gp_L s 8 (gp_I s 14 r.toNat).toNat) c1 (fun j => (gp_I x1 15 j).toNat)) (ca2 : CAR (gp_L s 9 (gp_I s 14 r.toNat).toNat) c2 (fun j => (gp_I x2 15 j).toNat)) (ex1 : ∀ k, gp_I x1 15 k = gp_I u 15 k) (ex2 : ∀ k, gp_I x2 15 k = gp_I u 15 k) : TOS s u w (r + 1) (nxt + 1) a := by
  obtain ⟨t1, t2, t3⟩ := h
  have p1 := po.1 r.toNat (by omega)
  have pr := (xr14 hs r.toNat).1
  have inj : ∀ q, q < r.toNat → (gp_I s 14 q).toNat ≠ (gp_I s 14 r.toNat).toNat := fun q hq e => by
    have := PO_at hs po (by omega) (by omega) e
    omega
  have hp : ∀ j, (gp_I u 15 j).toNat = if j = (gp_I s 14 r.toNat).toNat then nxt.toNat else (gp_I u0 15 j).toNat := fun j => by
    rw [e15]
    by_cases c : j = (gp_I s 14 r.toNat).toNat
    · rw [if_pos c, if_pos c]
    · rw [if_neg c, if_neg c]
  have pN : (gp_I s 14 r.toNat).toNat < (CP s).1 := by
    show (gp_I s 14 r.toNat).toNat < (gp_I s 6 4).toNat
    omega
  have ho : ∀ j, ((gp_L s 8 (gp_I s 14 r.toNat).toNat).getLsbD j = true ∨ (gp_L s 9 (gp_I s 14 r.toNat).toNat).getLsbD j = true) → j < (gp_I s 14 r.toNat).toNat ∧ w.getLsbD j = true ∧ ∃ q, q < r.toNat ∧ (gp_I s 14 q).toNat = j := fun j hj => by
    have jl := gv.2.1 _ pN j hj
    have jN : (j : Int) < gp_I s 6 4 := by omega
    have z := po.2.1 j jN
    have rk := (xr13 hs j).1
    have dp := po.2.2.2 _ j (by omega) hj
    have da := xr14 hs (gp_I s 13 j).toNat
    refine ⟨jl, fc _ j hw hj, (gp_I s 13 j).toNat, ?_, by omega⟩
    by_cases c : (gp_I s 13 j).toNat < r.toNat
    · exact c
    · have := po.2.2.1 r.toNat (gp_I s 13 j).toNat (by omega) (by omega)
      rw [show (gp_I s 14 (gp_I s 13 j).toNat).toNat = j by omega] at this
      omega
  have nl : TF u a nxt.toNat = (c1, c2, gp_I s 10 (gp_I s 14 r.toNat).toNat, gp_I s 11 (gp_I s 14 r.toNat).toNat) := by rw [hTF, if_pos rfl]
  have cg1 : CAR (gp_L s 8 (gp_I s 14 r.toNat).toNat) c1 (fun j => (gp_I u0 15 j).toNat) := CAR_cg ca1 (fun j hj => by
    have := (ho j (Or.inl hj)).1
    show (gp_I u0 15 j).toNat = (gp_I x1 15 j).toNat
    rw [ex1, hp, if_neg (by omega)])
  have cg2 : CAR (gp_L s 9 (gp_I s 14 r.toNat).toNat) c2 (fun j => (gp_I u0 15 j).toNat) := CAR_cg ca2 (fun j hj => by
    have := (ho j (Or.inr hj)).1
    show (gp_I u0 15 j).toNat = (gp_I x2 15 j).toNat
    rw [ex2, hp, if_neg (by omega)])
  unfold TOS
  rw [show (r + 1).toNat = r.toNat + 1 by omega, show (nxt + 1).toNat = nxt.toNat + 1 by omega]
  refine ⟨TOI_y t1 hw inj ho hp (fun i hi => by rw [hTF, if_neg (by omega)]) (by rw [nl]; exact cg1) (by rw [nl]; exact cg2) (by rw [nl]; rfl) (by rw [nl]; rfl), MNO_y t2 t1 inj hp, fun k hk => ?_⟩
  by_cases c : k = nxt.toNat
  · rw [c, nl]
    have z := gv.1.2 _ pN
    exact ⟨fun q => z.1 (fun y => q ((CAR_0 cg1).mpr y)), fun q => z.2 (fun y => q ((CAR_0 cg2).mpr y))⟩
  · rw [hTF, if_neg c]; exact t3 k (by omega)
theorem rch_d {s : gH} (po : PO s) (gv : GVC s) : ∀ m i k, i < (CP s).1 → rch (CP s).2 m i k → k = i ∨ gp_I s 12 k < gp_I s 12 i
  | 0, i, k, _, h => Or.inl (by have h' : i = k := h; exact h'.symm)
  | m + 1, i, k, hi, h => by
    obtain ⟨j, j1, j2, j3⟩ := h
    have hi2 : i < (gp_I s 6 4).toNat := hi
    have d := po.2.2.2 i j (by omega) j2
    rcases rch_d po gv m j k (by omega) j3 with q | q
    · rw [q]; exact Or.inr d
    · exact Or.inr (by omega)
theorem TOS_end {L : Nat} {s u : gH} {w : BitVec 64} {r nxt p0 : Int} {a : Nat} (h : TOS s u w r nxt a) (hs : XI L 0 s) (po : PO s) (gv : GVC s) (hp : 0 ≤ p0 ∧ p0 < gp_I s 6 4) (hw : w = CLT s 7 p0) (hr : 0 ≤ r ∧ r ≤ gp_I s 6 4) (n0 : 0 ≤ nxt) (end_ : nxt = (gm_cnt w 64 : Nat) ∨ r = gp_I s 6 4) (le : nxt ≤ (gm_cnt w 64 : Nat)) : TBL (TF u a) (gm_cnt w 64) ∧ NRM (TF u a) (gm_cnt w 64) ∧ val (TF u a) (gm_cnt w 64 - 1) = val (CP s).2 p0.toNat ∧ ∀ i, i < gm_cnt w 64 → PS (CP s) (val (TF u a) i) := by
  obtain ⟨t1, t2, t3⟩ := h
  have N60 := xr6_4 hs
  have rng : ∀ q, q < (gp_I s 6 4).toNat → (gp_I s 14 q).toNat < (gp_I s 6 4).toNat := fun q hq => by
    have := (po.1 q (by omega)).1
    have := (xr14 hs q).1
    omega
  have hw2 : w = clo (mskf (CP s).2) p0.toNat (1#64 <<< p0.toNat) := by
    rw [hw]
    unfold CLT
    rw [show Int.toNat (p0 % 64) = p0.toNat by omega]
    rfl
  have z := TOI_end t1 (n := (gp_I s 6 4).toNat) gv.2.1 gv.1.1 (node := p0.toNat) (by omega) (by omega) hw2 (by omega) (fun q q' a b e => PO_at hs po (by omega) (by omega) e) rng (fun k hk => by
    have x := po.2.1 k (by omega)
    have y := (xr13 hs k).1
    have y2 := (xr14 hs (gp_I s 13 k).toNat).1
    exact ⟨(gp_I s 13 k).toNat, by omega, by omega⟩) (fun q hq hb q' hq' e => by
    rw [hw2] at hb
    obtain ⟨m, hm⟩ := (clo_rch (fun i hi => gv.2.1 i (by show i < (gp_I s 6 4).toNat; omega)) (by omega) _).mp hb
    by_cases c : q ≤ q'
    · exact c
    · have d1 := po.2.2.1 q' q (by omega) (by omega)
      rw [e] at d1
      rcases rch_d po gv m _ _ (show p0.toNat < (gp_I s 6 4).toNat by omega) hm with y | y
      · have := PO_at hs po (q := q) (r := q') (by omega) (by omega) (y.trans e.symm)
        omega
      · omega) t2 (by omega) (by omega)
  rw [← z.1]
  exact ⟨z.2.1, t3, z.2.2.1, z.2.2.2⟩
theorem TOS_y2 {L : Nat} {s u0 u x1 x2 : gH} {w c1 c2 : BitVec 64} {r nxt : Int} {a p : Nat} (h : TOS s u0 w r nxt a) (hs : XI L 0 s) (po : PO s) (gv : GVC s) (hp : p = (gp_I s 14 r.toNat).toNat) (h0 : 0 ≤ r) (hr : r < gp_I s 6 4) (n0 : 0 ≤ nxt) (hw : w.getLsbD p = true) (fc : FC (gp_L s 8) (gp_L s 9) w) (e15 : ∀ k, gp_I u 15 k = if k = p then nxt else gp_I u0 15 k) (hTF : ∀ i, TF u a i = if i = nxt.toNat then (c1, c2, gp_I s 10 p, gp_I s 11 p) else TF u0 a i) (ca1 : CAR (gp_L s 8 p) c1 (fun j => (gp_I x1 15 j).toNat)) (ca2 : CAR (gp_L s 9 p) c2 (fun j => (gp_I x2 15 j).toNat)) (ex1 : ∀ k, gp_I x1 15 k = if k = p then nxt else gp_I u0 15 k) (ex2 : ∀ k, gp_I x2 15 k = if k = p then nxt else gp_I u0 15 k) : TOS s u w (r + 1) (nxt + 1) a := by
  subst hp
  exact TOS_y h hs po gv h0 hr n0 hw fc e15 hTF ca1 ca2 (fun k => (ex1 k).trans (e15 k).symm) (fun k => (ex2 k).trans (e15 k).symm)
theorem RETV_of {L : Nat} {s t : gH} {a n : Nat} {w : BitVec 64} {p0 : Int} (hk : kT L t a n) (h60 : n ≤ 60) (ha : 117 ≤ a) (e : n = gm_cnt w 64) (E : TBL (TF t a) (gm_cnt w 64) ∧ NRM (TF t a) (gm_cnt w 64) ∧ val (TF t a) (gm_cnt w 64 - 1) = val (CP s).2 p0.toNat ∧ ∀ i, i < gm_cnt w 64 → PS (CP s) (val (TF t a) i)) : ∃ a' n', some a = some a' ∧ kT L t a' n' ∧ n' ≤ 60 ∧ 117 ≤ a' ∧ TBL (TF t a') n' ∧ NRM (TF t a') n' ∧ val (TF t a') (n' - 1) = val (CP s).2 p0.toNat ∧ ∀ i, i < n' → PS (CP s) (val (TF t a') i) := by
  subst e
  exact ⟨a, _, rfl, hk, h60, ha, E.1, E.2.1, E.2.2⟩
set_option maxRecDepth 100000 in
/-- Pool.tableOf -/
theorem xm_tableOfV  {L d : Nat} {K : Option gV → gH → Prop} {s : gH}  (p0 : Int) (hs : XI L 0 s) (h_p0 : 0 ≤ p0 ∧ p0 ≤ 59) (q0 : PO s) (q1 : p0 < gp_I s 6 4) (q2 : GVC s) (k : ∀ (r : Option Nat), ∀ (t : gH), XI L 0 t → gX L true [15] s t → (∃ a n, r = some a ∧ kT L t a n ∧ n ≤ 60 ∧ 117 ≤ a ∧ TBL (TF t a) n ∧ NRM (TF t a) n ∧ val (TF t a) (n - 1) = val (CP s).2 p0.toNat ∧ ∀ i, i < n → PS (CP s) (val (TF t a) i)) → (gp_sz t ≤ gp_sz s + 6) → (gp_us t ≤ gp_us s + 310) → (IK s t) → K (some (gp_r r)) t) : gs_C L (d + 3) 1032 8 [gp_r (some 6), gp_i p0] s K := by
  have f_1 := xr6_4 hs
  refine s_1032_e _ ?_
  refine xm_followersX 61 _ _ hs (by omega) (by first | assumption | exact kT7 hs.1.1 | exact kT25 hs.1.1) (by first | omega | assumption) (fun m_2 p_3 p_4 p_5 p_6 => ⟨_, rfl, ?_⟩)
  have hFC := p_5
  have hbN : bd m_2 (gp_I s 6 4) := bd_le p_4 (by omega)
  have hbt := p_3
  have hCL := p_6
  refine ⟨hs.1.1, ?_⟩
  intro s_7 e_8
  have h9_s_7 : (gp_sh (gp_mk L s_7) (gp_sz s)) = (9, 10) := by rw [e_8, sh_new hs.1.1, if_pos rfl]
  have hR_s_7 : ∀ f, gp_R (gp_mk L s_7) (gp_sz s) f = none := fun f => by rw [e_8, R_new hs.1.1, if_pos rfl]
  have hz_s_7 : gp_sz s_7 = gp_sz s + 1 ∧ gp_us s_7 = gp_us s + 10 := by rw [e_8]; exact ⟨rfl, rfl⟩
  have hw_s_7 : 117 ≤ gp_sz s := hs.1.1
  have hs_9 : XI L (gp_sz s) s_7 := by rw [e_8]; exact XI.new ⟨XT.weak hs.1, hs.2⟩ _ _ (Or.inr rfl)
  have hk_s_7 : (gp_sh (gp_mk L s_7) (gp_sz s)).1 = 9 := by rw [h9_s_7]
  have hf_10 : gX L true [15] s s_7 := by rw [e_8]; exact gX.new (gX.refl _ _ _ _) _ _ hs.1.1
  have hg_s_7 : gX L true [] s s_7 := by rw [e_8]; exact gX.new (gX.refl L true [] _) _ _ hs.1.1
  have pd_11 : PO s_7 := PO_fr q0 hg_s_7 rfl rfl rfl rfl rfl rfl
  have pd_12 : GVC s_7 := GVC_fr q2 hg_s_7 rfl rfl rfl rfl rfl
  have q_13 : gp_I s_7 6 4 = gp_I s 6 4 := (hg_s_7.2.2.1 6 4 (by decide) (by decide) rfl).1
  have hlo_s_7 : s.1 ≤ gp_sz s := (gX.refl L true [] s).1.1
  have hlp_s_7 : s.1 ≤ s.1 := hlo_s_7
  have pd_14 : IK s s_7 := by rw [e_8]; exact IK_n (IK_r s) hlo_s_7
  refine xm_bc _ (fun x_15 p_16 p_17 => ⟨_, rfl, ?_⟩)
  have hcn := cnt_range hbt hbN (by omega)
  have hbcx := p_17
  refine xm_initX _ _ (by omega) (by assumption) (by first | omega | assumption) (by first | omega | assumption) (by first | omega | assumption) (by first | omega | assumption) (fun s_18 hs_19 hf_20 p_21 p_22 p_23 p_24 p_25 p_26 => ⟨rfl, ?_⟩)
  have hf_27 : gX L true [15] s s_18 := gX.trans hf_10 hf_20 rfl rfl
  have pd_28 : PO s_18 := PO_fr pd_11 hf_20 rfl rfl rfl rfl rfl rfl
  have pd_29 : GVC s_18 := GVC_fr pd_12 hf_20 rfl rfl rfl rfl rfl
  have q_30 : gp_I s_18 6 4 = gp_I s_7 6 4 := (hf_20.2.2.1 6 4 (by decide) (by decide) rfl).1
  have pd_31 : IK s s_18 := IK_b pd_14 p_26 (by omega)
  obtain ⟨a_32, ha_32⟩ : ∃ a, (gp_sz s) = a := ⟨_, rfl⟩
  have hba_32 : s.1 = a_32 := ha_32
  obtain ⟨n_33, hn_33⟩ : ∃ n : Nat, Int.toNat x_15 = n := ⟨_, rfl⟩
  rw [ha_32] at p_21 p_22 ⊢
  rw [hn_33] at p_21
  have hn_a_32 := p_21.n hs_19
  have hr_a_32 := (p_21.tt hs_19).1.1
  rw [ha_32] at p_25
  have lp_35 : ∀ (n_35 : Nat) (v5_35 : Int) (v6_35 : Int) (v7_35 : gV) (s_35 : gH), (XI L 0 s_35) → (gX L true [15] s s_35) → (PO s_35) → (IK s s_35) → (GVC s_35) → (kT L s_35 a_32 n_33) → (gp_sz s_35 ≤ gp_sz s + 6 ∧ gp_us s_35 ≤ gp_us s + 310) → (0 ≤ v5_35 ∧ v5_35 ≤ 60) → (0 ≤ v6_35 ∧ v6_35 ≤ 60) → (gp_I s_35 6 4 = gp_I s_18 6 4) → (∀ p : Nat, (m_2).getLsbD p = true → gp_I s_35 13 p < v6_35 → 0 ≤ gp_I s_35 15 p ∧ gp_I s_35 15 p < v5_35) → (TOS s s_35 m_2 v6_35 v5_35 a_32) → (v5_35 ≤ (gm_cnt m_2 64 : Nat)) → (v6_35 ≤ gp_I s 6 4) → (Int.toNat (61 - v6_35)) < n_35 → gs_E L (d + 3) 1032 28 [gp_r (some 6), gp_i p0, gp_l m_2, gp_n, gp_r (some a_32), gp_i v5_35, gp_i v6_35, v7_35] [] s_35 K := by
    intro n_35
    induction n_35 with
    | zero => intro v5_35 v6_35 v7_35 s_35 hs_s_35 hf_s_35 PO_s_35 IK_s_s_35 GVC_s_35 kt_a_32_s_35 rm_s_35 hv5_35 hv6_35 tk0_35 iv0_35 iv1_35 iv2_35 iv3_35 hm_35; exact absurd hm_35 (Nat.not_lt_zero _)
    | succ n_35 ih_35 =>
      intro v5_35 v6_35 v7_35 s_35 hs_s_35 hf_s_35 PO_s_35 IK_s_s_35 GVC_s_35 kt_a_32_s_35 rm_s_35 hv5_35 hv6_35 tk0_35 iv0_35 iv1_35 iv2_35 iv3_35 hm_35
      refine s_1032_28 _ _ _ _ _ _ ?_
      have f_36 := xr6_4 hs_s_35
      refine ⟨fun h_37 => ?_, fun h_37 => ?_⟩
      · refine ⟨a_32, rfl, ?_⟩
        refine ⟨kt_a_32_s_35.2.1, ?_⟩
        have f_38 := (kt_a_32_s_35.tt hs_s_35).1.2.2.1
        have f_39 := kt_a_32_s_35.n hs_s_35
        refine ⟨fun h_40 => ?_, fun h_40 => ?_⟩
        · refine ⟨by omega, ?_⟩
          have f_41 := xr14 hs_s_35 (Int.toNat v6_35)
          have h14 : gp_I s_35 14 (Int.toNat v6_35) = gp_I s 14 (Int.toNat v6_35) := (hf_s_35.2.2.1 14 _ (by decide) (by decide) rfl).1
          refine xm_has _ _ (by omega) (fun x_42 p_43 p_44 => ⟨_, rfl, ?_⟩)
          refine ⟨fun h_45 => ?_, fun h_45 => ?_⟩
          · have hb_46 := hasF p_44 h_45
            refine s_1032_181 _ _ _ _ _ _ ?_
            try rw [show gp_wr (v6_35 + 1) = v6_35 + 1 from gp_wr_id (by omega) (by omega)]
            exact ih_35 _ _ _ _ hs_s_35 hf_s_35 PO_s_35 IK_s_s_35 GVC_s_35 kt_a_32_s_35 (by omega) (by omega) (by omega) (by first | rfl | omega) (by first | exact tb_step PO_s_35 (by omega) (bd_le hbN (by omega)) iv0_35 (by omega) he13 he15 | exact tb_no PO_s_35 (bd_le hbN (by omega)) iv0_35 (by assumption)) (by first | exact TOS_n iv1_35 (by omega) (by rw [← h14]; assumption) | exact TOS_y2 iv1_35 hs q0 q2 (congrArg Int.toNat h14) (by omega) (by omega) (by omega) (by assumption) hFC he15 hTF hca1 hca2 hx1 hx2) (by first | omega | assumption) (by first | omega | assumption) (by omega)
          · have hb_49 := hasT p_44 h_45
            have hpo := PO_s_35.1 (Int.toNat v6_35) (by omega)
            refine ⟨by omega, ?_⟩
            intro s_50 e_51
            have hs_52 : XI L 0 s_50 := by rw [e_51]; exact xw15 hs_s_35 _ _ (by omega)
            have hf_53 : gX L true [15] s s_50 := by rw [e_51]; exact gX.wI hf_s_35 (Or.inl rfl)
            have kt_54 : kT L s_50 a_32 n_33 := by rw [e_51]; exact kt_a_32_s_35
            have z_55 : gp_sz s_50 = gp_sz s_35 ∧ gp_us s_50 = gp_us s_35 := by rw [e_51]; exact ⟨rfl, rfl⟩
            have q_56 : gp_I s_50 6 4 = gp_I s_35 6 4 := by rw [e_51] <;> first | rfl | exact I_ne (by omega)
            have pd_57 : PO s_50 := by rw [e_51]; exact PO_fr PO_s_35 (gX.wI (gX.refl L true [15] _) (Or.inl rfl)) rfl rfl rfl rfl rfl rfl
            have pd_58 : IK s s_50 := by rw [e_51]; exact IK_wI IK_s_s_35 (Or.inl (by decide))
            have pd_59 : GVC s_50 := by rw [e_51]; exact GVC_fr GVC_s_35 (gX.wI (gX.refl L true [15] _) (Or.inl rfl)) rfl rfl rfl rfl rfl
            have hPK := tb_pre PO_s_35 hs_s_35 (bd_le hbN (by omega)) (FC_eq hFC hf_s_35 rfl rfl) (by omega) (by assumption) iv0_35 (by assumption)
            refine ⟨kt_54.2.1, ?_⟩
            refine ⟨by omega, ?_⟩
            have b_60 : bd (gp_L s_50 8 (Int.toNat (gp_I s_35 14 (Int.toNat v6_35)))) (gp_I s_35 14 (Int.toNat v6_35)) := bd_le (xr8 hs_52 (Int.toNat (gp_I s_35 14 (Int.toNat v6_35)))) (by omega)
            refine xm_carried15X v5_35 (gp_I s_35 14 (Int.toNat v6_35)) _ hs_52 (by first | assumption | exact bd_le (by assumption) (by omega) | exact bd_0 _) (by first | omega | assumption) (by first | omega | assumption) (fun k hk => hPK k (Or.inl hk)) (fun m_61 p_62 p_63 => ⟨_, rfl, ?_⟩)
            obtain ⟨c19, hc19⟩ : ∃ c, c = m_61 := ⟨_, rfl⟩
            have hca1 := p_63
            rw [← hc19, (hf_53.2.2.1 8 _ (by decide) (by decide) rfl).2.1] at hca1
            have hx1 : ∀ k, gp_I s_50 15 k = if k = Int.toNat (gp_I s_35 14 (Int.toNat v6_35)) then v5_35 else gp_I s_35 15 k := by rw [‹s_50 = gp_wI _ 15 _ _›]; exact fun k => gz_rwi _ 15 _ _ k
            refine ⟨(a_32 + 1), (kt_54.tt hs_52).1.2.2.2.1.1, ?_⟩
            refine ⟨gin ((kt_54.tt hs_52).1.2.2.2.2.1.1) (by omega), ?_⟩
            intro s_64 e_65
            have hs_66 : XI L 0 s_64 := by rw [e_65]; exact XI.t12 hs_52 kt_54 _ _ _ (Or.inl rfl) (by exact bd_le (by assumption) (by omega))
            have hf_67 : gX L true [15] s s_64 := by rw [e_65]; exact gX.wL hf_53 (gXl (by omega) (by omega))
            have kt_68 : kT L s_64 a_32 n_33 := by rw [e_65]; exact kt_54
            have z_69 : gp_sz s_64 = gp_sz s_50 ∧ gp_us s_64 = gp_us s_50 := by rw [e_65]; exact ⟨rfl, rfl⟩
            have q_70 : gp_I s_64 6 4 = gp_I s_50 6 4 := by rw [e_65] <;> first | rfl | exact I_ne (by omega)
            have pd_72 : PO s_64 := by rw [e_65]; exact PO_wL pd_57 (by omega)
            have pd_73 : IK s s_64 := by rw [e_65]; exact IK_wL pd_58
            have pd_75 : GVC s_64 := by rw [e_65]; exact GVC_wL pd_59 (by omega)
            refine ⟨kt_68.2.1, ?_⟩
            refine ⟨by omega, ?_⟩
            have b_76 : bd (gp_L s_64 9 (Int.toNat (gp_I s_35 14 (Int.toNat v6_35)))) (gp_I s_35 14 (Int.toNat v6_35)) := bd_le (xr9 hs_66 (Int.toNat (gp_I s_35 14 (Int.toNat v6_35)))) (by omega)
            refine xm_carried15X v5_35 (gp_I s_35 14 (Int.toNat v6_35)) _ hs_66 (by first | assumption | exact bd_le (by assumption) (by omega) | exact bd_0 _) (by first | omega | assumption) (by first | omega | assumption) (fun k hk => tb2 (by assumption) (by omega) hPK k (Or.inr hk)) (fun m_77 p_78 p_79 => ⟨_, rfl, ?_⟩)
            obtain ⟨c29, hc29⟩ : ∃ c, c = m_77 := ⟨_, rfl⟩
            have hca2 := p_79
            rw [← hc29, (hf_67.2.2.1 9 _ (by decide) (by decide) rfl).2.1] at hca2
            have hx2 : ∀ k, gp_I s_64 15 k = if k = Int.toNat (gp_I s_35 14 (Int.toNat v6_35)) then v5_35 else gp_I s_35 15 k := by rw [‹s_64 = gp_wL _ _ _ _›]; exact hx1
            refine ⟨(a_32 + 2), (kt_68.tt hs_66).1.2.2.2.1.2.1, ?_⟩
            refine ⟨gin ((kt_68.tt hs_66).1.2.2.2.2.1.2.1) (by omega), ?_⟩
            intro s_80 e_81
            have hs_82 : XI L 0 s_80 := by rw [e_81]; exact XI.t12 hs_66 kt_68 _ _ _ (Or.inr rfl) (by exact bd_le (by assumption) (by omega))
            have hf_83 : gX L true [15] s s_80 := by rw [e_81]; exact gX.wL hf_67 (gXl (by omega) (by omega))
            have kt_84 : kT L s_80 a_32 n_33 := by rw [e_81]; exact kt_68
            have z_85 : gp_sz s_80 = gp_sz s_64 ∧ gp_us s_80 = gp_us s_64 := by rw [e_81]; exact ⟨rfl, rfl⟩
            have q_86 : gp_I s_80 6 4 = gp_I s_64 6 4 := by rw [e_81] <;> first | rfl | exact I_ne (by omega)
            have pd_88 : PO s_80 := by rw [e_81]; exact PO_wL pd_72 (by omega)
            have pd_89 : IK s s_80 := by rw [e_81]; exact IK_wL pd_73
            have pd_91 : GVC s_80 := by rw [e_81]; exact GVC_wL pd_75 (by omega)
            refine ⟨kt_84.2.1, ?_⟩
            refine ⟨by omega, ?_⟩
            have hn1 : (gp_I s_80 10 (Int.toNat (gp_I s_35 14 (Int.toNat v6_35)))) = gp_I s 10 (Int.toNat (gp_I s_35 14 (Int.toNat v6_35))) := (hf_83.2.2.1 10 _ (by decide) (by decide) rfl).1
            refine ⟨(a_32 + 3), (kt_84.tt hs_82).1.2.2.2.1.2.2.1, ?_⟩
            refine ⟨gin ((kt_84.tt hs_82).1.2.2.2.2.1.2.2.1) (by omega), ?_⟩
            intro s_92 e_93
            have hs_94 : XI L 0 s_92 := by rw [e_93]; exact XI.t34 hs_82 kt_84 _ _ _ (Or.inl rfl)
            have hf_95 : gX L true [15] s s_92 := by rw [e_93]; exact gX.wI hf_83 (gXt kt_84 hs_82 (by omega) (by omega) (by omega))
            have kt_96 : kT L s_92 a_32 n_33 := by rw [e_93]; exact kt_84
            have z_97 : gp_sz s_92 = gp_sz s_80 ∧ gp_us s_92 = gp_us s_80 := by rw [e_93]; exact ⟨rfl, rfl⟩
            have q_98 : gp_I s_92 6 4 = gp_I s_80 6 4 := by rw [e_93] <;> first | rfl | exact I_ne (by omega)
            have pd_99 : PO s_92 := by rw [e_93]; exact PO_fr pd_88 (gX.wI (gX.refl L true [] _) (gXt kt_84 hs_82 (by omega) (by omega) (by omega))) rfl rfl rfl rfl rfl rfl
            have pd_100 : IK s s_92 := by rw [e_93]; exact IK_wI pd_89 (Or.inr (by omega))
            have pd_101 : GVC s_92 := by rw [e_93]; exact GVC_fr pd_91 (gX.wI (gX.refl L true [] _) (gXt kt_84 hs_82 (by omega) (by omega) (by omega))) rfl rfl rfl rfl rfl
            refine ⟨kt_96.2.1, ?_⟩
            refine ⟨by omega, ?_⟩
            have hn2 : (gp_I s_92 11 (Int.toNat (gp_I s_35 14 (Int.toNat v6_35)))) = gp_I s 11 (Int.toNat (gp_I s_35 14 (Int.toNat v6_35))) := (hf_95.2.2.1 11 _ (by decide) (by decide) rfl).1
            refine ⟨(a_32 + 4), (kt_96.tt hs_94).1.2.2.2.1.2.2.2.1, ?_⟩
            refine ⟨gin ((kt_96.tt hs_94).1.2.2.2.2.1.2.2.2.1) (by omega), ?_⟩
            intro s_102 e_103
            have hs_104 : XI L 0 s_102 := by rw [e_103]; exact XI.t34 hs_94 kt_96 _ _ _ (Or.inr rfl)
            have hf_105 : gX L true [15] s s_102 := by rw [e_103]; exact gX.wI hf_95 (gXt kt_96 hs_94 (by omega) (by omega) (by omega))
            have kt_106 : kT L s_102 a_32 n_33 := by rw [e_103]; exact kt_96
            have z_107 : gp_sz s_102 = gp_sz s_92 ∧ gp_us s_102 = gp_us s_92 := by rw [e_103]; exact ⟨rfl, rfl⟩
            have q_108 : gp_I s_102 6 4 = gp_I s_92 6 4 := by rw [e_103] <;> first | rfl | exact I_ne (by omega)
            have pd_109 : PO s_102 := by rw [e_103]; exact PO_fr pd_99 (gX.wI (gX.refl L true [] _) (gXt kt_96 hs_94 (by omega) (by omega) (by omega))) rfl rfl rfl rfl rfl rfl
            have pd_110 : IK s s_102 := by rw [e_103]; exact IK_wI pd_100 (Or.inr (by omega))
            have pd_111 : GVC s_102 := by rw [e_103]; exact GVC_fr pd_101 (gX.wI (gX.refl L true [] _) (gXt kt_96 hs_94 (by omega) (by omega) (by omega))) rfl rfl rfl rfl rfl
            refine ⟨kt_106.2.1, ?_⟩
            refine ⟨by omega, ?_⟩
            have f_112 := xr12 hs_104 (Int.toNat (gp_I s_35 14 (Int.toNat v6_35)))
            refine ⟨(a_32 + 5), (kt_106.tt hs_104).1.2.2.2.1.2.2.2.2, ?_⟩
            refine ⟨gin ((kt_106.tt hs_104).1.2.2.2.2.1.2.2.2.2) (by omega), ?_⟩
            intro s_113 e_114
            have hs_115 : XI L 0 s_113 := by rw [e_114]; exact XI.t5 hs_104 kt_106 _ _ _ rfl (by omega) (by omega)
            have hf_116 : gX L true [15] s s_113 := by rw [e_114]; exact gX.wI hf_105 (gXt kt_106 hs_104 (by omega) (by omega) (by omega))
            have kt_117 : kT L s_113 a_32 n_33 := by rw [e_114]; exact kt_106
            have z_118 : gp_sz s_113 = gp_sz s_102 ∧ gp_us s_113 = gp_us s_102 := by rw [e_114]; exact ⟨rfl, rfl⟩
            have q_119 : gp_I s_113 6 4 = gp_I s_102 6 4 := by rw [e_114] <;> first | rfl | exact I_ne (by omega)
            have pd_120 : PO s_113 := by rw [e_114]; exact PO_fr pd_109 (gX.wI (gX.refl L true [] _) (gXt kt_106 hs_104 (by omega) (by omega) (by omega))) rfl rfl rfl rfl rfl rfl
            have pd_121 : IK s s_113 := by rw [e_114]; exact IK_wI pd_110 (Or.inr (by omega))
            have pd_122 : GVC s_113 := by rw [e_114]; exact GVC_fr pd_111 (gX.wI (gX.refl L true [] _) (gXt kt_106 hs_104 (by omega) (by omega) (by omega))) rfl rfl rfl rfl rfl
            have he13 : ∀ k, gp_I s_113 13 k = gp_I s_35 13 k := by subst_vars; exact fun k => (I_ne (by omega)).trans ((I_ne (by omega)).trans ((I_ne (by omega)).trans rfl))
            have he15 : ∀ k, gp_I s_113 15 k = if k = Int.toNat (gp_I s_35 14 (Int.toNat v6_35)) then v5_35 else gp_I s_35 15 k := by subst_vars; exact fun k => (I_ne (by omega)).trans ((I_ne (by omega)).trans ((I_ne (by omega)).trans (gz_rwi s_35 15 _ _ k)))
            have hTF : ∀ i, TF s_113 a_32 i = if i = Int.toNat v5_35 then (c19, c29, gp_I s 10 (Int.toNat (gp_I s_35 14 (Int.toNat v6_35))), gp_I s 11 (Int.toNat (gp_I s_35 14 (Int.toNat v6_35)))) else TF s_35 a_32 i := fun i => by rw [← hn1, ← hn2, hc19, hc29]; subst_vars; exact TF_5 (by omega) i
            try rw [show gp_wr (v5_35 + 1) = v5_35 + 1 from gp_wr_id (by omega) (by omega)]
            refine s_1032_181 _ _ _ _ _ _ ?_
            try rw [show gp_wr (v6_35 + 1) = v6_35 + 1 from gp_wr_id (by omega) (by omega)]
            exact ih_35 _ _ _ _ hs_115 hf_116 pd_120 pd_121 pd_122 kt_117 (by omega) (by omega) (by omega) (by first | rfl | omega) (by first | exact tb_step PO_s_35 (by omega) (bd_le hbN (by omega)) iv0_35 (by omega) he13 he15 | exact tb_no PO_s_35 (bd_le hbN (by omega)) iv0_35 (by assumption)) (by first | exact TOS_n iv1_35 (by omega) (by rw [← h14]; assumption) | exact TOS_y2 iv1_35 hs q0 q2 (congrArg Int.toNat h14) (by omega) (by omega) (by omega) (by assumption) hFC he15 hTF hca1 hca2 hx1 hx2) (by first | omega | assumption) (by first | omega | assumption) (by omega)
        · refine s_1032_187 _ _ _ _ _ _ ?_
          exact k _ s_35 hs_s_35 hf_s_35 (RETV_of (by assumption) (by omega) (by omega) (by omega) (TOS_end iv1_35 hs q0 q2 ⟨by omega, by omega⟩ hCL ⟨by omega, by omega⟩ (by omega) (by omega) (by omega))) (by first | omega | assumption) (by first | omega | assumption) (IK_s_s_35)
      · refine s_1032_187 _ _ _ _ _ _ ?_
        exact k _ s_35 hs_s_35 hf_s_35 (RETV_of (by assumption) (by omega) (by omega) (by omega) (TOS_end iv1_35 hs q0 q2 ⟨by omega, by omega⟩ hCL ⟨by omega, by omega⟩ (by omega) (by omega) (by omega))) (by first | omega | assumption) (by first | omega | assumption) (IK_s_s_35)
  exact lp_35 _ _ _ _ _ hs_19 hf_27 pd_28 pd_31 pd_29 p_21 (by omega) (by omega) (by omega) (by first | rfl | omega) (fun p h1 h2 => absurd h2 (by have h9 := (xr13 hs_19 p).1; omega)) (TOS_0) (by first | omega | assumption) (by first | omega | assumption) (Nat.lt_succ_self _)
