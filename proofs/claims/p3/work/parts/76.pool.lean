/-! the pool's steps -/
theorem bd_xor {x y : BitVec 64} {n : Int} (h : bd x n) (k : bd y n) : bd (x ^^^ y) n := fun i hi => by
  rw [BitVec.getLsbD_xor] at hi
  cases q : x.getLsbD i with
  | true => exact h i q
  | false =>
    rw [q] at hi
    exact k i (by simpa using hi)
theorem gz_rwLi (s : gH) (a i : Nat) (v : BitVec 64) (k : Nat) : gp_L (gp_wL s a i v) a k = if k = i then v else gp_L s a k := u2_i _ _ _ _ _
theorem sk_step {s : gH} {A x : BitVec 64} {d x9 : Int} (iv : ∀ i : Nat, A.getLsbD i = true → x.getLsbD i = true ∨ gp_I s 12 i < d) (h0 : ¬ x = 0#64) (e : x9 = (lob x : Nat)) : ∀ i : Nat, A.getLsbD i = true → (x &&& (x - 1#64)).getLsbD i = true ∨ gp_I s 12 i < gp_mx d (1 + gp_I s 12 x9.toNat) := by
  intro i hi
  have hm := gz_mx d (1 + gp_I s 12 x9.toNat)
  rcases iv i hi with q | q
  · by_cases c : i = lob x
    · refine Or.inr ?_
      subst e
      subst c
      simp only [Int.toNat_natCast] at hm ⊢
      omega
    · left
      rw [(lob_s h0).2.2.2.1, q]
      simp [c]
  · right; omega
theorem SK_of {s t : gH} {N D : Int} {p0 p1 : BitVec 64} (hN : 0 ≤ N) (e6 : gp_I t 6 4 = N) (e8 : gp_L t 8 N.toNat = p0) (e9 : gp_L t 9 N.toNat = p1) (e12 : ∀ k : Nat, (k : Int) < N → gp_I t 12 k = gp_I s 12 k) (eD : gp_I t 12 N.toNat = D) (hD : ∀ i : Nat, (p0 ||| p1).getLsbD i = true → gp_I s 12 i < D) (b0 : bd p0 N) (b1 : bd p1 N) : SK t := by
  intro k hk
  rw [e6, e8, e9] at hk
  rw [e6, eD]
  have hb : (k : Int) < N := by
    rcases hk with q | q
    · exact b0 k q
    · exact b1 k q
  rw [e12 k hb]
  refine hD k ?_
  rw [BitVec.getLsbD_or]
  rcases hk with q | q <;> simp [q]
theorem H1_s {s : gH} {m t : Int} (h : PO s) (hm : 0 ≤ m) (hd : gp_I s 12 (gp_I s 6 4).toNat ≤ gp_I s 12 (gp_I s 14 m.toNat).toNat) : ∀ q : Nat, m ≤ q → (q : Int) < gp_I s 6 4 → gp_I s 12 (gp_I s 6 4).toNat ≤ gp_I s 12 (gp_I s 14 q).toNat := fun q h1 h2 => Int.le_trans hd (h.2.2.1 m.toNat q (by omega) h2)
theorem H2_s {s : gH} {m : Int} (h : PO s) (hm : 0 ≤ m) (hm2 : m < gp_I s 6 4) (hd : gp_I s 12 (gp_I s 14 m.toNat).toNat ≤ gp_I s 12 (gp_I s 6 4).toNat) : ∀ q : Nat, (q : Int) < m + 1 → gp_I s 12 (gp_I s 14 q).toNat ≤ gp_I s 12 (gp_I s 6 4).toNat := fun q h1 => Int.le_trans (h.2.2.1 q m.toNat (by omega) (by omega)) hd
theorem SH_s2 {L : Nat} {s u v t : gH} {r : Int} (h : PO s) (hs : XI L 0 s) (hu : SH s u r) (h0 : 0 < r) (hr : r ≤ gp_I s 6 4) (ev : v = gp_wI u 14 (Int.toNat r) (gp_I u 14 (Int.toNat (r - 1)))) (et : t = gp_wI v 13 (Int.toNat (gp_I v 14 (Int.toNat r))) r) : SH s t (r - 1) := by
  have hv : gp_I v 14 r.toNat = gp_I u 14 (r - 1).toNat := by rw [ev]; exact (gz_rw _ _ _ _ _).1 rfl
  refine SH_s h hs hu h0 hr (fun k => ?_) (fun k => ?_)
  · rw [et, ev]; exact gz_rwi u 14 _ _ k
  · rw [et, gz_rwi, hv]
    have : gp_I v 13 k = gp_I u 13 k := by rw [ev]; rfl
    rw [this]
theorem PO_ins2 {L : Nat} {al : Bool} {s u a b t : gH} {f : Int} (h : PO s) (hk : SK s) (hs : XI L 0 s) (hu : SH s u f) (h0 : 0 ≤ f) (hf : f ≤ gp_I s 6 4) (H1 : ∀ q : Nat, f ≤ q → (q : Int) < gp_I s 6 4 → gp_I s 12 (gp_I s 6 4).toNat ≤ gp_I s 12 (gp_I s 14 q).toNat) (H2 : ∀ q : Nat, (q : Int) < f → gp_I s 12 (gp_I s 14 q).toNat ≤ gp_I s 12 (gp_I s 6 4).toNat) (g : gX L al [13, 14, 1196] s u) (e6 : gp_I u 6 4 = gp_I s 6 4) (e1 : a = gp_wI u 14 (Int.toNat f) (gp_I u 6 4)) (e2 : b = gp_wI a 13 (Int.toNat (gp_I a 6 4)) f) (e3 : t = gp_wI b 6 4 (gp_I b 6 4 + 1)) : PO t := by
  have a6 : gp_I a 6 4 = gp_I s 6 4 := by rw [e1]; exact e6
  have b6 : gp_I b 6 4 = gp_I s 6 4 := by rw [e2]; exact a6
  refine PO_ins h hk hs hu h0 hf H1 H2 ?_ (fun k => ?_) (fun k => ?_) (fun k => ?_) (fun k => ?_) (fun k => ?_)
  · rw [e3, ← b6]; exact (gz_rw _ _ _ _ _).1 rfl
  · have : gp_I t 14 k = gp_I a 14 k := by rw [e3, e2]; rfl
    rw [this, e1, gz_rwi, e6]
  · have : gp_I t 13 k = gp_I b 13 k := by rw [e3]; rfl
    rw [this, e2, gz_rwi, a6]
    have : gp_I a 13 k = gp_I u 13 k := by rw [e1]; rfl
    rw [this]
  · have : gp_I t 12 k = gp_I u 12 k := by rw [e3, e2, e1]; rfl
    rw [this]; exact (g.2.2.1 12 k (by decide) (by decide) rfl).1
  · have : gp_L t 8 k = gp_L u 8 k := by rw [e3, e2, e1]
    rw [this]; exact (g.2.2.1 8 k (by decide) (by decide) rfl).2.1
  · have : gp_L t 9 k = gp_L u 9 k := by rw [e3, e2, e1]
    rw [this]; exact (g.2.2.1 9 k (by decide) (by decide) rfl).2.1
/-- places of what is wanted, below a number -/
theorem tk_pre {L : Nat} {al : Bool} {m : List Nat} {s u : gH} {a n : Nat} {M : BitVec 64} {i N : Int} (kt : kT L s a n) (hs : XI L 0 s) (hn : n ≤ 60) (g : gX L al m s u) (m1 : m.contains 26 = false) (m2 : m.contains 27 = false) (hi : 0 ≤ i) (hF : FC (gp_L s (a + 1)) (gp_L s (a + 2)) M) (hM : M.getLsbD i.toNat = true) (iv : ∀ k : Nat, (k : Int) < i → M.getLsbD k = true → 0 ≤ gp_I u 15 k ∧ gp_I u 15 k < N) : (∀ k : Nat, (gp_L u (a + 1) i.toNat).getLsbD k = true → 0 ≤ gp_I u 15 k ∧ gp_I u 15 k < N) ∧ (∀ k : Nat, (gp_L u (a + 2) i.toNat).getLsbD k = true → 0 ≤ gp_I u 15 k ∧ gp_I u 15 k < N) := by
  have hl := tab_L kt hs hn g m1 m2 i.toNat
  have hb := ((kt.tt hs).1.2.2.2.2.2 i.toNat).1
  refine ⟨fun k hk => ?_, fun k hk => ?_⟩
  · rw [hl.1] at hk
    have := hb.1 k hk
    exact iv k (by omega) (hF _ _ hM (Or.inl hk))
  · rw [hl.2] at hk
    have := hb.2 k hk
    exact iv k (by omega) (hF _ _ hM (Or.inr hk))
theorem tk_step {L : Nat} {al al' : Bool} {m m' : List Nat} {s u v t : gH} {M : BitVec 64} {i x N N' : Int} (hi : 0 ≤ i) (iv : ∀ k : Nat, (k : Int) < i → M.getLsbD k = true → 0 ≤ gp_I s 15 k ∧ gp_I s 15 k < N) (g1 : gX L al m s u) (g2 : gX L al' m' u v) (m1 : m.contains 15 = false) (m2 : m'.contains 15 = false) (et : t = gp_wI v 15 (Int.toNat i) x) (hN : N ≤ N') (hx : 0 ≤ x) (hx2 : x < N') : ∀ k : Nat, (k : Int) < i + 1 → M.getLsbD k = true → 0 ≤ gp_I t 15 k ∧ gp_I t 15 k < N' := by
  intro k hk hb
  rw [et, gz_rwi]
  by_cases c : k = i.toNat
  · rw [if_pos c]; exact ⟨hx, hx2⟩
  · have e : gp_I v 15 k = gp_I s 15 k := (g2.2.2.1 15 k (by decide) (by decide) m2).1.trans (g1.2.2.1 15 k (by decide) (by decide) m1).1
    rw [if_neg c, e]
    have := iv k (by omega) hb
    omega
theorem tk_no {s : gH} {M : BitVec 64} {i N : Int} (hi : 0 ≤ i) (iv : ∀ k : Nat, (k : Int) < i → M.getLsbD k = true → 0 ≤ gp_I s 15 k ∧ gp_I s 15 k < N) (h : M.getLsbD i.toNat = false) : ∀ k : Nat, (k : Int) < i + 1 → M.getLsbD k = true → 0 ≤ gp_I s 15 k ∧ gp_I s 15 k < N := by
  intro k hk hb
  by_cases c : k = i.toNat
  · rw [c, h] at hb; cases hb
  · exact iv k (by omega) hb
/-- what a table that is made takes out of the pool -/
theorem tb_pre {L : Nat} {u t : gH} {M : BitVec 64} {r x : Int} (h : PO u) (hs : XI L 0 u) (hM : bd M (gp_I u 6 4)) (hF : FC (gp_L u 8) (gp_L u 9) M) (hr : 0 ≤ r ∧ r < gp_I u 6 4) (hp : M.getLsbD (gp_I u 14 r.toNat).toNat = true) (iv : ∀ p : Nat, M.getLsbD p = true → gp_I u 13 p < r → 0 ≤ gp_I u 15 p ∧ gp_I u 15 p < x) (et : t = gp_wI u 15 (Int.toNat (gp_I u 14 (Int.toNat r))) x) : ∀ k : Nat, ((gp_L t 8 (Int.toNat (gp_I u 14 (Int.toNat r)))).getLsbD k = true ∨ (gp_L t 9 (Int.toNat (gp_I u 14 (Int.toNat r)))).getLsbD k = true) → 0 ≤ gp_I t 15 k ∧ gp_I t 15 k < x := by
  intro k hk
  have e8 : gp_L t 8 (Int.toNat (gp_I u 14 (Int.toNat r))) = gp_L u 8 (Int.toNat (gp_I u 14 (Int.toNat r))) := by rw [et]
  have e9 : gp_L t 9 (Int.toNat (gp_I u 14 (Int.toNat r))) = gp_L u 9 (Int.toNat (gp_I u 14 (Int.toNat r))) := by rw [et]
  rw [e8, e9] at hk
  have p1 := h.1 r.toNat (by omega)
  have p0 := (xr14 hs r.toNat).1
  have hMk := hF _ _ hp hk
  have hkN := hM k hMk
  have hb : (k : Int) < (gp_I u 14 r.toNat).toNat := by
    rcases hk with q | q
    · exact xr8 hs _ k q
    · exact xr9 hs _ k q
  have hrk := PO_opt h (p := (gp_I u 14 r.toNat).toNat) (k := k) (by omega) hkN hk ⟨(xr13 hs _).1, (xr13 hs _).1⟩
  rw [p1.2] at hrk
  have := iv k hMk (by omega)
  rw [et, gz_rwi, if_neg (by omega)]
  exact this
theorem tb2 {s t : gH} {A j p : Nat} {v : BitVec 64} {x : Int} (e : t = gp_wL s A j v) (hA : A ≠ 8 ∧ A ≠ 9) (h : ∀ k : Nat, ((gp_L s 8 p).getLsbD k = true ∨ (gp_L s 9 p).getLsbD k = true) → 0 ≤ gp_I s 15 k ∧ gp_I s 15 k < x) : ∀ k : Nat, ((gp_L t 8 p).getLsbD k = true ∨ (gp_L t 9 p).getLsbD k = true) → 0 ≤ gp_I t 15 k ∧ gp_I t 15 k < x := by
  intro k hk
  subst e
  have hk2 : (gp_L (gp_wL s A j v) 8 p).getLsbD k = true ∨ (gp_L (gp_wL s A j v) 9 p).getLsbD k = true := hk
  rw [L_ne (fun q => hA.1 q.symm), L_ne (fun q => hA.2 q.symm)] at hk2
  exact h k hk2
theorem tb_step {u t : gH} {M : BitVec 64} {r x : Int} (h : PO u) (hr : 0 ≤ r ∧ r < gp_I u 6 4) (hM : bd M (gp_I u 6 4)) (iv : ∀ p : Nat, M.getLsbD p = true → gp_I u 13 p < r → 0 ≤ gp_I u 15 p ∧ gp_I u 15 p < x) (hx : 0 ≤ x) (e13 : ∀ k, gp_I t 13 k = gp_I u 13 k) (e15 : ∀ k, gp_I t 15 k = if k = (gp_I u 14 r.toNat).toNat then x else gp_I u 15 k) : ∀ p : Nat, M.getLsbD p = true → gp_I t 13 p < r + 1 → 0 ≤ gp_I t 15 p ∧ gp_I t 15 p < x + 1 := by
  intro p hp hr2
  rw [e13] at hr2
  rw [e15]
  by_cases c : p = (gp_I u 14 r.toNat).toNat
  · rw [if_pos c]; omega
  · have q := h.2.1 p (hM p hp)
    have : gp_I u 13 p ≠ r := by
      intro e
      rw [e] at q
      omega
    have := iv p hp (by omega)
    rw [if_neg c]; omega
theorem tb_no {u : gH} {M : BitVec 64} {r x : Int} (h : PO u) (hM : bd M (gp_I u 6 4)) (iv : ∀ p : Nat, M.getLsbD p = true → gp_I u 13 p < r → 0 ≤ gp_I u 15 p ∧ gp_I u 15 p < x) (hp : M.getLsbD (gp_I u 14 r.toNat).toNat = false) : ∀ p : Nat, M.getLsbD p = true → gp_I u 13 p < r + 1 → 0 ≤ gp_I u 15 p ∧ gp_I u 15 p < x := by
  intro p hb hr2
  have q := h.2.1 p (hM p hb)
  by_cases c : gp_I u 13 p = r
  · rw [c] at q
    have : p = (gp_I u 14 r.toNat).toNat := by omega
    rw [this, hp] at hb; cases hb
  · exact iv p hb (by omega)
set_option maxRecDepth 100000 in
/-- Pool.empty -/
theorem xm_empty  {L d : Nat} {K : Option gV → gH → Prop} {s : gH}   (hs : XI L 0 s)   (k : ∀ (t : gH), XI L 0 t → gX L false [1196] s t → (gp_I t 6 4 = 0) → (PO t) → K none t) : gs_C L d 1025 1 [gp_r (some 6)] s K := by
  have f_1 := xr6_4 hs
  refine s_1025_e ?_
  intro s_2 e_3
  have hs_4 : XI L 0 s_2 := by rw [e_3]; exact xw6_4 hs _ (by omega)
  have hf_5 : gX L false [1196] s s_2 := by rw [e_3]; exact gX.wI (gX.refl _ _ _ _) (Or.inl rfl)
  have q_6 : gp_I s_2 6 4 = 0 := by rw [e_3]; exact (gz_rw _ _ _ _ _).1 rfl
  exact k s_2 hs_4 hf_5 (by first | omega | assumption) (PO_0 (by omega))
set_option maxRecDepth 100000 in
/-- Pool.sketch -/
theorem xm_sketch  {L d : Nat} {K : Option gV → gH → Prop} {s : gH}  (p0 : BitVec 64) (p1 : BitVec 64) (p2 : Int) (p3 : Int) (hs : XI L 0 s)  (q0 : PO s) (q1 : bd p0 (gp_I s 6 4)) (q2 : bd p1 (gp_I s 6 4)) (k : ∀ (t : gH), XI L 0 t → gX L false [8, 9, 10, 11, 12] s t → (PO t) → (SK t) → K none t) : gs_C L (d + 2) 1026 10 [gp_r (some 6), gp_l p0, gp_l p1, gp_i p2, gp_i p3] s K := by
  have f_1 := xr6_4 hs
  refine s_1026_e _ _ _ _ ?_
  have f_2 := xr6_4 hs
  refine ⟨by omega, ?_⟩
  intro s_3 e_4
  have hs_5 : XI L 0 s_3 := by rw [e_4]; exact xw8 hs _ _ (by exact bd_le q1 (by omega))
  have hf_6 : gX L false [8, 9, 10, 11, 12] s s_3 := by rw [e_4]; exact gX.wL (gX.refl _ _ _ _) (Or.inl ⟨by decide, rfl⟩)
  have q_7 : gp_I s_3 6 4 = gp_I s 6 4 := by rw [e_4] <;> first | rfl | exact I_ne (by omega)
  have f_8 := xr6_4 hs_5
  refine ⟨by omega, ?_⟩
  intro s_9 e_10
  have hs_11 : XI L 0 s_9 := by rw [e_10]; exact xw9 hs_5 _ _ (by exact bd_le q2 (by omega))
  have hf_12 : gX L false [8, 9, 10, 11, 12] s s_9 := by rw [e_10]; exact gX.wL hf_6 (Or.inl ⟨by decide, rfl⟩)
  have q_13 : gp_I s_9 6 4 = gp_I s_3 6 4 := by rw [e_10] <;> first | rfl | exact I_ne (by omega)
  have f_14 := xr6_4 hs_11
  refine ⟨fun h_15 => ?_, fun h_15 => ?_⟩
  · have hz_16 : p0 = 0#64 := (gm_cmp0 _ _).mp h_15
    refine s_1026_49 _ _ _ _ _ _ _ _ _ ?_
    refine ⟨by omega, ?_⟩
    intro s_17 e_18
    have hs_19 : XI L 0 s_17 := by rw [e_18]; exact xw10 hs_11 _ _
    have hf_20 : gX L false [8, 9, 10, 11, 12] s s_17 := by rw [e_18]; exact gX.wI hf_12 (Or.inl rfl)
    have q_21 : gp_I s_17 6 4 = gp_I s_9 6 4 := by rw [e_18] <;> first | rfl | exact I_ne (by omega)
    have f_22 := xr6_4 hs_19
    refine ⟨fun h_23 => ?_, fun h_23 => ?_⟩
    · have hz_24 : p1 = 0#64 := (gm_cmp0 _ _).mp h_23
      refine s_1026_73 _ _ _ _ _ _ _ _ _ ?_
      refine ⟨by omega, ?_⟩
      intro s_25 e_26
      have hs_27 : XI L 0 s_25 := by rw [e_26]; exact xw11 hs_19 _ _
      have hf_28 : gX L false [8, 9, 10, 11, 12] s s_25 := by rw [e_26]; exact gX.wI hf_20 (Or.inl rfl)
      have q_29 : gp_I s_25 6 4 = gp_I s_17 6 4 := by rw [e_26] <;> first | rfl | exact I_ne (by omega)
      have lp_30 : ∀ (n_30 : Nat) (v7_30 : Int) (v8_30 : BitVec 64), (0 ≤ v7_30 ∧ v7_30 ≤ 60) → (sub v8_30 (p0 ||| p1)) → (∀ i : Nat, (p0 ||| p1).getLsbD i = true → (v8_30).getLsbD i = true ∨ gp_I s_25 12 i < v7_30) → (v7_30 ≤ gp_I s 6 4) → ((v8_30).toNat) < n_30 → gs_E L (d + 2) 1026 82 [gp_r (some 6), gp_l p0, gp_n, gp_l p1, gp_n, gp_i p2, gp_i p3, gp_i v7_30, gp_l v8_30, gp_n] [] s_25 K := by
        intro n_30
        induction n_30 with
        | zero => intro v7_30 v8_30 hv7_30 iv0_30 iv1_30 iv2_30 hm_30; exact absurd hm_30 (Nat.not_lt_zero _)
        | succ n_30 ih_30 =>
          intro v7_30 v8_30 hv7_30 iv0_30 iv1_30 iv2_30 hm_30
          refine s_1026_82 _ _ _ _ _ _ ?_
          refine ⟨fun h_31 => ?_, fun h_31 => ?_⟩
          · have hz_32 : v8_30 = 0#64 := (gm_cmp0 _ _).mp h_31
            have f_33 := xr6_4 hs_27
            refine ⟨by omega, ?_⟩
            intro s_34 e_35
            have hs_36 : XI L 0 s_34 := by rw [e_35]; exact xw12 hs_27 _ _ (by omega)
            have hf_37 : gX L false [8, 9, 10, 11, 12] s s_34 := by rw [e_35]; exact gX.wI hf_28 (Or.inl rfl)
            have q_38 : gp_I s_34 6 4 = gp_I s_25 6 4 := by rw [e_35] <;> first | rfl | exact I_ne (by omega)
            exact k s_34 hs_36 hf_37 (PO_sk q0 hs (by omega) (by subst_vars; exact fun k => rfl) (by subst_vars; exact fun k => rfl) (by subst_vars; exact fun k hk => (gz_rwi _ 12 _ _ k).trans (if_neg (show ¬ k = (gp_I s 6 4).toNat by omega))) (by subst_vars; exact fun k hk => (gz_rwLi _ 8 _ _ k).trans (if_neg (show ¬ k = (gp_I s 6 4).toNat by omega))) (by subst_vars; exact fun k hk => (gz_rwLi _ 9 _ _ k).trans (if_neg (show ¬ k = (gp_I s 6 4).toNat by omega)))) (SK_of (s := s) (N := gp_I s 6 4) (D := v7_30) (p0 := p0) (p1 := p1) (xr6_4 hs).1 (by omega) (by subst_vars; exact (gz_rwLi _ 8 _ _ _).trans (if_pos rfl)) (by subst_vars; exact (gz_rwLi _ 9 _ _ _).trans (if_pos rfl)) (by subst_vars; exact fun k hk => (gz_rwi _ 12 _ _ k).trans (if_neg (show ¬ k = (gp_I s 6 4).toNat by omega))) (by subst_vars; exact (gz_rwi _ 12 _ _ _).trans (if_pos rfl)) (fun i hi => by have h9 := iv1_30 i hi; rw [‹v8_30 = 0#64›] at h9; simp at h9; subst_vars; exact h9) q1 q2)
          · have hz_39 : ¬ v8_30 = 0#64 := fun q => h_31 ((gm_cmp0 _ _).mpr q)
            refine xm_lowest _ (fun x_40 p_41 p_42 => ⟨_, rfl, ?_⟩)
            have hlw := iv0_30.low (by assumption) p_42
            have hbl := (bd_or q1 q2) _ hlw.2.2
            refine ⟨by omega, ?_⟩
            have f_43 := xr12 hs_27 (Int.toNat x_40)
            try rw [show gp_wr (1 + (gp_I s_25 12 (Int.toNat x_40))) = 1 + (gp_I s_25 12 (Int.toNat x_40)) from gp_wr_id (by omega) (by omega)]
            have w_44 := gz_mx (v7_30) (1 + (gp_I s_25 12 (Int.toNat x_40)))
            exact ih_30 _ _ (by omega) (by first | assumption | exact sub.refl _ | exact sub.rest (by assumption)) (sk_step iv1_30 (by assumption) (by assumption)) (by first | omega | assumption) (by have := rest_lt (by assumption : ¬ v8_30 = 0#64); omega)
      exact lp_30 _ _ _ (by omega) (by first | assumption | exact sub.refl _ | exact sub.rest (by assumption)) (fun i hi => Or.inl hi) (by first | omega | assumption) (Nat.lt_succ_self _)
    · have hz_45 : ¬ p1 = 0#64 := fun q => h_23 ((gm_cmp0 _ _).mpr q)
      refine s_1026_73 _ _ _ _ _ _ _ _ _ ?_
      refine ⟨by omega, ?_⟩
      intro s_46 e_47
      have hs_48 : XI L 0 s_46 := by rw [e_47]; exact xw11 hs_19 _ _
      have hf_49 : gX L false [8, 9, 10, 11, 12] s s_46 := by rw [e_47]; exact gX.wI hf_20 (Or.inl rfl)
      have q_50 : gp_I s_46 6 4 = gp_I s_17 6 4 := by rw [e_47] <;> first | rfl | exact I_ne (by omega)
      have lp_51 : ∀ (n_51 : Nat) (v7_51 : Int) (v8_51 : BitVec 64), (0 ≤ v7_51 ∧ v7_51 ≤ 60) → (sub v8_51 (p0 ||| p1)) → (∀ i : Nat, (p0 ||| p1).getLsbD i = true → (v8_51).getLsbD i = true ∨ gp_I s_46 12 i < v7_51) → (v7_51 ≤ gp_I s 6 4) → ((v8_51).toNat) < n_51 → gs_E L (d + 2) 1026 82 [gp_r (some 6), gp_l p0, gp_n, gp_l p1, gp_n, gp_i p2, gp_i p3, gp_i v7_51, gp_l v8_51, gp_n] [] s_46 K := by
        intro n_51
        induction n_51 with
        | zero => intro v7_51 v8_51 hv7_51 iv0_51 iv1_51 iv2_51 hm_51; exact absurd hm_51 (Nat.not_lt_zero _)
        | succ n_51 ih_51 =>
          intro v7_51 v8_51 hv7_51 iv0_51 iv1_51 iv2_51 hm_51
          refine s_1026_82 _ _ _ _ _ _ ?_
          refine ⟨fun h_52 => ?_, fun h_52 => ?_⟩
          · have hz_53 : v8_51 = 0#64 := (gm_cmp0 _ _).mp h_52
            have f_54 := xr6_4 hs_48
            refine ⟨by omega, ?_⟩
            intro s_55 e_56
            have hs_57 : XI L 0 s_55 := by rw [e_56]; exact xw12 hs_48 _ _ (by omega)
            have hf_58 : gX L false [8, 9, 10, 11, 12] s s_55 := by rw [e_56]; exact gX.wI hf_49 (Or.inl rfl)
            have q_59 : gp_I s_55 6 4 = gp_I s_46 6 4 := by rw [e_56] <;> first | rfl | exact I_ne (by omega)
            exact k s_55 hs_57 hf_58 (PO_sk q0 hs (by omega) (by subst_vars; exact fun k => rfl) (by subst_vars; exact fun k => rfl) (by subst_vars; exact fun k hk => (gz_rwi _ 12 _ _ k).trans (if_neg (show ¬ k = (gp_I s 6 4).toNat by omega))) (by subst_vars; exact fun k hk => (gz_rwLi _ 8 _ _ k).trans (if_neg (show ¬ k = (gp_I s 6 4).toNat by omega))) (by subst_vars; exact fun k hk => (gz_rwLi _ 9 _ _ k).trans (if_neg (show ¬ k = (gp_I s 6 4).toNat by omega)))) (SK_of (s := s) (N := gp_I s 6 4) (D := v7_51) (p0 := p0) (p1 := p1) (xr6_4 hs).1 (by omega) (by subst_vars; exact (gz_rwLi _ 8 _ _ _).trans (if_pos rfl)) (by subst_vars; exact (gz_rwLi _ 9 _ _ _).trans (if_pos rfl)) (by subst_vars; exact fun k hk => (gz_rwi _ 12 _ _ k).trans (if_neg (show ¬ k = (gp_I s 6 4).toNat by omega))) (by subst_vars; exact (gz_rwi _ 12 _ _ _).trans (if_pos rfl)) (fun i hi => by have h9 := iv1_51 i hi; rw [‹v8_51 = 0#64›] at h9; simp at h9; subst_vars; exact h9) q1 q2)
          · have hz_60 : ¬ v8_51 = 0#64 := fun q => h_52 ((gm_cmp0 _ _).mpr q)
            refine xm_lowest _ (fun x_61 p_62 p_63 => ⟨_, rfl, ?_⟩)
            have hlw := iv0_51.low (by assumption) p_63
            have hbl := (bd_or q1 q2) _ hlw.2.2
            refine ⟨by omega, ?_⟩
            have f_64 := xr12 hs_48 (Int.toNat x_61)
            try rw [show gp_wr (1 + (gp_I s_46 12 (Int.toNat x_61))) = 1 + (gp_I s_46 12 (Int.toNat x_61)) from gp_wr_id (by omega) (by omega)]
            have w_65 := gz_mx (v7_51) (1 + (gp_I s_46 12 (Int.toNat x_61)))
            exact ih_51 _ _ (by omega) (by first | assumption | exact sub.refl _ | exact sub.rest (by assumption)) (sk_step iv1_51 (by assumption) (by assumption)) (by first | omega | assumption) (by have := rest_lt (by assumption : ¬ v8_51 = 0#64); omega)
      exact lp_51 _ _ _ (by omega) (by first | assumption | exact sub.refl _ | exact sub.rest (by assumption)) (fun i hi => Or.inl hi) (by first | omega | assumption) (Nat.lt_succ_self _)
  · have hz_66 : ¬ p0 = 0#64 := fun q => h_15 ((gm_cmp0 _ _).mpr q)
    refine s_1026_49 _ _ _ _ _ _ _ _ _ ?_
    refine ⟨by omega, ?_⟩
    intro s_67 e_68
    have hs_69 : XI L 0 s_67 := by rw [e_68]; exact xw10 hs_11 _ _
    have hf_70 : gX L false [8, 9, 10, 11, 12] s s_67 := by rw [e_68]; exact gX.wI hf_12 (Or.inl rfl)
    have q_71 : gp_I s_67 6 4 = gp_I s_9 6 4 := by rw [e_68] <;> first | rfl | exact I_ne (by omega)
    have f_72 := xr6_4 hs_69
    refine ⟨fun h_73 => ?_, fun h_73 => ?_⟩
    · have hz_74 : p1 = 0#64 := (gm_cmp0 _ _).mp h_73
      refine s_1026_73 _ _ _ _ _ _ _ _ _ ?_
      refine ⟨by omega, ?_⟩
      intro s_75 e_76
      have hs_77 : XI L 0 s_75 := by rw [e_76]; exact xw11 hs_69 _ _
      have hf_78 : gX L false [8, 9, 10, 11, 12] s s_75 := by rw [e_76]; exact gX.wI hf_70 (Or.inl rfl)
      have q_79 : gp_I s_75 6 4 = gp_I s_67 6 4 := by rw [e_76] <;> first | rfl | exact I_ne (by omega)
      have lp_80 : ∀ (n_80 : Nat) (v7_80 : Int) (v8_80 : BitVec 64), (0 ≤ v7_80 ∧ v7_80 ≤ 60) → (sub v8_80 (p0 ||| p1)) → (∀ i : Nat, (p0 ||| p1).getLsbD i = true → (v8_80).getLsbD i = true ∨ gp_I s_75 12 i < v7_80) → (v7_80 ≤ gp_I s 6 4) → ((v8_80).toNat) < n_80 → gs_E L (d + 2) 1026 82 [gp_r (some 6), gp_l p0, gp_n, gp_l p1, gp_n, gp_i p2, gp_i p3, gp_i v7_80, gp_l v8_80, gp_n] [] s_75 K := by
        intro n_80
        induction n_80 with
        | zero => intro v7_80 v8_80 hv7_80 iv0_80 iv1_80 iv2_80 hm_80; exact absurd hm_80 (Nat.not_lt_zero _)
        | succ n_80 ih_80 =>
          intro v7_80 v8_80 hv7_80 iv0_80 iv1_80 iv2_80 hm_80
          refine s_1026_82 _ _ _ _ _ _ ?_
          refine ⟨fun h_81 => ?_, fun h_81 => ?_⟩
          · have hz_82 : v8_80 = 0#64 := (gm_cmp0 _ _).mp h_81
            have f_83 := xr6_4 hs_77
            refine ⟨by omega, ?_⟩
            intro s_84 e_85
            have hs_86 : XI L 0 s_84 := by rw [e_85]; exact xw12 hs_77 _ _ (by omega)
            have hf_87 : gX L false [8, 9, 10, 11, 12] s s_84 := by rw [e_85]; exact gX.wI hf_78 (Or.inl rfl)
            have q_88 : gp_I s_84 6 4 = gp_I s_75 6 4 := by rw [e_85] <;> first | rfl | exact I_ne (by omega)
            exact k s_84 hs_86 hf_87 (PO_sk q0 hs (by omega) (by subst_vars; exact fun k => rfl) (by subst_vars; exact fun k => rfl) (by subst_vars; exact fun k hk => (gz_rwi _ 12 _ _ k).trans (if_neg (show ¬ k = (gp_I s 6 4).toNat by omega))) (by subst_vars; exact fun k hk => (gz_rwLi _ 8 _ _ k).trans (if_neg (show ¬ k = (gp_I s 6 4).toNat by omega))) (by subst_vars; exact fun k hk => (gz_rwLi _ 9 _ _ k).trans (if_neg (show ¬ k = (gp_I s 6 4).toNat by omega)))) (SK_of (s := s) (N := gp_I s 6 4) (D := v7_80) (p0 := p0) (p1 := p1) (xr6_4 hs).1 (by omega) (by subst_vars; exact (gz_rwLi _ 8 _ _ _).trans (if_pos rfl)) (by subst_vars; exact (gz_rwLi _ 9 _ _ _).trans (if_pos rfl)) (by subst_vars; exact fun k hk => (gz_rwi _ 12 _ _ k).trans (if_neg (show ¬ k = (gp_I s 6 4).toNat by omega))) (by subst_vars; exact (gz_rwi _ 12 _ _ _).trans (if_pos rfl)) (fun i hi => by have h9 := iv1_80 i hi; rw [‹v8_80 = 0#64›] at h9; simp at h9; subst_vars; exact h9) q1 q2)
          · have hz_89 : ¬ v8_80 = 0#64 := fun q => h_81 ((gm_cmp0 _ _).mpr q)
            refine xm_lowest _ (fun x_90 p_91 p_92 => ⟨_, rfl, ?_⟩)
            have hlw := iv0_80.low (by assumption) p_92
            have hbl := (bd_or q1 q2) _ hlw.2.2
            refine ⟨by omega, ?_⟩
            have f_93 := xr12 hs_77 (Int.toNat x_90)
            try rw [show gp_wr (1 + (gp_I s_75 12 (Int.toNat x_90))) = 1 + (gp_I s_75 12 (Int.toNat x_90)) from gp_wr_id (by omega) (by omega)]
            have w_94 := gz_mx (v7_80) (1 + (gp_I s_75 12 (Int.toNat x_90)))
            exact ih_80 _ _ (by omega) (by first | assumption | exact sub.refl _ | exact sub.rest (by assumption)) (sk_step iv1_80 (by assumption) (by assumption)) (by first | omega | assumption) (by have := rest_lt (by assumption : ¬ v8_80 = 0#64); omega)
      exact lp_80 _ _ _ (by omega) (by first | assumption | exact sub.refl _ | exact sub.rest (by assumption)) (fun i hi => Or.inl hi) (by first | omega | assumption) (Nat.lt_succ_self _)
    · have hz_95 : ¬ p1 = 0#64 := fun q => h_73 ((gm_cmp0 _ _).mpr q)
      refine s_1026_73 _ _ _ _ _ _ _ _ _ ?_
      refine ⟨by omega, ?_⟩
      intro s_96 e_97
      have hs_98 : XI L 0 s_96 := by rw [e_97]; exact xw11 hs_69 _ _
      have hf_99 : gX L false [8, 9, 10, 11, 12] s s_96 := by rw [e_97]; exact gX.wI hf_70 (Or.inl rfl)
      have q_100 : gp_I s_96 6 4 = gp_I s_67 6 4 := by rw [e_97] <;> first | rfl | exact I_ne (by omega)
      have lp_101 : ∀ (n_101 : Nat) (v7_101 : Int) (v8_101 : BitVec 64), (0 ≤ v7_101 ∧ v7_101 ≤ 60) → (sub v8_101 (p0 ||| p1)) → (∀ i : Nat, (p0 ||| p1).getLsbD i = true → (v8_101).getLsbD i = true ∨ gp_I s_96 12 i < v7_101) → (v7_101 ≤ gp_I s 6 4) → ((v8_101).toNat) < n_101 → gs_E L (d + 2) 1026 82 [gp_r (some 6), gp_l p0, gp_n, gp_l p1, gp_n, gp_i p2, gp_i p3, gp_i v7_101, gp_l v8_101, gp_n] [] s_96 K := by
        intro n_101
        induction n_101 with
        | zero => intro v7_101 v8_101 hv7_101 iv0_101 iv1_101 iv2_101 hm_101; exact absurd hm_101 (Nat.not_lt_zero _)
        | succ n_101 ih_101 =>
          intro v7_101 v8_101 hv7_101 iv0_101 iv1_101 iv2_101 hm_101
          refine s_1026_82 _ _ _ _ _ _ ?_
          refine ⟨fun h_102 => ?_, fun h_102 => ?_⟩
          · have hz_103 : v8_101 = 0#64 := (gm_cmp0 _ _).mp h_102
            have f_104 := xr6_4 hs_98
            refine ⟨by omega, ?_⟩
            intro s_105 e_106
            have hs_107 : XI L 0 s_105 := by rw [e_106]; exact xw12 hs_98 _ _ (by omega)
            have hf_108 : gX L false [8, 9, 10, 11, 12] s s_105 := by rw [e_106]; exact gX.wI hf_99 (Or.inl rfl)
            have q_109 : gp_I s_105 6 4 = gp_I s_96 6 4 := by rw [e_106] <;> first | rfl | exact I_ne (by omega)
            exact k s_105 hs_107 hf_108 (PO_sk q0 hs (by omega) (by subst_vars; exact fun k => rfl) (by subst_vars; exact fun k => rfl) (by subst_vars; exact fun k hk => (gz_rwi _ 12 _ _ k).trans (if_neg (show ¬ k = (gp_I s 6 4).toNat by omega))) (by subst_vars; exact fun k hk => (gz_rwLi _ 8 _ _ k).trans (if_neg (show ¬ k = (gp_I s 6 4).toNat by omega))) (by subst_vars; exact fun k hk => (gz_rwLi _ 9 _ _ k).trans (if_neg (show ¬ k = (gp_I s 6 4).toNat by omega)))) (SK_of (s := s) (N := gp_I s 6 4) (D := v7_101) (p0 := p0) (p1 := p1) (xr6_4 hs).1 (by omega) (by subst_vars; exact (gz_rwLi _ 8 _ _ _).trans (if_pos rfl)) (by subst_vars; exact (gz_rwLi _ 9 _ _ _).trans (if_pos rfl)) (by subst_vars; exact fun k hk => (gz_rwi _ 12 _ _ k).trans (if_neg (show ¬ k = (gp_I s 6 4).toNat by omega))) (by subst_vars; exact (gz_rwi _ 12 _ _ _).trans (if_pos rfl)) (fun i hi => by have h9 := iv1_101 i hi; rw [‹v8_101 = 0#64›] at h9; simp at h9; subst_vars; exact h9) q1 q2)
          · have hz_110 : ¬ v8_101 = 0#64 := fun q => h_102 ((gm_cmp0 _ _).mpr q)
            refine xm_lowest _ (fun x_111 p_112 p_113 => ⟨_, rfl, ?_⟩)
            have hlw := iv0_101.low (by assumption) p_113
            have hbl := (bd_or q1 q2) _ hlw.2.2
            refine ⟨by omega, ?_⟩
            have f_114 := xr12 hs_98 (Int.toNat x_111)
            try rw [show gp_wr (1 + (gp_I s_96 12 (Int.toNat x_111))) = 1 + (gp_I s_96 12 (Int.toNat x_111)) from gp_wr_id (by omega) (by omega)]
            have w_115 := gz_mx (v7_101) (1 + (gp_I s_96 12 (Int.toNat x_111)))
            exact ih_101 _ _ (by omega) (by first | assumption | exact sub.refl _ | exact sub.rest (by assumption)) (sk_step iv1_101 (by assumption) (by assumption)) (by first | omega | assumption) (by have := rest_lt (by assumption : ¬ v8_101 = 0#64); omega)
      exact lp_101 _ _ _ (by omega) (by first | assumption | exact sub.refl _ | exact sub.rest (by assumption)) (fun i hi => Or.inl hi) (by first | omega | assumption) (Nat.lt_succ_self _)
set_option maxRecDepth 100000 in
/-- Pool.sideWay -/
theorem xm_sideWay  {L d : Nat} {K : Option gV → gH → Prop} {s : gH}  (p0 : Int) (p1 : Int) (p2 : Int) (hs : XI L 0 s) (h_p0 : 0 ≤ p0 ∧ p0 ≤ 60) (h_p1 : 0 ≤ p1 ∧ p1 ≤ 60)  (k : ∀ (r : Int), ((-1) ≤ r ∧ r ≤ 1) → K (some (gp_i r)) s) : gs_C L (d + 2) 1030 13 [gp_r (some 6), gp_i p0, gp_i p1, gp_i p2] s K := by
  refine s_1030_e _ _ _ ?_
  refine xm_options 61 _ _ _ hs (by omega) (by first | assumption | exact kT7 hs.1.1 | exact kT25 hs.1.1) (by first | omega | assumption) (fun m_1 p_2 p_3 => ⟨_, rfl, ?_⟩)
  refine xm_options 61 _ _ _ hs (by omega) (by first | assumption | exact kT7 hs.1.1 | exact kT25 hs.1.1) (by first | omega | assumption) (fun m_4 p_5 p_6 => ⟨_, rfl, ?_⟩)
  have w_7 := gz_cmp m_1 m_4
  refine ⟨fun h_8 => ?_, fun h_8 => ?_⟩
  · have hz_9 : m_1 = m_4 := (gm_cmp0 _ _).mp h_8
    refine xm_shutNumber 61 _ _ _ hs (by omega) (by first | assumption | exact kT7 hs.1.1 | exact kT25 hs.1.1) (by first | omega | assumption) (fun x_10 => ⟨_, rfl, ?_⟩)
    refine xm_shutNumber 61 _ _ _ hs (by omega) (by first | assumption | exact kT7 hs.1.1 | exact kT25 hs.1.1) (by first | omega | assumption) (fun x_11 => ⟨_, rfl, ?_⟩)
    refine xm_cmp _ _ (fun x_12 p_13 p_14 => ⟨_, rfl, ?_⟩)
    exact k _ (by omega)
  · have hz_15 : ¬ m_1 = m_4 := fun q => h_8 ((gm_cmp0 _ _).mpr q)
    refine xm_bc _ (fun x_16 p_17 p_18 => ⟨_, rfl, ?_⟩)
    refine xm_bc _ (fun x_19 p_20 p_21 => ⟨_, rfl, ?_⟩)
    refine xm_cmp _ _ (fun x_22 p_23 p_24 => ⟨_, rfl, ?_⟩)
    refine ⟨fun h_25 => ?_, fun h_25 => ?_⟩
    · have lp_26 : ∀ (n_26 : Nat) (v8_26 : Int) (v9_26 : Int) (v10_26 : BitVec 64) (v12_26 : gV), ((-1) ≤ v8_26 ∧ v8_26 ≤ 1) → (0 ≤ v9_26 ∧ v9_26 ≤ 61) → (sub v10_26 (m_1 ^^^ m_4)) → (v10_26).toNat < n_26 → gs_E L (d + 2) 1030 86 [gp_r (some 6), gp_i p0, gp_i p1, gp_i p2, gp_l m_1, gp_n, gp_l m_4, gp_n, gp_i v8_26, gp_i v9_26, gp_l v10_26, gp_n, v12_26] [] s K := by
        intro n_26
        induction n_26 with
        | zero => intro v8_26 v9_26 v10_26 v12_26 hv8_26 hv9_26 iv0_26 hm_26; exact absurd hm_26 (Nat.not_lt_zero _)
        | succ n_26 ih_26 =>
          intro v8_26 v9_26 v10_26 v12_26 hv8_26 hv9_26 iv0_26 hm_26
          refine s_1030_86 _ _ _ _ _ _ _ _ _ ?_
          refine ⟨fun h_27 => ?_, fun h_27 => ?_⟩
          · have hz_28 : v10_26 = 0#64 := (gm_cmp0 _ _).mp h_27
            exact k _ (by omega)
          · have hz_29 : ¬ v10_26 = 0#64 := fun q => h_27 ((gm_cmp0 _ _).mpr q)
            refine xm_lowest _ (fun x_30 p_31 p_32 => ⟨_, rfl, ?_⟩)
            have hlw := iv0_26.low (by assumption) p_32
            have hbx := bd_xor (bd_le ‹bd m_1 p0› (show p0 ≤ 61 by omega)) (bd_le ‹bd m_4 p1› (show p1 ≤ 61 by omega))
            have hbl := hbx _ hlw.2.2
            refine ⟨by omega, ?_⟩
            have f_33 := xr13 hs (Int.toNat x_30)
            have jn138_38 : ∀ (j_35 : Int) (j_36 : Int), ((-1) ≤ j_35 ∧ j_35 ≤ 1) → (0 ≤ j_36 ∧ j_36 ≤ 60) → gs_E L (d + 2) 1030 138 [gp_r (some 6), gp_i p0, gp_i p1, gp_i p2, gp_l m_1, gp_n, gp_l m_4, gp_n, gp_i j_35, gp_i j_36, gp_l v10_26, gp_n, gp_i x_30] [] s K := by
              intro j_35 j_36 hj_37 hj_38
              refine s_1030_138 _ _ _ _ _ _ _ _ _ ?_
              exact ih_26 _ _ _ _ (by omega) (by omega) (by first | assumption | exact sub.refl _ | exact sub.rest (by assumption)) (by have := rest_lt (by assumption : ¬ v10_26 = 0#64); omega)
            refine ⟨fun h_34 => ?_, fun h_34 => ?_⟩
            · refine ⟨by omega, ?_⟩
              have f_40 := xr13 hs (Int.toNat x_30)
              refine xm_has _ _ (by omega) (fun x_41 p_42 p_43 => ⟨_, rfl, ?_⟩)
              have jn136_46 : ∀ (j_45 : Int), ((-1) ≤ j_45 ∧ j_45 ≤ 1) → gs_E L (d + 2) 1030 136 [gp_r (some 6), gp_i p0, gp_i p1, gp_i p2, gp_l m_1, gp_n, gp_l m_4, gp_n, gp_i v8_26, gp_i (gp_I s 13 (Int.toNat x_30)), gp_l v10_26, gp_n, gp_i x_30] [gp_i j_45] s K := by
                intro j_45 hj_46
                refine s_1030_136 _ _ _ _ _ _ _ _ _ _ ?_
                exact jn138_38 _ _ (by omega) (by omega)
              refine ⟨fun h_44 => ?_, fun h_44 => ?_⟩
              · have hb_48 := hasF p_43 h_44
                exact jn136_46 _ (by omega)
              · have hb_49 := hasT p_43 h_44
                exact jn136_46 _ (by omega)
            · exact jn138_38 _ _ (by omega) (by omega)
      exact lp_26 _ _ _ _ _ (by omega) (by omega) (by first | assumption | exact sub.refl _ | exact sub.rest (by assumption)) (Nat.lt_succ_self _)
    · exact k _ (by omega)
set_option maxRecDepth 100000 in
/-- Pool.settle -/
theorem xm_settle  {L d : Nat} {K : Option gV → gH → Prop} {s : gH}   (hs : XI L 0 s)  (q0 : PO s) (q1 : SK s) (k : ∀ (r : Int), ∀ (t : gH), XI L 0 t → gX L false [13, 14, 1196] s t → ((-1) ≤ r ∧ r ≤ 59) → (PO t) → ((r = -1 ∧ gp_I t 6 4 = gp_I s 6 4 ∧ gp_I s 6 4 = 60) ∨ (0 ≤ r ∧ r < gp_I t 6 4 ∧ gp_I s 6 4 ≤ gp_I t 6 4 ∧ gp_I t 6 4 ≤ gp_I s 6 4 + 1)) → K (some (gp_i r)) t) : gs_C L (d + 3) 1027 6 [gp_r (some 6)] s K := by
  have f_1 := xr6_4 hs
  refine s_1027_e ?_
  have f_2 := xr6_4 hs
  have lp_3 : ∀ (n_3 : Nat) (v1_3 : Int) (v2_3 : Int) (v3_3 : gV) (v4_3 : gV) (v5_3 : gV), (0 ≤ v1_3 ∧ v1_3 ≤ 60) → (0 ≤ v2_3 ∧ v2_3 ≤ 60) → (v1_3 ≤ v2_3) → (v2_3 ≤ gp_I s 6 4) → (∀ q : Nat, v2_3 ≤ q → (q : Int) < gp_I s 6 4 → gp_I s 12 (Int.toNat (gp_I s 6 4)) ≤ gp_I s 12 (Int.toNat (gp_I s 14 q))) → (∀ q : Nat, (q : Int) < v1_3 → gp_I s 12 (Int.toNat (gp_I s 14 q)) ≤ gp_I s 12 (Int.toNat (gp_I s 6 4))) → (Int.toNat (v2_3 - v1_3)) < n_3 → gs_E L (d + 3) 1027 7 [gp_r (some 6), gp_i v1_3, gp_i v2_3, v3_3, v4_3, v5_3] [] s K := by
    intro n_3
    induction n_3 with
    | zero => intro v1_3 v2_3 v3_3 v4_3 v5_3 hv1_3 hv2_3 iv0_3 iv1_3 iv2_3 iv3_3 hm_3; exact absurd hm_3 (Nat.not_lt_zero _)
    | succ n_3 ih_3 =>
      intro v1_3 v2_3 v3_3 v4_3 v5_3 hv1_3 hv2_3 iv0_3 iv1_3 iv2_3 iv3_3 hm_3
      refine s_1027_7 _ _ _ _ _ ?_
      refine ⟨fun h_4 => ?_, fun h_4 => ?_⟩
      · try rw [show gp_wr (v1_3 + v2_3) = v1_3 + v2_3 from gp_wr_id (by omega) (by omega)]
        have w_5 : gp_ushr (v1_3 + v2_3) 1 = (v1_3 + v2_3) / 2 := gz_ush (v1_3 + v2_3) 1 2 (by decide) (by omega) (by decide)
        refine ⟨by omega, ?_⟩
        have f_6 := xr14 hs (Int.toNat (gp_ushr (v1_3 + v2_3) 1))
        have hpo := q0.1 (Int.toNat (gp_ushr (v1_3 + v2_3) 1)) (by omega)
        have f_7 := xr6_4 hs
        refine ⟨by omega, ?_⟩
        have f_8 := xr12 hs (Int.toNat (gp_I s 6 4))
        refine ⟨by omega, ?_⟩
        have f_9 := xr12 hs (Int.toNat (gp_I s 14 (Int.toNat (gp_ushr (v1_3 + v2_3) 1))))
        refine xm_cmp _ _ (fun x_10 p_11 p_12 => ⟨_, rfl, ?_⟩)
        refine ⟨fun h_13 => ?_, fun h_13 => ?_⟩
        · have f_14 := xr6_4 hs
          refine xm_sideWay _ _ _ hs (by omega) (by omega) (fun x_15 p_16 => ⟨_, rfl, ?_⟩)
          refine s_1027_74 _ _ _ _ _ _ ?_
          refine ⟨fun h_17 => ?_, fun h_17 => ?_⟩
          · have f_18 := xr6_4 hs
            refine xm_sideWay _ _ _ hs (by omega) (by omega) (fun x_19 p_20 => ⟨_, rfl, ?_⟩)
            refine s_1027_97 _ _ _ _ _ _ ?_
            refine ⟨fun h_21 => ?_, fun h_21 => ?_⟩
            · exact k _ s hs (gX.refl _ _ _ _) (by omega) (by assumption) (by first | omega | assumption)
            · refine ⟨fun h_22 => ?_, fun h_22 => ?_⟩
              · refine s_1027_121 _ _ _ _ _ ?_
                exact ih_3 _ _ _ _ _ (by omega) (by omega) (by first | omega | assumption) (by first | omega | assumption) (by first | exact iv2_3 | exact H1_s (t := 0) q0 (by omega) (by omega)) (by first | exact iv3_3 | exact H2_s q0 (by omega) (by omega) (by omega)) (by omega)
              · try rw [show gp_wr ((gp_ushr (v1_3 + v2_3) 1) + 1) = (gp_ushr (v1_3 + v2_3) 1) + 1 from gp_wr_id (by omega) (by omega)]
                refine s_1027_121 _ _ _ _ _ ?_
                exact ih_3 _ _ _ _ _ (by omega) (by omega) (by first | omega | assumption) (by first | omega | assumption) (by first | exact iv2_3 | exact H1_s (t := 0) q0 (by omega) (by omega)) (by first | exact iv3_3 | exact H2_s q0 (by omega) (by omega) (by omega)) (by omega)
          · refine s_1027_97 _ _ _ _ _ _ ?_
            refine ⟨fun h_23 => ?_, fun h_23 => ?_⟩
            · exact k _ s hs (gX.refl _ _ _ _) (by omega) (by assumption) (by first | omega | assumption)
            · refine ⟨fun h_24 => ?_, fun h_24 => ?_⟩
              · refine s_1027_121 _ _ _ _ _ ?_
                exact ih_3 _ _ _ _ _ (by omega) (by omega) (by first | omega | assumption) (by first | omega | assumption) (by first | exact iv2_3 | exact H1_s (t := 0) q0 (by omega) (by omega)) (by first | exact iv3_3 | exact H2_s q0 (by omega) (by omega) (by omega)) (by omega)
              · try rw [show gp_wr ((gp_ushr (v1_3 + v2_3) 1) + 1) = (gp_ushr (v1_3 + v2_3) 1) + 1 from gp_wr_id (by omega) (by omega)]
                refine s_1027_121 _ _ _ _ _ ?_
                exact ih_3 _ _ _ _ _ (by omega) (by omega) (by first | omega | assumption) (by first | omega | assumption) (by first | exact iv2_3 | exact H1_s (t := 0) q0 (by omega) (by omega)) (by first | exact iv3_3 | exact H2_s q0 (by omega) (by omega) (by omega)) (by omega)
        · refine s_1027_74 _ _ _ _ _ _ ?_
          refine ⟨fun h_25 => ?_, fun h_25 => ?_⟩
          · have f_26 := xr6_4 hs
            refine xm_sideWay _ _ _ hs (by omega) (by omega) (fun x_27 p_28 => ⟨_, rfl, ?_⟩)
            refine s_1027_97 _ _ _ _ _ _ ?_
            refine ⟨fun h_29 => ?_, fun h_29 => ?_⟩
            · exact k _ s hs (gX.refl _ _ _ _) (by omega) (by assumption) (by first | omega | assumption)
            · refine ⟨fun h_30 => ?_, fun h_30 => ?_⟩
              · refine s_1027_121 _ _ _ _ _ ?_
                exact ih_3 _ _ _ _ _ (by omega) (by omega) (by first | omega | assumption) (by first | omega | assumption) (by first | exact iv2_3 | exact H1_s (t := 0) q0 (by omega) (by omega)) (by first | exact iv3_3 | exact H2_s q0 (by omega) (by omega) (by omega)) (by omega)
              · try rw [show gp_wr ((gp_ushr (v1_3 + v2_3) 1) + 1) = (gp_ushr (v1_3 + v2_3) 1) + 1 from gp_wr_id (by omega) (by omega)]
                refine s_1027_121 _ _ _ _ _ ?_
                exact ih_3 _ _ _ _ _ (by omega) (by omega) (by first | omega | assumption) (by first | omega | assumption) (by first | exact iv2_3 | exact H1_s (t := 0) q0 (by omega) (by omega)) (by first | exact iv3_3 | exact H2_s q0 (by omega) (by omega) (by omega)) (by omega)
          · refine s_1027_97 _ _ _ _ _ _ ?_
            refine ⟨fun h_31 => ?_, fun h_31 => ?_⟩
            · exact k _ s hs (gX.refl _ _ _ _) (by omega) (by assumption) (by first | omega | assumption)
            · refine ⟨fun h_32 => ?_, fun h_32 => ?_⟩
              · refine s_1027_121 _ _ _ _ _ ?_
                exact ih_3 _ _ _ _ _ (by omega) (by omega) (by first | omega | assumption) (by first | omega | assumption) (by first | exact iv2_3 | exact H1_s (t := 0) q0 (by omega) (by omega)) (by first | exact iv3_3 | exact H2_s q0 (by omega) (by omega) (by omega)) (by omega)
              · try rw [show gp_wr ((gp_ushr (v1_3 + v2_3) 1) + 1) = (gp_ushr (v1_3 + v2_3) 1) + 1 from gp_wr_id (by omega) (by omega)]
                refine s_1027_121 _ _ _ _ _ ?_
                exact ih_3 _ _ _ _ _ (by omega) (by omega) (by first | omega | assumption) (by first | omega | assumption) (by first | exact iv2_3 | exact H1_s (t := 0) q0 (by omega) (by omega)) (by first | exact iv3_3 | exact H2_s q0 (by omega) (by omega) (by omega)) (by omega)
      · have f_33 := xr6_4 hs
        refine ⟨fun h_34 => ?_, fun h_34 => ?_⟩
        · have f_35 := xr6_4 hs
          have lp_36 : ∀ (n_36 : Nat) (v3_36 : Int) (v4_36 : gV) (v5_36 : gV) (s_36 : gH), (XI L 0 s_36) → (gX L false [13, 14, 1196] s s_36) → (0 ≤ v3_36 ∧ v3_36 ≤ 60) → (gp_I s_36 6 4 = gp_I s 6 4) → (SH s s_36 v3_36) → (v1_3 ≤ v3_36) → (v3_36 ≤ gp_I s 6 4) → (v3_36 + 1).toNat < n_36 → gs_E L (d + 3) 1027 140 [gp_r (some 6), gp_i v1_3, gp_i v2_3, gp_i v3_36, v4_36, v5_36] [] s_36 K := by
            intro n_36
            induction n_36 with
            | zero => intro v3_36 v4_36 v5_36 s_36 hs_s_36 hf_s_36 hv3_36 tk0_36 iv0_36 iv1_36 iv2_36 hm_36; exact absurd hm_36 (Nat.not_lt_zero _)
            | succ n_36 ih_36 =>
              intro v3_36 v4_36 v5_36 s_36 hs_s_36 hf_s_36 hv3_36 tk0_36 iv0_36 iv1_36 iv2_36 hm_36
              refine s_1027_140 _ _ _ _ _ ?_
              refine ⟨fun h_37 => ?_, fun h_37 => ?_⟩
              · try rw [show gp_wr (v3_36 - 1) = v3_36 - 1 from gp_wr_id (by omega) (by omega)]
                refine ⟨by omega, ?_⟩
                have f_38 := xr14 hs_s_36 (Int.toNat (v3_36 - 1))
                refine ⟨by omega, ?_⟩
                intro s_39 e_40
                have hs_41 : XI L 0 s_39 := by rw [e_40]; exact xw14 hs_s_36 _ _ (by omega)
                have hf_42 : gX L false [13, 14, 1196] s s_39 := by rw [e_40]; exact gX.wI hf_s_36 (Or.inl rfl)
                have q_43 : gp_I s_39 6 4 = gp_I s_36 6 4 := by rw [e_40] <;> first | rfl | exact I_ne (by omega)
                refine ⟨by omega, ?_⟩
                have f_44 := xr14 hs_41 (Int.toNat v3_36)
                refine ⟨by omega, ?_⟩
                intro s_45 e_46
                have hs_47 : XI L 0 s_45 := by rw [e_46]; exact xw13 hs_41 _ _ (by omega)
                have hf_48 : gX L false [13, 14, 1196] s s_45 := by rw [e_46]; exact gX.wI hf_42 (Or.inl rfl)
                have q_49 : gp_I s_45 6 4 = gp_I s_39 6 4 := by rw [e_46] <;> first | rfl | exact I_ne (by omega)
                try rw [show gp_wr (v3_36 + (-1)) = v3_36 + (-1) from gp_wr_id (by omega) (by omega)]
                exact ih_36 _ _ _ _ hs_47 hf_48 (by omega) (by first | rfl | omega) (SH_s2 q0 hs iv0_36 (by omega) (by omega) (by assumption) (by assumption)) (by first | omega | assumption) (by first | omega | assumption) (by omega)
              · have hSH : SH s s_36 v1_3 := by rw [show v1_3 = v3_36 by omega]; exact iv0_36
                have f_50 := xr6_4 hs_s_36
                refine ⟨by omega, ?_⟩
                intro s_51 e_52
                have hs_53 : XI L 0 s_51 := by rw [e_52]; exact xw14 hs_s_36 _ _ (by omega)
                have hf_54 : gX L false [13, 14, 1196] s s_51 := by rw [e_52]; exact gX.wI hf_s_36 (Or.inl rfl)
                have q_55 : gp_I s_51 6 4 = gp_I s_36 6 4 := by rw [e_52] <;> first | rfl | exact I_ne (by omega)
                have f_56 := xr6_4 hs_53
                refine ⟨by omega, ?_⟩
                intro s_57 e_58
                have hs_59 : XI L 0 s_57 := by rw [e_58]; exact xw13 hs_53 _ _ (by omega)
                have hf_60 : gX L false [13, 14, 1196] s s_57 := by rw [e_58]; exact gX.wI hf_54 (Or.inl rfl)
                have q_61 : gp_I s_57 6 4 = gp_I s_51 6 4 := by rw [e_58] <;> first | rfl | exact I_ne (by omega)
                have f_62 := xr6_4 hs_59
                try rw [show gp_wr ((gp_I s_57 6 4) + 1) = (gp_I s_57 6 4) + 1 from gp_wr_id (by omega) (by omega)]
                intro s_63 e_64
                have hs_65 : XI L 0 s_63 := by rw [e_64]; exact xw6_4 hs_59 _ (by omega)
                have hf_66 : gX L false [13, 14, 1196] s s_63 := by rw [e_64]; exact gX.wI hf_60 (Or.inl rfl)
                have q_67 : gp_I s_63 6 4 = (gp_I s_57 6 4) + 1 := by rw [e_64]; exact (gz_rw _ _ _ _ _).1 rfl
                have f_68 := xr6_4 hs_65
                try rw [show gp_wr ((gp_I s_63 6 4) - 1) = (gp_I s_63 6 4) - 1 from gp_wr_id (by omega) (by omega)]
                exact k _ s_63 hs_65 hf_66 (by omega) (PO_ins2 q0 q1 hs hSH (by omega) (by omega) (fun q a b => iv2_3 q (by omega) b) iv3_3 hf_s_36 (by omega) (by assumption) (by assumption) (by assumption)) (by first | omega | assumption)
          exact lp_36 _ _ _ _ _ hs (gX.refl _ _ _ _) (by omega) (by first | rfl | omega) (SH_0 q0) (by first | omega | assumption) (by first | omega | assumption) (Nat.lt_succ_self _)
        · exact k _ s hs (gX.refl _ _ _ _) (by omega) (by assumption) (by first | omega | assumption)
  exact lp_3 _ _ _ _ _ _ (by omega) (by omega) (by first | omega | assumption) (by first | omega | assumption) (fun q h1 h2 => by omega) (fun q h1 => by omega) (Nat.lt_succ_self _)
set_option maxRecDepth 100000 in
/-- Pool.first -/
theorem xm_first  {L d : Nat} {K : Option gV → gH → Prop} {s : gH}  (p0 : BitVec 64) (hs : XI L 0 s)  (q0 : ¬ p0 = 0#64) (q1 : bd p0 61) (k : ∀ (r : Int), (0 ≤ r ∧ r ≤ 63) → (p0.getLsbD r.toNat = true) → K (some (gp_i r)) s) : gs_C L (d + 2) 1029 7 [gp_r (some 6), gp_l p0] s K := by
  refine s_1029_e _ ?_
  refine xm_lowest _ (fun x_1 p_2 p_3 => ⟨_, rfl, ?_⟩)
  have hl0 := lob_i q0 p_3
  have hl1 := q1 _ hl0.2.2
  have lp_4 : ∀ (n_4 : Nat) (v3_4 : Int) (v4_4 : BitVec 64) (v6_4 : gV), (0 ≤ v3_4 ∧ v3_4 ≤ 60) → (sub v4_4 p0) → (p0.getLsbD (Int.toNat v3_4) = true) → (v4_4).toNat < n_4 → gs_E L (d + 2) 1029 12 [gp_r (some 6), gp_l p0, gp_n, gp_i v3_4, gp_l v4_4, gp_n, v6_4] [] s K := by
    intro n_4
    induction n_4 with
    | zero => intro v3_4 v4_4 v6_4 hv3_4 iv0_4 iv1_4 hm_4; exact absurd hm_4 (Nat.not_lt_zero _)
    | succ n_4 ih_4 =>
      intro v3_4 v4_4 v6_4 hv3_4 iv0_4 iv1_4 hm_4
      refine s_1029_12 _ _ _ _ ?_
      refine ⟨fun h_5 => ?_, fun h_5 => ?_⟩
      · have hz_6 : v4_4 = 0#64 := (gm_cmp0 _ _).mp h_5
        exact k _ (by omega) (by first | omega | assumption)
      · have hz_7 : ¬ v4_4 = 0#64 := fun q => h_5 ((gm_cmp0 _ _).mpr q)
        refine xm_lowest _ (fun x_8 p_9 p_10 => ⟨_, rfl, ?_⟩)
        have hlw := iv0_4.low (by assumption) p_10
        have hbl := q1 _ hlw.2.2
        refine ⟨by omega, ?_⟩
        have f_11 := xr13 hs (Int.toNat x_8)
        refine ⟨by omega, ?_⟩
        have f_12 := xr13 hs (Int.toNat v3_4)
        refine ⟨fun h_13 => ?_, fun h_13 => ?_⟩
        · refine s_1029_45 _ _ _ _ ?_
          exact ih_4 _ _ _ (by omega) (by first | assumption | exact sub.refl _ | exact sub.rest (by assumption)) (by first | exact iv1_4 | exact hlw.2.2) (by have := rest_lt (by assumption : ¬ v4_4 = 0#64); omega)
        · refine s_1029_45 _ _ _ _ ?_
          exact ih_4 _ _ _ (by omega) (by first | assumption | exact sub.refl _ | exact sub.rest (by assumption)) (by first | exact iv1_4 | exact hlw.2.2) (by have := rest_lt (by assumption : ¬ v4_4 = 0#64); omega)
  exact lp_4 _ _ _ _ (by omega) ((sub.refl p0).rest) (hl0.2.2) (Nat.lt_succ_self _)
set_option maxRecDepth 100000 in
/-- Pool.take -/
theorem xm_take  {L d : Nat} {K : Option gV → gH → Prop} {s : gH} (n_p0 : Nat) (p0 : Nat) (p1 : Int) (hs : XI L 0 s) (h_p1 : 0 ≤ p1 ∧ p1 ≤ 59) (q0 : kT L s p0 n_p0) (q1 : n_p0 ≤ 60) (q2 : p1 < n_p0) (q3 : PO s) (k : ∀ (r : Int), ∀ (t : gH), XI L 0 t → gX L false [8, 9, 10, 11, 12, 13, 14, 15, 1196] s t → ((-1) ≤ r ∧ r ≤ 60) → (PO t) → ((r = -1 ∧ 60 ≤ gp_I s 6 4 + p1) ∨ (0 ≤ r ∧ r < gp_I t 6 4)) → (gp_I s 6 4 ≤ gp_I t 6 4 ∧ gp_I t 6 4 ≤ gp_I s 6 4 + p1 + 1) → K (some (gp_i r)) t) : gs_C L (d + 4) 1031 6 [gp_r (some 6), gp_r (some p0), gp_i p1] s K := by
  have hn_p0 := q0.n hs
  have f_1 := xr6_4 hs
  refine s_1031_e _ _ ?_
  refine ⟨p0, rfl, ?_⟩
  refine ⟨q0.2.1, ?_⟩
  refine xm_followers n_p0 _ _ hs (by omega) (by first | assumption | exact kT7 hs.1.1 | exact kT25 hs.1.1) (by first | omega | assumption) (fun m_2 p_3 p_4 p_5 => ⟨_, rfl, ?_⟩)
  have lp_7 : ∀ (n_7 : Nat) (v5_7 : Int) (s_7 : gH), (XI L 0 s_7) → (gX L false [8, 9, 10, 11, 12, 13, 14, 15, 1196] s s_7) → (PO s_7) → (kT L s_7 p0 n_p0) → (0 ≤ v5_7 ∧ v5_7 ≤ 60) → (∀ k : Nat, (k : Int) < v5_7 → (m_2).getLsbD k = true → 0 ≤ gp_I s_7 15 k ∧ gp_I s_7 15 k < gp_I s_7 6 4) → (gp_I s 6 4 ≤ gp_I s_7 6 4) → (gp_I s_7 6 4 ≤ gp_I s 6 4 + v5_7) → (v5_7 ≤ p1 + 1) → (61 - v5_7).toNat < n_7 → gs_E L (d + 4) 1031 9 [gp_r (some 6), gp_r (some p0), gp_i p1, gp_l m_2, gp_n, gp_i v5_7] [] s_7 K := by
    intro n_7
    induction n_7 with
    | zero => intro v5_7 s_7 hs_s_7 hf_s_7 PO_s_7 kt_p0_s_7 hv5_7 iv0_7 iv1_7 iv2_7 iv3_7 hm_7; exact absurd hm_7 (Nat.not_lt_zero _)
    | succ n_7 ih_7 =>
      intro v5_7 s_7 hs_s_7 hf_s_7 PO_s_7 kt_p0_s_7 hv5_7 iv0_7 iv1_7 iv2_7 iv3_7 hm_7
      refine s_1031_9 _ _ _ _ ?_
      refine ⟨fun h_8 => ?_, fun h_8 => ?_⟩
      · refine ⟨by omega, ?_⟩
        have f_9 := xr15 hs_s_7 (Int.toNat p1)
        have hrt := iv0_7 (Int.toNat p1) (by omega) (by assumption)
        exact k _ s_7 hs_s_7 hf_s_7 (by omega) (PO_s_7) (by first | omega | assumption) (by first | omega | assumption)
      · refine xm_has _ _ (by omega) (fun x_10 p_11 p_12 => ⟨_, rfl, ?_⟩)
        refine ⟨fun h_13 => ?_, fun h_13 => ?_⟩
        · have hb_14 := hasF p_12 h_13
          refine s_1031_93 _ _ _ _ ?_
          try rw [show gp_wr (v5_7 + 1) = v5_7 + 1 from gp_wr_id (by omega) (by omega)]
          exact ih_7 _ _ hs_s_7 hf_s_7 PO_s_7 kt_p0_s_7 (by omega) (by first | exact tk_no (by omega) iv0_7 (by assumption) | exact tk_step (by omega) iv0_7 hcf1 hcf2 rfl rfl (by assumption) (by omega) (by omega) (by omega)) (by first | omega | assumption) (by first | omega | assumption) (by first | omega | assumption) (by omega)
        · have hb_17 := hasT p_12 h_13
          have hN60 := xr6_4 hs_s_7
          have htk := tk_pre q0 hs (by omega) hf_s_7 rfl rfl (by omega) ‹FC _ _ m_2› (by assumption) iv0_7
          refine ⟨p0, rfl, ?_⟩
          refine ⟨kt_p0_s_7.2.1, ?_⟩
          refine ⟨(p0 + 1), (kt_p0_s_7.tt hs_s_7).1.2.2.2.1.1, ?_⟩
          refine ⟨gin ((kt_p0_s_7.tt hs_s_7).1.2.2.2.2.1.1) (by omega), ?_⟩
          have b_18 : bd (gp_L s_7 (p0 + 1) (Int.toNat v5_7)) v5_7 := bd_le ((kt_p0_s_7.tt hs_s_7).1.2.2.2.2.2 (Int.toNat v5_7)).1.1 (by omega)
          refine xm_carried15 (gp_I s_7 6 4) v5_7 _ hs_s_7 (by first | assumption | exact bd_le (by assumption) (by omega) | exact bd_0 _) (by first | omega | assumption) (by first | omega | assumption) (htk.1) (fun m_19 p_20 => ⟨_, rfl, ?_⟩)
          refine ⟨kt_p0_s_7.2.1, ?_⟩
          refine ⟨(p0 + 2), (kt_p0_s_7.tt hs_s_7).1.2.2.2.1.2.1, ?_⟩
          refine ⟨gin ((kt_p0_s_7.tt hs_s_7).1.2.2.2.2.1.2.1) (by omega), ?_⟩
          have b_21 : bd (gp_L s_7 (p0 + 2) (Int.toNat v5_7)) v5_7 := bd_le ((kt_p0_s_7.tt hs_s_7).1.2.2.2.2.2 (Int.toNat v5_7)).1.2 (by omega)
          refine xm_carried15 (gp_I s_7 6 4) v5_7 _ hs_s_7 (by first | assumption | exact bd_le (by assumption) (by omega) | exact bd_0 _) (by first | omega | assumption) (by first | omega | assumption) (htk.2) (fun m_22 p_23 => ⟨_, rfl, ?_⟩)
          refine ⟨kt_p0_s_7.2.1, ?_⟩
          refine ⟨(p0 + 3), (kt_p0_s_7.tt hs_s_7).1.2.2.2.1.2.2.1, ?_⟩
          refine ⟨gin ((kt_p0_s_7.tt hs_s_7).1.2.2.2.2.1.2.2.1) (by omega), ?_⟩
          refine ⟨kt_p0_s_7.2.1, ?_⟩
          refine ⟨(p0 + 4), (kt_p0_s_7.tt hs_s_7).1.2.2.2.1.2.2.2.1, ?_⟩
          refine ⟨gin ((kt_p0_s_7.tt hs_s_7).1.2.2.2.2.1.2.2.2.1) (by omega), ?_⟩
          refine xm_sketch _ _ _ _ hs_s_7 (PO_s_7) (by first | assumption | exact bd_le (by assumption) (by omega) | exact bd_0 _) (by first | assumption | exact bd_le (by assumption) (by omega) | exact bd_0 _) (fun s_24 hs_25 hf_26 p_27 p_28 => ⟨rfl, ?_⟩)
          have hf_29 : gX L false [8, 9, 10, 11, 12, 13, 14, 15, 1196] s s_24 := gX.trans hf_s_7 hf_26 rfl rfl
          have kt_30 : kT L s_24 p0 n_p0 := kt_p0_s_7.fr hf_26.1
          have q_31 : gp_I s_24 6 4 = gp_I s_7 6 4 := (hf_26.2.2.1 6 4 (by decide) (by decide) rfl).1
          have hcf1 := hf_26
          refine xm_settle hs_25 (p_27) (p_28) (fun x_32 s_33 hs_34 hf_35 p_36 p_37 p_38 => ⟨_, rfl, ?_⟩)
          have hf_39 : gX L false [8, 9, 10, 11, 12, 13, 14, 15, 1196] s s_33 := gX.trans hf_29 hf_35 rfl rfl
          have kt_40 : kT L s_33 p0 n_p0 := kt_30.fr hf_35.1
          have hcf2 := hf_35
          obtain ⟨y9, hy9⟩ : ∃ y, y = x_32 := ⟨_, rfl⟩
          refine ⟨by omega, ?_⟩
          intro s_41 e_42
          have hs_43 : XI L 0 s_41 := by rw [e_42]; exact xw15 hs_34 _ _ (by omega)
          have hf_44 : gX L false [8, 9, 10, 11, 12, 13, 14, 15, 1196] s s_41 := by rw [e_42]; exact gX.wI hf_39 (Or.inl rfl)
          have kt_45 : kT L s_41 p0 n_p0 := by rw [e_42]; exact kt_40
          have q_46 : gp_I s_41 6 4 = gp_I s_33 6 4 := by rw [e_42] <;> first | rfl | exact I_ne (by omega)
          have pd_47 : PO s_41 := by rw [e_42]; exact PO_fr p_37 (gX.wI (gX.refl L true [15] _) (Or.inl rfl)) rfl rfl rfl rfl rfl rfl
          refine ⟨by omega, ?_⟩
          have f_48 := xr15 hs_43 (Int.toNat v5_7)
          have hpl : gp_I s_41 15 (Int.toNat v5_7) = y9 := by rw [hy9, ‹s_41 = gp_wI _ 15 _ _›]; exact (gz_rw _ _ _ _ _).1 rfl
          refine ⟨fun h_49 => ?_, fun h_49 => ?_⟩
          · exact k _ s_41 hs_43 hf_44 (by omega) (pd_47) (by first | omega | assumption) (by first | omega | assumption)
          · refine s_1031_93 _ _ _ _ ?_
            try rw [show gp_wr (v5_7 + 1) = v5_7 + 1 from gp_wr_id (by omega) (by omega)]
            exact ih_7 _ _ hs_43 hf_44 pd_47 kt_45 (by omega) (by first | exact tk_no (by omega) iv0_7 (by assumption) | exact tk_step (by omega) iv0_7 hcf1 hcf2 rfl rfl (by assumption) (by omega) (by omega) (by omega)) (by first | omega | assumption) (by first | omega | assumption) (by first | omega | assumption) (by omega)
  exact lp_7 _ _ _ hs (gX.refl _ _ _ _) q3 q0 (by omega) (fun k hk => by omega) (by first | omega | assumption) (by first | omega | assumption) (by first | omega | assumption) (Nat.lt_succ_self _)
set_option maxRecDepth 100000 in
/-- Pool.tableOf -/
theorem xm_tableOf  {L d : Nat} {K : Option gV → gH → Prop} {s : gH}  (p0 : Int) (hs : XI L 0 s) (h_p0 : 0 ≤ p0 ∧ p0 ≤ 59) (q0 : PO s) (q1 : p0 < gp_I s 6 4) (k : ∀ (r : Option Nat), ∀ (t : gH), XI L 0 t → gX L true [15] s t → (∃ a n, r = some a ∧ kT L t a n ∧ n ≤ 60) → (gp_sz t ≤ gp_sz s + 6) → (gp_us t ≤ gp_us s + 310) → K (some (gp_r r)) t) : gs_C L (d + 3) 1032 8 [gp_r (some 6), gp_i p0] s K := by
  have f_1 := xr6_4 hs
  refine s_1032_e _ ?_
  refine xm_followers 61 _ _ hs (by omega) (by first | assumption | exact kT7 hs.1.1 | exact kT25 hs.1.1) (by first | omega | assumption) (fun m_2 p_3 p_4 p_5 => ⟨_, rfl, ?_⟩)
  have hFC := p_5
  have hbN : bd m_2 (gp_I s 6 4) := bd_le p_4 (by omega)
  have hbt := p_3
  refine ⟨hs.1.1, ?_⟩
  intro s_6 e_7
  have h9_s_6 : (gp_sh (gp_mk L s_6) (gp_sz s)) = (9, 10) := by rw [e_7, sh_new hs.1.1, if_pos rfl]
  have hR_s_6 : ∀ f, gp_R (gp_mk L s_6) (gp_sz s) f = none := fun f => by rw [e_7, R_new hs.1.1, if_pos rfl]
  have hz_s_6 : gp_sz s_6 = gp_sz s + 1 ∧ gp_us s_6 = gp_us s + 10 := by rw [e_7]; exact ⟨rfl, rfl⟩
  have hw_s_6 : 117 ≤ gp_sz s := hs.1.1
  have hs_8 : XI L (gp_sz s) s_6 := by rw [e_7]; exact XI.new ⟨XT.weak hs.1, hs.2⟩ _ _ (Or.inr rfl)
  have hk_s_6 : (gp_sh (gp_mk L s_6) (gp_sz s)).1 = 9 := by rw [h9_s_6]
  have hf_9 : gX L true [15] s s_6 := by rw [e_7]; exact gX.new (gX.refl _ _ _ _) _ _ hs.1.1
  have hg_s_6 : gX L true [] s s_6 := by rw [e_7]; exact gX.new (gX.refl L true [] _) _ _ hs.1.1
  have pd_10 : PO s_6 := PO_fr q0 hg_s_6 rfl rfl rfl rfl rfl rfl
  have q_11 : gp_I s_6 6 4 = gp_I s 6 4 := (hg_s_6.2.2.1 6 4 (by decide) (by decide) rfl).1
  refine xm_bc _ (fun x_12 p_13 p_14 => ⟨_, rfl, ?_⟩)
  have hcn := cnt_range hbt hbN (by omega)
  refine xm_init _ _ (by omega) (by assumption) (by first | omega | assumption) (by first | omega | assumption) (by first | omega | assumption) (by first | omega | assumption) (fun s_15 hs_16 hf_17 p_18 p_19 p_20 p_21 => ⟨rfl, ?_⟩)
  have hf_22 : gX L true [15] s s_15 := gX.trans hf_9 hf_17 rfl rfl
  have pd_23 : PO s_15 := PO_fr pd_10 hf_17 rfl rfl rfl rfl rfl rfl
  have q_24 : gp_I s_15 6 4 = gp_I s_6 6 4 := (hf_17.2.2.1 6 4 (by decide) (by decide) rfl).1
  obtain ⟨a_25, ha_25⟩ : ∃ a, (gp_sz s) = a := ⟨_, rfl⟩
  have hba_25 : s.1 = a_25 := ha_25
  obtain ⟨n_26, hn_26⟩ : ∃ n : Nat, Int.toNat x_12 = n := ⟨_, rfl⟩
  rw [ha_25] at p_18 p_19 ⊢
  rw [hn_26] at p_18
  have hn_a_25 := p_18.n hs_16
  have hr_a_25 := (p_18.tt hs_16).1.1
  have lp_28 : ∀ (n_28 : Nat) (v5_28 : Int) (v6_28 : Int) (v7_28 : gV) (s_28 : gH), (XI L 0 s_28) → (gX L true [15] s s_28) → (PO s_28) → (kT L s_28 a_25 n_26) → (gp_sz s_28 ≤ gp_sz s + 6 ∧ gp_us s_28 ≤ gp_us s + 310) → (0 ≤ v5_28 ∧ v5_28 ≤ 60) → (0 ≤ v6_28 ∧ v6_28 ≤ 60) → (gp_I s_28 6 4 = gp_I s_15 6 4) → (∀ p : Nat, (m_2).getLsbD p = true → gp_I s_28 13 p < v6_28 → 0 ≤ gp_I s_28 15 p ∧ gp_I s_28 15 p < v5_28) → (Int.toNat (61 - v6_28)) < n_28 → gs_E L (d + 3) 1032 28 [gp_r (some 6), gp_i p0, gp_l m_2, gp_n, gp_r (some a_25), gp_i v5_28, gp_i v6_28, v7_28] [] s_28 K := by
    intro n_28
    induction n_28 with
    | zero => intro v5_28 v6_28 v7_28 s_28 hs_s_28 hf_s_28 PO_s_28 kt_a_25_s_28 rm_s_28 hv5_28 hv6_28 tk0_28 iv0_28 hm_28; exact absurd hm_28 (Nat.not_lt_zero _)
    | succ n_28 ih_28 =>
      intro v5_28 v6_28 v7_28 s_28 hs_s_28 hf_s_28 PO_s_28 kt_a_25_s_28 rm_s_28 hv5_28 hv6_28 tk0_28 iv0_28 hm_28
      refine s_1032_28 _ _ _ _ _ _ ?_
      have f_29 := xr6_4 hs_s_28
      refine ⟨fun h_30 => ?_, fun h_30 => ?_⟩
      · refine ⟨a_25, rfl, ?_⟩
        refine ⟨kt_a_25_s_28.2.1, ?_⟩
        have f_31 := (kt_a_25_s_28.tt hs_s_28).1.2.2.1
        have f_32 := kt_a_25_s_28.n hs_s_28
        refine ⟨fun h_33 => ?_, fun h_33 => ?_⟩
        · refine ⟨by omega, ?_⟩
          have f_34 := xr14 hs_s_28 (Int.toNat v6_28)
          refine xm_has _ _ (by omega) (fun x_35 p_36 p_37 => ⟨_, rfl, ?_⟩)
          refine ⟨fun h_38 => ?_, fun h_38 => ?_⟩
          · have hb_39 := hasF p_37 h_38
            refine s_1032_181 _ _ _ _ _ _ ?_
            try rw [show gp_wr (v6_28 + 1) = v6_28 + 1 from gp_wr_id (by omega) (by omega)]
            exact ih_28 _ _ _ _ hs_s_28 hf_s_28 PO_s_28 kt_a_25_s_28 (by omega) (by omega) (by omega) (by first | rfl | omega) (by first | exact tb_step PO_s_28 (by omega) (bd_le hbN (by omega)) iv0_28 (by omega) he13 he15 | exact tb_no PO_s_28 (bd_le hbN (by omega)) iv0_28 (by assumption)) (by omega)
          · have hb_42 := hasT p_37 h_38
            have hpo := PO_s_28.1 (Int.toNat v6_28) (by omega)
            refine ⟨by omega, ?_⟩
            intro s_43 e_44
            have hs_45 : XI L 0 s_43 := by rw [e_44]; exact xw15 hs_s_28 _ _ (by omega)
            have hf_46 : gX L true [15] s s_43 := by rw [e_44]; exact gX.wI hf_s_28 (Or.inl rfl)
            have kt_47 : kT L s_43 a_25 n_26 := by rw [e_44]; exact kt_a_25_s_28
            have z_48 : gp_sz s_43 = gp_sz s_28 ∧ gp_us s_43 = gp_us s_28 := by rw [e_44]; exact ⟨rfl, rfl⟩
            have q_49 : gp_I s_43 6 4 = gp_I s_28 6 4 := by rw [e_44] <;> first | rfl | exact I_ne (by omega)
            have pd_50 : PO s_43 := by rw [e_44]; exact PO_fr PO_s_28 (gX.wI (gX.refl L true [15] _) (Or.inl rfl)) rfl rfl rfl rfl rfl rfl
            have hPK := tb_pre PO_s_28 hs_s_28 (bd_le hbN (by omega)) (FC_eq hFC hf_s_28 rfl rfl) (by omega) (by assumption) iv0_28 (by assumption)
            refine ⟨kt_47.2.1, ?_⟩
            refine ⟨by omega, ?_⟩
            have b_51 : bd (gp_L s_43 8 (Int.toNat (gp_I s_28 14 (Int.toNat v6_28)))) (gp_I s_28 14 (Int.toNat v6_28)) := bd_le (xr8 hs_45 (Int.toNat (gp_I s_28 14 (Int.toNat v6_28)))) (by omega)
            refine xm_carried15 v5_28 (gp_I s_28 14 (Int.toNat v6_28)) _ hs_45 (by first | assumption | exact bd_le (by assumption) (by omega) | exact bd_0 _) (by first | omega | assumption) (by first | omega | assumption) (fun k hk => hPK k (Or.inl hk)) (fun m_52 p_53 => ⟨_, rfl, ?_⟩)
            refine ⟨(a_25 + 1), (kt_47.tt hs_45).1.2.2.2.1.1, ?_⟩
            refine ⟨gin ((kt_47.tt hs_45).1.2.2.2.2.1.1) (by omega), ?_⟩
            intro s_54 e_55
            have hs_56 : XI L 0 s_54 := by rw [e_55]; exact XI.t12 hs_45 kt_47 _ _ _ (Or.inl rfl) (by exact bd_le (by assumption) (by omega))
            have hf_57 : gX L true [15] s s_54 := by rw [e_55]; exact gX.wL hf_46 (gXl (by omega) (by omega))
            have kt_58 : kT L s_54 a_25 n_26 := by rw [e_55]; exact kt_47
            have z_59 : gp_sz s_54 = gp_sz s_43 ∧ gp_us s_54 = gp_us s_43 := by rw [e_55]; exact ⟨rfl, rfl⟩
            have q_60 : gp_I s_54 6 4 = gp_I s_43 6 4 := by rw [e_55] <;> first | rfl | exact I_ne (by omega)
            have pd_62 : PO s_54 := by rw [e_55]; exact PO_wL pd_50 (by omega)
            refine ⟨kt_58.2.1, ?_⟩
            refine ⟨by omega, ?_⟩
            have b_63 : bd (gp_L s_54 9 (Int.toNat (gp_I s_28 14 (Int.toNat v6_28)))) (gp_I s_28 14 (Int.toNat v6_28)) := bd_le (xr9 hs_56 (Int.toNat (gp_I s_28 14 (Int.toNat v6_28)))) (by omega)
            refine xm_carried15 v5_28 (gp_I s_28 14 (Int.toNat v6_28)) _ hs_56 (by first | assumption | exact bd_le (by assumption) (by omega) | exact bd_0 _) (by first | omega | assumption) (by first | omega | assumption) (fun k hk => tb2 (by assumption) (by omega) hPK k (Or.inr hk)) (fun m_64 p_65 => ⟨_, rfl, ?_⟩)
            refine ⟨(a_25 + 2), (kt_58.tt hs_56).1.2.2.2.1.2.1, ?_⟩
            refine ⟨gin ((kt_58.tt hs_56).1.2.2.2.2.1.2.1) (by omega), ?_⟩
            intro s_66 e_67
            have hs_68 : XI L 0 s_66 := by rw [e_67]; exact XI.t12 hs_56 kt_58 _ _ _ (Or.inr rfl) (by exact bd_le (by assumption) (by omega))
            have hf_69 : gX L true [15] s s_66 := by rw [e_67]; exact gX.wL hf_57 (gXl (by omega) (by omega))
            have kt_70 : kT L s_66 a_25 n_26 := by rw [e_67]; exact kt_58
            have z_71 : gp_sz s_66 = gp_sz s_54 ∧ gp_us s_66 = gp_us s_54 := by rw [e_67]; exact ⟨rfl, rfl⟩
            have q_72 : gp_I s_66 6 4 = gp_I s_54 6 4 := by rw [e_67] <;> first | rfl | exact I_ne (by omega)
            have pd_74 : PO s_66 := by rw [e_67]; exact PO_wL pd_62 (by omega)
            refine ⟨kt_70.2.1, ?_⟩
            refine ⟨by omega, ?_⟩
            refine ⟨(a_25 + 3), (kt_70.tt hs_68).1.2.2.2.1.2.2.1, ?_⟩
            refine ⟨gin ((kt_70.tt hs_68).1.2.2.2.2.1.2.2.1) (by omega), ?_⟩
            intro s_75 e_76
            have hs_77 : XI L 0 s_75 := by rw [e_76]; exact XI.t34 hs_68 kt_70 _ _ _ (Or.inl rfl)
            have hf_78 : gX L true [15] s s_75 := by rw [e_76]; exact gX.wI hf_69 (gXt kt_70 hs_68 (by omega) (by omega) (by omega))
            have kt_79 : kT L s_75 a_25 n_26 := by rw [e_76]; exact kt_70
            have z_80 : gp_sz s_75 = gp_sz s_66 ∧ gp_us s_75 = gp_us s_66 := by rw [e_76]; exact ⟨rfl, rfl⟩
            have q_81 : gp_I s_75 6 4 = gp_I s_66 6 4 := by rw [e_76] <;> first | rfl | exact I_ne (by omega)
            have pd_82 : PO s_75 := by rw [e_76]; exact PO_fr pd_74 (gX.wI (gX.refl L true [] _) (gXt kt_70 hs_68 (by omega) (by omega) (by omega))) rfl rfl rfl rfl rfl rfl
            refine ⟨kt_79.2.1, ?_⟩
            refine ⟨by omega, ?_⟩
            refine ⟨(a_25 + 4), (kt_79.tt hs_77).1.2.2.2.1.2.2.2.1, ?_⟩
            refine ⟨gin ((kt_79.tt hs_77).1.2.2.2.2.1.2.2.2.1) (by omega), ?_⟩
            intro s_83 e_84
            have hs_85 : XI L 0 s_83 := by rw [e_84]; exact XI.t34 hs_77 kt_79 _ _ _ (Or.inr rfl)
            have hf_86 : gX L true [15] s s_83 := by rw [e_84]; exact gX.wI hf_78 (gXt kt_79 hs_77 (by omega) (by omega) (by omega))
            have kt_87 : kT L s_83 a_25 n_26 := by rw [e_84]; exact kt_79
            have z_88 : gp_sz s_83 = gp_sz s_75 ∧ gp_us s_83 = gp_us s_75 := by rw [e_84]; exact ⟨rfl, rfl⟩
            have q_89 : gp_I s_83 6 4 = gp_I s_75 6 4 := by rw [e_84] <;> first | rfl | exact I_ne (by omega)
            have pd_90 : PO s_83 := by rw [e_84]; exact PO_fr pd_82 (gX.wI (gX.refl L true [] _) (gXt kt_79 hs_77 (by omega) (by omega) (by omega))) rfl rfl rfl rfl rfl rfl
            refine ⟨kt_87.2.1, ?_⟩
            refine ⟨by omega, ?_⟩
            have f_91 := xr12 hs_85 (Int.toNat (gp_I s_28 14 (Int.toNat v6_28)))
            refine ⟨(a_25 + 5), (kt_87.tt hs_85).1.2.2.2.1.2.2.2.2, ?_⟩
            refine ⟨gin ((kt_87.tt hs_85).1.2.2.2.2.1.2.2.2.2) (by omega), ?_⟩
            intro s_92 e_93
            have hs_94 : XI L 0 s_92 := by rw [e_93]; exact XI.t5 hs_85 kt_87 _ _ _ rfl (by omega) (by omega)
            have hf_95 : gX L true [15] s s_92 := by rw [e_93]; exact gX.wI hf_86 (gXt kt_87 hs_85 (by omega) (by omega) (by omega))
            have kt_96 : kT L s_92 a_25 n_26 := by rw [e_93]; exact kt_87
            have z_97 : gp_sz s_92 = gp_sz s_83 ∧ gp_us s_92 = gp_us s_83 := by rw [e_93]; exact ⟨rfl, rfl⟩
            have q_98 : gp_I s_92 6 4 = gp_I s_83 6 4 := by rw [e_93] <;> first | rfl | exact I_ne (by omega)
            have pd_99 : PO s_92 := by rw [e_93]; exact PO_fr pd_90 (gX.wI (gX.refl L true [] _) (gXt kt_87 hs_85 (by omega) (by omega) (by omega))) rfl rfl rfl rfl rfl rfl
            have he13 : ∀ k, gp_I s_92 13 k = gp_I s_28 13 k := by subst_vars; exact fun k => (I_ne (by omega)).trans ((I_ne (by omega)).trans ((I_ne (by omega)).trans rfl))
            have he15 : ∀ k, gp_I s_92 15 k = if k = Int.toNat (gp_I s_28 14 (Int.toNat v6_28)) then v5_28 else gp_I s_28 15 k := by subst_vars; exact fun k => (I_ne (by omega)).trans ((I_ne (by omega)).trans ((I_ne (by omega)).trans (gz_rwi s_28 15 _ _ k)))
            try rw [show gp_wr (v5_28 + 1) = v5_28 + 1 from gp_wr_id (by omega) (by omega)]
            refine s_1032_181 _ _ _ _ _ _ ?_
            try rw [show gp_wr (v6_28 + 1) = v6_28 + 1 from gp_wr_id (by omega) (by omega)]
            exact ih_28 _ _ _ _ hs_94 hf_95 pd_99 kt_96 (by omega) (by omega) (by omega) (by first | rfl | omega) (by first | exact tb_step PO_s_28 (by omega) (bd_le hbN (by omega)) iv0_28 (by omega) he13 he15 | exact tb_no PO_s_28 (bd_le hbN (by omega)) iv0_28 (by assumption)) (by omega)
        · refine s_1032_187 _ _ _ _ _ _ ?_
          exact k _ s_28 hs_s_28 hf_s_28 (⟨_, _, rfl, kt_a_25_s_28, by omega⟩) (by first | omega | assumption) (by first | omega | assumption)
      · refine s_1032_187 _ _ _ _ _ _ ?_
        exact k _ s_28 hs_s_28 hf_s_28 (⟨_, _, rfl, kt_a_25_s_28, by omega⟩) (by first | omega | assumption) (by first | omega | assumption)
  exact lp_28 _ _ _ _ _ hs_16 hf_22 pd_23 p_18 (by omega) (by omega) (by omega) (by first | rfl | omega) (fun p h1 h2 => absurd h2 (by have h9 := (xr13 hs_16 p).1; omega)) (Nat.lt_succ_self _)
set_option maxRecDepth 100000 in
/-- Pool.add -/
theorem xm_add  {L d : Nat} {K : Option gV → gH → Prop} {s : gH}  (p0 : BitVec 64) (p1 : BitVec 64) (p2 : Int) (p3 : Int) (hs : XI L 0 s)  (q0 : PO s) (q1 : bd p0 (gp_I s 6 4)) (q2 : bd p1 (gp_I s 6 4)) (k : ∀ (r : Int), ∀ (t : gH), XI L 0 t → gX L false [8, 9, 10, 11, 12, 13, 14, 1196] s t → ((-1) ≤ r ∧ r ≤ 59) → (PO t) → ((r = -1 ∧ gp_I t 6 4 = gp_I s 6 4 ∧ gp_I s 6 4 = 60) ∨ (0 ≤ r ∧ r < gp_I t 6 4 ∧ gp_I s 6 4 ≤ gp_I t 6 4 ∧ gp_I t 6 4 ≤ gp_I s 6 4 + 1)) → K (some (gp_i r)) t) : gs_C L (d + 4) 1028 7 [gp_r (some 6), gp_l p0, gp_l p1, gp_i p2, gp_i p3] s K := by
  have f_1 := xr6_4 hs
  refine s_1028_e _ _ _ _ ?_
  refine xm_sketch _ _ _ _ hs (q0) (by first | assumption | exact bd_le (by assumption) (by omega) | exact bd_0 _) (by first | assumption | exact bd_le (by assumption) (by omega) | exact bd_0 _) (fun s_2 hs_3 hf_4 p_5 p_6 => ⟨rfl, ?_⟩)
  have hf_7 : gX L false [8, 9, 10, 11, 12, 13, 14, 1196] s s_2 := gX.sub hf_4 rfl rfl
  have q_8 : gp_I s_2 6 4 = gp_I s 6 4 := (hf_4.2.2.1 6 4 (by decide) (by decide) rfl).1
  refine xm_settle hs_3 (p_5) (p_6) (fun x_9 s_10 hs_11 hf_12 p_13 p_14 p_15 => ⟨_, rfl, ?_⟩)
  have hf_16 : gX L false [8, 9, 10, 11, 12, 13, 14, 1196] s s_10 := gX.trans hf_7 hf_12 rfl rfl
  exact k _ s_10 hs_11 hf_16 (by omega) (p_14) (by first | omega | assumption)
