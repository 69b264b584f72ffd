/-! the pool: games in their order -/
/-- members lead to members -/
def FC (A B : Nat → BitVec 64) (m : BitVec 64) : Prop := ∀ i j : Nat, m.getLsbD i = true → ((A i).getLsbD j = true ∨ (B i).getLsbD j = true) → m.getLsbD j = true
def PO (s : gH) : Prop :=
  (∀ r : Nat, (r : Int) < gp_I s 6 4 → gp_I s 14 r < gp_I s 6 4 ∧ gp_I s 13 (gp_I s 14 r).toNat = r) ∧
  (∀ p : Nat, (p : Int) < gp_I s 6 4 → gp_I s 13 p < gp_I s 6 4 ∧ gp_I s 14 (gp_I s 13 p).toNat = p) ∧
  (∀ r q : Nat, r ≤ q → (q : Int) < gp_I s 6 4 → gp_I s 12 (gp_I s 14 r).toNat ≤ gp_I s 12 (gp_I s 14 q).toNat) ∧
  (∀ p k : Nat, (p : Int) < gp_I s 6 4 → ((gp_L s 8 p).getLsbD k = true ∨ (gp_L s 9 p).getLsbD k = true) → gp_I s 12 k < gp_I s 12 p)
theorem PO_0 {s : gH} (h : gp_I s 6 4 = 0) : PO s := ⟨fun r hr => by omega, fun r hr => by omega, fun r q _ hr => by omega, fun p k hr => by omega⟩
theorem PO_eq {s t : gH} (h : PO s) (e6 : gp_I t 6 4 = gp_I s 6 4) (e14 : ∀ k, gp_I t 14 k = gp_I s 14 k) (e13 : ∀ k, gp_I t 13 k = gp_I s 13 k) (e12 : ∀ k, gp_I t 12 k = gp_I s 12 k) (e8 : ∀ k, gp_L t 8 k = gp_L s 8 k) (e9 : ∀ k, gp_L t 9 k = gp_L s 9 k) : PO t := by
  obtain ⟨h1, h2, h3, h4⟩ := h
  refine ⟨fun r hr => ?_, fun p hp => ?_, fun r q hq hr => ?_, fun p k hp hk => ?_⟩
  · rw [e14, e13, e6]; exact h1 r (by omega)
  · rw [e13, e14, e6]; exact h2 p (by omega)
  · rw [e14, e14, e12, e12]; exact h3 r q hq (by omega)
  · rw [e12, e12]; rw [e8, e9] at hk; exact h4 p k (by omega) hk
theorem PO_fr {L : Nat} {al : Bool} {m : List Nat} {s t : gH} (h : PO s) (g : gX L al m s t) (e6 : m.contains 1196 = false) (e8 : m.contains 8 = false) (e9 : m.contains 9 = false) (e12 : m.contains 12 = false) (e13 : m.contains 13 = false) (e14 : m.contains 14 = false) : PO t :=
  PO_eq h (g.2.2.1 6 4 (by decide) (by decide) e6).1 (fun k => (g.2.2.1 14 k (by decide) (by decide) e14).1) (fun k => (g.2.2.1 13 k (by decide) (by decide) e13).1) (fun k => (g.2.2.1 12 k (by decide) (by decide) e12).1) (fun k => (g.2.2.1 8 k (by decide) (by decide) e8).2.1) (fun k => (g.2.2.1 9 k (by decide) (by decide) e9).2.1)
theorem L_ne {s : gH} {b k a j : Nat} {v : BitVec 64} (h : a ≠ b) : gp_L (gp_wL s b k v) a j = gp_L s a j := u2_ne _ _ _ _ _ _ h
theorem PO_wL {s : gH} {c k : Nat} {v : BitVec 64} (h : PO s) (hc : 10 ≤ c) : PO (gp_wL s c k v) := PO_eq h rfl (fun _ => rfl) (fun _ => rfl) (fun _ => rfl) (fun _ => L_ne (by omega)) (fun _ => L_ne (by omega))
/-- what is sketched is deeper than its options -/
def SK (s : gH) : Prop := ∀ k : Nat, ((gp_L s 8 (gp_I s 6 4).toNat).getLsbD k = true ∨ (gp_L s 9 (gp_I s 6 4).toNat).getLsbD k = true) → gp_I s 12 k < gp_I s 12 (gp_I s 6 4).toNat
theorem SK_fr {L : Nat} {al : Bool} {m : List Nat} {s t : gH} (h : SK s) (g : gX L al m s t) (e6 : m.contains 1196 = false) (e8 : m.contains 8 = false) (e9 : m.contains 9 = false) (e12 : m.contains 12 = false) : SK t := by
  intro k hk
  have r6 := (g.2.2.1 6 4 (by decide) (by decide) e6).1
  rw [r6, (g.2.2.1 8 _ (by decide) (by decide) e8).2.1, (g.2.2.1 9 _ (by decide) (by decide) e9).2.1] at hk
  rw [r6, (g.2.2.1 12 _ (by decide) (by decide) e12).1, (g.2.2.1 12 _ (by decide) (by decide) e12).1]
  exact h k hk
theorem SK_wL {s : gH} {c k : Nat} {v : BitVec 64} (h : SK s) (hc : 10 ≤ c) : SK (gp_wL s c k v) := by
  intro k' hk
  have hk2 : (gp_L (gp_wL s c k v) 8 (gp_I s 6 4).toNat).getLsbD k' = true ∨ (gp_L (gp_wL s c k v) 9 (gp_I s 6 4).toNat).getLsbD k' = true := hk
  rw [L_ne (by omega), L_ne (by omega)] at hk2
  exact h k' hk2
/-- a sketch leaves the order as it is -/
theorem PO_sk {L : Nat} {s t : gH} (h : PO s) (hs : XI L 0 s) (e6 : gp_I t 6 4 = gp_I s 6 4) (e14 : ∀ k, gp_I t 14 k = gp_I s 14 k) (e13 : ∀ k, gp_I t 13 k = gp_I s 13 k) (e12 : ∀ k : Nat, (k : Int) < gp_I s 6 4 → gp_I t 12 k = gp_I s 12 k) (e8 : ∀ k : Nat, (k : Int) < gp_I s 6 4 → gp_L t 8 k = gp_L s 8 k) (e9 : ∀ k : Nat, (k : Int) < gp_I s 6 4 → gp_L t 9 k = gp_L s 9 k) : PO t := by
  obtain ⟨h1, h2, h3, h4⟩ := h
  have n0 : 0 ≤ gp_I s 6 4 := (xr6_4 hs).1
  have r14 : ∀ k, 0 ≤ gp_I s 14 k := fun k => (xr14 hs k).1
  refine ⟨fun r hr => ?_, fun p hp => ?_, fun r q hq hr => ?_, fun p k hp hk => ?_⟩
  · rw [e14, e13, e6]; exact h1 r (by omega)
  · rw [e13, e14, e6]; exact h2 p (by omega)
  · have a := (h1 r (by omega)).1
    have b := (h1 q (by omega)).1
    have c := r14 r
    have d := r14 q
    rw [e14, e14, e12 _ (by omega), e12 _ (by omega)]; exact h3 r q hq (by omega)
  · rw [e8 p (by omega), e9 p (by omega)] at hk
    have hb : (k : Int) < p := by
      rcases hk with q | q
      · exact xr8 hs p k q
      · exact xr9 hs p k q
    rw [e12 k (by omega), e12 p (by omega)]
    exact h4 p k (by omega) hk
/-- rows while places move up -/
def SH (s u : gH) (r : Int) : Prop := (∀ q : Nat, (q : Int) ≤ r → gp_I u 14 q = gp_I s 14 q) ∧ (∀ q : Nat, r < q → (q : Int) ≤ gp_I s 6 4 → gp_I u 14 q = gp_I s 14 (q - 1)) ∧ (∀ p : Nat, (p : Int) < gp_I s 6 4 → gp_I u 13 p = if r ≤ gp_I s 13 p then gp_I s 13 p + 1 else gp_I s 13 p)
theorem SH_0 {s : gH} (h : PO s) : SH s s (gp_I s 6 4) := ⟨fun q _ => rfl, fun q h1 h2 => by omega, fun p hp => by
  have := (h.2.1 p hp).1
  rw [if_neg (by omega)]⟩
theorem SH_s {L : Nat} {s u t : gH} {r : Int} (h : PO s) (hs : XI L 0 s) (hu : SH s u r) (h0 : 0 < r) (hr : r ≤ gp_I s 6 4) (e14 : ∀ k, gp_I t 14 k = if k = r.toNat then gp_I u 14 (r - 1).toNat else gp_I u 14 k) (e13 : ∀ k, gp_I t 13 k = if k = (gp_I u 14 (r - 1).toNat).toNat then r else gp_I u 13 k) : SH s t (r - 1) := by
  obtain ⟨u1, u2, u3⟩ := hu
  have a1 : gp_I u 14 (r - 1).toNat = gp_I s 14 (r - 1).toNat := u1 _ (by omega)
  have b1 := h.1 (r - 1).toNat (by omega)
  have b0 := (xr14 hs (r - 1).toNat).1
  refine ⟨fun q hq => ?_, fun q h1 h2 => ?_, fun p hp => ?_⟩
  · rw [e14, if_neg (by omega)]; exact u1 q (by omega)
  · by_cases c : q = r.toNat
    · rw [e14, if_pos c, a1]
      congr 1
      omega
    · rw [e14, if_neg c]; exact u2 q (by omega) h2
  · rw [e13, a1]
    by_cases c : p = (gp_I s 14 (r - 1).toNat).toNat
    · have e : gp_I s 13 p = r - 1 := by rw [c, b1.2]; omega
      rw [if_pos c, e, if_pos (by omega)]; omega
    · rw [if_neg c, u3 p hp]
      have ne : gp_I s 13 p ≠ r - 1 := by
        intro q
        have := (h.2.1 p hp).2
        rw [q] at this
        exact c (by omega)
      by_cases d : r ≤ gp_I s 13 p
      · rw [if_pos d, if_pos (by omega)]
      · rw [if_neg d, if_neg (by omega)]
theorem PO_ins {L : Nat} {s u t : gH} {f : Int} (h : PO s) (hk : SK s) (hs : XI L 0 s) (hu : SH s u f) (h0 : 0 ≤ f) (hf : f ≤ gp_I s 6 4) (H1 : ∀ q : Nat, f ≤ q → (q : Int) < gp_I s 6 4 → gp_I s 12 (gp_I s 6 4).toNat ≤ gp_I s 12 (gp_I s 14 q).toNat) (H2 : ∀ q : Nat, (q : Int) < f → gp_I s 12 (gp_I s 14 q).toNat ≤ gp_I s 12 (gp_I s 6 4).toNat) (e6 : gp_I t 6 4 = gp_I s 6 4 + 1) (e14 : ∀ k, gp_I t 14 k = if k = f.toNat then gp_I s 6 4 else gp_I u 14 k) (e13 : ∀ k, gp_I t 13 k = if k = (gp_I s 6 4).toNat then f else gp_I u 13 k) (e12 : ∀ k, gp_I t 12 k = gp_I s 12 k) (e8 : ∀ k, gp_L t 8 k = gp_L s 8 k) (e9 : ∀ k, gp_L t 9 k = gp_L s 9 k) : PO t := by
  obtain ⟨u1, u2, u3⟩ := hu
  obtain ⟨h1, h2, h3, h4⟩ := h
  have n0 : 0 ≤ gp_I s 6 4 := (xr6_4 hs).1
  have r14 : ∀ k, 0 ≤ gp_I s 14 k := fun k => (xr14 hs k).1
  have r13 : ∀ k, 0 ≤ gp_I s 13 k := fun k => (xr13 hs k).1
  have A : ∀ q : Nat, (q : Int) < f → gp_I t 14 q = gp_I s 14 q := fun q hq => by rw [e14, if_neg (by omega)]; exact u1 q (by omega)
  have B : gp_I t 14 f.toNat = gp_I s 6 4 := by rw [e14, if_pos rfl]
  have C : ∀ q : Nat, f < q → (q : Int) ≤ gp_I s 6 4 → gp_I t 14 q = gp_I s 14 (q - 1) := fun q h1 h2 => by rw [e14, if_neg (by omega)]; exact u2 q h1 h2
  have D : ∀ p : Nat, (p : Int) < gp_I s 6 4 → gp_I t 13 p = if f ≤ gp_I s 13 p then gp_I s 13 p + 1 else gp_I s 13 p := fun p hp => by rw [e13, if_neg (by omega)]; exact u3 p hp
  have E : gp_I t 13 (gp_I s 6 4).toNat = f := by rw [e13, if_pos rfl]
  refine ⟨fun r hr => ?_, fun p hp => ?_, fun r q hq hr => ?_, fun p k hp hkk => ?_⟩
  · rw [e6] at *
    rcases (by omega : (r : Int) < f ∨ r = f.toNat ∨ f < r) with c | c | c
    · have a := h1 r (by omega)
      have b := r14 r
      rw [A r c, D _ (by omega), a.2, if_neg (by omega)]
      exact ⟨by omega, rfl⟩
    · rw [c, B, E]; exact ⟨by omega, by omega⟩
    · have a := h1 (r - 1) (by omega)
      have b := r14 (r - 1)
      rw [C r c (by omega), D _ (by omega), a.2, if_pos (by omega)]
      exact ⟨by omega, by omega⟩
  · rw [e6] at *
    by_cases c : p = (gp_I s 6 4).toNat
    · rw [c, E, B]; exact ⟨by omega, by omega⟩
    · have a := h2 p (by omega)
      have b := r13 p
      rw [D p (by omega)]
      by_cases d : f ≤ gp_I s 13 p
      · rw [if_pos d, C _ (by omega) (by omega), show (gp_I s 13 p + 1).toNat - 1 = (gp_I s 13 p).toNat by omega]
        exact ⟨by omega, a.2⟩
      · rw [if_neg d, A _ (by omega)]
        exact ⟨by omega, a.2⟩
  · rw [e6] at hr
    rw [e12, e12]
    rcases (by omega : (q : Int) < f ∨ q = f.toNat ∨ f < q) with c | c | c
    · rw [A r (by omega), A q c]; exact h3 r q hq (by omega)
    · by_cases d : r = q
      · rw [d]; exact Int.le_refl _
      · rw [c, B, A r (by omega)]; exact H2 r (by omega)
    · rw [C q c (by omega)]
      rcases (by omega : (r : Int) < f ∨ r = f.toNat ∨ f < r) with d | d | d
      · rw [A r d]; exact h3 r (q - 1) (by omega) (by omega)
      · rw [d, B]; exact H1 (q - 1) (by omega) (by omega)
      · rw [C r d (by omega)]; exact h3 (r - 1) (q - 1) (by omega) (by omega)
  · rw [e6] at hp
    rw [e8, e9] at hkk
    rw [e12, e12]
    by_cases c : p = (gp_I s 6 4).toNat
    · rw [c] at hkk ⊢; exact hk k hkk
    · exact h4 p k (by omega) hkk
/-- in the order, options come ahead -/
theorem PO_opt {s : gH} (h : PO s) {p k : Nat} (hp : (p : Int) < gp_I s 6 4) (hk : (k : Int) < gp_I s 6 4) (hh : (gp_L s 8 p).getLsbD k = true ∨ (gp_L s 9 p).getLsbD k = true) (h0 : 0 ≤ gp_I s 13 p ∧ 0 ≤ gp_I s 13 k) : gp_I s 13 k < gp_I s 13 p := by
  obtain ⟨h1, h2, h3, h4⟩ := h
  have a := h4 p k hp hh
  have b := h2 p hp
  have c := h2 k hk
  apply Classical.byContradiction
  intro q
  have d := h3 (gp_I s 13 p).toNat (gp_I s 13 k).toNat (by omega) (by omega)
  rw [b.2, c.2] at d
  simp at d
  omega
theorem FC_eq {L : Nat} {al : Bool} {m : List Nat} {s u : gH} {M : BitVec 64} (h : FC (gp_L s (7 + 1)) (gp_L s (7 + 2)) M) (g : gX L al m s u) (e8 : m.contains 8 = false) (e9 : m.contains 9 = false) : FC (gp_L u 8) (gp_L u 9) M := by
  intro i j h1 h2
  rw [(g.2.2.1 8 i (by decide) (by decide) e8).2.1, (g.2.2.1 9 i (by decide) (by decide) e9).2.1] at h2
  exact h i j h1 h2
theorem cnt_range {M : BitVec 64} {i : Nat} {N : Int} (h : M.getLsbD i = true) (hb : bd M N) (hN : 0 ≤ N ∧ N ≤ 60) : 1 ≤ gm_cnt M 64 ∧ gm_cnt M 64 ≤ 60 := by
  have a := cnt_pos h
  have b := cnt_bd hb hN.1
  omega
/-- the options of a side, of a game of a table -/
def tO (s : gH) (a : Nat) (side node : Int) : BitVec 64 := if side = 0 then gp_L s (a + 1) node.toNat else gp_L s (a + 2) node.toNat
theorem tO_0 {s : gH} {a : Nat} {side node : Int} (h : side = 0) : gp_L s (a + 1) node.toNat = tO s a side node := (if_pos h).symm
theorem tO_1 {s : gH} {a : Nat} {side node : Int} (h : ¬ side = 0) : gp_L s (a + 2) node.toNat = tO s a side node := (if_neg h).symm
theorem fcl_n {A B : Nat → BitVec 64} {m : BitVec 64} {x : Int} (hx : 0 ≤ x) (h : m.getLsbD x.toNat = false) (iv : ∀ i j : Nat, x < i → m.getLsbD i = true → ((A i).getLsbD j = true ∨ (B i).getLsbD j = true) → m.getLsbD j = true) : ∀ i j : Nat, x + (-1) < i → m.getLsbD i = true → ((A i).getLsbD j = true ∨ (B i).getLsbD j = true) → m.getLsbD j = true := by
  intro i j h1 h2 h3
  by_cases c : i = x.toNat
  · rw [c, h] at h2; cases h2
  · exact iv i j (by omega) h2 h3
theorem fcl_y {A B : Nat → BitVec 64} {m : BitVec 64} {x : Int} (hx : 0 ≤ x) (h : m.getLsbD x.toNat = true) (a : bd (A x.toNat) x) (b : bd (B x.toNat) x) (iv : ∀ i j : Nat, x < i → m.getLsbD i = true → ((A i).getLsbD j = true ∨ (B i).getLsbD j = true) → m.getLsbD j = true) : ∀ i j : Nat, x + (-1) < i → (m ||| (A x.toNat ||| B x.toNat)).getLsbD i = true → ((A i).getLsbD j = true ∨ (B i).getLsbD j = true) → (m ||| (A x.toNat ||| B x.toNat)).getLsbD j = true := by
  intro i j h1 h2 h3
  rw [BitVec.getLsbD_or, BitVec.getLsbD_or] at h2 ⊢
  by_cases c : i = x.toNat
  · subst c
    rcases h3 with q | q <;> simp [q]
  · have hm : m.getLsbD i = true := by
      cases q : m.getLsbD i with
      | true => rfl
      | false =>
        rw [q] at h2
        simp at h2
        rcases h2 with h2 | h2
        · have := a i h2; omega
        · have := b i h2; omega
    rw [iv i j (by omega) hm h3]; rfl
set_option maxRecDepth 100000 in
/-- java/lang/Integer.bitCount -/
theorem xm_bcI  {L d : Nat} {K : Option gV → gH → Prop} {s : gH}  (p0 : Int)  (h_p0 : (-2147483648) ≤ p0 ∧ p0 ≤ 2147483647)  (k : ∀ (r : Int), ((-2147483648) ≤ r ∧ r ≤ 2147483647) → K (some (gp_i r)) s) : gs_C L d 3330 1 [gp_i p0] s K := by
  refine s_3330_e _ ?_
  have w_1 : 0 ≤ gp_ushr p0 1 ∧ gp_ushr p0 1 < 2147483648 := gz_ushn (p0) 1 2147483648 (by decide) (by decide)
  have w_2 := gz_and (gp_ushr p0 1) 1431655765 (by decide)
  have w_3 := wr_rng (p0 - (gp_and (gp_ushr p0 1) 1431655765))
  have w_4 := gz_and (gp_wr (p0 - (gp_and (gp_ushr p0 1) 1431655765))) 858993459 (by decide)
  have w_5 : 0 ≤ gp_ushr (gp_wr (p0 - (gp_and (gp_ushr p0 1) 1431655765))) 2 ∧ gp_ushr (gp_wr (p0 - (gp_and (gp_ushr p0 1) 1431655765))) 2 < 1073741824 := gz_ushn (gp_wr (p0 - (gp_and (gp_ushr p0 1) 1431655765))) 2 1073741824 (by decide) (by decide)
  have w_6 := gz_and (gp_ushr (gp_wr (p0 - (gp_and (gp_ushr p0 1) 1431655765))) 2) 858993459 (by decide)
  try rw [show gp_wr ((gp_and (gp_wr (p0 - (gp_and (gp_ushr p0 1) 1431655765))) 858993459) + (gp_and (gp_ushr (gp_wr (p0 - (gp_and (gp_ushr p0 1) 1431655765))) 2) 858993459)) = (gp_and (gp_wr (p0 - (gp_and (gp_ushr p0 1) 1431655765))) 858993459) + (gp_and (gp_ushr (gp_wr (p0 - (gp_and (gp_ushr p0 1) 1431655765))) 2) 858993459) from gp_wr_id (by omega) (by omega)]
  have w_7 : gp_ushr ((gp_and (gp_wr (p0 - (gp_and (gp_ushr p0 1) 1431655765))) 858993459) + (gp_and (gp_ushr (gp_wr (p0 - (gp_and (gp_ushr p0 1) 1431655765))) 2) 858993459)) 4 = ((gp_and (gp_wr (p0 - (gp_and (gp_ushr p0 1) 1431655765))) 858993459) + (gp_and (gp_ushr (gp_wr (p0 - (gp_and (gp_ushr p0 1) 1431655765))) 2) 858993459)) / 16 := gz_ush ((gp_and (gp_wr (p0 - (gp_and (gp_ushr p0 1) 1431655765))) 858993459) + (gp_and (gp_ushr (gp_wr (p0 - (gp_and (gp_ushr p0 1) 1431655765))) 2) 858993459)) 4 16 (by decide) (by omega) (by decide)
  try rw [show gp_wr (((gp_and (gp_wr (p0 - (gp_and (gp_ushr p0 1) 1431655765))) 858993459) + (gp_and (gp_ushr (gp_wr (p0 - (gp_and (gp_ushr p0 1) 1431655765))) 2) 858993459)) + (gp_ushr ((gp_and (gp_wr (p0 - (gp_and (gp_ushr p0 1) 1431655765))) 858993459) + (gp_and (gp_ushr (gp_wr (p0 - (gp_and (gp_ushr p0 1) 1431655765))) 2) 858993459)) 4)) = ((gp_and (gp_wr (p0 - (gp_and (gp_ushr p0 1) 1431655765))) 858993459) + (gp_and (gp_ushr (gp_wr (p0 - (gp_and (gp_ushr p0 1) 1431655765))) 2) 858993459)) + (gp_ushr ((gp_and (gp_wr (p0 - (gp_and (gp_ushr p0 1) 1431655765))) 858993459) + (gp_and (gp_ushr (gp_wr (p0 - (gp_and (gp_ushr p0 1) 1431655765))) 2) 858993459)) 4) from gp_wr_id (by omega) (by omega)]
  have w_8 := gz_and (((gp_and (gp_wr (p0 - (gp_and (gp_ushr p0 1) 1431655765))) 858993459) + (gp_and (gp_ushr (gp_wr (p0 - (gp_and (gp_ushr p0 1) 1431655765))) 2) 858993459)) + (gp_ushr ((gp_and (gp_wr (p0 - (gp_and (gp_ushr p0 1) 1431655765))) 858993459) + (gp_and (gp_ushr (gp_wr (p0 - (gp_and (gp_ushr p0 1) 1431655765))) 2) 858993459)) 4)) 252645135 (by decide)
  have w_9 : gp_ushr (gp_and (((gp_and (gp_wr (p0 - (gp_and (gp_ushr p0 1) 1431655765))) 858993459) + (gp_and (gp_ushr (gp_wr (p0 - (gp_and (gp_ushr p0 1) 1431655765))) 2) 858993459)) + (gp_ushr ((gp_and (gp_wr (p0 - (gp_and (gp_ushr p0 1) 1431655765))) 858993459) + (gp_and (gp_ushr (gp_wr (p0 - (gp_and (gp_ushr p0 1) 1431655765))) 2) 858993459)) 4)) 252645135) 8 = (gp_and (((gp_and (gp_wr (p0 - (gp_and (gp_ushr p0 1) 1431655765))) 858993459) + (gp_and (gp_ushr (gp_wr (p0 - (gp_and (gp_ushr p0 1) 1431655765))) 2) 858993459)) + (gp_ushr ((gp_and (gp_wr (p0 - (gp_and (gp_ushr p0 1) 1431655765))) 858993459) + (gp_and (gp_ushr (gp_wr (p0 - (gp_and (gp_ushr p0 1) 1431655765))) 2) 858993459)) 4)) 252645135) / 256 := gz_ush (gp_and (((gp_and (gp_wr (p0 - (gp_and (gp_ushr p0 1) 1431655765))) 858993459) + (gp_and (gp_ushr (gp_wr (p0 - (gp_and (gp_ushr p0 1) 1431655765))) 2) 858993459)) + (gp_ushr ((gp_and (gp_wr (p0 - (gp_and (gp_ushr p0 1) 1431655765))) 858993459) + (gp_and (gp_ushr (gp_wr (p0 - (gp_and (gp_ushr p0 1) 1431655765))) 2) 858993459)) 4)) 252645135) 8 256 (by decide) (by omega) (by decide)
  try rw [show gp_wr ((gp_and (((gp_and (gp_wr (p0 - (gp_and (gp_ushr p0 1) 1431655765))) 858993459) + (gp_and (gp_ushr (gp_wr (p0 - (gp_and (gp_ushr p0 1) 1431655765))) 2) 858993459)) + (gp_ushr ((gp_and (gp_wr (p0 - (gp_and (gp_ushr p0 1) 1431655765))) 858993459) + (gp_and (gp_ushr (gp_wr (p0 - (gp_and (gp_ushr p0 1) 1431655765))) 2) 858993459)) 4)) 252645135) + (gp_ushr (gp_and (((gp_and (gp_wr (p0 - (gp_and (gp_ushr p0 1) 1431655765))) 858993459) + (gp_and (gp_ushr (gp_wr (p0 - (gp_and (gp_ushr p0 1) 1431655765))) 2) 858993459)) + (gp_ushr ((gp_and (gp_wr (p0 - (gp_and (gp_ushr p0 1) 1431655765))) 858993459) + (gp_and (gp_ushr (gp_wr (p0 - (gp_and (gp_ushr p0 1) 1431655765))) 2) 858993459)) 4)) 252645135) 8)) = (gp_and (((gp_and (gp_wr (p0 - (gp_and (gp_ushr p0 1) 1431655765))) 858993459) + (gp_and (gp_ushr (gp_wr (p0 - (gp_and (gp_ushr p0 1) 1431655765))) 2) 858993459)) + (gp_ushr ((gp_and (gp_wr (p0 - (gp_and (gp_ushr p0 1) 1431655765))) 858993459) + (gp_and (gp_ushr (gp_wr (p0 - (gp_and (gp_ushr p0 1) 1431655765))) 2) 858993459)) 4)) 252645135) + (gp_ushr (gp_and (((gp_and (gp_wr (p0 - (gp_and (gp_ushr p0 1) 1431655765))) 858993459) + (gp_and (gp_ushr (gp_wr (p0 - (gp_and (gp_ushr p0 1) 1431655765))) 2) 858993459)) + (gp_ushr ((gp_and (gp_wr (p0 - (gp_and (gp_ushr p0 1) 1431655765))) 858993459) + (gp_and (gp_ushr (gp_wr (p0 - (gp_and (gp_ushr p0 1) 1431655765))) 2) 858993459)) 4)) 252645135) 8) from gp_wr_id (by omega) (by omega)]
  have w_10 : gp_ushr ((gp_and (((gp_and (gp_wr (p0 - (gp_and (gp_ushr p0 1) 1431655765))) 858993459) + (gp_and (gp_ushr (gp_wr (p0 - (gp_and (gp_ushr p0 1) 1431655765))) 2) 858993459)) + (gp_ushr ((gp_and (gp_wr (p0 - (gp_and (gp_ushr p0 1) 1431655765))) 858993459) + (gp_and (gp_ushr (gp_wr (p0 - (gp_and (gp_ushr p0 1) 1431655765))) 2) 858993459)) 4)) 252645135) + (gp_ushr (gp_and (((gp_and (gp_wr (p0 - (gp_and (gp_ushr p0 1) 1431655765))) 858993459) + (gp_and (gp_ushr (gp_wr (p0 - (gp_and (gp_ushr p0 1) 1431655765))) 2) 858993459)) + (gp_ushr ((gp_and (gp_wr (p0 - (gp_and (gp_ushr p0 1) 1431655765))) 858993459) + (gp_and (gp_ushr (gp_wr (p0 - (gp_and (gp_ushr p0 1) 1431655765))) 2) 858993459)) 4)) 252645135) 8)) 16 = ((gp_and (((gp_and (gp_wr (p0 - (gp_and (gp_ushr p0 1) 1431655765))) 858993459) + (gp_and (gp_ushr (gp_wr (p0 - (gp_and (gp_ushr p0 1) 1431655765))) 2) 858993459)) + (gp_ushr ((gp_and (gp_wr (p0 - (gp_and (gp_ushr p0 1) 1431655765))) 858993459) + (gp_and (gp_ushr (gp_wr (p0 - (gp_and (gp_ushr p0 1) 1431655765))) 2) 858993459)) 4)) 252645135) + (gp_ushr (gp_and (((gp_and (gp_wr (p0 - (gp_and (gp_ushr p0 1) 1431655765))) 858993459) + (gp_and (gp_ushr (gp_wr (p0 - (gp_and (gp_ushr p0 1) 1431655765))) 2) 858993459)) + (gp_ushr ((gp_and (gp_wr (p0 - (gp_and (gp_ushr p0 1) 1431655765))) 858993459) + (gp_and (gp_ushr (gp_wr (p0 - (gp_and (gp_ushr p0 1) 1431655765))) 2) 858993459)) 4)) 252645135) 8)) / 65536 := gz_ush ((gp_and (((gp_and (gp_wr (p0 - (gp_and (gp_ushr p0 1) 1431655765))) 858993459) + (gp_and (gp_ushr (gp_wr (p0 - (gp_and (gp_ushr p0 1) 1431655765))) 2) 858993459)) + (gp_ushr ((gp_and (gp_wr (p0 - (gp_and (gp_ushr p0 1) 1431655765))) 858993459) + (gp_and (gp_ushr (gp_wr (p0 - (gp_and (gp_ushr p0 1) 1431655765))) 2) 858993459)) 4)) 252645135) + (gp_ushr (gp_and (((gp_and (gp_wr (p0 - (gp_and (gp_ushr p0 1) 1431655765))) 858993459) + (gp_and (gp_ushr (gp_wr (p0 - (gp_and (gp_ushr p0 1) 1431655765))) 2) 858993459)) + (gp_ushr ((gp_and (gp_wr (p0 - (gp_and (gp_ushr p0 1) 1431655765))) 858993459) + (gp_and (gp_ushr (gp_wr (p0 - (gp_and (gp_ushr p0 1) 1431655765))) 2) 858993459)) 4)) 252645135) 8)) 16 65536 (by decide) (by omega) (by decide)
  try rw [show gp_wr (((gp_and (((gp_and (gp_wr (p0 - (gp_and (gp_ushr p0 1) 1431655765))) 858993459) + (gp_and (gp_ushr (gp_wr (p0 - (gp_and (gp_ushr p0 1) 1431655765))) 2) 858993459)) + (gp_ushr ((gp_and (gp_wr (p0 - (gp_and (gp_ushr p0 1) 1431655765))) 858993459) + (gp_and (gp_ushr (gp_wr (p0 - (gp_and (gp_ushr p0 1) 1431655765))) 2) 858993459)) 4)) 252645135) + (gp_ushr (gp_and (((gp_and (gp_wr (p0 - (gp_and (gp_ushr p0 1) 1431655765))) 858993459) + (gp_and (gp_ushr (gp_wr (p0 - (gp_and (gp_ushr p0 1) 1431655765))) 2) 858993459)) + (gp_ushr ((gp_and (gp_wr (p0 - (gp_and (gp_ushr p0 1) 1431655765))) 858993459) + (gp_and (gp_ushr (gp_wr (p0 - (gp_and (gp_ushr p0 1) 1431655765))) 2) 858993459)) 4)) 252645135) 8)) + (gp_ushr ((gp_and (((gp_and (gp_wr (p0 - (gp_and (gp_ushr p0 1) 1431655765))) 858993459) + (gp_and (gp_ushr (gp_wr (p0 - (gp_and (gp_ushr p0 1) 1431655765))) 2) 858993459)) + (gp_ushr ((gp_and (gp_wr (p0 - (gp_and (gp_ushr p0 1) 1431655765))) 858993459) + (gp_and (gp_ushr (gp_wr (p0 - (gp_and (gp_ushr p0 1) 1431655765))) 2) 858993459)) 4)) 252645135) + (gp_ushr (gp_and (((gp_and (gp_wr (p0 - (gp_and (gp_ushr p0 1) 1431655765))) 858993459) + (gp_and (gp_ushr (gp_wr (p0 - (gp_and (gp_ushr p0 1) 1431655765))) 2) 858993459)) + (gp_ushr ((gp_and (gp_wr (p0 - (gp_and (gp_ushr p0 1) 1431655765))) 858993459) + (gp_and (gp_ushr (gp_wr (p0 - (gp_and (gp_ushr p0 1) 1431655765))) 2) 858993459)) 4)) 252645135) 8)) 16)) = ((gp_and (((gp_and (gp_wr (p0 - (gp_and (gp_ushr p0 1) 1431655765))) 858993459) + (gp_and (gp_ushr (gp_wr (p0 - (gp_and (gp_ushr p0 1) 1431655765))) 2) 858993459)) + (gp_ushr ((gp_and (gp_wr (p0 - (gp_and (gp_ushr p0 1) 1431655765))) 858993459) + (gp_and (gp_ushr (gp_wr (p0 - (gp_and (gp_ushr p0 1) 1431655765))) 2) 858993459)) 4)) 252645135) + (gp_ushr (gp_and (((gp_and (gp_wr (p0 - (gp_and (gp_ushr p0 1) 1431655765))) 858993459) + (gp_and (gp_ushr (gp_wr (p0 - (gp_and (gp_ushr p0 1) 1431655765))) 2) 858993459)) + (gp_ushr ((gp_and (gp_wr (p0 - (gp_and (gp_ushr p0 1) 1431655765))) 858993459) + (gp_and (gp_ushr (gp_wr (p0 - (gp_and (gp_ushr p0 1) 1431655765))) 2) 858993459)) 4)) 252645135) 8)) + (gp_ushr ((gp_and (((gp_and (gp_wr (p0 - (gp_and (gp_ushr p0 1) 1431655765))) 858993459) + (gp_and (gp_ushr (gp_wr (p0 - (gp_and (gp_ushr p0 1) 1431655765))) 2) 858993459)) + (gp_ushr ((gp_and (gp_wr (p0 - (gp_and (gp_ushr p0 1) 1431655765))) 858993459) + (gp_and (gp_ushr (gp_wr (p0 - (gp_and (gp_ushr p0 1) 1431655765))) 2) 858993459)) 4)) 252645135) + (gp_ushr (gp_and (((gp_and (gp_wr (p0 - (gp_and (gp_ushr p0 1) 1431655765))) 858993459) + (gp_and (gp_ushr (gp_wr (p0 - (gp_and (gp_ushr p0 1) 1431655765))) 2) 858993459)) + (gp_ushr ((gp_and (gp_wr (p0 - (gp_and (gp_ushr p0 1) 1431655765))) 858993459) + (gp_and (gp_ushr (gp_wr (p0 - (gp_and (gp_ushr p0 1) 1431655765))) 2) 858993459)) 4)) 252645135) 8)) 16) from gp_wr_id (by omega) (by omega)]
  have w_11 := gz_and (((gp_and (((gp_and (gp_wr (p0 - (gp_and (gp_ushr p0 1) 1431655765))) 858993459) + (gp_and (gp_ushr (gp_wr (p0 - (gp_and (gp_ushr p0 1) 1431655765))) 2) 858993459)) + (gp_ushr ((gp_and (gp_wr (p0 - (gp_and (gp_ushr p0 1) 1431655765))) 858993459) + (gp_and (gp_ushr (gp_wr (p0 - (gp_and (gp_ushr p0 1) 1431655765))) 2) 858993459)) 4)) 252645135) + (gp_ushr (gp_and (((gp_and (gp_wr (p0 - (gp_and (gp_ushr p0 1) 1431655765))) 858993459) + (gp_and (gp_ushr (gp_wr (p0 - (gp_and (gp_ushr p0 1) 1431655765))) 2) 858993459)) + (gp_ushr ((gp_and (gp_wr (p0 - (gp_and (gp_ushr p0 1) 1431655765))) 858993459) + (gp_and (gp_ushr (gp_wr (p0 - (gp_and (gp_ushr p0 1) 1431655765))) 2) 858993459)) 4)) 252645135) 8)) + (gp_ushr ((gp_and (((gp_and (gp_wr (p0 - (gp_and (gp_ushr p0 1) 1431655765))) 858993459) + (gp_and (gp_ushr (gp_wr (p0 - (gp_and (gp_ushr p0 1) 1431655765))) 2) 858993459)) + (gp_ushr ((gp_and (gp_wr (p0 - (gp_and (gp_ushr p0 1) 1431655765))) 858993459) + (gp_and (gp_ushr (gp_wr (p0 - (gp_and (gp_ushr p0 1) 1431655765))) 2) 858993459)) 4)) 252645135) + (gp_ushr (gp_and (((gp_and (gp_wr (p0 - (gp_and (gp_ushr p0 1) 1431655765))) 858993459) + (gp_and (gp_ushr (gp_wr (p0 - (gp_and (gp_ushr p0 1) 1431655765))) 2) 858993459)) + (gp_ushr ((gp_and (gp_wr (p0 - (gp_and (gp_ushr p0 1) 1431655765))) 858993459) + (gp_and (gp_ushr (gp_wr (p0 - (gp_and (gp_ushr p0 1) 1431655765))) 2) 858993459)) 4)) 252645135) 8)) 16)) 63 (by decide)
  exact k _ (by omega)
set_option maxRecDepth 100000 in
/-- java/lang/Integer.compare -/
theorem xm_cmp  {L d : Nat} {K : Option gV → gH → Prop} {s : gH}  (p0 : Int) (p1 : Int)    (k : ∀ (r : Int), ((-1) ≤ r ∧ r ≤ 1) → ((r = -1 ∧ p0 < p1) ∨ (r = 0 ∧ p0 = p1) ∨ (r = 1 ∧ p1 < p0)) → K (some (gp_i r)) s) : gs_C L d 3328 2 [gp_i p0, gp_i p1] s K := by
  refine s_3328_e _ _ ?_
  refine ⟨fun h_1 => ?_, fun h_1 => ?_⟩
  · refine s_3328_19 _ _ _ ?_
    exact k _ (by omega) (by first | omega | assumption)
  · refine ⟨fun h_2 => ?_, fun h_2 => ?_⟩
    · refine s_3328_19 _ _ _ ?_
      exact k _ (by omega) (by first | omega | assumption)
    · refine s_3328_19 _ _ _ ?_
      exact k _ (by omega) (by first | omega | assumption)
set_option maxRecDepth 100000 in
/-- GatheredPoints.lowest -/
theorem xm_lowest  {L d : Nat} {K : Option gV → gH → Prop} {s : gH}  (p0 : BitVec 64)    (k : ∀ (r : Int), (0 ≤ r ∧ r ≤ 64) → (r = (lob p0 : Nat)) → K (some (gp_i r)) s) : gs_C L (d + 1) 2859 2 [gp_l p0] s K := by
  refine s_2859_e _ ?_
  refine xm_bc _ (fun x_1 p_2 p_3 => ⟨_, rfl, ?_⟩)
  exact k _ (by omega) (by assumption)
set_option maxRecDepth 100000 in
/-- GatheredPoints.ahead -/
theorem xm_ahead  {L d : Nat} {K : Option gV → gH → Prop} {s : gH}  (p0 : BitVec 64) (p1 : Int)    (k : ∀ (r : Int), (0 ≤ r ∧ r ≤ 64) → K (some (gp_i r)) s) : gs_C L (d + 1) 2861 3 [gp_l p0, gp_i p1] s K := by
  refine s_2861_e _ _ ?_
  refine xm_bc _ (fun x_1 p_2 p_3 => ⟨_, rfl, ?_⟩)
  exact k _ (by omega)
set_option maxRecDepth 100000 in
/-- GatheredPoints.pick -/
theorem xm_pick  {L d : Nat} {K : Option gV → gH → Prop} {s : gH}  (p0 : BitVec 64) (p1 : Int)  (h_p1 : 0 ≤ p1 ∧ p1 ≤ 63)  (k : ∀ (r : Int), (0 ≤ r ∧ r ≤ 64) → (p1 < (gm_cnt p0 64 : Nat) → r ≤ 63 ∧ p0.getLsbD r.toNat = true) → K (some (gp_i r)) s) : gs_C L (d + 2) 2860 6 [gp_l p0, gp_i p1] s K := by
  refine s_2860_e _ _ ?_
  have lp_1 : ∀ (n_1 : Nat) (v3_1 : BitVec 64) (v5_1 : Int), (0 ≤ v5_1 ∧ v5_1 ≤ 63) → (sub v3_1 p0) → (v5_1 ≤ p1) → (p1 < (gm_cnt p0 64 : Nat) → (gm_cnt v3_1 64 : Nat) = (gm_cnt p0 64 : Nat) - v5_1) → (64 - v5_1).toNat < n_1 → gs_E L (d + 2) 2860 5 [gp_l p0, gp_n, gp_i p1, gp_l v3_1, gp_n, gp_i v5_1] [] s K := by
    intro n_1
    induction n_1 with
    | zero => intro v3_1 v5_1 hv5_1 iv0_1 iv1_1 iv2_1 hm_1; exact absurd hm_1 (Nat.not_lt_zero _)
    | succ n_1 ih_1 =>
      intro v3_1 v5_1 hv5_1 iv0_1 iv1_1 iv2_1 hm_1
      refine s_2860_5 _ _ _ _ ?_
      refine ⟨fun h_2 => ?_, fun h_2 => ?_⟩
      · try rw [show gp_wr (v5_1 + 1) = v5_1 + 1 from gp_wr_id (by omega) (by omega)]
        exact ih_1 _ _ (by omega) (by first | assumption | exact sub.refl _ | exact sub.rest (by assumption)) (by first | omega | assumption) (by intro h9; have h8 := iv2_1 h9; have h7 := (lob_s (cnt_nz (x := v3_1) (by omega))).2.2.2.2; omega) (by omega)
      · refine xm_lowest _ (fun x_3 p_4 p_5 => ⟨_, rfl, ?_⟩)
        exact k _ (by omega) (fun h9 => by have h8 := iv2_1 h9; have h7 := iv0_1.low (cnt_nz (by omega)) (by assumption); exact ⟨h7.2.1, h7.2.2⟩)
  exact lp_1 _ _ _ (by omega) (by first | assumption | exact sub.refl _ | exact sub.rest (by assumption)) (by first | omega | assumption) (by intro h9; omega) (Nat.lt_succ_self _)
set_option maxRecDepth 100000 in
/-- GatheredPoints.has -/
theorem xm_has  {L d : Nat} {K : Option gV → gH → Prop} {s : gH}  (p0 : BitVec 64) (p1 : Int)  (h_p1 : 0 ≤ p1 ∧ p1 ≤ 63)  (k : ∀ (r : Int), (0 ≤ r ∧ r ≤ 1) → ((r = 1 ∧ p0.getLsbD p1.toNat = true) ∨ (r = 0 ∧ p0.getLsbD p1.toNat = false)) → K (some (gp_i r)) s) : gs_C L d 2862 3 [gp_l p0, gp_i p1] s K := by
  refine s_2862_e _ _ ?_
  have hbt := hx_bit p0 (p1 % 64).toNat (by omega)
  have hp9 : (p1 % 64).toNat = p1.toNat := by omega
  have hbe : p0.getLsbD (p1 % 64).toNat = p0.getLsbD p1.toNat := by rw [hp9]
  refine ⟨fun h_1 => ?_, fun h_1 => ?_⟩
  · have hz_2 : (p0 >>> (Int.toNat (p1 % 64))) &&& (1#64) = 0#64 := (gm_cmp0 _ _).mp h_1
    refine s_2862_15 _ _ _ ?_
    refine ⟨by omega, ?_⟩
    exact k _ (by omega) (by first | exact Or.inl ⟨rfl, by rw [← hbe]; cases q9 : p0.getLsbD (p1 % 64).toNat with | true => rfl | false => exact absurd (hbt.mpr q9) (by assumption)⟩ | exact Or.inr ⟨rfl, by rw [← hbe]; exact hbt.mp (by assumption)⟩)
  · have hz_3 : ¬ ((p0 >>> (Int.toNat (p1 % 64))) &&& (1#64)) = 0#64 := fun q => h_1 ((gm_cmp0 _ _).mpr q)
    refine s_2862_15 _ _ _ ?_
    refine ⟨by omega, ?_⟩
    exact k _ (by omega) (by first | exact Or.inl ⟨rfl, by rw [← hbe]; cases q9 : p0.getLsbD (p1 % 64).toNat with | true => rfl | false => exact absurd (hbt.mpr q9) (by assumption)⟩ | exact Or.inr ⟨rfl, by rw [← hbe]; exact hbt.mp (by assumption)⟩)
set_option maxRecDepth 100000 in
/-- GatheredPoints.carried -/
theorem xm_carried15  {L d : Nat} {K : Option gV → gH → Prop} {s : gH} (N M : Int) (p0 : BitVec 64) (hs : XI L 0 s)  (q0 : bd p0 M) (q1 : M ≤ 61) (q2 : N ≤ 61) (q3 : ∀ k : Nat, p0.getLsbD k = true → 0 ≤ gp_I s 15 k ∧ gp_I s 15 k < N) (k : ∀ (r : BitVec 64), (bd r N) → K (some (gp_l r)) s) : gs_C L (d + 2) 2863 7 [gp_l p0, gp_r (some 15)] s K := by
  refine s_2863_e _ _ ?_
  have lp_2 : ∀ (n_2 : Nat) (v3_2 : BitVec 64) (v5_2 : BitVec 64), (bd v3_2 N) → (sub v5_2 p0) → ((v5_2).toNat) < n_2 → gs_E L (d + 2) 2863 5 [gp_l p0, gp_n, gp_r (some 15), gp_l v3_2, gp_n, gp_l v5_2, gp_n] [] s K := by
    intro n_2
    induction n_2 with
    | zero => intro v3_2 v5_2 iv0_2 iv1_2 hm_2; exact absurd hm_2 (Nat.not_lt_zero _)
    | succ n_2 ih_2 =>
      intro v3_2 v5_2 iv0_2 iv1_2 hm_2
      refine s_2863_5 _ _ _ _ ?_
      refine ⟨fun h_3 => ?_, fun h_3 => ?_⟩
      · have hz_4 : v5_2 = 0#64 := (gm_cmp0 _ _).mp h_3
        exact k _ (by first | assumption | exact bd_le (by assumption) (by omega) | exact bd_0 _)
      · have hz_5 : ¬ v5_2 = 0#64 := fun q => h_3 ((gm_cmp0 _ _).mpr q)
        refine xm_lowest _ (fun x_6 p_7 p_8 => ⟨_, rfl, ?_⟩)
        have hlw := iv1_2.low (by assumption) p_8
        have hq3 := q3 (Int.toNat x_6) hlw.2.2
        have hq0 := q0 _ hlw.2.2
        refine ⟨15, rfl, ?_⟩
        refine ⟨⟨rfl, by show 0 ≤ x_6 ∧ x_6 < 61; omega⟩, ?_⟩
        have f_9 := xr15 hs (Int.toNat x_6)
        exact ih_2 _ _ (by refine bd_or iv0_2 (bd_sh ?_ ?_ ?_) <;> omega) (by first | assumption | exact sub.refl _ | exact sub.rest (by assumption)) (by have := rest_lt (by assumption : ¬ v5_2 = 0#64); omega)
  exact lp_2 _ _ _ (bd_0 _) (by first | assumption | exact sub.refl _ | exact sub.rest (by assumption)) (Nat.lt_succ_self _)
set_option maxRecDepth 100000 in
/-- GatheredPoints.carried -/
theorem xm_carried21  {L d : Nat} {K : Option gV → gH → Prop} {s : gH} (N M : Int) (p0 : BitVec 64) (hs : XI L 0 s)  (q0 : bd p0 M) (q1 : M ≤ 61) (q2 : N ≤ 61) (q3 : ∀ k : Nat, p0.getLsbD k = true → 0 ≤ gp_I s 21 k ∧ gp_I s 21 k < N) (k : ∀ (r : BitVec 64), (bd r N) → K (some (gp_l r)) s) : gs_C L (d + 2) 2863 7 [gp_l p0, gp_r (some 21)] s K := by
  refine s_2863_e _ _ ?_
  have lp_2 : ∀ (n_2 : Nat) (v3_2 : BitVec 64) (v5_2 : BitVec 64), (bd v3_2 N) → (sub v5_2 p0) → ((v5_2).toNat) < n_2 → gs_E L (d + 2) 2863 5 [gp_l p0, gp_n, gp_r (some 21), gp_l v3_2, gp_n, gp_l v5_2, gp_n] [] s K := by
    intro n_2
    induction n_2 with
    | zero => intro v3_2 v5_2 iv0_2 iv1_2 hm_2; exact absurd hm_2 (Nat.not_lt_zero _)
    | succ n_2 ih_2 =>
      intro v3_2 v5_2 iv0_2 iv1_2 hm_2
      refine s_2863_5 _ _ _ _ ?_
      refine ⟨fun h_3 => ?_, fun h_3 => ?_⟩
      · have hz_4 : v5_2 = 0#64 := (gm_cmp0 _ _).mp h_3
        exact k _ (by first | assumption | exact bd_le (by assumption) (by omega) | exact bd_0 _)
      · have hz_5 : ¬ v5_2 = 0#64 := fun q => h_3 ((gm_cmp0 _ _).mpr q)
        refine xm_lowest _ (fun x_6 p_7 p_8 => ⟨_, rfl, ?_⟩)
        have hlw := iv1_2.low (by assumption) p_8
        have hq3 := q3 (Int.toNat x_6) hlw.2.2
        have hq0 := q0 _ hlw.2.2
        refine ⟨21, rfl, ?_⟩
        refine ⟨⟨rfl, by show 0 ≤ x_6 ∧ x_6 < 61; omega⟩, ?_⟩
        have f_9 := xr21 hs (Int.toNat x_6)
        exact ih_2 _ _ (by refine bd_or iv0_2 (bd_sh ?_ ?_ ?_) <;> omega) (by first | assumption | exact sub.refl _ | exact sub.rest (by assumption)) (by have := rest_lt (by assumption : ¬ v5_2 = 0#64); omega)
  exact lp_2 _ _ _ (bd_0 _) (by first | assumption | exact sub.refl _ | exact sub.rest (by assumption)) (Nat.lt_succ_self _)
set_option maxRecDepth 100000 in
/-- GatheredPoints.carried -/
theorem xm_carried45  {L d : Nat} {K : Option gV → gH → Prop} {s : gH} (N M : Int) (p0 : BitVec 64) (hs : XI L 0 s)  (q0 : bd p0 M) (q1 : M ≤ 60) (q2 : N ≤ 61) (q3 : ∀ k : Nat, p0.getLsbD k = true → 0 ≤ gp_I s 45 k ∧ gp_I s 45 k < N) (k : ∀ (r : BitVec 64), (bd r N) → K (some (gp_l r)) s) : gs_C L (d + 2) 2863 7 [gp_l p0, gp_r (some 45)] s K := by
  refine s_2863_e _ _ ?_
  have lp_2 : ∀ (n_2 : Nat) (v3_2 : BitVec 64) (v5_2 : BitVec 64), (bd v3_2 N) → (sub v5_2 p0) → ((v5_2).toNat) < n_2 → gs_E L (d + 2) 2863 5 [gp_l p0, gp_n, gp_r (some 45), gp_l v3_2, gp_n, gp_l v5_2, gp_n] [] s K := by
    intro n_2
    induction n_2 with
    | zero => intro v3_2 v5_2 iv0_2 iv1_2 hm_2; exact absurd hm_2 (Nat.not_lt_zero _)
    | succ n_2 ih_2 =>
      intro v3_2 v5_2 iv0_2 iv1_2 hm_2
      refine s_2863_5 _ _ _ _ ?_
      refine ⟨fun h_3 => ?_, fun h_3 => ?_⟩
      · have hz_4 : v5_2 = 0#64 := (gm_cmp0 _ _).mp h_3
        exact k _ (by first | assumption | exact bd_le (by assumption) (by omega) | exact bd_0 _)
      · have hz_5 : ¬ v5_2 = 0#64 := fun q => h_3 ((gm_cmp0 _ _).mpr q)
        refine xm_lowest _ (fun x_6 p_7 p_8 => ⟨_, rfl, ?_⟩)
        have hlw := iv1_2.low (by assumption) p_8
        have hq3 := q3 (Int.toNat x_6) hlw.2.2
        have hq0 := q0 _ hlw.2.2
        refine ⟨45, rfl, ?_⟩
        refine ⟨⟨rfl, by show 0 ≤ x_6 ∧ x_6 < 60; omega⟩, ?_⟩
        have f_9 := xr45 hs (Int.toNat x_6)
        exact ih_2 _ _ (by refine bd_or iv0_2 (bd_sh ?_ ?_ ?_) <;> omega) (by first | assumption | exact sub.refl _ | exact sub.rest (by assumption)) (by have := rest_lt (by assumption : ¬ v5_2 = 0#64); omega)
  exact lp_2 _ _ _ (bd_0 _) (by first | assumption | exact sub.refl _ | exact sub.rest (by assumption)) (Nat.lt_succ_self _)
set_option maxRecDepth 100000 in
/-- GatheredPoints.noSlot -/
theorem xm_noSlot  {L d : Nat} {K : Option gV → gH → Prop} {s : gH}  (p0 : Int)  (h_p0 : (-2147483648) ≤ p0 ∧ p0 ≤ 2147483647)  (k : ∀ (r : Int), (0 ≤ r ∧ r ≤ 1) → (r = 0 → 0 ≤ p0 ∧ p0 ≤ 7) → (r = 1 → p0 < 0 ∨ 7 < p0) → K (some (gp_i r)) s) : gs_C L d 2856 1 [gp_i p0] s K := by
  refine s_2856_e _ ?_
  refine ⟨fun h_1 => ?_, fun h_1 => ?_⟩
  · refine s_2856_10 _ ?_
    refine s_2856_15 _ _ ?_
    refine ⟨by omega, ?_⟩
    exact k _ (by omega) (by first | omega | assumption) (by first | omega | assumption)
  · refine ⟨fun h_2 => ?_, fun h_2 => ?_⟩
    · refine s_2856_15 _ _ ?_
      refine ⟨by omega, ?_⟩
      exact k _ (by omega) (by first | omega | assumption) (by first | omega | assumption)
    · refine s_2856_10 _ ?_
      refine s_2856_15 _ _ ?_
      refine ⟨by omega, ?_⟩
      exact k _ (by omega) (by first | omega | assumption) (by first | omega | assumption)
set_option maxRecDepth 100000 in
/-- GatheredPoints.noSide -/
theorem xm_noSide  {L d : Nat} {K : Option gV → gH → Prop} {s : gH}  (p0 : Int)  (h_p0 : (-2147483648) ≤ p0 ∧ p0 ≤ 2147483647)  (k : ∀ (r : Int), (0 ≤ r ∧ r ≤ 1) → (r = 0 → 0 ≤ p0 ∧ p0 ≤ 1) → (r = 1 → p0 < 0 ∨ 1 < p0) → K (some (gp_i r)) s) : gs_C L d 2857 1 [gp_i p0] s K := by
  refine s_2857_e _ ?_
  refine ⟨fun h_1 => ?_, fun h_1 => ?_⟩
  · refine s_2857_13 _ ?_
    refine s_2857_14 _ _ ?_
    refine ⟨by omega, ?_⟩
    exact k _ (by omega) (by first | omega | assumption) (by first | omega | assumption)
  · refine ⟨fun h_2 => ?_, fun h_2 => ?_⟩
    · refine s_2857_13 _ ?_
      refine s_2857_14 _ _ ?_
      refine ⟨by omega, ?_⟩
      exact k _ (by omega) (by first | omega | assumption) (by first | omega | assumption)
    · refine s_2857_14 _ _ ?_
      refine ⟨by omega, ?_⟩
      exact k _ (by omega) (by first | omega | assumption) (by first | omega | assumption)
set_option maxRecDepth 100000 in
/-- GatheredPoints.noSet -/
theorem xm_noSet  {L d : Nat} {K : Option gV → gH → Prop} {s : gH}  (p0 : Int)  (h_p0 : (-2147483648) ≤ p0 ∧ p0 ≤ 2147483647)  (k : ∀ (r : Int), (0 ≤ r ∧ r ≤ 1) → (r = 0 → 1 ≤ p0 ∧ p0 ≤ 255) → K (some (gp_i r)) s) : gs_C L (d + 1) 2858 1 [gp_i p0] s K := by
  refine s_2858_e _ ?_
  refine ⟨fun h_1 => ?_, fun h_1 => ?_⟩
  · refine s_2858_20 _ ?_
    refine s_2858_25 _ _ ?_
    refine ⟨by omega, ?_⟩
    exact k _ (by omega) (by first | omega | assumption)
  · refine ⟨fun h_2 => ?_, fun h_2 => ?_⟩
    · refine xm_bcI _ (by omega) (fun x_3 p_4 => ⟨_, rfl, ?_⟩)
      refine ⟨fun h_5 => ?_, fun h_5 => ?_⟩
      · refine s_2858_20 _ ?_
        refine s_2858_25 _ _ ?_
        refine ⟨by omega, ?_⟩
        exact k _ (by omega) (by first | omega | assumption)
      · refine s_2858_25 _ _ ?_
        refine ⟨by omega, ?_⟩
        exact k _ (by omega) (by first | omega | assumption)
    · refine s_2858_20 _ ?_
      refine s_2858_25 _ _ ?_
      refine ⟨by omega, ?_⟩
      exact k _ (by omega) (by first | omega | assumption)
set_option maxRecDepth 100000 in
/-- Table.root -/
theorem xm_root  {L d : Nat} {K : Option gV → gH → Prop} {s : gH} (n_this : Nat) (this : Nat) (hs : XI L 0 s)  (q0 : kT L s this n_this) (k : ∀ (r : Int), (0 ≤ r ∧ r ≤ 60) → (r = (n_this : Int) - 1) → K (some (gp_i r)) s) : gs_C L d 2306 1 [gp_r (some this)] s K := by
  have hn_this := q0.n hs
  refine s_2306_e _ ?_
  refine ⟨this, rfl, ?_⟩
  refine ⟨q0.2.1, ?_⟩
  have f_1 := (q0.tt hs).1.2.2.1
  have f_2 := q0.n hs
  try rw [show gp_wr ((gp_I s this 0) - 1) = (gp_I s this 0) - 1 from gp_wr_id (by omega) (by omega)]
  exact k _ (by omega) (by first | omega | assumption)
set_option maxRecDepth 100000 in
/-- Table.options -/
theorem xm_options  {L d : Nat} {K : Option gV → gH → Prop} {s : gH} (n_this : Nat) (this : Nat) (p0 : Int) (p1 : Int) (hs : XI L 0 s) (h_p0 : 0 ≤ p0 ∧ p0 ≤ 60) (q0 : kT L s this n_this) (q1 : p0 < n_this) (k : ∀ (r : BitVec 64), (bd r p0) → (r = tO s this p1 p0) → K (some (gp_l r)) s) : gs_C L d 2307 3 [gp_r (some this), gp_i p0, gp_i p1] s K := by
  have hn_this := q0.n hs
  refine s_2307_e _ _ _ ?_
  refine ⟨fun h_1 => ?_, fun h_1 => ?_⟩
  · refine ⟨this, rfl, ?_⟩
    refine ⟨q0.2.1, ?_⟩
    refine ⟨(this + 1), (q0.tt hs).1.2.2.2.1.1, ?_⟩
    refine ⟨gin ((q0.tt hs).1.2.2.2.2.1.1) (by omega), ?_⟩
    have b_2 : bd (gp_L s (this + 1) (Int.toNat p0)) p0 := bd_le ((q0.tt hs).1.2.2.2.2.2 (Int.toNat p0)).1.1 (by omega)
    refine s_2307_19 _ _ _ _ ?_
    exact k _ (by first | assumption | exact bd_le (by assumption) (by omega) | exact bd_0 _) (by first | exact tO_0 (by assumption) | exact tO_1 (by assumption))
  · refine ⟨this, rfl, ?_⟩
    refine ⟨q0.2.1, ?_⟩
    refine ⟨(this + 2), (q0.tt hs).1.2.2.2.1.2.1, ?_⟩
    refine ⟨gin ((q0.tt hs).1.2.2.2.2.1.2.1) (by omega), ?_⟩
    have b_4 : bd (gp_L s (this + 2) (Int.toNat p0)) p0 := bd_le ((q0.tt hs).1.2.2.2.2.2 (Int.toNat p0)).1.2 (by omega)
    refine s_2307_19 _ _ _ _ ?_
    exact k _ (by first | assumption | exact bd_le (by assumption) (by omega) | exact bd_0 _) (by first | exact tO_0 (by assumption) | exact tO_1 (by assumption))
set_option maxRecDepth 100000 in
/-- Table.shutNumber -/
theorem xm_shutNumber  {L d : Nat} {K : Option gV → gH → Prop} {s : gH} (n_this : Nat) (this : Nat) (p0 : Int) (p1 : Int) (hs : XI L 0 s) (h_p0 : 0 ≤ p0 ∧ p0 ≤ 60) (q0 : kT L s this n_this) (q1 : p0 < n_this) (k : ∀ (r : Int), K (some (gp_i r)) s) : gs_C L d 2308 3 [gp_r (some this), gp_i p0, gp_i p1] s K := by
  have hn_this := q0.n hs
  refine s_2308_e _ _ _ ?_
  refine ⟨fun h_1 => ?_, fun h_1 => ?_⟩
  · refine ⟨this, rfl, ?_⟩
    refine ⟨q0.2.1, ?_⟩
    refine ⟨(this + 3), (q0.tt hs).1.2.2.2.1.2.2.1, ?_⟩
    refine ⟨gin ((q0.tt hs).1.2.2.2.2.1.2.2.1) (by omega), ?_⟩
    refine s_2308_19 _ _ _ _ ?_
    exact k _
  · refine ⟨this, rfl, ?_⟩
    refine ⟨q0.2.1, ?_⟩
    refine ⟨(this + 4), (q0.tt hs).1.2.2.2.1.2.2.2.1, ?_⟩
    refine ⟨gin ((q0.tt hs).1.2.2.2.2.1.2.2.2.1) (by omega), ?_⟩
    refine s_2308_19 _ _ _ _ ?_
    exact k _
set_option maxRecDepth 100000 in
/-- Table.followers -/
theorem xm_followers  {L d : Nat} {K : Option gV → gH → Prop} {s : gH} (n_this : Nat) (this : Nat) (p0 : Int) (hs : XI L 0 s) (h_p0 : 0 ≤ p0 ∧ p0 ≤ 60) (q0 : kT L s this n_this) (q1 : p0 < n_this) (k : ∀ (r : BitVec 64), (r.getLsbD p0.toNat = true) → (bd r (p0 + 1)) → (FC (gp_L s (this + 1)) (gp_L s (this + 2)) r) → K (some (gp_l r)) s) : gs_C L (d + 1) 2309 5 [gp_r (some this), gp_i p0] s K := by
  have hn_this := q0.n hs
  refine s_2309_e _ _ ?_
  have lp_2 : ∀ (n_2 : Nat) (v2_2 : BitVec 64) (v4_2 : Int), ((-1) ≤ v4_2 ∧ v4_2 ≤ 60) → ((v2_2).getLsbD p0.toNat = true) → (bd v2_2 (p0 + 1)) → (∀ i j : Nat, v4_2 < i → (v2_2).getLsbD i = true → ((gp_L s (this + 1) i).getLsbD j = true ∨ (gp_L s (this + 2) i).getLsbD j = true) → (v2_2).getLsbD j = true) → (v4_2 ≤ p0) → (v4_2 + 2).toNat < n_2 → gs_E L (d + 1) 2309 7 [gp_r (some this), gp_i p0, gp_l v2_2, gp_n, gp_i v4_2] [] s K := by
    intro n_2
    induction n_2 with
    | zero => intro v2_2 v4_2 hv4_2 iv0_2 iv1_2 iv2_2 iv3_2 hm_2; exact absurd hm_2 (Nat.not_lt_zero _)
    | succ n_2 ih_2 =>
      intro v2_2 v4_2 hv4_2 iv0_2 iv1_2 iv2_2 iv3_2 hm_2
      refine s_2309_7 _ _ _ _ ?_
      refine ⟨fun h_3 => ?_, fun h_3 => ?_⟩
      · exact k _ (by first | omega | assumption) (by first | assumption | exact bd_le (by assumption) (by omega) | exact bd_0 _) (fun i j h1 h2 => iv2_2 i j (by omega) h1 h2)
      · refine xm_has _ _ (by omega) (fun x_4 p_5 p_6 => ⟨_, rfl, ?_⟩)
        refine ⟨fun h_7 => ?_, fun h_7 => ?_⟩
        · have hb_8 := hasF p_6 h_7
          refine s_2309_39 _ _ _ _ ?_
          try rw [show gp_wr (v4_2 + (-1)) = v4_2 + (-1) from gp_wr_id (by omega) (by omega)]
          exact ih_2 _ _ (by omega) (by first | exact iv0_2 | exact or_bit iv0_2) (by first | exact iv1_2 | (refine bd_or iv1_2 (bd_or (bd_le (by assumption) ?_) (bd_le (by assumption) ?_)) <;> omega)) (by first | exact fcl_n (by omega) (by assumption) iv2_2 | exact fcl_y (by omega) (by assumption) (by assumption) (by assumption) iv2_2) (by first | omega | assumption) (by omega)
        · have hb_11 := hasT p_6 h_7
          refine ⟨this, rfl, ?_⟩
          refine ⟨q0.2.1, ?_⟩
          refine ⟨(this + 1), (q0.tt hs).1.2.2.2.1.1, ?_⟩
          refine ⟨gin ((q0.tt hs).1.2.2.2.2.1.1) (by omega), ?_⟩
          have b_12 : bd (gp_L s (this + 1) (Int.toNat v4_2)) v4_2 := bd_le ((q0.tt hs).1.2.2.2.2.2 (Int.toNat v4_2)).1.1 (by omega)
          refine ⟨q0.2.1, ?_⟩
          refine ⟨(this + 2), (q0.tt hs).1.2.2.2.1.2.1, ?_⟩
          refine ⟨gin ((q0.tt hs).1.2.2.2.2.1.2.1) (by omega), ?_⟩
          have b_13 : bd (gp_L s (this + 2) (Int.toNat v4_2)) v4_2 := bd_le ((q0.tt hs).1.2.2.2.2.2 (Int.toNat v4_2)).1.2 (by omega)
          refine s_2309_39 _ _ _ _ ?_
          try rw [show gp_wr (v4_2 + (-1)) = v4_2 + (-1) from gp_wr_id (by omega) (by omega)]
          exact ih_2 _ _ (by omega) (by first | exact iv0_2 | exact or_bit iv0_2) (by first | exact iv1_2 | (refine bd_or iv1_2 (bd_or (bd_le (by assumption) ?_) (bd_le (by assumption) ?_)) <;> omega)) (by first | exact fcl_n (by omega) (by assumption) iv2_2 | exact fcl_y (by omega) (by assumption) (by assumption) (by assumption) iv2_2) (by first | omega | assumption) (by omega)
  exact lp_2 _ _ _ (by omega) (one_self (by omega) (by omega)) (bd_sh (by omega) (by omega) (by omega)) (fun i j h0 h1 => absurd (bd_sh (n := p0 + 1) (by omega) (by omega) (by omega) i h1) (by omega)) (by first | omega | assumption) (Nat.lt_succ_self _)
set_option maxRecDepth 100000 in
/-- Table.tooBig -/
theorem xm_tooBig  {L d : Nat} {K : Option gV → gH → Prop} {s : gH} (n_this : Nat) (this : Nat) (hs : XI L 0 s)  (q0 : kT L s this n_this) (k : ∀ (r : Int), (0 ≤ r ∧ r ≤ 1) → K (some (gp_i r)) s) : gs_C L d 2310 2 [gp_r (some this)] s K := by
  have hn_this := q0.n hs
  refine s_2310_e _ ?_
  have lp_2 : ∀ (n_2 : Nat) (v1_2 : Int), (0 ≤ v1_2 ∧ v1_2 ≤ 61) → (62 - v1_2).toNat < n_2 → gs_E L d 2310 2 [gp_r (some this), gp_i v1_2] [] s K := by
    intro n_2
    induction n_2 with
    | zero => intro v1_2 hv1_2 hm_2; exact absurd hm_2 (Nat.not_lt_zero _)
    | succ n_2 ih_2 =>
      intro v1_2 hv1_2 hm_2
      refine s_2310_2 _ _ ?_
      refine ⟨this, rfl, ?_⟩
      refine ⟨q0.2.1, ?_⟩
      have f_3 := (q0.tt hs).1.2.2.1
      have f_4 := q0.n hs
      refine ⟨fun h_5 => ?_, fun h_5 => ?_⟩
      · refine ⟨q0.2.1, ?_⟩
        refine ⟨(this + 3), (q0.tt hs).1.2.2.2.1.2.2.1, ?_⟩
        refine ⟨gin ((q0.tt hs).1.2.2.2.2.1.2.2.1) (by omega), ?_⟩
        have w_6 := gz_ab (gp_I s (this + 3) (Int.toNat v1_2))
        refine ⟨fun h_7 => ?_, fun h_7 => ?_⟩
        · refine s_2310_38 _ _ ?_
          exact k _ (by omega)
        · refine ⟨q0.2.1, ?_⟩
          refine ⟨(this + 4), (q0.tt hs).1.2.2.2.1.2.2.2.1, ?_⟩
          refine ⟨gin ((q0.tt hs).1.2.2.2.2.1.2.2.2.1) (by omega), ?_⟩
          have w_9 := gz_ab (gp_I s (this + 4) (Int.toNat v1_2))
          refine ⟨fun h_10 => ?_, fun h_10 => ?_⟩
          · refine s_2310_38 _ _ ?_
            exact k _ (by omega)
          · try rw [show gp_wr (v1_2 + 1) = v1_2 + 1 from gp_wr_id (by omega) (by omega)]
            exact ih_2 _ (by omega) (by omega)
      · exact k _ (by omega)
  exact lp_2 _ _ (by omega) (Nat.lt_succ_self _)
