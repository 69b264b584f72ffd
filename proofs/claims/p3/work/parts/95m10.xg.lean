/-! options that wait, framed -/
def GT (L : Nat) (t : gH) (r : Option Nat) (x : Nat) : Prop := ∃ a n, r = some a ∧ kT L t a n ∧ n ≤ 60 ∧ 117 ≤ a ∧ TBG (TF t a) n ∧ val (TF t a) (n - 1) = x
def PGT (L : Nat) (t : gH) (k x : Nat) : Prop := GT L t (gp_R (gp_mk L t) 47 k) x
theorem GT_fr {L : Nat} {al : Bool} {m : List Nat} {s t : gH} {r : Option Nat} {x : Nat} (h : GT L s r x) (g : gX L al m s t) (i : IK s t) : GT L t r x := by
  obtain ⟨a, n, h1, h2, h3, h4, h5, h6⟩ := h
  have e := TF_fr g i h4 h2.1
  exact ⟨a, n, h1, h2.fr g.1, h3, h4, by rw [e]; exact h5, by rw [e]; exact h6⟩
theorem GT_f {L : Nat} {t : gH} {r : Option Nat} {x y : Nat} (h : GT L t r x) (g : GT L t r y) : x = y := by
  obtain ⟨a, n, h1, h2, h3, h4, h5, h6⟩ := h
  obtain ⟨b, m, g1, g2, g3, g4, g5, g6⟩ := g
  rw [h1] at g1
  injection g1 with g1
  subst g1
  have : n = m := h2.2.2.symm.trans g2.2.2
  subst this
  rw [← h6, ← g6]
theorem GT_at {L : Nat} {t : gH} {a n x : Nat} (h : GT L t (some a) x) (kt : kT L t a n) : 117 ≤ a ∧ TBG (TF t a) n ∧ val (TF t a) (n - 1) = x := by
  obtain ⟨b, m, h1, h2, h3, h4, h5, h6⟩ := h
  injection h1 with h1
  subst h1
  have : m = n := h2.2.2.symm.trans kt.2.2
  subst this
  exact ⟨h4, h5, h6⟩
theorem R47 {L : Nat} {al : Bool} {m : List Nat} {s t : gH} (g : gX L al m s t) (e : m.contains 47 = false) (k : Nat) : gp_R (gp_mk L t) 47 k = gp_R (gp_mk L s) 47 k := (g.2.2.1 47 k (by decide) (by decide) e).2.2
theorem PGT_fr {L : Nat} {al : Bool} {m : List Nat} {s t : gH} {k x : Nat} (h : PGT L s k x) (g : gX L al m s t) (i : IK s t) (e : gp_R (gp_mk L t) 47 k = gp_R (gp_mk L s) 47 k) : PGT L t k x := by
  unfold PGT
  rw [e]; exact GT_fr h g i
def PGA (L : Nat) (t : gH) (w0 w1 : Int) : Prop := ∀ k : Nat, w0 ≤ k → (k : Int) < w1 → ∃ x, PGT L t k x
def PGD (L : Nat) (t : gH) (w0 w1 : Int) (O : Nat) : Prop := ∀ x, O.testBit x = true ↔ ∃ k : Nat, w0 ≤ k ∧ (k : Int) < w1 ∧ PGT L t k x
/-- numbers that may come to a slot -/
def BV (y : Nat) : Prop := ∃ (f : Nat → ND) (k : Nat), val f k = y ∧ -99999 ≤ (f k).2.2.1 ∧ (f k).2.2.1 ≤ 99999 ∧ -99999 ≤ (f k).2.2.2 ∧ (f k).2.2.2 ≤ 99999
theorem BV_B99 {f : Nat → ND} {n : Nat} (h : ∀ i, i < n → BV (val f i)) : B99 f n := fun i hi => by
  obtain ⟨g, k, e, b⟩ := h i hi
  exact B99_of e.symm b
theorem BV_FOL {f : Nat → ND} {n y : Nat} (b : B99 f n) (h0 : 0 < n) (h : FOL f (n - 1) y) : BV y := by
  obtain ⟨m, k, r, e⟩ := h
  have := rch_le _ _ _ r
  exact ⟨f, k, e, b k (by omega)⟩
def OPK (L : Nat) (s u : gH) (p0 p1 v : Int) (l r : BitVec 64) : Prop := (∀ y, PS (CP u) y → BV y) ∧ ∃ A B, OPI (CP u) l r A B ∧ (∀ x, A.testBit x = true ↔ ∃ j : Nat, p0 ≤ j ∧ (j : Int) < v ∧ (j : Int) < p1 ∧ PGT L s j x) ∧ ∀ x, B.testBit x = true ↔ ∃ j : Nat, p0 ≤ j ∧ (j : Int) < v ∧ p1 ≤ j ∧ PGT L s j x
theorem OPK_0 {L : Nat} {s u : gH} {p0 p1 : Int} (h : gp_I u 6 4 = 0) : OPK L s u p0 p1 p0 0#64 0#64 := by
  have z : (CP u).1 = 0 := by show (gp_I u 6 4).toNat = 0; omega
  refine ⟨fun y hy => absurd hy (PS_c0 h y), 0, 0, ⟨fun k hk => by simp at hk, fun k hk => by simp at hk, cset_z _ _, cset_z _ _, fun y => ⟨fun q => absurd q (PS_c0 h y), fun q => by rcases q with q | q <;> exact absurd q OBS_0⟩⟩, fun x => ⟨fun q => (by rw [Nat.zero_testBit] at q; cases q), fun ⟨j, j1, j2, _⟩ => by omega⟩, fun x => ⟨fun q => (by rw [Nat.zero_testBit] at q; cases q), fun ⟨j, j1, j2, _⟩ => by omega⟩⟩
theorem tb_or {O x y : Nat} : (O ||| 2 ^ x).testBit y = true ↔ O.testBit y = true ∨ x = y := by
  rw [Nat.testBit_or, Bool.or_eq_true, Nat.testBit_two_pow, decide_eq_true_eq]
theorem OPK_s {L : Nat} {s u t : gH} {p0 p1 v res : Int} {l r l2 r2 : BitVec 64} {f : Nat → ND} {n x node : Nat} (h : OPK L s u p0 p1 v l r) (h0 : 0 ≤ p0 ∧ p0 ≤ v) (g : GVC t) (hx : PGT L s v.toNat x) (tb : TBG f n) (hv : val f (n - 1) = x) (tk : TKP u t f node res) (hnd : node = n - 1) (hres : 0 ≤ res) (hl : (v < p1 ∧ l2 = l ||| 1#64 <<< Int.toNat (res % 64) ∧ r2 = r) ∨ (p1 ≤ v ∧ l2 = l ∧ r2 = r ||| 1#64 <<< Int.toNat (res % 64))) : OPK L s t p0 p1 (v + 1) l2 r2 := by
  subst hnd
  obtain ⟨bv, A, B, o, a, b⟩ := h
  rcases tk with ⟨k, k1, k2, k3, k4, k5⟩ | ⟨k1, _⟩
  · have g60 := g.2.2
    have ek : Int.toNat (res % 64) = k := by omega
    have hs : ∀ y, PS (CP t) y ↔ PS (CP u) y ∨ FLV x y := fun y => by
      rw [k5, ← hv, FLV_of tb.1]
    refine ⟨fun y hy => ?_, ?_⟩
    · rcases (k5 y).mp hy with q | q
      · exact bv y q
      · exact BV_FOL tb.2.2 tb.1.1 q
    rw [ek] at hl
    have step : ∀ (j : Nat), (j : Int) < v + 1 ↔ (j : Int) < v ∨ j = v.toNat := fun j => by omega
    rcases hl with ⟨c, e1, e2⟩ | ⟨c, e1, e2⟩
    · subst e1; subst e2
      refine ⟨A ||| 2 ^ x, B, OPI_l o k2 g60 k3 (k4.trans hv) hs, fun y => ?_, fun y => ?_⟩
      · rw [tb_or, a]
        constructor
        · rintro (⟨j, j1, j2, j3, j4⟩ | q)
          · exact ⟨j, j1, by omega, j3, j4⟩
          · subst q; exact ⟨v.toNat, by omega, by omega, by omega, hx⟩
        · rintro ⟨j, j1, j2, j3, j4⟩
          rcases (step j).mp j2 with q | q
          · exact Or.inl ⟨j, j1, q, j3, j4⟩
          · subst q; exact Or.inr (GT_f hx j4)
      · rw [b]
        constructor
        · rintro ⟨j, j1, j2, j3, j4⟩; exact ⟨j, j1, by omega, j3, j4⟩
        · rintro ⟨j, j1, j2, j3, j4⟩; exact ⟨j, j1, by omega, j3, j4⟩
    · subst e1; subst e2
      refine ⟨A, B ||| 2 ^ x, OPI_r o k2 g60 k3 (k4.trans hv) hs, fun y => ?_, fun y => ?_⟩
      · rw [a]
        constructor
        · rintro ⟨j, j1, j2, j3, j4⟩; exact ⟨j, j1, by omega, j3, j4⟩
        · rintro ⟨j, j1, j2, j3, j4⟩; exact ⟨j, j1, by omega, j3, j4⟩
      · rw [tb_or, b]
        constructor
        · rintro (⟨j, j1, j2, j3, j4⟩ | q)
          · exact ⟨j, j1, by omega, j3, j4⟩
          · subst q; exact ⟨v.toNat, by omega, by omega, by omega, hx⟩
        · rintro ⟨j, j1, j2, j3, j4⟩
          rcases (step j).mp j2 with q | q
          · exact Or.inl ⟨j, j1, q, j3, j4⟩
          · subst q; exact Or.inr (GT_f hx j4)
  · omega
def FMC (L : Nat) (s : gH) (p0 p1 : Int) (OL OR : Nat) : Prop := p0 ≤ p1 ∧ p1 ≤ gp_I s 46 3 ∧ PGD L s p0 p1 OL ∧ PGD L s p1 (gp_I s 46 3) OR
def FMR (L : Nat) (s t : gH) (p0 p1 p2 p3 : Int) (r : Option Nat) : Prop := gp_I s 46 7 < 0 ∧ gp_I s 46 8 = 0 → ∀ OL OR, FMC L s p0 p1 OL OR → (-999 ≤ p2 ∧ p2 ≤ 999) ∧ -999 ≤ p3 ∧ p3 ≤ 999 → (¬ C60 (FRS OL OR (frv OL OR p2 p3)) ∧ gp_I t 46 8 = 4) ∨ (C60 (FRS OL OR (frv OL OR p2 p3)) ∧ gp_I t 46 8 = 0 ∧ GT L t r (frv OL OR p2 p3))
theorem OPK_sub {L : Nat} {s u : gH} {p0 p1 v : Int} {l r : BitVec 64} {OL OR : Nat} (h : OPK L s u p0 p1 v l r) (hv : v ≤ gp_I s 46 3) (c : FMC L s p0 p1 OL OR) (y : Nat) (hy : PS (CP u) y) : OBS OL y ∨ OBS OR y := by
  obtain ⟨_, A, B, o, a, b⟩ := h
  rcases (o.2.2.2.2 y).mp hy with ⟨x, x1, x2⟩ | ⟨x, x1, x2⟩
  · obtain ⟨j, j1, j2, j3, j4⟩ := (a x).mp x1
    exact Or.inl ⟨x, (c.2.2.1 x).mpr ⟨j, j1, j3, j4⟩, x2⟩
  · obtain ⟨j, j1, j2, j3, j4⟩ := (b x).mp x1
    exact Or.inr ⟨x, (c.2.2.2 x).mpr ⟨j, j3, by omega, j4⟩, x2⟩
theorem OPK_full {L : Nat} {s u t : gH} {p0 p1 v res : Int} {l r : BitVec 64} {f : Nat → ND} {n x OL OR w node : Nat} (h : OPK L s u p0 p1 v l r) (h0 : 0 ≤ p0 ∧ p0 ≤ v ∧ v < gp_I s 46 3) (hx : PGT L s v.toNat x) (tb : TBG f n) (hv : val f (n - 1) = x) (tk : TKP u t f node res) (hnd : node = n - 1) (hres : res < 0) (c : FMC L s p0 p1 OL OR) : ¬ C60 (FRS OL OR w) := by
  subst hnd
  rcases tk with ⟨k, k1, _⟩ | ⟨_, k2⟩
  · omega
  · refine fun q => k2 (C60_mono q (fun y hy => ?_))
    rcases hy with z | z
    · rcases OPK_sub h (by omega) c y z with z2 | z2
      · exact Or.inl z2
      · exact Or.inr (Or.inl z2)
    · rw [← FLV_of tb.1, hv] at z
      by_cases d : v < p1
      · exact Or.inl ⟨x, (c.2.2.1 x).mpr ⟨v.toNat, by omega, by omega, hx⟩, z⟩
      · exact Or.inr (Or.inl ⟨x, (c.2.2.2 x).mpr ⟨v.toNat, by omega, by omega, hx⟩, z⟩)
theorem OPK_eq {L : Nat} {s u : gH} {p0 p1 v : Int} {l r : BitVec 64} {OL OR : Nat} (h : OPK L s u p0 p1 v l r) (hv : v = gp_I s 46 3) (c : FMC L s p0 p1 OL OR) : OPI (CP u) l r OL OR := by
  obtain ⟨_, A, B, o, a, b⟩ := h
  have tf : ∀ (X Y : Nat), (∀ x, X.testBit x = true ↔ Y.testBit x = true) → X = Y := fun X Y e => by
    refine Nat.eq_of_testBit_eq fun i => ?_
    cases p : X.testBit i <;> cases q : Y.testBit i
    · rfl
    · rw [(e i).mpr q] at p; cases p
    · rw [(e i).mp p] at q; cases q
    · rfl
  have e1 : A = OL := tf _ _ (fun x => by
    rw [a, c.2.2.1]
    constructor
    · rintro ⟨j, j1, j2, j3, j4⟩; exact ⟨j, j1, j3, j4⟩
    · rintro ⟨j, j1, j3, j4⟩; exact ⟨j, j1, by have := c.2.1; omega, j3, j4⟩)
  have e2 : B = OR := tf _ _ (fun x => by
    rw [b, c.2.2.2]
    constructor
    · rintro ⟨j, j1, j2, j3, j4⟩; exact ⟨j, j3, by omega, j4⟩
    · rintro ⟨j, j1, j3, j4⟩; exact ⟨j, by have := c.1; omega, by omega, j1, j4⟩)
  subst e1; subst e2; exact o
theorem FM_v {L : Nat} {s u t : gH} {p0 p1 p2 p3 v res : Int} {l r : BitVec 64} {OL OR : Nat} (h : OPK L s u p0 p1 v l r) (hv : v = gp_I s 46 3) (c : FMC L s p0 p1 OL OR) (av : AV u t l r p2 p3 res) : AVX u t (frv OL OR p2 p3) res := AV_x av (OPI_v (OPK_eq h hv c))
theorem FM_full {L : Nat} {s u t : gH} {p0 p1 p2 p3 v res : Int} {l r : BitVec 64} {OL OR : Nat} (h : OPK L s u p0 p1 v l r) (hv : v = gp_I s 46 3) (c : FMC L s p0 p1 OL OR) (av : AV u t l r p2 p3 res) (hres : res < 0) : ¬ C60 (FRS OL OR (frv OL OR p2 p3)) := by
  rcases (FM_v h hv c av).2 with ⟨k, k1, _⟩ | ⟨_, k2⟩
  · omega
  · refine fun q => k2 (C60_mono q (fun y hy => ?_))
    rcases hy with z | z
    · rcases OPK_sub h (by omega) c y z with z2 | z2
      · exact Or.inl z2
      · exact Or.inr (Or.inl z2)
    · exact Or.inr (Or.inr z)
theorem BV_frv {OL OR : Nat} {P : AP} {l r : BitVec 64} {a b : Int} {k : Nat} (h : val P.2 k = frv OL OR a b) (ha : -999 ≤ a ∧ a ≤ 999) (hb : -999 ≤ b ∧ b ≤ 999) : BV (frv OL OR a b) := by
  refine ⟨P.2, k, h, ?_⟩
  rw [val_e] at h
  obtain ⟨_, _, c, d⟩ := cod4_inj h
  rw [c, d]
  refine ⟨?_, ?_, ?_, ?_⟩ <;> split <;> omega
theorem FM_ret {L : Nat} {s u t w : gH} {p0 p1 p2 p3 v res : Int} {l r : BitVec 64} {OL OR a n : Nat} (h : OPK L s u p0 p1 v l r) (hv : v = gp_I s 46 3) (c : FMC L s p0 p1 OL OR) (av : AV u t l r p2 p3 res) (hres : 0 ≤ res) (hp : (-999 ≤ p2 ∧ p2 ≤ 999) ∧ -999 ≤ p3 ∧ p3 ≤ 999) (kt : kT L w a n) (hn : n ≤ 60 ∧ 117 ≤ a ∧ TBL (TF w a) n ∧ NRM (TF w a) n ∧ val (TF w a) (n - 1) = val (CP t).2 res.toNat ∧ ∀ i, i < n → PS (CP t) (val (TF w a) i)) : C60 (FRS OL OR (frv OL OR p2 p3)) ∧ GT L w (some a) (frv OL OR p2 p3) := by
  have ax := FM_v h hv c av
  rcases ax.2 with ⟨k, k1, k2, k3, k4, k5⟩ | ⟨k1, _⟩
  · have o := OPK_eq h hv c
    have ek : res.toNat = k := by omega
    have bv : ∀ y, PS (CP t) y → BV y := fun y hy => by
      rcases (k5 y).mp hy with q | q
      · exact h.1 y q
      · rw [q]; exact BV_frv (P := CP t) (l := l) (r := r) k4 hp.1 hp.2
    refine ⟨C60_mono (GV_C60 ax.1) (fun y hy => ?_), a, n, rfl, kt, hn.1, hn.2.1, ⟨hn.2.2.1, hn.2.2.2.1, BV_B99 (fun i hi => bv _ (hn.2.2.2.2.2 i hi))⟩, by rw [hn.2.2.2.2.1, ek, k4]⟩
    rw [k5, o.2.2.2.2]
    rcases hy with q | q | q
    · exact Or.inl (Or.inl q)
    · exact Or.inl (Or.inr q)
    · exact Or.inr q
  · omega
set_option maxRecDepth 100000 in
/-- Reader.unfit -/
theorem xm_unfitV  {L d : Nat} {K : Option gV → gH → Prop} {s : gH}   (hs : XI L 0 s)   (k : ∀ (r : Int), (0 ≤ r ∧ r ≤ 1) → ((r = 1 ∧ ¬ (gp_I s 46 7 < 0 ∧ gp_I s 46 8 = 0)) ∨ (r = 0 ∧ gp_I s 46 7 < 0 ∧ gp_I s 46 8 = 0)) → K (some (gp_i r)) s) : gs_C L d 1292 1 [gp_r (some 46)] s K := by
  refine s_1292_e ?_
  have f_1 := xr46_7 hs
  refine ⟨fun h_2 => ?_, fun h_2 => ?_⟩
  · have f_3 := xr46_8 hs
    refine ⟨fun h_4 => ?_, fun h_4 => ?_⟩
    · refine s_1292_19 _ ?_
      refine ⟨by omega, ?_⟩
      exact k _ (by omega) (by first | omega | assumption)
    · refine s_1292_14 ?_
      refine s_1292_19 _ ?_
      refine ⟨by omega, ?_⟩
      exact k _ (by omega) (by first | omega | assumption)
  · refine s_1292_14 ?_
    refine s_1292_19 _ ?_
    refine ⟨by omega, ?_⟩
    exact k _ (by omega) (by first | omega | assumption)
set_option maxRecDepth 100000 in
/-- Reader.framed -/
theorem xm_framedV  {L d : Nat} {K : Option gV → gH → Prop} {s : gH}  (p0 : Int) (p1 : Int) (p2 : Int) (p3 : Int) (hs : XI L 0 s) (h_p0 : 0 ≤ p0 ∧ p0 ≤ 100) (h_p1 : 0 ≤ p1 ∧ p1 ≤ 100) (q0 : RV L s) (q1 : gp_I s 46 7 < 0 ∧ gp_I s 46 8 = 0 → PGA L s p0 (gp_I s 46 3)) (q2 : p0 ≤ gp_I s 46 3) (k : ∀ (r : Option Nat), ∀ (t : gH), XI L 0 t → gX L true [8, 9, 10, 11, 12, 13, 14, 15, 1196, 2480] s t → (∃ a n, r = some a ∧ kT L t a n ∧ n ≤ 60) → (gp_sz t ≤ gp_sz s + 6) → (gp_us t ≤ gp_us s + 310) → (IK s t) → (FMR L s t p0 p1 p2 p3 r) → (¬ (gp_I s 46 7 < 0 ∧ gp_I s 46 8 = 0) → gp_I t 46 8 = gp_I s 46 8) → K (some (gp_r r)) t) : gs_C L (d + 5) 1294 11 [gp_r (some 46), gp_i p0, gp_i p1, gp_i p2, gp_i p3] s K := by
  have f_1 := xr6_4 hs
  have f_2 := xr46_3 hs
  have f_3 := xr46_8 hs
  have f_4 := xr46_7 hs
  refine s_1294_e _ _ _ _ ?_
  refine xm_unfitV hs (fun x_5 p_6 p_7 => ⟨_, rfl, ?_⟩)
  refine ⟨fun h_8 => ?_, fun h_8 => ?_⟩
  · have hFP := q1 (by omega)
    refine xm_emptyI hs (fun s_9 hs_10 hf_11 p_12 p_13 p_14 => ⟨rfl, ?_⟩)
    have hf_15 : gX L true [8, 9, 10, 11, 12, 13, 14, 15, 1196, 2480] s s_9 := gX.sub hf_11 rfl rfl
    have pd_16 : RV L s_9 := RV_fr q0 hf_11 rfl rfl
    have q_17 : gp_I s_9 46 3 = gp_I s 46 3 := (hf_11.2.2.1 46 3 (by decide) (by decide) rfl).1
    have q_18 : gp_I s_9 46 8 = gp_I s 46 8 := (hf_11.2.2.1 46 8 (by decide) (by decide) rfl).1
    have q_19 : gp_I s_9 46 7 = gp_I s 46 7 := (hf_11.2.2.1 46 7 (by decide) (by decide) rfl).1
    have z_20 : gp_sz s_9 = gp_sz s ∧ gp_us s_9 = gp_us s := hf_11.2.1 rfl
    have pd_21 : IK s s_9 := IK_t (IK_r s) p_14 ((gX.refl L true [] s).1.1)
    have hS0 : S2P s_9 := S2P_0 (by omega)
    have hD0 : DSA s_9 := DSA_0 (by omega)
    have hG0 : GVC s_9 := GVC_0 (by omega)
    have lp_22 : ∀ (n_22 : Nat) (v5_22 : BitVec 64) (v7_22 : BitVec 64) (v9_22 : Int) (v10_22 : gV) (s_22 : gH), (XI L 0 s_22) → (gX L true [8, 9, 10, 11, 12, 13, 14, 15, 1196, 2480] s s_22) → (PO s_22) → (RV L s_22) → (S2P s_22) → (DSA s_22) → (IK s s_22) → (GVC s_22) → (gp_sz s_22 ≤ gp_sz s + 0 ∧ gp_us s_22 ≤ gp_us s + 0) → (0 ≤ v9_22 ∧ v9_22 ≤ 100) → (gp_I s_22 46 3 = gp_I s_9 46 3) → (gp_I s_22 46 8 = gp_I s_9 46 8) → (gp_I s_22 46 7 = gp_I s_9 46 7) → (bd v5_22 (gp_I s_22 6 4)) → (bd v7_22 (gp_I s_22 6 4)) → (OPK L s s_22 p0 p1 v9_22 v5_22 v7_22) → (p0 ≤ v9_22) → (v9_22 ≤ gp_I s 46 3) → (101 - v9_22).toNat < n_22 → gs_E L (d + 5) 1294 31 [gp_r (some 46), gp_i p0, gp_i p1, gp_i p2, gp_i p3, gp_l v5_22, gp_n, gp_l v7_22, gp_n, gp_i v9_22, v10_22] [] s_22 K := by
      intro n_22
      induction n_22 with
      | zero => intro v5_22 v7_22 v9_22 v10_22 s_22 hs_s_22 hf_s_22 PO_s_22 RV_L_s_22 S2P_s_22 DSA_s_22 IK_s_s_22 GVC_s_22 rm_s_22 hv9_22 tk0_22 tk1_22 tk2_22 iv0_22 iv1_22 iv2_22 iv3_22 iv4_22 hm_22; exact absurd hm_22 (Nat.not_lt_zero _)
      | succ n_22 ih_22 =>
        intro v5_22 v7_22 v9_22 v10_22 s_22 hs_s_22 hf_s_22 PO_s_22 RV_L_s_22 S2P_s_22 DSA_s_22 IK_s_s_22 GVC_s_22 rm_s_22 hv9_22 tk0_22 tk1_22 tk2_22 iv0_22 iv1_22 iv2_22 iv3_22 iv4_22 hm_22
        refine s_1294_31 _ _ _ _ _ _ _ _ ?_
        have f_23 := xr46_3 hs_s_22
        refine ⟨fun h_24 => ?_, fun h_24 => ?_⟩
        · have hN60 := xr6_4 hs_s_22
          obtain ⟨x9, hx9⟩ := hFP (Int.toNat v9_22) (by omega) (by omega)
          have hx8 := PGT_fr hx9 hf_s_22 IK_s_s_22 (R47 hf_s_22 rfl _)
          refine ⟨by omega, ?_⟩
          refine ⟨by omega, ?_⟩
          obtain ⟨a_25, n_26, e_27, kt_28, hn_29⟩ := RV.get (by assumption) (Int.toNat v9_22) (by omega)
          have hn_a_25 := kt_28.n hs_s_22
          refine ⟨a_25, e_27, ?_⟩
          refine ⟨kt_28.2.1, ?_⟩
          refine xm_root n_26 _ hs_s_22 (by first | assumption | exact kT7 hs_s_22.1.1 | exact kT25 hs_s_22.1.1) (fun x_30 p_31 p_32 => ⟨_, rfl, ?_⟩)
          have hx7 : GT L s_22 _ x9 := hx8
          rw [‹gp_R _ 47 _ = some _›] at hx7
          have hpa := GT_at hx7 (by assumption)
          have hp7 := hpa.1
          have hpn := hpa.2.1.2.1
          have hGB := hpa.2.1
          have hGW := hpa.2.2
          refine xm_takeV n_26 _ _ hs_s_22 (by omega) (by first | assumption | exact kT7 hs_s_22.1.1 | exact kT25 hs_s_22.1.1) (by first | omega | assumption) (by first | omega | assumption) (PO_s_22) (S2P_s_22) (DSA_s_22) (GVC_s_22) (by first | omega | assumption) (by first | omega | assumption) (fun x_33 s_34 hs_35 hf_36 p_37 p_38 p_39 p_40 p_41 p_42 p_43 p_44 p_45 => ⟨_, rfl, ?_⟩)
          have hf_46 : gX L true [8, 9, 10, 11, 12, 13, 14, 15, 1196, 2480] s s_34 := gX.trans hf_s_22 hf_36 rfl rfl
          have kt_47 : kT L s_34 a_25 n_26 := kt_28.fr hf_36.1
          have pd_48 : RV L s_34 := RV_fr RV_L_s_22 hf_36 rfl rfl
          have q_49 : gp_I s_34 46 3 = gp_I s_22 46 3 := (hf_36.2.2.1 46 3 (by decide) (by decide) rfl).1
          have q_50 : gp_I s_34 46 8 = gp_I s_22 46 8 := (hf_36.2.2.1 46 8 (by decide) (by decide) rfl).1
          have q_51 : gp_I s_34 46 7 = gp_I s_22 46 7 := (hf_36.2.2.1 46 7 (by decide) (by decide) rfl).1
          have z_52 : gp_sz s_34 = gp_sz s_22 ∧ gp_us s_34 = gp_us s_22 := hf_36.2.1 rfl
          have pd_53 : IK s s_34 := IK_t IK_s_s_22 p_44 ((hf_s_22).1.1)
          have hTK := p_45
          have hGV3 : GVC s_34 := p_43
          refine ⟨fun h_54 => ?_, fun h_54 => ?_⟩
          · intro s_55 e_56
            have hs_57 : XI L 0 s_55 := by rw [e_56]; exact xw46_8 hs_35 _ (by omega)
            have hf_58 : gX L true [8, 9, 10, 11, 12, 13, 14, 15, 1196, 2480] s s_55 := by rw [e_56]; exact gX.wI hf_46 (Or.inl rfl)
            have kt_59 : kT L s_55 a_25 n_26 := by rw [e_56]; exact kt_47
            have z_60 : gp_sz s_55 = gp_sz s_34 ∧ gp_us s_55 = gp_us s_34 := by rw [e_56]; exact ⟨rfl, rfl⟩
            have q_61 : gp_I s_55 6 4 = gp_I s_34 6 4 := by rw [e_56] <;> first | rfl | exact I_ne (by omega)
            have q_62 : gp_I s_55 46 3 = gp_I s_34 46 3 := by rw [e_56] <;> first | rfl | exact I_ne (by omega)
            have q_63 : gp_I s_55 46 8 = 4 := by rw [e_56]; exact (gz_rw _ _ _ _ _).1 rfl
            have q_64 : gp_I s_55 46 7 = gp_I s_34 46 7 := by rw [e_56] <;> first | rfl | exact I_ne (by omega)
            have pd_65 : PO s_55 := by rw [e_56]; exact PO_fr p_38 (gX.wI (gX.refl L true [2480] _) (Or.inl rfl)) rfl rfl rfl rfl rfl rfl
            have pd_66 : RV L s_55 := by rw [e_56]; exact RV_fr pd_48 (gX.wI (gX.refl L true [2480] _) (Or.inl rfl)) rfl rfl
            have pd_67 : S2P s_55 := by rw [e_56]; exact S2P_fr p_41 (gX.wI (gX.refl L true [2480] _) (Or.inl rfl)) rfl rfl rfl rfl rfl rfl rfl rfl
            have pd_68 : DSA s_55 := by rw [e_56]; exact DSA_fr p_42 (gX.wI (gX.refl L true [2480] _) (Or.inl rfl)) rfl rfl rfl rfl
            have pd_69 : IK s s_55 := by rw [e_56]; exact IK_wI pd_53 (Or.inl (by decide))
            have pd_70 : GVC s_55 := by rw [e_56]; exact GVC_fr p_43 (gX.wI (gX.refl L true [2480] _) (Or.inl rfl)) rfl rfl rfl rfl rfl
            exact k _ s_55 hs_57 hf_58 (⟨25, 1, rfl, kT25 hs_57.1.1, by omega⟩) (by first | omega | assumption) (by first | omega | assumption) (pd_69) (fun _ OL OR hc9 _ => Or.inl ⟨OPK_full iv2_22 ⟨by omega, by omega, by omega⟩ hx9 hGB hGW hTK (by omega) (by omega) hc9, by omega⟩) (fun h9 => by exfalso; omega)
          · refine ⟨fun h_71 => ?_, fun h_71 => ?_⟩
            · refine s_1294_100 _ _ _ _ _ _ _ _ _ _ ?_
              refine ⟨fun h_72 => ?_, fun h_72 => ?_⟩
              · refine s_1294_119 _ _ _ _ _ _ _ _ _ _ ?_
                try rw [show gp_wr (v9_22 + 1) = v9_22 + 1 from gp_wr_id (by omega) (by omega)]
                exact ih_22 _ _ _ _ _ hs_35 hf_46 p_38 pd_48 p_41 p_42 pd_53 p_43 (by omega) (by omega) (by first | rfl | omega) (by first | rfl | omega) (by first | rfl | omega) (by first | (refine bd_or (bd_le iv0_22 ?_) (bd_sh ?_ ?_ ?_) <;> omega) | (refine bd_or (bd_le iv0_22 ?_) (bd_0 _); omega)) (by first | (refine bd_or (bd_le iv1_22 ?_) (bd_sh ?_ ?_ ?_) <;> omega) | (refine bd_or (bd_le iv1_22 ?_) (bd_0 _); omega)) (OPK_s iv2_22 ⟨by omega, by omega⟩ hGV3 hx9 hGB hGW hTK (by omega) (by omega) (by first | exact Or.inl ⟨by omega, rfl, by simp⟩ | exact Or.inr ⟨by omega, by simp, rfl⟩ | (exfalso; omega))) (by first | omega | assumption) (by first | omega | assumption) (by omega)
              · refine s_1294_119 _ _ _ _ _ _ _ _ _ _ ?_
                try rw [show gp_wr (v9_22 + 1) = v9_22 + 1 from gp_wr_id (by omega) (by omega)]
                exact ih_22 _ _ _ _ _ hs_35 hf_46 p_38 pd_48 p_41 p_42 pd_53 p_43 (by omega) (by omega) (by first | rfl | omega) (by first | rfl | omega) (by first | rfl | omega) (by first | (refine bd_or (bd_le iv0_22 ?_) (bd_sh ?_ ?_ ?_) <;> omega) | (refine bd_or (bd_le iv0_22 ?_) (bd_0 _); omega)) (by first | (refine bd_or (bd_le iv1_22 ?_) (bd_sh ?_ ?_ ?_) <;> omega) | (refine bd_or (bd_le iv1_22 ?_) (bd_0 _); omega)) (OPK_s iv2_22 ⟨by omega, by omega⟩ hGV3 hx9 hGB hGW hTK (by omega) (by omega) (by first | exact Or.inl ⟨by omega, rfl, by simp⟩ | exact Or.inr ⟨by omega, by simp, rfl⟩ | (exfalso; omega))) (by first | omega | assumption) (by first | omega | assumption) (by omega)
            · refine s_1294_100 _ _ _ _ _ _ _ _ _ _ ?_
              refine ⟨fun h_73 => ?_, fun h_73 => ?_⟩
              · refine s_1294_119 _ _ _ _ _ _ _ _ _ _ ?_
                try rw [show gp_wr (v9_22 + 1) = v9_22 + 1 from gp_wr_id (by omega) (by omega)]
                exact ih_22 _ _ _ _ _ hs_35 hf_46 p_38 pd_48 p_41 p_42 pd_53 p_43 (by omega) (by omega) (by first | rfl | omega) (by first | rfl | omega) (by first | rfl | omega) (by first | (refine bd_or (bd_le iv0_22 ?_) (bd_sh ?_ ?_ ?_) <;> omega) | (refine bd_or (bd_le iv0_22 ?_) (bd_0 _); omega)) (by first | (refine bd_or (bd_le iv1_22 ?_) (bd_sh ?_ ?_ ?_) <;> omega) | (refine bd_or (bd_le iv1_22 ?_) (bd_0 _); omega)) (OPK_s iv2_22 ⟨by omega, by omega⟩ hGV3 hx9 hGB hGW hTK (by omega) (by omega) (by first | exact Or.inl ⟨by omega, rfl, by simp⟩ | exact Or.inr ⟨by omega, by simp, rfl⟩ | (exfalso; omega))) (by first | omega | assumption) (by first | omega | assumption) (by omega)
              · refine s_1294_119 _ _ _ _ _ _ _ _ _ _ ?_
                try rw [show gp_wr (v9_22 + 1) = v9_22 + 1 from gp_wr_id (by omega) (by omega)]
                exact ih_22 _ _ _ _ _ hs_35 hf_46 p_38 pd_48 p_41 p_42 pd_53 p_43 (by omega) (by omega) (by first | rfl | omega) (by first | rfl | omega) (by first | rfl | omega) (by first | (refine bd_or (bd_le iv0_22 ?_) (bd_sh ?_ ?_ ?_) <;> omega) | (refine bd_or (bd_le iv0_22 ?_) (bd_0 _); omega)) (by first | (refine bd_or (bd_le iv1_22 ?_) (bd_sh ?_ ?_ ?_) <;> omega) | (refine bd_or (bd_le iv1_22 ?_) (bd_0 _); omega)) (OPK_s iv2_22 ⟨by omega, by omega⟩ hGV3 hx9 hGB hGW hTK (by omega) (by omega) (by first | exact Or.inl ⟨by omega, rfl, by simp⟩ | exact Or.inr ⟨by omega, by simp, rfl⟩ | (exfalso; omega))) (by first | omega | assumption) (by first | omega | assumption) (by omega)
        · refine xm_addI _ _ _ _ hs_s_22 (PO_s_22) (iv0_22) (iv1_22) (S2P_s_22) (DSA_s_22) (GVC_s_22) (fun x_74 s_75 hs_76 hf_77 p_78 p_79 p_80 p_81 p_82 p_83 p_84 p_85 => ⟨_, rfl, ?_⟩)
          have hf_86 : gX L true [8, 9, 10, 11, 12, 13, 14, 15, 1196, 2480] s s_75 := gX.trans hf_s_22 hf_77 rfl rfl
          have pd_87 : RV L s_75 := RV_fr RV_L_s_22 hf_77 rfl rfl
          have q_88 : gp_I s_75 46 3 = gp_I s_22 46 3 := (hf_77.2.2.1 46 3 (by decide) (by decide) rfl).1
          have q_89 : gp_I s_75 46 8 = gp_I s_22 46 8 := (hf_77.2.2.1 46 8 (by decide) (by decide) rfl).1
          have q_90 : gp_I s_75 46 7 = gp_I s_22 46 7 := (hf_77.2.2.1 46 7 (by decide) (by decide) rfl).1
          have z_91 : gp_sz s_75 = gp_sz s_22 ∧ gp_us s_75 = gp_us s_22 := hf_77.2.1 rfl
          have pd_92 : IK s s_75 := IK_t IK_s_s_22 p_84 ((hf_s_22).1.1)
          have hAV := p_85
          have hGV2 : GVC s_75 := hAV.1
          refine ⟨fun h_93 => ?_, fun h_93 => ?_⟩
          · intro s_94 e_95
            have hs_96 : XI L 0 s_94 := by rw [e_95]; exact xw46_8 hs_76 _ (by omega)
            have hf_97 : gX L true [8, 9, 10, 11, 12, 13, 14, 15, 1196, 2480] s s_94 := by rw [e_95]; exact gX.wI hf_86 (Or.inl rfl)
            have z_98 : gp_sz s_94 = gp_sz s_75 ∧ gp_us s_94 = gp_us s_75 := by rw [e_95]; exact ⟨rfl, rfl⟩
            have q_99 : gp_I s_94 6 4 = gp_I s_75 6 4 := by rw [e_95] <;> first | rfl | exact I_ne (by omega)
            have q_100 : gp_I s_94 46 3 = gp_I s_75 46 3 := by rw [e_95] <;> first | rfl | exact I_ne (by omega)
            have q_101 : gp_I s_94 46 8 = 4 := by rw [e_95]; exact (gz_rw _ _ _ _ _).1 rfl
            have q_102 : gp_I s_94 46 7 = gp_I s_75 46 7 := by rw [e_95] <;> first | rfl | exact I_ne (by omega)
            have pd_103 : PO s_94 := by rw [e_95]; exact PO_fr p_79 (gX.wI (gX.refl L true [2480] _) (Or.inl rfl)) rfl rfl rfl rfl rfl rfl
            have pd_104 : RV L s_94 := by rw [e_95]; exact RV_fr pd_87 (gX.wI (gX.refl L true [2480] _) (Or.inl rfl)) rfl rfl
            have pd_105 : S2P s_94 := by rw [e_95]; exact S2P_fr p_81 (gX.wI (gX.refl L true [2480] _) (Or.inl rfl)) rfl rfl rfl rfl rfl rfl rfl rfl
            have pd_106 : DSA s_94 := by rw [e_95]; exact DSA_fr p_83 (gX.wI (gX.refl L true [2480] _) (Or.inl rfl)) rfl rfl rfl rfl
            have pd_107 : IK s s_94 := by rw [e_95]; exact IK_wI pd_92 (Or.inl (by decide))
            have pd_108 : GVC s_94 := by rw [e_95]; exact GVC_fr hGV2 (gX.wI (gX.refl L true [2480] _) (Or.inl rfl)) rfl rfl rfl rfl rfl
            exact k _ s_94 hs_96 hf_97 (⟨25, 1, rfl, kT25 hs_96.1.1, by omega⟩) (by first | omega | assumption) (by first | omega | assumption) (pd_107) (fun _ OL OR hc9 _ => Or.inl ⟨FM_full iv2_22 (by omega) hc9 hAV (by omega), by omega⟩) (fun h9 => by exfalso; omega)
          · refine xm_tableOfV _ hs_76 (by omega) (p_79) (by first | omega | assumption) (hGV2) (fun o_109 s_110 hs_111 hf_112 p_113 p_114 p_115 p_116 => ⟨_, rfl, ?_⟩)
            have hf_117 : gX L true [8, 9, 10, 11, 12, 13, 14, 15, 1196, 2480] s s_110 := gX.trans hf_86 hf_112 rfl rfl
            have pd_118 : PO s_110 := PO_fr p_79 hf_112 rfl rfl rfl rfl rfl rfl
            have pd_119 : RV L s_110 := RV_fr pd_87 hf_112 rfl rfl
            have pd_120 : S2P s_110 := S2P_fr p_81 hf_112 rfl rfl rfl rfl rfl rfl rfl rfl
            have pd_121 : DSA s_110 := DSA_fr p_83 hf_112 rfl rfl rfl rfl
            have pd_122 : GVC s_110 := GVC_fr hGV2 hf_112 rfl rfl rfl rfl rfl
            have q_123 : gp_I s_110 6 4 = gp_I s_75 6 4 := (hf_112.2.2.1 6 4 (by decide) (by decide) rfl).1
            have q_124 : gp_I s_110 46 3 = gp_I s_75 46 3 := (hf_112.2.2.1 46 3 (by decide) (by decide) rfl).1
            have q_125 : gp_I s_110 46 8 = gp_I s_75 46 8 := (hf_112.2.2.1 46 8 (by decide) (by decide) rfl).1
            have q_126 : gp_I s_110 46 7 = gp_I s_75 46 7 := (hf_112.2.2.1 46 7 (by decide) (by decide) rfl).1
            have pd_127 : IK s s_110 := IK_t pd_92 p_116 ((hf_86).1.1)
            obtain ⟨a_128, n_129, rfl, kt_130, hn_131⟩ := p_113
            have hn_a_128 := kt_130.n hs_111
            exact k _ s_110 hs_111 hf_117 (⟨_, _, rfl, by assumption, by omega⟩) (by first | omega | assumption) (by first | omega | assumption) (pd_127) (fun _ OL OR hc9 hp9 => by have hz9 := FM_ret iv2_22 (by omega) hc9 hAV (by omega) hp9 kt_130 hn_131; exact Or.inr ⟨hz9.1, by omega, hz9.2⟩) (fun h9 => by exfalso; omega)
    exact lp_22 _ _ _ _ _ _ hs_10 hf_15 p_13 pd_16 hS0 hD0 pd_21 hG0 (by omega) (by omega) (by first | rfl | omega) (by first | rfl | omega) (by first | rfl | omega) (bd_0 _) (bd_0 _) (OPK_0 (by omega)) (by first | omega | assumption) (by first | omega | assumption) (Nat.lt_succ_self _)
  · exact k _ s hs (gX.refl _ _ _ _) (⟨25, 1, rfl, kT25 hs.1.1, by omega⟩) (by first | omega | assumption) (by first | omega | assumption) ((IK_r s)) (fun h9 => by exfalso; omega) (fun _ => rfl)
