/-! sheets, images: what both sides answer -/
theorem gI_w (s : gH) (a i : Nat) (v : Int) (a' i' : Nat) : gp_I (gp_wI s a i v) a' i' = if a' = a ∧ i' = i then v else gp_I s a' i' := gm_u2 _ _ _ _ _ _
def xV (s : gH) (i k : Nat) : Int := gp_I s (68 + i) k
def mV (s : gH) (i k : Nat) : Int := gp_I s 83 (20 * i + k)
def KP (b n : Nat) (w : gH → Nat → Nat → Int) (s t : gH) : Prop := (∀ i : Nat, i < 4 → gp_I t b i = gp_I s b i ∧ gp_I t n i = gp_I s n i) ∧ ∀ i k : Nat, i < 4 → k < 20 → w t i k = w s i k
def KSv (b n : Nat) (w : gH → Nat → Nat → Int) (s t : gH) (p0 p1 p2 v : Int) : Prop := (∀ i : Nat, i < 4 → gp_I t b i = (if i = p0.toNat then p1 else gp_I s b i) ∧ gp_I t n i = (if i = p0.toNat then p2 else gp_I s n i)) ∧ ∀ i k : Nat, i < 4 → k < 20 → w t i k = if i = p0.toNat ∧ (k : Int) < v then 0 else w s i k
def KS (b n : Nat) (w : gH → Nat → Nat → Int) (s t : gH) (p0 p1 p2 : Int) : Prop := KSv b n w s t p0 p1 p2 20
def OKS (p0 p1 : Int) : Prop := (0 ≤ p0 ∧ p0 ≤ 3) ∧ (p1 = 0 ∨ p1 = 8 ∨ p1 = 16 ∨ p1 = 32)
def SHP (b n : Nat) (w : gH → Nat → Nat → Int) (s t : gH) (p0 p1 p2 r : Int) : Prop :=
  (¬ OKS p0 p1 ∧ r = -1000000001 ∧ KP b n w s t) ∨ (OKS p0 p1 ∧ (p1 ≠ 0 ∧ p2 < 0) ∧ r = -1000000003 ∧ KP b n w s t) ∨ (OKS p0 p1 ∧ (p1 ≠ 0 ∧ 20 < p2) ∧ r = -1000000001 ∧ KP b n w s t) ∨ (OKS p0 p1 ∧ (p1 = 0 ∨ (0 ≤ p2 ∧ p2 ≤ 20)) ∧ r = 1 ∧ KS b n w s t p0 p1 (if p1 = 0 then 0 else p2))
def EQV (s : gH) : Prop := (∀ i : Nat, i < 4 → gp_I s 72 i = gp_I s 84 i ∧ gp_I s 73 i = gp_I s 85 i) ∧ ∀ i k : Nat, i < 4 → k < 20 → xV s i k = mV s i k
def nar (b v : Int) : Int := if b = 8 then gp_b v else if b = 16 then gp_s v else v
def KW (b n : Nat) (w : gH → Nat → Nat → Int) (s t : gH) (p0 p1 v : Int) : Prop := (∀ i : Nat, i < 4 → gp_I t b i = gp_I s b i ∧ gp_I t n i = gp_I s n i) ∧ ∀ i k : Nat, i < 4 → k < 20 → w t i k = if i = p0.toNat ∧ k = p1.toNat then v else w s i k
def INS (b n : Nat) (s : gH) (p0 p1 : Int) : Prop := (0 ≤ p0 ∧ p0 ≤ 3) ∧ ¬ gp_I s b p0.toNat = 0 ∧ 0 ≤ p1 ∧ p1 < gp_I s n p0.toNat
def LKP (b n : Nat) (s : gH) (p0 p1 r : Int) : Prop := (¬ (0 ≤ p0 ∧ p0 ≤ 3) ∧ r = 1) ∨ ((0 ≤ p0 ∧ p0 ≤ 3) ∧ gp_I s b p0.toNat = 0 ∧ r = 2) ∨ ((0 ≤ p0 ∧ p0 ≤ 3) ∧ ¬ gp_I s b p0.toNat = 0 ∧ ¬ (0 ≤ p1 ∧ p1 < gp_I s n p0.toNat) ∧ r = 1) ∨ (((0 ≤ p0 ∧ p0 ≤ 3) ∧ ¬ gp_I s b p0.toNat = 0 ∧ 0 ≤ p1 ∧ p1 < gp_I s n p0.toNat) ∧ r = 0)
def PTP (b n : Nat) (w : gH → Nat → Nat → Int) (s t : gH) (p0 p1 p2 r : Int) : Prop := ∃ no : Int, LKP b n s p0 p1 no ∧ ((no ≠ 0 ∧ r = -1000000000 - no ∧ KP b n w s t) ∨ (no = 0 ∧ r = 1 ∧ KW b n w s t p0 p1 (nar (gp_I s b p0.toNat) p2)))
def NBP (b n : Nat) (w : gH → Nat → Nat → Int) (s t : gH) (p0 p1 r : Int) : Prop := ∃ no : Int, LKP b n s p0 p1 no ∧ ((no ≠ 0 ∧ r = -1000000000 - no) ∨ (no = 0 ∧ r = w s p0.toNat p1.toNat)) ∧ KP b n w s t
theorem KP_x {L : Nat} {al : Bool} {m : List Nat} {s t : gH} (g : gX L al m s t) (e0 : m.contains 68 = false) (e1 : m.contains 69 = false) (e2 : m.contains 70 = false) (e3 : m.contains 71 = false) (e4 : m.contains 72 = false) (e5 : m.contains 73 = false) : KP 72 73 xV s t := by
  refine ⟨fun i hi => ⟨(g.2.2.1 72 i (by decide) (by decide) e4).1, (g.2.2.1 73 i (by decide) (by decide) e5).1⟩, fun i k hi hk => ?_⟩
  have hc : i = 0 ∨ i = 1 ∨ i = 2 ∨ i = 3 := by omega
  rcases hc with h | h | h | h <;> subst h
  · exact (g.2.2.1 68 k (by decide) (by decide) e0).1
  · exact (g.2.2.1 69 k (by decide) (by decide) e1).1
  · exact (g.2.2.1 70 k (by decide) (by decide) e2).1
  · exact (g.2.2.1 71 k (by decide) (by decide) e3).1
theorem KP_m {m f : List Nat} {s t : gH} (g : gF m f s t) (e0 : m.contains 83 = false) (e1 : m.contains 84 = false) (e2 : m.contains 85 = false) : KP 84 85 mV s t :=
  ⟨fun i hi => ⟨(g.2 84 i e1 (fun h => absurd h (by decide))).1, (g.2 85 i e2 (fun h => absurd h (by decide))).1⟩, fun i k hi hk => (g.2 83 _ e0 (fun h => absurd h (by decide))).1⟩
theorem KP_r (b n : Nat) (w : gH → Nat → Nat → Int) (s : gH) : KP b n w s s := ⟨fun _ _ => ⟨rfl, rfl⟩, fun _ _ _ _ => rfl⟩
theorem KSv_x0 {s s1 t : gH} {p0 p1 p2 : Int} (e1 : s1 = gp_wI s 72 (Int.toNat p0) p1) (e2 : t = gp_wI s1 73 (Int.toNat p0) p2) : KSv 72 73 xV s t p0 p1 p2 0 := by
  subst e2; subst e1
  refine ⟨fun i hi => ⟨?_, ?_⟩, fun i k hi hk => ?_⟩
  · rw [gI_w, if_neg (by omega), gI_w]
    by_cases c : i = p0.toNat
    · rw [if_pos ⟨rfl, c⟩, if_pos c]
    · rw [if_neg (fun h => c h.2), if_neg c]
  · rw [gI_w]
    by_cases c : i = p0.toNat
    · rw [if_pos ⟨rfl, c⟩, if_pos c]
    · rw [if_neg (fun h => c h.2), if_neg c, gI_w, if_neg (by omega)]
  · show gp_I _ (68 + i) k = if _ then 0 else gp_I s (68 + i) k
    rw [gI_w, if_neg (by omega), gI_w, if_neg (by omega), if_neg (by omega)]
theorem KSv_xs {s u t : gH} {p0 p1 p2 v : Int} (h : KSv 72 73 xV s u p0 p1 p2 v) (e : t = gp_wI u (68 + Int.toNat p0) (Int.toNat v) 0) (h0 : 0 ≤ p0 ∧ p0 ≤ 3) (hv : 0 ≤ v) : KSv 72 73 xV s t p0 p1 p2 (v + 1) := by
  subst e
  refine ⟨fun i hi => ⟨?_, ?_⟩, fun i k hi hk => ?_⟩
  · rw [gI_w, if_neg (by omega)]; exact (h.1 i hi).1
  · rw [gI_w, if_neg (by omega)]; exact (h.1 i hi).2
  · have := h.2 i k hi hk
    show gp_I _ (68 + i) k = if _ then 0 else gp_I s (68 + i) k
    rw [gI_w]
    by_cases c : i = p0.toNat ∧ k = v.toNat
    · rw [if_pos ⟨by omega, c.2⟩, if_pos ⟨c.1, by omega⟩]
    · rw [if_neg (by omega)]
      refine this.trans ?_
      by_cases d : i = p0.toNat ∧ (k : Int) < v
      · rw [if_pos d, if_pos ⟨d.1, by omega⟩]
      · rw [if_neg d, if_neg (by omega)]; rfl
theorem KSv_m0 {s s1 t : gH} {p0 p1 p2 : Int} (e1 : s1 = gp_wI s 84 (Int.toNat p0) p1) (e2 : t = gp_wI s1 85 (Int.toNat p0) p2) : KSv 84 85 mV s t p0 p1 p2 0 := by
  subst e2; subst e1
  refine ⟨fun i hi => ⟨?_, ?_⟩, fun i k hi hk => ?_⟩
  · rw [gI_w, if_neg (by omega), gI_w]
    by_cases c : i = p0.toNat
    · rw [if_pos ⟨rfl, c⟩, if_pos c]
    · rw [if_neg (fun h => c h.2), if_neg c]
  · rw [gI_w]
    by_cases c : i = p0.toNat
    · rw [if_pos ⟨rfl, c⟩, if_pos c]
    · rw [if_neg (fun h => c h.2), if_neg c, gI_w, if_neg (by omega)]
  · show gp_I _ 83 _ = if _ then 0 else gp_I s 83 _
    rw [gI_w, if_neg (by omega), gI_w, if_neg (by omega), if_neg (by omega)]
theorem KSv_ms {s u t : gH} {p0 p1 p2 v : Int} (h : KSv 84 85 mV s u p0 p1 p2 v) (e : t = gp_wI u 83 (Int.toNat (20 * p0 + v)) 0) (h0 : 0 ≤ p0 ∧ p0 ≤ 3) (hv : 0 ≤ v ∧ v < 20) : KSv 84 85 mV s t p0 p1 p2 (v + 1) := by
  subst e
  refine ⟨fun i hi => ⟨?_, ?_⟩, fun i k hi hk => ?_⟩
  · rw [gI_w, if_neg (by omega)]; exact (h.1 i hi).1
  · rw [gI_w, if_neg (by omega)]; exact (h.1 i hi).2
  · have := h.2 i k hi hk
    show gp_I _ 83 (20 * i + k) = if _ then 0 else gp_I s 83 (20 * i + k)
    rw [gI_w]
    by_cases c : i = p0.toNat ∧ k = v.toNat
    · rw [if_pos ⟨rfl, by omega⟩, if_pos ⟨c.1, by omega⟩]
    · rw [if_neg (by omega)]
      refine this.trans ?_
      by_cases d : i = p0.toNat ∧ (k : Int) < v
      · rw [if_pos d, if_pos ⟨d.1, by omega⟩]
      · rw [if_neg d, if_neg (by omega)]; rfl
theorem KSv_20 {b n : Nat} {w : gH → Nat → Nat → Int} {s t : gH} {p0 p1 p2 v : Int} (h : KSv b n w s t p0 p1 p2 v) (hv : 20 ≤ v) : KS b n w s t p0 p1 p2 := ⟨h.1, fun i k hi hk => (h.2 i k hi hk).trans (by
  by_cases c : i = p0.toNat
  · rw [if_pos ⟨c, by omega⟩, if_pos ⟨c, by omega⟩]
  · rw [if_neg (fun q => c q.1), if_neg (fun q => c q.1)])⟩
theorem KW_x {s t : gH} {p0 p1 v v' : Int} (e : t = gp_wI s (68 + Int.toNat p0) (Int.toNat p1) v) (hv : v = v') (h0 : 0 ≤ p0 ∧ p0 ≤ 3) : KW 72 73 xV s t p0 p1 v' := by
  subst e; subst hv
  refine ⟨fun i hi => ⟨?_, ?_⟩, fun i k hi hk => ?_⟩
  · rw [gI_w, if_neg (by omega)]
  · rw [gI_w, if_neg (by omega)]
  · show gp_I _ (68 + i) k = if _ then v else gp_I s (68 + i) k
    rw [gI_w]
    by_cases c : i = p0.toNat ∧ k = p1.toNat
    · rw [if_pos ⟨by omega, c.2⟩, if_pos c]
    · rw [if_neg (by omega), if_neg c]
theorem KW_m {s t : gH} {p0 p1 v v' : Int} (e : t = gp_wI s 83 (Int.toNat (20 * p0 + p1)) v) (hv : v = v') (h0 : 0 ≤ p0 ∧ p0 ≤ 3) (h1 : 0 ≤ p1 ∧ p1 < 20) : KW 84 85 mV s t p0 p1 v' := by
  subst e; subst hv
  refine ⟨fun i hi => ⟨?_, ?_⟩, fun i k hi hk => ?_⟩
  · rw [gI_w, if_neg (by omega)]
  · rw [gI_w, if_neg (by omega)]
  · show gp_I _ 83 (20 * i + k) = if _ then v else gp_I s 83 (20 * i + k)
    rw [gI_w]
    by_cases c : i = p0.toNat ∧ k = p1.toNat
    · rw [if_pos ⟨rfl, by omega⟩, if_pos c]
    · rw [if_neg (by omega), if_neg c]
/-! both sides together -/
theorem LKP_eq {s t : gH} (h : EQV s) (hR : ∀ a k, 74 ≤ a → a < 117 → gp_I t a k = gp_I s a k) {p0 p1 r r2 : Int} (a : LKP 72 73 s p0 p1 r) (b : LKP 84 85 t p0 p1 r2) : r = r2 := by
  unfold LKP at a b
  by_cases c : 0 ≤ p0 ∧ p0 ≤ 3
  · have e := h.1 p0.toNat (by omega)
    have r1 := hR 84 p0.toNat (by decide) (by decide)
    have r2 := hR 85 p0.toNat (by decide) (by decide)
    omega
  · omega
theorem EQV_KP {s t u : gH} (h : EQV s) (hR : ∀ a k, 74 ≤ a → a < 117 → gp_I t a k = gp_I s a k) (hX : ∀ a k, a < 74 → gp_I u a k = gp_I t a k) (a : KP 72 73 xV s t) (b : KP 84 85 mV t u) : EQV u := by
  refine ⟨fun i hi => ?_, fun i k hi hk => ?_⟩
  · have e := h.1 i hi
    have a1 := a.1 i hi
    have b1 := b.1 i hi
    rw [hX 72 i (by decide), hX 73 i (by decide), b1.1, b1.2, hR 84 i (by decide) (by decide), hR 85 i (by decide) (by decide), a1.1, a1.2]
    exact e
  · show gp_I u (68 + i) k = mV u i k
    rw [hX _ _ (by omega), b.2 i k hi hk]
    refine (a.2 i k hi hk).trans ((h.2 i k hi hk).trans ?_)
    exact (hR 83 _ (by decide) (by decide)).symm
theorem EQV_KS {s t u : gH} (h : EQV s) (hR : ∀ a k, 74 ≤ a → a < 117 → gp_I t a k = gp_I s a k) (hX : ∀ a k, a < 74 → gp_I u a k = gp_I t a k) {p0 p1 p2 : Int} (a : KS 72 73 xV s t p0 p1 p2) (b : KS 84 85 mV t u p0 p1 p2) : EQV u := by
  refine ⟨fun i hi => ?_, fun i k hi hk => ?_⟩
  · have e := h.1 i hi
    have a1 := a.1 i hi
    have b1 := b.1 i hi
    rw [hX 72 i (by decide), hX 73 i (by decide), b1.1, b1.2, hR 84 i (by decide) (by decide), hR 85 i (by decide) (by decide), a1.1, a1.2, e.1, e.2]
    exact ⟨rfl, rfl⟩
  · show gp_I u (68 + i) k = mV u i k
    rw [hX _ _ (by omega), b.2 i k hi hk]
    refine (a.2 i k hi hk).trans ?_
    rw [show mV t i k = mV s i k from hR 83 _ (by decide) (by decide), h.2 i k hi hk]
theorem EQV_KW {s t u : gH} (h : EQV s) (hR : ∀ a k, 74 ≤ a → a < 117 → gp_I t a k = gp_I s a k) (hX : ∀ a k, a < 74 → gp_I u a k = gp_I t a k) {p0 p1 v : Int} (a : KW 72 73 xV s t p0 p1 v) (b : KW 84 85 mV t u p0 p1 v) : EQV u := by
  refine ⟨fun i hi => ?_, fun i k hi hk => ?_⟩
  · have e := h.1 i hi
    have a1 := a.1 i hi
    have b1 := b.1 i hi
    rw [hX 72 i (by decide), hX 73 i (by decide), b1.1, b1.2, hR 84 i (by decide) (by decide), hR 85 i (by decide) (by decide), a1.1, a1.2]
    exact e
  · show gp_I u (68 + i) k = mV u i k
    rw [hX _ _ (by omega), b.2 i k hi hk]
    refine (a.2 i k hi hk).trans ?_
    rw [show mV t i k = mV s i k from hR 83 _ (by decide) (by decide), h.2 i k hi hk]
theorem SHP_eq {s t u : gH} (h : EQV s) (hR : ∀ a k, 74 ≤ a → a < 117 → gp_I t a k = gp_I s a k) (hX : ∀ a k, a < 74 → gp_I u a k = gp_I t a k) {p0 p1 p2 r r2 : Int} (a : SHP 72 73 xV s t p0 p1 p2 r) (b : SHP 84 85 mV t u p0 p1 p2 r2) : r = r2 ∧ EQV u := by
  rcases a with ⟨a1, a2, a3⟩ | ⟨a1, a4, a2, a3⟩ | ⟨a1, a4, a2, a3⟩ | ⟨a1, a4, a2, a3⟩ <;> rcases b with ⟨b1, b2, b3⟩ | ⟨b1, b4, b2, b3⟩ | ⟨b1, b4, b2, b3⟩ | ⟨b1, b4, b2, b3⟩ <;> first | exact ⟨a2.trans b2.symm, EQV_KP h hR hX a3 b3⟩ | exact ⟨a2.trans b2.symm, EQV_KS h hR hX a3 b3⟩ | exact absurd b1 a1 | exact absurd a1 b1 | (exfalso; omega)
theorem PTP_eq {s t u : gH} (h : EQV s) (hR : ∀ a k, 74 ≤ a → a < 117 → gp_I t a k = gp_I s a k) (hX : ∀ a k, a < 74 → gp_I u a k = gp_I t a k) {p0 p1 p2 r r2 : Int} (a : PTP 72 73 xV s t p0 p1 p2 r) (b : PTP 84 85 mV t u p0 p1 p2 r2) : r = r2 ∧ EQV u := by
  obtain ⟨no, a1, a2⟩ := a
  obtain ⟨no2, b1, b2⟩ := b
  have e := LKP_eq h hR a1 b1
  subst e
  rcases a2 with ⟨c1, c2, c3⟩ | ⟨c1, c2, c3⟩ <;> rcases b2 with ⟨d1, d2, d3⟩ | ⟨d1, d2, d3⟩
  · exact ⟨c2.trans d2.symm, EQV_KP h hR hX c3 d3⟩
  · exact absurd d1 c1
  · exact absurd c1 d1
  · refine ⟨c2.trans d2.symm, EQV_KW h hR hX c3 ?_⟩
    have hp : 0 ≤ p0 ∧ p0 ≤ 3 := by unfold LKP at a1; omega
    have e := h.1 p0.toNat (by omega)
    have r1 := hR 84 p0.toNat (by decide) (by decide)
    rw [e.1, ← r1]; exact d3
theorem NBP_eq {s t u : gH} (h : EQV s) (hR : ∀ a k, 74 ≤ a → a < 117 → gp_I t a k = gp_I s a k) (hX : ∀ a k, a < 74 → gp_I u a k = gp_I t a k) (hl : ∀ i : Nat, gp_I s 73 i ≤ 20) {p0 p1 r r2 : Int} (a : NBP 72 73 xV s t p0 p1 r) (b : NBP 84 85 mV t u p0 p1 r2) : r = r2 ∧ EQV u := by
  obtain ⟨no, a1, a2, a3⟩ := a
  obtain ⟨no2, b1, b2, b3⟩ := b
  have e := LKP_eq h hR a1 b1
  subst e
  refine ⟨?_, EQV_KP h hR hX a3 b3⟩
  rcases a2 with ⟨c1, c2⟩ | ⟨c1, c2⟩ <;> rcases b2 with ⟨d1, d2⟩ | ⟨d1, d2⟩
  · exact c2.trans d2.symm
  · exact absurd d1 c1
  · exact absurd c1 d1
  · have hp : (0 ≤ p0 ∧ p0 ≤ 3) ∧ 0 ≤ p1 ∧ p1 < gp_I s 73 p0.toNat := by unfold LKP at a1; omega
    have := hl p0.toNat
    rw [c2, d2, h.2 p0.toNat p1.toNat (by omega) (by omega)]
    exact (hR 83 _ (by decide) (by decide)).symm
/-! numbers that are moved -/
def SFK (b n : Nat) (s : gH) (p0 p1 p2 p3 p4 r : Int) : Prop := (¬ ((0 ≤ p0 ∧ p0 ≤ 3) ∧ (0 ≤ p2 ∧ p2 ≤ 3)) ∧ r = 1) ∨ (((0 ≤ p0 ∧ p0 ≤ 3) ∧ (0 ≤ p2 ∧ p2 ≤ 3)) ∧ (gp_I s b p0.toNat = 0 ∨ gp_I s b p2.toNat = 0) ∧ r = 2) ∨ (((0 ≤ p0 ∧ p0 ≤ 3) ∧ (0 ≤ p2 ∧ p2 ≤ 3)) ∧ ¬ (gp_I s b p0.toNat = 0 ∨ gp_I s b p2.toNat = 0) ∧ ¬ gp_I s b p0.toNat = gp_I s b p2.toNat ∧ r = 5) ∨ (((0 ≤ p0 ∧ p0 ≤ 3) ∧ (0 ≤ p2 ∧ p2 ≤ 3)) ∧ ¬ (gp_I s b p0.toNat = 0 ∨ gp_I s b p2.toNat = 0) ∧ gp_I s b p0.toNat = gp_I s b p2.toNat ∧ ¬ (0 ≤ p4 ∧ 0 ≤ p1 ∧ 0 ≤ p3 ∧ p1 + p4 ≤ gp_I s n p0.toNat ∧ p3 + p4 ≤ gp_I s n p2.toNat) ∧ r = 1) ∨ (((0 ≤ p0 ∧ p0 ≤ 3) ∧ (0 ≤ p2 ∧ p2 ≤ 3)) ∧ ¬ (gp_I s b p0.toNat = 0 ∨ gp_I s b p2.toNat = 0) ∧ gp_I s b p0.toNat = gp_I s b p2.toNat ∧ (0 ≤ p4 ∧ 0 ≤ p1 ∧ 0 ≤ p3 ∧ p1 + p4 ≤ gp_I s n p0.toNat ∧ p3 + p4 ≤ gp_I s n p2.toNat) ∧ r = 0)
def KC (b n : Nat) (w : gH → Nat → Nat → Int) (s t : gH) (p0 p1 p2 p3 p4 : Int) : Prop := (∀ i : Nat, i < 4 → gp_I t b i = gp_I s b i ∧ gp_I t n i = gp_I s n i) ∧ ∀ i k : Nat, i < 4 → k < 20 → w t i k = if i = p2.toNat ∧ p3 ≤ (k : Int) ∧ (k : Int) < p3 + p4 then w s p0.toNat (Int.toNat (p1 + ((k : Int) - p3))) else w s i k
def SFP (b n : Nat) (w : gH → Nat → Nat → Int) (s t : gH) (p0 p1 p2 p3 p4 r : Int) : Prop := ∃ no : Int, SFK b n s p0 p1 p2 p3 p4 no ∧ ((no ≠ 0 ∧ r = -1000000000 - no ∧ KP b n w s t) ∨ (no = 0 ∧ r = p4 ∧ KC b n w s t p0 p1 p2 p3 p4))
theorem SFK_eq {s t : gH} (h : EQV s) (hR : ∀ a k, 74 ≤ a → a < 117 → gp_I t a k = gp_I s a k) {p0 p1 p2 p3 p4 r r2 : Int} (a : SFK 72 73 s p0 p1 p2 p3 p4 r) (b : SFK 84 85 t p0 p1 p2 p3 p4 r2) : r = r2 := by
  unfold SFK at a b
  by_cases c : (0 ≤ p0 ∧ p0 ≤ 3) ∧ (0 ≤ p2 ∧ p2 ≤ 3)
  · have e := h.1 p0.toNat (by omega)
    have e2 := h.1 p2.toNat (by omega)
    have r1 := hR 84 p0.toNat (by decide) (by decide)
    have r2 := hR 85 p0.toNat (by decide) (by decide)
    have r3 := hR 84 p2.toNat (by decide) (by decide)
    have r4 := hR 85 p2.toNat (by decide) (by decide)
    omega
  · omega
theorem EQV_KC {s t u : gH} (h : EQV s) (hR : ∀ a k, 74 ≤ a → a < 117 → gp_I t a k = gp_I s a k) (hX : ∀ a k, a < 74 → gp_I u a k = gp_I t a k) {p0 p1 p2 p3 p4 : Int} (hp : (0 ≤ p0 ∧ p0 ≤ 3) ∧ 0 ≤ p1 ∧ p1 + p4 ≤ 20) (a : KC 72 73 xV s t p0 p1 p2 p3 p4) (b : KC 84 85 mV t u p0 p1 p2 p3 p4) : EQV u := by
  refine ⟨fun i hi => ?_, fun i k hi hk => ?_⟩
  · have e := h.1 i hi
    have a1 := a.1 i hi
    have b1 := b.1 i hi
    rw [hX 72 i (by decide), hX 73 i (by decide), b1.1, b1.2, hR 84 i (by decide) (by decide), hR 85 i (by decide) (by decide), a1.1, a1.2]
    exact e
  · have hm : ∀ i k, mV t i k = mV s i k := fun i k => hR 83 _ (by decide) (by decide)
    show gp_I u (68 + i) k = mV u i k
    rw [hX _ _ (by omega), b.2 i k hi hk]
    refine (a.2 i k hi hk).trans ?_
    rw [hm, hm]
    by_cases c : i = p2.toNat ∧ p3 ≤ (k : Int) ∧ (k : Int) < p3 + p4
    · rw [if_pos c, if_pos c]; exact h.2 _ _ (by omega) (by omega)
    · rw [if_neg c, if_neg c]; exact h.2 i k hi hk
theorem SFP_eq {s t u : gH} (h : EQV s) (hR : ∀ a k, 74 ≤ a → a < 117 → gp_I t a k = gp_I s a k) (hX : ∀ a k, a < 74 → gp_I u a k = gp_I t a k) (hl : ∀ i : Nat, gp_I s 73 i ≤ 20) {p0 p1 p2 p3 p4 r r2 : Int} (a : SFP 72 73 xV s t p0 p1 p2 p3 p4 r) (b : SFP 84 85 mV t u p0 p1 p2 p3 p4 r2) : r = r2 ∧ EQV u := by
  obtain ⟨no, a1, a2⟩ := a
  obtain ⟨no2, b1, b2⟩ := b
  have e := SFK_eq h hR a1 b1
  subst e
  rcases a2 with ⟨c1, c2, c3⟩ | ⟨c1, c2, c3⟩ <;> rcases b2 with ⟨d1, d2, d3⟩ | ⟨d1, d2, d3⟩
  · exact ⟨c2.trans d2.symm, EQV_KP h hR hX c3 d3⟩
  · exact absurd d1 c1
  · exact absurd c1 d1
  · have := hl p0.toNat
    exact ⟨c2.trans d2.symm, EQV_KC h hR hX (by unfold SFK at a1; omega) c3 d3⟩
theorem KC_x {s t : gH} {p0 p1 p2 p3 p4 : Int} (e : t = (s.1, s.2.1, s.2.2.1, gp_ur s.2.2.2.1 (68 + Int.toNat p2) (gp_cp s.2.2.2.1 (68 + Int.toNat p0) (Int.toNat p1) (68 + Int.toNat p2) (Int.toNat p3) (Int.toNat p4)), s.2.2.2.2.1, s.2.2.2.2.2)) (h0 : (0 ≤ p0 ∧ p0 ≤ 3) ∧ (0 ≤ p2 ∧ p2 ≤ 3)) (h1 : 0 ≤ p4 ∧ 0 ≤ p1 ∧ 0 ≤ p3) : KC 72 73 xV s t p0 p1 p2 p3 p4 := by
  have r : ∀ a k, gp_I t a k = if a = 68 + Int.toNat p2 then gp_cp s.2.2.2.1 (68 + Int.toNat p0) (Int.toNat p1) (68 + Int.toNat p2) (Int.toNat p3) (Int.toNat p4) k else gp_I s a k := fun a k => by
    rw [e]; exact ur_i _ _ _ _ _
  refine ⟨fun i hi => ⟨?_, ?_⟩, fun i k hi hk => ?_⟩
  · rw [r, if_neg (by omega)]
  · rw [r, if_neg (by omega)]
  · show gp_I t (68 + i) k = if _ then gp_I s (68 + Int.toNat p0) _ else gp_I s (68 + i) k
    rw [r]
    by_cases c : i = p2.toNat
    · rw [if_pos (by omega)]
      show cond (Nat.ble (Int.toNat p3) k && Nat.blt k (Int.toNat p3 + Int.toNat p4)) (gp_I s (68 + Int.toNat p0) (Int.toNat p1 + (k - Int.toNat p3))) (gp_I s (68 + Int.toNat p2) k) = _
      by_cases d : p3 ≤ (k : Int) ∧ (k : Int) < p3 + p4
      · have z : (Nat.ble (Int.toNat p3) k && Nat.blt k (Int.toNat p3 + Int.toNat p4)) = true := by
          rw [Bool.and_eq_true]
          exact ⟨Nat.ble_eq.mpr (by omega), Nat.blt_eq.mpr (by omega)⟩
        rw [z, if_pos ⟨c, d⟩]
        show gp_I s _ _ = gp_I s _ _
        rw [show Int.toNat p1 + (k - Int.toNat p3) = Int.toNat (p1 + ((k : Int) - p3)) by omega]
      · have z : (Nat.ble (Int.toNat p3) k && Nat.blt k (Int.toNat p3 + Int.toNat p4)) = false := by
          cases q : (Nat.ble (Int.toNat p3) k && Nat.blt k (Int.toNat p3 + Int.toNat p4)) with
          | false => rfl
          | true =>
            rw [Bool.and_eq_true] at q
            have q1 := Nat.ble_eq.mp q.1
            have q2 := Nat.blt_eq.mp q.2
            exact absurd ⟨by omega, by omega⟩ d
        rw [z, if_neg (fun q => d q.2), c]
        rfl
    · rw [if_neg (by omega), if_neg (fun q => c q.1)]
def S1 (s u : gH) (p0 p1 v : Int) : Prop := (∀ k : Nat, (k : Int) < v → gp_I u 116 k = gp_I s 83 (Int.toNat (20 * p0 + p1 + (k : Int)))) ∧ ∀ a k, a = 83 ∨ a = 84 ∨ a = 85 → gp_I u a k = gp_I s a k
def S2 (s u : gH) (p0 p1 p2 p3 p4 v : Int) : Prop := (∀ k : Nat, (k : Int) < p4 → gp_I u 116 k = gp_I s 83 (Int.toNat (20 * p0 + p1 + (k : Int)))) ∧ (∀ a k, a = 84 ∨ a = 85 → gp_I u a k = gp_I s a k) ∧ ∀ i k : Nat, i < 4 → k < 20 → mV u i k = if i = p2.toNat ∧ p3 ≤ (k : Int) ∧ (k : Int) < p3 + v then gp_I s 83 (Int.toNat (20 * p0 + p1 + ((k : Int) - p3))) else mV s i k
theorem S1_0 (s : gH) (p0 p1 : Int) : S1 s s p0 p1 0 := ⟨fun k hk => by omega, fun _ _ _ => rfl⟩
theorem S1_s {s u t : gH} {p0 p1 v x : Int} (h : S1 s u p0 p1 v) (e : t = gp_wI u 116 (Int.toNat v) x) (hx : x = gp_I u 83 (Int.toNat (20 * p0 + p1 + v))) (hv : 0 ≤ v) : S1 s t p0 p1 (v + 1) := by
  subst e
  refine ⟨fun k hk => ?_, fun a k ha => ?_⟩
  · rw [gI_w]
    by_cases c : k = v.toNat
    · rw [if_pos ⟨rfl, c⟩, hx, h.2 83 _ (Or.inl rfl), c]
      congr 1; omega
    · rw [if_neg (fun q => c q.2)]; exact h.1 k (by omega)
  · rw [gI_w, if_neg (by omega)]; exact h.2 a k ha
theorem S2_0 {s u : gH} {p0 p1 p2 p3 p4 v : Int} (h : S1 s u p0 p1 v) (hv : p4 ≤ v) : S2 s u p0 p1 p2 p3 p4 0 := ⟨fun k hk => h.1 k (by omega), fun a k ha => h.2 a k (Or.inr ha), fun i k hi hk => by
  rw [if_neg (by omega)]; exact h.2 83 _ (Or.inl rfl)⟩
theorem S2_s {s u t : gH} {p0 p1 p2 p3 p4 v x : Int} (h : S2 s u p0 p1 p2 p3 p4 v) (e : t = gp_wI u 83 (Int.toNat (20 * p2 + p3 + v)) x) (hx : x = gp_I u 116 (Int.toNat v)) (hv : 0 ≤ v ∧ v < p4) (h0 : 0 ≤ p2 ∧ p2 ≤ 3) (h3 : 0 ≤ p3 ∧ p3 + p4 ≤ 20) : S2 s t p0 p1 p2 p3 p4 (v + 1) := by
  subst e
  refine ⟨fun k hk => ?_, fun a k ha => ?_, fun i k hi hk => ?_⟩
  · rw [gI_w, if_neg (by omega)]; exact h.1 k hk
  · rw [gI_w, if_neg (by omega)]; exact h.2.1 a k ha
  · have q := h.2.2 i k hi hk
    show gp_I _ 83 (20 * i + k) = _
    rw [gI_w]
    by_cases c : i = p2.toNat ∧ (k : Int) = p3 + v
    · rw [if_pos ⟨rfl, by omega⟩, if_pos (by omega), hx, h.1 _ (by omega)]
      congr 1; omega
    · rw [if_neg (by omega)]
      refine q.trans ?_
      by_cases d : i = p2.toNat ∧ p3 ≤ (k : Int) ∧ (k : Int) < p3 + v
      · rw [if_pos d, if_pos ⟨d.1, d.2.1, by omega⟩]
      · rw [if_neg d, if_neg (by omega)]
theorem KC_m {s t : gH} {p0 p1 p2 p3 p4 v : Int} (h : S2 s t p0 p1 p2 p3 p4 v) (hv : v = p4) (h0 : 0 ≤ p0 ∧ 0 ≤ p1) : KC 84 85 mV s t p0 p1 p2 p3 p4 := by
  subst hv
  refine ⟨fun i hi => ⟨h.2.1 84 i (Or.inl rfl), h.2.1 85 i (Or.inr rfl)⟩, fun i k hi hk => (h.2.2 i k hi hk).trans ?_⟩
  by_cases c : i = p2.toNat ∧ p3 ≤ (k : Int) ∧ (k : Int) < p3 + v
  · rw [if_pos c, if_pos c]
    show gp_I s 83 _ = gp_I s 83 _
    congr 1; omega
  · rw [if_neg c, if_neg c]
set_option maxRecDepth 100000 in
/-- Sheets.missing -/
theorem xm_sh_missing2  {L d : Nat} {K : Option gV → gH → Prop} {s : gH}  (p0 : Int) (hs : XI L 0 s) (h_p0 : 0 ≤ p0 ∧ p0 ≤ 3)  (k : ∀ (r : Int), (0 ≤ r ∧ r ≤ 1) → ((r = 1 ∧ gp_I s 72 p0.toNat = 0) ∨ (r = 0 ∧ ¬ gp_I s 72 p0.toNat = 0)) → K (some (gp_i r)) s) : gs_C L d 1794 2 [gp_r (some 66), gp_i p0] s K := by
  refine s_1794_e _ ?_
  refine ⟨by omega, ?_⟩
  refine ⟨fun h_1 => ?_, fun h_1 => ?_⟩
  · refine s_1794_14 _ _ ?_
    refine ⟨by omega, ?_⟩
    exact k _ (by omega) (by first | omega | assumption)
  · refine s_1794_14 _ _ ?_
    refine ⟨by omega, ?_⟩
    exact k _ (by omega) (by first | omega | assumption)
set_option maxRecDepth 100000 in
/-- Sheets.lay -/
theorem xm_sh_lay2  {L d : Nat} {K : Option gV → gH → Prop} {s : gH}  (p0 : Int) (p1 : Int) (p2 : Int) (hs : XI L 0 s) (h_p0 : 0 ≤ p0 ∧ p0 ≤ 3) (h_p2 : 0 ≤ p2 ∧ p2 ≤ 20)  (k : ∀ (t : gH), XI L 0 t → gX L false [68, 69, 70, 71, 72, 73] s t → (KS 72 73 xV s t p0 p1 p2) → K none t) : gs_C L d 1795 5 [gp_r (some 66), gp_i p0, gp_i p1, gp_i p2] s K := by
  refine s_1795_e _ _ _ ?_
  refine ⟨by omega, ?_⟩
  intro s_1 e_2
  have hs_3 : XI L 0 s_1 := by rw [e_2]; exact xw72 hs _ _
  have hf_4 : gX L false [68, 69, 70, 71, 72, 73] s s_1 := by rw [e_2]; exact gX.wI (gX.refl _ _ _ _) (Or.inl rfl)
  refine ⟨by omega, ?_⟩
  intro s_5 e_6
  have hs_7 : XI L 0 s_5 := by rw [e_6]; exact xw73 hs_3 _ _ (by omega)
  have hf_8 : gX L false [68, 69, 70, 71, 72, 73] s s_5 := by rw [e_6]; exact gX.wI hf_4 (Or.inl rfl)
  have lp_9 : ∀ (n_9 : Nat) (v4_9 : Int) (s_9 : gH), (XI L 0 s_9) → (gX L false [68, 69, 70, 71, 72, 73] s s_9) → (0 ≤ v4_9 ∧ v4_9 ≤ 20) → (KSv 72 73 xV s s_9 p0 p1 p2 v4_9) → (21 - v4_9).toNat < n_9 → gs_E L d 1795 17 [gp_r (some 66), gp_i p0, gp_i p1, gp_i p2, gp_i v4_9] [] s_9 K := by
    intro n_9
    induction n_9 with
    | zero => intro v4_9 s_9 hs_s_9 hf_s_9 hv4_9 iv0_9 hm_9; exact absurd hm_9 (Nat.not_lt_zero _)
    | succ n_9 ih_9 =>
      intro v4_9 s_9 hs_s_9 hf_s_9 hv4_9 iv0_9 hm_9
      refine s_1795_17 _ _ _ _ ?_
      refine ⟨fun h_10 => ?_, fun h_10 => ?_⟩
      · refine ⟨by omega, ?_⟩
        refine ⟨(68 + Int.toNat p0), shR (by omega), ?_⟩
        refine ⟨gin (rowsh ⟨by omega, by omega⟩) (by omega), ?_⟩
        intro s_11 e_12
        have hs_13 : XI L 0 s_11 := by rw [e_12]; exact XI.nt hs_s_9 _ _ _ (by rw [rowsh ⟨by omega, by omega⟩]) (NTrw ⟨by omega, by omega⟩) (xPrw ⟨by omega, by omega⟩)
        have hf_14 : gX L false [68, 69, 70, 71, 72, 73] s s_11 := by rw [e_12]; exact gX.wI hf_s_9 (gXrw ⟨by omega, by omega⟩ rfl)
        try rw [show gp_wr (v4_9 + 1) = v4_9 + 1 from gp_wr_id (by omega) (by omega)]
        exact ih_9 _ _ hs_13 hf_14 (by omega) (KSv_xs iv0_9 (by assumption) (by omega) (by omega)) (by omega)
      · exact k s_9 hs_s_9 hf_s_9 (KSv_20 iv0_9 (by omega))
  exact lp_9 _ _ _ hs_7 hf_8 (by omega) (KSv_x0 (by assumption) (by assumption)) (Nat.lt_succ_self _)
set_option maxRecDepth 100000 in
/-- Sheets.write -/
theorem xm_sh_write2  {L d : Nat} {K : Option gV → gH → Prop} {s : gH}  (p0 : Int) (p1 : Int) (p2 : Int) (hs : XI L 0 s) (h_p0 : 0 ≤ p0 ∧ p0 ≤ 3) (h_p1 : 0 ≤ p1 ∧ p1 ≤ 19)  (k : ∀ (t : gH), XI L 0 t → gX L false [68, 69, 70, 71] s t → (KW 72 73 xV s t p0 p1 (nar (gp_I s 72 p0.toNat) p2)) → K none t) : gs_C L d 1796 4 [gp_r (some 66), gp_i p0, gp_i p1, gp_i p2] s K := by
  refine s_1796_e _ _ _ ?_
  refine ⟨by omega, ?_⟩
  refine ⟨by omega, ?_⟩
  refine ⟨fun h_1 => ?_, fun h_1 => ?_⟩
  · have w_2 := gz_b (p2)
    refine s_1796_40 _ _ _ _ _ _ ?_
    refine ⟨(68 + Int.toNat p0), shR (by omega), ?_⟩
    refine ⟨gin (rowsh ⟨by omega, by omega⟩) (by omega), ?_⟩
    intro s_4 e_5
    have hs_6 : XI L 0 s_4 := by rw [e_5]; exact XI.nt hs _ _ _ (by rw [rowsh ⟨by omega, by omega⟩]) (NTrw ⟨by omega, by omega⟩) (xPrw ⟨by omega, by omega⟩)
    have hf_7 : gX L false [68, 69, 70, 71] s s_4 := by rw [e_5]; exact gX.wI (gX.refl _ _ _ _) (gXrw ⟨by omega, by omega⟩ rfl)
    exact k s_4 hs_6 hf_7 (KW_x (by assumption) (by unfold nar; first | (rw [if_pos (by omega)]) | (rw [if_neg (by omega), if_pos (by omega)]) | (rw [if_neg (by omega), if_neg (by omega)])) (by omega))
  · refine ⟨by omega, ?_⟩
    refine ⟨fun h_8 => ?_, fun h_8 => ?_⟩
    · have w_9 := gz_s (p2)
      refine s_1796_40 _ _ _ _ _ _ ?_
      refine ⟨(68 + Int.toNat p0), shR (by omega), ?_⟩
      refine ⟨gin (rowsh ⟨by omega, by omega⟩) (by omega), ?_⟩
      intro s_11 e_12
      have hs_13 : XI L 0 s_11 := by rw [e_12]; exact XI.nt hs _ _ _ (by rw [rowsh ⟨by omega, by omega⟩]) (NTrw ⟨by omega, by omega⟩) (xPrw ⟨by omega, by omega⟩)
      have hf_14 : gX L false [68, 69, 70, 71] s s_11 := by rw [e_12]; exact gX.wI (gX.refl _ _ _ _) (gXrw ⟨by omega, by omega⟩ rfl)
      exact k s_11 hs_13 hf_14 (KW_x (by assumption) (by unfold nar; first | (rw [if_pos (by omega)]) | (rw [if_neg (by omega), if_pos (by omega)]) | (rw [if_neg (by omega), if_neg (by omega)])) (by omega))
    · refine s_1796_40 _ _ _ _ _ _ ?_
      refine ⟨(68 + Int.toNat p0), shR (by omega), ?_⟩
      refine ⟨gin (rowsh ⟨by omega, by omega⟩) (by omega), ?_⟩
      intro s_16 e_17
      have hs_18 : XI L 0 s_16 := by rw [e_17]; exact XI.nt hs _ _ _ (by rw [rowsh ⟨by omega, by omega⟩]) (NTrw ⟨by omega, by omega⟩) (xPrw ⟨by omega, by omega⟩)
      have hf_19 : gX L false [68, 69, 70, 71] s s_16 := by rw [e_17]; exact gX.wI (gX.refl _ _ _ _) (gXrw ⟨by omega, by omega⟩ rfl)
      exact k s_16 hs_18 hf_19 (KW_x (by assumption) (by unfold nar; first | (rw [if_pos (by omega)]) | (rw [if_neg (by omega), if_pos (by omega)]) | (rw [if_neg (by omega), if_neg (by omega)])) (by omega))
set_option maxRecDepth 100000 in
/-- GatheredPoints.sheet -/
theorem xp_sheet2  {L d : Nat} {K : Option gV → gH → Prop} {s : gH}  (p0 : Int) (p1 : Int) (p2 : Int) (hs : XI L 0 s) (h_p0 : (-2147483648) ≤ p0 ∧ p0 ≤ 2147483647) (h_p1 : (-2147483648) ≤ p1 ∧ p1 ≤ 2147483647) (h_p2 : (-2147483648) ≤ p2 ∧ p2 ≤ 2147483647)  (k : ∀ (r : Int), ∀ (t : gH), XI L 0 t → gX L false [2, 68, 69, 70, 71, 72, 73] s t → (SHP 72 73 xV s t p0 p1 p2 r) → K (some (gp_i r)) t) : gs_C L (d + 1) 2842 4 [gp_r (some 1), gp_i p0, gp_i p1, gp_i p2] s K := by
  refine s_2842_e _ _ _ ?_
  refine xm_sh_beyond _ hs (fun x_1 p_2 p_3 => ⟨_, rfl, ?_⟩)
  refine ⟨fun h_4 => ?_, fun h_4 => ?_⟩
  · refine ⟨fun h_5 => ?_, fun h_5 => ?_⟩
    · refine s_2842_39 _ _ _ ?_
      refine ⟨fun h_6 => ?_, fun h_6 => ?_⟩
      · refine s_2842_53 _ _ _ ?_
        refine ⟨fun h_7 => ?_, fun h_7 => ?_⟩
        · refine s_2842_69 _ _ _ ?_
          refine ⟨fun h_8 => ?_, fun h_8 => ?_⟩
          · refine s_2842_84 _ _ _ _ _ _ ?_
            refine xm_sh_lay2 _ _ _ hs (by omega) (by omega) (fun s_9 hs_10 hf_11 p_12 => ⟨rfl, ?_⟩)
            have hf_13 : gX L false [2, 68, 69, 70, 71, 72, 73] s s_9 := gX.sub hf_11 rfl rfl
            exact k _ s_9 hs_10 hf_13 (Or.inr (Or.inr (Or.inr ⟨by unfold OKS; omega, by omega, rfl, by first | (rw [if_pos (by omega)]; exact p_12) | (rw [if_neg (by omega)]; exact p_12)⟩)))
          · exfalso; omega
        · exfalso; omega
      · exfalso; omega
    · refine ⟨fun h_14 => ?_, fun h_14 => ?_⟩
      · refine s_2842_39 _ _ _ ?_
        refine ⟨fun h_15 => ?_, fun h_15 => ?_⟩
        · exfalso; omega
        · refine ⟨fun h_16 => ?_, fun h_16 => ?_⟩
          · refine xp_refused _ hs (by omega) (fun x_17 s_18 hs_19 hf_20 p_21 => ⟨_, rfl, ?_⟩)
            have hf_22 : gX L false [2, 68, 69, 70, 71, 72, 73] s s_18 := gX.sub hf_20 rfl rfl
            exact k _ s_18 hs_19 hf_22 (Or.inr (Or.inl ⟨by unfold OKS; omega, by omega, by omega, KP_x hf_20 rfl rfl rfl rfl rfl rfl⟩))
          · refine s_2842_53 _ _ _ ?_
            refine ⟨fun h_23 => ?_, fun h_23 => ?_⟩
            · exfalso; omega
            · refine ⟨fun h_24 => ?_, fun h_24 => ?_⟩
              · refine xp_refused _ hs (by omega) (fun x_25 s_26 hs_27 hf_28 p_29 => ⟨_, rfl, ?_⟩)
                have hf_30 : gX L false [2, 68, 69, 70, 71, 72, 73] s s_26 := gX.sub hf_28 rfl rfl
                exact k _ s_26 hs_27 hf_30 (Or.inr (Or.inr (Or.inl ⟨by unfold OKS; omega, by omega, by omega, KP_x hf_28 rfl rfl rfl rfl rfl rfl⟩)))
              · refine s_2842_69 _ _ _ ?_
                refine ⟨fun h_31 => ?_, fun h_31 => ?_⟩
                · exfalso; omega
                · refine s_2842_84 _ _ _ _ _ _ ?_
                  refine xm_sh_lay2 _ _ _ hs (by omega) (by omega) (fun s_32 hs_33 hf_34 p_35 => ⟨rfl, ?_⟩)
                  have hf_36 : gX L false [2, 68, 69, 70, 71, 72, 73] s s_32 := gX.sub hf_34 rfl rfl
                  exact k _ s_32 hs_33 hf_36 (Or.inr (Or.inr (Or.inr ⟨by unfold OKS; omega, by omega, rfl, by first | (rw [if_pos (by omega)]; exact p_35) | (rw [if_neg (by omega)]; exact p_35)⟩)))
      · refine ⟨fun h_37 => ?_, fun h_37 => ?_⟩
        · refine s_2842_39 _ _ _ ?_
          refine ⟨fun h_38 => ?_, fun h_38 => ?_⟩
          · exfalso; omega
          · refine ⟨fun h_39 => ?_, fun h_39 => ?_⟩
            · refine xp_refused _ hs (by omega) (fun x_40 s_41 hs_42 hf_43 p_44 => ⟨_, rfl, ?_⟩)
              have hf_45 : gX L false [2, 68, 69, 70, 71, 72, 73] s s_41 := gX.sub hf_43 rfl rfl
              exact k _ s_41 hs_42 hf_45 (Or.inr (Or.inl ⟨by unfold OKS; omega, by omega, by omega, KP_x hf_43 rfl rfl rfl rfl rfl rfl⟩))
            · refine s_2842_53 _ _ _ ?_
              refine ⟨fun h_46 => ?_, fun h_46 => ?_⟩
              · exfalso; omega
              · refine ⟨fun h_47 => ?_, fun h_47 => ?_⟩
                · refine xp_refused _ hs (by omega) (fun x_48 s_49 hs_50 hf_51 p_52 => ⟨_, rfl, ?_⟩)
                  have hf_53 : gX L false [2, 68, 69, 70, 71, 72, 73] s s_49 := gX.sub hf_51 rfl rfl
                  exact k _ s_49 hs_50 hf_53 (Or.inr (Or.inr (Or.inl ⟨by unfold OKS; omega, by omega, by omega, KP_x hf_51 rfl rfl rfl rfl rfl rfl⟩)))
                · refine s_2842_69 _ _ _ ?_
                  refine ⟨fun h_54 => ?_, fun h_54 => ?_⟩
                  · exfalso; omega
                  · refine s_2842_84 _ _ _ _ _ _ ?_
                    refine xm_sh_lay2 _ _ _ hs (by omega) (by omega) (fun s_55 hs_56 hf_57 p_58 => ⟨rfl, ?_⟩)
                    have hf_59 : gX L false [2, 68, 69, 70, 71, 72, 73] s s_55 := gX.sub hf_57 rfl rfl
                    exact k _ s_55 hs_56 hf_59 (Or.inr (Or.inr (Or.inr ⟨by unfold OKS; omega, by omega, rfl, by first | (rw [if_pos (by omega)]; exact p_58) | (rw [if_neg (by omega)]; exact p_58)⟩)))
        · refine ⟨fun h_60 => ?_, fun h_60 => ?_⟩
          · refine s_2842_39 _ _ _ ?_
            refine ⟨fun h_61 => ?_, fun h_61 => ?_⟩
            · exfalso; omega
            · refine ⟨fun h_62 => ?_, fun h_62 => ?_⟩
              · refine xp_refused _ hs (by omega) (fun x_63 s_64 hs_65 hf_66 p_67 => ⟨_, rfl, ?_⟩)
                have hf_68 : gX L false [2, 68, 69, 70, 71, 72, 73] s s_64 := gX.sub hf_66 rfl rfl
                exact k _ s_64 hs_65 hf_68 (Or.inr (Or.inl ⟨by unfold OKS; omega, by omega, by omega, KP_x hf_66 rfl rfl rfl rfl rfl rfl⟩))
              · refine s_2842_53 _ _ _ ?_
                refine ⟨fun h_69 => ?_, fun h_69 => ?_⟩
                · exfalso; omega
                · refine ⟨fun h_70 => ?_, fun h_70 => ?_⟩
                  · refine xp_refused _ hs (by omega) (fun x_71 s_72 hs_73 hf_74 p_75 => ⟨_, rfl, ?_⟩)
                    have hf_76 : gX L false [2, 68, 69, 70, 71, 72, 73] s s_72 := gX.sub hf_74 rfl rfl
                    exact k _ s_72 hs_73 hf_76 (Or.inr (Or.inr (Or.inl ⟨by unfold OKS; omega, by omega, by omega, KP_x hf_74 rfl rfl rfl rfl rfl rfl⟩)))
                  · refine s_2842_69 _ _ _ ?_
                    refine ⟨fun h_77 => ?_, fun h_77 => ?_⟩
                    · exfalso; omega
                    · refine s_2842_84 _ _ _ _ _ _ ?_
                      refine xm_sh_lay2 _ _ _ hs (by omega) (by omega) (fun s_78 hs_79 hf_80 p_81 => ⟨rfl, ?_⟩)
                      have hf_82 : gX L false [2, 68, 69, 70, 71, 72, 73] s s_78 := gX.sub hf_80 rfl rfl
                      exact k _ s_78 hs_79 hf_82 (Or.inr (Or.inr (Or.inr ⟨by unfold OKS; omega, by omega, rfl, by first | (rw [if_pos (by omega)]; exact p_81) | (rw [if_neg (by omega)]; exact p_81)⟩)))
          · refine s_2842_33 _ _ _ ?_
            refine xp_refused _ hs (by omega) (fun x_83 s_84 hs_85 hf_86 p_87 => ⟨_, rfl, ?_⟩)
            have hf_88 : gX L false [2, 68, 69, 70, 71, 72, 73] s s_84 := gX.sub hf_86 rfl rfl
            exact k _ s_84 hs_85 hf_88 (Or.inl ⟨by unfold OKS; omega, by omega, KP_x hf_86 rfl rfl rfl rfl rfl rfl⟩)
  · refine s_2842_33 _ _ _ ?_
    refine xp_refused _ hs (by omega) (fun x_89 s_90 hs_91 hf_92 p_93 => ⟨_, rfl, ?_⟩)
    have hf_94 : gX L false [2, 68, 69, 70, 71, 72, 73] s s_90 := gX.sub hf_92 rfl rfl
    exact k _ s_90 hs_91 hf_94 (Or.inl ⟨by unfold OKS; omega, by omega, KP_x hf_92 rfl rfl rfl rfl rfl rfl⟩)
set_option maxRecDepth 100000 in
/-- GatheredPoints.put -/
theorem xp_put2  {L d : Nat} {K : Option gV → gH → Prop} {s : gH}  (p0 : Int) (p1 : Int) (p2 : Int) (hs : XI L 0 s) (h_p0 : (-2147483648) ≤ p0 ∧ p0 ≤ 2147483647) (h_p1 : (-2147483648) ≤ p1 ∧ p1 ≤ 2147483647) (h_p2 : (-2147483648) ≤ p2 ∧ p2 ≤ 2147483647)  (k : ∀ (r : Int), ∀ (t : gH), XI L 0 t → gX L false [2, 68, 69, 70, 71] s t → (PTP 72 73 xV s t p0 p1 p2 r) → K (some (gp_i r)) t) : gs_C L (d + 1) 2843 4 [gp_r (some 1), gp_i p0, gp_i p1, gp_i p2] s K := by
  refine s_2843_e _ _ _ ?_
  refine xm_sh_beyond _ hs (fun x_1 p_2 p_3 => ⟨_, rfl, ?_⟩)
  refine ⟨fun h_4 => ?_, fun h_4 => ?_⟩
  · refine xm_sh_missing2 _ hs (by omega) (fun x_5 p_6 p_7 => ⟨_, rfl, ?_⟩)
    refine ⟨fun h_8 => ?_, fun h_8 => ?_⟩
    · refine ⟨fun h_9 => ?_, fun h_9 => ?_⟩
      · refine s_2843_51 _ _ _ ?_
        refine xp_refused _ hs (by omega) (fun x_10 s_11 hs_12 hf_13 p_14 => ⟨_, rfl, ?_⟩)
        have hf_15 : gX L false [2, 68, 69, 70, 71] s s_11 := gX.sub hf_13 rfl rfl
        exact k _ s_11 hs_12 hf_15 (⟨1, by unfold LKP; omega, Or.inl ⟨by decide, by omega, KP_x hf_13 rfl rfl rfl rfl rfl rfl⟩⟩)
      · refine ⟨by omega, ?_⟩
        have f_16 := xr73 hs (Int.toNat p0)
        refine ⟨fun h_17 => ?_, fun h_17 => ?_⟩
        · refine xm_sh_write2 _ _ _ hs (by omega) (by omega) (fun s_18 hs_19 hf_20 p_21 => ⟨rfl, ?_⟩)
          have hf_22 : gX L false [2, 68, 69, 70, 71] s s_18 := gX.sub hf_20 rfl rfl
          exact k _ s_18 hs_19 hf_22 (⟨0, by unfold LKP; omega, Or.inr ⟨rfl, rfl, p_21⟩⟩)
        · refine s_2843_51 _ _ _ ?_
          refine xp_refused _ hs (by omega) (fun x_23 s_24 hs_25 hf_26 p_27 => ⟨_, rfl, ?_⟩)
          have hf_28 : gX L false [2, 68, 69, 70, 71] s s_24 := gX.sub hf_26 rfl rfl
          exact k _ s_24 hs_25 hf_28 (⟨1, by unfold LKP; omega, Or.inl ⟨by decide, by omega, KP_x hf_26 rfl rfl rfl rfl rfl rfl⟩⟩)
    · refine xp_refused _ hs (by omega) (fun x_29 s_30 hs_31 hf_32 p_33 => ⟨_, rfl, ?_⟩)
      have hf_34 : gX L false [2, 68, 69, 70, 71] s s_30 := gX.sub hf_32 rfl rfl
      exact k _ s_30 hs_31 hf_34 (⟨2, by unfold LKP; omega, Or.inl ⟨by decide, by omega, KP_x hf_32 rfl rfl rfl rfl rfl rfl⟩⟩)
  · refine xp_refused _ hs (by omega) (fun x_35 s_36 hs_37 hf_38 p_39 => ⟨_, rfl, ?_⟩)
    have hf_40 : gX L false [2, 68, 69, 70, 71] s s_36 := gX.sub hf_38 rfl rfl
    exact k _ s_36 hs_37 hf_40 (⟨1, by unfold LKP; omega, Or.inl ⟨by decide, by omega, KP_x hf_38 rfl rfl rfl rfl rfl rfl⟩⟩)
set_option maxRecDepth 100000 in
/-- GatheredPoints.number -/
theorem xp_number2  {L d : Nat} {K : Option gV → gH → Prop} {s : gH}  (p0 : Int) (p1 : Int) (hs : XI L 0 s) (h_p0 : (-2147483648) ≤ p0 ∧ p0 ≤ 2147483647) (h_p1 : (-2147483648) ≤ p1 ∧ p1 ≤ 2147483647)  (k : ∀ (r : Int), ∀ (t : gH), XI L 0 t → gX L false [2] s t → (NBP 72 73 xV s t p0 p1 r) → K (some (gp_i r)) t) : gs_C L (d + 1) 2844 3 [gp_r (some 1), gp_i p0, gp_i p1] s K := by
  refine s_2844_e _ _ ?_
  refine xm_sh_beyond _ hs (fun x_1 p_2 p_3 => ⟨_, rfl, ?_⟩)
  refine ⟨fun h_4 => ?_, fun h_4 => ?_⟩
  · refine xm_sh_missing2 _ hs (by omega) (fun x_5 p_6 p_7 => ⟨_, rfl, ?_⟩)
    refine ⟨fun h_8 => ?_, fun h_8 => ?_⟩
    · refine ⟨fun h_9 => ?_, fun h_9 => ?_⟩
      · refine s_2844_51 _ _ ?_
        refine xp_refused _ hs (by omega) (fun x_10 s_11 hs_12 hf_13 p_14 => ⟨_, rfl, ?_⟩)
        have hf_15 : gX L false [2] s s_11 := gX.sub hf_13 rfl rfl
        exact k _ s_11 hs_12 hf_15 (⟨1, by unfold LKP; omega, Or.inl ⟨by decide, by omega⟩, KP_x hf_13 rfl rfl rfl rfl rfl rfl⟩)
      · refine ⟨by omega, ?_⟩
        have f_16 := xr73 hs (Int.toNat p0)
        refine ⟨fun h_17 => ?_, fun h_17 => ?_⟩
        · refine ⟨by omega, ?_⟩
          refine ⟨(68 + Int.toNat p0), shR (by omega), ?_⟩
          refine ⟨gin (rowsh ⟨by omega, by omega⟩) (by omega), ?_⟩
          exact k _ s hs (gX.refl _ _ _ _) (⟨0, by unfold LKP; omega, Or.inr ⟨rfl, rfl⟩, KP_r _ _ _ _⟩)
        · refine s_2844_51 _ _ ?_
          refine xp_refused _ hs (by omega) (fun x_18 s_19 hs_20 hf_21 p_22 => ⟨_, rfl, ?_⟩)
          have hf_23 : gX L false [2] s s_19 := gX.sub hf_21 rfl rfl
          exact k _ s_19 hs_20 hf_23 (⟨1, by unfold LKP; omega, Or.inl ⟨by decide, by omega⟩, KP_x hf_21 rfl rfl rfl rfl rfl rfl⟩)
    · refine xp_refused _ hs (by omega) (fun x_24 s_25 hs_26 hf_27 p_28 => ⟨_, rfl, ?_⟩)
      have hf_29 : gX L false [2] s s_25 := gX.sub hf_27 rfl rfl
      exact k _ s_25 hs_26 hf_29 (⟨2, by unfold LKP; omega, Or.inl ⟨by decide, by omega⟩, KP_x hf_27 rfl rfl rfl rfl rfl rfl⟩)
  · refine xp_refused _ hs (by omega) (fun x_30 s_31 hs_32 hf_33 p_34 => ⟨_, rfl, ?_⟩)
    have hf_35 : gX L false [2] s s_31 := gX.sub hf_33 rfl rfl
    exact k _ s_31 hs_32 hf_35 (⟨1, by unfold LKP; omega, Or.inl ⟨by decide, by omega⟩, KP_x hf_33 rfl rfl rfl rfl rfl rfl⟩)
set_option maxRecDepth 100000 in
/-- GatheredPoints.image -/
theorem xp_image2  {L d : Nat} {K : Option gV → gH → Prop} {s : gH}   (hs : XI L 0 s)  (q0 : XS L s) (q1 : XK L s) (k : ∀ (r : Int), ∀ (t : gH), XI L 0 t → gX L false [5, 1037, 1038] s t → (XK L t) → (r = gp_wr (gp_I s 1 6 + 1) ∧ gp_I t 1 6 = r) → K (some (gp_i r)) t) : gs_C L d 2848 2 [gp_r (some 1)] s K := by
  refine s_2848_e ?_
  have lp_1 : ∀ (n_1 : Nat) (v1_1 : Int) (s_1 : gH), (XI L 0 s_1) → (gX L false [5, 1037, 1038] s s_1) → (XS L s_1) → (XK L s_1) → (0 ≤ v1_1 ∧ v1_1 ≤ 8) → (gp_I s_1 1 6 = gp_I s 1 6) → (9 - v1_1).toNat < n_1 → gs_E L d 2848 2 [gp_r (some 1), gp_i v1_1] [] s_1 K := by
    intro n_1
    induction n_1 with
    | zero => intro v1_1 s_1 hs_s_1 hf_s_1 XS_L_s_1 XK_L_s_1 hv1_1 tk0_1 hm_1; exact absurd hm_1 (Nat.not_lt_zero _)
    | succ n_1 ih_1 =>
      intro v1_1 s_1 hs_s_1 hf_s_1 XS_L_s_1 XK_L_s_1 hv1_1 tk0_1 hm_1
      refine s_2848_2 _ ?_
      refine ⟨fun h_2 => ?_, fun h_2 => ?_⟩
      · refine ⟨by omega, ?_⟩
        obtain ⟨a_3, n_4, e_5, kt_6, hn_7⟩ := XS.get (XS_L_s_1) (Int.toNat v1_1) (by omega)
        have hn_a_3 := kt_6.n hs_s_1
        have hxk9 := XK_L_s_1
        refine ⟨a_3, e_5, ?_⟩
        refine ⟨by omega, ?_⟩
        refine ⟨kt_6.2.1, ?_⟩
        intro s_8 e_9
        have hs_10 : XI L 0 s_8 := by rw [e_9]; exact XI.wR hs_s_1 5 (Int.toNat v1_1) _ (Or.inl (show ¬ (gp_ss 5).1 = 9 by decide))
        have hf_11 : gX L false [5, 1037, 1038] s s_8 := by rw [e_9]; exact gX.wR hf_s_1 (Or.inl rfl) (Or.inl (show ¬ (gp_ss 5).1 = 9 by decide))
        have kt_12 : kT L s_8 a_3 n_4 := by rw [e_9]; exact kt_6
        have q_13 : gp_I s_8 1 6 = gp_I s_1 1 6 := by rw [e_9] <;> first | rfl | exact I_ne (by omega)
        have pd_14 : XS L s_8 := by rw [e_9]; exact XS_fr XS_L_s_1 (gX.wR (gX.refl L true [5] _) (Or.inl rfl) (Or.inl (show ¬ (gp_ss 5).1 = 9 by decide))) rfl
        have hxk8 : XK L s_8 := XK_set hxk9 (by assumption) (by assumption) (by omega)
        try rw [show gp_wr (v1_1 + 1) = v1_1 + 1 from gp_wr_id (by omega) (by omega)]
        exact ih_1 _ _ hs_10 hf_11 pd_14 hxk8 (by omega) (by first | rfl | omega) (by omega)
      · intro s_15 e_16
        have hs_17 : XI L 0 s_15 := by rw [e_16]; exact xw1_5 hs_s_1 _
        have hf_18 : gX L false [5, 1037, 1038] s s_15 := by rw [e_16]; exact gX.wI hf_s_1 (Or.inl rfl)
        have q_19 : gp_I s_15 1 6 = gp_I s_1 1 6 := by rw [e_16] <;> first | rfl | exact I_ne (by omega)
        have pd_20 : XS L s_15 := by rw [e_16]; exact XS_fr XS_L_s_1 (gX.wI (gX.refl L true [1037] _) (Or.inl rfl)) rfl
        have pd_21 : XK L s_15 := by rw [e_16]; exact XK_fr XK_L_s_1 (gX.wI (gX.refl L true [1037] _) (Or.inl rfl)) rfl
        have w_22 := wr_rng ((gp_I s_15 1 6) + 1)
        intro s_23 e_24
        have hs_25 : XI L 0 s_23 := by rw [e_24]; exact xw1_6 hs_17 _
        have hf_26 : gX L false [5, 1037, 1038] s s_23 := by rw [e_24]; exact gX.wI hf_18 (Or.inl rfl)
        have q_27 : gp_I s_23 1 6 = gp_wr ((gp_I s_15 1 6) + 1) := by rw [e_24]; exact (gz_rw _ _ _ _ _).1 rfl
        have pd_28 : XS L s_23 := by rw [e_24]; exact XS_fr pd_20 (gX.wI (gX.refl L true [1038] _) (Or.inl rfl)) rfl
        have pd_29 : XK L s_23 := by rw [e_24]; exact XK_fr pd_21 (gX.wI (gX.refl L true [1038] _) (Or.inl rfl)) rfl
        exact k _ s_23 hs_25 hf_26 (pd_29) (⟨by rw [‹gp_I s_23 1 6 = gp_wr _›]; congr 1; omega, rfl⟩)
  exact lp_1 _ _ _ hs (gX.refl _ _ _ _) q0 q1 (by omega) (by first | rfl | omega) (Nat.lt_succ_self _)
set_option maxRecDepth 100000 in
/-- Sheets.stand -/
theorem xm_sh_stand2  {L d : Nat} {K : Option gV → gH → Prop} {s : gH}  (p0 : Int) (p1 : Int) (p2 : Int) (hs : XI L 0 s) (h_p0 : 0 ≤ p0 ∧ p0 ≤ 3)  (k : ∀ (r : Int), (0 ≤ r ∧ r ≤ 1) → ((r = 1 ∧ 0 ≤ p2 ∧ 0 ≤ p1 ∧ p1 + p2 ≤ gp_I s 73 p0.toNat) ∨ (r = 0 ∧ ¬ (0 ≤ p2 ∧ 0 ≤ p1 ∧ p1 + p2 ≤ gp_I s 73 p0.toNat))) → K (some (gp_i r)) s) : gs_C L d 1797 4 [gp_r (some 66), gp_i p0, gp_i p1, gp_i p2] s K := by
  refine s_1797_e _ _ _ ?_
  refine ⟨fun h_1 => ?_, fun h_1 => ?_⟩
  · refine s_1797_34 _ _ _ ?_
    refine s_1797_35 _ _ _ _ ?_
    refine ⟨by omega, ?_⟩
    exact k _ (by omega) (by first | omega | assumption)
  · refine ⟨fun h_2 => ?_, fun h_2 => ?_⟩
    · refine s_1797_34 _ _ _ ?_
      refine s_1797_35 _ _ _ _ ?_
      refine ⟨by omega, ?_⟩
      exact k _ (by omega) (by first | omega | assumption)
    · refine ⟨by omega, ?_⟩
      have f_3 := xr73 hs (Int.toNat p0)
      refine ⟨fun h_4 => ?_, fun h_4 => ?_⟩
      · refine s_1797_34 _ _ _ ?_
        refine s_1797_35 _ _ _ _ ?_
        refine ⟨by omega, ?_⟩
        exact k _ (by omega) (by first | omega | assumption)
      · refine ⟨by omega, ?_⟩
        have f_5 := xr73 hs (Int.toNat p0)
        try rw [show gp_wr ((gp_I s 73 (Int.toNat p0)) - p1) = (gp_I s 73 (Int.toNat p0)) - p1 from gp_wr_id (by omega) (by omega)]
        refine ⟨fun h_6 => ?_, fun h_6 => ?_⟩
        · refine s_1797_34 _ _ _ ?_
          refine s_1797_35 _ _ _ _ ?_
          refine ⟨by omega, ?_⟩
          exact k _ (by omega) (by first | omega | assumption)
        · refine s_1797_35 _ _ _ _ ?_
          refine ⟨by omega, ?_⟩
          exact k _ (by omega) (by first | omega | assumption)
set_option maxRecDepth 100000 in
/-- GatheredPoints.shift -/
theorem xp_shift2  {L d : Nat} {K : Option gV → gH → Prop} {s : gH}  (p0 : Int) (p1 : Int) (p2 : Int) (p3 : Int) (p4 : Int) (hs : XI L 0 s) (h_p0 : (-2147483648) ≤ p0 ∧ p0 ≤ 2147483647) (h_p1 : (-2147483648) ≤ p1 ∧ p1 ≤ 2147483647) (h_p2 : (-2147483648) ≤ p2 ∧ p2 ≤ 2147483647) (h_p3 : (-2147483648) ≤ p3 ∧ p3 ≤ 2147483647) (h_p4 : (-2147483648) ≤ p4 ∧ p4 ≤ 2147483647)  (k : ∀ (r : Int), ∀ (t : gH), XI L 0 t → gX L false [2, 68, 69, 70, 71] s t → (SFP 72 73 xV s t p0 p1 p2 p3 p4 r) → K (some (gp_i r)) t) : gs_C L (d + 1) 2845 6 [gp_r (some 1), gp_i p0, gp_i p1, gp_i p2, gp_i p3, gp_i p4] s K := by
  refine s_2845_e _ _ _ _ _ ?_
  refine xm_sh_beyond _ hs (fun x_1 p_2 p_3 => ⟨_, rfl, ?_⟩)
  refine ⟨fun h_4 => ?_, fun h_4 => ?_⟩
  · refine xm_sh_beyond _ hs (fun x_5 p_6 p_7 => ⟨_, rfl, ?_⟩)
    refine ⟨fun h_8 => ?_, fun h_8 => ?_⟩
    · refine xm_sh_missing2 _ hs (by omega) (fun x_9 p_10 p_11 => ⟨_, rfl, ?_⟩)
      refine ⟨fun h_12 => ?_, fun h_12 => ?_⟩
      · refine xm_sh_missing2 _ hs (by omega) (fun x_13 p_14 p_15 => ⟨_, rfl, ?_⟩)
        refine ⟨fun h_16 => ?_, fun h_16 => ?_⟩
        · refine ⟨by omega, ?_⟩
          refine ⟨by omega, ?_⟩
          refine ⟨fun h_17 => ?_, fun h_17 => ?_⟩
          · refine xm_sh_stand2 _ _ _ hs (by omega) (fun x_18 p_19 p_20 => ⟨_, rfl, ?_⟩)
            refine ⟨fun h_21 => ?_, fun h_21 => ?_⟩
            · refine s_2845_112 _ _ _ _ _ ?_
              refine xp_refused _ hs (by omega) (fun x_22 s_23 hs_24 hf_25 p_26 => ⟨_, rfl, ?_⟩)
              have hf_27 : gX L false [2, 68, 69, 70, 71] s s_23 := gX.sub hf_25 rfl rfl
              exact k _ s_23 hs_24 hf_27 (⟨1, Or.inr (Or.inr (Or.inr (Or.inl ⟨by omega, by omega, by omega, by omega, rfl⟩))), Or.inl ⟨by decide, by omega, KP_x hf_25 rfl rfl rfl rfl rfl rfl⟩⟩)
            · refine xm_sh_stand2 _ _ _ hs (by omega) (fun x_28 p_29 p_30 => ⟨_, rfl, ?_⟩)
              refine ⟨fun h_31 => ?_, fun h_31 => ?_⟩
              · refine s_2845_112 _ _ _ _ _ ?_
                refine xp_refused _ hs (by omega) (fun x_32 s_33 hs_34 hf_35 p_36 => ⟨_, rfl, ?_⟩)
                have hf_37 : gX L false [2, 68, 69, 70, 71] s s_33 := gX.sub hf_35 rfl rfl
                exact k _ s_33 hs_34 hf_37 (⟨1, Or.inr (Or.inr (Or.inr (Or.inl ⟨by omega, by omega, by omega, by omega, rfl⟩))), Or.inl ⟨by decide, by omega, KP_x hf_35 rfl rfl rfl rfl rfl rfl⟩⟩)
              · have hl0 := xr73 hs (Int.toNat p0)
                have hl2 := xr73 hs (Int.toNat p2)
                refine ⟨by omega, ?_⟩
                refine ⟨by omega, ?_⟩
                refine ⟨(68 + Int.toNat p0), shR (by omega), ?_⟩
                refine ⟨(68 + Int.toNat p2), shR (by omega), ?_⟩
                refine ⟨⟨by rw [rowsh ⟨by omega, by omega⟩], by rw [rowsh ⟨by omega, by omega⟩], by omega, by omega, by omega, by rw [rowsh ⟨by omega, by omega⟩]; show _ ≤ ((20 : Nat) : Int); omega, by rw [rowsh ⟨by omega, by omega⟩]; show _ ≤ ((20 : Nat) : Int); omega⟩, fun s_38 e_39 => ?_⟩
                have hs_40 : XI L 0 s_38 := by rw [e_39]; exact XI.ur hs _ _ (by rw [rowsh ⟨by omega, by omega⟩]) (NTrw ⟨by omega, by omega⟩) (fun _ _ => xPrw ⟨by omega, by omega⟩)
                have hf_41 : gX L false [2, 68, 69, 70, 71] s s_38 := by rw [e_39]; exact gX.ur (gX.refl _ _ _ _) (fun _ => gXrw ⟨by omega, by omega⟩ rfl)
                exact k _ s_38 hs_40 hf_41 (⟨0, Or.inr (Or.inr (Or.inr (Or.inr ⟨by omega, by omega, by omega, by omega, rfl⟩))), Or.inr ⟨rfl, rfl, KC_x (by assumption) (by omega) (by omega)⟩⟩)
          · refine xp_refused _ hs (by omega) (fun x_42 s_43 hs_44 hf_45 p_46 => ⟨_, rfl, ?_⟩)
            have hf_47 : gX L false [2, 68, 69, 70, 71] s s_43 := gX.sub hf_45 rfl rfl
            exact k _ s_43 hs_44 hf_47 (⟨5, Or.inr (Or.inr (Or.inl ⟨by omega, by omega, by omega, rfl⟩)), Or.inl ⟨by decide, by omega, KP_x hf_45 rfl rfl rfl rfl rfl rfl⟩⟩)
        · refine s_2845_50 _ _ _ _ _ ?_
          refine xp_refused _ hs (by omega) (fun x_48 s_49 hs_50 hf_51 p_52 => ⟨_, rfl, ?_⟩)
          have hf_53 : gX L false [2, 68, 69, 70, 71] s s_49 := gX.sub hf_51 rfl rfl
          exact k _ s_49 hs_50 hf_53 (⟨2, Or.inr (Or.inl ⟨by omega, by omega, rfl⟩), Or.inl ⟨by decide, by omega, KP_x hf_51 rfl rfl rfl rfl rfl rfl⟩⟩)
      · refine s_2845_50 _ _ _ _ _ ?_
        refine xp_refused _ hs (by omega) (fun x_54 s_55 hs_56 hf_57 p_58 => ⟨_, rfl, ?_⟩)
        have hf_59 : gX L false [2, 68, 69, 70, 71] s s_55 := gX.sub hf_57 rfl rfl
        exact k _ s_55 hs_56 hf_59 (⟨2, Or.inr (Or.inl ⟨by omega, by omega, rfl⟩), Or.inl ⟨by decide, by omega, KP_x hf_57 rfl rfl rfl rfl rfl rfl⟩⟩)
    · refine s_2845_22 _ _ _ _ _ ?_
      refine xp_refused _ hs (by omega) (fun x_60 s_61 hs_62 hf_63 p_64 => ⟨_, rfl, ?_⟩)
      have hf_65 : gX L false [2, 68, 69, 70, 71] s s_61 := gX.sub hf_63 rfl rfl
      exact k _ s_61 hs_62 hf_65 (⟨1, Or.inl ⟨by omega, rfl⟩, Or.inl ⟨by decide, by omega, KP_x hf_63 rfl rfl rfl rfl rfl rfl⟩⟩)
  · refine s_2845_22 _ _ _ _ _ ?_
    refine xp_refused _ hs (by omega) (fun x_66 s_67 hs_68 hf_69 p_70 => ⟨_, rfl, ?_⟩)
    have hf_71 : gX L false [2, 68, 69, 70, 71] s s_67 := gX.sub hf_69 rfl rfl
    exact k _ s_67 hs_68 hf_71 (⟨1, Or.inl ⟨by omega, rfl⟩, Or.inl ⟨by decide, by omega, KP_x hf_69 rfl rfl rfl rfl rfl rfl⟩⟩)
set_option maxRecDepth 100000 in
/-- GatheredPointsModel.lacksNumber -/
theorem vm_lacks2  {L d : Nat} {K : Option gV → gH → Prop} {s : gH}  (p0 : Int) (p1 : Int) (hs : MI s) (h_p0 : (-2147483648) ≤ p0 ∧ p0 ≤ 2147483647) (h_p1 : (-2147483648) ≤ p1 ∧ p1 ≤ 2147483647)  (k : ∀ (r : Int), (0 ≤ r ∧ r ≤ 2) → (LKP 84 85 s p0 p1 r) → (r = 0 → 0 ≤ p0 ∧ p0 ≤ 3 ∧ 0 ≤ p1 ∧ p1 < gp_I s 85 p0.toNat ∧ p1 ≤ 19) → K (some (gp_i r)) s) : gs_C L (d + 1) 3179 3 [gp_r (some 74), gp_i p0, gp_i p1] s K := by
  refine s_3179_e _ _ ?_
  refine vm_isSheet _ (fun x_1 p_2 p_3 p_4 => ⟨_, rfl, ?_⟩)
  refine ⟨fun h_5 => ?_, fun h_5 => ?_⟩
  · refine s_3179_47 _ _ _ ?_
    exact k _ (by omega) (by unfold LKP; omega) (by first | omega | assumption)
  · refine ⟨by omega, ?_⟩
    refine ⟨fun h_6 => ?_, fun h_6 => ?_⟩
    · refine s_3179_47 _ _ _ ?_
      exact k _ (by omega) (by unfold LKP; omega) (by first | omega | assumption)
    · have w_7 := gz_oi (p1) (by omega)
      refine ⟨by omega, ?_⟩
      have f_8 := mr85 hs (Int.toNat p0)
      try rw [show gp_wr ((gp_I s 85 (Int.toNat p0)) - 1) = (gp_I s 85 (Int.toNat p0)) - 1 from gp_wr_id (by omega) (by omega)]
      have w_9 := gz_oi ((gp_I s 85 (Int.toNat p0)) - 1) (by omega)
      refine vm_isIn _ _ _ (fun x_10 p_11 p_12 => ⟨_, rfl, ?_⟩)
      have w_13 : BitVec.toInt (0#64) = 0 := by decide
      refine ⟨fun h_14 => ?_, fun h_14 => ?_⟩
      · refine s_3179_47 _ _ _ ?_
        exact k _ (by omega) (by unfold LKP; omega) (by first | omega | assumption)
      · refine s_3179_47 _ _ _ ?_
        exact k _ (by omega) (by unfold LKP; omega) (by first | omega | assumption)
set_option maxRecDepth 100000 in
/-- GatheredPointsModel.sheet -/
theorem wp_sheet2  {L d : Nat} {K : Option gV → gH → Prop} {s : gH}  (p0 : Int) (p1 : Int) (p2 : Int) (hs : MI s) (h_p0 : (-2147483648) ≤ p0 ∧ p0 ≤ 2147483647) (h_p1 : (-2147483648) ≤ p1 ∧ p1 ≤ 2147483647) (h_p2 : (-2147483648) ≤ p2 ∧ p2 ≤ 2147483647)  (k : ∀ (r : Int), ∀ (t : gH), MI t → gF [75, 83, 84, 85] [] s t → (SHP 84 85 mV s t p0 p1 p2 r) → K (some (gp_i r)) t) : gs_C L (d + 1) 3178 5 [gp_r (some 74), gp_i p0, gp_i p1, gp_i p2] s K := by
  refine s_3178_e _ _ _ ?_
  refine vm_isSheet _ (fun x_1 p_2 p_3 p_4 => ⟨_, rfl, ?_⟩)
  refine ⟨fun h_5 => ?_, fun h_5 => ?_⟩
  · refine s_3178_29 _ _ _ _ ?_
    refine vm_finds _ hs (by omega) (fun x_6 s_7 hs_8 hf_9 p_10 p_11 => ⟨_, rfl, ?_⟩)
    have hf_12 : gF [75, 83, 84, 85] [] s s_7 := gF.sub hf_9 rfl rfl
    exact k _ s_7 hs_8 hf_12 (Or.inl ⟨by unfold OKS; omega, by omega, KP_m hf_9 rfl rfl rfl⟩)
  · refine ⟨fun h_13 => ?_, fun h_13 => ?_⟩
    · refine s_3178_35 _ _ _ _ ?_
      refine ⟨fun h_14 => ?_, fun h_14 => ?_⟩
      · refine s_3178_49 _ _ _ _ ?_
        refine ⟨fun h_15 => ?_, fun h_15 => ?_⟩
        · refine s_3178_65 _ _ _ _ ?_
          refine ⟨by omega, ?_⟩
          intro s_16 e_17
          have hs_18 : MI s_16 := by rw [e_17]; exact mw84 hs _ _
          have hf_19 : gF [75, 83, 84, 85] [] s s_16 := by rw [e_17]; exact gF.wI (gF.refl _ _ _) (Or.inl rfl)
          refine ⟨fun h_20 => ?_, fun h_20 => ?_⟩
          · refine s_3178_86 _ _ _ _ _ _ ?_
            obtain ⟨ln, hln⟩ : ∃ x : Int, x = 0 := ⟨_, rfl⟩
            refine ⟨by omega, ?_⟩
            intro s_21 e_22
            have hs_23 : MI s_21 := by rw [e_22]; exact mw85 hs_18 _ _ (by omega)
            have hf_24 : gF [75, 83, 84, 85] [] s s_21 := by rw [e_22]; exact gF.wI hf_19 (Or.inl rfl)
            have lp_25 : ∀ (n_25 : Nat) (v4_25 : Int) (s_25 : gH), (MI s_25) → (gF [75, 83, 84, 85] [] s s_25) → (0 ≤ v4_25 ∧ v4_25 ≤ 20) → (KSv 84 85 mV s s_25 p0 p1 ln v4_25) → (21 - v4_25).toNat < n_25 → gs_E L (d + 1) 3178 90 [gp_r (some 74), gp_i p0, gp_i p1, gp_i p2, gp_i v4_25] [] s_25 K := by
              intro n_25
              induction n_25 with
              | zero => intro v4_25 s_25 hs_s_25 hf_s_25 hv4_25 iv0_25 hm_25; exact absurd hm_25 (Nat.not_lt_zero _)
              | succ n_25 ih_25 =>
                intro v4_25 s_25 hs_s_25 hf_s_25 hv4_25 iv0_25 hm_25
                refine s_3178_90 _ _ _ _ ?_
                refine ⟨fun h_26 => ?_, fun h_26 => ?_⟩
                · try rw [show gp_wr (20 * p0) = 20 * p0 from gp_wr_id (by omega) (by omega)]
                  try rw [show gp_wr ((20 * p0) + v4_25) = (20 * p0) + v4_25 from gp_wr_id (by omega) (by omega)]
                  refine ⟨by omega, ?_⟩
                  intro s_27 e_28
                  have hs_29 : MI s_27 := by rw [e_28]; exact mw83 hs_s_25 _ _
                  have hf_30 : gF [75, 83, 84, 85] [] s s_27 := by rw [e_28]; exact gF.wI hf_s_25 (Or.inl rfl)
                  try rw [show gp_wr (v4_25 + 1) = v4_25 + 1 from gp_wr_id (by omega) (by omega)]
                  exact ih_25 _ _ hs_29 hf_30 (by omega) (KSv_ms iv0_25 (by assumption) (by omega) (by omega)) (by omega)
                · exact k _ s_25 hs_s_25 hf_s_25 (Or.inr (Or.inr (Or.inr ⟨by unfold OKS; omega, by omega, rfl, by rw [show (if p1 = 0 then (0 : Int) else p2) = ln by first | (rw [if_pos (by omega)]; omega) | (rw [if_neg (by omega)]; omega)]; exact KSv_20 iv0_25 (by omega)⟩)))
            exact lp_25 _ _ _ hs_23 hf_24 (by omega) (KSv_m0 (by assumption) (by rw [hln]; assumption)) (Nat.lt_succ_self _)
          · exfalso; omega
        · exfalso; omega
      · exfalso; omega
    · refine ⟨fun h_31 => ?_, fun h_31 => ?_⟩
      · refine s_3178_35 _ _ _ _ ?_
        refine ⟨fun h_32 => ?_, fun h_32 => ?_⟩
        · exfalso; omega
        · refine ⟨fun h_33 => ?_, fun h_33 => ?_⟩
          · refine vm_finds _ hs (by omega) (fun x_34 s_35 hs_36 hf_37 p_38 p_39 => ⟨_, rfl, ?_⟩)
            have hf_40 : gF [75, 83, 84, 85] [] s s_35 := gF.sub hf_37 rfl rfl
            exact k _ s_35 hs_36 hf_40 (Or.inr (Or.inl ⟨by unfold OKS; omega, by omega, by omega, KP_m hf_37 rfl rfl rfl⟩))
          · refine s_3178_49 _ _ _ _ ?_
            refine ⟨fun h_41 => ?_, fun h_41 => ?_⟩
            · exfalso; omega
            · refine ⟨fun h_42 => ?_, fun h_42 => ?_⟩
              · refine vm_finds _ hs (by omega) (fun x_43 s_44 hs_45 hf_46 p_47 p_48 => ⟨_, rfl, ?_⟩)
                have hf_49 : gF [75, 83, 84, 85] [] s s_44 := gF.sub hf_46 rfl rfl
                exact k _ s_44 hs_45 hf_49 (Or.inr (Or.inr (Or.inl ⟨by unfold OKS; omega, by omega, by omega, KP_m hf_46 rfl rfl rfl⟩)))
              · refine s_3178_65 _ _ _ _ ?_
                refine ⟨by omega, ?_⟩
                intro s_50 e_51
                have hs_52 : MI s_50 := by rw [e_51]; exact mw84 hs _ _
                have hf_53 : gF [75, 83, 84, 85] [] s s_50 := by rw [e_51]; exact gF.wI (gF.refl _ _ _) (Or.inl rfl)
                refine ⟨fun h_54 => ?_, fun h_54 => ?_⟩
                · exfalso; omega
                · refine s_3178_86 _ _ _ _ _ _ ?_
                  obtain ⟨ln, hln⟩ : ∃ x : Int, x = p2 := ⟨_, rfl⟩
                  refine ⟨by omega, ?_⟩
                  intro s_55 e_56
                  have hs_57 : MI s_55 := by rw [e_56]; exact mw85 hs_52 _ _ (by omega)
                  have hf_58 : gF [75, 83, 84, 85] [] s s_55 := by rw [e_56]; exact gF.wI hf_53 (Or.inl rfl)
                  have lp_59 : ∀ (n_59 : Nat) (v4_59 : Int) (s_59 : gH), (MI s_59) → (gF [75, 83, 84, 85] [] s s_59) → (0 ≤ v4_59 ∧ v4_59 ≤ 20) → (KSv 84 85 mV s s_59 p0 p1 ln v4_59) → (21 - v4_59).toNat < n_59 → gs_E L (d + 1) 3178 90 [gp_r (some 74), gp_i p0, gp_i p1, gp_i p2, gp_i v4_59] [] s_59 K := by
                    intro n_59
                    induction n_59 with
                    | zero => intro v4_59 s_59 hs_s_59 hf_s_59 hv4_59 iv0_59 hm_59; exact absurd hm_59 (Nat.not_lt_zero _)
                    | succ n_59 ih_59 =>
                      intro v4_59 s_59 hs_s_59 hf_s_59 hv4_59 iv0_59 hm_59
                      refine s_3178_90 _ _ _ _ ?_
                      refine ⟨fun h_60 => ?_, fun h_60 => ?_⟩
                      · try rw [show gp_wr (20 * p0) = 20 * p0 from gp_wr_id (by omega) (by omega)]
                        try rw [show gp_wr ((20 * p0) + v4_59) = (20 * p0) + v4_59 from gp_wr_id (by omega) (by omega)]
                        refine ⟨by omega, ?_⟩
                        intro s_61 e_62
                        have hs_63 : MI s_61 := by rw [e_62]; exact mw83 hs_s_59 _ _
                        have hf_64 : gF [75, 83, 84, 85] [] s s_61 := by rw [e_62]; exact gF.wI hf_s_59 (Or.inl rfl)
                        try rw [show gp_wr (v4_59 + 1) = v4_59 + 1 from gp_wr_id (by omega) (by omega)]
                        exact ih_59 _ _ hs_63 hf_64 (by omega) (KSv_ms iv0_59 (by assumption) (by omega) (by omega)) (by omega)
                      · exact k _ s_59 hs_s_59 hf_s_59 (Or.inr (Or.inr (Or.inr ⟨by unfold OKS; omega, by omega, rfl, by rw [show (if p1 = 0 then (0 : Int) else p2) = ln by first | (rw [if_pos (by omega)]; omega) | (rw [if_neg (by omega)]; omega)]; exact KSv_20 iv0_59 (by omega)⟩)))
                  exact lp_59 _ _ _ hs_57 hf_58 (by omega) (KSv_m0 (by assumption) (by rw [hln]; assumption)) (Nat.lt_succ_self _)
      · refine ⟨fun h_65 => ?_, fun h_65 => ?_⟩
        · refine s_3178_35 _ _ _ _ ?_
          refine ⟨fun h_66 => ?_, fun h_66 => ?_⟩
          · exfalso; omega
          · refine ⟨fun h_67 => ?_, fun h_67 => ?_⟩
            · refine vm_finds _ hs (by omega) (fun x_68 s_69 hs_70 hf_71 p_72 p_73 => ⟨_, rfl, ?_⟩)
              have hf_74 : gF [75, 83, 84, 85] [] s s_69 := gF.sub hf_71 rfl rfl
              exact k _ s_69 hs_70 hf_74 (Or.inr (Or.inl ⟨by unfold OKS; omega, by omega, by omega, KP_m hf_71 rfl rfl rfl⟩))
            · refine s_3178_49 _ _ _ _ ?_
              refine ⟨fun h_75 => ?_, fun h_75 => ?_⟩
              · exfalso; omega
              · refine ⟨fun h_76 => ?_, fun h_76 => ?_⟩
                · refine vm_finds _ hs (by omega) (fun x_77 s_78 hs_79 hf_80 p_81 p_82 => ⟨_, rfl, ?_⟩)
                  have hf_83 : gF [75, 83, 84, 85] [] s s_78 := gF.sub hf_80 rfl rfl
                  exact k _ s_78 hs_79 hf_83 (Or.inr (Or.inr (Or.inl ⟨by unfold OKS; omega, by omega, by omega, KP_m hf_80 rfl rfl rfl⟩)))
                · refine s_3178_65 _ _ _ _ ?_
                  refine ⟨by omega, ?_⟩
                  intro s_84 e_85
                  have hs_86 : MI s_84 := by rw [e_85]; exact mw84 hs _ _
                  have hf_87 : gF [75, 83, 84, 85] [] s s_84 := by rw [e_85]; exact gF.wI (gF.refl _ _ _) (Or.inl rfl)
                  refine ⟨fun h_88 => ?_, fun h_88 => ?_⟩
                  · exfalso; omega
                  · refine s_3178_86 _ _ _ _ _ _ ?_
                    obtain ⟨ln, hln⟩ : ∃ x : Int, x = p2 := ⟨_, rfl⟩
                    refine ⟨by omega, ?_⟩
                    intro s_89 e_90
                    have hs_91 : MI s_89 := by rw [e_90]; exact mw85 hs_86 _ _ (by omega)
                    have hf_92 : gF [75, 83, 84, 85] [] s s_89 := by rw [e_90]; exact gF.wI hf_87 (Or.inl rfl)
                    have lp_93 : ∀ (n_93 : Nat) (v4_93 : Int) (s_93 : gH), (MI s_93) → (gF [75, 83, 84, 85] [] s s_93) → (0 ≤ v4_93 ∧ v4_93 ≤ 20) → (KSv 84 85 mV s s_93 p0 p1 ln v4_93) → (21 - v4_93).toNat < n_93 → gs_E L (d + 1) 3178 90 [gp_r (some 74), gp_i p0, gp_i p1, gp_i p2, gp_i v4_93] [] s_93 K := by
                      intro n_93
                      induction n_93 with
                      | zero => intro v4_93 s_93 hs_s_93 hf_s_93 hv4_93 iv0_93 hm_93; exact absurd hm_93 (Nat.not_lt_zero _)
                      | succ n_93 ih_93 =>
                        intro v4_93 s_93 hs_s_93 hf_s_93 hv4_93 iv0_93 hm_93
                        refine s_3178_90 _ _ _ _ ?_
                        refine ⟨fun h_94 => ?_, fun h_94 => ?_⟩
                        · try rw [show gp_wr (20 * p0) = 20 * p0 from gp_wr_id (by omega) (by omega)]
                          try rw [show gp_wr ((20 * p0) + v4_93) = (20 * p0) + v4_93 from gp_wr_id (by omega) (by omega)]
                          refine ⟨by omega, ?_⟩
                          intro s_95 e_96
                          have hs_97 : MI s_95 := by rw [e_96]; exact mw83 hs_s_93 _ _
                          have hf_98 : gF [75, 83, 84, 85] [] s s_95 := by rw [e_96]; exact gF.wI hf_s_93 (Or.inl rfl)
                          try rw [show gp_wr (v4_93 + 1) = v4_93 + 1 from gp_wr_id (by omega) (by omega)]
                          exact ih_93 _ _ hs_97 hf_98 (by omega) (KSv_ms iv0_93 (by assumption) (by omega) (by omega)) (by omega)
                        · exact k _ s_93 hs_s_93 hf_s_93 (Or.inr (Or.inr (Or.inr ⟨by unfold OKS; omega, by omega, rfl, by rw [show (if p1 = 0 then (0 : Int) else p2) = ln by first | (rw [if_pos (by omega)]; omega) | (rw [if_neg (by omega)]; omega)]; exact KSv_20 iv0_93 (by omega)⟩)))
                    exact lp_93 _ _ _ hs_91 hf_92 (by omega) (KSv_m0 (by assumption) (by rw [hln]; assumption)) (Nat.lt_succ_self _)
        · refine ⟨fun h_99 => ?_, fun h_99 => ?_⟩
          · refine s_3178_35 _ _ _ _ ?_
            refine ⟨fun h_100 => ?_, fun h_100 => ?_⟩
            · exfalso; omega
            · refine ⟨fun h_101 => ?_, fun h_101 => ?_⟩
              · refine vm_finds _ hs (by omega) (fun x_102 s_103 hs_104 hf_105 p_106 p_107 => ⟨_, rfl, ?_⟩)
                have hf_108 : gF [75, 83, 84, 85] [] s s_103 := gF.sub hf_105 rfl rfl
                exact k _ s_103 hs_104 hf_108 (Or.inr (Or.inl ⟨by unfold OKS; omega, by omega, by omega, KP_m hf_105 rfl rfl rfl⟩))
              · refine s_3178_49 _ _ _ _ ?_
                refine ⟨fun h_109 => ?_, fun h_109 => ?_⟩
                · exfalso; omega
                · refine ⟨fun h_110 => ?_, fun h_110 => ?_⟩
                  · refine vm_finds _ hs (by omega) (fun x_111 s_112 hs_113 hf_114 p_115 p_116 => ⟨_, rfl, ?_⟩)
                    have hf_117 : gF [75, 83, 84, 85] [] s s_112 := gF.sub hf_114 rfl rfl
                    exact k _ s_112 hs_113 hf_117 (Or.inr (Or.inr (Or.inl ⟨by unfold OKS; omega, by omega, by omega, KP_m hf_114 rfl rfl rfl⟩)))
                  · refine s_3178_65 _ _ _ _ ?_
                    refine ⟨by omega, ?_⟩
                    intro s_118 e_119
                    have hs_120 : MI s_118 := by rw [e_119]; exact mw84 hs _ _
                    have hf_121 : gF [75, 83, 84, 85] [] s s_118 := by rw [e_119]; exact gF.wI (gF.refl _ _ _) (Or.inl rfl)
                    refine ⟨fun h_122 => ?_, fun h_122 => ?_⟩
                    · exfalso; omega
                    · refine s_3178_86 _ _ _ _ _ _ ?_
                      obtain ⟨ln, hln⟩ : ∃ x : Int, x = p2 := ⟨_, rfl⟩
                      refine ⟨by omega, ?_⟩
                      intro s_123 e_124
                      have hs_125 : MI s_123 := by rw [e_124]; exact mw85 hs_120 _ _ (by omega)
                      have hf_126 : gF [75, 83, 84, 85] [] s s_123 := by rw [e_124]; exact gF.wI hf_121 (Or.inl rfl)
                      have lp_127 : ∀ (n_127 : Nat) (v4_127 : Int) (s_127 : gH), (MI s_127) → (gF [75, 83, 84, 85] [] s s_127) → (0 ≤ v4_127 ∧ v4_127 ≤ 20) → (KSv 84 85 mV s s_127 p0 p1 ln v4_127) → (21 - v4_127).toNat < n_127 → gs_E L (d + 1) 3178 90 [gp_r (some 74), gp_i p0, gp_i p1, gp_i p2, gp_i v4_127] [] s_127 K := by
                        intro n_127
                        induction n_127 with
                        | zero => intro v4_127 s_127 hs_s_127 hf_s_127 hv4_127 iv0_127 hm_127; exact absurd hm_127 (Nat.not_lt_zero _)
                        | succ n_127 ih_127 =>
                          intro v4_127 s_127 hs_s_127 hf_s_127 hv4_127 iv0_127 hm_127
                          refine s_3178_90 _ _ _ _ ?_
                          refine ⟨fun h_128 => ?_, fun h_128 => ?_⟩
                          · try rw [show gp_wr (20 * p0) = 20 * p0 from gp_wr_id (by omega) (by omega)]
                            try rw [show gp_wr ((20 * p0) + v4_127) = (20 * p0) + v4_127 from gp_wr_id (by omega) (by omega)]
                            refine ⟨by omega, ?_⟩
                            intro s_129 e_130
                            have hs_131 : MI s_129 := by rw [e_130]; exact mw83 hs_s_127 _ _
                            have hf_132 : gF [75, 83, 84, 85] [] s s_129 := by rw [e_130]; exact gF.wI hf_s_127 (Or.inl rfl)
                            try rw [show gp_wr (v4_127 + 1) = v4_127 + 1 from gp_wr_id (by omega) (by omega)]
                            exact ih_127 _ _ hs_131 hf_132 (by omega) (KSv_ms iv0_127 (by assumption) (by omega) (by omega)) (by omega)
                          · exact k _ s_127 hs_s_127 hf_s_127 (Or.inr (Or.inr (Or.inr ⟨by unfold OKS; omega, by omega, rfl, by rw [show (if p1 = 0 then (0 : Int) else p2) = ln by first | (rw [if_pos (by omega)]; omega) | (rw [if_neg (by omega)]; omega)]; exact KSv_20 iv0_127 (by omega)⟩)))
                      exact lp_127 _ _ _ hs_125 hf_126 (by omega) (KSv_m0 (by assumption) (by rw [hln]; assumption)) (Nat.lt_succ_self _)
          · refine s_3178_29 _ _ _ _ ?_
            refine vm_finds _ hs (by omega) (fun x_133 s_134 hs_135 hf_136 p_137 p_138 => ⟨_, rfl, ?_⟩)
            have hf_139 : gF [75, 83, 84, 85] [] s s_134 := gF.sub hf_136 rfl rfl
            exact k _ s_134 hs_135 hf_139 (Or.inl ⟨by unfold OKS; omega, by omega, KP_m hf_136 rfl rfl rfl⟩)
set_option maxRecDepth 100000 in
/-- GatheredPointsModel.put -/
theorem wp_put2  {L d : Nat} {K : Option gV → gH → Prop} {s : gH}  (p0 : Int) (p1 : Int) (p2 : Int) (hs : MI s) (h_p0 : (-2147483648) ≤ p0 ∧ p0 ≤ 2147483647) (h_p1 : (-2147483648) ≤ p1 ∧ p1 ≤ 2147483647) (h_p2 : (-2147483648) ≤ p2 ∧ p2 ≤ 2147483647)  (k : ∀ (r : Int), ∀ (t : gH), MI t → gF [75, 83] [] s t → (PTP 84 85 mV s t p0 p1 p2 r) → K (some (gp_i r)) t) : gs_C L (d + 2) 3180 6 [gp_r (some 74), gp_i p0, gp_i p1, gp_i p2] s K := by
  refine s_3180_e _ _ _ ?_
  refine vm_lacks2 _ _ hs (by omega) (by omega) (fun x_1 p_2 p_3 p_4 => ⟨_, rfl, ?_⟩)
  have hlk := p_3
  refine ⟨fun h_5 => ?_, fun h_5 => ?_⟩
  · refine ⟨by omega, ?_⟩
    try rw [show gp_wr (20 * p0) = 20 * p0 from gp_wr_id (by omega) (by omega)]
    try rw [show gp_wr ((20 * p0) + p1) = (20 * p0) + p1 from gp_wr_id (by omega) (by omega)]
    refine ⟨fun h_6 => ?_, fun h_6 => ?_⟩
    · have w_7 := gz_b (p2)
      refine s_3180_63 _ _ _ _ _ _ _ ?_
      refine ⟨by omega, ?_⟩
      intro s_8 e_9
      have hs_10 : MI s_8 := by rw [e_9]; exact mw83 hs _ _
      have hf_11 : gF [75, 83] [] s s_8 := by rw [e_9]; exact gF.wI (gF.refl _ _ _) (Or.inl rfl)
      exact k _ s_8 hs_10 hf_11 (⟨_, hlk, Or.inr ⟨by omega, rfl, KW_m (by assumption) (by unfold nar; first | (rw [if_pos (by omega)]) | (rw [if_neg (by omega), if_pos (by omega)]) | (rw [if_neg (by omega), if_neg (by omega)])) (by omega) (by omega)⟩⟩)
    · refine ⟨fun h_12 => ?_, fun h_12 => ?_⟩
      · have w_13 := gz_s (p2)
        refine s_3180_63 _ _ _ _ _ _ _ ?_
        refine ⟨by omega, ?_⟩
        intro s_14 e_15
        have hs_16 : MI s_14 := by rw [e_15]; exact mw83 hs _ _
        have hf_17 : gF [75, 83] [] s s_14 := by rw [e_15]; exact gF.wI (gF.refl _ _ _) (Or.inl rfl)
        exact k _ s_14 hs_16 hf_17 (⟨_, hlk, Or.inr ⟨by omega, rfl, KW_m (by assumption) (by unfold nar; first | (rw [if_pos (by omega)]) | (rw [if_neg (by omega), if_pos (by omega)]) | (rw [if_neg (by omega), if_neg (by omega)])) (by omega) (by omega)⟩⟩)
      · refine s_3180_63 _ _ _ _ _ _ _ ?_
        refine ⟨by omega, ?_⟩
        intro s_18 e_19
        have hs_20 : MI s_18 := by rw [e_19]; exact mw83 hs _ _
        have hf_21 : gF [75, 83] [] s s_18 := by rw [e_19]; exact gF.wI (gF.refl _ _ _) (Or.inl rfl)
        exact k _ s_18 hs_20 hf_21 (⟨_, hlk, Or.inr ⟨by omega, rfl, KW_m (by assumption) (by unfold nar; first | (rw [if_pos (by omega)]) | (rw [if_neg (by omega), if_pos (by omega)]) | (rw [if_neg (by omega), if_neg (by omega)])) (by omega) (by omega)⟩⟩)
  · refine vm_finds _ hs (by omega) (fun x_22 s_23 hs_24 hf_25 p_26 p_27 => ⟨_, rfl, ?_⟩)
    have hf_28 : gF [75, 83] [] s s_23 := gF.sub hf_25 rfl rfl
    exact k _ s_23 hs_24 hf_28 (⟨_, hlk, Or.inl ⟨by omega, by omega, KP_m hf_25 rfl rfl rfl⟩⟩)
set_option maxRecDepth 100000 in
/-- GatheredPointsModel.number -/
theorem wp_number2  {L d : Nat} {K : Option gV → gH → Prop} {s : gH}  (p0 : Int) (p1 : Int) (hs : MI s) (h_p0 : (-2147483648) ≤ p0 ∧ p0 ≤ 2147483647) (h_p1 : (-2147483648) ≤ p1 ∧ p1 ≤ 2147483647)  (k : ∀ (r : Int), ∀ (t : gH), MI t → gF [75] [] s t → (NBP 84 85 mV s t p0 p1 r) → K (some (gp_i r)) t) : gs_C L (d + 2) 3181 4 [gp_r (some 74), gp_i p0, gp_i p1] s K := by
  refine s_3181_e _ _ ?_
  refine vm_lacks2 _ _ hs (by omega) (by omega) (fun x_1 p_2 p_3 p_4 => ⟨_, rfl, ?_⟩)
  have hlk := p_3
  refine ⟨fun h_5 => ?_, fun h_5 => ?_⟩
  · try rw [show gp_wr (20 * p0) = 20 * p0 from gp_wr_id (by omega) (by omega)]
    try rw [show gp_wr ((20 * p0) + p1) = (20 * p0) + p1 from gp_wr_id (by omega) (by omega)]
    refine ⟨by omega, ?_⟩
    refine s_3181_30 _ _ _ _ ?_
    exact k _ s hs (gF.refl _ _ _) (by first | exact ⟨_, hlk, Or.inr ⟨by omega, by unfold mV; congr 1; omega⟩, KP_r _ _ _ _⟩ | exact ⟨_, hlk, Or.inl ⟨by omega, by omega⟩, KP_m {cf} rfl rfl rfl⟩)
  · refine vm_finds _ hs (by omega) (fun x_6 s_7 hs_8 hf_9 p_10 p_11 => ⟨_, rfl, ?_⟩)
    have hf_12 : gF [75] [] s s_7 := gF.sub hf_9 rfl rfl
    refine s_3181_30 _ _ _ _ ?_
    exact k _ s_7 hs_8 hf_12 (by first | exact ⟨_, hlk, Or.inr ⟨by omega, by unfold mV; congr 1; omega⟩, KP_r _ _ _ _⟩ | exact ⟨_, hlk, Or.inl ⟨by omega, by omega⟩, KP_m hf_9 rfl rfl rfl⟩)
set_option maxRecDepth 100000 in
/-- GatheredPointsModel.shift -/
theorem wp_shift2  {L d : Nat} {K : Option gV → gH → Prop} {s : gH}  (p0 : Int) (p1 : Int) (p2 : Int) (p3 : Int) (p4 : Int) (hs : MI s) (h_p0 : (-2147483648) ≤ p0 ∧ p0 ≤ 2147483647) (h_p1 : (-2147483648) ≤ p1 ∧ p1 ≤ 2147483647) (h_p2 : (-2147483648) ≤ p2 ∧ p2 ≤ 2147483647) (h_p3 : (-2147483648) ≤ p3 ∧ p3 ≤ 2147483647) (h_p4 : (-2147483648) ≤ p4 ∧ p4 ≤ 2147483647)  (k : ∀ (r : Int), ∀ (t : gH), MI t → gF [75, 83, 116] [] s t → (SFP 84 85 mV s t p0 p1 p2 p3 p4 r) → K (some (gp_i r)) t) : gs_C L (d + 1) 3182 7 [gp_r (some 74), gp_i p0, gp_i p1, gp_i p2, gp_i p3, gp_i p4] s K := by
  refine s_3182_e _ _ _ _ _ ?_
  refine vm_isSheet _ (fun x_1 p_2 p_3 p_4 => ⟨_, rfl, ?_⟩)
  refine ⟨fun h_5 => ?_, fun h_5 => ?_⟩
  · refine s_3182_14 _ _ _ _ _ _ ?_
    refine vm_finds _ hs (by omega) (fun x_6 s_7 hs_8 hf_9 p_10 p_11 => ⟨_, rfl, ?_⟩)
    have hf_12 : gF [75, 83, 116] [] s s_7 := gF.sub hf_9 rfl rfl
    exact k _ s_7 hs_8 hf_12 (⟨1, Or.inl ⟨by omega, rfl⟩, Or.inl ⟨by decide, by omega, KP_m hf_9 rfl rfl rfl⟩⟩)
  · refine vm_isSheet _ (fun x_13 p_14 p_15 p_16 => ⟨_, rfl, ?_⟩)
    refine ⟨fun h_17 => ?_, fun h_17 => ?_⟩
    · refine s_3182_14 _ _ _ _ _ _ ?_
      refine vm_finds _ hs (by omega) (fun x_18 s_19 hs_20 hf_21 p_22 p_23 => ⟨_, rfl, ?_⟩)
      have hf_24 : gF [75, 83, 116] [] s s_19 := gF.sub hf_21 rfl rfl
      exact k _ s_19 hs_20 hf_24 (⟨1, Or.inl ⟨by omega, rfl⟩, Or.inl ⟨by decide, by omega, KP_m hf_21 rfl rfl rfl⟩⟩)
    · refine ⟨by omega, ?_⟩
      refine ⟨fun h_25 => ?_, fun h_25 => ?_⟩
      · refine s_3182_38 _ _ _ _ _ _ ?_
        refine vm_finds _ hs (by omega) (fun x_26 s_27 hs_28 hf_29 p_30 p_31 => ⟨_, rfl, ?_⟩)
        have hf_32 : gF [75, 83, 116] [] s s_27 := gF.sub hf_29 rfl rfl
        exact k _ s_27 hs_28 hf_32 (⟨2, Or.inr (Or.inl ⟨by omega, by omega, rfl⟩), Or.inl ⟨by decide, by omega, KP_m hf_29 rfl rfl rfl⟩⟩)
      · refine ⟨by omega, ?_⟩
        refine ⟨fun h_33 => ?_, fun h_33 => ?_⟩
        · refine s_3182_38 _ _ _ _ _ _ ?_
          refine vm_finds _ hs (by omega) (fun x_34 s_35 hs_36 hf_37 p_38 p_39 => ⟨_, rfl, ?_⟩)
          have hf_40 : gF [75, 83, 116] [] s s_35 := gF.sub hf_37 rfl rfl
          exact k _ s_35 hs_36 hf_40 (⟨2, Or.inr (Or.inl ⟨by omega, by omega, rfl⟩), Or.inl ⟨by decide, by omega, KP_m hf_37 rfl rfl rfl⟩⟩)
        · refine ⟨by omega, ?_⟩
          refine ⟨by omega, ?_⟩
          refine ⟨fun h_41 => ?_, fun h_41 => ?_⟩
          · refine ⟨fun h_42 => ?_, fun h_42 => ?_⟩
            · refine s_3182_106 _ _ _ _ _ _ ?_
              refine vm_finds _ hs (by omega) (fun x_43 s_44 hs_45 hf_46 p_47 p_48 => ⟨_, rfl, ?_⟩)
              have hf_49 : gF [75, 83, 116] [] s s_44 := gF.sub hf_46 rfl rfl
              exact k _ s_44 hs_45 hf_49 (⟨1, Or.inr (Or.inr (Or.inr (Or.inl ⟨by omega, by omega, by omega, by omega, rfl⟩))), Or.inl ⟨by decide, by omega, KP_m hf_46 rfl rfl rfl⟩⟩)
            · refine ⟨fun h_50 => ?_, fun h_50 => ?_⟩
              · refine s_3182_106 _ _ _ _ _ _ ?_
                refine vm_finds _ hs (by omega) (fun x_51 s_52 hs_53 hf_54 p_55 p_56 => ⟨_, rfl, ?_⟩)
                have hf_57 : gF [75, 83, 116] [] s s_52 := gF.sub hf_54 rfl rfl
                exact k _ s_52 hs_53 hf_57 (⟨1, Or.inr (Or.inr (Or.inr (Or.inl ⟨by omega, by omega, by omega, by omega, rfl⟩))), Or.inl ⟨by decide, by omega, KP_m hf_54 rfl rfl rfl⟩⟩)
              · refine ⟨fun h_58 => ?_, fun h_58 => ?_⟩
                · refine s_3182_106 _ _ _ _ _ _ ?_
                  refine vm_finds _ hs (by omega) (fun x_59 s_60 hs_61 hf_62 p_63 p_64 => ⟨_, rfl, ?_⟩)
                  have hf_65 : gF [75, 83, 116] [] s s_60 := gF.sub hf_62 rfl rfl
                  exact k _ s_60 hs_61 hf_65 (⟨1, Or.inr (Or.inr (Or.inr (Or.inl ⟨by omega, by omega, by omega, by omega, rfl⟩))), Or.inl ⟨by decide, by omega, KP_m hf_62 rfl rfl rfl⟩⟩)
                · refine ⟨by omega, ?_⟩
                  have f_66 := mr85 hs (Int.toNat p0)
                  try rw [show gp_wr ((gp_I s 85 (Int.toNat p0)) - p4) = (gp_I s 85 (Int.toNat p0)) - p4 from gp_wr_id (by omega) (by omega)]
                  refine ⟨fun h_67 => ?_, fun h_67 => ?_⟩
                  · refine s_3182_106 _ _ _ _ _ _ ?_
                    refine vm_finds _ hs (by omega) (fun x_68 s_69 hs_70 hf_71 p_72 p_73 => ⟨_, rfl, ?_⟩)
                    have hf_74 : gF [75, 83, 116] [] s s_69 := gF.sub hf_71 rfl rfl
                    exact k _ s_69 hs_70 hf_74 (⟨1, Or.inr (Or.inr (Or.inr (Or.inl ⟨by omega, by omega, by omega, by omega, rfl⟩))), Or.inl ⟨by decide, by omega, KP_m hf_71 rfl rfl rfl⟩⟩)
                  · refine ⟨by omega, ?_⟩
                    have f_75 := mr85 hs (Int.toNat p2)
                    try rw [show gp_wr ((gp_I s 85 (Int.toNat p2)) - p4) = (gp_I s 85 (Int.toNat p2)) - p4 from gp_wr_id (by omega) (by omega)]
                    refine ⟨fun h_76 => ?_, fun h_76 => ?_⟩
                    · refine s_3182_106 _ _ _ _ _ _ ?_
                      refine vm_finds _ hs (by omega) (fun x_77 s_78 hs_79 hf_80 p_81 p_82 => ⟨_, rfl, ?_⟩)
                      have hf_83 : gF [75, 83, 116] [] s s_78 := gF.sub hf_80 rfl rfl
                      exact k _ s_78 hs_79 hf_83 (⟨1, Or.inr (Or.inr (Or.inr (Or.inl ⟨by omega, by omega, by omega, by omega, rfl⟩))), Or.inl ⟨by decide, by omega, KP_m hf_80 rfl rfl rfl⟩⟩)
                    · have lp_84 : ∀ (n_84 : Nat) (v6_84 : Int) (s_84 : gH), (MI s_84) → (gF [75, 83, 116] [] s s_84) → (0 ≤ v6_84 ∧ v6_84 ≤ 20) → (S1 s s_84 p0 p1 v6_84) → (v6_84 ≤ p4) → (21 - v6_84).toNat < n_84 → gs_E L (d + 1) 3182 115 [gp_r (some 74), gp_i p0, gp_i p1, gp_i p2, gp_i p3, gp_i p4, gp_i v6_84] [] s_84 K := by
                        intro n_84
                        induction n_84 with
                        | zero => intro v6_84 s_84 hs_s_84 hf_s_84 hv6_84 iv0_84 iv1_84 hm_84; exact absurd hm_84 (Nat.not_lt_zero _)
                        | succ n_84 ih_84 =>
                          intro v6_84 s_84 hs_s_84 hf_s_84 hv6_84 iv0_84 iv1_84 hm_84
                          refine s_3182_115 _ _ _ _ _ _ ?_
                          refine ⟨fun h_85 => ?_, fun h_85 => ?_⟩
                          · try rw [show gp_wr (20 * p0) = 20 * p0 from gp_wr_id (by omega) (by omega)]
                            try rw [show gp_wr ((20 * p0) + p1) = (20 * p0) + p1 from gp_wr_id (by omega) (by omega)]
                            try rw [show gp_wr (((20 * p0) + p1) + v6_84) = ((20 * p0) + p1) + v6_84 from gp_wr_id (by omega) (by omega)]
                            refine ⟨by omega, ?_⟩
                            refine ⟨by omega, ?_⟩
                            intro s_86 e_87
                            have hs_88 : MI s_86 := by rw [e_87]; exact mw116 hs_s_84 _ _
                            have hf_89 : gF [75, 83, 116] [] s s_86 := by rw [e_87]; exact gF.wI hf_s_84 (Or.inl rfl)
                            try rw [show gp_wr (v6_84 + 1) = v6_84 + 1 from gp_wr_id (by omega) (by omega)]
                            exact ih_84 _ _ hs_88 hf_89 (by omega) (S1_s iv0_84 (by assumption) (by first | rfl | (congr 1; omega)) (by omega)) (by first | omega | assumption) (by omega)
                          · have lp_90 : ∀ (n_90 : Nat) (v6_90 : Int) (s_90 : gH), (MI s_90) → (gF [75, 83, 116] [] s s_90) → (0 ≤ v6_90 ∧ v6_90 ≤ 20) → (S2 s s_90 p0 p1 p2 p3 p4 v6_90) → (v6_90 ≤ p4) → (21 - v6_90).toNat < n_90 → gs_E L (d + 1) 3182 152 [gp_r (some 74), gp_i p0, gp_i p1, gp_i p2, gp_i p3, gp_i p4, gp_i v6_90] [] s_90 K := by
                              intro n_90
                              induction n_90 with
                              | zero => intro v6_90 s_90 hs_s_90 hf_s_90 hv6_90 iv0_90 iv1_90 hm_90; exact absurd hm_90 (Nat.not_lt_zero _)
                              | succ n_90 ih_90 =>
                                intro v6_90 s_90 hs_s_90 hf_s_90 hv6_90 iv0_90 iv1_90 hm_90
                                refine s_3182_152 _ _ _ _ _ _ ?_
                                refine ⟨fun h_91 => ?_, fun h_91 => ?_⟩
                                · try rw [show gp_wr (20 * p2) = 20 * p2 from gp_wr_id (by omega) (by omega)]
                                  try rw [show gp_wr ((20 * p2) + p3) = (20 * p2) + p3 from gp_wr_id (by omega) (by omega)]
                                  try rw [show gp_wr (((20 * p2) + p3) + v6_90) = ((20 * p2) + p3) + v6_90 from gp_wr_id (by omega) (by omega)]
                                  refine ⟨by omega, ?_⟩
                                  refine ⟨by omega, ?_⟩
                                  intro s_92 e_93
                                  have hs_94 : MI s_92 := by rw [e_93]; exact mw83 hs_s_90 _ _
                                  have hf_95 : gF [75, 83, 116] [] s s_92 := by rw [e_93]; exact gF.wI hf_s_90 (Or.inl rfl)
                                  try rw [show gp_wr (v6_90 + 1) = v6_90 + 1 from gp_wr_id (by omega) (by omega)]
                                  exact ih_90 _ _ hs_94 hf_95 (by omega) (S2_s iv0_90 (by assumption) (by first | rfl | (congr 1; omega)) (by omega) (by omega) (by omega)) (by first | omega | assumption) (by omega)
                                · exact k _ s_90 hs_s_90 hf_s_90 (⟨0, Or.inr (Or.inr (Or.inr (Or.inr ⟨by omega, by omega, by omega, by omega, rfl⟩))), Or.inr ⟨rfl, rfl, KC_m iv0_90 (by omega) (by omega)⟩⟩)
                            exact lp_90 _ _ _ hs_s_84 hf_s_84 (by omega) (S2_0 iv0_84 (by omega)) (by first | omega | assumption) (Nat.lt_succ_self _)
                      exact lp_84 _ _ _ hs (gF.refl _ _ _) (by omega) (S1_0 _ _ _) (by first | omega | assumption) (Nat.lt_succ_self _)
          · refine vm_finds _ hs (by omega) (fun x_96 s_97 hs_98 hf_99 p_100 p_101 => ⟨_, rfl, ?_⟩)
            have hf_102 : gF [75, 83, 116] [] s s_97 := gF.sub hf_99 rfl rfl
            exact k _ s_97 hs_98 hf_102 (⟨5, Or.inr (Or.inr (Or.inl ⟨by omega, by omega, by omega, rfl⟩)), Or.inl ⟨by decide, by omega, KP_m hf_99 rfl rfl rfl⟩⟩)
set_option maxRecDepth 100000 in
/-- GatheredPointsModel.image -/
theorem wp_image2  {L d : Nat} {K : Option gV → gH → Prop} {s : gH}   (hs : MI s)   (k : ∀ (r : Int), ∀ (t : gH), MI t → gF [76, 77, 78, 79, 80, 81] [8, 9] s t → (∀ k : Nat, 8 ≤ k → k < 16 → 1 ≤ gp_I t 81 k) → (∀ k : Nat, 16 ≤ k → gp_I t 81 k = gp_I s 81 k) → (r = gp_wr (gp_I s 74 9 + 1) ∧ gp_I t 74 9 = r) → K (some (gp_i r)) t) : gs_C L (d + 1) 3186 2 [gp_r (some 74)] s K := by
  refine s_3186_e ?_
  have lp_1 : ∀ (n_1 : Nat) (v1_1 : Int) (s_1 : gH), (MI s_1) → (gF [76, 77, 78, 79, 80, 81] [8, 9] s s_1) → (0 ≤ v1_1 ∧ v1_1 ≤ 8) → (gp_I s_1 74 9 = gp_I s 74 9) → (∀ k : Nat, 8 ≤ k → (k : Int) < 8 + v1_1 → 1 ≤ gp_I s_1 81 k) → (∀ k : Nat, 16 ≤ k → gp_I s_1 81 k = gp_I s 81 k) → (9 - v1_1).toNat < n_1 → gs_E L (d + 1) 3186 2 [gp_r (some 74), gp_i v1_1] [] s_1 K := by
    intro n_1
    induction n_1 with
    | zero => intro v1_1 s_1 hs_s_1 hf_s_1 hv1_1 tk0_1 iv0_1 iv1_1 hm_1; exact absurd hm_1 (Nat.not_lt_zero _)
    | succ n_1 ih_1 =>
      intro v1_1 s_1 hs_s_1 hf_s_1 hv1_1 tk0_1 iv0_1 iv1_1 hm_1
      refine s_3186_2 _ ?_
      refine ⟨fun h_2 => ?_, fun h_2 => ?_⟩
      · try rw [show gp_wr (8 + v1_1) = 8 + v1_1 from gp_wr_id (by omega) (by omega)]
        refine vm_copies _ _ hs_s_1 (by omega) (by omega) (by first | omega | assumption) (by first | omega | assumption) (fun s_3 hs_4 hf_5 p_6 p_7 => ⟨rfl, ?_⟩)
        have hf_8 : gF [76, 77, 78, 79, 80, 81] [8, 9] s s_3 := gF.trans hf_s_1 hf_5 rfl rfl
        have q_9 := (hf_5.2 74 9 rfl (fun _ => rfl)).1
        try rw [show gp_wr (v1_1 + 1) = v1_1 + 1 from gp_wr_id (by omega) (by omega)]
        exact ih_1 _ _ hs_4 hf_8 (by omega) (by first | rfl | omega) (by intro k h1 h2; by_cases c : k = Int.toNat (8 + v1_1); rw [c, p_6]; exact mr81s hs_s_1 _ (by omega); rw [p_7 k c]; exact iv0_1 k h1 (by omega)) (fun k h => by rw [p_7 k (by omega)]; exact iv1_1 k h) (by omega)
      · intro s_10 e_11
        have hs_12 : MI s_10 := by rw [e_11]; exact mw74_8 hs_s_1 _
        have hf_13 : gF [76, 77, 78, 79, 80, 81] [8, 9] s s_10 := by rw [e_11]; exact gF.wI hf_s_1 (Or.inr ⟨rfl, rfl⟩)
        have q_14 : gp_I s_10 74 9 = gp_I s_1 74 9 := by rw [e_11] <;> rfl
        have w_15 := wr_rng ((gp_I s_10 74 9) + 1)
        intro s_16 e_17
        have hs_18 : MI s_16 := by rw [e_17]; exact mw74_9 hs_12 _
        have hf_19 : gF [76, 77, 78, 79, 80, 81] [8, 9] s s_16 := by rw [e_17]; exact gF.wI hf_13 (Or.inr ⟨rfl, rfl⟩)
        have q_20 : gp_I s_16 74 9 = gp_wr ((gp_I s_10 74 9) + 1) := by rw [e_17]; exact (gz_rw _ _ _ _ _).1 rfl
        exact k _ s_16 hs_18 hf_19 (by subst_vars; exact fun k h1 h2 => iv0_1 k h1 (by omega)) (by subst_vars; exact iv1_1) (⟨by rw [‹gp_I s_16 74 9 = gp_wr _›]; congr 1; omega, rfl⟩)
  exact lp_1 _ _ _ hs (gF.refl _ _ _) (by omega) (by first | rfl | omega) (fun k h1 h2 => by omega) (fun k h => rfl) (Nat.lt_succ_self _)
