/-! sums at the reference -/
theorem SMS_in1 {P : AP} {f g : Nat → ND} {j : Nat} : ∀ n i k q, rch f n i k → q < P.1 → val P.2 q = sm f g i j → ∃ q', q' < P.1 ∧ val P.2 q' = sm f g k j
  | 0, i, k, q, h, hq, e => by
    have h' : i = k := h
    subst h'; exact ⟨q, hq, e⟩
  | n + 1, i, k, q, h, hq, e => by
    obtain ⟨a, a1, a2, a3⟩ := h
    have e2 := e
    rw [val_e, sm_e] at e2
    obtain ⟨c1, c2, _, _⟩ := cod4_inj e2
    have key : ∀ (x y : BitVec 64) (w : Nat), y.getLsbD a = true → cset x (val P.2) q = cset y (fun k => sm f g k j) i ||| w → ∃ q', q' < q ∧ val P.2 q' = sm f g a j := fun x y w hy hc => by
      have b : (cset x (val P.2) q).testBit (sm f g a j) = true := by
        rw [hc, Nat.testBit_or, Bool.or_eq_true]
        exact Or.inl ((cset_bit i).mpr ⟨a, a1, hy, rfl⟩)
      obtain ⟨q', q1, _, q3⟩ := (cset_bit q).mp b
      exact ⟨q', q1, q3⟩
    have hx : ∃ q', q' < q ∧ val P.2 q' = sm f g a j := by
      rcases a2 with z | z
      · exact key _ _ _ z c1
      · exact key _ _ _ z c2
    obtain ⟨q', q1, q2⟩ := hx
    exact SMS_in1 n a k q' a3 (by omega) q2
theorem SMS_in2 {P : AP} {f g : Nat → ND} {i : Nat} : ∀ n j k q, rch g n j k → q < P.1 → val P.2 q = sm f g i j → ∃ q', q' < P.1 ∧ val P.2 q' = sm f g i k
  | 0, j, k, q, h, hq, e => by
    have h' : j = k := h
    subst h'; exact ⟨q, hq, e⟩
  | n + 1, j, k, q, h, hq, e => by
    obtain ⟨a, a1, a2, a3⟩ := h
    have e2 := e
    rw [val_e, sm_e] at e2
    obtain ⟨c1, c2, _, _⟩ := cod4_inj e2
    have key : ∀ (x y : BitVec 64) (w : Nat), y.getLsbD a = true → cset x (val P.2) q = w ||| cset y (fun k => sm f g i k) j → ∃ q', q' < q ∧ val P.2 q' = sm f g i a := fun x y w hy hc => by
      have b : (cset x (val P.2) q).testBit (sm f g i a) = true := by
        rw [hc, Nat.testBit_or, Bool.or_eq_true]
        exact Or.inr ((cset_bit j).mpr ⟨a, a1, hy, rfl⟩)
      obtain ⟨q', q1, _, q3⟩ := (cset_bit q).mp b
      exact ⟨q', q1, q3⟩
    have hx : ∃ q', q' < q ∧ val P.2 q' = sm f g i a := by
      rcases a2 with z | z
      · exact key _ _ _ z c1
      · exact key _ _ _ z c2
    obtain ⟨q', q1, q2⟩ := hx
    exact SMS_in2 n a k q' a3 (by omega) q2
theorem SMS_in {P : AP} {f g : Nat → ND} {i j q : Nat} (hq : q < P.1) (e : val P.2 q = sm f g i j) (x : Nat) (h : SMS f g i j x) : PS P x := by
  obtain ⟨n, k, n', k', h1, h2, h3⟩ := h
  obtain ⟨q1, a1, a2⟩ := SMS_in1 n i k q h1 hq e
  obtain ⟨q2, b1, b2⟩ := SMS_in2 n' j k' q1 h2 a1 a2
  exact ⟨q2, b1, by rw [h3]; exact b2⟩
/-- a set's nodes alone -/
def TMC (s : gH) (g : Nat) : Nat → ND := fun k => if k < 64 then TM s g k else (0#64, 0#64, 0, 0)
theorem TMC_l {s : gH} {g k : Nat} (h : k < 64) : TMC s g k = TM s g k := if_pos h
theorem TMC_o {s u : gH} (h : mOut s u) {g : Nat} (hg : g ≠ 20) : TMC u g = TMC s g := funext fun k => by
  by_cases c : k < 64
  · rw [TMC_l c, TMC_l c, mOut_TM h hg c]
  · unfold TMC
    rw [if_neg c, if_neg c]
theorem GTC {s : gH} {g x : Nat} (h : GTM s g x) : TBG (TMC s g) (gp_I s 81 g).toNat ∧ (gp_I s 81 g).toNat ≤ 60 ∧ 0 < (gp_I s 81 g).toNat ∧ val (TMC s g) ((gp_I s 81 g).toNat - 1) = x := by
  obtain ⟨h1, h2, h3⟩ := h
  have n0 := h1.1.1
  have e : ∀ k, k < (gp_I s 81 g).toNat → TM s g k = TMC s g k := fun k hk => (TMC_l (by omega)).symm
  exact ⟨TBG_congr e h1, h2, by omega, by rw [← h3]; exact val_congr ((gp_I s 81 g).toNat) _ (by omega) (fun j hj => (e j (by omega)).symm)⟩
theorem GTM_mo {s u : gH} (h : mOut s u) {g x : Nat} (hg : g ≠ 20) (a : GTM s g x) : GTM u g x := GTM_e a (h.1 g hg) (fun k hk => mOut_TM h hg (by omega))
def SUJ (u : gH) (f g : Nat → ND) (n m : Nat) : Prop := (gp_I u 74 15 = 0 ∧ (∀ i j : Nat, i < n → j < m → gp_I u 105 (64 * i + j) ≠ 0 → ∃ k : Nat, gp_I u 105 (64 * i + j) = 1 + k ∧ k < (MP u).1 ∧ val (MP u).2 k = sm f g i j) ∧ ∀ y, PS (MP u) y → ∃ i j, i < n ∧ j < m ∧ y = sm f g i j) ∨ (gp_I u 74 15 ≠ 0 ∧ ¬ C60 (SMS f g (n - 1) (m - 1)))
def SUJ2 (s u : gH) (p0 p2 : Int) : Prop := SUJ u (TMC s p0.toNat) (TMC s p2.toNat) (gp_I s 81 p0.toNat).toNat (gp_I s 81 p2.toNat).toNat
theorem SUJ2_o {s u t : gH} {p0 p2 : Int} (h : mOut s u) (h0 : p0.toNat ≠ 20) (h2 : p2.toNat ≠ 20) : SUJ2 u t p0 p2 ↔ SUJ2 s t p0 p2 := by
  unfold SUJ2
  rw [TMC_o h h0, TMC_o h h2, h.1 _ h0, h.1 _ h2]
def SUH (s : gH) (p0 p1 p2 p3 : Int) : Prop := p0.toNat ≠ 20 ∧ p2.toNat ≠ 20 ∧ (∃ x, GTM s p0.toNat x) ∧ (∃ y, GTM s p2.toNat y) ∧ (0 ≤ p1 ∧ p1 < gp_I s 81 p0.toNat) ∧ 0 ≤ p3 ∧ p3 < gp_I s 81 p2.toNat
def SUX (s t : gH) (p0 p1 p2 p3 r : Int) : Prop := SUH s p0 p1 p2 p3 → SUJ2 s s p0 p2 → SUJ2 s t p0 p2 ∧ (gp_I t 74 15 = 0 → gp_I s 74 15 = 0 ∧ Ext (MP s) (MP t) ∧ ∃ k : Nat, r = k ∧ k < (MP t).1 ∧ val (MP t).2 k = sm (TMC s p0.toNat) (TMC s p2.toNat) p1.toNat p3.toNat)
def MSK (P : AP) (S : Nat → Prop) (w : BitVec 64) : Prop := (∀ b : Nat, w.getLsbD b = true → b < P.1 ∧ S (val P.2 b)) ∧ ∀ v, S v → ∃ b, b < P.1 ∧ w.getLsbD b = true ∧ val P.2 b = v
theorem MSK_n {P : AP} {S T : Nat → Prop} {w : BitVec 64} (h : MSK P S w) (e : ∀ v, T v ↔ S v) : MSK P T w := ⟨fun b hb => ⟨(h.1 b hb).1, (e _).mpr (h.1 b hb).2⟩, fun v hv => h.2 v ((e v).mp hv)⟩
theorem MSK_x {P Q : AP} {S : Nat → Prop} {w : BitVec 64} (h : MSK P S w) (x : Ext P Q) : MSK Q S w := ⟨fun b hb => by
  have z := h.1 b hb
  exact ⟨by have := x.1; omega, by rw [Ext_val x z.1]; exact z.2⟩, fun v hv => by
  obtain ⟨b, b1, b2, b3⟩ := h.2 v hv
  exact ⟨b, by have := x.1; omega, b2, by rw [Ext_val x b1]; exact b3⟩⟩
theorem MSK_y {P : AP} {S T : Nat → Prop} {w : BitVec 64} {k : Nat} (h : MSK P S w) (hk : k < P.1) (h64 : k < 64) (e : ∀ v, T v ↔ S v ∨ v = val P.2 k) : MSK P T (w ||| 1#64 <<< k) := ⟨fun b hb => by
  rw [BitVec.getLsbD_or, Bool.or_eq_true, one_bit h64] at hb
  rcases hb with q | q
  · exact ⟨(h.1 b q).1, (e _).mpr (Or.inl (h.1 b q).2)⟩
  · subst q; exact ⟨hk, (e _).mpr (Or.inr rfl)⟩, fun v hv => by
  rcases (e v).mp hv with q | q
  · obtain ⟨b, b1, b2, b3⟩ := h.2 v q
    exact ⟨b, b1, by rw [BitVec.getLsbD_or, b2]; rfl, b3⟩
  · exact ⟨k, hk, by rw [BitVec.getLsbD_or, Bool.or_eq_true]; exact Or.inr ((one_bit h64).mpr rfl), q.symm⟩⟩
theorem MSK_0 {P : AP} {S : Nat → Prop} (e : ∀ v, ¬ S v) : MSK P S 0#64 := ⟨fun b hb => by simp at hb, fun v hv => absurd hv (e v)⟩
def SSM (x y : BitVec 64) (f g : Nat → ND) (i j a b : Nat) (v : Nat) : Prop := (∃ k, k < a ∧ x.getLsbD k = true ∧ v = sm f g k j) ∨ ∃ k, k < b ∧ y.getLsbD k = true ∧ v = sm f g i k
theorem SSM_cs {x y w : BitVec 64} {P : AP} {f g : Nat → ND} {i j : Nat} (h : MSK P (SSM x y f g i j i j) w) : cset w (val P.2) P.1 = cset x (fun k => sm f g k j) i ||| cset y (fun k => sm f g i k) j := by
  refine Nat.eq_of_testBit_eq fun b => ?_
  have L := @cset_bit w (val P.2) b P.1
  have R : (cset x (fun k => sm f g k j) i ||| cset y (fun k => sm f g i k) j).testBit b = true ↔ (∃ k, k < i ∧ x.getLsbD k = true ∧ sm f g k j = b) ∨ ∃ k, k < j ∧ y.getLsbD k = true ∧ sm f g i k = b := by
    rw [Nat.testBit_or, Bool.or_eq_true, cset_bit, cset_bit]
  have key : (∃ k, k < P.1 ∧ w.getLsbD k = true ∧ val P.2 k = b) ↔ ((∃ k, k < i ∧ x.getLsbD k = true ∧ sm f g k j = b) ∨ ∃ k, k < j ∧ y.getLsbD k = true ∧ sm f g i k = b) := by
    constructor
    · rintro ⟨k, k1, k2, k3⟩
      rcases (h.1 k k2).2 with ⟨q, q1, q2, q3⟩ | ⟨q, q1, q2, q3⟩
      · exact Or.inl ⟨q, q1, q2, by rw [← q3, k3]⟩
      · exact Or.inr ⟨q, q1, q2, by rw [← q3, k3]⟩
    · rintro (⟨k, k1, k2, k3⟩ | ⟨k, k1, k2, k3⟩)
      · obtain ⟨q, q1, q2, q3⟩ := h.2 b (Or.inl ⟨k, k1, k2, k3.symm⟩)
        exact ⟨q, q1, q2, q3⟩
      · obtain ⟨q, q1, q2, q3⟩ := h.2 b (Or.inr ⟨k, k1, k2, k3.symm⟩)
        exact ⟨q, q1, q2, q3⟩
  have e := L.trans (key.trans R.symm)
  cases p : (cset w (val P.2) P.1).testBit b <;> cases q : (cset x (fun k => sm f g k j) i ||| cset y (fun k => sm f g i k) j).testBit b
  · rfl
  · have := e.mpr q; rw [p] at this; cases this
  · have := e.mp p; rw [q] at this; cases this
  · rfl
theorem SSM_a0 {x y : BitVec 64} {f g : Nat → ND} {i j b a : Nat} (h : x.getLsbD a = false) (v : Nat) : SSM x y f g i j (a + 1) b v ↔ SSM x y f g i j a b v := by
  unfold SSM
  constructor
  · rintro (⟨k, k1, k2, k3⟩ | q)
    · by_cases c : k = a
      · rw [c, h] at k2; cases k2
      · exact Or.inl ⟨k, by omega, k2, k3⟩
    · exact Or.inr q
  · rintro (⟨k, k1, k2, k3⟩ | q)
    · exact Or.inl ⟨k, by omega, k2, k3⟩
    · exact Or.inr q
theorem SSM_b0 {x y : BitVec 64} {f g : Nat → ND} {i j b a : Nat} (h : y.getLsbD b = false) (v : Nat) : SSM x y f g i j a (b + 1) v ↔ SSM x y f g i j a b v := by
  unfold SSM
  constructor
  · rintro (q | ⟨k, k1, k2, k3⟩)
    · exact Or.inl q
    · by_cases c : k = b
      · rw [c, h] at k2; cases k2
      · exact Or.inr ⟨k, by omega, k2, k3⟩
  · rintro (q | ⟨k, k1, k2, k3⟩)
    · exact Or.inl q
    · exact Or.inr ⟨k, by omega, k2, k3⟩
theorem SSM_a1 {x y : BitVec 64} {f g : Nat → ND} {i j b a : Nat} (h : x.getLsbD a = true) (v : Nat) : SSM x y f g i j (a + 1) b v ↔ SSM x y f g i j a b v ∨ v = sm f g a j := by
  unfold SSM
  constructor
  · rintro (⟨k, k1, k2, k3⟩ | q)
    · by_cases c : k = a
      · rw [c] at k3; exact Or.inr k3
      · exact Or.inl (Or.inl ⟨k, by omega, k2, k3⟩)
    · exact Or.inl (Or.inr q)
  · rintro ((⟨k, k1, k2, k3⟩ | q) | q)
    · exact Or.inl ⟨k, by omega, k2, k3⟩
    · exact Or.inr q
    · exact Or.inl ⟨a, Nat.lt_succ_self _, h, q⟩
theorem SSM_b1 {x y : BitVec 64} {f g : Nat → ND} {i j b a : Nat} (h : y.getLsbD b = true) (v : Nat) : SSM x y f g i j a (b + 1) v ↔ SSM x y f g i j a b v ∨ v = sm f g i b := by
  unfold SSM
  constructor
  · rintro (q | ⟨k, k1, k2, k3⟩)
    · exact Or.inl (Or.inl q)
    · by_cases c : k = b
      · rw [c] at k3; exact Or.inr k3
      · exact Or.inl (Or.inr ⟨k, by omega, k2, k3⟩)
  · rintro ((q | ⟨k, k1, k2, k3⟩) | q)
    · exact Or.inl q
    · exact Or.inr ⟨k, by omega, k2, k3⟩
    · exact Or.inr ⟨b, Nat.lt_succ_self _, h, q⟩
def SUI (s u : gH) (p0 p1 p2 p3 a b c d : Int) (w z : BitVec 64) : Prop := SUH s p0 p1 p2 p3 → SUJ2 s s p0 p2 → SUJ2 s u p0 p2 ∧ (gp_I u 74 15 = 0 → gp_I s 74 15 = 0 ∧ Ext (MP s) (MP u) ∧ MSK (MP u) (SSM (TMC s p0.toNat p1.toNat).1 (TMC s p2.toNat p3.toNat).1 (TMC s p0.toNat) (TMC s p2.toNat) p1.toNat p3.toNat a.toNat b.toNat) w ∧ MSK (MP u) (SSM (TMC s p0.toNat p1.toNat).2.1 (TMC s p2.toNat p3.toNat).2.1 (TMC s p0.toNat) (TMC s p2.toNat) p1.toNat p3.toNat c.toNat d.toNat) z)
theorem SUI_0 {s : gH} {p0 p1 p2 p3 : Int} : SUI s s p0 p1 p2 p3 0 0 0 0 0#64 0#64 := fun _ h => ⟨h, fun q => ⟨q, Ext_r _, MSK_0 (fun v hv => by rcases hv with ⟨k, k1, _⟩ | ⟨k, k1, _⟩ <;> exact absurd k1 (Nat.not_lt_zero _)), MSK_0 (fun v hv => by rcases hv with ⟨k, k1, _⟩ | ⟨k, k1, _⟩ <;> exact absurd k1 (Nat.not_lt_zero _))⟩⟩
theorem SUH_o {s u : gH} {p0 p1 p2 p3 q1 q3 : Int} (h : SUH s p0 p1 p2 p3) (mo : mOut s u) (h1 : 0 ≤ q1 ∧ q1 ≤ p1) (h3 : 0 ≤ q3 ∧ q3 ≤ p3) : SUH u p0 q1 p2 q3 := by
  obtain ⟨a, b, ⟨x, c⟩, ⟨y, d⟩, e, f⟩ := h
  refine ⟨a, b, ⟨x, GTM_mo mo a c⟩, ⟨y, GTM_mo mo b d⟩, ?_, ?_⟩
  · rw [mo.1 _ a]; omega
  · rw [mo.1 _ b]; omega
theorem SUH_TM {s u : gH} {p0 p1 p2 p3 : Int} (h : SUH s p0 p1 p2 p3) (mo : mOut s u) (hp : 0 ≤ p0 ∧ 0 ≤ p2) {i j : Nat} (hi : i = Int.toNat (64 * p0 + p1)) (hj : j = Int.toNat (64 * p2 + p3)) : TMC s p0.toNat p1.toNat = (gp_L u 76 i, gp_L u 77 i, gp_I u 78 i, gp_I u 79 i) ∧ TMC s p2.toNat p3.toNat = (gp_L u 76 j, gp_L u 77 j, gp_I u 78 j, gp_I u 79 j) := by
  obtain ⟨a, b, ⟨x, c⟩, ⟨y, d⟩, e, f⟩ := h
  have c2 := c.2.1
  have d2 := d.2.1
  rw [TMC_l (by omega), TMC_l (by omega), ← mOut_TM mo a (by omega), ← mOut_TM mo b (by omega)]
  unfold TM
  rw [show 64 * p0.toNat + p1.toNat = i by omega, show 64 * p2.toNat + p3.toNat = j by omega]
  exact ⟨rfl, rfl⟩
theorem SUI_na {s u : gH} {p0 p1 p2 p3 a b c d : Int} {w z : BitVec 64} (h : SUI s u p0 p1 p2 p3 a b c d w z) (mo : mOut s u) (hp : 0 ≤ p0 ∧ 0 ≤ p2) (h0 : 0 ≤ a) (hb : (gp_L u 76 (Int.toNat (64 * p0 + p1))).getLsbD a.toNat = false) : SUI s u p0 p1 p2 p3 (a + 1) b c d (w ||| 0#64) z := fun sh sj => by
  have e := SUH_TM sh mo hp rfl rfl
  obtain ⟨h1, h2⟩ := h sh sj
  refine ⟨h1, fun q => ?_⟩
  obtain ⟨x1, x2, x3, x4⟩ := h2 q
  refine ⟨x1, x2, ?_, ?_⟩
  · rw [show w ||| 0#64 = w by simp, show (a + 1).toNat = a.toNat + 1 by omega]
    exact MSK_n x3 (SSM_a0 (by rw [e.1]; exact hb))
  · exact x4
theorem SUI_ya {s u t : gH} {p0 p1 p2 p3 a b c d r : Int} {w z y : BitVec 64} (h : SUI s u p0 p1 p2 p3 a b c d w z) (mo : mOut s u) (hp : 0 ≤ p0 ∧ 0 ≤ p2) (h0 : 0 ≤ a ∧ a ≤ p1) (hb : (gp_L u 76 (Int.toNat (64 * p0 + p1))).getLsbD a.toNat = true) (hx : SUX u t p0 a p2 p3 r) (hr : 0 ≤ r ∧ r ≤ 63) (hy : y = 1#64 <<< Int.toNat (r % 64)) : SUI s t p0 p1 p2 p3 (a + 1) b c d (w ||| y) z := fun sh sj => by
  have e := SUH_TM sh mo hp rfl rfl
  have rr : Int.toNat (r % 64) = r.toNat := by clear h hx; omega
  have r64 : r.toNat < 64 := by clear h hx; omega
  obtain ⟨h1, h2⟩ := h sh sj
  have sh2 : SUH u p0 a p2 p3 := SUH_o sh mo (by have := sh.2.2.2.2; omega) (by have := sh.2.2.2.2; omega)
  obtain ⟨y1, y2⟩ := hx sh2 ((SUJ2_o mo sh.1 sh.2.1).mpr h1)
  rw [SUJ2_o mo sh.1 sh.2.1] at y1
  refine ⟨y1, fun q => ?_⟩
  obtain ⟨z1, z2, k, z3, z4, z5⟩ := y2 q
  rw [TMC_o mo sh.1, TMC_o mo sh.2.1] at z5
  obtain ⟨x1, x2, x3, x4⟩ := h2 z1
  have rk : r.toNat = k := by rw [z3]; exact Int.toNat_natCast k
  refine ⟨x1, Ext_t x2 z2, ?_, ?_⟩
  · rw [hy, rr, rk, show (a + 1).toNat = a.toNat + 1 by omega]
    exact MSK_y (MSK_x x3 z2) z4 (rk ▸ r64) (fun v => (SSM_a1 (by rw [e.1]; exact hb) v).trans (by rw [z5]))
  · exact MSK_x x4 z2
theorem SUI_nb {s u : gH} {p0 p1 p2 p3 a b c d : Int} {w z : BitVec 64} (h : SUI s u p0 p1 p2 p3 a b c d w z) (mo : mOut s u) (hp : 0 ≤ p0 ∧ 0 ≤ p2) (h0 : 0 ≤ b) (hb : (gp_L u 76 (Int.toNat (64 * p2 + p3))).getLsbD b.toNat = false) : SUI s u p0 p1 p2 p3 a (b + 1) c d (w ||| 0#64) z := fun sh sj => by
  have e := SUH_TM sh mo hp rfl rfl
  obtain ⟨h1, h2⟩ := h sh sj
  refine ⟨h1, fun q => ?_⟩
  obtain ⟨x1, x2, x3, x4⟩ := h2 q
  refine ⟨x1, x2, ?_, ?_⟩
  · rw [show w ||| 0#64 = w by simp, show (b + 1).toNat = b.toNat + 1 by omega]
    exact MSK_n x3 (SSM_b0 (by rw [e.2]; exact hb))
  · exact x4
theorem SUI_yb {s u t : gH} {p0 p1 p2 p3 a b c d r : Int} {w z y : BitVec 64} (h : SUI s u p0 p1 p2 p3 a b c d w z) (mo : mOut s u) (hp : 0 ≤ p0 ∧ 0 ≤ p2) (h0 : 0 ≤ b ∧ b ≤ p3) (hb : (gp_L u 76 (Int.toNat (64 * p2 + p3))).getLsbD b.toNat = true) (hx : SUX u t p0 p1 p2 b r) (hr : 0 ≤ r ∧ r ≤ 63) (hy : y = 1#64 <<< Int.toNat (r % 64)) : SUI s t p0 p1 p2 p3 a (b + 1) c d (w ||| y) z := fun sh sj => by
  have e := SUH_TM sh mo hp rfl rfl
  have rr : Int.toNat (r % 64) = r.toNat := by clear h hx; omega
  have r64 : r.toNat < 64 := by clear h hx; omega
  obtain ⟨h1, h2⟩ := h sh sj
  have sh2 : SUH u p0 p1 p2 b := SUH_o sh mo (by have := sh.2.2.2.2; omega) (by have := sh.2.2.2.2; omega)
  obtain ⟨y1, y2⟩ := hx sh2 ((SUJ2_o mo sh.1 sh.2.1).mpr h1)
  rw [SUJ2_o mo sh.1 sh.2.1] at y1
  refine ⟨y1, fun q => ?_⟩
  obtain ⟨z1, z2, k, z3, z4, z5⟩ := y2 q
  rw [TMC_o mo sh.1, TMC_o mo sh.2.1] at z5
  obtain ⟨x1, x2, x3, x4⟩ := h2 z1
  have rk : r.toNat = k := by rw [z3]; exact Int.toNat_natCast k
  refine ⟨x1, Ext_t x2 z2, ?_, ?_⟩
  · rw [hy, rr, rk, show (b + 1).toNat = b.toNat + 1 by omega]
    exact MSK_y (MSK_x x3 z2) z4 (rk ▸ r64) (fun v => (SSM_b1 (by rw [e.2]; exact hb) v).trans (by rw [z5]))
  · exact MSK_x x4 z2
theorem SUI_nc {s u : gH} {p0 p1 p2 p3 a b c d : Int} {w z : BitVec 64} (h : SUI s u p0 p1 p2 p3 a b c d w z) (mo : mOut s u) (hp : 0 ≤ p0 ∧ 0 ≤ p2) (h0 : 0 ≤ c) (hb : (gp_L u 77 (Int.toNat (64 * p0 + p1))).getLsbD c.toNat = false) : SUI s u p0 p1 p2 p3 a b (c + 1) d w (z ||| 0#64) := fun sh sj => by
  have e := SUH_TM sh mo hp rfl rfl
  obtain ⟨h1, h2⟩ := h sh sj
  refine ⟨h1, fun q => ?_⟩
  obtain ⟨x1, x2, x3, x4⟩ := h2 q
  refine ⟨x1, x2, ?_, ?_⟩
  · exact x3
  · rw [show z ||| 0#64 = z by simp, show (c + 1).toNat = c.toNat + 1 by omega]
    exact MSK_n x4 (SSM_a0 (by rw [e.1]; exact hb))
theorem SUI_yc {s u t : gH} {p0 p1 p2 p3 a b c d r : Int} {w z y : BitVec 64} (h : SUI s u p0 p1 p2 p3 a b c d w z) (mo : mOut s u) (hp : 0 ≤ p0 ∧ 0 ≤ p2) (h0 : 0 ≤ c ∧ c ≤ p1) (hb : (gp_L u 77 (Int.toNat (64 * p0 + p1))).getLsbD c.toNat = true) (hx : SUX u t p0 c p2 p3 r) (hr : 0 ≤ r ∧ r ≤ 63) (hy : y = 1#64 <<< Int.toNat (r % 64)) : SUI s t p0 p1 p2 p3 a b (c + 1) d w (z ||| y) := fun sh sj => by
  have e := SUH_TM sh mo hp rfl rfl
  have rr : Int.toNat (r % 64) = r.toNat := by clear h hx; omega
  have r64 : r.toNat < 64 := by clear h hx; omega
  obtain ⟨h1, h2⟩ := h sh sj
  have sh2 : SUH u p0 c p2 p3 := SUH_o sh mo (by have := sh.2.2.2.2; omega) (by have := sh.2.2.2.2; omega)
  obtain ⟨y1, y2⟩ := hx sh2 ((SUJ2_o mo sh.1 sh.2.1).mpr h1)
  rw [SUJ2_o mo sh.1 sh.2.1] at y1
  refine ⟨y1, fun q => ?_⟩
  obtain ⟨z1, z2, k, z3, z4, z5⟩ := y2 q
  rw [TMC_o mo sh.1, TMC_o mo sh.2.1] at z5
  obtain ⟨x1, x2, x3, x4⟩ := h2 z1
  have rk : r.toNat = k := by rw [z3]; exact Int.toNat_natCast k
  refine ⟨x1, Ext_t x2 z2, ?_, ?_⟩
  · exact MSK_x x3 z2
  · rw [hy, rr, rk, show (c + 1).toNat = c.toNat + 1 by omega]
    exact MSK_y (MSK_x x4 z2) z4 (rk ▸ r64) (fun v => (SSM_a1 (by rw [e.1]; exact hb) v).trans (by rw [z5]))
theorem SUI_nd {s u : gH} {p0 p1 p2 p3 a b c d : Int} {w z : BitVec 64} (h : SUI s u p0 p1 p2 p3 a b c d w z) (mo : mOut s u) (hp : 0 ≤ p0 ∧ 0 ≤ p2) (h0 : 0 ≤ d) (hb : (gp_L u 77 (Int.toNat (64 * p2 + p3))).getLsbD d.toNat = false) : SUI s u p0 p1 p2 p3 a b c (d + 1) w (z ||| 0#64) := fun sh sj => by
  have e := SUH_TM sh mo hp rfl rfl
  obtain ⟨h1, h2⟩ := h sh sj
  refine ⟨h1, fun q => ?_⟩
  obtain ⟨x1, x2, x3, x4⟩ := h2 q
  refine ⟨x1, x2, ?_, ?_⟩
  · exact x3
  · rw [show z ||| 0#64 = z by simp, show (d + 1).toNat = d.toNat + 1 by omega]
    exact MSK_n x4 (SSM_b0 (by rw [e.2]; exact hb))
theorem SUI_yd {s u t : gH} {p0 p1 p2 p3 a b c d r : Int} {w z y : BitVec 64} (h : SUI s u p0 p1 p2 p3 a b c d w z) (mo : mOut s u) (hp : 0 ≤ p0 ∧ 0 ≤ p2) (h0 : 0 ≤ d ∧ d ≤ p3) (hb : (gp_L u 77 (Int.toNat (64 * p2 + p3))).getLsbD d.toNat = true) (hx : SUX u t p0 p1 p2 d r) (hr : 0 ≤ r ∧ r ≤ 63) (hy : y = 1#64 <<< Int.toNat (r % 64)) : SUI s t p0 p1 p2 p3 a b c (d + 1) w (z ||| y) := fun sh sj => by
  have e := SUH_TM sh mo hp rfl rfl
  have rr : Int.toNat (r % 64) = r.toNat := by clear h hx; omega
  have r64 : r.toNat < 64 := by clear h hx; omega
  obtain ⟨h1, h2⟩ := h sh sj
  have sh2 : SUH u p0 p1 p2 d := SUH_o sh mo (by have := sh.2.2.2.2; omega) (by have := sh.2.2.2.2; omega)
  obtain ⟨y1, y2⟩ := hx sh2 ((SUJ2_o mo sh.1 sh.2.1).mpr h1)
  rw [SUJ2_o mo sh.1 sh.2.1] at y1
  refine ⟨y1, fun q => ?_⟩
  obtain ⟨z1, z2, k, z3, z4, z5⟩ := y2 q
  rw [TMC_o mo sh.1, TMC_o mo sh.2.1] at z5
  obtain ⟨x1, x2, x3, x4⟩ := h2 z1
  have rk : r.toNat = k := by rw [z3]; exact Int.toNat_natCast k
  refine ⟨x1, Ext_t x2 z2, ?_, ?_⟩
  · exact MSK_x x3 z2
  · rw [hy, rr, rk, show (d + 1).toNat = d.toNat + 1 by omega]
    exact MSK_y (MSK_x x4 z2) z4 (rk ▸ r64) (fun v => (SSM_b1 (by rw [e.2]; exact hb) v).trans (by rw [z5]))
theorem SUX_h {s : gH} {p0 p1 p2 p3 r : Int} {i : Nat} (hi : i = Int.toNat (64 * p1 + p3)) (h : gp_I s 105 i ≠ 0) (hr : r = gp_I s 105 i - 1) : SUX s s p0 p1 p2 p3 r := fun sh sj => ⟨sj, fun q => by
  obtain ⟨_, _, _, _, e, f⟩ := sh
  refine ⟨q, Ext_r _, ?_⟩
  have ei : i = 64 * p1.toNat + p3.toNat := by omega
  rw [ei] at h hr
  rcases sj with ⟨_, a, _⟩ | ⟨a, _⟩
  · obtain ⟨k, k1, k2, k3⟩ := a p1.toNat p3.toNat (by omega) (by omega) h
    exact ⟨k, by omega, k2, k3⟩
  · exact absurd q a⟩
theorem SUX_f {s u t : gH} {p0 p1 p2 p3 a b c d r x : Int} {i : Nat} {w z : BitVec 64} (h : SUI s u p0 p1 p2 p3 a b c d w z) (h15 : gp_I u 74 15 ≠ 0) (e : t = gp_wI u 105 i x) : SUX s t p0 p1 p2 p3 r := fun sh sj => by
  obtain ⟨h1, h2⟩ := h sh sj
  have e15 : gp_I t 74 15 = gp_I u 74 15 := by rw [e]; rfl
  rcases h1 with ⟨q, _⟩ | ⟨_, q⟩
  · exact absurd q h15
  · exact ⟨Or.inr ⟨by omega, q⟩, fun q => absurd (e15.symm.trans q) h15⟩
theorem SUX_m {s u t t2 : gH} {p0 p1 p2 p3 a b q r : Int} {i j o : Nat} {w z : BitVec 64} (h : SUI s u p0 p1 p2 p3 p1 p3 p1 p3 w z) (mo : mOut s u) (hp : 0 ≤ p0 ∧ 0 ≤ p2) (hi : i = Int.toNat (64 * p0 + p1)) (hj : j = Int.toNat (64 * p2 + p3)) (ho : o = Int.toNat (64 * p1 + p3)) (av : AVM u t w z a b q) (ha : a = gp_wr (gp_I u 78 i + gp_I u 78 j)) (hb : b = gp_wr (gp_I u 79 i + gp_I u 79 j)) (h15 : gp_I u 74 15 = 0) (r105 : ∀ k, gp_I t 105 k = gp_I u 105 k) (e : t2 = gp_wI t 105 o (1 + q)) (hr : r = q) : SUX s t2 p0 p1 p2 p3 r := fun sh sj => by
  have em := SUH_TM sh mo hp hi hj
  obtain ⟨h1, h2⟩ := h sh sj
  obtain ⟨x1, x2, x3, x4⟩ := h2 h15
  obtain ⟨_, _, ⟨x, gx⟩, ⟨y, gy⟩, e1, e2⟩ := sh
  have cx := GTC gx
  have cy := GTC gy
  have c3 := SSM_cs x3
  have c4 := SSM_cs x4
  have bi := cx.1.2.2 p1.toNat (by omega)
  have bj := cy.1.2.2 p3.toNat (by omega)
  have b3 := cset_0 (x := w) (v := val (MP u).2) (n := (MP u).1) (fun k hk => (x3.1 k hk).1)
  have b4 := cset_0 (x := z) (v := val (MP u).2) (n := (MP u).1) (fun k hk => (x4.1 k hk).1)
  have vo : VOF (val (MP u).2) (MP u).1 (nx w z a b) = sm (TMC s p0.toNat) (TMC s p2.toNat) p1.toNat p3.toNat := by
    rw [sm_e]
    have a2 : a = (TMC s p0.toNat p1.toNat).2.2.1 + (TMC s p2.toNat p3.toNat).2.2.1 := by
      rw [ha, em.1, em.2]
      rw [em.1] at bi
      rw [em.2] at bj
      have bi' : -99999 ≤ gp_I u 78 i ∧ gp_I u 78 i ≤ 99999 ∧ _ := bi
      have bj' : -99999 ≤ gp_I u 78 j ∧ gp_I u 78 j ≤ 99999 ∧ _ := bj
      exact gp_wr_id (by clear av; omega) (by clear av; omega)
    have b2 : b = (TMC s p0.toNat p1.toNat).2.2.2 + (TMC s p2.toNat p3.toNat).2.2.2 := by
      rw [hb, em.1, em.2]
      rw [em.1] at bi
      rw [em.2] at bj
      have bi' : _ ∧ _ ∧ -99999 ≤ gp_I u 79 i ∧ gp_I u 79 i ≤ 99999 := bi
      have bj' : _ ∧ _ ∧ -99999 ≤ gp_I u 79 j ∧ gp_I u 79 j ≤ 99999 := bj
      exact gp_wr_id (by clear av; omega) (by clear av; omega)
    rw [← a2, ← b2]
    unfold smL smR
    rw [← c3, ← c4]
    have u0 : VOF (val (MP u).2) (MP u).1 (nx w z a b) = cod4 (cset w (val (MP u).2) (MP u).1) (cset z (val (MP u).2) (MP u).1) (nrm w a) (nrm z b) := rfl
    rw [u0]
    unfold nrm
    by_cases d1 : w = 0#64 <;> by_cases d2 : z = 0#64
    · rw [if_pos d1, if_pos d2, if_pos (b3.mpr d1), if_pos (b4.mpr d2)]
    · rw [if_pos d1, if_neg d2, if_pos (b3.mpr d1), if_neg (fun q => d2 (b4.mp q))]
    · rw [if_neg d1, if_pos d2, if_neg (fun q => d1 (b3.mp q)), if_pos (b4.mpr d2)]
    · rw [if_neg d1, if_neg d2, if_neg (fun q => d1 (b3.mp q)), if_neg (fun q => d2 (b4.mp q))]
  have e15 : gp_I t2 74 15 = gp_I t 74 15 := by rw [e]; rfl
  have eM : MP t2 = MP t := by rw [e]; rfl
  have e105 : ∀ k, gp_I t2 105 k = if k = o then 1 + q else gp_I u 105 k := fun k => by
    rw [e, gz_rwi]
    by_cases c : k = o
    · rw [if_pos c, if_pos c]
    · rw [if_neg c, if_neg c, r105]
  obtain ⟨gv, av⟩ := av
  rw [vo] at av
  rcases h1 with ⟨_, h3, h4⟩ | ⟨hh, _⟩
  · rcases av with ⟨k, k1, k2, k3, k4, k5, k6⟩ | ⟨k1, k2⟩
    · refine ⟨Or.inl ⟨by clear vo; omega, fun i' j' hi' hj' hne => ?_, fun y hy => ?_⟩, fun _ => ⟨x1, ?_, k, by omega, ?_, ?_⟩⟩
      · rw [e105] at hne ⊢
        rw [eM]
        by_cases c : 64 * i' + j' = o
        · have c1 : i' = p1.toNat := by clear vo; omega
          have c2 : j' = p3.toNat := by clear vo; omega
          rw [if_pos c, c1, c2]
          exact ⟨k, by omega, k3, k4⟩
        · rw [if_neg c] at hne ⊢
          obtain ⟨k', q1, q2, q3⟩ := h3 i' j' hi' hj' hne
          exact ⟨k', q1, by have := k2.1; omega, (Ext_val k2 q2).trans q3⟩
      · rw [eM] at hy
        rcases (k5 y).mp hy with q5 | q5
        · exact h4 y q5
        · exact ⟨p1.toNat, p3.toNat, by clear vo; omega, by clear vo; omega, q5⟩
      · rw [eM]; exact Ext_t x2 k2
      · rw [eM]; exact k3
      · rw [eM]; exact k4
    · refine ⟨Or.inr ⟨by clear vo; omega, fun c => k2 (C60_mono c (fun y hy => ?_))⟩, fun q => absurd q (by clear vo; omega)⟩
      have key : ∀ i' j', i' < (gp_I s 81 p0.toNat).toNat → j' < (gp_I s 81 p2.toNat).toNat → SMS (TMC s p0.toNat) (TMC s p2.toNat) ((gp_I s 81 p0.toNat).toNat - 1) ((gp_I s 81 p2.toNat).toNat - 1) (sm (TMC s p0.toNat) (TMC s p2.toNat) i' j') := fun i' j' a b => by
        obtain ⟨p, hp⟩ := cx.1.1.2.2.2 i' a
        obtain ⟨q, hq⟩ := cy.1.1.2.2.2 j' b
        exact ⟨p, i', q, j', hp, hq, rfl⟩
      rcases hy with q5 | q5
      · obtain ⟨i', j', a1, b1, c1⟩ := h4 y q5
        rw [c1]; exact key i' j' a1 b1
      · rw [q5]; exact key _ _ (by clear vo; omega) (by clear vo; omega)
  · exact absurd h15 hh
/-- both sums' ends -/
def SUMR (s t : gH) (p0 p1 r : Int) : Prop := ∀ x y, GTM s p0.toNat x → GTM s p1.toNat y → (JFV x y ∧ r = 4) ∨ (¬ JFV x y ∧ ∃ z, JSV x y z ∧ ((BIGV z ∧ r = 6) ∨ (¬ BIGV z ∧ r = 0 ∧ GTM t 19 z)))
theorem SUJ2_0 {s u : gH} {p0 p2 : Int} (h15 : gp_I u 74 15 = 0) (h20 : gp_I u 81 20 = 0) (z : ∀ k : Nat, (k : Int) < 4096 → gp_I u 105 k = 0) (h0 : (gp_I s 81 p0.toNat).toNat ≤ 60) (h2 : (gp_I s 81 p2.toNat).toNat ≤ 60) : SUJ2 s u p0 p2 := Or.inl ⟨h15, fun i j hi hj hn => absurd (z (64 * i + j) (by omega)) hn, fun y hy => absurd hy (PS_m0 h20 y)⟩
theorem SUJ2_B {s u : gH} {p0 p2 : Int} {x y : Nat} (h : SUJ2 s u p0 p2) (gx : GTM s p0.toNat x) (gy : GTM s p2.toNat y) (h15 : gp_I u 74 15 = 0) : ∀ v, PS (MP u) v → VB v := fun v hv => by
  have cx := GTC gx
  have cy := GTC gy
  rcases h with ⟨_, _, h⟩ | ⟨h, _⟩
  · obtain ⟨i, j, hi, hj, e⟩ := h v hv
    have bi := cx.1.2.2 i hi
    have bj := cy.1.2.2 j hj
    rw [e, sm_e]
    refine ⟨_, _, _, _, rfl, ?_, ?_⟩
    · by_cases c : smL (TMC s p0.toNat) (TMC s p2.toNat) i j = 0
      · rw [if_pos c]; clear e c; omega
      · rw [if_neg c]; omega
    · by_cases c : smR (TMC s p0.toNat) (TMC s p2.toNat) i j = 0
      · rw [if_pos c]; clear e c; omega
      · rw [if_neg c]; omega
  · exact absurd h15 h
theorem SUMR_of {s a u t : gH} {p0 p1 p2 p3 q r : Int} (mo : mOut s a) (x : SUX a u p0 p2 p1 p3 q) (h0 : p0.toNat ≠ 20) (h1 : p1.toNat ≠ 20) (e2 : p2 = gp_I s 81 p0.toNat - 1) (e3 : p3 = gp_I s 81 p1.toNat - 1) (h15 : gp_I a 74 15 = 0) (h20 : gp_I a 81 20 = 0) (z : ∀ k : Nat, (k : Int) < 4096 → gp_I a 105 k = 0) (gv : GVM u) (rs : RSW u t q r) : SUMR s t p0 p1 r := fun v w gx gy => by
  have cx := GTC gx
  have cy := GTC gy
  have sh : SUH a p0 p2 p1 p3 := ⟨h0, h1, ⟨v, GTM_mo mo h0 gx⟩, ⟨w, GTM_mo mo h1 gy⟩, by rw [mo.1 _ h0]; omega, by rw [mo.1 _ h1]; omega⟩
  have i2 : p2.toNat = (gp_I s 81 p0.toNat).toNat - 1 := by clear x rs cx cy; omega
  have i3 : p3.toNat = (gp_I s 81 p1.toNat).toNat - 1 := by clear x rs cx cy; omega
  have y := x sh ((SUJ2_o mo h0 h1).mpr (SUJ2_0 h15 h20 z (by omega) (by omega)))
  rw [SUJ2_o mo h0 h1] at y
  obtain ⟨y1, y2⟩ := y
  have jf := JFV_of cx.1.1 cy.1.1
  rw [cx.2.2.2, cy.2.2.2] at jf
  rcases rs with ⟨r1, r2⟩ | ⟨r1, r2⟩
  · rcases y1 with ⟨b, _⟩ | ⟨_, b⟩
    · exact absurd b r1
    · exact Or.inl ⟨jf.mpr b, r2⟩
  · obtain ⟨_, _, k, k1, k2, k3⟩ := y2 r1
    rw [TMC_o mo h0, TMC_o mo h1] at k3
    rw [i2, i3] at k3
    have nf : ¬ JFV v w := fun c => (jf.mp c) ⟨val (MP u).2, fun x hx => by
      obtain ⟨k', a1, a2⟩ := SMS_in k2 k3 x hx
      exact ⟨k', by have := gv.2.2; omega, a2⟩⟩
    have eq : q.toNat = k := by rw [k1]; exact Int.toNat_natCast k
    rw [eq, k3] at r2
    exact Or.inr ⟨nf, _, ⟨_, _, _, _, cx.1.1, cy.1.1, cx.2.2.2, cy.2.2.2, rfl⟩, r2⟩
theorem SUX_r {s t : gH} {p0 p1 p2 p3 r r2 : Int} (h : SUX s t p0 p1 p2 p3 r) (e : r2 = r) : SUX s t p0 p1 p2 p3 r2 := by rw [e]; exact h
theorem SUX_B {s a u : gH} {p0 p1 p2 p3 q : Int} (mo : mOut s a) (x : SUX a u p0 p2 p1 p3 q) (h0 : p0.toNat ≠ 20) (h1 : p1.toNat ≠ 20) (e2 : p2 = gp_I s 81 p0.toNat - 1) (e3 : p3 = gp_I s 81 p1.toNat - 1) (h15 : gp_I a 74 15 = 0) (h20 : gp_I a 81 20 = 0) (z : ∀ k : Nat, (k : Int) < 4096 → gp_I a 105 k = 0) (gx : ∃ x, GTM s p0.toNat x) (gy : ∃ x, GTM s p1.toNat x) : gp_I u 74 15 = 0 → ∀ v, PS (MP u) v → VB v := fun hu => by
  obtain ⟨v, gx⟩ := gx
  obtain ⟨w, gy⟩ := gy
  have cx := GTC gx
  have cy := GTC gy
  have sh : SUH a p0 p2 p1 p3 := ⟨h0, h1, ⟨v, GTM_mo mo h0 gx⟩, ⟨w, GTM_mo mo h1 gy⟩, by rw [mo.1 _ h0]; omega, by rw [mo.1 _ h1]; omega⟩
  have y := (x sh ((SUJ2_o mo h0 h1).mpr (SUJ2_0 h15 h20 z (by omega) (by omega)))).1
  rw [SUJ2_o mo h0 h1] at y
  exact SUJ2_B y gx gy hu
def SUMX (m : Nat) : Prop := ∀ (L D : Nat) (K : Option gV → gH → Prop) (s : gH)  (p0 : Int) (p1 : Int) (p2 : Int) (p3 : Int), ((m + 6 ≤ D)) → (MI s) → (0 ≤ p0 ∧ p0 ≤ 84) → (0 ≤ p1 ∧ p1 ≤ 63) → (0 ≤ p2 ∧ p2 ≤ 84) → (0 ≤ p3 ∧ p3 ≤ 63) → (MDi s) → (SumP s) → (GVM s) → (p1 + p3 < m) → (∀ (r : Int), ∀ (t : gH), MI t → gF [76, 77, 78, 79, 80, 81, 105] [15] s t → (0 ≤ r ∧ r ≤ 63) → (MDi t) → (SumP t) → (r < gp_I t 81 20) → (gp_I s 81 20 ≤ gp_I t 81 20) → (mOut s t) → (GVM t) → (SUX s t p0 p1 p2 p3 r) → K (some (gp_i r)) t) → gs_C L D 3118 11 [gp_r (some 74), gp_i p0, gp_i p1, gp_i p2, gp_i p3] s K
set_option maxRecDepth 100000 in
/-- GatheredPointsModel.sum -/
theorem vm_sumX (m : Nat) (ihU : SUMX m) : SUMX (m + 1) := by
  intro L D K s p0 p1 p2 p3 hD hs h_p0 h_p1 h_p2 h_p3 q0 q1 q2 q3 k
  obtain ⟨d, rfl⟩ : ∃ d, D = d + 6 := ⟨D - 6, by omega⟩
  have f_1 := mr81 hs 20
  have f_2 := mr105 hs (Int.toNat (64 * p1 + p3))
  have f_3 := mr74_15 hs
  refine s_3118_e _ _ _ _ ?_
  have hsp := q1.1 (Int.toNat (64 * p1 + p3)) (by omega)
  try rw [show gp_wr (64 * p1) = 64 * p1 from gp_wr_id (by omega) (by omega)]
  try rw [show gp_wr ((64 * p1) + p3) = (64 * p1) + p3 from gp_wr_id (by omega) (by omega)]
  refine ⟨by omega, ?_⟩
  have f_4 := mr105 hs (Int.toNat ((64 * p1) + p3))
  refine ⟨fun h_5 => ?_, fun h_5 => ?_⟩
  · have lp_6 : ∀ (n_6 : Nat) (v5_6 : BitVec 64) (v7_6 : BitVec 64) (v9_6 : Int) (v10_6 : gV) (s_6 : gH), (MI s_6) → (gF [76, 77, 78, 79, 80, 81, 105] [15] s s_6) → (MDi s_6) → (SumP s_6) → (mOut s s_6) → (0 ≤ v9_6 ∧ v9_6 ≤ 63) → (bd v5_6 (gp_I s_6 81 20)) → (bd v7_6 (gp_I s_6 81 20)) → (gp_I s 81 20 ≤ gp_I s_6 81 20) → (GVM s_6) → (SUI s s_6 p0 p1 p2 p3 v9_6 0 v9_6 0 v5_6 v7_6) → (v9_6 ≤ p1) → (64 - v9_6).toNat < n_6 → gs_E L (d + 6) 3118 24 [gp_r (some 74), gp_i p0, gp_i p1, gp_i p2, gp_i p3, gp_l v5_6, gp_n, gp_l v7_6, gp_n, gp_i v9_6, v10_6] [] s_6 K := by
      intro n_6
      induction n_6 with
      | zero => intro v5_6 v7_6 v9_6 v10_6 s_6 hs_s_6 hf_s_6 MDi_s_6 SumP_s_6 mOut_s_6 hv9_6 iv0_6 iv1_6 iv2_6 iv3_6 iv4_6 iv5_6 hm_6; exact absurd hm_6 (Nat.not_lt_zero _)
      | succ n_6 ih_6 =>
        intro v5_6 v7_6 v9_6 v10_6 s_6 hs_s_6 hf_s_6 MDi_s_6 SumP_s_6 mOut_s_6 hv9_6 iv0_6 iv1_6 iv2_6 iv3_6 iv4_6 iv5_6 hm_6
        refine s_3118_24 _ _ _ _ _ _ _ _ ?_
        refine ⟨fun h_7 => ?_, fun h_7 => ?_⟩
        · try rw [show gp_wr (64 * p0) = 64 * p0 from gp_wr_id (by omega) (by omega)]
          try rw [show gp_wr ((64 * p0) + p1) = (64 * p0) + p1 from gp_wr_id (by omega) (by omega)]
          refine ⟨by omega, ?_⟩
          have b_8 := mr76 hs_s_6 p0 p1 (by omega) (by omega)
          refine vm_has _ _ (by omega) (fun x_9 p_10 p_11 => ⟨_, rfl, ?_⟩)
          refine ⟨fun h_12 => ?_, fun h_12 => ?_⟩
          · have hb_13 := hasF p_11 h_12
            refine s_3118_67 _ _ _ _ _ _ _ _ _ _ ?_
            try rw [show gp_wr (64 * p0) = 64 * p0 from gp_wr_id (by omega) (by omega)]
            try rw [show gp_wr ((64 * p0) + p1) = (64 * p0) + p1 from gp_wr_id (by omega) (by omega)]
            refine ⟨by omega, ?_⟩
            have b_14 := mr77 hs_s_6 p0 p1 (by omega) (by omega)
            refine vm_has _ _ (by omega) (fun x_15 p_16 p_17 => ⟨_, rfl, ?_⟩)
            refine ⟨fun h_18 => ?_, fun h_18 => ?_⟩
            · have hb_19 := hasF p_17 h_18
              refine s_3118_107 _ _ _ _ _ _ _ _ _ _ ?_
              try rw [show gp_wr (v9_6 + 1) = v9_6 + 1 from gp_wr_id (by omega) (by omega)]
              exact ih_6 _ _ _ _ _ hs_s_6 hf_s_6 MDi_s_6 SumP_s_6 mOut_s_6 (by omega) (by first | (refine bd_or (bd_le iv0_6 ?_) (bd_0 _); omega) | (refine bd_or (bd_le iv0_6 ?_) (bd_sh ?_ ?_ ?_) <;> omega)) (by first | (refine bd_or (bd_le iv1_6 ?_) (bd_0 _); omega) | (refine bd_or (bd_le iv1_6 ?_) (bd_sh ?_ ?_ ?_) <;> omega)) (by first | omega | assumption) (by assumption) (by first | exact SUI_nc (SUI_na (iv4_6) (by assumption) ⟨by omega, by omega⟩ (by omega) (by assumption)) (by assumption) ⟨by omega, by omega⟩ (by omega) (by assumption) | exact SUI_yc (SUI_na (iv4_6) (by assumption) ⟨by omega, by omega⟩ (by omega) (by assumption)) (by assumption) ⟨by omega, by omega⟩ ⟨by omega, by omega⟩ (by assumption) (by assumption) ⟨by omega, by omega⟩ rfl | exact SUI_nc (SUI_ya (iv4_6) (by assumption) ⟨by omega, by omega⟩ ⟨by omega, by omega⟩ (by assumption) (by assumption) ⟨by omega, by omega⟩ rfl) (by assumption) ⟨by omega, by omega⟩ (by omega) (by assumption) | exact SUI_yc (SUI_ya (iv4_6) (by assumption) ⟨by omega, by omega⟩ ⟨by omega, by omega⟩ (by assumption) (by assumption) ⟨by omega, by omega⟩ rfl) (by assumption) ⟨by omega, by omega⟩ ⟨by omega, by omega⟩ (by assumption) (by assumption) ⟨by omega, by omega⟩ rfl) (by first | omega | assumption) (by omega)
            · have hb_20 := hasT p_17 h_18
              refine ihU _ _ _ _ _ _ _ _ (by omega) hs_s_6 (by omega) (by omega) (by omega) (by omega) (MDi_s_6) (SumP_s_6) (by first | omega | assumption) (by first | omega | assumption) (fun x_21 s_22 hs_23 hf_24 p_25 p_26 p_27 p_28 p_29 p_30 p_31 p_32 => ⟨_, rfl, ?_⟩)
              have hf_33 : gF [76, 77, 78, 79, 80, 81, 105] [15] s s_22 := gF.trans hf_s_6 hf_24 rfl rfl
              have mo_34 : mOut s s_22 := mOut.trans mOut_s_6 p_30
              have hgb := p_31
              refine s_3118_107 _ _ _ _ _ _ _ _ _ _ ?_
              try rw [show gp_wr (v9_6 + 1) = v9_6 + 1 from gp_wr_id (by omega) (by omega)]
              exact ih_6 _ _ _ _ _ hs_23 hf_33 p_26 p_27 mo_34 (by omega) (by first | (refine bd_or (bd_le iv0_6 ?_) (bd_0 _); omega) | (refine bd_or (bd_le iv0_6 ?_) (bd_sh ?_ ?_ ?_) <;> omega)) (by first | (refine bd_or (bd_le iv1_6 ?_) (bd_0 _); omega) | (refine bd_or (bd_le iv1_6 ?_) (bd_sh ?_ ?_ ?_) <;> omega)) (by first | omega | assumption) (by assumption) (by first | exact SUI_nc (SUI_na (iv4_6) (by assumption) ⟨by omega, by omega⟩ (by omega) (by assumption)) (by assumption) ⟨by omega, by omega⟩ (by omega) (by assumption) | exact SUI_yc (SUI_na (iv4_6) (by assumption) ⟨by omega, by omega⟩ (by omega) (by assumption)) (by assumption) ⟨by omega, by omega⟩ ⟨by omega, by omega⟩ (by assumption) (by assumption) ⟨by omega, by omega⟩ rfl | exact SUI_nc (SUI_ya (iv4_6) (by assumption) ⟨by omega, by omega⟩ ⟨by omega, by omega⟩ (by assumption) (by assumption) ⟨by omega, by omega⟩ rfl) (by assumption) ⟨by omega, by omega⟩ (by omega) (by assumption) | exact SUI_yc (SUI_ya (iv4_6) (by assumption) ⟨by omega, by omega⟩ ⟨by omega, by omega⟩ (by assumption) (by assumption) ⟨by omega, by omega⟩ rfl) (by assumption) ⟨by omega, by omega⟩ ⟨by omega, by omega⟩ (by assumption) (by assumption) ⟨by omega, by omega⟩ rfl) (by first | omega | assumption) (by omega)
          · have hb_35 := hasT p_11 h_12
            refine ihU _ _ _ _ _ _ _ _ (by omega) hs_s_6 (by omega) (by omega) (by omega) (by omega) (MDi_s_6) (SumP_s_6) (by first | omega | assumption) (by first | omega | assumption) (fun x_36 s_37 hs_38 hf_39 p_40 p_41 p_42 p_43 p_44 p_45 p_46 p_47 => ⟨_, rfl, ?_⟩)
            have hf_48 : gF [76, 77, 78, 79, 80, 81, 105] [15] s s_37 := gF.trans hf_s_6 hf_39 rfl rfl
            have mo_49 : mOut s s_37 := mOut.trans mOut_s_6 p_45
            have hga := p_46
            refine s_3118_67 _ _ _ _ _ _ _ _ _ _ ?_
            try rw [show gp_wr (64 * p0) = 64 * p0 from gp_wr_id (by omega) (by omega)]
            try rw [show gp_wr ((64 * p0) + p1) = (64 * p0) + p1 from gp_wr_id (by omega) (by omega)]
            refine ⟨by omega, ?_⟩
            have b_50 := mr77 hs_38 p0 p1 (by omega) (by omega)
            refine vm_has _ _ (by omega) (fun x_51 p_52 p_53 => ⟨_, rfl, ?_⟩)
            refine ⟨fun h_54 => ?_, fun h_54 => ?_⟩
            · have hb_55 := hasF p_53 h_54
              refine s_3118_107 _ _ _ _ _ _ _ _ _ _ ?_
              try rw [show gp_wr (v9_6 + 1) = v9_6 + 1 from gp_wr_id (by omega) (by omega)]
              exact ih_6 _ _ _ _ _ hs_38 hf_48 p_41 p_42 mo_49 (by omega) (by first | (refine bd_or (bd_le iv0_6 ?_) (bd_0 _); omega) | (refine bd_or (bd_le iv0_6 ?_) (bd_sh ?_ ?_ ?_) <;> omega)) (by first | (refine bd_or (bd_le iv1_6 ?_) (bd_0 _); omega) | (refine bd_or (bd_le iv1_6 ?_) (bd_sh ?_ ?_ ?_) <;> omega)) (by first | omega | assumption) (by assumption) (by first | exact SUI_nc (SUI_na (iv4_6) (by assumption) ⟨by omega, by omega⟩ (by omega) (by assumption)) (by assumption) ⟨by omega, by omega⟩ (by omega) (by assumption) | exact SUI_yc (SUI_na (iv4_6) (by assumption) ⟨by omega, by omega⟩ (by omega) (by assumption)) (by assumption) ⟨by omega, by omega⟩ ⟨by omega, by omega⟩ (by assumption) (by assumption) ⟨by omega, by omega⟩ rfl | exact SUI_nc (SUI_ya (iv4_6) (by assumption) ⟨by omega, by omega⟩ ⟨by omega, by omega⟩ (by assumption) (by assumption) ⟨by omega, by omega⟩ rfl) (by assumption) ⟨by omega, by omega⟩ (by omega) (by assumption) | exact SUI_yc (SUI_ya (iv4_6) (by assumption) ⟨by omega, by omega⟩ ⟨by omega, by omega⟩ (by assumption) (by assumption) ⟨by omega, by omega⟩ rfl) (by assumption) ⟨by omega, by omega⟩ ⟨by omega, by omega⟩ (by assumption) (by assumption) ⟨by omega, by omega⟩ rfl) (by first | omega | assumption) (by omega)
            · have hb_56 := hasT p_53 h_54
              refine ihU _ _ _ _ _ _ _ _ (by omega) hs_38 (by omega) (by omega) (by omega) (by omega) (p_41) (p_42) (by first | omega | assumption) (by first | omega | assumption) (fun x_57 s_58 hs_59 hf_60 p_61 p_62 p_63 p_64 p_65 p_66 p_67 p_68 => ⟨_, rfl, ?_⟩)
              have hf_69 : gF [76, 77, 78, 79, 80, 81, 105] [15] s s_58 := gF.trans hf_48 hf_60 rfl rfl
              have mo_70 : mOut s s_58 := mOut.trans mo_49 p_66
              have hgb := p_67
              refine s_3118_107 _ _ _ _ _ _ _ _ _ _ ?_
              try rw [show gp_wr (v9_6 + 1) = v9_6 + 1 from gp_wr_id (by omega) (by omega)]
              exact ih_6 _ _ _ _ _ hs_59 hf_69 p_62 p_63 mo_70 (by omega) (by first | (refine bd_or (bd_le iv0_6 ?_) (bd_0 _); omega) | (refine bd_or (bd_le iv0_6 ?_) (bd_sh ?_ ?_ ?_) <;> omega)) (by first | (refine bd_or (bd_le iv1_6 ?_) (bd_0 _); omega) | (refine bd_or (bd_le iv1_6 ?_) (bd_sh ?_ ?_ ?_) <;> omega)) (by first | omega | assumption) (by assumption) (by first | exact SUI_nc (SUI_na (iv4_6) (by assumption) ⟨by omega, by omega⟩ (by omega) (by assumption)) (by assumption) ⟨by omega, by omega⟩ (by omega) (by assumption) | exact SUI_yc (SUI_na (iv4_6) (by assumption) ⟨by omega, by omega⟩ (by omega) (by assumption)) (by assumption) ⟨by omega, by omega⟩ ⟨by omega, by omega⟩ (by assumption) (by assumption) ⟨by omega, by omega⟩ rfl | exact SUI_nc (SUI_ya (iv4_6) (by assumption) ⟨by omega, by omega⟩ ⟨by omega, by omega⟩ (by assumption) (by assumption) ⟨by omega, by omega⟩ rfl) (by assumption) ⟨by omega, by omega⟩ (by omega) (by assumption) | exact SUI_yc (SUI_ya (iv4_6) (by assumption) ⟨by omega, by omega⟩ ⟨by omega, by omega⟩ (by assumption) (by assumption) ⟨by omega, by omega⟩ rfl) (by assumption) ⟨by omega, by omega⟩ ⟨by omega, by omega⟩ (by assumption) (by assumption) ⟨by omega, by omega⟩ rfl) (by first | omega | assumption) (by omega)
        · have hSI := iv4_6
          rw [show v9_6 = p1 by omega] at hSI
          have lp_71 : ∀ (n_71 : Nat) (v5_71 : BitVec 64) (v7_71 : BitVec 64) (v9_71 : Int) (v10_71 : gV) (s_71 : gH), (MI s_71) → (gF [76, 77, 78, 79, 80, 81, 105] [15] s s_71) → (MDi s_71) → (SumP s_71) → (mOut s s_71) → (0 ≤ v9_71 ∧ v9_71 ≤ 63) → (bd v5_71 (gp_I s_71 81 20)) → (bd v7_71 (gp_I s_71 81 20)) → (gp_I s 81 20 ≤ gp_I s_71 81 20) → (GVM s_71) → (SUI s s_71 p0 p1 p2 p3 p1 v9_71 p1 v9_71 v5_71 v7_71) → (v9_71 ≤ p3) → (64 - v9_71).toNat < n_71 → gs_E L (d + 6) 3118 119 [gp_r (some 74), gp_i p0, gp_i p1, gp_i p2, gp_i p3, gp_l v5_71, gp_n, gp_l v7_71, gp_n, gp_i v9_71, v10_71] [] s_71 K := by
            intro n_71
            induction n_71 with
            | zero => intro v5_71 v7_71 v9_71 v10_71 s_71 hs_s_71 hf_s_71 MDi_s_71 SumP_s_71 mOut_s_71 hv9_71 iv0_71 iv1_71 iv2_71 iv3_71 iv4_71 iv5_71 hm_71; exact absurd hm_71 (Nat.not_lt_zero _)
            | succ n_71 ih_71 =>
              intro v5_71 v7_71 v9_71 v10_71 s_71 hs_s_71 hf_s_71 MDi_s_71 SumP_s_71 mOut_s_71 hv9_71 iv0_71 iv1_71 iv2_71 iv3_71 iv4_71 iv5_71 hm_71
              refine s_3118_119 _ _ _ _ _ _ _ _ ?_
              refine ⟨fun h_72 => ?_, fun h_72 => ?_⟩
              · try rw [show gp_wr (64 * p2) = 64 * p2 from gp_wr_id (by omega) (by omega)]
                try rw [show gp_wr ((64 * p2) + p3) = (64 * p2) + p3 from gp_wr_id (by omega) (by omega)]
                refine ⟨by omega, ?_⟩
                have b_73 := mr76 hs_s_71 p2 p3 (by omega) (by omega)
                refine vm_has _ _ (by omega) (fun x_74 p_75 p_76 => ⟨_, rfl, ?_⟩)
                refine ⟨fun h_77 => ?_, fun h_77 => ?_⟩
                · have hb_78 := hasF p_76 h_77
                  refine s_3118_163 _ _ _ _ _ _ _ _ _ _ ?_
                  try rw [show gp_wr (64 * p2) = 64 * p2 from gp_wr_id (by omega) (by omega)]
                  try rw [show gp_wr ((64 * p2) + p3) = (64 * p2) + p3 from gp_wr_id (by omega) (by omega)]
                  refine ⟨by omega, ?_⟩
                  have b_79 := mr77 hs_s_71 p2 p3 (by omega) (by omega)
                  refine vm_has _ _ (by omega) (fun x_80 p_81 p_82 => ⟨_, rfl, ?_⟩)
                  refine ⟨fun h_83 => ?_, fun h_83 => ?_⟩
                  · have hb_84 := hasF p_82 h_83
                    refine s_3118_203 _ _ _ _ _ _ _ _ _ _ ?_
                    try rw [show gp_wr (v9_71 + 1) = v9_71 + 1 from gp_wr_id (by omega) (by omega)]
                    exact ih_71 _ _ _ _ _ hs_s_71 hf_s_71 MDi_s_71 SumP_s_71 mOut_s_71 (by omega) (by first | (refine bd_or (bd_le iv0_71 ?_) (bd_0 _); omega) | (refine bd_or (bd_le iv0_71 ?_) (bd_sh ?_ ?_ ?_) <;> omega)) (by first | (refine bd_or (bd_le iv1_71 ?_) (bd_0 _); omega) | (refine bd_or (bd_le iv1_71 ?_) (bd_sh ?_ ?_ ?_) <;> omega)) (by first | omega | assumption) (by assumption) (by first | exact SUI_nd (SUI_nb (iv4_71) (by assumption) ⟨by omega, by omega⟩ (by omega) (by assumption)) (by assumption) ⟨by omega, by omega⟩ (by omega) (by assumption) | exact SUI_yd (SUI_nb (iv4_71) (by assumption) ⟨by omega, by omega⟩ (by omega) (by assumption)) (by assumption) ⟨by omega, by omega⟩ ⟨by omega, by omega⟩ (by assumption) (by assumption) ⟨by omega, by omega⟩ rfl | exact SUI_nd (SUI_yb (iv4_71) (by assumption) ⟨by omega, by omega⟩ ⟨by omega, by omega⟩ (by assumption) (by assumption) ⟨by omega, by omega⟩ rfl) (by assumption) ⟨by omega, by omega⟩ (by omega) (by assumption) | exact SUI_yd (SUI_yb (iv4_71) (by assumption) ⟨by omega, by omega⟩ ⟨by omega, by omega⟩ (by assumption) (by assumption) ⟨by omega, by omega⟩ rfl) (by assumption) ⟨by omega, by omega⟩ ⟨by omega, by omega⟩ (by assumption) (by assumption) ⟨by omega, by omega⟩ rfl) (by first | omega | assumption) (by omega)
                  · have hb_85 := hasT p_82 h_83
                    refine ihU _ _ _ _ _ _ _ _ (by omega) hs_s_71 (by omega) (by omega) (by omega) (by omega) (MDi_s_71) (SumP_s_71) (by first | omega | assumption) (by first | omega | assumption) (fun x_86 s_87 hs_88 hf_89 p_90 p_91 p_92 p_93 p_94 p_95 p_96 p_97 => ⟨_, rfl, ?_⟩)
                    have hf_98 : gF [76, 77, 78, 79, 80, 81, 105] [15] s s_87 := gF.trans hf_s_71 hf_89 rfl rfl
                    have mo_99 : mOut s s_87 := mOut.trans mOut_s_71 p_95
                    have hgd := p_96
                    refine s_3118_203 _ _ _ _ _ _ _ _ _ _ ?_
                    try rw [show gp_wr (v9_71 + 1) = v9_71 + 1 from gp_wr_id (by omega) (by omega)]
                    exact ih_71 _ _ _ _ _ hs_88 hf_98 p_91 p_92 mo_99 (by omega) (by first | (refine bd_or (bd_le iv0_71 ?_) (bd_0 _); omega) | (refine bd_or (bd_le iv0_71 ?_) (bd_sh ?_ ?_ ?_) <;> omega)) (by first | (refine bd_or (bd_le iv1_71 ?_) (bd_0 _); omega) | (refine bd_or (bd_le iv1_71 ?_) (bd_sh ?_ ?_ ?_) <;> omega)) (by first | omega | assumption) (by assumption) (by first | exact SUI_nd (SUI_nb (iv4_71) (by assumption) ⟨by omega, by omega⟩ (by omega) (by assumption)) (by assumption) ⟨by omega, by omega⟩ (by omega) (by assumption) | exact SUI_yd (SUI_nb (iv4_71) (by assumption) ⟨by omega, by omega⟩ (by omega) (by assumption)) (by assumption) ⟨by omega, by omega⟩ ⟨by omega, by omega⟩ (by assumption) (by assumption) ⟨by omega, by omega⟩ rfl | exact SUI_nd (SUI_yb (iv4_71) (by assumption) ⟨by omega, by omega⟩ ⟨by omega, by omega⟩ (by assumption) (by assumption) ⟨by omega, by omega⟩ rfl) (by assumption) ⟨by omega, by omega⟩ (by omega) (by assumption) | exact SUI_yd (SUI_yb (iv4_71) (by assumption) ⟨by omega, by omega⟩ ⟨by omega, by omega⟩ (by assumption) (by assumption) ⟨by omega, by omega⟩ rfl) (by assumption) ⟨by omega, by omega⟩ ⟨by omega, by omega⟩ (by assumption) (by assumption) ⟨by omega, by omega⟩ rfl) (by first | omega | assumption) (by omega)
                · have hb_100 := hasT p_76 h_77
                  refine ihU _ _ _ _ _ _ _ _ (by omega) hs_s_71 (by omega) (by omega) (by omega) (by omega) (MDi_s_71) (SumP_s_71) (by first | omega | assumption) (by first | omega | assumption) (fun x_101 s_102 hs_103 hf_104 p_105 p_106 p_107 p_108 p_109 p_110 p_111 p_112 => ⟨_, rfl, ?_⟩)
                  have hf_113 : gF [76, 77, 78, 79, 80, 81, 105] [15] s s_102 := gF.trans hf_s_71 hf_104 rfl rfl
                  have mo_114 : mOut s s_102 := mOut.trans mOut_s_71 p_110
                  have hgc := p_111
                  refine s_3118_163 _ _ _ _ _ _ _ _ _ _ ?_
                  try rw [show gp_wr (64 * p2) = 64 * p2 from gp_wr_id (by omega) (by omega)]
                  try rw [show gp_wr ((64 * p2) + p3) = (64 * p2) + p3 from gp_wr_id (by omega) (by omega)]
                  refine ⟨by omega, ?_⟩
                  have b_115 := mr77 hs_103 p2 p3 (by omega) (by omega)
                  refine vm_has _ _ (by omega) (fun x_116 p_117 p_118 => ⟨_, rfl, ?_⟩)
                  refine ⟨fun h_119 => ?_, fun h_119 => ?_⟩
                  · have hb_120 := hasF p_118 h_119
                    refine s_3118_203 _ _ _ _ _ _ _ _ _ _ ?_
                    try rw [show gp_wr (v9_71 + 1) = v9_71 + 1 from gp_wr_id (by omega) (by omega)]
                    exact ih_71 _ _ _ _ _ hs_103 hf_113 p_106 p_107 mo_114 (by omega) (by first | (refine bd_or (bd_le iv0_71 ?_) (bd_0 _); omega) | (refine bd_or (bd_le iv0_71 ?_) (bd_sh ?_ ?_ ?_) <;> omega)) (by first | (refine bd_or (bd_le iv1_71 ?_) (bd_0 _); omega) | (refine bd_or (bd_le iv1_71 ?_) (bd_sh ?_ ?_ ?_) <;> omega)) (by first | omega | assumption) (by assumption) (by first | exact SUI_nd (SUI_nb (iv4_71) (by assumption) ⟨by omega, by omega⟩ (by omega) (by assumption)) (by assumption) ⟨by omega, by omega⟩ (by omega) (by assumption) | exact SUI_yd (SUI_nb (iv4_71) (by assumption) ⟨by omega, by omega⟩ (by omega) (by assumption)) (by assumption) ⟨by omega, by omega⟩ ⟨by omega, by omega⟩ (by assumption) (by assumption) ⟨by omega, by omega⟩ rfl | exact SUI_nd (SUI_yb (iv4_71) (by assumption) ⟨by omega, by omega⟩ ⟨by omega, by omega⟩ (by assumption) (by assumption) ⟨by omega, by omega⟩ rfl) (by assumption) ⟨by omega, by omega⟩ (by omega) (by assumption) | exact SUI_yd (SUI_yb (iv4_71) (by assumption) ⟨by omega, by omega⟩ ⟨by omega, by omega⟩ (by assumption) (by assumption) ⟨by omega, by omega⟩ rfl) (by assumption) ⟨by omega, by omega⟩ ⟨by omega, by omega⟩ (by assumption) (by assumption) ⟨by omega, by omega⟩ rfl) (by first | omega | assumption) (by omega)
                  · have hb_121 := hasT p_118 h_119
                    refine ihU _ _ _ _ _ _ _ _ (by omega) hs_103 (by omega) (by omega) (by omega) (by omega) (p_106) (p_107) (by first | omega | assumption) (by first | omega | assumption) (fun x_122 s_123 hs_124 hf_125 p_126 p_127 p_128 p_129 p_130 p_131 p_132 p_133 => ⟨_, rfl, ?_⟩)
                    have hf_134 : gF [76, 77, 78, 79, 80, 81, 105] [15] s s_123 := gF.trans hf_113 hf_125 rfl rfl
                    have mo_135 : mOut s s_123 := mOut.trans mo_114 p_131
                    have hgd := p_132
                    refine s_3118_203 _ _ _ _ _ _ _ _ _ _ ?_
                    try rw [show gp_wr (v9_71 + 1) = v9_71 + 1 from gp_wr_id (by omega) (by omega)]
                    exact ih_71 _ _ _ _ _ hs_124 hf_134 p_127 p_128 mo_135 (by omega) (by first | (refine bd_or (bd_le iv0_71 ?_) (bd_0 _); omega) | (refine bd_or (bd_le iv0_71 ?_) (bd_sh ?_ ?_ ?_) <;> omega)) (by first | (refine bd_or (bd_le iv1_71 ?_) (bd_0 _); omega) | (refine bd_or (bd_le iv1_71 ?_) (bd_sh ?_ ?_ ?_) <;> omega)) (by first | omega | assumption) (by assumption) (by first | exact SUI_nd (SUI_nb (iv4_71) (by assumption) ⟨by omega, by omega⟩ (by omega) (by assumption)) (by assumption) ⟨by omega, by omega⟩ (by omega) (by assumption) | exact SUI_yd (SUI_nb (iv4_71) (by assumption) ⟨by omega, by omega⟩ (by omega) (by assumption)) (by assumption) ⟨by omega, by omega⟩ ⟨by omega, by omega⟩ (by assumption) (by assumption) ⟨by omega, by omega⟩ rfl | exact SUI_nd (SUI_yb (iv4_71) (by assumption) ⟨by omega, by omega⟩ ⟨by omega, by omega⟩ (by assumption) (by assumption) ⟨by omega, by omega⟩ rfl) (by assumption) ⟨by omega, by omega⟩ (by omega) (by assumption) | exact SUI_yd (SUI_yb (iv4_71) (by assumption) ⟨by omega, by omega⟩ ⟨by omega, by omega⟩ (by assumption) (by assumption) ⟨by omega, by omega⟩ rfl) (by assumption) ⟨by omega, by omega⟩ ⟨by omega, by omega⟩ (by assumption) (by assumption) ⟨by omega, by omega⟩ rfl) (by first | omega | assumption) (by omega)
              · have hSJ := iv4_71
                rw [show v9_71 = p3 by omega] at hSJ
                have hgv := iv3_71
                try rw [show gp_wr (64 * p0) = 64 * p0 from gp_wr_id (by omega) (by omega)]
                try rw [show gp_wr ((64 * p0) + p1) = (64 * p0) + p1 from gp_wr_id (by omega) (by omega)]
                refine ⟨by omega, ?_⟩
                try rw [show gp_wr (64 * p2) = 64 * p2 from gp_wr_id (by omega) (by omega)]
                try rw [show gp_wr ((64 * p2) + p3) = (64 * p2) + p3 from gp_wr_id (by omega) (by omega)]
                refine ⟨by omega, ?_⟩
                have w_136 := wr_rng ((gp_I s_71 78 (Int.toNat ((64 * p0) + p1))) + (gp_I s_71 78 (Int.toNat ((64 * p2) + p3))))
                try rw [show gp_wr (64 * p0) = 64 * p0 from gp_wr_id (by omega) (by omega)]
                try rw [show gp_wr ((64 * p0) + p1) = (64 * p0) + p1 from gp_wr_id (by omega) (by omega)]
                refine ⟨by omega, ?_⟩
                try rw [show gp_wr (64 * p2) = 64 * p2 from gp_wr_id (by omega) (by omega)]
                try rw [show gp_wr ((64 * p2) + p3) = (64 * p2) + p3 from gp_wr_id (by omega) (by omega)]
                refine ⟨by omega, ?_⟩
                have w_137 := wr_rng ((gp_I s_71 79 (Int.toNat ((64 * p0) + p1))) + (gp_I s_71 79 (Int.toNat ((64 * p2) + p3))))
                try rw [show gp_wr (64 * p1) = 64 * p1 from gp_wr_id (by omega) (by omega)]
                try rw [show gp_wr ((64 * p1) + p3) = (64 * p1) + p3 from gp_wr_id (by omega) (by omega)]
                have f_138 := mr74_15 hs_s_71
                refine ⟨fun h_139 => ?_, fun h_139 => ?_⟩
                · refine vm_madeV _ _ _ _ hs_s_71 (MDi_s_71) (by first | assumption | exact bd_le (by assumption) (by omega) | exact bd_0 _) (by first | assumption | exact bd_le (by assumption) (by omega) | exact bd_0 _) (by first | omega | assumption) (fun x_140 s_141 hs_142 hf_143 p_144 p_145 p_146 p_147 p_148 p_149 p_150 p_151 p_152 p_153 p_154 => ⟨_, rfl, ?_⟩)
                  have hf_155 : gF [76, 77, 78, 79, 80, 81, 105] [15] s s_141 := gF.trans hf_s_71 hf_143 rfl rfl
                  have q_156 := (hf_143.2 105 (Int.toNat (64 * p1 + p3)) rfl (fun h => absurd h (by decide))).1
                  have mo_157 : mOut s s_141 := mOut.trans mOut_s_71 p_149
                  refine s_3118_299 _ _ _ _ _ _ _ _ _ _ _ ?_
                  have hsm : SumP s_141 := by first | assumption | exact SumP_up (by assumption) hf_143 rfl (by omega) (by omega)
                  have hv1 : (1 : Int) + x_140 ≤ gp_I s_141 81 20 := by first | omega | (have := hsm.2 (by omega); omega)
                  have hEND : ∀ t2 : gH, t2 = gp_wI s_141 105 (Int.toNat (64 * p1 + p3)) (1 + x_140) → SUX s t2 p0 p1 p2 p3 x_140 ∧ GVM t2 := by first | exact fun t2 h9 => ⟨SUX_f hSJ (by assumption) h9, by rw [h9]; exact hgv⟩ | exact fun t2 h9 => ⟨SUX_m hSJ (by assumption) ⟨by omega, by omega⟩ rfl rfl rfl ‹AVM _ _ _ _ _ _ _› (by first | rfl | assumption) (by first | rfl | assumption) (by omega) (fun k => (hf_143.2 105 k rfl (fun h => absurd h (by decide))).1) h9 rfl, by rw [h9]; exact (‹AVM _ _ _ _ _ _ _› : AVM _ s_141 _ _ _ _ _).1⟩
                  try rw [show gp_wr (1 + x_140) = 1 + x_140 from gp_wr_id (by omega) (by omega)]
                  refine ⟨by omega, ?_⟩
                  intro s_158 e_159
                  have hs_160 : MI s_158 := by rw [e_159]; exact mw105 hs_142 _ _ (by omega)
                  have hf_161 : gF [76, 77, 78, 79, 80, 81, 105] [15] s s_158 := by rw [e_159]; exact gF.wI hf_155 (Or.inl rfl)
                  have q_162 : gp_I s_158 81 20 = gp_I s_141 81 20 := by rw [e_159] <;> rfl
                  have q_163 := gz_rw s_141 105 (Int.toNat ((64 * p1) + p3)) (Int.toNat (64 * p1 + p3)) (1 + x_140); rw [← e_159] at q_163
                  have q_164 : gp_I s_158 74 15 = gp_I s_141 74 15 := by rw [e_159] <;> rfl
                  have pd_165 : MDi s_158 := by rw [e_159]; exact MDi_fr p_145 (gF.wI (gF.refl [105] [] _) (Or.inl rfl)) rfl rfl rfl rfl rfl rfl rfl
                  have mo_166 : mOut s s_158 := by rw [e_159]; exact mOut_wI mo_157 (by decide)
                  refine s_3118_301 _ _ _ _ _ _ _ _ _ _ ?_
                  try rw [show gp_wr (64 * p1) = 64 * p1 from gp_wr_id (by omega) (by omega)]
                  try rw [show gp_wr ((64 * p1) + p3) = (64 * p1) + p3 from gp_wr_id (by omega) (by omega)]
                  refine ⟨by omega, ?_⟩
                  have f_167 := mr105 hs_160 (Int.toNat ((64 * p1) + p3))
                  try rw [show gp_wr ((gp_I s_158 105 (Int.toNat ((64 * p1) + p3))) - 1) = (gp_I s_158 105 (Int.toNat ((64 * p1) + p3))) - 1 from gp_wr_id (by omega) (by omega)]
                  exact k _ s_158 hs_160 hf_161 (by omega) (pd_165) (by first | assumption | (subst_vars; exact SumP_w hsm hv1)) (by first | omega | assumption) (by first | omega | assumption) mo_166 (by first | exact q2 | exact (hEND _ (by assumption)).2 | exact (hEND _ rfl).2) (by first | exact SUX_h rfl (by assumption) (by first | rfl | omega) | exact SUX_r (hEND _ (by assumption)).1 (by omega) | exact SUX_r (hEND _ rfl).1 (by omega))
                · refine s_3118_299 _ _ _ _ _ _ _ _ _ _ _ ?_
                  have hsm : SumP s_71 := by first | assumption | exact SumP_up (by assumption) {cf} rfl (by omega) (by omega)
                  have hv1 : (1 : Int) + 0 ≤ gp_I s_71 81 20 := by first | omega | (have := hsm.2 (by omega); omega)
                  have hEND : ∀ t2 : gH, t2 = gp_wI s_71 105 (Int.toNat (64 * p1 + p3)) (1 + 0) → SUX s t2 p0 p1 p2 p3 0 ∧ GVM t2 := by first | exact fun t2 h9 => ⟨SUX_f hSJ (by assumption) h9, by rw [h9]; exact hgv⟩ | exact fun t2 h9 => ⟨SUX_m hSJ (by assumption) ⟨by omega, by omega⟩ rfl rfl rfl ‹AVM _ _ _ _ _ _ _› (by first | rfl | assumption) (by first | rfl | assumption) (by omega) (fun k => ({cf}.2 105 k rfl (fun h => absurd h (by decide))).1) h9 rfl, by rw [h9]; exact (‹AVM _ _ _ _ _ _ _› : AVM _ s_71 _ _ _ _ _).1⟩
                  try rw [show gp_wr (1 + 0) = 1 + 0 from gp_wr_id (by omega) (by omega)]
                  refine ⟨by omega, ?_⟩
                  intro s_168 e_169
                  have hs_170 : MI s_168 := by rw [e_169]; exact mw105 hs_s_71 _ _ (by omega)
                  have hf_171 : gF [76, 77, 78, 79, 80, 81, 105] [15] s s_168 := by rw [e_169]; exact gF.wI hf_s_71 (Or.inl rfl)
                  have q_172 : gp_I s_168 81 20 = gp_I s_71 81 20 := by rw [e_169] <;> rfl
                  have q_173 := gz_rw s_71 105 (Int.toNat ((64 * p1) + p3)) (Int.toNat (64 * p1 + p3)) (1 + 0); rw [← e_169] at q_173
                  have q_174 : gp_I s_168 74 15 = gp_I s_71 74 15 := by rw [e_169] <;> rfl
                  have pd_175 : MDi s_168 := by rw [e_169]; exact MDi_fr MDi_s_71 (gF.wI (gF.refl [105] [] _) (Or.inl rfl)) rfl rfl rfl rfl rfl rfl rfl
                  have mo_176 : mOut s s_168 := by rw [e_169]; exact mOut_wI mOut_s_71 (by decide)
                  refine s_3118_301 _ _ _ _ _ _ _ _ _ _ ?_
                  try rw [show gp_wr (64 * p1) = 64 * p1 from gp_wr_id (by omega) (by omega)]
                  try rw [show gp_wr ((64 * p1) + p3) = (64 * p1) + p3 from gp_wr_id (by omega) (by omega)]
                  refine ⟨by omega, ?_⟩
                  have f_177 := mr105 hs_170 (Int.toNat ((64 * p1) + p3))
                  try rw [show gp_wr ((gp_I s_168 105 (Int.toNat ((64 * p1) + p3))) - 1) = (gp_I s_168 105 (Int.toNat ((64 * p1) + p3))) - 1 from gp_wr_id (by omega) (by omega)]
                  exact k _ s_168 hs_170 hf_171 (by omega) (pd_175) (by first | assumption | (subst_vars; exact SumP_w hsm hv1)) (by first | omega | assumption) (by first | omega | assumption) mo_176 (by first | exact q2 | exact (hEND _ (by assumption)).2 | exact (hEND _ rfl).2) (by first | exact SUX_h rfl (by assumption) (by first | rfl | omega) | exact SUX_r (hEND _ (by assumption)).1 (by omega) | exact SUX_r (hEND _ rfl).1 (by omega))
          exact lp_71 _ _ _ _ _ _ hs_s_6 hf_s_6 MDi_s_6 SumP_s_6 mOut_s_6 (by omega) (iv0_6) (iv1_6) (by first | omega | assumption) (iv3_6) (hSI) (by first | omega | assumption) (Nat.lt_succ_self _)
    exact lp_6 _ _ _ _ _ _ hs (gF.refl _ _ _) q0 q1 (mOut.refl _) (by omega) (bd_0 _) (bd_0 _) (by first | omega | assumption) (q2) (SUI_0) (by first | omega | assumption) (Nat.lt_succ_self _)
  · refine s_3118_301 _ _ _ _ _ _ _ _ _ _ ?_
    try rw [show gp_wr (64 * p1) = 64 * p1 from gp_wr_id (by omega) (by omega)]
    try rw [show gp_wr ((64 * p1) + p3) = (64 * p1) + p3 from gp_wr_id (by omega) (by omega)]
    refine ⟨by omega, ?_⟩
    have f_178 := mr105 hs (Int.toNat ((64 * p1) + p3))
    try rw [show gp_wr ((gp_I s 105 (Int.toNat ((64 * p1) + p3))) - 1) = (gp_I s 105 (Int.toNat ((64 * p1) + p3))) - 1 from gp_wr_id (by omega) (by omega)]
    exact k _ s hs (gF.refl _ _ _) (by omega) (q0) (by first | assumption | (subst_vars; exact SumP_w hsm hv1)) (by first | omega | assumption) (by first | omega | assumption) (mOut.refl _) (by first | exact q2 | exact (hEND _ (by assumption)).2 | exact (hEND _ rfl).2) (by first | exact SUX_h rfl (by assumption) (by first | rfl | omega) | exact SUX_r (hEND _ (by assumption)).1 (by omega) | exact SUX_r (hEND _ rfl).1 (by omega))
theorem SUMX_all : ∀ m, SUMX m
  | 0 => fun L D K s p0 p1 p2 p3 hD hs h0 h1 h2 h3 a b g c k => absurd c (by omega)
  | m + 1 => vm_sumX m (SUMX_all m)
theorem vm_sumX4 {L d : Nat} {K : Option gV → gH → Prop} {s : gH} (p0 p1 p2 p3 : Int) (hs : MI s) (h_p0 : 0 ≤ p0 ∧ p0 ≤ 84) (h_p1 : 0 ≤ p1 ∧ p1 ≤ 63) (h_p2 : 0 ≤ p2 ∧ p2 ≤ 84) (h_p3 : 0 ≤ p3 ∧ p3 ≤ 63) (q0 : MDi s) (q1 : SumP s) (q2 : GVM s) (k : ∀ (r : Int), ∀ (t : gH), MI t → gF [76, 77, 78, 79, 80, 81, 105] [15] s t → (0 ≤ r ∧ r ≤ 63) → (MDi t) → (SumP t) → (r < gp_I t 81 20) → (gp_I s 81 20 ≤ gp_I t 81 20) → (mOut s t) → (GVM t) → (SUX s t p0 p1 p2 p3 r) → K (some (gp_i r)) t) : gs_C L (d + 133) 3118 11 [gp_r (some 74), gp_i p0, gp_i p1, gp_i p2, gp_i p3] s K :=
  SUMX_all 127 _ _ _ _ _ _ _ _ (by omega) hs h_p0 h_p1 h_p2 h_p3 q0 q1 q2 (by omega) k
set_option maxRecDepth 100000 in
/-- GatheredPointsModel.sums -/
theorem vm_sumsV  {L d : Nat} {K : Option gV → gH → Prop} {s : gH}  (p0 : Int) (p1 : Int) (hs : MI s) (h_p0 : 0 ≤ p0 ∧ p0 ≤ 84) (h_p1 : 0 ≤ p1 ∧ p1 ≤ 84) (q0 : p0 ≠ 20) (q1 : p1 ≠ 20) (q2 : 1 ≤ gp_I s 81 p0.toNat) (q3 : 1 ≤ gp_I s 81 p1.toNat) (q4 : ∃ x, GTM s p0.toNat x) (q5 : ∃ x, GTM s p1.toNat x) (k : ∀ (r : Int), ∀ (t : gH), MI t → gF [76, 77, 78, 79, 80, 81, 86, 87, 88, 105] [15] s t → (0 ≤ r ∧ r ≤ 6) → (r ≠ 4 → 1 ≤ gp_I t 81 19 ∧ gp_I t 81 19 ≤ 60) → (r = 4 ∨ r = 6 ∨ r = 0) → (mK s t) → (SUMR s t p0 p1 r) → (CK s t) → K (some (gp_i r)) t) : gs_C L (d + 186) 3120 4 [gp_r (some 74), gp_i p0, gp_i p1] s K := by
  have f_1 := mr81 hs 20
  have f_2 := mr74_15 hs
  have f_3 := mr81 hs p0.toNat
  have f_4 := mr81 hs p1.toNat
  refine s_3120_e _ _ ?_
  refine vm_begins2 hs (fun s_5 hs_6 hf_7 p_8 p_9 p_10 p_11 => ⟨rfl, ?_⟩)
  have hf_12 : gF [76, 77, 78, 79, 80, 81, 86, 87, 88, 105] [15] s s_5 := gF.sub hf_7 rfl rfl
  have mo_13 : mOut s s_5 := mOut.trans (mOut.refl _) p_11
  have mb_14 : mK s s_5 := mK.trans (mK.refl _) (mK_o p_11)
  have q_15 := p_11.1 p0.toNat (by omega)
  have q_16 := p_11.1 p1.toNat (by omega)
  have lp_17 : ∀ (n_17 : Nat) (v3_17 : Int) (s_17 : gH), (MI s_17) → (gF [76, 77, 78, 79, 80, 81, 86, 87, 88, 105] [15] s s_17) → (MDi s_17) → (mOut s s_17) → (mK s s_17) → (0 ≤ v3_17 ∧ v3_17 ≤ 4096) → (gp_I s_17 81 20 = gp_I s_5 81 20) → (gp_I s_17 74 15 = gp_I s_5 74 15) → (gp_I s_17 81 p0.toNat = gp_I s_5 81 p0.toNat) → (gp_I s_17 81 p1.toNat = gp_I s_5 81 p1.toNat) → (∀ k : Nat, (k : Int) < v3_17 → gp_I s_17 105 k = 0) → (4097 - v3_17).toNat < n_17 → gs_E L (d + 186) 3120 6 [gp_r (some 74), gp_i p0, gp_i p1, gp_i v3_17] [] s_17 K := by
    intro n_17
    induction n_17 with
    | zero => intro v3_17 s_17 hs_s_17 hf_s_17 MDi_s_17 mOut_s_17 mK_s_17 hv3_17 tk0_17 tk1_17 tk2_17 tk3_17 iv0_17 hm_17; exact absurd hm_17 (Nat.not_lt_zero _)
    | succ n_17 ih_17 =>
      intro v3_17 s_17 hs_s_17 hf_s_17 MDi_s_17 mOut_s_17 mK_s_17 hv3_17 tk0_17 tk1_17 tk2_17 tk3_17 iv0_17 hm_17
      refine s_3120_6 _ _ _ ?_
      refine ⟨fun h_18 => ?_, fun h_18 => ?_⟩
      · refine ⟨by omega, ?_⟩
        intro s_19 e_20
        have hs_21 : MI s_19 := by rw [e_20]; exact mw105 hs_s_17 _ _ (by omega)
        have hf_22 : gF [76, 77, 78, 79, 80, 81, 86, 87, 88, 105] [15] s s_19 := by rw [e_20]; exact gF.wI hf_s_17 (Or.inl rfl)
        have q_23 : gp_I s_19 81 20 = gp_I s_17 81 20 := by rw [e_20] <;> rfl
        have q_24 : gp_I s_19 74 15 = gp_I s_17 74 15 := by rw [e_20] <;> rfl
        have q_25 : gp_I s_19 81 p0.toNat = gp_I s_17 81 p0.toNat := by rw [e_20] <;> rfl
        have q_26 : gp_I s_19 81 p1.toNat = gp_I s_17 81 p1.toNat := by rw [e_20] <;> rfl
        have pd_27 : MDi s_19 := by rw [e_20]; exact MDi_fr MDi_s_17 (gF.wI (gF.refl [105] [] _) (Or.inl rfl)) rfl rfl rfl rfl rfl rfl rfl
        have mo_28 : mOut s s_19 := by rw [e_20]; exact mOut_wI mOut_s_17 (by decide)
        have mb_29 : mK s s_19 := by rw [e_20]; exact mK_wI mK_s_17 (by decide)
        try rw [show gp_wr (v3_17 + 1) = v3_17 + 1 from gp_wr_id (by omega) (by omega)]
        exact ih_17 _ _ hs_21 hf_22 pd_27 mo_28 mb_29 (by omega) (by first | rfl | omega) (by first | rfl | omega) (by first | rfl | omega) (by first | rfl | omega) (by subst_vars; exact z_step (by omega) (by assumption)) (by omega)
      · have hsp : SumP s_17 := SumP_0 (fun k hk => iv0_17 k (by omega)) (by omega) (by omega)
        have hg26 := GVM_0 (s := s_17) (by omega)
        have hz9 : ∀ k : Nat, (k : Int) < 4096 → gp_I s_17 105 k = 0 := fun k hk => iv0_17 k (by omega)
        have hmoA : mOut s s_17 := by assumption
        have hA15 : gp_I s_17 74 15 = 0 := by omega
        have hA20 : gp_I s_17 81 20 = 0 := by omega
        refine vm_root _ hs_s_17 (by omega) (fun x_30 p_31 p_32 => ⟨_, rfl, ?_⟩)
        refine vm_root _ hs_s_17 (by omega) (fun x_33 p_34 p_35 => ⟨_, rfl, ?_⟩)
        refine vm_sumX4 _ _ _ _ hs_s_17 (by omega) (by omega) (by omega) (by omega) (MDi_s_17) (by assumption) (by first | omega | assumption) (fun x_36 s_37 hs_38 hf_39 p_40 p_41 p_42 p_43 p_44 p_45 p_46 p_47 => ⟨_, rfl, ?_⟩)
        have hf_48 : gF [76, 77, 78, 79, 80, 81, 86, 87, 88, 105] [15] s s_37 := gF.trans hf_s_17 hf_39 rfl rfl
        have mo_49 : mOut s s_37 := mOut.trans mOut_s_17 p_45
        have mb_50 : mK s s_37 := mK.trans mK_s_17 (mK_o p_45)
        have q_51 := p_45.1 p0.toNat (by omega)
        have q_52 := p_45.1 p1.toNat (by omega)
        have hSX := p_47
        have hGv := p_46
        have hvb := SUX_B hmoA hSX (by omega) (by omega) (by omega) (by omega) hA15 hA20 hz9 q4 q5
        have hckS : CK s s_37 := CK_o (by assumption)
        refine vm_resultsV _ hs_38 (by omega) (p_41) (by first | omega | assumption) (by first | omega | assumption) (by first | omega | assumption) (fun x_53 s_54 hs_55 hf_56 p_57 p_58 p_59 p_60 p_61 p_62 p_63 => ⟨_, rfl, ?_⟩)
        have hf_64 : gF [76, 77, 78, 79, 80, 81, 86, 87, 88, 105] [15] s s_54 := gF.trans hf_48 hf_56 rfl rfl
        have q_65 := (hf_56.2 74 15 rfl (fun _ => rfl)).1
        have mb_66 : mK s s_54 := mK.trans mb_50 p_61
        have hRS := p_62
        have hCKr := CK_t hckS p_63
        exact k _ s_54 hs_55 hf_64 (by omega) (by first | omega | assumption) (by first | omega | assumption) mb_66 (SUMR_of hmoA hSX (by omega) (by omega) (by omega) (by omega) hA15 hA20 hz9 hGv hRS) (hCKr)
  exact lp_17 _ _ _ hs_6 hf_12 p_10 mo_13 mb_14 (by omega) (by first | rfl | omega) (by first | rfl | omega) (by first | rfl | omega) (by first | rfl | omega) (fun k hk => absurd hk (by omega)) (Nat.lt_succ_self _)
