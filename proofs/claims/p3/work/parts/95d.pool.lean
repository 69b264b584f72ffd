/-! the class's pool: its order is strict -/
/-- the least of what tells two sets apart lies in the first one -/
def PLs (rk : Nat → Int) (x y : BitVec 64) : Prop := ∃ e : Nat, x.getLsbD e = true ∧ y.getLsbD e = false ∧ ∀ i : Nat, x.getLsbD i ≠ y.getLsbD i → rk e ≤ rk i
def inj (rk : Nat → Int) (N : Int) : Prop := ∀ i j : Nat, (i : Int) < N → (j : Int) < N → rk i = rk j → i = j
theorem PLs.tr {rk : Nat → Int} {N : Int} {x y z : BitVec 64} (hi : inj rk N) (bx : bd x N) (bY : bd y N) (h : PLs rk x y) (g : PLs rk y z) : PLs rk x z := by
  obtain ⟨e, e1, e2, e3⟩ := h
  obtain ⟨f, f1, f2, f3⟩ := g
  by_cases c : rk e < rk f
  · refine ⟨e, e1, ?_, fun i hi => ?_⟩
    · cases q : z.getLsbD e with
      | false => rfl
      | true =>
        have := f3 e (by rw [e2, q]; decide)
        omega
    · by_cases d : x.getLsbD i = y.getLsbD i
      · have := f3 i (by rw [← d]; exact hi)
        omega
      · exact e3 i d
  · by_cases c2 : rk f < rk e
    · refine ⟨f, ?_, f2, fun i hi => ?_⟩
      · cases q : x.getLsbD f with
        | true => rfl
        | false =>
          have := e3 f (by rw [f1, q]; decide)
          omega
      · by_cases d : x.getLsbD i = y.getLsbD i
        · exact f3 i (by rw [← d]; exact hi)
        · have := e3 i d
          omega
    · have := hi e f (bx e e1) (bY f f1) (by omega)
      subst this
      rw [f1] at e2; cases e2
theorem PLs.asym {rk : Nat → Int} {N : Int} {x y : BitVec 64} (hi : inj rk N) (bx : bd x N) (bY : bd y N) (h : PLs rk x y) (g : PLs rk y x) : False := by
  obtain ⟨e, e1, e2, e3⟩ := h
  obtain ⟨f, f1, f2, f3⟩ := g
  have a := e3 f (by rw [f1, f2]; decide)
  have b := f3 e (by rw [e1, e2]; decide)
  have := hi e f (bx e e1) (bY f f1) (by omega)
  subst this
  rw [f1] at e2; cases e2
theorem PLs.ne {rk : Nat → Int} {x y : BitVec 64} (h : PLs rk x y) : x ≠ y := fun q => by
  obtain ⟨e, e1, e2, -⟩ := h
  rw [q, e2] at e1; cases e1
/-- sides: a mask and a number -/
def LtS (rk : Nat → Int) (x y : BitVec 64) (a b : Int) : Prop := (x = y ∧ a < b) ∨ (x ≠ y ∧ (gm_cnt x 64 < gm_cnt y 64 ∨ (gm_cnt x 64 = gm_cnt y 64 ∧ PLs rk x y)))
theorem LtS.tr {rk : Nat → Int} {N : Int} {x y z : BitVec 64} {a b c : Int} (hi : inj rk N) (bx : bd x N) (bY : bd y N) (bz : bd z N) (h : LtS rk x y a b) (g : LtS rk y z b c) : LtS rk x z a c := by
  rcases h with ⟨h1, h2⟩ | ⟨h1, h2⟩ <;> rcases g with ⟨g1, g2⟩ | ⟨g1, g2⟩
  · exact Or.inl ⟨h1.trans g1, by omega⟩
  · subst h1; exact Or.inr ⟨g1, g2⟩
  · subst g1; exact Or.inr ⟨h1, h2⟩
  · right
    by_cases q : x = z
    · exfalso
      subst q
      rcases h2 with h2 | ⟨h2, h3⟩ <;> rcases g2 with g2 | ⟨g2, g3⟩ <;> first | omega | exact PLs.asym hi bx bY h3 g3
    · refine ⟨q, ?_⟩
      rcases h2 with h2 | ⟨h2, h3⟩ <;> rcases g2 with g2 | ⟨g2, g3⟩ <;> first | exact Or.inl (by omega) | exact Or.inr ⟨by omega, PLs.tr hi bx bY h3 g3⟩
theorem LtS.asym {rk : Nat → Int} {N : Int} {x y : BitVec 64} {a b : Int} (hi : inj rk N) (bx : bd x N) (bY : bd y N) (h : LtS rk x y a b) (g : LtS rk y x b a) : False := by
  rcases h with ⟨h1, h2⟩ | ⟨h1, h2⟩ <;> rcases g with ⟨g1, g2⟩ | ⟨g1, g2⟩
  · omega
  · exact g1 h1.symm
  · exact h1 g1.symm
  · rcases h2 with h2 | ⟨h2, h3⟩ <;> rcases g2 with g2 | ⟨g2, g3⟩ <;> first | omega | exact PLs.asym hi bx bY h3 g3
theorem LtS.irr {rk : Nat → Int} {x : BitVec 64} {a : Int} (h : LtS rk x x a a) : False := by
  rcases h with ⟨h1, h2⟩ | ⟨h1, h2⟩
  · omega
  · exact h1 rfl
/-- nodes: depth, the left side, the right side -/
def LtN (rk d : Nat → Int) (l r : Nat → BitVec 64) (a b : Nat → Int) (f e : Nat) : Prop := d f < d e ∨ (d f = d e ∧ (LtS rk (l f) (l e) (a f) (a e) ∨ ((l f = l e ∧ a f = a e) ∧ LtS rk (r f) (r e) (b f) (b e))))
def EqN (d : Nat → Int) (l r : Nat → BitVec 64) (a b : Nat → Int) (f e : Nat) : Prop := d f = d e ∧ (l f = l e ∧ a f = a e) ∧ (r f = r e ∧ b f = b e)
theorem LtN.tr {rk d : Nat → Int} {N : Int} {l r : Nat → BitVec 64} {a b : Nat → Int} {f e g : Nat} (hi : inj rk N) (bf : bd (l f) N ∧ bd (r f) N) (be : bd (l e) N ∧ bd (r e) N) (bg : bd (l g) N ∧ bd (r g) N) (h : LtN rk d l r a b f e) (k : LtN rk d l r a b e g) : LtN rk d l r a b f g := by
  rcases h with h | ⟨h, h2⟩ <;> rcases k with k | ⟨k, k2⟩
  · exact Or.inl (by omega)
  · exact Or.inl (by omega)
  · exact Or.inl (by omega)
  · refine Or.inr ⟨by omega, ?_⟩
    rcases h2 with h2 | ⟨⟨h2, h3⟩, h4⟩ <;> rcases k2 with k2 | ⟨⟨k2, k3⟩, k4⟩
    · exact Or.inl (LtS.tr hi bf.1 be.1 bg.1 h2 k2)
    · rw [← k2, ← k3]; exact Or.inl h2
    · rw [h2, h3]; exact Or.inl k2
    · exact Or.inr ⟨⟨h2.trans k2, h3.trans k3⟩, LtS.tr hi bf.2 be.2 bg.2 h4 k4⟩
theorem LtN.eq_l {rk d : Nat → Int} {l r : Nat → BitVec 64} {a b : Nat → Int} {f e g : Nat} (h : EqN d l r a b f e) (k : LtN rk d l r a b e g) : LtN rk d l r a b f g := by
  obtain ⟨h1, ⟨h2, h3⟩, h4, h5⟩ := h
  unfold LtN at k ⊢
  rw [h1, h2, h3, h4, h5]; exact k
theorem LtN.eq_r {rk d : Nat → Int} {l r : Nat → BitVec 64} {a b : Nat → Int} {f e g : Nat} (k : LtN rk d l r a b g f) (h : EqN d l r a b f e) : LtN rk d l r a b g e := by
  obtain ⟨h1, ⟨h2, h3⟩, h4, h5⟩ := h
  unfold LtN at k ⊢
  rw [← h1, ← h2, ← h3, ← h4, ← h5]; exact k
theorem LtN.irr {rk d : Nat → Int} {l r : Nat → BitVec 64} {a b : Nat → Int} {f : Nat} (h : LtN rk d l r a b f f) : False := by
  rcases h with h | ⟨h, h2 | ⟨h3, h4⟩⟩
  · omega
  · exact LtS.irr h2
  · exact LtS.irr h4
/-- the order stays as ranks keep their order -/
theorem PLs.mono {rk rk' : Nat → Int} {N : Int} {x y : BitVec 64} (bx : bd x N) (bY : bd y N) (h : PLs rk x y) (m : ∀ i j : Nat, (i : Int) < N → (j : Int) < N → rk i ≤ rk j → rk' i ≤ rk' j) : PLs rk' x y := by
  obtain ⟨e, e1, e2, e3⟩ := h
  refine ⟨e, e1, e2, fun i hi => m e i (bx e e1) ?_ (e3 i hi)⟩
  cases q : x.getLsbD i with
  | true => exact bx i q
  | false =>
    cases q2 : y.getLsbD i with
    | true => exact bY i q2
    | false => rw [q, q2] at hi; exact absurd rfl hi
theorem LtS.mono {rk rk' : Nat → Int} {N : Int} {x y : BitVec 64} {a b : Int} (bx : bd x N) (bY : bd y N) (h : LtS rk x y a b) (m : ∀ i j : Nat, (i : Int) < N → (j : Int) < N → rk i ≤ rk j → rk' i ≤ rk' j) : LtS rk' x y a b := by
  rcases h with h | ⟨h1, h2 | ⟨h2, h3⟩⟩
  · exact Or.inl h
  · exact Or.inr ⟨h1, Or.inl h2⟩
  · exact Or.inr ⟨h1, Or.inr ⟨h2, h3.mono bx bY m⟩⟩
theorem LtN.mono {rk rk' d : Nat → Int} {N : Int} {l r : Nat → BitVec 64} {a b : Nat → Int} {f e : Nat} (bf : bd (l f) N ∧ bd (r f) N) (be : bd (l e) N ∧ bd (r e) N) (h : LtN rk d l r a b f e) (m : ∀ i j : Nat, (i : Int) < N → (j : Int) < N → rk i ≤ rk j → rk' i ≤ rk' j) : LtN rk' d l r a b f e := by
  rcases h with h | ⟨h1, h2 | ⟨h2, h3⟩⟩
  · exact Or.inl h
  · exact Or.inr ⟨h1, Or.inl (h2.mono bf.1 be.1 m)⟩
  · exact Or.inr ⟨h1, Or.inr ⟨h2, h3.mono bf.2 be.2 m⟩⟩
/-! what sideWay tells -/
def sNo (s : gH) (a : Nat) (side node : Int) : Int := if side = 0 then gp_I s (a + 3) node.toNat else gp_I s (a + 4) node.toNat
def SWP (s : gH) (f e side r : Int) : Prop := (r = -1 ∧ LtS (gp_I s 13) (tO s 7 side f) (tO s 7 side e) (sNo s 7 side f) (sNo s 7 side e)) ∨ (r = 0 ∧ tO s 7 side f = tO s 7 side e ∧ sNo s 7 side f = sNo s 7 side e) ∨ (r = 1 ∧ LtS (gp_I s 13) (tO s 7 side e) (tO s 7 side f) (sNo s 7 side e) (sNo s 7 side f))
theorem SW_eq {s : gH} {f e side r a b : Int} {x y : BitVec 64} (hx : x = tO s 7 side f) (hy : y = tO s 7 side e) (hz : x = y) (ha : a = sNo s 7 side f) (hb : b = sNo s 7 side e) (h : (r = -1 ∧ a < b) ∨ (r = 0 ∧ a = b) ∨ (r = 1 ∧ b < a)) : SWP s f e side r := by
  unfold SWP
  rw [← hx, ← hy, ← ha, ← hb]
  rcases h with ⟨h1, h2⟩ | ⟨h1, h2⟩ | ⟨h1, h2⟩
  · exact Or.inl ⟨h1, Or.inl ⟨hz, h2⟩⟩
  · exact Or.inr (Or.inl ⟨h1, hz, h2⟩)
  · exact Or.inr (Or.inr ⟨h1, Or.inl ⟨hz.symm, h2⟩⟩)
theorem SW_cnt {s : gH} {f e side r a b : Int} {x y : BitVec 64} (hx : x = tO s 7 side f) (hy : y = tO s 7 side e) (hz : ¬ x = y) (ha : a = (gm_cnt x 64 : Nat)) (hb : b = (gm_cnt y 64 : Nat)) (h : (r = -1 ∧ a < b) ∨ (r = 0 ∧ a = b) ∨ (r = 1 ∧ b < a)) (h0 : ¬ r = 0) : SWP s f e side r := by
  unfold SWP
  rw [← hx, ← hy]
  rcases h with ⟨h1, h2⟩ | ⟨h1, h2⟩ | ⟨h1, h2⟩
  · exact Or.inl ⟨h1, Or.inr ⟨hz, Or.inl (by omega)⟩⟩
  · exact absurd h1 h0
  · exact Or.inr (Or.inr ⟨h1, Or.inr ⟨fun q => hz q.symm, Or.inl (by omega)⟩⟩)
def PRT (s : gH) (x y rest : BitVec 64) (v way : Int) : Prop := (∀ i : Nat, x.getLsbD i ≠ y.getLsbD i → rest.getLsbD i = true ∨ v ≤ gp_I s 13 i) ∧ ((v = 61 ∧ rest = x ^^^ y) ∨ ∃ e : Nat, x.getLsbD e ≠ y.getLsbD e ∧ gp_I s 13 e = v ∧ ((way = -1 ∧ x.getLsbD e = true) ∨ (way = 1 ∧ x.getLsbD e = false)))
theorem xor_ne {x y : BitVec 64} {i : Nat} : (x ^^^ y).getLsbD i = true ↔ x.getLsbD i ≠ y.getLsbD i := by
  rw [BitVec.getLsbD_xor]
  cases x.getLsbD i <;> cases y.getLsbD i <;> simp
theorem PRT_0 (s : gH) (x y : BitVec 64) (w : Int) : PRT s x y (x ^^^ y) 61 w := ⟨fun i hi => Or.inl (xor_ne.mpr hi), Or.inl ⟨rfl, rfl⟩⟩
theorem PRT_l {s : gH} {x y rest : BitVec 64} {v w z : Int} (h : PRT s x y rest v w) (hsub : sub rest (x ^^^ y)) (h0 : ¬ rest = 0#64) (hz : z = (lob rest : Nat)) (hlt : gp_I s 13 z.toNat < v) (w' : Int) (hw : (w' = -1 ∧ x.getLsbD z.toNat = true) ∨ (w' = 1 ∧ x.getLsbD z.toNat = false)) : PRT s x y (rest &&& (rest - 1#64)) (gp_I s 13 z.toNat) w' := by
  have hl := lob_s h0
  have ez : z.toNat = lob rest := by omega
  rw [ez] at hlt hw ⊢
  refine ⟨fun i hi => ?_, Or.inr ⟨lob rest, xor_ne.mp (hsub _ hl.2.1), rfl, hw⟩⟩
  by_cases c : i = lob rest
  · right; rw [c]; exact Int.le_refl _
  · rcases h.1 i hi with q | q
    · left
      rw [hl.2.2.2.1, q]
      simp [c]
    · right; omega
theorem PRT_k {L : Nat} {s : gH} {x y rest : BitVec 64} {v w z : Int} (hs : XI L 0 s) (h : PRT s x y rest v w) (h0 : ¬ rest = 0#64) (hz : z = (lob rest : Nat)) (hlt : ¬ gp_I s 13 z.toNat < v) : PRT s x y (rest &&& (rest - 1#64)) v w := by
  have hl := lob_s h0
  have ez : z.toNat = lob rest := by omega
  have hr := xr13 hs (lob rest)
  rw [ez] at hlt
  refine ⟨fun i hi => ?_, ?_⟩
  · by_cases c : i = lob rest
    · right; rw [c]; omega
    · rcases h.1 i hi with q | q
      · left
        rw [hl.2.2.2.1, q]
        simp [c]
      · exact Or.inr q
  · rcases h.2 with q | q
    · omega
    · exact Or.inr q
theorem SW_pt {s : gH} {f e side r a b : Int} {x y rest : BitVec 64} {v : Int} (hx : x = tO s 7 side f) (hy : y = tO s 7 side e) (hz : ¬ x = y) (ha : a = (gm_cnt x 64 : Nat)) (hb : b = (gm_cnt y 64 : Nat)) (hab : a = b) (h : PRT s x y rest v r) (h0 : rest = 0#64) : SWP s f e side r := by
  unfold SWP
  rw [← hx, ← hy]
  have hmin : ∀ i : Nat, x.getLsbD i ≠ y.getLsbD i → v ≤ gp_I s 13 i := fun i hi => by
    rcases h.1 i hi with q | q
    · rw [h0] at q; simp at q
    · exact q
  rcases h.2 with ⟨q1, q2⟩ | ⟨i, i1, i2, i3⟩
  · exfalso
    refine hz (BitVec.eq_of_getLsbD_eq fun i hi => ?_)
    cases c : decide (x.getLsbD i = y.getLsbD i) with
    | true => exact of_decide_eq_true c
    | false =>
      have := xor_ne.mpr (of_decide_eq_false c)
      rw [← q2, h0] at this
      simp at this
  · rcases i3 with ⟨j1, j2⟩ | ⟨j1, j2⟩
    · refine Or.inl ⟨j1, Or.inr ⟨hz, Or.inr ⟨by omega, i, j2, ?_, fun k hk => by rw [i2]; exact hmin k hk⟩⟩⟩
      cases c : y.getLsbD i with
      | false => rfl
      | true => rw [j2, c] at i1; exact absurd rfl i1
    · refine Or.inr (Or.inr ⟨j1, Or.inr ⟨fun q => hz q.symm, Or.inr ⟨by omega, i, ?_, j2, fun k hk => by rw [i2]; exact hmin k (fun q => hk q.symm)⟩⟩⟩)
      cases c : y.getLsbD i with
      | true => rfl
      | false => rw [j2, c] at i1; exact absurd rfl i1
/-! settle: the place of the same one, or a new one -/
def LtNs (s : gH) (f e : Nat) : Prop := LtN (gp_I s 13) (gp_I s 12) (gp_L s 8) (gp_L s 9) (gp_I s 10) (gp_I s 11) f e
def EqNs (s : gH) (f e : Nat) : Prop := EqN (gp_I s 12) (gp_L s 8) (gp_L s 9) (gp_I s 10) (gp_I s 11) f e
def S2P (s : gH) : Prop := ∀ q p : Nat, q < p → (p : Int) < gp_I s 6 4 → LtNs s (gp_I s 14 q).toNat (gp_I s 14 p).toNat
def WAYP (s : gH) (o v : Int) : Prop := (v = -1 ∧ LtNs s (gp_I s 6 4).toNat o.toNat) ∨ (v = 0 ∧ EqNs s (gp_I s 6 4).toNat o.toNat) ∨ (v = 1 ∧ LtNs s o.toNat (gp_I s 6 4).toNat)
theorem tO7_0 (s : gH) (f : Int) : tO s 7 0 f = gp_L s 8 f.toNat := if_pos rfl
theorem tO7_1 (s : gH) (f : Int) : tO s 7 1 f = gp_L s 9 f.toNat := if_neg (by decide)
theorem sNo7_0 (s : gH) (f : Int) : sNo s 7 0 f = gp_I s 10 f.toNat := if_pos rfl
theorem sNo7_1 (s : gH) (f : Int) : sNo s 7 1 f = gp_I s 11 f.toNat := if_neg (by decide)
theorem WY_a {s : gH} {o v : Int} (h : (v = -1 ∧ gp_I s 12 (gp_I s 6 4).toNat < gp_I s 12 o.toNat) ∨ (v = 0 ∧ gp_I s 12 (gp_I s 6 4).toNat = gp_I s 12 o.toNat) ∨ (v = 1 ∧ gp_I s 12 o.toNat < gp_I s 12 (gp_I s 6 4).toNat)) (h0 : ¬ v = 0) : WAYP s o v := by
  rcases h with ⟨h1, h2⟩ | ⟨h1, h2⟩ | ⟨h1, h2⟩
  · exact Or.inl ⟨h1, Or.inl h2⟩
  · exact absurd h1 h0
  · exact Or.inr (Or.inr ⟨h1, Or.inl h2⟩)
theorem WY_b {s : gH} {o v0 v : Int} (h : (v0 = -1 ∧ gp_I s 12 (gp_I s 6 4).toNat < gp_I s 12 o.toNat) ∨ (v0 = 0 ∧ gp_I s 12 (gp_I s 6 4).toNat = gp_I s 12 o.toNat) ∨ (v0 = 1 ∧ gp_I s 12 o.toNat < gp_I s 12 (gp_I s 6 4).toNat)) (e : v0 = 0) (g : SWP s (gp_I s 6 4) o 0 v) (h0 : ¬ v = 0) : WAYP s o v := by
  have hd : gp_I s 12 (gp_I s 6 4).toNat = gp_I s 12 o.toNat := by omega
  unfold SWP at g
  rw [tO7_0, tO7_0, sNo7_0, sNo7_0] at g
  rcases g with ⟨h1, h2⟩ | ⟨h1, h2⟩ | ⟨h1, h2⟩
  · exact Or.inl ⟨h1, Or.inr ⟨hd, Or.inl h2⟩⟩
  · exact absurd h1 h0
  · exact Or.inr (Or.inr ⟨h1, Or.inr ⟨hd.symm, Or.inl h2⟩⟩)
theorem WY_c {s : gH} {o v0 v1 v : Int} (h : (v0 = -1 ∧ gp_I s 12 (gp_I s 6 4).toNat < gp_I s 12 o.toNat) ∨ (v0 = 0 ∧ gp_I s 12 (gp_I s 6 4).toNat = gp_I s 12 o.toNat) ∨ (v0 = 1 ∧ gp_I s 12 o.toNat < gp_I s 12 (gp_I s 6 4).toNat)) (e : v0 = 0) (g : SWP s (gp_I s 6 4) o 0 v1) (e1 : v1 = 0) (k : SWP s (gp_I s 6 4) o 1 v) : WAYP s o v := by
  have hd : gp_I s 12 (gp_I s 6 4).toNat = gp_I s 12 o.toNat := by omega
  unfold SWP at g k
  rw [tO7_0, tO7_0, sNo7_0, sNo7_0] at g
  rw [tO7_1, tO7_1, sNo7_1, sNo7_1] at k
  have g2 : gp_L s 8 (gp_I s 6 4).toNat = gp_L s 8 o.toNat ∧ gp_I s 10 (gp_I s 6 4).toNat = gp_I s 10 o.toNat := by
    rcases g with ⟨h1, h2⟩ | ⟨h1, h2⟩ | ⟨h1, h2⟩
    · omega
    · exact h2
    · omega
  rcases k with ⟨h1, h2⟩ | ⟨h1, h2⟩ | ⟨h1, h2⟩
  · exact Or.inl ⟨h1, Or.inr ⟨hd, Or.inr ⟨g2, h2⟩⟩⟩
  · exact Or.inr (Or.inl ⟨h1, hd, g2, h2⟩)
  · exact Or.inr (Or.inr ⟨h1, Or.inr ⟨hd.symm, Or.inr ⟨⟨g2.1.symm, g2.2.symm⟩, h2⟩⟩⟩)
theorem inj_PO {s : gH} (h : PO s) : inj (gp_I s 13) (gp_I s 6 4) := fun i j hi hj e => by
  have a := h.2.1 i hi
  have b := h.2.1 j hj
  rw [e] at a
  omega
theorem bdN {L : Nat} {s : gH} (hs : XI L 0 s) (k : Nat) (hk : (k : Int) ≤ gp_I s 6 4) : bd (gp_L s 8 k) (gp_I s 6 4) ∧ bd (gp_L s 9 k) (gp_I s 6 4) := ⟨bd_le (xr8 hs k) hk, bd_le (xr9 hs k) hk⟩
theorem up_lt {L : Nat} {s : gH} {o v m to : Int} (hs : XI L 0 s) (h : PO s) (hS : S2P s) (hw : WAYP s o v) (hv : v < 0) (ho : o = gp_I s 14 m.toNat) (hm : 0 ≤ m ∧ m < gp_I s 6 4) : ∀ q : Nat, m ≤ (q : Int) → (q : Int) < gp_I s 6 4 → LtNs s (gp_I s 6 4).toNat (gp_I s 14 q).toNat := fun q h1 h2 => by
  have hl : LtNs s (gp_I s 6 4).toNat o.toNat := by
    rcases hw with ⟨w1, w2⟩ | ⟨w1, w2⟩ | ⟨w1, w2⟩
    · exact w2
    · omega
    · omega
  rw [ho] at hl
  by_cases c : q = m.toNat
  · rw [c]; exact hl
  · have p1 := (h.1 m.toNat (by omega)).1
    have p2 := (h.1 q h2).1
    have p3 := (xr14 hs m.toNat).1
    have p4 := (xr14 hs q).1
    exact LtN.tr (inj_PO h) (bdN hs _ (by omega)) (bdN hs _ (by omega)) (bdN hs _ (by omega)) hl (hS m.toNat q (by omega) h2)
theorem dn_lt {L : Nat} {s : gH} {o v m : Int} (hs : XI L 0 s) (h : PO s) (hS : S2P s) (hw : WAYP s o v) (hv : 0 < v) (ho : o = gp_I s 14 m.toNat) (hm : 0 ≤ m ∧ m < gp_I s 6 4) : ∀ q : Nat, (q : Int) < m + 1 → LtNs s (gp_I s 14 q).toNat (gp_I s 6 4).toNat := fun q h1 => by
  have hl : LtNs s o.toNat (gp_I s 6 4).toNat := by
    rcases hw with ⟨w1, w2⟩ | ⟨w1, w2⟩ | ⟨w1, w2⟩
    · omega
    · omega
    · exact w2
  rw [ho] at hl
  by_cases c : q = m.toNat
  · rw [c]; exact hl
  · have p1 := (h.1 m.toNat (by omega)).1
    have p2 := (h.1 q (by omega)).1
    have p3 := (xr14 hs m.toNat).1
    have p4 := (xr14 hs q).1
    exact LtN.tr (inj_PO h) (bdN hs _ (by omega)) (bdN hs _ (by omega)) (bdN hs _ (by omega)) (hS q m.toNat (by omega) (by omega)) hl
def STX (s t : gH) (r : Int) : Prop := (∃ k : Nat, (k : Int) < gp_I s 6 4 ∧ r = k ∧ EqNs s (gp_I s 6 4).toNat k ∧ gp_I t 6 4 = gp_I s 6 4) ∨ ((∀ k : Nat, (k : Int) < gp_I s 6 4 → ¬ EqNs s (gp_I s 6 4).toNat k) ∧ ((r = -1 ∧ gp_I s 6 4 = 60 ∧ gp_I t 6 4 = gp_I s 6 4) ∨ (gp_I s 6 4 < 60 ∧ r = gp_I s 6 4 ∧ gp_I t 6 4 = gp_I s 6 4 + 1)))
theorem ST_no {s : gH} {f : Int} (h : PO s) (H1 : ∀ q : Nat, f ≤ (q : Int) → (q : Int) < gp_I s 6 4 → LtNs s (gp_I s 6 4).toNat (gp_I s 14 q).toNat) (H2 : ∀ q : Nat, (q : Int) < f → LtNs s (gp_I s 14 q).toNat (gp_I s 6 4).toNat) (hn : ∀ k : Nat, 0 ≤ gp_I s 13 k) : ∀ k : Nat, (k : Int) < gp_I s 6 4 → ¬ EqNs s (gp_I s 6 4).toNat k := fun k hk e => by
  have a := h.2.1 k hk
  have b := hn k
  have c : (gp_I s 14 (gp_I s 13 k).toNat).toNat = k := by omega
  by_cases d : f ≤ gp_I s 13 k
  · have := H1 (gp_I s 13 k).toNat (by omega) (by omega)
    rw [c] at this
    exact LtN.irr (LtN.eq_r this (show EqN _ _ _ _ _ k (gp_I s 6 4).toNat from ⟨e.1.symm, ⟨e.2.1.1.symm, e.2.1.2.symm⟩, e.2.2.1.symm, e.2.2.2.symm⟩))
  · have := H2 (gp_I s 13 k).toNat (by omega)
    rw [c] at this
    exact LtN.irr (LtN.eq_l e this)
theorem LtNs_up {L : Nat} {s t : gH} {x y : Nat} (hs : XI L 0 s) (h : LtNs s x y) (hx : (x : Int) ≤ gp_I s 6 4) (hy : (y : Int) ≤ gp_I s 6 4) (e12 : ∀ k, gp_I t 12 k = gp_I s 12 k) (e8 : ∀ k, gp_L t 8 k = gp_L s 8 k) (e9 : ∀ k, gp_L t 9 k = gp_L s 9 k) (e10 : ∀ k, gp_I t 10 k = gp_I s 10 k) (e11 : ∀ k, gp_I t 11 k = gp_I s 11 k) (m : ∀ i j : Nat, (i : Int) < gp_I s 6 4 → (j : Int) < gp_I s 6 4 → gp_I s 13 i ≤ gp_I s 13 j → gp_I t 13 i ≤ gp_I t 13 j) : LtNs t x y := by
  unfold LtNs
  rw [show gp_I t 12 = gp_I s 12 from funext e12, show gp_L t 8 = gp_L s 8 from funext e8, show gp_L t 9 = gp_L s 9 from funext e9, show gp_I t 10 = gp_I s 10 from funext e10, show gp_I t 11 = gp_I s 11 from funext e11]
  exact LtN.mono (bdN hs x hx) (bdN hs y hy) h m
theorem S2_ins {L : Nat} {al : Bool} {s u a b t : gH} {f : Int} (h : PO s) (hS : S2P s) (hs : XI L 0 s) (hu : SH s u f) (h0 : 0 ≤ f) (hf : f ≤ gp_I s 6 4) (H1 : ∀ q : Nat, f ≤ (q : Int) → (q : Int) < gp_I s 6 4 → LtNs s (gp_I s 6 4).toNat (gp_I s 14 q).toNat) (H2 : ∀ q : Nat, (q : Int) < f → LtNs s (gp_I s 14 q).toNat (gp_I s 6 4).toNat) (g : gX L al [13, 14, 1196] s u) (e6 : gp_I u 6 4 = gp_I s 6 4) (e1 : a = gp_wI u 14 (Int.toNat f) (gp_I u 6 4)) (e2 : b = gp_wI a 13 (Int.toNat (gp_I a 6 4)) f) (e3 : t = gp_wI b 6 4 (gp_I b 6 4 + 1)) : S2P t := by
  have a6 : gp_I a 6 4 = gp_I s 6 4 := by rw [e1]; exact e6
  have b6 : gp_I b 6 4 = gp_I s 6 4 := by rw [e2]; exact a6
  have t6 : gp_I t 6 4 = gp_I s 6 4 + 1 := by rw [e3, ← b6]; exact (gz_rw _ _ _ _ _).1 rfl
  have t14 : ∀ k, gp_I t 14 k = if k = f.toNat then gp_I s 6 4 else gp_I u 14 k := fun k => by
    have : gp_I t 14 k = gp_I a 14 k := by rw [e3, e2]; rfl
    rw [this, e1, gz_rwi, e6]
  have t13 : ∀ k, gp_I t 13 k = if k = (gp_I s 6 4).toNat then f else gp_I u 13 k := fun k => by
    have : gp_I t 13 k = gp_I b 13 k := by rw [e3]; rfl
    rw [this, e2, gz_rwi, a6]
    have : gp_I a 13 k = gp_I u 13 k := by rw [e1]; rfl
    rw [this]
  have ro : ∀ c k, (c = 12 ∨ c = 10 ∨ c = 11) → gp_I t c k = gp_I s c k := fun c k hc => by
    have : gp_I t c k = gp_I u c k := by rw [e3, e2, e1]; rcases hc with q | q | q <;> subst q <;> rfl
    rw [this]
    rcases hc with q | q | q <;> subst q
    · exact (g.2.2.1 12 k (by decide) (by decide) rfl).1
    · exact (g.2.2.1 10 k (by decide) (by decide) rfl).1
    · exact (g.2.2.1 11 k (by decide) (by decide) rfl).1
  have t8 : ∀ k, gp_L t 8 k = gp_L s 8 k := fun k => by
    have : gp_L t 8 k = gp_L u 8 k := by rw [e3, e2, e1]
    rw [this]; exact (g.2.2.1 8 k (by decide) (by decide) rfl).2.1
  have t9 : ∀ k, gp_L t 9 k = gp_L s 9 k := fun k => by
    have : gp_L t 9 k = gp_L u 9 k := by rw [e3, e2, e1]
    rw [this]; exact (g.2.2.1 9 k (by decide) (by decide) rfl).2.1
  have n0 := (xr6_4 hs).1
  obtain ⟨u1, u2, u3⟩ := hu
  have mono : ∀ i j : Nat, (i : Int) < gp_I s 6 4 → (j : Int) < gp_I s 6 4 → gp_I s 13 i ≤ gp_I s 13 j → gp_I t 13 i ≤ gp_I t 13 j := fun i j hi hj hij => by
    rw [t13, t13, if_neg (by omega), if_neg (by omega), u3 i hi, u3 j hj]
    split <;> split <;> omega
  have up : ∀ {x y : Nat}, LtNs s x y → (x : Int) ≤ gp_I s 6 4 → (y : Int) ≤ gp_I s 6 4 → LtNs t x y := fun hl hx hy => LtNs_up hs hl hx hy (fun k => ro 12 k (Or.inl rfl)) t8 t9 (fun k => ro 10 k (Or.inr (Or.inl rfl))) (fun k => ro 11 k (Or.inr (Or.inr rfl))) mono
  have atn : ∀ q : Nat, (q : Int) < gp_I s 6 4 → ((gp_I s 14 q).toNat : Int) ≤ gp_I s 6 4 := fun q hq => by
    have a1 := (h.1 q hq).1
    have a2 := (xr14 hs q).1
    omega
  intro q p hqp hp
  rw [t6] at hp
  rw [t14, t14]
  by_cases c1 : (p : Int) < f
  · rw [if_neg (by omega), if_neg (by omega), u1 q (by omega), u1 p (by omega)]
    exact up (hS q p hqp (by omega)) (atn q (by omega)) (atn p (by omega))
  · by_cases c2 : p = f.toNat
    · rw [if_neg (by omega), if_pos c2, u1 q (by omega)]
      exact up (H2 q (by omega)) (atn q (by omega)) (by omega)
    · rw [if_neg c2, u2 p (by omega) (by omega)]
      by_cases c3 : q = f.toNat
      · rw [if_pos c3]
        exact up (H1 (p - 1) (by omega) (by omega)) (by omega) (atn _ (by omega))
      · rw [if_neg c3]
        by_cases c4 : (q : Int) < f
        · rw [u1 q (by omega)]
          exact up (hS q (p - 1) (by omega) (by omega)) (atn q (by omega)) (atn _ (by omega))
        · rw [u2 q (by omega) (by omega)]
          exact up (hS (q - 1) (p - 1) (by omega) (by omega)) (atn _ (by omega)) (atn _ (by omega))
theorem S2_eq {s t : gH} (h : S2P s) (e6 : gp_I t 6 4 = gp_I s 6 4) (e14 : ∀ k, gp_I t 14 k = gp_I s 14 k) (e13 : ∀ k, gp_I t 13 k = gp_I s 13 k) (e12 : ∀ k, gp_I t 12 k = gp_I s 12 k) (e8 : ∀ k, gp_L t 8 k = gp_L s 8 k) (e9 : ∀ k, gp_L t 9 k = gp_L s 9 k) (e10 : ∀ k, gp_I t 10 k = gp_I s 10 k) (e11 : ∀ k, gp_I t 11 k = gp_I s 11 k) : S2P t := fun q p hqp hp => by
  unfold LtNs
  rw [show gp_I t 12 = gp_I s 12 from funext e12, show gp_L t 8 = gp_L s 8 from funext e8, show gp_L t 9 = gp_L s 9 from funext e9, show gp_I t 10 = gp_I s 10 from funext e10, show gp_I t 11 = gp_I s 11 from funext e11, show gp_I t 13 = gp_I s 13 from funext e13, e14, e14]
  exact h q p hqp (by omega)
set_option maxRecDepth 100000 in
/-- Table.shutNumber -/
theorem xm_shutNumberX  {L d : Nat} {K : Option gV → gH → Prop} {s : gH} (n_this : Nat) (this : Nat) (p0 : Int) (p1 : Int) (hs : XI L 0 s) (h_p0 : 0 ≤ p0 ∧ p0 ≤ 60) (q0 : kT L s this n_this) (q1 : p0 < n_this) (k : ∀ (r : Int), (r = sNo s this p1 p0) → K (some (gp_i r)) s) : gs_C L d 2308 3 [gp_r (some this), gp_i p0, gp_i p1] s K := by
  have hn_this := q0.n hs
  refine s_2308_e _ _ _ ?_
  refine ⟨fun h_1 => ?_, fun h_1 => ?_⟩
  · refine ⟨this, rfl, ?_⟩
    refine ⟨q0.2.1, ?_⟩
    refine ⟨(this + 3), (q0.tt hs).1.2.2.2.1.2.2.1, ?_⟩
    refine ⟨gin ((q0.tt hs).1.2.2.2.2.1.2.2.1) (by omega), ?_⟩
    refine s_2308_19 _ _ _ _ ?_
    exact k _ (by first | exact (if_pos (by assumption)).symm | exact (if_neg (by assumption)).symm)
  · refine ⟨this, rfl, ?_⟩
    refine ⟨q0.2.1, ?_⟩
    refine ⟨(this + 4), (q0.tt hs).1.2.2.2.1.2.2.2.1, ?_⟩
    refine ⟨gin ((q0.tt hs).1.2.2.2.2.1.2.2.2.1) (by omega), ?_⟩
    refine s_2308_19 _ _ _ _ ?_
    exact k _ (by first | exact (if_pos (by assumption)).symm | exact (if_neg (by assumption)).symm)
set_option maxRecDepth 100000 in
/-- Pool.sideWay -/
theorem xm_sideWayX  {L d : Nat} {K : Option gV → gH → Prop} {s : gH}  (p0 : Int) (p1 : Int) (p2 : Int) (hs : XI L 0 s) (h_p0 : 0 ≤ p0 ∧ p0 ≤ 60) (h_p1 : 0 ≤ p1 ∧ p1 ≤ 60)  (k : ∀ (r : Int), ((-1) ≤ r ∧ r ≤ 1) → (SWP s p0 p1 p2 r) → K (some (gp_i r)) s) : gs_C L (d + 2) 1030 13 [gp_r (some 6), gp_i p0, gp_i p1, gp_i p2] s K := by
  refine s_1030_e _ _ _ ?_
  refine xm_options 61 _ _ _ hs (by omega) (by first | assumption | exact kT7 hs.1.1 | exact kT25 hs.1.1) (by first | omega | assumption) (fun m_1 p_2 p_3 => ⟨_, rfl, ?_⟩)
  have hx9 := p_3
  refine xm_options 61 _ _ _ hs (by omega) (by first | assumption | exact kT7 hs.1.1 | exact kT25 hs.1.1) (by first | omega | assumption) (fun m_4 p_5 p_6 => ⟨_, rfl, ?_⟩)
  have hy9 := p_6
  have w_7 := gz_cmp m_1 m_4
  refine ⟨fun h_8 => ?_, fun h_8 => ?_⟩
  · have hz_9 : m_1 = m_4 := (gm_cmp0 _ _).mp h_8
    refine xm_shutNumberX 61 _ _ _ hs (by omega) (by first | assumption | exact kT7 hs.1.1 | exact kT25 hs.1.1) (by first | omega | assumption) (fun x_10 p_11 => ⟨_, rfl, ?_⟩)
    have ha9 := p_11
    refine xm_shutNumberX 61 _ _ _ hs (by omega) (by first | assumption | exact kT7 hs.1.1 | exact kT25 hs.1.1) (by first | omega | assumption) (fun x_12 p_13 => ⟨_, rfl, ?_⟩)
    have hb9 := p_13
    refine xm_cmp _ _ (fun x_14 p_15 p_16 => ⟨_, rfl, ?_⟩)
    exact k _ (by omega) (SW_eq hx9 hy9 (by assumption) ha9 hb9 p_16)
  · have hz_17 : ¬ m_1 = m_4 := fun q => h_8 ((gm_cmp0 _ _).mpr q)
    refine xm_bc _ (fun x_18 p_19 p_20 => ⟨_, rfl, ?_⟩)
    have hca := p_20
    refine xm_bc _ (fun x_21 p_22 p_23 => ⟨_, rfl, ?_⟩)
    have hcb := p_23
    refine xm_cmp _ _ (fun x_24 p_25 p_26 => ⟨_, rfl, ?_⟩)
    have hcc := p_26
    refine ⟨fun h_27 => ?_, fun h_27 => ?_⟩
    · have lp_28 : ∀ (n_28 : Nat) (v8_28 : Int) (v9_28 : Int) (v10_28 : BitVec 64) (v12_28 : gV), ((-1) ≤ v8_28 ∧ v8_28 ≤ 1) → (0 ≤ v9_28 ∧ v9_28 ≤ 61) → (sub v10_28 (m_1 ^^^ m_4)) → (PRT s m_1 m_4 v10_28 v9_28 v8_28) → (v10_28).toNat < n_28 → gs_E L (d + 2) 1030 86 [gp_r (some 6), gp_i p0, gp_i p1, gp_i p2, gp_l m_1, gp_n, gp_l m_4, gp_n, gp_i v8_28, gp_i v9_28, gp_l v10_28, gp_n, v12_28] [] s K := by
        intro n_28
        induction n_28 with
        | zero => intro v8_28 v9_28 v10_28 v12_28 hv8_28 hv9_28 iv0_28 iv1_28 hm_28; exact absurd hm_28 (Nat.not_lt_zero _)
        | succ n_28 ih_28 =>
          intro v8_28 v9_28 v10_28 v12_28 hv8_28 hv9_28 iv0_28 iv1_28 hm_28
          refine s_1030_86 _ _ _ _ _ _ _ _ _ ?_
          refine ⟨fun h_29 => ?_, fun h_29 => ?_⟩
          · have hz_30 : v10_28 = 0#64 := (gm_cmp0 _ _).mp h_29
            exact k _ (by omega) (SW_pt hx9 hy9 (by assumption) hca hcb (by omega) iv1_28 (by assumption))
          · have hz_31 : ¬ v10_28 = 0#64 := fun q => h_29 ((gm_cmp0 _ _).mpr q)
            refine xm_lowest _ (fun x_32 p_33 p_34 => ⟨_, rfl, ?_⟩)
            have hlw := iv0_28.low (by assumption) p_34
            have hbx := bd_xor (bd_le ‹bd m_1 p0› (show p0 ≤ 61 by omega)) (bd_le ‹bd m_4 p1› (show p1 ≤ 61 by omega))
            have hbl := hbx _ hlw.2.2
            have hlo := p_34
            refine ⟨by omega, ?_⟩
            have f_35 := xr13 hs (Int.toNat x_32)
            refine ⟨fun h_36 => ?_, fun h_36 => ?_⟩
            · refine ⟨by omega, ?_⟩
              have f_37 := xr13 hs (Int.toNat x_32)
              refine xm_has _ _ (by omega) (fun x_38 p_39 p_40 => ⟨_, rfl, ?_⟩)
              refine ⟨fun h_41 => ?_, fun h_41 => ?_⟩
              · have hb_42 := hasF p_40 h_41
                refine s_1030_136 _ _ _ _ _ _ _ _ _ _ ?_
                refine s_1030_138 _ _ _ _ _ _ _ _ _ ?_
                exact ih_28 _ _ _ _ (by omega) (by omega) (by first | assumption | exact sub.refl _ | exact sub.rest (by assumption)) (by first | exact PRT_k hs iv1_28 (by assumption) hlo (by assumption) | exact PRT_l iv1_28 iv0_28 (by assumption) hlo (by assumption) _ (by first | exact Or.inl ⟨rfl, by assumption⟩ | exact Or.inr ⟨rfl, by assumption⟩)) (by have := rest_lt (by assumption : ¬ v10_28 = 0#64); omega)
              · have hb_43 := hasT p_40 h_41
                refine s_1030_136 _ _ _ _ _ _ _ _ _ _ ?_
                refine s_1030_138 _ _ _ _ _ _ _ _ _ ?_
                exact ih_28 _ _ _ _ (by omega) (by omega) (by first | assumption | exact sub.refl _ | exact sub.rest (by assumption)) (by first | exact PRT_k hs iv1_28 (by assumption) hlo (by assumption) | exact PRT_l iv1_28 iv0_28 (by assumption) hlo (by assumption) _ (by first | exact Or.inl ⟨rfl, by assumption⟩ | exact Or.inr ⟨rfl, by assumption⟩)) (by have := rest_lt (by assumption : ¬ v10_28 = 0#64); omega)
            · refine s_1030_138 _ _ _ _ _ _ _ _ _ ?_
              exact ih_28 _ _ _ _ (by omega) (by omega) (by first | assumption | exact sub.refl _ | exact sub.rest (by assumption)) (by first | exact PRT_k hs iv1_28 (by assumption) hlo (by assumption) | exact PRT_l iv1_28 iv0_28 (by assumption) hlo (by assumption) _ (by first | exact Or.inl ⟨rfl, by assumption⟩ | exact Or.inr ⟨rfl, by assumption⟩)) (by have := rest_lt (by assumption : ¬ v10_28 = 0#64); omega)
      exact lp_28 _ _ _ _ _ (by omega) (by omega) (by first | assumption | exact sub.refl _ | exact sub.rest (by assumption)) (PRT_0 _ _ _ _) (Nat.lt_succ_self _)
    · exact k _ (by omega) (SW_cnt hx9 hy9 (by assumption) hca hcb hcc (by assumption))
set_option maxRecDepth 100000 in
/-- Pool.settle -/
theorem xm_settleX  {L d : Nat} {K : Option gV → gH → Prop} {s : gH}   (hs : XI L 0 s)  (q0 : PO s) (q1 : SK s) (q2 : S2P s) (k : ∀ (r : Int), ∀ (t : gH), XI L 0 t → gX L false [13, 14, 1196] s t → ((-1) ≤ r ∧ r ≤ 59) → (PO t) → ((r = -1 ∧ gp_I t 6 4 = gp_I s 6 4 ∧ gp_I s 6 4 = 60) ∨ (0 ≤ r ∧ r < gp_I t 6 4 ∧ gp_I s 6 4 ≤ gp_I t 6 4 ∧ gp_I t 6 4 ≤ gp_I s 6 4 + 1)) → (S2P t) → (STX s t r) → K (some (gp_i r)) t) : gs_C L (d + 3) 1027 6 [gp_r (some 6)] s K := by
  have f_1 := xr6_4 hs
  refine s_1027_e ?_
  have f_2 := xr6_4 hs
  have lp_3 : ∀ (n_3 : Nat) (v1_3 : Int) (v2_3 : Int) (v3_3 : gV) (v4_3 : gV) (v5_3 : gV), (0 ≤ v1_3 ∧ v1_3 ≤ 60) → (0 ≤ v2_3 ∧ v2_3 ≤ 60) → (v1_3 ≤ v2_3) → (v2_3 ≤ gp_I s 6 4) → (∀ q : Nat, v2_3 ≤ q → (q : Int) < gp_I s 6 4 → LtNs s (gp_I s 6 4).toNat (gp_I s 14 q).toNat) → (∀ q : Nat, (q : Int) < v1_3 → LtNs s (gp_I s 14 q).toNat (gp_I s 6 4).toNat) → (Int.toNat (v2_3 - v1_3)) < n_3 → gs_E L (d + 3) 1027 7 [gp_r (some 6), gp_i v1_3, gp_i v2_3, v3_3, v4_3, v5_3] [] s K := by
    intro n_3
    induction n_3 with
    | zero => intro v1_3 v2_3 v3_3 v4_3 v5_3 hv1_3 hv2_3 iv0_3 iv1_3 iv2_3 iv3_3 hm_3; exact absurd hm_3 (Nat.not_lt_zero _)
    | succ n_3 ih_3 =>
      intro v1_3 v2_3 v3_3 v4_3 v5_3 hv1_3 hv2_3 iv0_3 iv1_3 iv2_3 iv3_3 hm_3
      refine s_1027_7 _ _ _ _ _ ?_
      refine ⟨fun h_4 => ?_, fun h_4 => ?_⟩
      · try rw [show gp_wr (v1_3 + v2_3) = v1_3 + v2_3 from gp_wr_id (by omega) (by omega)]
        have w_5 : gp_ushr (v1_3 + v2_3) 1 = (v1_3 + v2_3) / 2 := gz_ush (v1_3 + v2_3) 1 2 (by decide) (by omega) (by decide)
        refine ⟨by omega, ?_⟩
        have f_6 := xr14 hs (Int.toNat (gp_ushr (v1_3 + v2_3) 1))
        have hpo := q0.1 (Int.toNat (gp_ushr (v1_3 + v2_3) 1)) (by omega)
        have f_7 := xr6_4 hs
        refine ⟨by omega, ?_⟩
        have f_8 := xr12 hs (Int.toNat (gp_I s 6 4))
        refine ⟨by omega, ?_⟩
        have f_9 := xr12 hs (Int.toNat (gp_I s 14 (Int.toNat (gp_ushr (v1_3 + v2_3) 1))))
        refine xm_cmp _ _ (fun x_10 p_11 p_12 => ⟨_, rfl, ?_⟩)
        have hd9 := p_12
        refine ⟨fun h_13 => ?_, fun h_13 => ?_⟩
        · have f_14 := xr6_4 hs
          refine xm_sideWayX _ _ _ hs (by omega) (by omega) (fun x_15 p_16 p_17 => ⟨_, rfl, ?_⟩)
          refine s_1027_74 _ _ _ _ _ _ ?_
          have hs09 := p_17
          refine ⟨fun h_18 => ?_, fun h_18 => ?_⟩
          · have f_19 := xr6_4 hs
            refine xm_sideWayX _ _ _ hs (by omega) (by omega) (fun x_20 p_21 p_22 => ⟨_, rfl, ?_⟩)
            refine s_1027_97 _ _ _ _ _ _ ?_
            have hs19 := p_22
            have hway : WAYP s (gp_I s 14 (Int.toNat (gp_ushr (v1_3 + v2_3) 1))) x_20 := by first | exact WY_a hd9 (by assumption) | exact WY_b hd9 (by assumption) hs09 (by assumption) | exact WY_c hd9 (by assumption) hs09 (by assumption) hs19 | (exfalso; omega)
            refine ⟨fun h_23 => ?_, fun h_23 => ?_⟩
            · exact k _ s hs (gX.refl _ _ _ _) (by omega) (by assumption) (by first | omega | assumption) (by first | omega | assumption) (Or.inl ⟨Int.toNat (gp_I s 14 (Int.toNat (gp_ushr (v1_3 + v2_3) 1))), by omega, by omega, (by rcases hway with q | q | q; omega; exact q.2; omega), rfl⟩)
            · refine ⟨fun h_24 => ?_, fun h_24 => ?_⟩
              · refine s_1027_121 _ _ _ _ _ ?_
                exact ih_3 _ _ _ _ _ (by omega) (by omega) (by first | omega | assumption) (by first | omega | assumption) (by first | exact iv2_3 | exact up_lt (to := 0) hs q0 q2 hway (by omega) rfl (by omega)) (by first | exact iv3_3 | exact dn_lt hs q0 q2 hway (by omega) rfl (by omega)) (by omega)
              · try rw [show gp_wr ((gp_ushr (v1_3 + v2_3) 1) + 1) = (gp_ushr (v1_3 + v2_3) 1) + 1 from gp_wr_id (by omega) (by omega)]
                refine s_1027_121 _ _ _ _ _ ?_
                exact ih_3 _ _ _ _ _ (by omega) (by omega) (by first | omega | assumption) (by first | omega | assumption) (by first | exact iv2_3 | exact up_lt (to := 0) hs q0 q2 hway (by omega) rfl (by omega)) (by first | exact iv3_3 | exact dn_lt hs q0 q2 hway (by omega) rfl (by omega)) (by omega)
          · refine s_1027_97 _ _ _ _ _ _ ?_
            have hs19 := p_17
            have hway : WAYP s (gp_I s 14 (Int.toNat (gp_ushr (v1_3 + v2_3) 1))) x_15 := by first | exact WY_a hd9 (by assumption) | exact WY_b hd9 (by assumption) hs09 (by assumption) | exact WY_c hd9 (by assumption) hs09 (by assumption) hs19 | (exfalso; omega)
            refine ⟨fun h_25 => ?_, fun h_25 => ?_⟩
            · exact k _ s hs (gX.refl _ _ _ _) (by omega) (by assumption) (by first | omega | assumption) (by first | omega | assumption) (Or.inl ⟨Int.toNat (gp_I s 14 (Int.toNat (gp_ushr (v1_3 + v2_3) 1))), by omega, by omega, (by rcases hway with q | q | q; omega; exact q.2; omega), rfl⟩)
            · refine ⟨fun h_26 => ?_, fun h_26 => ?_⟩
              · refine s_1027_121 _ _ _ _ _ ?_
                exact ih_3 _ _ _ _ _ (by omega) (by omega) (by first | omega | assumption) (by first | omega | assumption) (by first | exact iv2_3 | exact up_lt (to := 0) hs q0 q2 hway (by omega) rfl (by omega)) (by first | exact iv3_3 | exact dn_lt hs q0 q2 hway (by omega) rfl (by omega)) (by omega)
              · try rw [show gp_wr ((gp_ushr (v1_3 + v2_3) 1) + 1) = (gp_ushr (v1_3 + v2_3) 1) + 1 from gp_wr_id (by omega) (by omega)]
                refine s_1027_121 _ _ _ _ _ ?_
                exact ih_3 _ _ _ _ _ (by omega) (by omega) (by first | omega | assumption) (by first | omega | assumption) (by first | exact iv2_3 | exact up_lt (to := 0) hs q0 q2 hway (by omega) rfl (by omega)) (by first | exact iv3_3 | exact dn_lt hs q0 q2 hway (by omega) rfl (by omega)) (by omega)
        · refine s_1027_74 _ _ _ _ _ _ ?_
          have hs09 := p_12
          refine ⟨fun h_27 => ?_, fun h_27 => ?_⟩
          · have f_28 := xr6_4 hs
            refine xm_sideWayX _ _ _ hs (by omega) (by omega) (fun x_29 p_30 p_31 => ⟨_, rfl, ?_⟩)
            refine s_1027_97 _ _ _ _ _ _ ?_
            have hs19 := p_31
            have hway : WAYP s (gp_I s 14 (Int.toNat (gp_ushr (v1_3 + v2_3) 1))) x_29 := by first | exact WY_a hd9 (by assumption) | exact WY_b hd9 (by assumption) hs09 (by assumption) | exact WY_c hd9 (by assumption) hs09 (by assumption) hs19 | (exfalso; omega)
            refine ⟨fun h_32 => ?_, fun h_32 => ?_⟩
            · exact k _ s hs (gX.refl _ _ _ _) (by omega) (by assumption) (by first | omega | assumption) (by first | omega | assumption) (Or.inl ⟨Int.toNat (gp_I s 14 (Int.toNat (gp_ushr (v1_3 + v2_3) 1))), by omega, by omega, (by rcases hway with q | q | q; omega; exact q.2; omega), rfl⟩)
            · refine ⟨fun h_33 => ?_, fun h_33 => ?_⟩
              · refine s_1027_121 _ _ _ _ _ ?_
                exact ih_3 _ _ _ _ _ (by omega) (by omega) (by first | omega | assumption) (by first | omega | assumption) (by first | exact iv2_3 | exact up_lt (to := 0) hs q0 q2 hway (by omega) rfl (by omega)) (by first | exact iv3_3 | exact dn_lt hs q0 q2 hway (by omega) rfl (by omega)) (by omega)
              · try rw [show gp_wr ((gp_ushr (v1_3 + v2_3) 1) + 1) = (gp_ushr (v1_3 + v2_3) 1) + 1 from gp_wr_id (by omega) (by omega)]
                refine s_1027_121 _ _ _ _ _ ?_
                exact ih_3 _ _ _ _ _ (by omega) (by omega) (by first | omega | assumption) (by first | omega | assumption) (by first | exact iv2_3 | exact up_lt (to := 0) hs q0 q2 hway (by omega) rfl (by omega)) (by first | exact iv3_3 | exact dn_lt hs q0 q2 hway (by omega) rfl (by omega)) (by omega)
          · refine s_1027_97 _ _ _ _ _ _ ?_
            have hs19 := p_12
            have hway : WAYP s (gp_I s 14 (Int.toNat (gp_ushr (v1_3 + v2_3) 1))) x_10 := by first | exact WY_a hd9 (by assumption) | exact WY_b hd9 (by assumption) hs09 (by assumption) | exact WY_c hd9 (by assumption) hs09 (by assumption) hs19 | (exfalso; omega)
            refine ⟨fun h_34 => ?_, fun h_34 => ?_⟩
            · exact k _ s hs (gX.refl _ _ _ _) (by omega) (by assumption) (by first | omega | assumption) (by first | omega | assumption) (Or.inl ⟨Int.toNat (gp_I s 14 (Int.toNat (gp_ushr (v1_3 + v2_3) 1))), by omega, by omega, (by rcases hway with q | q | q; omega; exact q.2; omega), rfl⟩)
            · refine ⟨fun h_35 => ?_, fun h_35 => ?_⟩
              · refine s_1027_121 _ _ _ _ _ ?_
                exact ih_3 _ _ _ _ _ (by omega) (by omega) (by first | omega | assumption) (by first | omega | assumption) (by first | exact iv2_3 | exact up_lt (to := 0) hs q0 q2 hway (by omega) rfl (by omega)) (by first | exact iv3_3 | exact dn_lt hs q0 q2 hway (by omega) rfl (by omega)) (by omega)
              · try rw [show gp_wr ((gp_ushr (v1_3 + v2_3) 1) + 1) = (gp_ushr (v1_3 + v2_3) 1) + 1 from gp_wr_id (by omega) (by omega)]
                refine s_1027_121 _ _ _ _ _ ?_
                exact ih_3 _ _ _ _ _ (by omega) (by omega) (by first | omega | assumption) (by first | omega | assumption) (by first | exact iv2_3 | exact up_lt (to := 0) hs q0 q2 hway (by omega) rfl (by omega)) (by first | exact iv3_3 | exact dn_lt hs q0 q2 hway (by omega) rfl (by omega)) (by omega)
      · have hno := ST_no (f := v1_3) q0 (fun q a b => iv2_3 q (by omega) b) iv3_3 (fun k => (xr13 hs k).1)
        have f_36 := xr6_4 hs
        refine ⟨fun h_37 => ?_, fun h_37 => ?_⟩
        · have f_38 := xr6_4 hs
          have lp_39 : ∀ (n_39 : Nat) (v3_39 : Int) (v4_39 : gV) (v5_39 : gV) (s_39 : gH), (XI L 0 s_39) → (gX L false [13, 14, 1196] s s_39) → (0 ≤ v3_39 ∧ v3_39 ≤ 60) → (gp_I s_39 6 4 = gp_I s 6 4) → (SH s s_39 v3_39) → (v1_3 ≤ v3_39) → (v3_39 ≤ gp_I s 6 4) → (v3_39 + 1).toNat < n_39 → gs_E L (d + 3) 1027 140 [gp_r (some 6), gp_i v1_3, gp_i v2_3, gp_i v3_39, v4_39, v5_39] [] s_39 K := by
            intro n_39
            induction n_39 with
            | zero => intro v3_39 v4_39 v5_39 s_39 hs_s_39 hf_s_39 hv3_39 tk0_39 iv0_39 iv1_39 iv2_39 hm_39; exact absurd hm_39 (Nat.not_lt_zero _)
            | succ n_39 ih_39 =>
              intro v3_39 v4_39 v5_39 s_39 hs_s_39 hf_s_39 hv3_39 tk0_39 iv0_39 iv1_39 iv2_39 hm_39
              refine s_1027_140 _ _ _ _ _ ?_
              refine ⟨fun h_40 => ?_, fun h_40 => ?_⟩
              · try rw [show gp_wr (v3_39 - 1) = v3_39 - 1 from gp_wr_id (by omega) (by omega)]
                refine ⟨by omega, ?_⟩
                have f_41 := xr14 hs_s_39 (Int.toNat (v3_39 - 1))
                refine ⟨by omega, ?_⟩
                intro s_42 e_43
                have hs_44 : XI L 0 s_42 := by rw [e_43]; exact xw14 hs_s_39 _ _ (by omega)
                have hf_45 : gX L false [13, 14, 1196] s s_42 := by rw [e_43]; exact gX.wI hf_s_39 (Or.inl rfl)
                have q_46 : gp_I s_42 6 4 = gp_I s_39 6 4 := by rw [e_43] <;> first | rfl | exact I_ne (by omega)
                refine ⟨by omega, ?_⟩
                have f_47 := xr14 hs_44 (Int.toNat v3_39)
                refine ⟨by omega, ?_⟩
                intro s_48 e_49
                have hs_50 : XI L 0 s_48 := by rw [e_49]; exact xw13 hs_44 _ _ (by omega)
                have hf_51 : gX L false [13, 14, 1196] s s_48 := by rw [e_49]; exact gX.wI hf_45 (Or.inl rfl)
                have q_52 : gp_I s_48 6 4 = gp_I s_42 6 4 := by rw [e_49] <;> first | rfl | exact I_ne (by omega)
                try rw [show gp_wr (v3_39 + (-1)) = v3_39 + (-1) from gp_wr_id (by omega) (by omega)]
                exact ih_39 _ _ _ _ hs_50 hf_51 (by omega) (by first | rfl | omega) (SH_s2 q0 hs iv0_39 (by omega) (by omega) (by assumption) (by assumption)) (by first | omega | assumption) (by first | omega | assumption) (by omega)
              · have hSH : SH s s_39 v1_3 := by rw [show v1_3 = v3_39 by omega]; exact iv0_39
                have f_53 := xr6_4 hs_s_39
                refine ⟨by omega, ?_⟩
                intro s_54 e_55
                have hs_56 : XI L 0 s_54 := by rw [e_55]; exact xw14 hs_s_39 _ _ (by omega)
                have hf_57 : gX L false [13, 14, 1196] s s_54 := by rw [e_55]; exact gX.wI hf_s_39 (Or.inl rfl)
                have q_58 : gp_I s_54 6 4 = gp_I s_39 6 4 := by rw [e_55] <;> first | rfl | exact I_ne (by omega)
                have f_59 := xr6_4 hs_56
                refine ⟨by omega, ?_⟩
                intro s_60 e_61
                have hs_62 : XI L 0 s_60 := by rw [e_61]; exact xw13 hs_56 _ _ (by omega)
                have hf_63 : gX L false [13, 14, 1196] s s_60 := by rw [e_61]; exact gX.wI hf_57 (Or.inl rfl)
                have q_64 : gp_I s_60 6 4 = gp_I s_54 6 4 := by rw [e_61] <;> first | rfl | exact I_ne (by omega)
                have f_65 := xr6_4 hs_62
                try rw [show gp_wr ((gp_I s_60 6 4) + 1) = (gp_I s_60 6 4) + 1 from gp_wr_id (by omega) (by omega)]
                intro s_66 e_67
                have hs_68 : XI L 0 s_66 := by rw [e_67]; exact xw6_4 hs_62 _ (by omega)
                have hf_69 : gX L false [13, 14, 1196] s s_66 := by rw [e_67]; exact gX.wI hf_63 (Or.inl rfl)
                have q_70 : gp_I s_66 6 4 = (gp_I s_60 6 4) + 1 := by rw [e_67]; exact (gz_rw _ _ _ _ _).1 rfl
                have f_71 := xr6_4 hs_68
                try rw [show gp_wr ((gp_I s_66 6 4) - 1) = (gp_I s_66 6 4) - 1 from gp_wr_id (by omega) (by omega)]
                exact k _ s_66 hs_68 hf_69 (by omega) (PO_ins2 q0 q1 hs hSH (by omega) (by omega) (fun q a b => (by have h9 := iv2_3 q (by omega) b; rcases h9 with h8 | h8 <;> omega)) (fun q a => (by have h9 := iv3_3 q a; rcases h9 with h8 | h8 <;> omega)) hf_s_39 (by omega) (by assumption) (by assumption) (by assumption)) (by first | omega | assumption) (S2_ins q0 q2 hs hSH (by omega) (by omega) (fun q a b => iv2_3 q (by omega) b) iv3_3 hf_s_39 (by omega) (by assumption) (by assumption) (by assumption)) (Or.inr ⟨hno, Or.inr ⟨by omega, by omega, by omega⟩⟩)
          exact lp_39 _ _ _ _ _ hs (gX.refl _ _ _ _) (by omega) (by first | rfl | omega) (SH_0 q0) (by first | omega | assumption) (by first | omega | assumption) (Nat.lt_succ_self _)
        · exact k _ s hs (gX.refl _ _ _ _) (by omega) (by assumption) (by first | omega | assumption) (by first | omega | assumption) (Or.inr ⟨hno, Or.inl ⟨rfl, by omega, rfl⟩⟩)
  exact lp_3 _ _ _ _ _ _ (by omega) (by omega) (by first | omega | assumption) (by first | omega | assumption) (fun q h1 h2 => by omega) (fun q h1 => by omega) (Nat.lt_succ_self _)
/-! what is added to the pool, exactly -/
def nrm (m : BitVec 64) (a : Int) : Int := if m = 0#64 then a else 0
/-- the depth is told by the options -/
def DS (s : gH) (k : Nat) : Prop := (∀ i : Nat, ((gp_L s 8 k).getLsbD i = true ∨ (gp_L s 9 k).getLsbD i = true) → gp_I s 12 i < gp_I s 12 k) ∧ (gp_I s 12 k = 0 ∨ ∃ i : Nat, ((gp_L s 8 k).getLsbD i = true ∨ (gp_L s 9 k).getLsbD i = true) ∧ gp_I s 12 k = gp_I s 12 i + 1)
def DSA (s : gH) : Prop := ∀ k : Nat, (k : Int) < gp_I s 6 4 → DS s k
theorem DS_uniq {L : Nat} {s : gH} {k j : Nat} (hs : XI L 0 s) (h : DS s k) (g : DS s j) (e1 : gp_L s 8 k = gp_L s 8 j) (e2 : gp_L s 9 k = gp_L s 9 j) : gp_I s 12 k = gp_I s 12 j := by
  have n : ∀ i, 0 ≤ gp_I s 12 i := fun i => (xr12 hs i).1
  obtain ⟨h1, h2⟩ := h
  obtain ⟨g1, g2⟩ := g
  rw [e1, e2] at h1 h2
  rcases h2 with h2 | ⟨i, i1, i2⟩ <;> rcases g2 with g2 | ⟨m, m1, m2⟩
  · omega
  · have := h1 m m1
    have := n m
    omega
  · have := g1 i i1
    have := n i
    omega
  · have := h1 m m1
    have := g1 i i1
    omega
def SKX (s t : gH) (p0 p1 : BitVec 64) (p2 p3 : Int) : Prop := (gp_L t 8 (gp_I s 6 4).toNat = p0 ∧ gp_L t 9 (gp_I s 6 4).toNat = p1 ∧ gp_I t 10 (gp_I s 6 4).toNat = nrm p0 p2 ∧ gp_I t 11 (gp_I s 6 4).toNat = nrm p1 p3 ∧ DS t (gp_I s 6 4).toNat) ∧ ∀ k : Nat, k ≠ (gp_I s 6 4).toNat → gp_L t 8 k = gp_L s 8 k ∧ gp_L t 9 k = gp_L s 9 k ∧ gp_I t 10 k = gp_I s 10 k ∧ gp_I t 11 k = gp_I s 11 k ∧ gp_I t 12 k = gp_I s 12 k
def sameX (s : gH) (k : Nat) (p0 p1 : BitVec 64) (p2 p3 : Int) : Prop := gp_L s 8 k = p0 ∧ gp_L s 9 k = p1 ∧ gp_I s 10 k = nrm p0 p2 ∧ gp_I s 11 k = nrm p1 p3
def KPo (s t : gH) : Prop := ∀ k : Nat, (k : Int) < gp_I s 6 4 → gp_L t 8 k = gp_L s 8 k ∧ gp_L t 9 k = gp_L s 9 k ∧ gp_I t 10 k = gp_I s 10 k ∧ gp_I t 11 k = gp_I s 11 k
def ADX (s t : gH) (p0 p1 : BitVec 64) (p2 p3 r : Int) : Prop := KPo s t ∧ ((∃ k : Nat, (k : Int) < gp_I s 6 4 ∧ r = k ∧ sameX s k p0 p1 p2 p3 ∧ gp_I t 6 4 = gp_I s 6 4) ∨ ((∀ k : Nat, (k : Int) < gp_I s 6 4 → ¬ sameX s k p0 p1 p2 p3) ∧ ((gp_I s 6 4 < 60 ∧ r = gp_I s 6 4 ∧ gp_I t 6 4 = gp_I s 6 4 + 1 ∧ sameX t (gp_I s 6 4).toNat p0 p1 p2 p3) ∨ (gp_I s 6 4 = 60 ∧ r = -1 ∧ gp_I t 6 4 = gp_I s 6 4))))
theorem sk_s2 {s : gH} {A x : BitVec 64} {d x9 : Int} (iv : d = 0 ∨ ∃ i : Nat, A.getLsbD i = true ∧ d = gp_I s 12 i + 1) (hsub : sub x A) (h0 : ¬ x = 0#64) (e : x9 = (lob x : Nat)) : gp_mx d (1 + gp_I s 12 x9.toNat) = 0 ∨ ∃ i : Nat, A.getLsbD i = true ∧ gp_mx d (1 + gp_I s 12 x9.toNat) = gp_I s 12 i + 1 := by
  have hm := gz_mx d (1 + gp_I s 12 x9.toNat)
  have hl := (lob_s h0).2.1
  by_cases c : d < 1 + gp_I s 12 x9.toNat
  · right
    refine ⟨lob x, hsub _ hl, ?_⟩
    have ex : x9.toNat = lob x := by omega
    rw [hm.1 c, ex]; omega
  · rw [hm.2 c]; exact iv
theorem SKX_of {s t : gH} {D : Int} {p0 p1 : BitVec 64} {p2 p3 : Int} (e8 : ∀ k, gp_L t 8 k = if k = (gp_I s 6 4).toNat then p0 else gp_L s 8 k) (e9 : ∀ k, gp_L t 9 k = if k = (gp_I s 6 4).toNat then p1 else gp_L s 9 k) (e10 : ∀ k, gp_I t 10 k = if k = (gp_I s 6 4).toNat then nrm p0 p2 else gp_I s 10 k) (e11 : ∀ k, gp_I t 11 k = if k = (gp_I s 6 4).toNat then nrm p1 p3 else gp_I s 11 k) (e12 : ∀ k, gp_I t 12 k = if k = (gp_I s 6 4).toNat then D else gp_I s 12 k) (b0 : bd p0 (gp_I s 6 4)) (b1 : bd p1 (gp_I s 6 4)) (h1 : ∀ i : Nat, (p0 ||| p1).getLsbD i = true → gp_I s 12 i < D) (h2 : D = 0 ∨ ∃ i : Nat, (p0 ||| p1).getLsbD i = true ∧ D = gp_I s 12 i + 1) (n0 : 0 ≤ gp_I s 6 4) : SKX s t p0 p1 p2 p3 := by
  have a8 : gp_L t 8 (gp_I s 6 4).toNat = p0 := (e8 _).trans (if_pos rfl)
  have a9 : gp_L t 9 (gp_I s 6 4).toNat = p1 := (e9 _).trans (if_pos rfl)
  have a12 : gp_I t 12 (gp_I s 6 4).toNat = D := (e12 _).trans (if_pos rfl)
  have lt : ∀ i : Nat, (p0.getLsbD i = true ∨ p1.getLsbD i = true) → gp_I t 12 i = gp_I s 12 i := fun i hi => by
    have : (i : Int) < gp_I s 6 4 := by
      rcases hi with q | q
      · exact b0 i q
      · exact b1 i q
    rw [e12, if_neg (by omega)]
  refine ⟨⟨a8, a9, (e10 _).trans (if_pos rfl), (e11 _).trans (if_pos rfl), fun i hi => ?_, ?_⟩, fun k hk => ⟨(e8 k).trans (if_neg hk), (e9 k).trans (if_neg hk), (e10 k).trans (if_neg hk), (e11 k).trans (if_neg hk), (e12 k).trans (if_neg hk)⟩⟩
  · rw [a8, a9] at hi
    rw [a12, lt i hi]
    refine h1 i ?_
    rw [BitVec.getLsbD_or]
    rcases hi with q | q <;> simp [q]
  · rw [a12, a8, a9]
    rcases h2 with q | ⟨i, i1, i2⟩
    · exact Or.inl q
    · right
      have hi : p0.getLsbD i = true ∨ p1.getLsbD i = true := by
        rw [BitVec.getLsbD_or, Bool.or_eq_true] at i1; exact i1
      exact ⟨i, hi, by rw [lt i hi]; exact i2⟩
theorem S2_sk {L : Nat} {s t : gH} {p0 p1 : BitVec 64} {p2 p3 : Int} (hs : XI L 0 s) (hp : PO s) (h : S2P s) (m : SKX s t p0 p1 p2 p3) (e6 : gp_I t 6 4 = gp_I s 6 4) (e14 : ∀ k, gp_I t 14 k = gp_I s 14 k) (e13 : ∀ k, gp_I t 13 k = gp_I s 13 k) : S2P t := fun q p hqp hq => by
  have a := (hp.1 q (by omega)).1
  have b := (hp.1 p (by omega)).1
  have a0 := (xr14 hs q).1
  have b0 := (xr14 hs p).1
  have n0 := (xr6_4 hs).1
  have x := m.2 (gp_I s 14 q).toNat (by omega)
  have y := m.2 (gp_I s 14 p).toNat (by omega)
  have h9 := h q p hqp (by omega)
  unfold LtNs LtN at h9 ⊢
  rw [e14, e14, x.1, x.2.1, x.2.2.1, x.2.2.2.1, x.2.2.2.2, y.1, y.2.1, y.2.2.1, y.2.2.2.1, y.2.2.2.2, show gp_I t 13 = gp_I s 13 from funext e13]
  exact h9
theorem DSA_sk {L : Nat} {s t : gH} {p0 p1 : BitVec 64} {p2 p3 : Int} (hs : XI L 0 s) (h : DSA s) (m : SKX s t p0 p1 p2 p3) (e6 : gp_I t 6 4 = gp_I s 6 4) : DSA t := fun k hk => by
  have n0 := (xr6_4 hs).1
  have x := m.2 k (by omega)
  have d := h k (by omega)
  have lo : ∀ i : Nat, ((gp_L s 8 k).getLsbD i = true ∨ (gp_L s 9 k).getLsbD i = true) → gp_I t 12 i = gp_I s 12 i := fun i hi => by
    have : (i : Int) < k := by
      rcases hi with q | q
      · exact xr8 hs k i q
      · exact xr9 hs k i q
    exact (m.2 i (by omega)).2.2.2.2
  unfold DS
  rw [x.1, x.2.1, x.2.2.2.2]
  refine ⟨fun i hi => by rw [lo i hi]; exact d.1 i hi, ?_⟩
  rcases d.2 with q | ⟨i, i1, i2⟩
  · exact Or.inl q
  · exact Or.inr ⟨i, i1, by rw [lo i i1]; exact i2⟩
theorem DS_eq {s t : gH} {k : Nat} (h : DS s k) (e8 : ∀ k, gp_L t 8 k = gp_L s 8 k) (e9 : ∀ k, gp_L t 9 k = gp_L s 9 k) (e12 : ∀ k, gp_I t 12 k = gp_I s 12 k) : DS t k := by
  unfold DS
  rw [e8, e9, show gp_I t 12 = gp_I s 12 from funext e12]; exact h
/-- add: sketch, then settle -/
theorem ADX_of {L : Nat} {al : Bool} {s u t : gH} {p0 p1 : BitVec 64} {p2 p3 r : Int} (hu : XI L 0 u) (m : SKX s u p0 p1 p2 p3) (d : DSA u) (e6 : gp_I u 6 4 = gp_I s 6 4) (n0 : 0 ≤ gp_I s 6 4) (st : STX u t r) (g : gX L al [13, 14, 1196] u t) : ADX s t p0 p1 p2 p3 r ∧ DSA t := by
  have r8 : ∀ k, gp_L t 8 k = gp_L u 8 k := fun k => (g.2.2.1 8 k (by decide) (by decide) rfl).2.1
  have r9 : ∀ k, gp_L t 9 k = gp_L u 9 k := fun k => (g.2.2.1 9 k (by decide) (by decide) rfl).2.1
  have r10 : ∀ k, gp_I t 10 k = gp_I u 10 k := fun k => (g.2.2.1 10 k (by decide) (by decide) rfl).1
  have r11 : ∀ k, gp_I t 11 k = gp_I u 11 k := fun k => (g.2.2.1 11 k (by decide) (by decide) rfl).1
  have r12 : ∀ k, gp_I t 12 k = gp_I u 12 k := fun k => (g.2.2.1 12 k (by decide) (by decide) rfl).1
  have kp : KPo s t := fun k hk => by
    have x := m.2 k (by omega)
    exact ⟨(r8 k).trans x.1, (r9 k).trans x.2.1, (r10 k).trans x.2.2.1, (r11 k).trans x.2.2.2.1⟩
  have sm : ∀ k : Nat, (k : Int) < gp_I s 6 4 → (EqNs u (gp_I u 6 4).toNat k ↔ sameX s k p0 p1 p2 p3) := fun k hk => by
    have x := m.2 k (by omega)
    rw [e6]
    constructor
    · intro e
      obtain ⟨_, ⟨q1, q2⟩, q3, q4⟩ := e
      rw [x.1, m.1.1] at q1
      rw [x.2.2.1, m.1.2.2.1] at q2
      rw [x.2.1, m.1.2.1] at q3
      rw [x.2.2.2.1, m.1.2.2.2.1] at q4
      exact ⟨q1.symm, q3.symm, q2.symm, q4.symm⟩
    · intro e
      obtain ⟨q1, q2, q3, q4⟩ := e
      have w1 : gp_L u 8 (gp_I s 6 4).toNat = gp_L u 8 k := by rw [m.1.1, x.1, q1]
      have w2 : gp_L u 9 (gp_I s 6 4).toNat = gp_L u 9 k := by rw [m.1.2.1, x.2.1, q2]
      refine ⟨DS_uniq hu m.1.2.2.2.2 (d k (by omega)) w1 w2, ⟨w1, ?_⟩, w2, ?_⟩
      · rw [m.1.2.2.1, x.2.2.1, q3]
      · rw [m.1.2.2.2.1, x.2.2.2.1, q4]
  rcases st with ⟨k, k1, k2, k3, k4⟩ | ⟨n, ⟨m1, m2, m3⟩ | ⟨m1, m2, m3⟩⟩
  · refine ⟨⟨kp, Or.inl ⟨k, by omega, k2, (sm k (by omega)).mp k3, by omega⟩⟩, fun j hj => DS_eq (d j (by omega)) r8 r9 r12⟩
  · refine ⟨⟨kp, Or.inr ⟨fun k hk q => n k (by omega) ((sm k hk).mpr q), Or.inr ⟨by omega, m1, by omega⟩⟩⟩, fun j hj => DS_eq (d j (by omega)) r8 r9 r12⟩
  · refine ⟨⟨kp, Or.inr ⟨fun k hk q => n k (by omega) ((sm k hk).mpr q), Or.inl ⟨by omega, by omega, by omega, (r8 _).trans m.1.1, (r9 _).trans m.1.2.1, (r10 _).trans m.1.2.2.1, (r11 _).trans m.1.2.2.2.1⟩⟩⟩, fun j hj => ?_⟩
    by_cases c : j = (gp_I s 6 4).toNat
    · rw [c]; exact DS_eq m.1.2.2.2.2 r8 r9 r12
    · exact DS_eq (d j (by omega)) r8 r9 r12
set_option maxRecDepth 100000 in
/-- Pool.sketch -/
theorem xm_sketchX  {L d : Nat} {K : Option gV → gH → Prop} {s : gH}  (p0 : BitVec 64) (p1 : BitVec 64) (p2 : Int) (p3 : Int) (hs : XI L 0 s)  (q0 : PO s) (q1 : bd p0 (gp_I s 6 4)) (q2 : bd p1 (gp_I s 6 4)) (q3 : S2P s) (q4 : DSA s) (k : ∀ (t : gH), XI L 0 t → gX L false [8, 9, 10, 11, 12] s t → (PO t) → (SK t) → (SKX s t p0 p1 p2 p3) → (S2P t) → (DSA t) → K none t) : gs_C L (d + 2) 1026 10 [gp_r (some 6), gp_l p0, gp_l p1, gp_i p2, gp_i p3] s K := by
  have f_1 := xr6_4 hs
  refine s_1026_e _ _ _ _ ?_
  have f_2 := xr6_4 hs
  refine ⟨by omega, ?_⟩
  intro s_3 e_4
  have hs_5 : XI L 0 s_3 := by rw [e_4]; exact xw8 hs _ _ (by exact bd_le q1 (by omega))
  have hf_6 : gX L false [8, 9, 10, 11, 12] s s_3 := by rw [e_4]; exact gX.wL (gX.refl _ _ _ _) (Or.inl ⟨by decide, rfl⟩)
  have q_7 : gp_I s_3 6 4 = gp_I s 6 4 := by rw [e_4] <;> first | rfl | exact I_ne (by omega)
  have f_8 := xr6_4 hs_5
  refine ⟨by omega, ?_⟩
  intro s_9 e_10
  have hs_11 : XI L 0 s_9 := by rw [e_10]; exact xw9 hs_5 _ _ (by exact bd_le q2 (by omega))
  have hf_12 : gX L false [8, 9, 10, 11, 12] s s_9 := by rw [e_10]; exact gX.wL hf_6 (Or.inl ⟨by decide, rfl⟩)
  have q_13 : gp_I s_9 6 4 = gp_I s_3 6 4 := by rw [e_10] <;> first | rfl | exact I_ne (by omega)
  have f_14 := xr6_4 hs_11
  refine ⟨fun h_15 => ?_, fun h_15 => ?_⟩
  · have hz_16 : p0 = 0#64 := (gm_cmp0 _ _).mp h_15
    refine s_1026_49 _ _ _ _ _ _ _ _ _ ?_
    refine ⟨by omega, ?_⟩
    intro s_17 e_18
    have hs_19 : XI L 0 s_17 := by rw [e_18]; exact xw10 hs_11 _ _
    have hf_20 : gX L false [8, 9, 10, 11, 12] s s_17 := by rw [e_18]; exact gX.wI hf_12 (Or.inl rfl)
    have q_21 : gp_I s_17 6 4 = gp_I s_9 6 4 := by rw [e_18] <;> first | rfl | exact I_ne (by omega)
    have f_22 := xr6_4 hs_19
    refine ⟨fun h_23 => ?_, fun h_23 => ?_⟩
    · have hz_24 : p1 = 0#64 := (gm_cmp0 _ _).mp h_23
      refine s_1026_73 _ _ _ _ _ _ _ _ _ ?_
      refine ⟨by omega, ?_⟩
      intro s_25 e_26
      have hs_27 : XI L 0 s_25 := by rw [e_26]; exact xw11 hs_19 _ _
      have hf_28 : gX L false [8, 9, 10, 11, 12] s s_25 := by rw [e_26]; exact gX.wI hf_20 (Or.inl rfl)
      have q_29 : gp_I s_25 6 4 = gp_I s_17 6 4 := by rw [e_26] <;> first | rfl | exact I_ne (by omega)
      have lp_30 : ∀ (n_30 : Nat) (v7_30 : Int) (v8_30 : BitVec 64), (0 ≤ v7_30 ∧ v7_30 ≤ 60) → (sub v8_30 (p0 ||| p1)) → (∀ i : Nat, (p0 ||| p1).getLsbD i = true → (v8_30).getLsbD i = true ∨ gp_I s_25 12 i < v7_30) → (v7_30 ≤ gp_I s 6 4) → (v7_30 = 0 ∨ ∃ i : Nat, (p0 ||| p1).getLsbD i = true ∧ v7_30 = gp_I s_25 12 i + 1) → ((v8_30).toNat) < n_30 → gs_E L (d + 2) 1026 82 [gp_r (some 6), gp_l p0, gp_n, gp_l p1, gp_n, gp_i p2, gp_i p3, gp_i v7_30, gp_l v8_30, gp_n] [] s_25 K := by
        intro n_30
        induction n_30 with
        | zero => intro v7_30 v8_30 hv7_30 iv0_30 iv1_30 iv2_30 iv3_30 hm_30; exact absurd hm_30 (Nat.not_lt_zero _)
        | succ n_30 ih_30 =>
          intro v7_30 v8_30 hv7_30 iv0_30 iv1_30 iv2_30 iv3_30 hm_30
          refine s_1026_82 _ _ _ _ _ _ ?_
          refine ⟨fun h_31 => ?_, fun h_31 => ?_⟩
          · have hz_32 : v8_30 = 0#64 := (gm_cmp0 _ _).mp h_31
            have f_33 := xr6_4 hs_27
            refine ⟨by omega, ?_⟩
            intro s_34 e_35
            have hs_36 : XI L 0 s_34 := by rw [e_35]; exact xw12 hs_27 _ _ (by omega)
            have hf_37 : gX L false [8, 9, 10, 11, 12] s s_34 := by rw [e_35]; exact gX.wI hf_28 (Or.inl rfl)
            have q_38 : gp_I s_34 6 4 = gp_I s_25 6 4 := by rw [e_35] <;> first | rfl | exact I_ne (by omega)
            have hSKX : SKX s s_34 p0 p1 p2 p3 := SKX_of (D := v7_30) (by subst_vars; exact fun k => gz_rwLi s 8 _ _ k) (by subst_vars; exact fun k => gz_rwLi _ 9 _ _ k) (by first | (rw [show nrm p0 p2 = p2 from if_pos (by assumption)]; subst_vars; exact fun k => gz_rwi _ 10 _ _ k) | (rw [show nrm p0 p2 = 0 from if_neg (by assumption)]; subst_vars; exact fun k => gz_rwi _ 10 _ _ k)) (by first | (rw [show nrm p1 p3 = p3 from if_pos (by assumption)]; subst_vars; exact fun k => gz_rwi _ 11 _ _ k) | (rw [show nrm p1 p3 = 0 from if_neg (by assumption)]; subst_vars; exact fun k => gz_rwi _ 11 _ _ k)) (by subst_vars; exact fun k => gz_rwi _ 12 _ _ k) q1 q2 (fun i hi => by have h9 := iv1_30 i hi; rw [‹v8_30 = 0#64›] at h9; simp at h9; subst_vars; exact h9) (by have h9 := iv3_30; subst_vars; exact h9) (xr6_4 hs).1
            exact k s_34 hs_36 hf_37 (PO_sk q0 hs (by omega) (by subst_vars; exact fun k => rfl) (by subst_vars; exact fun k => rfl) (by subst_vars; exact fun k hk => (gz_rwi _ 12 _ _ k).trans (if_neg (show ¬ k = (gp_I s 6 4).toNat by omega))) (by subst_vars; exact fun k hk => (gz_rwLi _ 8 _ _ k).trans (if_neg (show ¬ k = (gp_I s 6 4).toNat by omega))) (by subst_vars; exact fun k hk => (gz_rwLi _ 9 _ _ k).trans (if_neg (show ¬ k = (gp_I s 6 4).toNat by omega)))) (SK_of (s := s) (N := gp_I s 6 4) (D := v7_30) (p0 := p0) (p1 := p1) (xr6_4 hs).1 (by omega) (by subst_vars; exact (gz_rwLi _ 8 _ _ _).trans (if_pos rfl)) (by subst_vars; exact (gz_rwLi _ 9 _ _ _).trans (if_pos rfl)) (by subst_vars; exact fun k hk => (gz_rwi _ 12 _ _ k).trans (if_neg (show ¬ k = (gp_I s 6 4).toNat by omega))) (by subst_vars; exact (gz_rwi _ 12 _ _ _).trans (if_pos rfl)) (fun i hi => by have h9 := iv1_30 i hi; rw [‹v8_30 = 0#64›] at h9; simp at h9; subst_vars; exact h9) q1 q2) (hSKX) (S2_sk hs q0 q3 hSKX (by omega) (by subst_vars; exact fun k => rfl) (by subst_vars; exact fun k => rfl)) (DSA_sk hs q4 hSKX (by omega))
          · have hz_39 : ¬ v8_30 = 0#64 := fun q => h_31 ((gm_cmp0 _ _).mpr q)
            refine xm_lowest _ (fun x_40 p_41 p_42 => ⟨_, rfl, ?_⟩)
            have hlw := iv0_30.low (by assumption) p_42
            have hbl := (bd_or q1 q2) _ hlw.2.2
            have hlo := p_42
            refine ⟨by omega, ?_⟩
            have f_43 := xr12 hs_27 (Int.toNat x_40)
            try rw [show gp_wr (1 + (gp_I s_25 12 (Int.toNat x_40))) = 1 + (gp_I s_25 12 (Int.toNat x_40)) from gp_wr_id (by omega) (by omega)]
            have w_44 := gz_mx (v7_30) (1 + (gp_I s_25 12 (Int.toNat x_40)))
            exact ih_30 _ _ (by omega) (by first | assumption | exact sub.refl _ | exact sub.rest (by assumption)) (sk_step iv1_30 (by assumption) (by assumption)) (by first | omega | assumption) (sk_s2 iv3_30 iv0_30 (by assumption) hlo) (by have := rest_lt (by assumption : ¬ v8_30 = 0#64); omega)
      exact lp_30 _ _ _ (by omega) (by first | assumption | exact sub.refl _ | exact sub.rest (by assumption)) (fun i hi => Or.inl hi) (by first | omega | assumption) (Or.inl rfl) (Nat.lt_succ_self _)
    · have hz_45 : ¬ p1 = 0#64 := fun q => h_23 ((gm_cmp0 _ _).mpr q)
      refine s_1026_73 _ _ _ _ _ _ _ _ _ ?_
      refine ⟨by omega, ?_⟩
      intro s_46 e_47
      have hs_48 : XI L 0 s_46 := by rw [e_47]; exact xw11 hs_19 _ _
      have hf_49 : gX L false [8, 9, 10, 11, 12] s s_46 := by rw [e_47]; exact gX.wI hf_20 (Or.inl rfl)
      have q_50 : gp_I s_46 6 4 = gp_I s_17 6 4 := by rw [e_47] <;> first | rfl | exact I_ne (by omega)
      have lp_51 : ∀ (n_51 : Nat) (v7_51 : Int) (v8_51 : BitVec 64), (0 ≤ v7_51 ∧ v7_51 ≤ 60) → (sub v8_51 (p0 ||| p1)) → (∀ i : Nat, (p0 ||| p1).getLsbD i = true → (v8_51).getLsbD i = true ∨ gp_I s_46 12 i < v7_51) → (v7_51 ≤ gp_I s 6 4) → (v7_51 = 0 ∨ ∃ i : Nat, (p0 ||| p1).getLsbD i = true ∧ v7_51 = gp_I s_46 12 i + 1) → ((v8_51).toNat) < n_51 → gs_E L (d + 2) 1026 82 [gp_r (some 6), gp_l p0, gp_n, gp_l p1, gp_n, gp_i p2, gp_i p3, gp_i v7_51, gp_l v8_51, gp_n] [] s_46 K := by
        intro n_51
        induction n_51 with
        | zero => intro v7_51 v8_51 hv7_51 iv0_51 iv1_51 iv2_51 iv3_51 hm_51; exact absurd hm_51 (Nat.not_lt_zero _)
        | succ n_51 ih_51 =>
          intro v7_51 v8_51 hv7_51 iv0_51 iv1_51 iv2_51 iv3_51 hm_51
          refine s_1026_82 _ _ _ _ _ _ ?_
          refine ⟨fun h_52 => ?_, fun h_52 => ?_⟩
          · have hz_53 : v8_51 = 0#64 := (gm_cmp0 _ _).mp h_52
            have f_54 := xr6_4 hs_48
            refine ⟨by omega, ?_⟩
            intro s_55 e_56
            have hs_57 : XI L 0 s_55 := by rw [e_56]; exact xw12 hs_48 _ _ (by omega)
            have hf_58 : gX L false [8, 9, 10, 11, 12] s s_55 := by rw [e_56]; exact gX.wI hf_49 (Or.inl rfl)
            have q_59 : gp_I s_55 6 4 = gp_I s_46 6 4 := by rw [e_56] <;> first | rfl | exact I_ne (by omega)
            have hSKX : SKX s s_55 p0 p1 p2 p3 := SKX_of (D := v7_51) (by subst_vars; exact fun k => gz_rwLi s 8 _ _ k) (by subst_vars; exact fun k => gz_rwLi _ 9 _ _ k) (by first | (rw [show nrm p0 p2 = p2 from if_pos (by assumption)]; subst_vars; exact fun k => gz_rwi _ 10 _ _ k) | (rw [show nrm p0 p2 = 0 from if_neg (by assumption)]; subst_vars; exact fun k => gz_rwi _ 10 _ _ k)) (by first | (rw [show nrm p1 p3 = p3 from if_pos (by assumption)]; subst_vars; exact fun k => gz_rwi _ 11 _ _ k) | (rw [show nrm p1 p3 = 0 from if_neg (by assumption)]; subst_vars; exact fun k => gz_rwi _ 11 _ _ k)) (by subst_vars; exact fun k => gz_rwi _ 12 _ _ k) q1 q2 (fun i hi => by have h9 := iv1_51 i hi; rw [‹v8_51 = 0#64›] at h9; simp at h9; subst_vars; exact h9) (by have h9 := iv3_51; subst_vars; exact h9) (xr6_4 hs).1
            exact k s_55 hs_57 hf_58 (PO_sk q0 hs (by omega) (by subst_vars; exact fun k => rfl) (by subst_vars; exact fun k => rfl) (by subst_vars; exact fun k hk => (gz_rwi _ 12 _ _ k).trans (if_neg (show ¬ k = (gp_I s 6 4).toNat by omega))) (by subst_vars; exact fun k hk => (gz_rwLi _ 8 _ _ k).trans (if_neg (show ¬ k = (gp_I s 6 4).toNat by omega))) (by subst_vars; exact fun k hk => (gz_rwLi _ 9 _ _ k).trans (if_neg (show ¬ k = (gp_I s 6 4).toNat by omega)))) (SK_of (s := s) (N := gp_I s 6 4) (D := v7_51) (p0 := p0) (p1 := p1) (xr6_4 hs).1 (by omega) (by subst_vars; exact (gz_rwLi _ 8 _ _ _).trans (if_pos rfl)) (by subst_vars; exact (gz_rwLi _ 9 _ _ _).trans (if_pos rfl)) (by subst_vars; exact fun k hk => (gz_rwi _ 12 _ _ k).trans (if_neg (show ¬ k = (gp_I s 6 4).toNat by omega))) (by subst_vars; exact (gz_rwi _ 12 _ _ _).trans (if_pos rfl)) (fun i hi => by have h9 := iv1_51 i hi; rw [‹v8_51 = 0#64›] at h9; simp at h9; subst_vars; exact h9) q1 q2) (hSKX) (S2_sk hs q0 q3 hSKX (by omega) (by subst_vars; exact fun k => rfl) (by subst_vars; exact fun k => rfl)) (DSA_sk hs q4 hSKX (by omega))
          · have hz_60 : ¬ v8_51 = 0#64 := fun q => h_52 ((gm_cmp0 _ _).mpr q)
            refine xm_lowest _ (fun x_61 p_62 p_63 => ⟨_, rfl, ?_⟩)
            have hlw := iv0_51.low (by assumption) p_63
            have hbl := (bd_or q1 q2) _ hlw.2.2
            have hlo := p_63
            refine ⟨by omega, ?_⟩
            have f_64 := xr12 hs_48 (Int.toNat x_61)
            try rw [show gp_wr (1 + (gp_I s_46 12 (Int.toNat x_61))) = 1 + (gp_I s_46 12 (Int.toNat x_61)) from gp_wr_id (by omega) (by omega)]
            have w_65 := gz_mx (v7_51) (1 + (gp_I s_46 12 (Int.toNat x_61)))
            exact ih_51 _ _ (by omega) (by first | assumption | exact sub.refl _ | exact sub.rest (by assumption)) (sk_step iv1_51 (by assumption) (by assumption)) (by first | omega | assumption) (sk_s2 iv3_51 iv0_51 (by assumption) hlo) (by have := rest_lt (by assumption : ¬ v8_51 = 0#64); omega)
      exact lp_51 _ _ _ (by omega) (by first | assumption | exact sub.refl _ | exact sub.rest (by assumption)) (fun i hi => Or.inl hi) (by first | omega | assumption) (Or.inl rfl) (Nat.lt_succ_self _)
  · have hz_66 : ¬ p0 = 0#64 := fun q => h_15 ((gm_cmp0 _ _).mpr q)
    refine s_1026_49 _ _ _ _ _ _ _ _ _ ?_
    refine ⟨by omega, ?_⟩
    intro s_67 e_68
    have hs_69 : XI L 0 s_67 := by rw [e_68]; exact xw10 hs_11 _ _
    have hf_70 : gX L false [8, 9, 10, 11, 12] s s_67 := by rw [e_68]; exact gX.wI hf_12 (Or.inl rfl)
    have q_71 : gp_I s_67 6 4 = gp_I s_9 6 4 := by rw [e_68] <;> first | rfl | exact I_ne (by omega)
    have f_72 := xr6_4 hs_69
    refine ⟨fun h_73 => ?_, fun h_73 => ?_⟩
    · have hz_74 : p1 = 0#64 := (gm_cmp0 _ _).mp h_73
      refine s_1026_73 _ _ _ _ _ _ _ _ _ ?_
      refine ⟨by omega, ?_⟩
      intro s_75 e_76
      have hs_77 : XI L 0 s_75 := by rw [e_76]; exact xw11 hs_69 _ _
      have hf_78 : gX L false [8, 9, 10, 11, 12] s s_75 := by rw [e_76]; exact gX.wI hf_70 (Or.inl rfl)
      have q_79 : gp_I s_75 6 4 = gp_I s_67 6 4 := by rw [e_76] <;> first | rfl | exact I_ne (by omega)
      have lp_80 : ∀ (n_80 : Nat) (v7_80 : Int) (v8_80 : BitVec 64), (0 ≤ v7_80 ∧ v7_80 ≤ 60) → (sub v8_80 (p0 ||| p1)) → (∀ i : Nat, (p0 ||| p1).getLsbD i = true → (v8_80).getLsbD i = true ∨ gp_I s_75 12 i < v7_80) → (v7_80 ≤ gp_I s 6 4) → (v7_80 = 0 ∨ ∃ i : Nat, (p0 ||| p1).getLsbD i = true ∧ v7_80 = gp_I s_75 12 i + 1) → ((v8_80).toNat) < n_80 → gs_E L (d + 2) 1026 82 [gp_r (some 6), gp_l p0, gp_n, gp_l p1, gp_n, gp_i p2, gp_i p3, gp_i v7_80, gp_l v8_80, gp_n] [] s_75 K := by
        intro n_80
        induction n_80 with
        | zero => intro v7_80 v8_80 hv7_80 iv0_80 iv1_80 iv2_80 iv3_80 hm_80; exact absurd hm_80 (Nat.not_lt_zero _)
        | succ n_80 ih_80 =>
          intro v7_80 v8_80 hv7_80 iv0_80 iv1_80 iv2_80 iv3_80 hm_80
          refine s_1026_82 _ _ _ _ _ _ ?_
          refine ⟨fun h_81 => ?_, fun h_81 => ?_⟩
          · have hz_82 : v8_80 = 0#64 := (gm_cmp0 _ _).mp h_81
            have f_83 := xr6_4 hs_77
            refine ⟨by omega, ?_⟩
            intro s_84 e_85
            have hs_86 : XI L 0 s_84 := by rw [e_85]; exact xw12 hs_77 _ _ (by omega)
            have hf_87 : gX L false [8, 9, 10, 11, 12] s s_84 := by rw [e_85]; exact gX.wI hf_78 (Or.inl rfl)
            have q_88 : gp_I s_84 6 4 = gp_I s_75 6 4 := by rw [e_85] <;> first | rfl | exact I_ne (by omega)
            have hSKX : SKX s s_84 p0 p1 p2 p3 := SKX_of (D := v7_80) (by subst_vars; exact fun k => gz_rwLi s 8 _ _ k) (by subst_vars; exact fun k => gz_rwLi _ 9 _ _ k) (by first | (rw [show nrm p0 p2 = p2 from if_pos (by assumption)]; subst_vars; exact fun k => gz_rwi _ 10 _ _ k) | (rw [show nrm p0 p2 = 0 from if_neg (by assumption)]; subst_vars; exact fun k => gz_rwi _ 10 _ _ k)) (by first | (rw [show nrm p1 p3 = p3 from if_pos (by assumption)]; subst_vars; exact fun k => gz_rwi _ 11 _ _ k) | (rw [show nrm p1 p3 = 0 from if_neg (by assumption)]; subst_vars; exact fun k => gz_rwi _ 11 _ _ k)) (by subst_vars; exact fun k => gz_rwi _ 12 _ _ k) q1 q2 (fun i hi => by have h9 := iv1_80 i hi; rw [‹v8_80 = 0#64›] at h9; simp at h9; subst_vars; exact h9) (by have h9 := iv3_80; subst_vars; exact h9) (xr6_4 hs).1
            exact k s_84 hs_86 hf_87 (PO_sk q0 hs (by omega) (by subst_vars; exact fun k => rfl) (by subst_vars; exact fun k => rfl) (by subst_vars; exact fun k hk => (gz_rwi _ 12 _ _ k).trans (if_neg (show ¬ k = (gp_I s 6 4).toNat by omega))) (by subst_vars; exact fun k hk => (gz_rwLi _ 8 _ _ k).trans (if_neg (show ¬ k = (gp_I s 6 4).toNat by omega))) (by subst_vars; exact fun k hk => (gz_rwLi _ 9 _ _ k).trans (if_neg (show ¬ k = (gp_I s 6 4).toNat by omega)))) (SK_of (s := s) (N := gp_I s 6 4) (D := v7_80) (p0 := p0) (p1 := p1) (xr6_4 hs).1 (by omega) (by subst_vars; exact (gz_rwLi _ 8 _ _ _).trans (if_pos rfl)) (by subst_vars; exact (gz_rwLi _ 9 _ _ _).trans (if_pos rfl)) (by subst_vars; exact fun k hk => (gz_rwi _ 12 _ _ k).trans (if_neg (show ¬ k = (gp_I s 6 4).toNat by omega))) (by subst_vars; exact (gz_rwi _ 12 _ _ _).trans (if_pos rfl)) (fun i hi => by have h9 := iv1_80 i hi; rw [‹v8_80 = 0#64›] at h9; simp at h9; subst_vars; exact h9) q1 q2) (hSKX) (S2_sk hs q0 q3 hSKX (by omega) (by subst_vars; exact fun k => rfl) (by subst_vars; exact fun k => rfl)) (DSA_sk hs q4 hSKX (by omega))
          · have hz_89 : ¬ v8_80 = 0#64 := fun q => h_81 ((gm_cmp0 _ _).mpr q)
            refine xm_lowest _ (fun x_90 p_91 p_92 => ⟨_, rfl, ?_⟩)
            have hlw := iv0_80.low (by assumption) p_92
            have hbl := (bd_or q1 q2) _ hlw.2.2
            have hlo := p_92
            refine ⟨by omega, ?_⟩
            have f_93 := xr12 hs_77 (Int.toNat x_90)
            try rw [show gp_wr (1 + (gp_I s_75 12 (Int.toNat x_90))) = 1 + (gp_I s_75 12 (Int.toNat x_90)) from gp_wr_id (by omega) (by omega)]
            have w_94 := gz_mx (v7_80) (1 + (gp_I s_75 12 (Int.toNat x_90)))
            exact ih_80 _ _ (by omega) (by first | assumption | exact sub.refl _ | exact sub.rest (by assumption)) (sk_step iv1_80 (by assumption) (by assumption)) (by first | omega | assumption) (sk_s2 iv3_80 iv0_80 (by assumption) hlo) (by have := rest_lt (by assumption : ¬ v8_80 = 0#64); omega)
      exact lp_80 _ _ _ (by omega) (by first | assumption | exact sub.refl _ | exact sub.rest (by assumption)) (fun i hi => Or.inl hi) (by first | omega | assumption) (Or.inl rfl) (Nat.lt_succ_self _)
    · have hz_95 : ¬ p1 = 0#64 := fun q => h_73 ((gm_cmp0 _ _).mpr q)
      refine s_1026_73 _ _ _ _ _ _ _ _ _ ?_
      refine ⟨by omega, ?_⟩
      intro s_96 e_97
      have hs_98 : XI L 0 s_96 := by rw [e_97]; exact xw11 hs_69 _ _
      have hf_99 : gX L false [8, 9, 10, 11, 12] s s_96 := by rw [e_97]; exact gX.wI hf_70 (Or.inl rfl)
      have q_100 : gp_I s_96 6 4 = gp_I s_67 6 4 := by rw [e_97] <;> first | rfl | exact I_ne (by omega)
      have lp_101 : ∀ (n_101 : Nat) (v7_101 : Int) (v8_101 : BitVec 64), (0 ≤ v7_101 ∧ v7_101 ≤ 60) → (sub v8_101 (p0 ||| p1)) → (∀ i : Nat, (p0 ||| p1).getLsbD i = true → (v8_101).getLsbD i = true ∨ gp_I s_96 12 i < v7_101) → (v7_101 ≤ gp_I s 6 4) → (v7_101 = 0 ∨ ∃ i : Nat, (p0 ||| p1).getLsbD i = true ∧ v7_101 = gp_I s_96 12 i + 1) → ((v8_101).toNat) < n_101 → gs_E L (d + 2) 1026 82 [gp_r (some 6), gp_l p0, gp_n, gp_l p1, gp_n, gp_i p2, gp_i p3, gp_i v7_101, gp_l v8_101, gp_n] [] s_96 K := by
        intro n_101
        induction n_101 with
        | zero => intro v7_101 v8_101 hv7_101 iv0_101 iv1_101 iv2_101 iv3_101 hm_101; exact absurd hm_101 (Nat.not_lt_zero _)
        | succ n_101 ih_101 =>
          intro v7_101 v8_101 hv7_101 iv0_101 iv1_101 iv2_101 iv3_101 hm_101
          refine s_1026_82 _ _ _ _ _ _ ?_
          refine ⟨fun h_102 => ?_, fun h_102 => ?_⟩
          · have hz_103 : v8_101 = 0#64 := (gm_cmp0 _ _).mp h_102
            have f_104 := xr6_4 hs_98
            refine ⟨by omega, ?_⟩
            intro s_105 e_106
            have hs_107 : XI L 0 s_105 := by rw [e_106]; exact xw12 hs_98 _ _ (by omega)
            have hf_108 : gX L false [8, 9, 10, 11, 12] s s_105 := by rw [e_106]; exact gX.wI hf_99 (Or.inl rfl)
            have q_109 : gp_I s_105 6 4 = gp_I s_96 6 4 := by rw [e_106] <;> first | rfl | exact I_ne (by omega)
            have hSKX : SKX s s_105 p0 p1 p2 p3 := SKX_of (D := v7_101) (by subst_vars; exact fun k => gz_rwLi s 8 _ _ k) (by subst_vars; exact fun k => gz_rwLi _ 9 _ _ k) (by first | (rw [show nrm p0 p2 = p2 from if_pos (by assumption)]; subst_vars; exact fun k => gz_rwi _ 10 _ _ k) | (rw [show nrm p0 p2 = 0 from if_neg (by assumption)]; subst_vars; exact fun k => gz_rwi _ 10 _ _ k)) (by first | (rw [show nrm p1 p3 = p3 from if_pos (by assumption)]; subst_vars; exact fun k => gz_rwi _ 11 _ _ k) | (rw [show nrm p1 p3 = 0 from if_neg (by assumption)]; subst_vars; exact fun k => gz_rwi _ 11 _ _ k)) (by subst_vars; exact fun k => gz_rwi _ 12 _ _ k) q1 q2 (fun i hi => by have h9 := iv1_101 i hi; rw [‹v8_101 = 0#64›] at h9; simp at h9; subst_vars; exact h9) (by have h9 := iv3_101; subst_vars; exact h9) (xr6_4 hs).1
            exact k s_105 hs_107 hf_108 (PO_sk q0 hs (by omega) (by subst_vars; exact fun k => rfl) (by subst_vars; exact fun k => rfl) (by subst_vars; exact fun k hk => (gz_rwi _ 12 _ _ k).trans (if_neg (show ¬ k = (gp_I s 6 4).toNat by omega))) (by subst_vars; exact fun k hk => (gz_rwLi _ 8 _ _ k).trans (if_neg (show ¬ k = (gp_I s 6 4).toNat by omega))) (by subst_vars; exact fun k hk => (gz_rwLi _ 9 _ _ k).trans (if_neg (show ¬ k = (gp_I s 6 4).toNat by omega)))) (SK_of (s := s) (N := gp_I s 6 4) (D := v7_101) (p0 := p0) (p1 := p1) (xr6_4 hs).1 (by omega) (by subst_vars; exact (gz_rwLi _ 8 _ _ _).trans (if_pos rfl)) (by subst_vars; exact (gz_rwLi _ 9 _ _ _).trans (if_pos rfl)) (by subst_vars; exact fun k hk => (gz_rwi _ 12 _ _ k).trans (if_neg (show ¬ k = (gp_I s 6 4).toNat by omega))) (by subst_vars; exact (gz_rwi _ 12 _ _ _).trans (if_pos rfl)) (fun i hi => by have h9 := iv1_101 i hi; rw [‹v8_101 = 0#64›] at h9; simp at h9; subst_vars; exact h9) q1 q2) (hSKX) (S2_sk hs q0 q3 hSKX (by omega) (by subst_vars; exact fun k => rfl) (by subst_vars; exact fun k => rfl)) (DSA_sk hs q4 hSKX (by omega))
          · have hz_110 : ¬ v8_101 = 0#64 := fun q => h_102 ((gm_cmp0 _ _).mpr q)
            refine xm_lowest _ (fun x_111 p_112 p_113 => ⟨_, rfl, ?_⟩)
            have hlw := iv0_101.low (by assumption) p_113
            have hbl := (bd_or q1 q2) _ hlw.2.2
            have hlo := p_113
            refine ⟨by omega, ?_⟩
            have f_114 := xr12 hs_98 (Int.toNat x_111)
            try rw [show gp_wr (1 + (gp_I s_96 12 (Int.toNat x_111))) = 1 + (gp_I s_96 12 (Int.toNat x_111)) from gp_wr_id (by omega) (by omega)]
            have w_115 := gz_mx (v7_101) (1 + (gp_I s_96 12 (Int.toNat x_111)))
            exact ih_101 _ _ (by omega) (by first | assumption | exact sub.refl _ | exact sub.rest (by assumption)) (sk_step iv1_101 (by assumption) (by assumption)) (by first | omega | assumption) (sk_s2 iv3_101 iv0_101 (by assumption) hlo) (by have := rest_lt (by assumption : ¬ v8_101 = 0#64); omega)
      exact lp_101 _ _ _ (by omega) (by first | assumption | exact sub.refl _ | exact sub.rest (by assumption)) (fun i hi => Or.inl hi) (by first | omega | assumption) (Or.inl rfl) (Nat.lt_succ_self _)
set_option maxRecDepth 100000 in
/-- Pool.add -/
theorem xm_addX  {L d : Nat} {K : Option gV → gH → Prop} {s : gH}  (p0 : BitVec 64) (p1 : BitVec 64) (p2 : Int) (p3 : Int) (hs : XI L 0 s)  (q0 : PO s) (q1 : bd p0 (gp_I s 6 4)) (q2 : bd p1 (gp_I s 6 4)) (q3 : S2P s) (q4 : DSA s) (k : ∀ (r : Int), ∀ (t : gH), XI L 0 t → gX L false [8, 9, 10, 11, 12, 13, 14, 1196] s t → ((-1) ≤ r ∧ r ≤ 59) → (PO t) → ((r = -1 ∧ gp_I t 6 4 = gp_I s 6 4 ∧ gp_I s 6 4 = 60) ∨ (0 ≤ r ∧ r < gp_I t 6 4 ∧ gp_I s 6 4 ≤ gp_I t 6 4 ∧ gp_I t 6 4 ≤ gp_I s 6 4 + 1)) → (S2P t) → (ADX s t p0 p1 p2 p3 r) → (DSA t) → K (some (gp_i r)) t) : gs_C L (d + 4) 1028 7 [gp_r (some 6), gp_l p0, gp_l p1, gp_i p2, gp_i p3] s K := by
  have f_1 := xr6_4 hs
  refine s_1028_e _ _ _ _ ?_
  refine xm_sketchX _ _ _ _ hs (q0) (by first | assumption | exact bd_le (by assumption) (by omega) | exact bd_0 _) (by first | assumption | exact bd_le (by assumption) (by omega) | exact bd_0 _) (by first | omega | assumption) (by first | omega | assumption) (fun s_2 hs_3 hf_4 p_5 p_6 p_7 p_8 p_9 => ⟨rfl, ?_⟩)
  have hf_10 : gX L false [8, 9, 10, 11, 12, 13, 14, 1196] s s_2 := gX.sub hf_4 rfl rfl
  have q_11 : gp_I s_2 6 4 = gp_I s 6 4 := (hf_4.2.2.1 6 4 (by decide) (by decide) rfl).1
  have hSKX := p_7
  have hS2 := p_8
  have hDS := p_9
  have hsu := hs_3
  refine xm_settleX hs_3 (p_5) (p_6) (by first | omega | assumption) (fun x_12 s_13 hs_14 hf_15 p_16 p_17 p_18 p_19 p_20 => ⟨_, rfl, ?_⟩)
  have hf_21 : gX L false [8, 9, 10, 11, 12, 13, 14, 1196] s s_13 := gX.trans hf_10 hf_15 rfl rfl
  have hAD := ADX_of hsu hSKX hDS (by omega) (xr6_4 hs).1 p_20 hf_15
  have hS9 := p_19
  exact k _ s_13 hs_14 hf_21 (by omega) (p_17) (by first | omega | assumption) (hS9) (hAD.1) (hAD.2)
