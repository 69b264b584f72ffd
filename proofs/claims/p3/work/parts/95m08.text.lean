/-! what a text says -/
def NGV (x z : Nat) : Prop := ∃ (f : Nat → ND) (n : Nat), TBL f n ∧ val f (n - 1) = x ∧ z = negv f (n - 1)
def JFV (x y : Nat) : Prop := ∃ (f : Nat → ND) (n : Nat) (g : Nat → ND) (m : Nat), TBL f n ∧ TBL g m ∧ val f (n - 1) = x ∧ val g (m - 1) = y ∧ ¬ C60 (SMS f g (n - 1) (m - 1))
def JSV (x y z : Nat) : Prop := ∃ (f : Nat → ND) (n : Nat) (g : Nat → ND) (m : Nat), TBL f n ∧ TBL g m ∧ val f (n - 1) = x ∧ val g (m - 1) = y ∧ z = sm f g (n - 1) (m - 1)
def BIGV (x : Nat) : Prop := ∃ (f : Nat → ND) (n : Nat), TBL f n ∧ val f (n - 1) = x ∧ ¬ B99 f n
theorem NGV_f {x z w : Nat} (a : NGV x z) (b : NGV x w) : z = w := by
  obtain ⟨f, n, a1, a2, a3⟩ := a
  obtain ⟨g, m, b1, b2, b3⟩ := b
  rw [a3, b3]; exact negv_eq (a2.trans b2.symm)
theorem JSV_f {x y z w : Nat} (a : JSV x y z) (b : JSV x y w) : z = w := by
  obtain ⟨f, n, g, m, _, _, a3, a4, a5⟩ := a
  obtain ⟨f', n', g', m', _, _, b3, b4, b5⟩ := b
  rw [a5, b5]; exact sm_eq _ _ _ _ _ (Nat.lt_succ_self _) (a3.trans b3.symm) (a4.trans b4.symm)
theorem JFV_of {f g : Nat → ND} {n m : Nat} (hf : TBL f n) (hg : TBL g m) : JFV (val f (n - 1)) (val g (m - 1)) ↔ ¬ C60 (SMS f g (n - 1) (m - 1)) := by
  constructor
  · rintro ⟨f', n', g', m', _, _, a3, a4, a5⟩ c
    exact a5 (C60_mono c (fun x hx => SMS_eq a3 a4 hx))
  · intro h
    exact ⟨f, n, g, m, hf, hg, rfl, rfl, h⟩
theorem B99_BGF {f : Nat → ND} {n : Nat} (h : TBL f n) : B99 f n ↔ ¬ BGF f (n - 1) := by
  constructor
  · rintro b ⟨m, k, r, q⟩
    have := rch_le _ _ _ r
    have z := b k (by have := h.1; omega)
    unfold OUT at q
    omega
  · intro c k hk
    obtain ⟨m, hm⟩ := h.2.2.2 k hk
    by_cases p : OUT (f k).2.2.1 ∨ OUT (f k).2.2.2
    · exact absurd ⟨m, k, hm, p⟩ c
    · unfold OUT at p
      omega
theorem BIGV_of {f : Nat → ND} {n : Nat} (h : TBL f n) : BIGV (val f (n - 1)) ↔ ¬ B99 f n := by
  constructor
  · rintro ⟨g, m, g1, g2, g3⟩ b
    rw [B99_BGF g1] at g3
    rw [B99_BGF h] at b
    exact g3 (fun q => b (BGF_eq g2 q))
  · intro c
    exact ⟨f, n, h, rfl, c⟩
def nxg (g : Nat → Int) (n p : Int) : Int := if p < n then g p.toNat else -1
def dgt (c : Int) : Prop := 48 ≤ c ∧ c ≤ 57
def ndg (g : Nat → Int) (n : Int) : Nat → Int → Int → Int × Int
  | 0, p, v => (p, v)
  | k + 1, p, v => if 48 ≤ nxg g n p ∧ nxg g n p ≤ 57 then ndg g n k (p + 1) (v * 10 + (nxg g n p - 48)) else (p, v)
/-- place, fault (below 0: none), number of the game or options, trouble, number of a shut side -/
abbrev R5 : Type := Int × Int × Nat × Int × Int
def OK5 (r : R5) : Prop := r.2.1 < 0 ∧ r.2.2.2.1 = 0
def NV (f tr : Int) (v : Nat) : Nat := if f < 0 ∧ tr = 0 then v else 0
abbrev RR : Type := Nat → Int → R5 → R5 → Prop
def RDU (R : RR) (g : Nat → Int) (n o : Int) (i r : R5) : Prop :=
  (nxg g n i.1 = 119 ∧ dgt (nxg g n (i.1 + 1)) ∧ r = (i.1 + 2, -1, NV (-1) i.2.2.2.1 (wtv (nxg g n (i.1 + 1) - 48).toNat), i.2.2.2.1, 0)) ∨
  (nxg g n i.1 = 119 ∧ ¬ dgt (nxg g n (i.1 + 1)) ∧ r = (i.1 + 1, i.1 + 1, 0, i.2.2.2.1, 0)) ∨
  (dgt (nxg g n i.1) ∧ r = ((ndg g n 3 i.1 0).1, -1, NV (-1) i.2.2.2.1 (cod4 0 0 (ndg g n 3 i.1 0).2 (ndg g n 3 i.1 0).2), i.2.2.2.1, 0)) ∨
  (nxg g n i.1 ≠ 119 ∧ ¬ dgt (nxg g n i.1) ∧ ((nxg g n i.1 ≠ 45 ∧ nxg g n i.1 ≠ 60) ∨ 8 ≤ o) ∧ r = (i.1, i.1, 0, i.2.2.2.1, 0)) ∨
  (nxg g n i.1 = 45 ∧ o < 8 ∧ ∃ (q : R5) (z : Nat), R 0 (o + 1) (i.1 + 1, -1, 0, i.2.2.2.1, 0) q ∧ (OK5 q → NGV q.2.2.1 z) ∧ (¬ OK5 q → z = 0) ∧ r = (q.1, q.2.1, z, q.2.2.2.1, 0)) ∨
  (nxg g n i.1 = 60 ∧ o < 8 ∧ R 5 (o + 1) (i.1 + 1, -1, 0, i.2.2.2.1, 0) r)
def SUR (q q2 q3 : R5) : Prop := q3.1 = q2.1 ∧ q3.2.1 = q2.2.1 ∧ q3.2.2.2.2 = 0 ∧ ((¬ OK5 q2 ∧ q3.2.2.2.1 = q2.2.2.2.1 ∧ q3.2.2.1 = 0) ∨ (OK5 q2 ∧ ((JFV q.2.2.1 q2.2.2.1 ∧ q3.2.2.2.1 = 4 ∧ q3.2.2.1 = 0) ∨ (¬ JFV q.2.2.1 q2.2.2.1 ∧ ∃ z, JSV q.2.2.1 q2.2.2.1 z ∧ ((BIGV z ∧ q3.2.2.2.1 = 6 ∧ q3.2.2.1 = 0) ∨ (¬ BIGV z ∧ q3.2.2.2.1 = 0 ∧ q3.2.2.1 = z))))))
def RDE (R : RR) (o : Int) (i r : R5) : Prop := ∃ q, R 0 o i q ∧ R 2 o q r
def RDL (R : RR) (g : Nat → Int) (n o : Int) (q r : R5) : Prop := (¬ (q.2.1 < 0 ∧ nxg g n q.1 = 43) ∧ r = q) ∨ ((q.2.1 < 0 ∧ nxg g n q.1 = 43) ∧ ∃ q2 q3, R 0 o (q.1 + 1, -1, 0, q.2.2.2.1, 0) q2 ∧ SUR q q2 q3 ∧ R 2 o q3 r)
def RDS (R : RR) (g : Nat → Int) (n o : Int) (i r : R5) : Prop :=
  (nxg g n i.1 = 58 ∧ ∃ p s, ((nxg g n (i.1 + 1) = 45 ∧ p = i.1 + 2 ∧ s = -1) ∨ (nxg g n (i.1 + 1) ≠ 45 ∧ p = i.1 + 1 ∧ s = 1)) ∧ ((dgt (nxg g n p) ∧ r = ((ndg g n 3 p 0).1, -1, 0, i.2.2.2.1, s * (ndg g n 3 p 0).2)) ∨ (¬ dgt (nxg g n p) ∧ r = (p, p, 0, i.2.2.2.1, 0)))) ∨
  (nxg g n i.1 ≠ 58 ∧ ∃ q, R 1 o i q ∧ R 4 o (q.1, q.2.1, NV q.2.1 q.2.2.2.1 (2 ^ q.2.2.1), q.2.2.2.1, 0) r)
def RDT (R : RR) (g : Nat → Int) (n o : Int) (q r : R5) : Prop := (¬ (q.2.1 < 0 ∧ nxg g n q.1 = 44) ∧ r = q) ∨ ((q.2.1 < 0 ∧ nxg g n q.1 = 44) ∧ ∃ q2, R 1 o (q.1 + 1, -1, 0, q.2.2.2.1, 0) q2 ∧ R 4 o (q2.1, q2.2.1, NV q2.2.1 q2.2.2.2.1 (q.2.2.1 ||| 2 ^ q2.2.2.1), q2.2.2.2.1, 0) r)
def FRR (a b r : R5) : Prop := r.1 = b.1 + 1 ∧ r.2.1 = -1 ∧ r.2.2.2.2 = 0 ∧ ((b.2.2.2.1 ≠ 0 ∧ r.2.2.2.1 = b.2.2.2.1 ∧ r.2.2.1 = 0) ∨ (b.2.2.2.1 = 0 ∧ ((¬ C60 (FRS a.2.2.1 b.2.2.1 (frv a.2.2.1 b.2.2.1 a.2.2.2.2 b.2.2.2.2)) ∧ r.2.2.2.1 = 4 ∧ r.2.2.1 = 0) ∨ (C60 (FRS a.2.2.1 b.2.2.1 (frv a.2.2.1 b.2.2.1 a.2.2.2.2 b.2.2.2.2)) ∧ r.2.2.2.1 = 0 ∧ r.2.2.1 = frv a.2.2.1 b.2.2.1 a.2.2.2.2 b.2.2.2.2))))
def RDF (R : RR) (g : Nat → Int) (n o : Int) (i r : R5) : Prop := ∃ a, R 3 o i a ∧ ((0 ≤ a.2.1 ∧ r = (a.1, a.2.1, 0, a.2.2.2.1, 0)) ∨ (a.2.1 < 0 ∧ nxg g n a.1 ≠ 124 ∧ r = (a.1, a.1, 0, a.2.2.2.1, 0)) ∨ (a.2.1 < 0 ∧ nxg g n a.1 = 124 ∧ ∃ b, R 3 o (a.1 + 1, -1, 0, a.2.2.2.1, 0) b ∧ ((0 ≤ b.2.1 ∧ r = (b.1, b.2.1, 0, b.2.2.2.1, 0)) ∨ (b.2.1 < 0 ∧ nxg g n b.1 ≠ 62 ∧ r = (b.1, b.1, 0, b.2.2.2.1, 0)) ∨ (b.2.1 < 0 ∧ nxg g n b.1 = 62 ∧ FRR a b r))))
def RDK (R : RR) (g : Nat → Int) (n : Int) (k : Nat) (o : Int) (i r : R5) : Prop :=
  if k = 0 then RDU R g n o i r else if k = 1 then RDE R o i r else if k = 2 then RDL R g n o i r else if k = 3 then RDS R g n o i r else if k = 4 then RDT R g n o i r else RDF R g n o i r
def RDZ (g : Nat → Int) (n : Int) : Nat → RR
  | 0 => fun _ _ _ _ => False
  | N + 1 => RDK (RDZ g n N) g n
theorem RDK_mono {R R' : RR} {g : Nat → Int} {n : Int} (h : ∀ k o i r, R k o i r → R' k o i r) {k : Nat} {o : Int} {i r : R5} (a : RDK R g n k o i r) : RDK R' g n k o i r := by
  unfold RDK at a ⊢
  by_cases c0 : k = 0
  · rw [if_pos c0] at a ⊢
    rcases a with a | a | a | a | ⟨a1, a2, q, z, a3, a4⟩ | ⟨a1, a2, a3⟩
    · exact Or.inl a
    · exact Or.inr (Or.inl a)
    · exact Or.inr (Or.inr (Or.inl a))
    · exact Or.inr (Or.inr (Or.inr (Or.inl a)))
    · exact Or.inr (Or.inr (Or.inr (Or.inr (Or.inl ⟨a1, a2, q, z, h _ _ _ _ a3, a4⟩))))
    · exact Or.inr (Or.inr (Or.inr (Or.inr (Or.inr ⟨a1, a2, h _ _ _ _ a3⟩))))
  rw [if_neg c0] at a ⊢
  by_cases c1 : k = 1
  · rw [if_pos c1] at a ⊢
    obtain ⟨q, a1, a2⟩ := a
    exact ⟨q, h _ _ _ _ a1, h _ _ _ _ a2⟩
  rw [if_neg c1] at a ⊢
  by_cases c2 : k = 2
  · rw [if_pos c2] at a ⊢
    rcases a with a | ⟨a1, q2, q3, a2, a3, a4⟩
    · exact Or.inl a
    · exact Or.inr ⟨a1, q2, q3, h _ _ _ _ a2, a3, h _ _ _ _ a4⟩
  rw [if_neg c2] at a ⊢
  by_cases c3 : k = 3
  · rw [if_pos c3] at a ⊢
    rcases a with a | ⟨a1, q, a2, a3⟩
    · exact Or.inl a
    · exact Or.inr ⟨a1, q, h _ _ _ _ a2, h _ _ _ _ a3⟩
  rw [if_neg c3] at a ⊢
  by_cases c4 : k = 4
  · rw [if_pos c4] at a ⊢
    rcases a with a | ⟨a1, q, a2, a3⟩
    · exact Or.inl a
    · exact Or.inr ⟨a1, q, h _ _ _ _ a2, h _ _ _ _ a3⟩
  rw [if_neg c4] at a ⊢
  obtain ⟨x, a1, a2⟩ := a
  refine ⟨x, h _ _ _ _ a1, ?_⟩
  rcases a2 with a2 | a2 | ⟨a2, a3, b, b1, b2⟩
  · exact Or.inl a2
  · exact Or.inr (Or.inl a2)
  · exact Or.inr (Or.inr ⟨a2, a3, b, h _ _ _ _ b1, b2⟩)
theorem RDZ_s {g : Nat → Int} {n : Int} : ∀ N k o i r, RDZ g n N k o i r → RDZ g n (N + 1) k o i r
  | 0, _, _, _, _, h => absurd h (fun q => q)
  | N + 1, k, o, i, r, h => RDK_mono (fun k o i r => RDZ_s N k o i r) h
theorem RDZ_le {g : Nat → Int} {n : Int} {N M k : Nat} {o : Int} {i r : R5} (h : RDZ g n N k o i r) (hl : N ≤ M) : RDZ g n M k o i r := by
  obtain ⟨d, rfl⟩ : ∃ d, M = N + d := ⟨M - N, by omega⟩
  clear hl
  induction d with
  | zero => exact h
  | succ d ih => exact RDZ_s _ _ _ _ _ ih
theorem SUR_f {q q2 a b : R5} (x : SUR q q2 a) (y : SUR q q2 b) : a = b := by
  obtain ⟨x1, x2, x3, x4⟩ := x
  obtain ⟨y1, y2, y3, y4⟩ := y
  have key : a.2.2.2.1 = b.2.2.2.1 ∧ a.2.2.1 = b.2.2.1 := by
    rcases x4 with ⟨c, x5, x6⟩ | ⟨c, ⟨d, x5, x6⟩ | ⟨d, z, e, x7⟩⟩ <;> rcases y4 with ⟨c', y5, y6⟩ | ⟨c', ⟨d', y5, y6⟩ | ⟨d', z', e', y7⟩⟩
    · exact ⟨x5.trans y5.symm, x6.trans y6.symm⟩
    · exact absurd c' c
    · exact absurd c' c
    · exact absurd c c'
    · exact ⟨x5.trans y5.symm, x6.trans y6.symm⟩
    · exact absurd d d'
    · exact absurd c c'
    · exact absurd d' d
    · have ez := JSV_f e e'
      subst ez
      rcases x7 with ⟨f, x8, x9⟩ | ⟨f, x8, x9⟩ <;> rcases y7 with ⟨f', y8, y9⟩ | ⟨f', y8, y9⟩
      · exact ⟨x8.trans y8.symm, x9.trans y9.symm⟩
      · exact absurd f f'
      · exact absurd f' f
      · exact ⟨x8.trans y8.symm, x9.trans y9.symm⟩
  exact Prod.ext (x1.trans y1.symm) (Prod.ext (x2.trans y2.symm) (Prod.ext key.2 (Prod.ext key.1 (x3.trans y3.symm))))
theorem FRR_f {q q2 a b : R5} (x : FRR q q2 a) (y : FRR q q2 b) : a = b := by
  obtain ⟨x1, x2, x3, x4⟩ := x
  obtain ⟨y1, y2, y3, y4⟩ := y
  have key : a.2.2.2.1 = b.2.2.2.1 ∧ a.2.2.1 = b.2.2.1 := by
    rcases x4 with ⟨c, x5, x6⟩ | ⟨c, ⟨d, x5, x6⟩ | ⟨d, x5, x6⟩⟩ <;> rcases y4 with ⟨c', y5, y6⟩ | ⟨c', ⟨d', y5, y6⟩ | ⟨d', y5, y6⟩⟩
    · exact ⟨x5.trans y5.symm, x6.trans y6.symm⟩
    · exact absurd c' c
    · exact absurd c' c
    · exact absurd c c'
    · exact ⟨x5.trans y5.symm, x6.trans y6.symm⟩
    · exact absurd d' d
    · exact absurd c c'
    · exact absurd d d'
    · exact ⟨x5.trans y5.symm, x6.trans y6.symm⟩
  exact Prod.ext (x1.trans y1.symm) (Prod.ext (x2.trans y2.symm) (Prod.ext key.2 (Prod.ext key.1 (x3.trans y3.symm))))
/-- a text says one thing -/
theorem RDZ_det {g : Nat → Int} {n : Int} : ∀ N M k o i r r', RDZ g n N k o i r → RDZ g n M k o i r' → r = r'
  | 0, _, _, _, _, _, _, h, _ => absurd h (fun q => q)
  | _ + 1, 0, _, _, _, _, _, _, h => absurd h (fun q => q)
  | N + 1, M + 1, k, o, i, r, r', x, y => by
    have ih := fun k o i r r' => RDZ_det (g := g) (n := n) N M k o i r r'
    have x' : RDK (RDZ g n N) g n k o i r := x
    have y' : RDK (RDZ g n M) g n k o i r' := y
    clear x y
    unfold RDK at x' y'
    by_cases c0 : k = 0
    · rw [if_pos c0] at x' y'
      unfold RDU dgt at x' y'
      rcases x' with ⟨a1, a2, a3⟩ | ⟨a1, a2, a3⟩ | ⟨a1, a3⟩ | ⟨a1, a2, a4, a3⟩ | ⟨a1, a2, q, z, a4, a5, a6, a3⟩ | ⟨a1, a2, a3⟩ <;> rcases y' with ⟨b1, b2, b3⟩ | ⟨b1, b2, b3⟩ | ⟨b1, b3⟩ | ⟨b1, b2, b4, b3⟩ | ⟨b1, b2, q', z', b4, b5, b6, b3⟩ | ⟨b1, b2, b3⟩ <;> first | exact a3.trans b3.symm | (exfalso; omega) | skip
      · have e := ih _ _ _ _ _ a4 b4
        subst e
        have ez : z = z' := by
          by_cases c : OK5 q
          · exact NGV_f (a5 c) (b5 c)
          · rw [a6 c, b6 c]
        rw [a3, b3, ez]
      · exact ih _ _ _ _ _ a3 b3
    rw [if_neg c0] at x' y'
    by_cases c1 : k = 1
    · rw [if_pos c1] at x' y'
      obtain ⟨q, a1, a2⟩ := x'
      obtain ⟨q', b1, b2⟩ := y'
      have e := ih _ _ _ _ _ a1 b1
      subst e
      exact ih _ _ _ _ _ a2 b2
    rw [if_neg c1] at x' y'
    by_cases c2 : k = 2
    · rw [if_pos c2] at x' y'
      rcases x' with ⟨a1, a2⟩ | ⟨a1, q2, q3, a2, a3, a4⟩ <;> rcases y' with ⟨b1, b2⟩ | ⟨b1, q2', q3', b2, b3, b4⟩
      · exact a2.trans b2.symm
      · exact absurd b1 a1
      · exact absurd a1 b1
      · have e := ih _ _ _ _ _ a2 b2
        subst e
        have e2 := SUR_f a3 b3
        subst e2
        exact ih _ _ _ _ _ a4 b4
    rw [if_neg c2] at x' y'
    by_cases c3 : k = 3
    · rw [if_pos c3] at x' y'
      rcases x' with ⟨a1, p, s, a2, a3⟩ | ⟨a1, q, a2, a3⟩ <;> rcases y' with ⟨b1, p', s', b2, b3⟩ | ⟨b1, q', b2, b3⟩
      · have e : p = p' ∧ s = s' := by omega
        obtain ⟨e1, e2⟩ := e
        subst e1; subst e2
        rcases a3 with ⟨a4, a5⟩ | ⟨a4, a5⟩ <;> rcases b3 with ⟨b4, b5⟩ | ⟨b4, b5⟩
        · exact a5.trans b5.symm
        · exact absurd a4 b4
        · exact absurd b4 a4
        · exact a5.trans b5.symm
      · exact absurd a1 b1
      · exact absurd b1 a1
      · have e := ih _ _ _ _ _ a2 b2
        subst e
        exact ih _ _ _ _ _ a3 b3
    rw [if_neg c3] at x' y'
    by_cases c4 : k = 4
    · rw [if_pos c4] at x' y'
      rcases x' with ⟨a1, a2⟩ | ⟨a1, q, a2, a3⟩ <;> rcases y' with ⟨b1, b2⟩ | ⟨b1, q', b2, b3⟩
      · exact a2.trans b2.symm
      · exact absurd b1 a1
      · exact absurd a1 b1
      · have e := ih _ _ _ _ _ a2 b2
        subst e
        exact ih _ _ _ _ _ a3 b3
    rw [if_neg c4] at x' y'
    obtain ⟨a, a1, a2⟩ := x'
    obtain ⟨b, b1, b2⟩ := y'
    have e := ih _ _ _ _ _ a1 b1
    subst e
    rcases a2 with ⟨c, d⟩ | ⟨c, e, d⟩ | ⟨c, e, u, u1, u2⟩ <;> rcases b2 with ⟨c', d'⟩ | ⟨c', e', d'⟩ | ⟨c', e', u', u1', u2'⟩ <;> first | exact d.trans d'.symm | (exfalso; omega) | skip
    have e2 := ih _ _ _ _ _ u1 u1'
    subst e2
    rcases u2 with ⟨c2, d2⟩ | ⟨c2, e2, d2⟩ | ⟨c2, e2, d2⟩ <;> rcases u2' with ⟨c3, d3⟩ | ⟨c3, e3, d3⟩ | ⟨c3, e3, d3⟩ <;> first | exact d2.trans d3.symm | (exfalso; omega) | exact FRR_f d2 d3
/-! what comes of a sum; options that wait -/
/-- what fits -/
def FTR (L : Nat) (s t : gH) (p0 r : Option Nat) : Prop := (p0 = none ∧ gp_I t 46 8 = 4) ∨ ∃ a n, p0 = some a ∧ r = some a ∧ kT L s a n ∧ (B2S (TF s a) n → (B99 (TF s a) n ∧ gp_I t 46 8 = gp_I s 46 8) ∨ (¬ B99 (TF s a) n ∧ gp_I t 46 8 = 6))
theorem FTR_s {L : Nat} {s t : gH} {a n : Nat} {x : Int} (kt : kT L s a n) (h : B2S (TF s a) n → (x = 1 ∧ ¬ B99 (TF s a) n) ∨ (x = 0 ∧ B99 (TF s a) n)) (ht : (x = 1 ∧ gp_I t 46 8 = 6) ∨ (x = 0 ∧ gp_I t 46 8 = gp_I s 46 8)) : FTR L s t (some a) (some a) := Or.inr ⟨a, n, rfl, rfl, kt, fun b => by
  rcases h b with ⟨c, d⟩ | ⟨c, d⟩
  · exact Or.inr ⟨d, by omega⟩
  · exact Or.inl ⟨d, by omega⟩⟩
def TBI (f : Nat → ND) (n : Nat) (v : Int) : Prop := B2S f n → ∀ k : Nat, (k : Int) < v → -99999 ≤ (f k).2.2.1 ∧ (f k).2.2.1 ≤ 99999 ∧ -99999 ≤ (f k).2.2.2 ∧ (f k).2.2.2 ≤ 99999
theorem TBI_0 {f : Nat → ND} {n : Nat} : TBI f n 0 := fun _ k hk => by omega
theorem TBI_s {f : Nat → ND} {n : Nat} {v : Int} (h : TBI f n v) (h0 : 0 ≤ v) (hx : B2S f n → -99999 ≤ (f v.toNat).2.2.1 ∧ (f v.toNat).2.2.1 ≤ 99999 ∧ -99999 ≤ (f v.toNat).2.2.2 ∧ (f v.toNat).2.2.2 ≤ 99999) : TBI f n (v + 1) := fun b k hk => by
  by_cases c : k = v.toNat
  · rw [c]; exact hx b
  · exact h b k (by omega)
theorem TB_y {s : gH} {a k : Nat} (h : -99999 ≤ gp_I s (a + 3) k ∧ gp_I s (a + 3) k ≤ 99999 ∧ -99999 ≤ gp_I s (a + 4) k ∧ gp_I s (a + 4) k ≤ 99999) : -99999 ≤ (TF s a k).2.2.1 ∧ (TF s a k).2.2.1 ≤ 99999 ∧ -99999 ≤ (TF s a k).2.2.2 ∧ (TF s a k).2.2.2 ≤ 99999 := h
theorem TB_x {s : gH} {a n k : Nat} (h : B2S (TF s a) n) (hk : k < n) : -199998 ≤ gp_I s (a + 3) k ∧ gp_I s (a + 3) k ≤ 199998 ∧ -199998 ≤ gp_I s (a + 4) k ∧ gp_I s (a + 4) k ≤ 199998 := h k hk
theorem TB_9 {s : gH} {a n k : Nat} (h : B99 (TF s a) n) (hk : k < n) : -99999 ≤ gp_I s (a + 3) k ∧ gp_I s (a + 3) k ≤ 99999 ∧ -99999 ≤ gp_I s (a + 4) k ∧ gp_I s (a + 4) k ≤ 99999 := h k hk
