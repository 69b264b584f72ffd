/-! the reader of texts: where it stands, as a function of the bytes -/
def bA (τ : Nat → Int) (n a : Int) : Int := if a < n then τ a.toNat else -1
def aN (τ : Nat → Int) (n a : Int) : Int :=
  if 48 ≤ bA τ n a ∧ bA τ n a ≤ 57 then (if 48 ≤ bA τ n (a + 1) ∧ bA τ n (a + 1) ≤ 57 then (if 48 ≤ bA τ n (a + 2) ∧ bA τ n (a + 2) ≤ 57 then a + 3 else a + 2) else a + 1) else a
/-- a byte that must stand there -/
def wnt (τ : Nat → Int) (n c : Int) (x : Int × Int) : Int × Int := if x.2 < 0 then (if bA τ n x.1 = c then (x.1 + 1, x.2) else (x.1, x.1)) else x
/-- modes: 0 a unit, 1 an expression, 2 its rest, 3 a side, 5 its rest, else both sides; the answer: where it stands, the fault -/
def rdr (τ : Nat → Int) (n : Int) : Nat → Nat → Int → Int → Int → Int × Int
  | 0, _, _, a, w => (a, w)
  | f + 1, md, o, a, w =>
    if md = 0 then
      (if ¬ w < 0 then (a, w) else
       if 48 ≤ bA τ n a ∧ bA τ n a ≤ 57 then (aN τ n a, w) else
       if bA τ n a = 119 then (if 48 ≤ bA τ n (a + 1) ∧ bA τ n (a + 1) ≤ 57 then (a + 2, w) else (a + 1, a + 1)) else
       if o = 8 then (a, a) else
       if bA τ n a = 45 then rdr τ n f 0 (o + 1) (a + 1) w else
       if bA τ n a = 60 then rdr τ n f 4 (o + 1) (a + 1) w else (a, a))
    else if md = 1 then rdr τ n f 2 o (rdr τ n f 0 o a w).1 (rdr τ n f 0 o a w).2
    else if md = 2 then (if w < 0 ∧ bA τ n a = 43 then rdr τ n f 2 o (rdr τ n f 0 o (a + 1) w).1 (rdr τ n f 0 o (a + 1) w).2 else (a, w))
    else if md = 3 then (if w < 0 ∧ bA τ n a = 58 then
        (aN τ n (if bA τ n (a + 1) = 45 then a + 2 else a + 1), if 48 ≤ bA τ n (if bA τ n (a + 1) = 45 then a + 2 else a + 1) ∧ bA τ n (if bA τ n (a + 1) = 45 then a + 2 else a + 1) ≤ 57 then w else (if bA τ n (a + 1) = 45 then a + 2 else a + 1))
      else rdr τ n f 5 o (rdr τ n f 1 o a w).1 (rdr τ n f 1 o a w).2)
    else if md = 5 then (if w < 0 ∧ bA τ n a = 44 then rdr τ n f 5 o (rdr τ n f 1 o (a + 1) w).1 (rdr τ n f 1 o (a + 1) w).2 else (a, w))
    else wnt τ n 62 (if (wnt τ n 124 (rdr τ n f 3 o a w)).2 < 0 then rdr τ n f 3 o (wnt τ n 124 (rdr τ n f 3 o a w)).1 (wnt τ n 124 (rdr τ n f 3 o a w)).2 else wnt τ n 124 (rdr τ n f 3 o a w))
/-- with enough steps the answer is x -/
def EV (τ : Nat → Int) (n : Int) (md : Nat) (o a w b v : Int) : Prop := ∃ F, ∀ f, F ≤ f → rdr τ n f md o a w = (b, v)
theorem EV.det {τ : Nat → Int} {n : Int} {md : Nat} {o a w b v b' v' : Int} (h : EV τ n md o a w b v) (g : EV τ n md o a w b' v') : b = b' ∧ v = v' := by
  obtain ⟨F, hF⟩ := h
  obtain ⟨G, hG⟩ := g
  have e := (hF (F + G) (by omega)).symm.trans (hG (F + G) (by omega))
  exact ⟨congrArg Prod.fst e, congrArg Prod.snd e⟩
theorem EV.one {τ : Nat → Int} {n : Int} {md : Nat} {o a w b v : Int} (h : ∀ f, rdr τ n (f + 1) md o a w = (b, v)) : EV τ n md o a w b v := ⟨1, fun f hf => by
  obtain ⟨g, rfl⟩ : ∃ g, f = g + 1 := ⟨f - 1, by omega⟩
  exact h g⟩
theorem EV.step {τ : Nat → Int} {n : Int} {md : Nat} {o a w b v : Int} {md' : Nat} {o' a' w' : Int} (g : EV τ n md' o' a' w' b v) (h : ∀ f, rdr τ n f md' o' a' w' = (b, v) → rdr τ n (f + 1) md o a w = (b, v)) : EV τ n md o a w b v := by
  obtain ⟨F, hF⟩ := g
  refine ⟨F + 1, fun f hf => ?_⟩
  obtain ⟨g, rfl⟩ : ∃ g, f = g + 1 := ⟨f - 1, by omega⟩
  exact h g (hF g (by omega))
theorem EV.step2 {τ : Nat → Int} {n : Int} {md : Nat} {o a w b v : Int} {md' md2 : Nat} {o' a' w' o2 a2 w2 b2 v2 : Int} (g : EV τ n md' o' a' w' b2 v2) (g2 : EV τ n md2 o2 a2 w2 b v) (h : ∀ f, rdr τ n f md' o' a' w' = (b2, v2) → rdr τ n f md2 o2 a2 w2 = (b, v) → rdr τ n (f + 1) md o a w = (b, v)) : EV τ n md o a w b v := by
  obtain ⟨F, hF⟩ := g
  obtain ⟨G, hG⟩ := g2
  refine ⟨F + G + 1, fun f hf => ?_⟩
  obtain ⟨g, rfl⟩ : ∃ g, f = g + 1 := ⟨f - 1, by omega⟩
  exact h g (hF g (by omega)) (hG g (by omega))
theorem EV.u0 {τ : Nat → Int} {n o a w b v : Int} (h : ¬ w < 0) (e1 : b = a) (e2 : v = w) : EV τ n 0 o a w b v := by
  subst e1; subst e2
  exact EV.one fun f => by unfold rdr; rw [if_pos rfl, if_pos h]
theorem EV.ud {τ : Nat → Int} {n o a w b v : Int} (h : w < 0) (d : 48 ≤ bA τ n a ∧ bA τ n a ≤ 57) (e1 : b = aN τ n a) (e2 : v = w) : EV τ n 0 o a w b v := by
  subst e1; subst e2
  exact EV.one fun f => by unfold rdr; rw [if_pos rfl, if_neg (fun q => q h), if_pos d]
theorem EV.uw {τ : Nat → Int} {n o a w b v a1 : Int} (h : w < 0) (d : ¬ (48 ≤ bA τ n a ∧ bA τ n a ≤ 57)) (c : bA τ n a = 119) (e : a1 = a + 1) (d2 : 48 ≤ bA τ n a1 ∧ bA τ n a1 ≤ 57) (e1 : b = a + 2) (e2 : v = w) : EV τ n 0 o a w b v := by
  subst e1; subst e2; subst e
  exact EV.one fun f => by unfold rdr; rw [if_pos rfl, if_neg (fun q => q h), if_neg d, if_pos c, if_pos d2]
theorem EV.uwn {τ : Nat → Int} {n o a w b v a1 : Int} (h : w < 0) (d : ¬ (48 ≤ bA τ n a ∧ bA τ n a ≤ 57)) (c : bA τ n a = 119) (e : a1 = a + 1) (d2 : ¬ (48 ≤ bA τ n a1 ∧ bA τ n a1 ≤ 57)) (e1 : b = a + 1) (e2 : v = a + 1) : EV τ n 0 o a w b v := by
  subst e1; subst e2; subst e
  exact EV.one fun f => by unfold rdr; rw [if_pos rfl, if_neg (fun q => q h), if_neg d, if_pos c, if_neg d2]
theorem EV.ub {τ : Nat → Int} {n o a w b v : Int} (h : w < 0) (d : ¬ (48 ≤ bA τ n a ∧ bA τ n a ≤ 57)) (c : bA τ n a ≠ 119) (c2 : (bA τ n a ≠ 45 ∧ bA τ n a ≠ 60) ∨ o = 8) (e1 : b = a) (e2 : v = a) : EV τ n 0 o a w b v := by
  subst e1; subst e2
  refine EV.one fun f => ?_
  unfold rdr
  rw [if_pos rfl, if_neg (fun q => q h), if_neg d, if_neg c]
  by_cases q : o = 8
  · rw [if_pos q]
  · rw [if_neg q]
    rcases c2 with c2 | c2
    · rw [if_neg c2.1, if_neg c2.2]
    · exact absurd c2 q
theorem EV.un {τ : Nat → Int} {n o a w b v o1 a1 w1 : Int} (h : w < 0) (c : bA τ n a = 45) (c2 : o ≠ 8) (e : o1 = o + 1) (e1 : a1 = a + 1) (e2 : w1 = w) (g : EV τ n 0 o1 a1 w1 b v) : EV τ n 0 o a w b v := by
  subst e; subst e1; subst e2
  exact EV.step g fun f hf => by unfold rdr; rw [if_pos rfl, if_neg (fun q => q h), if_neg (by omega), if_neg (by omega), if_neg c2, if_pos c]; exact hf
theorem EV.us {τ : Nat → Int} {n o a w b v o1 a1 w1 : Int} (h : w < 0) (c : bA τ n a = 60) (c2 : o ≠ 8) (e : o1 = o + 1) (e1 : a1 = a + 1) (e2 : w1 = w) (g : EV τ n 4 o1 a1 w1 b v) : EV τ n 0 o a w b v := by
  subst e; subst e1; subst e2
  exact EV.step g fun f hf => by unfold rdr; rw [if_pos rfl, if_neg (fun q => q h), if_neg (by omega), if_neg (by omega), if_neg c2, if_neg (by omega), if_pos c]; exact hf
theorem EV.ex {τ : Nat → Int} {n o a w b v b1 v1 : Int} (g : EV τ n 0 o a w b1 v1) (g2 : EV τ n 2 o b1 v1 b v) : EV τ n 1 o a w b v :=
  EV.step2 g g2 fun f h1 h2 => by unfold rdr; rw [if_neg (by decide), if_pos rfl, h1]; exact h2
theorem EV.r0 {τ : Nat → Int} {n o a w b v : Int} (h : ¬ (w < 0 ∧ bA τ n a = 43)) (e1 : b = a) (e2 : v = w) : EV τ n 2 o a w b v := by
  subst e1; subst e2
  exact EV.one fun f => by unfold rdr; rw [if_neg (by decide), if_neg (by decide), if_pos rfl, if_neg h]
theorem EV.r1 {τ : Nat → Int} {n o a w b v a1 w1 b1 v1 : Int} (h : w < 0 ∧ bA τ n a = 43) (e : a1 = a + 1) (e2 : w1 = w) (g : EV τ n 0 o a1 w1 b1 v1) (g2 : EV τ n 2 o b1 v1 b v) : EV τ n 2 o a w b v := by
  subst e; subst e2
  exact EV.step2 g g2 fun f h1 h2 => by unfold rdr; rw [if_neg (by decide), if_neg (by decide), if_pos rfl, if_pos h, h1]; exact h2
theorem EV.s0 {τ : Nat → Int} {n o a w b v b1 v1 : Int} (h : ¬ (w < 0 ∧ bA τ n a = 58)) (g : EV τ n 1 o a w b1 v1) (g2 : EV τ n 5 o b1 v1 b v) : EV τ n 3 o a w b v :=
  EV.step2 g g2 fun f h1 h2 => by unfold rdr; rw [if_neg (by decide), if_neg (by decide), if_neg (by decide), if_pos rfl, if_neg h, h1]; exact h2
theorem EV.s1 {τ : Nat → Int} {n o a w b v a1 a2 : Int} (h : w < 0 ∧ bA τ n a = 58) (e : a1 = a + 1) (e2 : (bA τ n a1 = 45 ∧ a2 = a1 + 1) ∨ (bA τ n a1 ≠ 45 ∧ a2 = a1)) (eb : b = aN τ n a2) (ev : (48 ≤ bA τ n a2 ∧ bA τ n a2 ≤ 57 ∧ v = w) ∨ (¬ (48 ≤ bA τ n a2 ∧ bA τ n a2 ≤ 57) ∧ v = a2)) : EV τ n 3 o a w b v := by
  have e3 : (if bA τ n (a + 1) = 45 then a + 2 else a + 1) = a2 := by
    rw [e] at e2
    rcases e2 with e2 | e2
    · rw [if_pos e2.1]; omega
    · rw [if_neg e2.1]; omega
  refine EV.one fun f => ?_
  unfold rdr
  rw [if_neg (by decide), if_neg (by decide), if_neg (by decide), if_pos rfl, if_pos h, e3, eb]
  rcases ev with ev | ev
  · rw [if_pos ⟨ev.1, ev.2.1⟩, ev.2.2]
  · rw [if_neg ev.1, ev.2]
theorem EV.t0 {τ : Nat → Int} {n o a w b v : Int} (h : ¬ (w < 0 ∧ bA τ n a = 44)) (e1 : b = a) (e2 : v = w) : EV τ n 5 o a w b v := by
  subst e1; subst e2
  exact EV.one fun f => by unfold rdr; rw [if_neg (by decide), if_neg (by decide), if_neg (by decide), if_neg (by decide), if_pos rfl, if_neg h]
theorem EV.t1 {τ : Nat → Int} {n o a w b v a1 w1 b1 v1 : Int} (h : w < 0 ∧ bA τ n a = 44) (e : a1 = a + 1) (e2 : w1 = w) (g : EV τ n 1 o a1 w1 b1 v1) (g2 : EV τ n 5 o b1 v1 b v) : EV τ n 5 o a w b v := by
  subst e; subst e2
  exact EV.step2 g g2 fun f h1 h2 => by unfold rdr; rw [if_neg (by decide), if_neg (by decide), if_neg (by decide), if_neg (by decide), if_pos rfl, if_pos h, h1]; exact h2
/-- both sides, the second read -/
theorem EV.b1 {τ : Nat → Int} {n o a w a1 w1 a2 w2 a3 w3 b v : Int} (g : EV τ n 3 o a w a1 w1) (e : wnt τ n 124 (a1, w1) = (a2, w2)) (h : w2 < 0) (g2 : EV τ n 3 o a2 w2 a3 w3) (e2 : wnt τ n 62 (a3, w3) = (b, v)) : EV τ n 4 o a w b v := by
  obtain ⟨F, hF⟩ := g
  obtain ⟨G, hG⟩ := g2
  refine ⟨F + G + 1, fun f hf => ?_⟩
  obtain ⟨g, rfl⟩ : ∃ g, f = g + 1 := ⟨f - 1, by omega⟩
  unfold rdr
  rw [if_neg (by decide), if_neg (by decide), if_neg (by decide), if_neg (by decide), if_neg (by decide), hF g (by omega), e, if_pos h, hG g (by omega)]
  exact e2
theorem EV.b0 {τ : Nat → Int} {n o a w a1 w1 a2 w2 b v : Int} (g : EV τ n 3 o a w a1 w1) (e : wnt τ n 124 (a1, w1) = (a2, w2)) (h : ¬ w2 < 0) (e2 : wnt τ n 62 (a2, w2) = (b, v)) : EV τ n 4 o a w b v := by
  obtain ⟨F, hF⟩ := g
  refine ⟨F + 1, fun f hf => ?_⟩
  obtain ⟨g, rfl⟩ : ∃ g, f = g + 1 := ⟨f - 1, by omega⟩
  unfold rdr
  rw [if_neg (by decide), if_neg (by decide), if_neg (by decide), if_neg (by decide), if_neg (by decide), hF g (by omega), e, if_neg h]
  exact e2
theorem wnt_y {τ : Nat → Int} {n c a w b v : Int} (h : w < 0) (q : bA τ n a = c) (e1 : b = a + 1) (e2 : v = w) : wnt τ n c (a, w) = (b, v) := by
  rw [e1, e2]
  show (if w < 0 then (if bA τ n a = c then (a + 1, w) else (a, a)) else (a, w)) = (a + 1, w)
  rw [if_pos h, if_pos q]
theorem wnt_n {τ : Nat → Int} {n c a w b v : Int} (h : w < 0) (q : bA τ n a ≠ c) (e1 : b = a) (e2 : v = a) : wnt τ n c (a, w) = (b, v) := by
  rw [e1, e2]
  show (if w < 0 then (if bA τ n a = c then (a + 1, w) else (a, a)) else (a, w)) = (a, a)
  rw [if_pos h, if_neg q]
theorem wnt_s {τ : Nat → Int} {n c a w b v : Int} (h : ¬ w < 0) (e1 : b = a) (e2 : v = w) : wnt τ n c (a, w) = (b, v) := by
  rw [e1, e2]
  show (if w < 0 then (if bA τ n a = c then (a + 1, w) else (a, a)) else (a, w)) = (a, w)
  rw [if_neg h]
theorem aN_0 {τ : Nat → Int} {n a : Int} (h : ¬ (48 ≤ bA τ n a ∧ bA τ n a ≤ 57)) : aN τ n a = a := by unfold aN; rw [if_neg h]
/-- digits from a on, as far as b -/
def dgs (τ : Nat → Int) (n a b : Int) : Prop := ∀ c, a ≤ c → c < b → 48 ≤ bA τ n c ∧ bA τ n c ≤ 57
theorem dgs_0 (τ : Nat → Int) (n a : Int) : dgs τ n a a := fun c h1 h2 => by omega
theorem dgs_s {τ : Nat → Int} {n a b : Int} (h : dgs τ n a b) (d : 48 ≤ bA τ n b ∧ bA τ n b ≤ 57) : dgs τ n a (b + 1) := fun c h1 h2 => by
  by_cases q : c = b
  · rw [q]; exact d
  · exact h c h1 (by omega)
theorem aN_fin {τ : Nat → Int} {n a b : Int} (h : dgs τ n a b) (h1 : a ≤ b) (h2 : b ≤ a + 3) (e : b = a + 3 ∨ ¬ (48 ≤ bA τ n b ∧ bA τ n b ≤ 57)) : b = aN τ n a := by
  unfold aN
  rcases (by omega : b = a ∨ b = a + 1 ∨ b = a + 2 ∨ b = a + 3) with q | q | q | q
  · rw [if_neg (by rcases e with e | e; omega; rw [← q]; exact e)]; exact q
  · rw [if_pos (h a (by omega) (by omega)), if_neg (by rcases e with e | e; omega; rw [← q]; exact e)]; exact q
  · rw [if_pos (h a (by omega) (by omega)), if_pos (h (a + 1) (by omega) (by omega)), if_neg (by rcases e with e | e; omega; rw [← q]; exact e)]; exact q
  · rw [if_pos (h a (by omega) (by omega)), if_pos (h (a + 1) (by omega) (by omega)), if_pos (h (a + 2) (by omega) (by omega))]; exact q
/-- the tape that is read -/
def TPn (τ : Nat → Int) (n : Int) (s : gH) : Prop := gp_I s 82 = τ ∧ gp_I s 74 39 = n
theorem TP_fr {τ : Nat → Int} {n : Int} {s t : gH} {m g : List Nat} (h : TPn τ n s) (hf : gF m g s t) (e1 : m.contains 82 = false) (f1 : g.contains 39 = false) (q : m.contains 74 = false := by rfl) : TPn τ n t :=
  ⟨(funext fun k => (hf.2 82 k e1 (fun h => absurd h (by decide))).1).trans h.1, ((hf.2 74 39 q (fun _ => f1)).1).trans h.2⟩
theorem TP_b {τ : Nat → Int} {n : Int} {s : gH} (h : TPn τ n s) {a : Int} : (a < n → gp_I s 82 a.toNat = bA τ n a) ∧ (¬ a < n → -1 = bA τ n a) := by
  refine ⟨fun q => ?_, fun q => ?_⟩
  · unfold bA; rw [if_pos q, h.1]
  · unfold bA; rw [if_neg q]
/-- sizes of what lies on the pile below a place, of what is kept and of boards -/
def kp (p : Int) (s t : gH) : Prop := ∀ k : Nat, 8 ≤ k → k ≠ 19 → k ≠ 20 → (k : Int) < 21 + p → gp_I t 81 k = gp_I s 81 k
theorem kp.refl (p : Int) (s : gH) : kp p s s := fun _ _ _ _ _ => rfl
theorem kp.trans {p q : Int} {s u t : gH} (h : kp p s u) (g : kp q u t) (e : p ≤ q) : kp p s t := fun k a b c d => (g k a b c (by omega)).trans (h k a b c d)
theorem kp_fr {p : Int} {s t : gH} {m g : List Nat} (hf : gF m g s t) (e : m.contains 81 = false) : kp p s t := fun k _ _ _ _ => (hf.2 81 k e (fun h => absurd h (by decide))).1
theorem kp_K {p : Int} {s t : gH} (h : mK s t) : kp p s t := fun k a b c _ => h k a b c
/-- works, and nothing is wrong -/
def ok (s : gH) : Prop := gp_I s 74 44 ≠ 0 ∧ gp_I s 74 40 < 0 ∧ gp_I s 74 43 = 0
def PI (s : gH) : Prop := ok s → ∀ k : Nat, 21 ≤ k → (k : Int) < 21 + gp_I s 74 42 → 1 ≤ gp_I s 81 k
theorem PI_step {s t : gH} (h : PI s) (hk : kp (gp_I s 74 42) s t) (ho : ok t → ok s) (hn : ok t → ∀ k : Nat, 21 + gp_I s 74 42 ≤ k → (k : Int) < 21 + gp_I t 74 42 → 1 ≤ gp_I t 81 k) : PI t := by
  intro o k h1 h2
  by_cases c : (k : Int) < 21 + gp_I s 74 42
  · rw [hk k (by omega) (by omega) (by omega) c]; exact h (ho o) k h1 c
  · exact hn o k (by omega) h2
/-- one is laid on the pile -/
def pl (s t : gH) : Prop := gp_I t 74 42 = gp_I s 74 42 + 1 ∧ kp (gp_I s 74 42) s t ∧ gp_I t 81 (Int.toNat (21 + gp_I s 74 42)) = gp_I s 81 19
theorem bA_m1 {τ : Nat → Int} {n a : Int} : (¬ a < n → bA τ n a = -1) := fun h => if_neg h
theorem pl_of {s u t : gH} (h1 : gp_I u 81 (Int.toNat (21 + gp_I s 74 42)) = gp_I s 81 19) (h2 : ∀ k : Nat, k ≠ Int.toNat (21 + gp_I s 74 42) → gp_I u 81 k = gp_I s 81 k) (e1 : gp_I t 74 42 = gp_I s 74 42 + 1) (e2 : ∀ k, gp_I t 81 k = gp_I u 81 k) (h0 : 0 ≤ gp_I s 74 42) : pl s t :=
  ⟨e1, fun k _ _ _ d => (e2 k).trans (h2 k (by omega)), (e2 _).trans h1⟩
theorem EV.cg {τ : Nat → Int} {n : Int} {md : Nat} {o a w b v o' a' w' b' v' : Int} (h : EV τ n md o a w b v) (e1 : o = o') (e2 : a = a') (e3 : w = w') (e4 : b = b') (e5 : v = v') : EV τ n md o' a' w' b' v' := by
  subst e1; subst e2; subst e3; subst e4; subst e5; exact h
theorem EV.co {τ : Nat → Int} {n : Int} {md : Nat} {o a w b v o' : Int} (h : EV τ n md o a w b v) (e1 : o = o') : EV τ n md o' a w b v := by
  subst e1; exact h
theorem EV.ci {τ : Nat → Int} {n : Int} {md : Nat} {o a w b v a' w' : Int} (h : EV τ n md o a w b v) (e2 : a = a') (e3 : w = w') : EV τ n md o a' w' b v := by
  subst e2; subst e3; exact h
def kq (s t : gH) : Prop := kp (gp_I s 74 42) s t
theorem kq.refl (s : gH) : kq s s := kp.refl _ _
theorem kq.trans {s u t : gH} (h : kq s u) (g : kq u t) (e : gp_I s 74 42 ≤ gp_I u 74 42) : kq s t := kp.trans h g e
theorem kq_fr {s t u : gH} {m g : List Nat} (h : kq s t) (hf : gF m g t u) (e : m.contains 81 = false) : kq s u := kp.trans h (kp_fr (p := gp_I s 74 42) hf e) (Int.le_refl _)
theorem kq_K {s t u : gH} (h : kq s t) (g : mK t u) : kq s u := kp.trans h (kp_K (p := gp_I s 74 42) g) (Int.le_refl _)
theorem kq_p {s t u : gH} {p : Int} (h : kq s t) (g : kp p t u) (e : gp_I s 74 42 ≤ p) : kq s u := kp.trans h g e
theorem PI_fr {s t : gH} {m g : List Nat} (h : PI s) (hf : gF m g s t) (e : m.contains 81 = false) (f1 : g.contains 40 = false) (f2 : g.contains 42 = false) (f3 : g.contains 43 = false) (f4 : g.contains 44 = false) (q : m.contains 74 = false := by rfl) : PI t := by
  have r7 : ∀ k, g.contains k = false → gp_I t 74 k = gp_I s 74 k := fun k h1 => (hf.2 74 k q (fun _ => h1)).1
  intro o k h1 h2
  rw [r7 42 f2] at h2
  rw [(hf.2 81 k e (fun h => absurd h (by decide))).1]
  exact h ⟨by rw [← r7 44 f4]; exact o.1, by rw [← r7 40 f1]; exact o.2.1, by rw [← r7 43 f3]; exact o.2.2⟩ k h1 h2
theorem PI_q {s t : gH} (h : PI s) (hk : kq s t) (ho : ok t → ok s) (e : ok t → gp_I t 74 42 ≤ gp_I s 74 42 + 1) (hn : ok t → gp_I t 74 42 = gp_I s 74 42 + 1 → 1 ≤ gp_I t 81 (Int.toNat (21 + gp_I s 74 42))) : PI t :=
  PI_step h hk ho (fun o k h1 h2 => by
    have := e o
    have e9 : k = Int.toNat (21 + gp_I s 74 42) := by omega
    rw [e9]
    exact hn o (by omega))
theorem okI {s : gH} (a : gp_I s 74 44 ≠ 0) (b : gp_I s 74 40 < 0) (c : gp_I s 74 43 = 0) : ok s := ⟨a, b, c⟩
theorem PI_w {s t : gH} {m g : List Nat} (h : PI s) (hf : gF m g s t) (e : m.contains 81 = false) (f2 : g.contains 42 = false) (f3 : g.contains 43 = false) (f4 : g.contains 44 = false) (ho : gp_I t 74 40 < 0 → gp_I s 74 40 < 0) (q : m.contains 74 = false := by rfl) : PI t := by
  have r7 : ∀ k, g.contains k = false → gp_I t 74 k = gp_I s 74 k := fun k h1 => (hf.2 74 k q (fun _ => h1)).1
  intro o k h1 h2
  rw [r7 42 f2] at h2
  rw [(hf.2 81 k e (fun h => absurd h (by decide))).1]
  exact h ⟨by rw [← r7 44 f4]; exact o.1, ho o.2.1, by rw [← r7 43 f3]; exact o.2.2⟩ k h1 h2
theorem PI_0 {s : gH} (h : gp_I s 74 42 = 0) : PI s := fun _ k h1 h2 => by omega
/-- the fault of the text on the tape, or less than 0 -/
def rf (τ : Nat → Int) (n w : Int) : Prop := ∃ b v : Int, EV τ n 1 0 0 (-1) b v ∧ ((v < 0 ∧ b < n ∧ w = b) ∨ (¬ (v < 0 ∧ b < n) ∧ w = v))
theorem rf_det {τ : Nat → Int} {n w w' : Int} (h : rf τ n w) (g : rf τ n w') : w = w' := by
  obtain ⟨b, v, h1, h2⟩ := h
  obtain ⟨b', v', g1, g2⟩ := g
  obtain ⟨e1, e2⟩ := EV.det h1 g1
  omega
def mK8 (s t : gH) : Prop := ∀ k : Nat, 8 ≤ k → k < 19 → gp_I t 81 k = gp_I s 81 k
set_option maxRecDepth 100000 in
/-- GatheredPointsModel.byteAt -/
theorem vm_byteAt  {L d : Nat} {K : Option gV → gH → Prop} {s : gH} (τ : Nat → Int) (n : Int)  (hs : MI s)  (q0 : TPn τ n s) (k : ∀ (r : Int), ((-1) ≤ r ∧ r ≤ 255) → (r = bA τ n (gp_I s 74 38)) → K (some (gp_i r)) s) : gs_C L d 3125 1 [gp_r (some 74)] s K := by
  refine s_3125_e ?_
  have hb9 := TP_b q0 (a := gp_I s 74 38)
  have he9 := q0.2
  have f_1 := mr74_38 hs
  have f_2 := mr74_39 hs
  refine ⟨fun h_3 => ?_, fun h_3 => ?_⟩
  · have f_4 := mr74_38 hs
    refine ⟨by omega, ?_⟩
    have f_5 := mr82 hs (Int.toNat (gp_I s 74 38))
    refine s_3125_24 _ ?_
    exact k _ (by omega) (by first | exact hb9.1 (by omega) | exact hb9.2 (by omega))
  · refine s_3125_24 _ ?_
    exact k _ (by omega) (by first | exact hb9.1 (by omega) | exact hb9.2 (by omega))
set_option maxRecDepth 100000 in
/-- GatheredPointsModel.isDigit -/
theorem vm_isDigit  {L d : Nat} {K : Option gV → gH → Prop} {s : gH} (τ : Nat → Int) (n : Int)  (hs : MI s)  (q0 : TPn τ n s) (k : ∀ (r : Int), (0 ≤ r ∧ r ≤ 1) → ((r = 1 ∧ 48 ≤ bA τ n (gp_I s 74 38) ∧ bA τ n (gp_I s 74 38) ≤ 57) ∨ (r = 0 ∧ ¬ (48 ≤ bA τ n (gp_I s 74 38) ∧ bA τ n (gp_I s 74 38) ≤ 57))) → K (some (gp_i r)) s) : gs_C L (d + 1) 3126 1 [gp_r (some 74)] s K := by
  refine s_3126_e ?_
  refine vm_byteAt τ n hs (q0) (fun x_1 p_2 p_3 => ⟨_, rfl, ?_⟩)
  refine ⟨fun h_4 => ?_, fun h_4 => ?_⟩
  · refine s_3126_22 ?_
    refine s_3126_23 _ ?_
    refine ⟨by omega, ?_⟩
    exact k _ (by omega) (by first | omega | assumption)
  · refine vm_byteAt τ n hs (q0) (fun x_5 p_6 p_7 => ⟨_, rfl, ?_⟩)
    refine ⟨fun h_8 => ?_, fun h_8 => ?_⟩
    · refine s_3126_22 ?_
      refine s_3126_23 _ ?_
      refine ⟨by omega, ?_⟩
      exact k _ (by omega) (by first | omega | assumption)
    · refine s_3126_23 _ ?_
      refine ⟨by omega, ?_⟩
      exact k _ (by omega) (by first | omega | assumption)
set_option maxRecDepth 100000 in
/-- GatheredPointsModel.goesOn -/
theorem vm_goesOn  {L d : Nat} {K : Option gV → gH → Prop} {s : gH}   (hs : MI s)   (k : ∀ (r : Int), (0 ≤ r ∧ r ≤ 1) → ((r = 1 ∧ gp_I s 74 40 < 0 ∧ gp_I s 74 43 = 0) ∨ (r = 0 ∧ ¬ (gp_I s 74 40 < 0 ∧ gp_I s 74 43 = 0))) → K (some (gp_i r)) s) : gs_C L d 3127 1 [gp_r (some 74)] s K := by
  refine s_3127_e ?_
  have f_1 := mr74_40 hs
  refine ⟨fun h_2 => ?_, fun h_2 => ?_⟩
  · have f_3 := mr74_43 hs
    refine ⟨fun h_4 => ?_, fun h_4 => ?_⟩
    · refine s_3127_19 _ ?_
      refine ⟨by omega, ?_⟩
      exact k _ (by omega) (by first | omega | assumption)
    · refine s_3127_18 ?_
      refine s_3127_19 _ ?_
      refine ⟨by omega, ?_⟩
      exact k _ (by omega) (by first | omega | assumption)
  · refine s_3127_18 ?_
    refine s_3127_19 _ ?_
    refine ⟨by omega, ?_⟩
    exact k _ (by omega) (by first | omega | assumption)
set_option maxRecDepth 100000 in
/-- GatheredPointsModel.fails -/
theorem vm_fails  {L d : Nat} {K : Option gV → gH → Prop} {s : gH}   (hs : MI s)   (k : ∀ (t : gH), MI t → gF [] [40] s t → ((gp_I s 74 40 < 0 ∧ gp_I t 74 40 = gp_I s 74 38) ∨ (¬ gp_I s 74 40 < 0 ∧ gp_I t 74 40 = gp_I s 74 40)) → K none t) : gs_C L d 3128 1 [gp_r (some 74)] s K := by
  have f_1 := mr74_38 hs
  have f_2 := mr74_39 hs
  have f_3 := mr74_40 hs
  have f_4 := mr74_41 hs
  have f_5 := mr74_42 hs
  have f_6 := mr74_43 hs
  have f_7 := mr74_44 hs
  refine s_3128_e ?_
  have f_8 := mr74_40 hs
  refine ⟨fun h_9 => ?_, fun h_9 => ?_⟩
  · have f_10 := mr74_38 hs
    refine s_3128_19 _ ?_
    intro s_11 e_12
    have hs_13 : MI s_11 := by rw [e_12]; exact mw74_40 hs _ (by omega)
    have hf_14 : gF [] [40] s s_11 := by rw [e_12]; exact gF.wI (gF.refl _ _ _) (Or.inr ⟨rfl, rfl⟩)
    have q_15 : gp_I s_11 74 38 = gp_I s 74 38 := by rw [e_12] <;> rfl
    have q_16 : gp_I s_11 74 39 = gp_I s 74 39 := by rw [e_12] <;> rfl
    have q_17 : gp_I s_11 74 40 = gp_I s 74 38 := by rw [e_12]; exact (gz_rw _ _ _ _ _).1 rfl
    have q_18 : gp_I s_11 74 41 = gp_I s 74 41 := by rw [e_12] <;> rfl
    have q_19 : gp_I s_11 74 42 = gp_I s 74 42 := by rw [e_12] <;> rfl
    have q_20 : gp_I s_11 74 43 = gp_I s 74 43 := by rw [e_12] <;> rfl
    have q_21 : gp_I s_11 74 44 = gp_I s 74 44 := by rw [e_12] <;> rfl
    exact k s_11 hs_13 hf_14 (by first | omega | assumption)
  · have f_22 := mr74_40 hs
    refine s_3128_19 _ ?_
    intro s_23 e_24
    have hs_25 : MI s_23 := by rw [e_24]; exact mw74_40 hs _ (by omega)
    have hf_26 : gF [] [40] s s_23 := by rw [e_24]; exact gF.wI (gF.refl _ _ _) (Or.inr ⟨rfl, rfl⟩)
    have q_27 : gp_I s_23 74 38 = gp_I s 74 38 := by rw [e_24] <;> rfl
    have q_28 : gp_I s_23 74 39 = gp_I s 74 39 := by rw [e_24] <;> rfl
    have q_29 : gp_I s_23 74 40 = gp_I s 74 40 := by rw [e_24]; exact (gz_rw _ _ _ _ _).1 rfl
    have q_30 : gp_I s_23 74 41 = gp_I s 74 41 := by rw [e_24] <;> rfl
    have q_31 : gp_I s_23 74 42 = gp_I s 74 42 := by rw [e_24] <;> rfl
    have q_32 : gp_I s_23 74 43 = gp_I s 74 43 := by rw [e_24] <;> rfl
    have q_33 : gp_I s_23 74 44 = gp_I s 74 44 := by rw [e_24] <;> rfl
    exact k s_23 hs_25 hf_26 (by first | omega | assumption)
set_option maxRecDepth 100000 in
/-- GatheredPointsModel.takes -/
theorem vm_takes  {L d : Nat} {K : Option gV → gH → Prop} {s : gH} (τ : Nat → Int) (n : Int) (p0 : Int) (hs : MI s) (h_p0 : 0 ≤ p0 ∧ p0 ≤ 127) (q0 : TPn τ n s) (q1 : gp_I s 74 38 ≤ gp_I s 74 39) (k : ∀ (r : Int), ∀ (t : gH), MI t → gF [] [38] s t → (0 ≤ r ∧ r ≤ 1) → ((r = 1 ∧ gp_I s 74 40 < 0 ∧ gp_I s 74 43 = 0 ∧ bA τ n (gp_I s 74 38) = p0 ∧ gp_I t 74 38 = gp_I s 74 38 + 1) ∨ (r = 0 ∧ ¬ (gp_I s 74 40 < 0 ∧ gp_I s 74 43 = 0 ∧ bA τ n (gp_I s 74 38) = p0) ∧ gp_I t 74 38 = gp_I s 74 38)) → (gp_I t 74 38 ≤ gp_I t 74 39) → K (some (gp_i r)) t) : gs_C L (d + 1) 3129 3 [gp_r (some 74), gp_i p0] s K := by
  have f_1 := mr74_38 hs
  have f_2 := mr74_39 hs
  have f_3 := mr74_40 hs
  have f_4 := mr74_41 hs
  have f_5 := mr74_42 hs
  have f_6 := mr74_43 hs
  have f_7 := mr74_44 hs
  refine s_3129_e _ ?_
  refine vm_goesOn hs (fun x_8 p_9 p_10 => ⟨_, rfl, ?_⟩)
  refine ⟨fun h_11 => ?_, fun h_11 => ?_⟩
  · refine s_3129_19 _ _ ?_
    refine s_3129_20 _ _ _ ?_
    have hb8 := @bA_m1 τ n (gp_I s 74 38)
    have he8 := q0.2
    have f_12 := mr74_38 hs
    refine ⟨fun h_13 => ?_, fun h_13 => ?_⟩
    · refine s_3129_35 _ _ _ _ ?_
      try rw [show gp_wr ((gp_I s 74 38) + 0) = (gp_I s 74 38) + 0 from gp_wr_id (by omega) (by omega)]
      intro s_14 e_15
      have hs_16 : MI s_14 := by rw [e_15]; exact mw74_38 hs _ (by omega)
      have hf_17 : gF [] [38] s s_14 := by rw [e_15]; exact gF.wI (gF.refl _ _ _) (Or.inr ⟨rfl, rfl⟩)
      have q_18 : gp_I s_14 74 38 = (gp_I s 74 38) + 0 := by rw [e_15]; exact (gz_rw _ _ _ _ _).1 rfl
      have q_19 : gp_I s_14 74 39 = gp_I s 74 39 := by rw [e_15] <;> rfl
      have q_20 : gp_I s_14 74 40 = gp_I s 74 40 := by rw [e_15] <;> rfl
      have q_21 : gp_I s_14 74 41 = gp_I s 74 41 := by rw [e_15] <;> rfl
      have q_22 : gp_I s_14 74 42 = gp_I s 74 42 := by rw [e_15] <;> rfl
      have q_23 : gp_I s_14 74 43 = gp_I s 74 43 := by rw [e_15] <;> rfl
      have q_24 : gp_I s_14 74 44 = gp_I s 74 44 := by rw [e_15] <;> rfl
      have pd_25 : TPn τ n s_14 := by rw [e_15]; exact TP_fr q0 (gF.wI (gF.refl [] [38] _) (Or.inr ⟨rfl, rfl⟩)) rfl rfl
      refine ⟨by omega, ?_⟩
      exact k _ s_14 hs_16 hf_17 (by omega) (by first | omega | assumption) (by first | omega | assumption)
    · exfalso; omega
  · refine vm_byteAt τ n hs (q0) (fun x_26 p_27 p_28 => ⟨_, rfl, ?_⟩)
    refine ⟨fun h_29 => ?_, fun h_29 => ?_⟩
    · refine s_3129_20 _ _ _ ?_
      have hb8 := @bA_m1 τ n (gp_I s 74 38)
      have he8 := q0.2
      have f_30 := mr74_38 hs
      refine ⟨fun h_31 => ?_, fun h_31 => ?_⟩
      · exfalso; omega
      · refine s_3129_35 _ _ _ _ ?_
        try rw [show gp_wr ((gp_I s 74 38) + 1) = (gp_I s 74 38) + 1 from gp_wr_id (by omega) (by omega)]
        intro s_32 e_33
        have hs_34 : MI s_32 := by rw [e_33]; exact mw74_38 hs _ (by omega)
        have hf_35 : gF [] [38] s s_32 := by rw [e_33]; exact gF.wI (gF.refl _ _ _) (Or.inr ⟨rfl, rfl⟩)
        have q_36 : gp_I s_32 74 38 = (gp_I s 74 38) + 1 := by rw [e_33]; exact (gz_rw _ _ _ _ _).1 rfl
        have q_37 : gp_I s_32 74 39 = gp_I s 74 39 := by rw [e_33] <;> rfl
        have q_38 : gp_I s_32 74 40 = gp_I s 74 40 := by rw [e_33] <;> rfl
        have q_39 : gp_I s_32 74 41 = gp_I s 74 41 := by rw [e_33] <;> rfl
        have q_40 : gp_I s_32 74 42 = gp_I s 74 42 := by rw [e_33] <;> rfl
        have q_41 : gp_I s_32 74 43 = gp_I s 74 43 := by rw [e_33] <;> rfl
        have q_42 : gp_I s_32 74 44 = gp_I s 74 44 := by rw [e_33] <;> rfl
        have pd_43 : TPn τ n s_32 := by rw [e_33]; exact TP_fr q0 (gF.wI (gF.refl [] [38] _) (Or.inr ⟨rfl, rfl⟩)) rfl rfl
        refine ⟨by omega, ?_⟩
        exact k _ s_32 hs_34 hf_35 (by omega) (by first | omega | assumption) (by first | omega | assumption)
    · refine s_3129_19 _ _ ?_
      refine s_3129_20 _ _ _ ?_
      have hb8 := @bA_m1 τ n (gp_I s 74 38)
      have he8 := q0.2
      have f_44 := mr74_38 hs
      refine ⟨fun h_45 => ?_, fun h_45 => ?_⟩
      · refine s_3129_35 _ _ _ _ ?_
        try rw [show gp_wr ((gp_I s 74 38) + 0) = (gp_I s 74 38) + 0 from gp_wr_id (by omega) (by omega)]
        intro s_46 e_47
        have hs_48 : MI s_46 := by rw [e_47]; exact mw74_38 hs _ (by omega)
        have hf_49 : gF [] [38] s s_46 := by rw [e_47]; exact gF.wI (gF.refl _ _ _) (Or.inr ⟨rfl, rfl⟩)
        have q_50 : gp_I s_46 74 38 = (gp_I s 74 38) + 0 := by rw [e_47]; exact (gz_rw _ _ _ _ _).1 rfl
        have q_51 : gp_I s_46 74 39 = gp_I s 74 39 := by rw [e_47] <;> rfl
        have q_52 : gp_I s_46 74 40 = gp_I s 74 40 := by rw [e_47] <;> rfl
        have q_53 : gp_I s_46 74 41 = gp_I s 74 41 := by rw [e_47] <;> rfl
        have q_54 : gp_I s_46 74 42 = gp_I s 74 42 := by rw [e_47] <;> rfl
        have q_55 : gp_I s_46 74 43 = gp_I s 74 43 := by rw [e_47] <;> rfl
        have q_56 : gp_I s_46 74 44 = gp_I s 74 44 := by rw [e_47] <;> rfl
        have pd_57 : TPn τ n s_46 := by rw [e_47]; exact TP_fr q0 (gF.wI (gF.refl [] [38] _) (Or.inr ⟨rfl, rfl⟩)) rfl rfl
        refine ⟨by omega, ?_⟩
        exact k _ s_46 hs_48 hf_49 (by omega) (by first | omega | assumption) (by first | omega | assumption)
      · exfalso; omega
set_option maxRecDepth 100000 in
/-- GatheredPointsModel.wants -/
theorem vm_wants  {L d : Nat} {K : Option gV → gH → Prop} {s : gH} (τ : Nat → Int) (n : Int) (p0 : Int) (hs : MI s) (h_p0 : 0 ≤ p0 ∧ p0 ≤ 127) (q0 : TPn τ n s) (q1 : gp_I s 74 38 ≤ gp_I s 74 39) (k : ∀ (t : gH), MI t → gF [] [38, 40] s t → (gp_I t 74 38 ≤ gp_I t 74 39) → (gp_I s 74 38 ≤ gp_I t 74 38 ∧ (gp_I t 74 40 < 0 → gp_I s 74 40 < 0) ∧ (gp_I t 74 40 < 0 → gp_I s 74 43 = 0 → gp_I s 74 40 < 0 ∧ gp_I t 74 38 = gp_I s 74 38 + 1)) → (gp_I s 74 43 = 0 → wnt τ n p0 (gp_I s 74 38, gp_I s 74 40) = (gp_I t 74 38, gp_I t 74 40)) → K none t) : gs_C L (d + 2) 3130 2 [gp_r (some 74), gp_i p0] s K := by
  have f_1 := mr74_38 hs
  have f_2 := mr74_39 hs
  have f_3 := mr74_40 hs
  have f_4 := mr74_41 hs
  have f_5 := mr74_42 hs
  have f_6 := mr74_43 hs
  have f_7 := mr74_44 hs
  refine s_3130_e _ ?_
  refine vm_goesOn hs (fun x_8 p_9 p_10 => ⟨_, rfl, ?_⟩)
  refine ⟨fun h_11 => ?_, fun h_11 => ?_⟩
  · refine s_3130_19 _ ?_
    exact k s hs (gF.refl _ _ _) (by first | omega | assumption) (by first | omega | assumption) (fun h9 => by first | exact wnt_s (by omega) (by omega) (by omega) | exact wnt_y (by omega) (by omega) (by omega) (by omega) | exact wnt_n (by omega) (by omega) (by omega) (by omega))
  · refine vm_takes τ n _ hs (by omega) (q0) (by first | omega | assumption) (fun x_12 s_13 hs_14 hf_15 p_16 p_17 p_18 => ⟨_, rfl, ?_⟩)
    have hf_19 : gF [] [38, 40] s s_13 := gF.sub hf_15 rfl rfl
    have pd_20 : TPn τ n s_13 := TP_fr q0 hf_15 rfl rfl
    have q_21 := (hf_15.2 74 39 rfl (fun _ => rfl)).1
    have q_22 := (hf_15.2 74 40 rfl (fun _ => rfl)).1
    have q_23 := (hf_15.2 74 41 rfl (fun _ => rfl)).1
    have q_24 := (hf_15.2 74 42 rfl (fun _ => rfl)).1
    have q_25 := (hf_15.2 74 43 rfl (fun _ => rfl)).1
    have q_26 := (hf_15.2 74 44 rfl (fun _ => rfl)).1
    refine ⟨fun h_27 => ?_, fun h_27 => ?_⟩
    · refine vm_fails hs_14 (fun s_28 hs_29 hf_30 p_31 => ⟨rfl, ?_⟩)
      have hf_32 : gF [] [38, 40] s s_28 := gF.trans hf_19 hf_30 rfl rfl
      have pd_33 : TPn τ n s_28 := TP_fr pd_20 hf_30 rfl rfl
      have q_34 := (hf_30.2 74 38 rfl (fun _ => rfl)).1
      have q_35 := (hf_30.2 74 39 rfl (fun _ => rfl)).1
      have q_36 := (hf_30.2 74 41 rfl (fun _ => rfl)).1
      have q_37 := (hf_30.2 74 42 rfl (fun _ => rfl)).1
      have q_38 := (hf_30.2 74 43 rfl (fun _ => rfl)).1
      have q_39 := (hf_30.2 74 44 rfl (fun _ => rfl)).1
      refine s_3130_19 _ ?_
      exact k s_28 hs_29 hf_32 (by first | omega | assumption) (by first | omega | assumption) (fun h9 => by first | exact wnt_s (by omega) (by omega) (by omega) | exact wnt_y (by omega) (by omega) (by omega) (by omega) | exact wnt_n (by omega) (by omega) (by omega) (by omega))
    · refine s_3130_19 _ ?_
      exact k s_13 hs_14 hf_19 (by first | omega | assumption) (by first | omega | assumption) (fun h9 => by first | exact wnt_s (by omega) (by omega) (by omega) | exact wnt_y (by omega) (by omega) (by omega) (by omega) | exact wnt_n (by omega) (by omega) (by omega) (by omega))
set_option maxRecDepth 100000 in
/-- GatheredPointsModel.number -/
theorem vm_number  {L d : Nat} {K : Option gV → gH → Prop} {s : gH} (τ : Nat → Int) (n : Int)  (hs : MI s)  (q0 : TPn τ n s) (q1 : gp_I s 74 38 ≤ gp_I s 74 39) (k : ∀ (r : Int), ∀ (t : gH), MI t → gF [] [38, 40] s t → (gp_I s 74 38 ≤ gp_I t 74 38 ∧ gp_I t 74 38 ≤ gp_I t 74 39) → (gp_I t 74 38 = aN τ n (gp_I s 74 38)) → ((48 ≤ bA τ n (gp_I s 74 38) ∧ bA τ n (gp_I s 74 38) ≤ 57 ∧ gp_I t 74 40 = gp_I s 74 40 ∧ gp_I s 74 38 < gp_I t 74 38) ∨ (¬ (48 ≤ bA τ n (gp_I s 74 38) ∧ bA τ n (gp_I s 74 38) ≤ 57) ∧ ((gp_I s 74 40 < 0 ∧ gp_I t 74 40 = gp_I s 74 38) ∨ (¬ gp_I s 74 40 < 0 ∧ gp_I t 74 40 = gp_I s 74 40)))) → K (some (gp_i r)) t) : gs_C L (d + 2) 3131 3 [gp_r (some 74)] s K := by
  have f_1 := mr74_38 hs
  have f_2 := mr74_39 hs
  have f_3 := mr74_40 hs
  have f_4 := mr74_41 hs
  have f_5 := mr74_42 hs
  have f_6 := mr74_43 hs
  have f_7 := mr74_44 hs
  refine s_3131_e ?_
  have f_8 := mr74_38 hs
  have lp_9 : ∀ (n_9 : Nat) (v2_9 : Int) (s_9 : gH), (MI s_9) → (gF [] [38, 40] s s_9) → (TPn τ n s_9) → ((-2147483648) ≤ v2_9 ∧ v2_9 ≤ 2147483647) → (gp_I s_9 74 39 = gp_I s 74 39) → (gp_I s_9 74 40 = gp_I s 74 40) → (gp_I s_9 74 41 = gp_I s 74 41) → (gp_I s_9 74 42 = gp_I s 74 42) → (gp_I s_9 74 43 = gp_I s 74 43) → (gp_I s_9 74 44 = gp_I s 74 44) → (gp_I s 74 38 ≤ gp_I s_9 74 38 ∧ gp_I s_9 74 38 ≤ gp_I s 74 38 + 3) → (gp_I s_9 74 38 ≤ gp_I s_9 74 39) → (dgs τ n (gp_I s 74 38) (gp_I s_9 74 38)) → (Int.toNat (gp_I s 74 38 + 3 - gp_I s_9 74 38)) < n_9 → gs_E L (d + 2) 3131 7 [gp_r (some 74), gp_i (gp_I s 74 38), gp_i v2_9] [] s_9 K := by
    intro n_9
    induction n_9 with
    | zero => intro v2_9 s_9 hs_s_9 hf_s_9 TPn_τ_n_s_9 hv2_9 tk0_9 tk1_9 tk2_9 tk3_9 tk4_9 tk5_9 iv0_9 iv1_9 iv2_9 hm_9; exact absurd hm_9 (Nat.not_lt_zero _)
    | succ n_9 ih_9 =>
      intro v2_9 s_9 hs_s_9 hf_s_9 TPn_τ_n_s_9 hv2_9 tk0_9 tk1_9 tk2_9 tk3_9 tk4_9 tk5_9 iv0_9 iv1_9 iv2_9 hm_9
      refine s_3131_7 _ _ ?_
      have f_10 := mr74_38 hs_s_9
      try rw [show gp_wr ((gp_I s 74 38) + 3) = (gp_I s 74 38) + 3 from gp_wr_id (by omega) (by omega)]
      refine ⟨fun h_11 => ?_, fun h_11 => ?_⟩
      · refine vm_isDigit τ n hs_s_9 (TPn_τ_n_s_9) (fun x_12 p_13 p_14 => ⟨_, rfl, ?_⟩)
        refine ⟨fun h_15 => ?_, fun h_15 => ?_⟩
        · have hb_16 := hasF p_14 h_15
          refine s_3131_50 _ _ ?_
          have haN : gp_I s_9 74 38 = aN τ n (gp_I s 74 38) := aN_fin iv2_9 (by omega) (by omega) (by omega)
          have hd1 : gp_I s_9 74 38 = gp_I s 74 38 → bA τ n (gp_I s_9 74 38) = bA τ n (gp_I s 74 38) := fun h => by rw [h]
          have hd0 : gp_I s 74 38 < gp_I s_9 74 38 → 48 ≤ bA τ n (gp_I s 74 38) ∧ bA τ n (gp_I s 74 38) ≤ 57 := fun h => iv2_9 _ (by omega) h
          have f_17 := mr74_38 hs_s_9
          refine ⟨fun h_18 => ?_, fun h_18 => ?_⟩
          · refine vm_fails hs_s_9 (fun s_19 hs_20 hf_21 p_22 => ⟨rfl, ?_⟩)
            have hf_23 : gF [] [38, 40] s s_19 := gF.trans hf_s_9 hf_21 rfl rfl
            have pd_24 : TPn τ n s_19 := TP_fr TPn_τ_n_s_9 hf_21 rfl rfl
            have q_25 := (hf_21.2 74 38 rfl (fun _ => rfl)).1
            have q_26 := (hf_21.2 74 39 rfl (fun _ => rfl)).1
            have q_27 := (hf_21.2 74 41 rfl (fun _ => rfl)).1
            have q_28 := (hf_21.2 74 42 rfl (fun _ => rfl)).1
            have q_29 := (hf_21.2 74 43 rfl (fun _ => rfl)).1
            have q_30 := (hf_21.2 74 44 rfl (fun _ => rfl)).1
            refine s_3131_62 _ _ ?_
            exact k _ s_19 hs_20 hf_23 (by first | omega | assumption) (by omega) (by omega)
          · refine s_3131_62 _ _ ?_
            exact k _ s_9 hs_s_9 hf_s_9 (by first | omega | assumption) (by omega) (by omega)
        · have hb_31 := hasT p_14 h_15
          have hb8 := @bA_m1 τ n (gp_I s_9 74 38)
          have he8 := (TPn_τ_n_s_9).2
          have w_32 := wr_rng (10 * v2_9)
          refine vm_byteAt τ n hs_s_9 (TPn_τ_n_s_9) (fun x_33 p_34 p_35 => ⟨_, rfl, ?_⟩)
          have w_36 := wr_rng ((gp_wr (10 * v2_9)) + x_33)
          have w_37 := wr_rng ((gp_wr ((gp_wr (10 * v2_9)) + x_33)) - 48)
          have f_38 := mr74_38 hs_s_9
          try rw [show gp_wr ((gp_I s_9 74 38) + 1) = (gp_I s_9 74 38) + 1 from gp_wr_id (by omega) (by omega)]
          intro s_39 e_40
          have hs_41 : MI s_39 := by rw [e_40]; exact mw74_38 hs_s_9 _ (by omega)
          have hf_42 : gF [] [38, 40] s s_39 := by rw [e_40]; exact gF.wI hf_s_9 (Or.inr ⟨rfl, rfl⟩)
          have q_43 : gp_I s_39 74 38 = (gp_I s_9 74 38) + 1 := by rw [e_40]; exact (gz_rw _ _ _ _ _).1 rfl
          have q_44 : gp_I s_39 74 39 = gp_I s_9 74 39 := by rw [e_40] <;> rfl
          have q_45 : gp_I s_39 74 40 = gp_I s_9 74 40 := by rw [e_40] <;> rfl
          have q_46 : gp_I s_39 74 41 = gp_I s_9 74 41 := by rw [e_40] <;> rfl
          have q_47 : gp_I s_39 74 42 = gp_I s_9 74 42 := by rw [e_40] <;> rfl
          have q_48 : gp_I s_39 74 43 = gp_I s_9 74 43 := by rw [e_40] <;> rfl
          have q_49 : gp_I s_39 74 44 = gp_I s_9 74 44 := by rw [e_40] <;> rfl
          have pd_50 : TPn τ n s_39 := by rw [e_40]; exact TP_fr TPn_τ_n_s_9 (gF.wI (gF.refl [] [38] _) (Or.inr ⟨rfl, rfl⟩)) rfl rfl
          exact ih_9 _ _ hs_41 hf_42 pd_50 (by omega) (by first | rfl | omega) (by first | rfl | omega) (by first | rfl | omega) (by first | rfl | omega) (by first | rfl | omega) (by first | rfl | omega) (by first | omega | assumption) (by first | omega | assumption) (by have h9 := dgs_s iv2_9 (by omega); rw [show gp_I s_39 74 38 = gp_I s_9 74 38 + 1 by omega]; exact h9) (by omega)
      · refine s_3131_50 _ _ ?_
        have haN : gp_I s_9 74 38 = aN τ n (gp_I s 74 38) := aN_fin iv2_9 (by omega) (by omega) (by omega)
        have hd1 : gp_I s_9 74 38 = gp_I s 74 38 → bA τ n (gp_I s_9 74 38) = bA τ n (gp_I s 74 38) := fun h => by rw [h]
        have hd0 : gp_I s 74 38 < gp_I s_9 74 38 → 48 ≤ bA τ n (gp_I s 74 38) ∧ bA τ n (gp_I s 74 38) ≤ 57 := fun h => iv2_9 _ (by omega) h
        have f_51 := mr74_38 hs_s_9
        refine ⟨fun h_52 => ?_, fun h_52 => ?_⟩
        · refine vm_fails hs_s_9 (fun s_53 hs_54 hf_55 p_56 => ⟨rfl, ?_⟩)
          have hf_57 : gF [] [38, 40] s s_53 := gF.trans hf_s_9 hf_55 rfl rfl
          have pd_58 : TPn τ n s_53 := TP_fr TPn_τ_n_s_9 hf_55 rfl rfl
          have q_59 := (hf_55.2 74 38 rfl (fun _ => rfl)).1
          have q_60 := (hf_55.2 74 39 rfl (fun _ => rfl)).1
          have q_61 := (hf_55.2 74 41 rfl (fun _ => rfl)).1
          have q_62 := (hf_55.2 74 42 rfl (fun _ => rfl)).1
          have q_63 := (hf_55.2 74 43 rfl (fun _ => rfl)).1
          have q_64 := (hf_55.2 74 44 rfl (fun _ => rfl)).1
          refine s_3131_62 _ _ ?_
          exact k _ s_53 hs_54 hf_57 (by first | omega | assumption) (by omega) (by omega)
        · refine s_3131_62 _ _ ?_
          exact k _ s_9 hs_s_9 hf_s_9 (by first | omega | assumption) (by omega) (by omega)
  exact lp_9 _ _ _ hs (gF.refl _ _ _) q0 (by omega) (by first | rfl | omega) (by first | rfl | omega) (by first | rfl | omega) (by first | rfl | omega) (by first | rfl | omega) (by first | rfl | omega) (by first | omega | assumption) (by first | omega | assumption) (dgs_0 _ _ _) (Nat.lt_succ_self _)
set_option maxRecDepth 100000 in
/-- GatheredPointsModel.piles -/
theorem vm_piles  {L d : Nat} {K : Option gV → gH → Prop} {s : gH}   (hs : MI s)  (q0 : gp_I s 74 42 ≤ 62) (k : ∀ (t : gH), MI t → gF [76, 77, 78, 79, 80, 81] [42] s t → (gp_I t 74 42 = gp_I s 74 42 + 1) → (kp (gp_I s 74 42) s t) → (gp_I t 81 (Int.toNat (21 + gp_I s 74 42)) = gp_I s 81 19) → K none t) : gs_C L (d + 1) 3132 1 [gp_r (some 74)] s K := by
  have f_1 := mr74_42 hs
  refine s_3132_e ?_
  have f_2 := mr74_42 hs
  try rw [show gp_wr (21 + (gp_I s 74 42)) = 21 + (gp_I s 74 42) from gp_wr_id (by omega) (by omega)]
  refine vm_copies _ _ hs (by omega) (by omega) (by first | omega | assumption) (by show ((21 + (gp_I s 74 42)) < 8 → 1 ≤ gp_I s 81 19); first | omega | assumption) (fun s_3 hs_4 hf_5 p_6 p_7 => ⟨rfl, ?_⟩)
  have hf_8 : gF [76, 77, 78, 79, 80, 81] [42] s s_3 := gF.sub hf_5 rfl rfl
  have q_9 := (hf_5.2 74 42 rfl (fun _ => rfl)).1
  have p_10 : gp_I s_3 81 (21 + (gp_I s 74 42)).toNat = gp_I s 81 19 := p_6
  have hc0 := p_6
  have hc1 := p_7
  have f_11 := mr74_42 hs_4
  try rw [show gp_wr ((gp_I s_3 74 42) + 1) = (gp_I s_3 74 42) + 1 from gp_wr_id (by omega) (by omega)]
  intro s_12 e_13
  have hs_14 : MI s_12 := by rw [e_13]; exact mw74_42 hs_4 _ (by omega)
  have hf_15 : gF [76, 77, 78, 79, 80, 81] [42] s s_12 := by rw [e_13]; exact gF.wI hf_8 (Or.inr ⟨rfl, rfl⟩)
  have q_16 : gp_I s_12 74 42 = (gp_I s_3 74 42) + 1 := by rw [e_13]; exact (gz_rw _ _ _ _ _).1 rfl
  exact k s_12 hs_14 hf_15 (by first | omega | assumption) ((pl_of (t := s_12) hc0 hc1 (by subst_vars; omega) (by subst_vars; exact fun k => rfl) (by omega)).2.1) ((pl_of (t := s_12) hc0 hc1 (by subst_vars; omega) (by subst_vars; exact fun k => rfl) (by omega)).2.2)
set_option maxRecDepth 100000 in
/-- GatheredPointsModel.pilesNumber -/
theorem vm_pilesNumber  {L d : Nat} {K : Option gV → gH → Prop} {s : gH}  (p0 : Int) (hs : MI s)  (q0 : gp_I s 74 42 ≤ 62) (k : ∀ (t : gH), MI t → gF [76, 77, 78, 79, 80, 81, 86, 87, 88] [15, 42] s t → (gp_I t 74 42 = gp_I s 74 42 + 1) → (kq s t) → (1 ≤ gp_I t 81 (Int.toNat (21 + gp_I s 74 42))) → K none t) : gs_C L (d + 185) 3133 2 [gp_r (some 74), gp_i p0] s K := by
  have f_1 := mr74_42 hs
  have f_2 := mr81 hs 20
  have f_3 := mr81 hs 19
  refine s_3133_e _ ?_
  have hkq0 := kq.refl s
  refine vm_begins2 hs (fun s_4 hs_5 hf_6 p_7 p_8 p_9 p_10 => ⟨rfl, ?_⟩)
  have hf_11 : gF [76, 77, 78, 79, 80, 81, 86, 87, 88] [15, 42] s s_4 := gF.sub hf_6 rfl rfl
  have q_12 := (hf_6.2 74 42 rfl (fun _ => rfl)).1
  have q_13 := p_10.1 19 (by omega)
  have hkq1 : kq s s_4 := kq_K hkq0 (mK_o p_10)
  refine vm_made _ _ _ _ hs_5 (p_9) (bd_0 _) (bd_0 _) (fun x_14 s_15 hs_16 hf_17 p_18 p_19 p_20 p_21 p_22 p_23 p_24 => ⟨_, rfl, ?_⟩)
  have hf_25 : gF [76, 77, 78, 79, 80, 81, 86, 87, 88] [15, 42] s s_15 := gF.trans hf_11 hf_17 rfl rfl
  have q_26 := (hf_17.2 74 42 rfl (fun _ => rfl)).1
  have q_27 := p_23.1 19 (by omega)
  have hkq2 : kq s s_15 := kq_K hkq1 (mK_o p_23)
  refine vm_ends _ hs_16 (by omega) (p_19) (by first | omega | assumption) (fun s_28 hs_29 hf_30 p_31 p_32 => ⟨rfl, ?_⟩)
  have hf_33 : gF [76, 77, 78, 79, 80, 81, 86, 87, 88] [15, 42] s s_28 := gF.trans hf_25 hf_30 rfl rfl
  have q_34 := (hf_30.2 74 42 rfl (fun _ => rfl)).1
  have hkq3 : kq s s_28 := kq_K hkq2 p_32
  refine vm_piles hs_29 (by first | omega | assumption) (fun s_35 hs_36 hf_37 p_38 p_39 p_40 => ⟨rfl, ?_⟩)
  have hf_41 : gF [76, 77, 78, 79, 80, 81, 86, 87, 88] [15, 42] s s_35 := gF.trans hf_33 hf_37 rfl rfl
  have hkq4 : kq s s_35 := kq_p hkq3 p_39 (by omega)
  have hn9 : gp_I s_35 81 (Int.toNat (21 + gp_I s 74 42)) = gp_I s_28 81 19 := by rw [show gp_I s 74 42 = gp_I s_28 74 42 by omega]; exact p_40
  exact k s_35 hs_36 hf_41 (by first | omega | assumption) (hkq4) (by first | omega | assumption)
