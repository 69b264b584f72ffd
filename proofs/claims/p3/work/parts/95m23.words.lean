/-! what a text says, against where the reference reads -/
theorem RDZ_tre {g : Nat → Int} {n : Int} : ∀ N k o i r, RDZ g n N k o i r → i.2.2.2.1 ≠ 0 → r.2.2.2.1 = i.2.2.2.1
  | 0, _, _, _, _, h, _ => absurd h (fun q => q)
  | N + 1, k, o, i, r, x, hi => by
    have ih := fun k o i r => RDZ_tre (g := g) (n := n) N k o i r
    have x' : RDK (RDZ g n N) g n k o i r := x
    clear x
    unfold RDK at x'
    by_cases c0 : k = 0
    · rw [if_pos c0] at x'
      rcases x' with ⟨_, _, a⟩ | ⟨_, _, a⟩ | ⟨_, a⟩ | ⟨_, _, _, a⟩ | ⟨_, _, q, z, a1, _, _, a⟩ | ⟨_, _, a⟩
      · rw [a]
      · rw [a]
      · rw [a]
      · rw [a]
      · rw [a]
        have z9 := ih _ _ _ q a1 hi
        exact z9
      · have z9 := ih _ _ _ _ a hi
        exact z9
    rw [if_neg c0] at x'
    by_cases c1 : k = 1
    · rw [if_pos c1] at x'
      obtain ⟨q, a1, a2⟩ := x'
      have e := ih _ _ _ _ a1 hi
      exact (ih _ _ _ _ a2 (by rw [e]; exact hi)).trans e
    rw [if_neg c1] at x'
    by_cases c2 : k = 2
    · rw [if_pos c2] at x'
      rcases x' with ⟨_, a⟩ | ⟨_, q2, q3, a1, a2, a3⟩
      · rw [a]
      · have t9 := ih _ _ _ _ a1 hi
        have t2 : q2.2.2.2.1 = i.2.2.2.1 := t9
        obtain ⟨_, _, _, b⟩ := a2
        rcases b with ⟨_, b, _⟩ | ⟨b, _⟩
        · exact (ih _ _ _ _ a3 (by rw [b, t2]; exact hi)).trans (b.trans t2)
        · exact absurd (t2.symm.trans b.2) hi
    rw [if_neg c2] at x'
    by_cases c3 : k = 3
    · rw [if_pos c3] at x'
      rcases x' with ⟨_, p, s, _, ⟨_, a⟩ | ⟨_, a⟩⟩ | ⟨_, q, a1, a2⟩
      · rw [a]
      · rw [a]
      · have e := ih _ _ _ q a1 hi
        exact (ih _ _ _ _ a2 (by show q.2.2.2.1 ≠ 0; rw [e]; exact hi)).trans e
    rw [if_neg c3] at x'
    by_cases c4 : k = 4
    · rw [if_pos c4] at x'
      rcases x' with ⟨_, a⟩ | ⟨_, q2, a1, a2⟩
      · rw [a]
      · have e := ih _ _ _ q2 a1 hi
        exact (ih _ _ _ _ a2 (by show q2.2.2.2.1 ≠ 0; rw [e]; exact hi)).trans e
    rw [if_neg c4] at x'
    obtain ⟨a, a1, a2⟩ := x'
    have ta := ih _ _ _ _ a1 hi
    rcases a2 with ⟨_, b⟩ | ⟨_, _, b⟩ | ⟨_, _, b, b1, b2⟩
    · rw [b]; exact ta
    · rw [b]; exact ta
    · have tb : b.2.2.2.1 = i.2.2.2.1 := (ih _ _ _ b b1 (by show a.2.2.2.1 ≠ 0; rw [ta]; exact hi)).trans ta
      rcases b2 with ⟨_, c⟩ | ⟨_, _, c⟩ | ⟨_, _, c⟩
      · rw [c]; exact tb
      · rw [c]; exact tb
      · obtain ⟨_, _, _, d⟩ := c
        rcases d with ⟨_, d, _⟩ | ⟨d, _⟩
        · rw [d]; exact tb
        · exact absurd (tb.symm.trans d) hi
theorem RDZ_2i {g : Nat → Int} {n : Int} {N : Nat} {o : Int} {q r : R5} (h : RDZ g n N 2 o q r) : ∃ M, N = M + 1 ∧ RDL (RDZ g n M) g n o q r := by
  cases N with
  | zero => exact absurd h (fun q => q)
  | succ M => exact ⟨M, rfl, h⟩
theorem RDZ_4i {g : Nat → Int} {n : Int} {N : Nat} {o : Int} {q r : R5} (h : RDZ g n N 4 o q r) : ∃ M, N = M + 1 ∧ RDT (RDZ g n M) g n o q r := by
  cases N with
  | zero => exact absurd h (fun q => q)
  | succ M => exact ⟨M, rfl, h⟩
theorem RDZ_0i {g : Nat → Int} {n : Int} {N : Nat} {o : Int} {q r : R5} (h : RDZ g n N 0 o q r) : ∃ M, N = M + 1 ∧ RDU (RDZ g n M) g n o q r := by
  cases N with
  | zero => exact absurd h (fun q => q)
  | succ M => exact ⟨M, rfl, h⟩
theorem RDZ_1i {g : Nat → Int} {n : Int} {N : Nat} {o : Int} {q r : R5} (h : RDZ g n N 1 o q r) : ∃ M, N = M + 1 ∧ RDE (RDZ g n M) o q r := by
  cases N with
  | zero => exact absurd h (fun q => q)
  | succ M => exact ⟨M, rfl, h⟩
theorem RDZ_3i {g : Nat → Int} {n : Int} {N : Nat} {o : Int} {q r : R5} (h : RDZ g n N 3 o q r) : ∃ M, N = M + 1 ∧ RDS (RDZ g n M) g n o q r := by
  cases N with
  | zero => exact absurd h (fun q => q)
  | succ M => exact ⟨M, rfl, h⟩
theorem RDZ_5i {g : Nat → Int} {n : Int} {N : Nat} {o : Int} {q r : R5} (h : RDZ g n N 5 o q r) : ∃ M, N = M + 1 ∧ RDF (RDZ g n M) g n o q r := by
  cases N with
  | zero => exact absurd h (fun q => q)
  | succ M => exact ⟨M, rfl, h⟩
theorem RDZ_2f {g : Nat → Int} {n : Int} {N : Nat} {o : Int} {q r : R5} (h : RDZ g n N 2 o q r) (f : 0 ≤ q.2.1) : r = q := by
  obtain ⟨M, _, h⟩ := RDZ_2i h
  rcases h with ⟨_, h⟩ | ⟨h, _⟩
  · exact h
  · omega
theorem RDZ_4f {g : Nat → Int} {n : Int} {N : Nat} {o : Int} {q r : R5} (h : RDZ g n N 4 o q r) (f : 0 ≤ q.2.1) : r = q := by
  obtain ⟨M, _, h⟩ := RDZ_4i h
  rcases h with ⟨_, h⟩ | ⟨h, _⟩
  · exact h
  · omega
theorem ndg_3 (τ : Nat → Int) (n a : Int) : (ndg τ n 3 a 0).1 = aN τ n a := by
  have e : ∀ p, nxg τ n p = bA τ n p := fun _ => rfl
  unfold aN
  unfold ndg
  by_cases d : 48 ≤ bA τ n a ∧ bA τ n a ≤ 57
  · rw [if_pos (by rw [e]; exact d), if_pos d]
    unfold ndg
    by_cases d2 : 48 ≤ bA τ n (a + 1) ∧ bA τ n (a + 1) ≤ 57
    · rw [if_pos (by rw [e]; exact d2), if_pos d2]
      unfold ndg
      by_cases d3 : 48 ≤ bA τ n (a + 2) ∧ bA τ n (a + 2) ≤ 57
      · rw [if_pos (by rw [e, show a + 1 + 1 = a + 2 by omega]; exact d3), if_pos d3]
        show a + 1 + 1 + 1 = _
        omega
      · rw [if_neg (by rw [e, show a + 1 + 1 = a + 2 by omega]; exact d3), if_neg d3]
        show a + 1 + 1 = _
        omega
    · rw [if_neg (by rw [e]; exact d2), if_neg d2]
  · rw [if_neg (by rw [e]; exact d), if_neg d]
def EVQ (τ : Nat → Int) (n : Int) (md : Nat) (o a w : Int) (q : R5) : Prop := 0 ≤ q.1 ∧ ∃ b v, EV τ n md o a w b v ∧ (q.2.1 < 0 → b = q.1 ∧ v < 0) ∧ (0 ≤ q.2.1 → v = q.2.1)
def mdz (k : Nat) : Nat := if k = 4 then 5 else if k = 5 then 4 else k
theorem ZEV {τ : Nat → Int} {n : Int} : ∀ N k o i q w, RDZ τ n N k o i q → k ≤ 5 → o ≤ 8 → 0 ≤ i.1 → i.2.1 < 0 → w < 0 → EVQ τ n (mdz k) o i.1 w q
  | 0, _, _, _, _, _, h, _, _, _, _, _ => absurd h (fun q => q)
  | N + 1, k, o, i, r, w, x, hk, ho, hi, hf, hw => by
    have ih := fun k o i q w => ZEV (τ := τ) (n := n) N k o i q w
    have e : ∀ p, nxg τ n p = bA τ n p := fun _ => rfl
    have x' : RDK (RDZ τ n N) τ n k o i r := x
    clear x
    unfold RDK at x'
    have l3 : i.1 ≤ (ndg τ n 3 i.1 0).1 := by
      rw [ndg_3]; unfold aN
      by_cases d : 48 ≤ bA τ n i.1 ∧ bA τ n i.1 ≤ 57 <;> by_cases d2 : 48 ≤ bA τ n (i.1 + 1) ∧ bA τ n (i.1 + 1) ≤ 57 <;> by_cases d3 : 48 ≤ bA τ n (i.1 + 2) ∧ bA τ n (i.1 + 2) ≤ 57 <;> simp only [d, d2, d3, if_true, if_false] <;> omega
    by_cases c0 : k = 0
    · rw [if_pos c0] at x'
      unfold RDU dgt at x'
      simp only [e] at x'
      subst c0
      rcases x' with ⟨a1, a2, a⟩ | ⟨a1, a2, a⟩ | ⟨a1, a⟩ | ⟨a1, a2, a3, a⟩ | ⟨b1, b2, q, z, a1, _, _, a⟩ | ⟨b1, b2, a⟩
      · rw [a]
        exact ⟨by show 0 ≤ i.1 + 2; omega, _, _, EV.uw hw (by omega) a1 rfl a2 rfl rfl, fun _ => ⟨rfl, hw⟩, fun h => absurd h (by show ¬ (0 : Int) ≤ -1; omega)⟩
      · rw [a]
        exact ⟨by show 0 ≤ i.1 + 1; omega, _, _, EV.uwn hw (by omega) a1 rfl a2 rfl rfl, fun h => absurd h (by show ¬ i.1 + 1 < 0; omega), fun _ => rfl⟩
      · rw [a]
        exact ⟨by show 0 ≤ (ndg τ n 3 i.1 0).1; omega, _, _, EV.ud hw a1 rfl rfl, fun _ => ⟨(ndg_3 τ n i.1).symm, hw⟩, fun h => absurd h (by show ¬ (0 : Int) ≤ -1; omega)⟩
      · rw [a]
        exact ⟨hi, _, _, EV.ub hw a2 a1 (by omega) rfl rfl, fun h => absurd h (by show ¬ i.1 < 0; omega), fun _ => rfl⟩
      · obtain ⟨y0, b, v, y1, y2, y3⟩ := ih 0 (o + 1) _ q w a1 (by omega) (by omega) (by show 0 ≤ i.1 + 1; omega) (by show (-1 : Int) < 0; omega) hw
        rw [a]
        exact ⟨y0, b, v, EV.un hw b1 (by omega) rfl rfl rfl y1, y2, y3⟩
      · obtain ⟨y0, b, v, y1, y2, y3⟩ := ih 5 (o + 1) _ r w a (by omega) (by omega) (by show 0 ≤ i.1 + 1; omega) (by show (-1 : Int) < 0; omega) hw
        exact ⟨y0, b, v, EV.us hw b1 (by omega) rfl rfl rfl y1, y2, y3⟩
    rw [if_neg c0] at x'
    by_cases c1 : k = 1
    · rw [if_pos c1] at x'
      subst c1
      obtain ⟨q, a1, a2⟩ := x'
      obtain ⟨y0, b, v, y1, y2, y3⟩ := ih 0 o i q w a1 (by omega) ho hi hf hw
      by_cases f : q.2.1 < 0
      · obtain ⟨e1, e2⟩ := y2 f
        obtain ⟨z0, b', v', z1, z2, z3⟩ := ih 2 o q r v a2 (by omega) ho y0 f e2
        rw [← e1] at z1
        exact ⟨z0, b', v', EV.ex y1 z1, z2, z3⟩
      · have e1 := RDZ_2f a2 (by omega)
        have e2 := y3 (by omega)
        rw [e1]
        exact ⟨y0, b, v, EV.ex y1 (EV.r0 (by omega) rfl rfl), fun h => absurd h f, y3⟩
    rw [if_neg c1] at x'
    by_cases c2 : k = 2
    · rw [if_pos c2] at x'
      subst c2
      rcases x' with ⟨a1, a⟩ | ⟨a1, q2, q3, a2, a3, a4⟩
      · rw [e] at a1
        rw [a]
        exact ⟨hi, _, _, EV.r0 (fun h => a1 ⟨hf, h.2⟩) rfl rfl, fun _ => ⟨rfl, hw⟩, fun h => absurd h (by omega)⟩
      · rw [e] at a1
        obtain ⟨y0, b, v, y1, y2, y3⟩ := ih 0 o _ q2 w a2 (by omega) ho (by show 0 ≤ i.1 + 1; omega) (by show (-1 : Int) < 0; omega) hw
        obtain ⟨s1, s2, _, _⟩ := a3
        by_cases f : q2.2.1 < 0
        · obtain ⟨e1, e2⟩ := y2 f
          obtain ⟨z0, b', v', z1, z2, z3⟩ := ih 2 o q3 r v a4 (by omega) ho (by rw [s1]; exact y0) (by rw [s2]; exact f) e2
          rw [s1, ← e1] at z1
          exact ⟨z0, b', v', EV.r1 ⟨hw, a1.2⟩ rfl rfl y1 z1, z2, z3⟩
        · have e1 := RDZ_2f a4 (by omega)
          have e2 := y3 (by omega)
          rw [e1]
          exact ⟨by rw [s1]; exact y0, b, v, EV.r1 ⟨hw, a1.2⟩ rfl rfl y1 (EV.r0 (by omega) rfl rfl), fun h => absurd h (by omega), fun _ => by omega⟩
    rw [if_neg c2] at x'
    by_cases c3 : k = 3
    · rw [if_pos c3] at x'
      subst c3
      rcases x' with ⟨a1, p, s, a2, a3⟩ | ⟨a1, q, a2, a3⟩
      · unfold dgt at a3
        simp only [e] at a1 a2 a3
        have hp : 0 ≤ p := by omega
        have l4 : p ≤ (ndg τ n 3 p 0).1 := by
          rw [ndg_3]; unfold aN
          by_cases d : 48 ≤ bA τ n p ∧ bA τ n p ≤ 57 <;> by_cases d2 : 48 ≤ bA τ n (p + 1) ∧ bA τ n (p + 1) ≤ 57 <;> by_cases d3 : 48 ≤ bA τ n (p + 2) ∧ bA τ n (p + 2) ≤ 57 <;> simp only [d, d2, d3, if_true, if_false] <;> omega
        rcases a3 with ⟨d, a⟩ | ⟨d, a⟩
        · rw [a]
          exact ⟨by show 0 ≤ (ndg τ n 3 p 0).1; omega, _, w, EV.s1 (a2 := p) ⟨hw, a1⟩ rfl (by omega) rfl (Or.inl ⟨d.1, d.2, rfl⟩), fun _ => ⟨(ndg_3 τ n p).symm, hw⟩, fun h => absurd h (by show ¬ (0 : Int) ≤ -1; omega)⟩
        · rw [a]
          exact ⟨hp, _, p, EV.s1 (a2 := p) ⟨hw, a1⟩ rfl (by omega) rfl (Or.inr ⟨d, rfl⟩), fun h => absurd h (by show ¬ p < 0; omega), fun _ => rfl⟩
      · rw [e] at a1
        obtain ⟨y0, b, v, y1, y2, y3⟩ := ih 1 o i q w a2 (by omega) ho hi hf hw
        by_cases f : q.2.1 < 0
        · obtain ⟨e1, e2⟩ := y2 f
          obtain ⟨z0, b', v', z1, z2, z3⟩ := ih 4 o _ r v a3 (by omega) ho y0 f e2
          have z1' : EV τ n 5 o q.1 v b' v' := z1
          rw [← e1] at z1'
          exact ⟨z0, b', v', EV.s0 (fun h => a1 h.2) y1 z1', z2, z3⟩
        · have e1 := RDZ_4f a3 (by show 0 ≤ q.2.1; omega)
          have e2 := y3 (by omega)
          rw [e1]
          exact ⟨y0, b, v, EV.s0 (fun h => a1 h.2) y1 (EV.t0 (by omega) rfl rfl), fun h => absurd h f, y3⟩
    rw [if_neg c3] at x'
    by_cases c4 : k = 4
    · rw [if_pos c4] at x'
      subst c4
      rcases x' with ⟨a1, a⟩ | ⟨a1, q2, a2, a4⟩
      · rw [e] at a1
        rw [a]
        exact ⟨hi, _, _, EV.t0 (fun h => a1 ⟨hf, h.2⟩) rfl rfl, fun _ => ⟨rfl, hw⟩, fun h => absurd h (by omega)⟩
      · rw [e] at a1
        obtain ⟨y0, b, v, y1, y2, y3⟩ := ih 1 o _ q2 w a2 (by omega) ho (by show 0 ≤ i.1 + 1; omega) (by show (-1 : Int) < 0; omega) hw
        by_cases f : q2.2.1 < 0
        · obtain ⟨e1, e2⟩ := y2 f
          obtain ⟨z0, b', v', z1, z2, z3⟩ := ih 4 o _ r v a4 (by omega) ho y0 f e2
          have z1' : EV τ n 5 o q2.1 v b' v' := z1
          rw [← e1] at z1'
          exact ⟨z0, b', v', EV.t1 ⟨hw, a1.2⟩ rfl rfl y1 z1', z2, z3⟩
        · have e1 := RDZ_4f a4 (by show 0 ≤ q2.2.1; omega)
          have e2 := y3 (by omega)
          rw [e1]
          exact ⟨y0, b, v, EV.t1 ⟨hw, a1.2⟩ rfl rfl y1 (EV.t0 (by omega) rfl rfl), fun h => absurd h f, y3⟩
    rw [if_neg c4] at x'
    have k5 : k = 5 := by omega
    subst k5
    obtain ⟨a, a1, a2⟩ := x'
    obtain ⟨y0, b, v, y1, y2, y3⟩ := ih 3 o i a w a1 (by omega) ho hi hf hw
    have y1' : EV τ n 3 o i.1 w b v := y1
    simp only [e] at a2
    rcases a2 with ⟨f, c⟩ | ⟨f, d, c⟩ | ⟨f, d, q, q1, q2⟩
    · have e2 := y3 f
      rw [c]
      exact ⟨y0, b, v, EV.b0 y1' (wnt_s (by omega) rfl rfl) (by omega) (wnt_s (by omega) rfl rfl), fun h => absurd h (by show ¬ a.2.1 < 0; omega), fun _ => e2⟩
    · obtain ⟨e1, e2⟩ := y2 f
      rw [c]
      exact ⟨y0, a.1, a.1, EV.b0 y1' (wnt_n e2 (by rw [e1]; exact d) e1.symm e1.symm) (by omega) (wnt_s (by omega) rfl rfl), fun h => absurd h (by show ¬ a.1 < 0; omega), fun _ => rfl⟩
    · obtain ⟨e1, e2⟩ := y2 f
      obtain ⟨z0, b', v', z1, z2, z3⟩ := ih 3 o _ q v q1 (by omega) ho (by show 0 ≤ a.1 + 1; omega) (by show (-1 : Int) < 0; omega) e2
      have z1' : EV τ n 3 o (a.1 + 1) v b' v' := z1
      have w1 : wnt τ n 124 (b, v) = (a.1 + 1, v) := wnt_y e2 (by rw [e1]; exact d) (by rw [e1]) rfl
      rcases q2 with ⟨f2, c⟩ | ⟨f2, d2, c⟩ | ⟨f2, d2, c⟩
      · have e4 := z3 f2
        rw [c]
        exact ⟨z0, b', v', EV.b1 y1' w1 e2 z1' (wnt_s (by omega) rfl rfl), fun h => absurd h (by show ¬ q.2.1 < 0; omega), fun _ => e4⟩
      · obtain ⟨e3, e4⟩ := z2 f2
        rw [c]
        exact ⟨z0, q.1, q.1, EV.b1 y1' w1 e2 z1' (wnt_n e4 (by rw [e3]; exact d2) e3.symm e3.symm), fun h => absurd h (by show ¬ q.1 < 0; omega), fun _ => rfl⟩
      · obtain ⟨e3, e4⟩ := z2 f2
        obtain ⟨c1, c2, _⟩ := c
        exact ⟨by rw [c1]; omega, q.1 + 1, v', EV.b1 y1' w1 e2 z1' (wnt_y e4 (by rw [e3]; exact d2) (by rw [e3]) rfl), fun _ => ⟨c1.symm, e4⟩, fun h => absurd h (by omega)⟩
/-- where the reference stands, against what a text says -/
theorem ZEV_at {τ : Nat → Int} {n : Int} {N k md : Nat} {o : Int} {i q : R5} {a w b v : Int} (z : RDZ τ n N k o i q) (ev : EV τ n md o a w b v) (hm : md = mdz k) (hk : k ≤ 5) (ho : o ≤ 8) (h0 : 0 ≤ i.1) (hf : i.2.1 < 0) (hw : w < 0) (ha : a = i.1) : 0 ≤ q.1 ∧ (q.2.1 < 0 → b = q.1 ∧ v < 0) ∧ (0 ≤ q.2.1 → v = q.2.1) := by
  obtain ⟨y0, b', v', y1, y2, y3⟩ := ZEV N k o i q w z hk ho h0 hf hw
  rw [← hm, ← ha] at y1
  obtain ⟨e1, e2⟩ := EV.det ev y1
  rw [e1, e2]
  exact ⟨y0, y2, y3⟩
/-! the reference's reader against what a text says: words -/
def inZ (s : gH) : R5 := (gp_I s 74 38, -1, 0, 0, 0)
def ZW (τ : Nat → Int) (n : Int) (k : Nat) (s t : gH) : Prop := ok s → ∀ N q, RDZ τ n N k (gp_I s 74 41) (inZ s) q → q.2.1 < 0 → (q.2.2.2.1 = 0 ∧ ok t ∧ gp_I t 74 38 = q.1 ∧ GTM t (Int.toNat (21 + gp_I s 74 42)) q.2.2.1) ∨ (q.2.2.2.1 ≠ 0 ∧ gp_I t 74 43 = q.2.2.2.1)
theorem ZW_n {τ : Nat → Int} {n : Int} {k : Nat} {s t : gH} (h : ¬ ok s) : ZW τ n k s t := fun o => absurd o h
theorem NV_1 {v : Nat} {f : Int} (h : f < 0) : NV f 0 v = v := if_pos ⟨h, rfl⟩
theorem ZW_d {τ : Nat → Int} {n r : Int} {s t : gH} (ot : ok t) (d : 48 ≤ bA τ n (gp_I s 74 38) ∧ bA τ n (gp_I s 74 38) ≤ 57) (h38 : gp_I t 74 38 = aN τ n (gp_I s 74 38)) (g : GTM t (Int.toNat (21 + gp_I s 74 42)) (cod4 0 0 r r)) (hr : r = (ndg τ n 3 (gp_I s 74 38) 0).2) : ZW τ n 0 s t := fun _ N q z f => by
  obtain ⟨M, _, z⟩ := RDZ_0i z
  have e1 : (inZ s).1 = gp_I s 74 38 := rfl
  have eb : ∀ p, nxg τ n p = bA τ n p := fun _ => rfl
  unfold RDU dgt at z
  simp only [e1, eb] at z
  rcases z with ⟨a1, _⟩ | ⟨a1, _⟩ | ⟨_, a⟩ | ⟨_, a2, _⟩ | ⟨b1, _⟩ | ⟨b1, _⟩
  · omega
  · omega
  · rw [a]
    refine Or.inl ⟨rfl, ot, h38.trans (ndg_3 τ n _).symm, ?_⟩
    show GTM t _ (NV (-1) 0 _)
    rw [NV_1 (by omega), ← hr]; exact g
  · exact absurd d a2
  · omega
  · omega
theorem ZW_w {τ : Nat → Int} {n r a1 : Int} {s t : gH} (ot : ok t) (c : bA τ n (gp_I s 74 38) = 119) (ea : a1 = gp_I s 74 38 + 1) (d : 48 ≤ bA τ n a1 ∧ bA τ n a1 ≤ 57) (h38 : gp_I t 74 38 = gp_I s 74 38 + 2) (g : GTM t (Int.toNat (21 + gp_I s 74 42)) (wtv r.toNat)) (hr : r = bA τ n a1 - 48) : ZW τ n 0 s t := fun _ N q z f => by
  subst ea
  obtain ⟨M, _, z⟩ := RDZ_0i z
  have e1 : (inZ s).1 = gp_I s 74 38 := rfl
  have eb : ∀ p, nxg τ n p = bA τ n p := fun _ => rfl
  unfold RDU dgt at z
  simp only [e1, eb] at z
  rcases z with ⟨_, _, a⟩ | ⟨_, a2, _⟩ | ⟨a1, _⟩ | ⟨a1, _⟩ | ⟨b1, _⟩ | ⟨b1, _⟩
  · rw [a]
    refine Or.inl ⟨rfl, ot, h38, ?_⟩
    show GTM t _ (NV (-1) 0 _)
    rw [NV_1 (by omega), ← hr]; exact g
  · exact absurd d a2
  · omega
  · exact absurd c a1
  · omega
  · omega
theorem ZW_w0 {τ : Nat → Int} {n a1 : Int} {s t : gH} (h0 : 0 ≤ gp_I s 74 38) (c : bA τ n (gp_I s 74 38) = 119) (ea : a1 = gp_I s 74 38 + 1) (d : ¬ (48 ≤ bA τ n a1 ∧ bA τ n a1 ≤ 57)) : ZW τ n 0 s t := fun _ N q z f => by
  subst ea
  obtain ⟨M, _, z⟩ := RDZ_0i z
  have e1 : (inZ s).1 = gp_I s 74 38 := rfl
  have eb : ∀ p, nxg τ n p = bA τ n p := fun _ => rfl
  unfold RDU dgt at z
  simp only [e1, eb] at z
  rcases z with ⟨_, a1, _⟩ | ⟨_, _, a⟩ | ⟨a1, _⟩ | ⟨a1, _⟩ | ⟨b1, _⟩ | ⟨b1, _⟩
  · exact absurd a1 d
  · rw [a] at f
    have f' : gp_I s 74 38 + 1 < 0 := f
    omega
  · omega
  · exact absurd c a1
  · omega
  · omega
theorem ZW_b {τ : Nat → Int} {n : Int} {s t : gH} (h0 : 0 ≤ gp_I s 74 38) (d : ¬ (48 ≤ bA τ n (gp_I s 74 38) ∧ bA τ n (gp_I s 74 38) ≤ 57)) (c : bA τ n (gp_I s 74 38) ≠ 119) (c2 : (bA τ n (gp_I s 74 38) ≠ 45 ∧ bA τ n (gp_I s 74 38) ≠ 60) ∨ 8 ≤ gp_I s 74 41) : ZW τ n 0 s t := fun _ N q z f => by
  obtain ⟨M, _, z⟩ := RDZ_0i z
  have e1 : (inZ s).1 = gp_I s 74 38 := rfl
  have eb : ∀ p, nxg τ n p = bA τ n p := fun _ => rfl
  unfold RDU dgt at z
  simp only [e1, eb] at z
  rcases z with ⟨a1, _⟩ | ⟨a1, _⟩ | ⟨a1, _⟩ | ⟨_, _, _, a⟩ | ⟨b1, b2, _⟩ | ⟨b1, b2, _⟩
  · exact absurd a1 c
  · exact absurd a1 c
  · exact absurd a1 d
  · rw [a] at f
    have f' : gp_I s 74 38 < 0 := f
    omega
  · omega
  · omega
theorem ZU_m {τ : Nat → Int} {n : Int} {s : gH} {N : Nat} {q : R5} (z : RDZ τ n N 0 (gp_I s 74 41) (inZ s) q) (ob : bA τ n (gp_I s 74 38) = 45) (o8 : gp_I s 74 41 < 8) : ∃ M c v, RDZ τ n M 0 (gp_I s 74 41 + 1) (gp_I s 74 38 + 1, -1, 0, 0, 0) c ∧ (OK5 c → NGV c.2.2.1 v) ∧ q = (c.1, c.2.1, v, c.2.2.2.1, 0) := by
  obtain ⟨M, _, z⟩ := RDZ_0i z
  have e1 : (inZ s).1 = gp_I s 74 38 := rfl
  have e4 : (inZ s).2.2.2.1 = 0 := rfl
  have eb : ∀ p, nxg τ n p = bA τ n p := fun _ => rfl
  unfold RDU dgt at z
  simp only [e1, e4, eb] at z
  rcases z with ⟨a1, _⟩ | ⟨a1, _⟩ | ⟨a1, _⟩ | ⟨_, _, a1, _⟩ | ⟨_, _, c, v, x1, x2, _, x3⟩ | ⟨b1, _⟩
  · omega
  · omega
  · omega
  · omega
  · exact ⟨M, c, v, x1, x2, x3⟩
  · omega
theorem inZ_e {s : gH} {a : Int} (h : gp_I s 74 38 = a) : inZ s = (a, -1, 0, 0, 0) := by
  unfold inZ
  rw [h]
theorem ZW_m1 {τ : Nat → Int} {n : Int} {s s1 u t : gH} (ob : bA τ n (gp_I s 74 38) = 45) (o8 : gp_I s 74 41 < 8) (a1 : gp_I s1 74 38 = gp_I s 74 38 + 1) (o1 : gp_I s1 74 41 = gp_I s 74 41 + 1) (p1 : gp_I s1 74 42 = gp_I s 74 42) (k1 : ok s1) (hz : ZW τ n 0 s1 u) (ku : gp_I u 74 43 = 0) (hn : ∀ x, GTM u (Int.toNat (21 + gp_I s 74 42)) x → ∃ z, NGV x z ∧ GTM t (Int.toNat (21 + gp_I s 74 42)) z) (ot : ok t) (at_ : gp_I t 74 38 = gp_I u 74 38) : ZW τ n 0 s t := fun _ N q z f => by
  obtain ⟨M, c, v, x1, x2, x3⟩ := ZU_m z ob o8
  rw [x3] at f ⊢
  have y := hz k1 M c (by rw [o1, inZ_e a1]; exact x1) f
  rw [p1] at y
  rcases y with ⟨y1, y2, y3, y4⟩ | ⟨y1, y2⟩
  · obtain ⟨w, w1, w2⟩ := hn _ y4
    have e := NGV_f (x2 ⟨f, y1⟩) w1
    exact Or.inl ⟨y1, ot, at_.trans y3, by show GTM t _ v; rw [e]; exact w2⟩
  · exact absurd (y2.symm.trans ku) y1
theorem ZW_m0 {τ : Nat → Int} {n : Int} {s s1 u t : gH} (ob : bA τ n (gp_I s 74 38) = 45) (o8 : gp_I s 74 41 < 8) (a1 : gp_I s1 74 38 = gp_I s 74 38 + 1) (o1 : gp_I s1 74 41 = gp_I s 74 41 + 1) (k1 : ok s1) (hz : ZW τ n 0 s1 u) (ku : ¬ (gp_I u 74 40 < 0 ∧ gp_I u 74 43 = 0)) (lt : gp_I t 74 43 = gp_I u 74 43) : ZW τ n 0 s t := fun _ N q z f => by
  obtain ⟨M, c, v, x1, x2, x3⟩ := ZU_m z ob o8
  rw [x3] at f ⊢
  have y := hz k1 M c (by rw [o1, inZ_e a1]; exact x1) f
  rcases y with ⟨y1, y2, y3, y4⟩ | ⟨y1, y2⟩
  · exact absurd ⟨y2.2.1, y2.2.2⟩ ku
  · exact Or.inr ⟨y1, lt.trans y2⟩
theorem ZW_s {τ : Nat → Int} {n : Int} {s s1 u t : gH} (ob : bA τ n (gp_I s 74 38) = 60) (o8 : gp_I s 74 41 < 8) (a1 : gp_I s1 74 38 = gp_I s 74 38 + 1) (o1 : gp_I s1 74 41 = gp_I s 74 41 + 1) (p1 : gp_I s1 74 42 = gp_I s 74 42) (k1 : ok s1) (hz : ZW τ n 5 s1 u) (ot : ok u → ok t) (lt : gp_I t 74 43 = gp_I u 74 43) (at_ : gp_I t 74 38 = gp_I u 74 38) (g : ∀ x, GTM u (Int.toNat (21 + gp_I s 74 42)) x → GTM t (Int.toNat (21 + gp_I s 74 42)) x) : ZW τ n 0 s t := fun _ N q z f => by
  obtain ⟨M, _, z⟩ := RDZ_0i z
  have e1 : (inZ s).1 = gp_I s 74 38 := rfl
  have e4 : (inZ s).2.2.2.1 = 0 := rfl
  have eb : ∀ p, nxg τ n p = bA τ n p := fun _ => rfl
  unfold RDU dgt at z
  simp only [e1, e4, eb] at z
  rcases z with ⟨a1, _⟩ | ⟨a1, _⟩ | ⟨a1, _⟩ | ⟨_, _, a1, _⟩ | ⟨b1, _⟩ | ⟨_, _, x⟩
  · omega
  · omega
  · omega
  · omega
  · omega
  · have y := hz k1 M q (by rw [o1, inZ_e a1]; exact x) f
    rw [p1] at y
    rcases y with ⟨y1, y2, y3, y4⟩ | ⟨y1, y2⟩
    · exact Or.inl ⟨y1, ot y2, at_.trans y3, g _ y4⟩
    · exact Or.inr ⟨y1, lt.trans y2⟩
theorem GTM_i {s : gH} {g g' x : Nat} (h : GTM s g x) (e : g' = g) : GTM s g' x := by rw [e]; exact h
/-! expressions -/
def ZLE (τ : Nat → Int) (n : Int) (s u : gH) : Prop := ok s → ∀ N q, RDZ τ n N 1 (gp_I s 74 41) (inZ s) q → q.2.1 < 0 → ∃ M c, RDZ τ n M 2 (gp_I s 74 41) c q ∧ c.2.1 < 0 ∧ ((c.2.2.2.1 = 0 ∧ ok u ∧ gp_I u 74 38 = c.1 ∧ GTM u (Int.toNat (21 + gp_I s 74 42)) c.2.2.1) ∨ (c.2.2.2.1 ≠ 0 ∧ gp_I u 74 43 = c.2.2.2.1))
theorem ZLE_n {τ : Nat → Int} {n : Int} {s u : gH} (h : ¬ ok s) : ZLE τ n s u := fun o => absurd o h
theorem ZLE_0 {τ : Nat → Int} {n : Int} {s u : gH} (h : ZW τ n 0 s u) : ZLE τ n s u := fun k N q z f => by
  obtain ⟨M, _, c, z1, z2⟩ := RDZ_1i z
  have f2 : c.2.1 < 0 := Classical.byContradiction fun w => by
    have e := RDZ_2f z2 (by omega)
    rw [e] at f
    exact w f
  exact ⟨M, c, z2, f2, h k M c z1 f2⟩
theorem ZLE_c {τ : Nat → Int} {n : Int} {s u : gH} {N M : Nat} {q c : R5} (z : RDZ τ n M 2 (gp_I s 74 41) c q) (f : q.2.1 < 0) (f2 : c.2.1 < 0) (b : bA τ n c.1 = 43) (t0 : c.2.2.2.1 = 0) : ∃ K q2 q3, RDZ τ n K 0 (gp_I s 74 41) (c.1 + 1, -1, 0, 0, 0) q2 ∧ SUR c q2 q3 ∧ RDZ τ n K 2 (gp_I s 74 41) q3 q ∧ q2.2.1 < 0 ∧ q3.2.1 < 0 := by
  obtain ⟨K, _, z⟩ := RDZ_2i z
  have eb : ∀ p, nxg τ n p = bA τ n p := fun _ => rfl
  rcases z with ⟨a, _⟩ | ⟨_, q2, q3, a1, a2, a3⟩
  · exact absurd ⟨f2, (eb _).trans b⟩ a
  · rw [t0] at a1
    have f3 : q3.2.1 < 0 := Classical.byContradiction fun w => by
      have e := RDZ_2f a3 (by omega)
      rw [e] at f
      exact w f
    exact ⟨K, q2, q3, a1, a2, a3, by rw [← a2.2.1]; exact f3, f3⟩
theorem ZLE_1 {τ : Nat → Int} {n : Int} {s u s1 v : gH} (h : ZLE τ n s u) (k0 : gp_I u 74 43 = 0) (b : bA τ n (gp_I u 74 38) = 43) (a1 : gp_I s1 74 38 = gp_I u 74 38 + 1) (o1 : gp_I s1 74 41 = gp_I s 74 41) (k1 : ok s1) (hz : ZW τ n 0 s1 v) (kv : ¬ (gp_I v 74 40 < 0 ∧ gp_I v 74 43 = 0)) : ZLE τ n s v := fun k N q z f => by
  obtain ⟨M, c, z2, f2, x⟩ := h k N q z f
  rcases x with ⟨x1, x2, x3, x4⟩ | ⟨x1, x2⟩
  · obtain ⟨K, q2, q3, y1, y2, y3, y4, y5⟩ := ZLE_c (s := s) (N := N) (u := u) z2 f f2 (by rw [← x3]; exact b) x1
    rcases hz k1 K q2 (by rw [o1, inZ_e (a1.trans (by rw [x3]))]; exact y1) y4 with ⟨w1, w2, _, _⟩ | ⟨w1, w2⟩
    · exact absurd ⟨w2.2.1, w2.2.2⟩ kv
    · obtain ⟨_, _, _, r4⟩ := y2
      rcases r4 with ⟨_, r4, _⟩ | ⟨r4, _⟩
      · exact ⟨K, q3, y3, y5, Or.inr ⟨by rw [r4]; exact w1, by rw [r4]; exact w2⟩⟩
      · exact absurd r4.2 w1
  · exact absurd (x2.symm.trans k0) x1
theorem ZLE_2 {τ : Nat → Int} {n r : Int} {s u s1 v t : gH} (h : ZLE τ n s u) (k0 : gp_I u 74 43 = 0) (b : bA τ n (gp_I u 74 38) = 43) (a1 : gp_I s1 74 38 = gp_I u 74 38 + 1) (o1 : gp_I s1 74 41 = gp_I s 74 41) (p1 : gp_I s1 74 42 = gp_I s 74 42 + 1) (k1 : ok s1) (hz : ZW τ n 0 s1 v) (kv : gp_I v 74 43 = 0) (gk : ∀ x, GTM u (Int.toNat (21 + gp_I s 74 42)) x → GTM v (Int.toNat (21 + gp_I s 74 42)) x)
    (hs : ∀ x y, GTM v (Int.toNat (21 + gp_I s 74 42)) x → GTM v (Int.toNat (21 + (gp_I s 74 42 + 1))) y → (JFV x y ∧ r = 4) ∨ (¬ JFV x y ∧ ∃ z, JSV x y z ∧ ((BIGV z ∧ r = 6) ∨ (¬ BIGV z ∧ r = 0 ∧ GTM t (Int.toNat (21 + gp_I s 74 42)) z)))) (lt : gp_I t 74 43 = r) (ot : r = 0 → ok t) (at_ : gp_I t 74 38 = gp_I v 74 38) : ZLE τ n s t := fun k N q z f => by
  obtain ⟨M, c, z2, f2, x⟩ := h k N q z f
  rcases x with ⟨x1, x2, x3, x4⟩ | ⟨x1, x2⟩
  · obtain ⟨K, q2, q3, y1, y2, y3, y4, y5⟩ := ZLE_c (s := s) (N := N) (u := u) z2 f f2 (by rw [← x3]; exact b) x1
    rcases hz k1 K q2 (by rw [o1, inZ_e (a1.trans (by rw [x3]))]; exact y1) y4 with ⟨w1, w2, w3, w4⟩ | ⟨w1, w2⟩
    · rw [p1] at w4
      have ss := hs _ _ (gk _ x4) w4
      refine ⟨K, q3, y3, y5, ?_⟩
      obtain ⟨r1, r2, _, r4⟩ := y2
      rcases r4 with ⟨r4, _⟩ | ⟨_, r4⟩
      · exact absurd ⟨y4, w1⟩ r4
      · rcases r4 with ⟨j, j1, j2⟩ | ⟨j, z', j1, j2⟩
        · rcases ss with ⟨_, e⟩ | ⟨e, _⟩
          · exact Or.inr ⟨by omega, by omega⟩
          · exact absurd j e
        · rcases ss with ⟨e, _⟩ | ⟨_, z'', e1, e2⟩
          · exact absurd e j
          · have ez := JSV_f j1 e1
            subst ez
            rcases j2 with ⟨g1, g2, g3⟩ | ⟨g1, g2, g3⟩ <;> rcases e2 with ⟨g4, g5⟩ | ⟨g4, g5, g6⟩
            · exact Or.inr ⟨by omega, by omega⟩
            · exact absurd g1 g4
            · exact absurd g4 g1
            · exact Or.inl ⟨g2, ot g5, by rw [at_, w3, r1], by rw [g3]; exact g6⟩
    · exact absurd (w2.symm.trans kv) w1
  · exact absurd (x2.symm.trans k0) x1
theorem ZLE_e {τ : Nat → Int} {n : Int} {s u t : gH} (h : ZLE τ n s u) (no : ¬ (gp_I u 74 40 < 0 ∧ gp_I u 74 43 = 0 ∧ bA τ n (gp_I u 74 38) = 43)) (lt : gp_I t 74 43 = gp_I u 74 43) (at_ : gp_I t 74 38 = gp_I u 74 38) (ot : ok u → ok t) (g : ∀ g x, GTM u g x → GTM t g x) : ZW τ n 1 s t := fun k N q z f => by
  obtain ⟨M, c, z2, f2, x⟩ := h k N q z f
  rcases x with ⟨x1, x2, x3, x4⟩ | ⟨x1, x2⟩
  · obtain ⟨K, _, z3⟩ := RDZ_2i z2
    have eb : ∀ p, nxg τ n p = bA τ n p := fun _ => rfl
    rcases z3 with ⟨_, a⟩ | ⟨a, _⟩
    · rw [a]; exact Or.inl ⟨x1, ot x2, at_.trans x3, g _ _ x4⟩
    · exact absurd ⟨x2.2.1, x2.2.2, by rw [x3, ← eb]; exact a.2⟩ no
  · have e := RDZ_tre _ _ _ _ _ z2 x1
    exact Or.inr ⟨by rw [e]; exact x1, by rw [e]; exact lt.trans x2⟩
/-! sides -/
def opn (f : Nat → Nat) : Nat → Nat
  | 0 => 0
  | j + 1 => opn f j ||| 2 ^ f j
theorem opn_c {f g : Nat → Nat} : ∀ j, (∀ k, k < j → f k = g k) → opn f j = opn g j
  | 0, _ => rfl
  | j + 1, h => by
    unfold opn
    rw [opn_c j (fun k hk => h k (by omega)), h j (Nat.lt_succ_self _)]
theorem opn_ne {f : Nat → Nat} {j : Nat} : opn f (j + 1) ≠ 0 := fun h => by
  have : (opn f (j + 1)).testBit (f j) = true := by
    unfold opn
    rw [Nat.testBit_or, Nat.testBit_two_pow, Bool.or_eq_true]
    exact Or.inr (by simp)
  rw [h, Nat.zero_testBit] at this
  cases this
def OPB (t : gH) (p r : Int) (O : Nat) : Prop := ∃ f : Nat → Nat, (∀ k : Nat, (k : Int) < r → GTM t (Int.toNat (21 + p + k)) (f k)) ∧ O = opn f r.toNat
theorem OPB_0 {t : gH} {p : Int} : OPB t p 0 0 := ⟨fun _ => 0, fun k hk => by omega, rfl⟩
theorem OPB_m {t u : gH} {p r : Int} {O : Nat} (h : OPB t p r O) (g : ∀ (k : Nat) x, (k : Int) < r → GTM t (Int.toNat (21 + p + k)) x → GTM u (Int.toNat (21 + p + k)) x) : OPB u p r O := by
  obtain ⟨f, h1, h2⟩ := h
  exact ⟨f, fun k hk => g k _ hk (h1 k hk), h2⟩
theorem OPB_s {t : gH} {p r : Int} {O x : Nat} (h : OPB t p r O) (h0 : 0 ≤ r) (g : GTM t (Int.toNat (21 + p + r)) x) : OPB t p (r + 1) (O ||| 2 ^ x) := by
  obtain ⟨f, h1, h2⟩ := h
  refine ⟨fun k => if k = r.toNat then x else f k, fun k hk => ?_, ?_⟩
  · by_cases c : k = r.toNat
    · show GTM t _ (if k = r.toNat then x else f k)
      rw [if_pos c, show (k : Int) = r by omega]; exact g
    · show GTM t _ (if k = r.toNat then x else f k)
      rw [if_neg c]; exact h1 k (by omega)
  · rw [show (r + 1).toNat = r.toNat + 1 by omega]
    show _ = opn _ r.toNat ||| 2 ^ (if r.toNat = r.toNat then x else f r.toNat)
    rw [if_pos rfl, h2]
    congr 1
    exact opn_c _ (fun k hk => (if_neg (by omega)).symm)
def SDO (t : gH) (p c sh : Int) (a : R5) : Prop := (c = 0 ∧ a.2.2.1 = 0 ∧ sh = a.2.2.2.2) ∨ (1 ≤ c ∧ OPB t p c a.2.2.1)
def ZS (τ : Nat → Int) (n : Int) (s t : gH) (r : Int) : Prop := ok s → ∀ N q, RDZ τ n N 3 (gp_I s 74 41) (inZ s) q → q.2.1 < 0 → (q.2.2.2.1 = 0 ∧ ok t ∧ gp_I t 74 38 = q.1 ∧ SDO t (gp_I s 74 42) r (gp_I t 74 45) q) ∨ (q.2.2.2.1 ≠ 0 ∧ gp_I t 74 43 = q.2.2.2.1)
theorem ZS_n {τ : Nat → Int} {n r : Int} {s t : gH} (h : ¬ ok s) : ZS τ n s t r := fun o => absurd o h
theorem ZS_d {τ : Nat → Int} {n a1 p v : Int} {s t : gH} (h0 : 0 ≤ gp_I s 74 38) (b : bA τ n (gp_I s 74 38) = 58) (ea : a1 = gp_I s 74 38 + 1) (e : (bA τ n a1 = 45 ∧ p = a1 + 1 ∧ gp_I t 74 45 = -v) ∨ (bA τ n a1 ≠ 45 ∧ p = a1 ∧ gp_I t 74 45 = v)) (hd : (48 ≤ bA τ n p ∧ bA τ n p ≤ 57) → ok t) (h38 : gp_I t 74 38 = aN τ n p) (hv : v = (ndg τ n 3 p 0).2) : ZS τ n s t 0 := fun _ N q z f => by
  subst ea
  obtain ⟨M, _, z⟩ := RDZ_3i z
  have e1 : (inZ s).1 = gp_I s 74 38 := rfl
  have eb : ∀ p, nxg τ n p = bA τ n p := fun _ => rfl
  unfold RDS dgt at z
  simp only [e1, eb] at z
  rcases z with ⟨_, p', s', a2, a3⟩ | ⟨a1, _⟩
  · have ep : p' = p := by omega
    subst ep
    rcases a3 with ⟨d, a⟩ | ⟨d, a⟩
    · rw [a]
      refine Or.inl ⟨rfl, hd d, h38.trans (ndg_3 τ n _).symm, Or.inl ⟨rfl, rfl, ?_⟩⟩
      show gp_I t 74 45 = s' * (ndg τ n 3 p' 0).2
      rw [← hv]
      rcases e with ⟨e1, _, e2⟩ | ⟨e1, _, e2⟩ <;> rcases a2 with ⟨a1, _, a2⟩ | ⟨a1, _, a2⟩ <;> first | omega | (rw [a2]; omega)
    · rw [a] at f
      have f' : p' < 0 := f
      omega
  · exact absurd b a1
def ZTH (τ : Nat → Int) (n : Int) (s u : gH) (v1 : Int) : Prop := ok s → ∀ N q, RDZ τ n N 3 (gp_I s 74 41) (inZ s) q → q.2.1 < 0 → ok u ∧ ∃ M q2 O, OPB u (gp_I s 74 42) v1 O ∧ RDZ τ n M 1 (gp_I s 74 41) (gp_I u 74 38, -1, 0, 0, 0) q2 ∧ RDZ τ n M 4 (gp_I s 74 41) (q2.1, q2.2.1, NV q2.2.1 q2.2.2.2.1 (O ||| 2 ^ q2.2.2.1), q2.2.2.2.1, 0) q
theorem ZTH_n {τ : Nat → Int} {n r : Int} {s t : gH} (h : ¬ ok s) : ZTH τ n s t r := fun o => absurd o h
theorem ZTH_0 {τ : Nat → Int} {n : Int} {s u : gH} (b : ok s → bA τ n (gp_I s 74 38) ≠ 58) (ou : ok s → ok u) (h38 : gp_I u 74 38 = gp_I s 74 38) : ZTH τ n s u 0 := fun o N q z f => by
  obtain ⟨M, _, z⟩ := RDZ_3i z
  have e1 : (inZ s).1 = gp_I s 74 38 := rfl
  have e4 : (inZ s).2.2.2.1 = 0 := rfl
  have eb : ∀ p, nxg τ n p = bA τ n p := fun _ => rfl
  unfold RDS dgt at z
  simp only [e1, eb] at z
  rcases z with ⟨a1, _⟩ | ⟨_, q2, a1, a2⟩
  · exact absurd a1 (b o)
  · refine ⟨ou o, M, q2, 0, OPB_0, by rw [h38]; exact a1, ?_⟩
    rw [Nat.zero_or]; exact a2
def ZTC (τ : Nat → Int) (n : Int) (s v : gH) (c1 : Int) : Prop := ok s → ∀ N q, RDZ τ n N 3 (gp_I s 74 41) (inZ s) q → q.2.1 < 0 → ∃ M c, RDZ τ n M 4 (gp_I s 74 41) c q ∧ c.2.1 < 0 ∧ ((c.2.2.2.1 = 0 ∧ ok v ∧ gp_I v 74 38 = c.1 ∧ OPB v (gp_I s 74 42) c1 c.2.2.1) ∨ (c.2.2.2.1 ≠ 0 ∧ gp_I v 74 43 = c.2.2.2.1))
theorem ZTC_s {τ : Nat → Int} {n v1 : Int} {s u v : gH} (h : ZTH τ n s u v1) (h0 : 0 ≤ v1) (hz : ZW τ n 1 u v) (o1 : gp_I u 74 41 = gp_I s 74 41) (p1 : ok u → gp_I u 74 42 = gp_I s 74 42 + v1) (gk : ∀ (k : Nat) x, ok u → (k : Int) < v1 → GTM u (Int.toNat (21 + gp_I s 74 42 + k)) x → GTM v (Int.toNat (21 + gp_I s 74 42 + k)) x) : ZTC τ n s v (v1 + 1) := fun o N q z f => by
  obtain ⟨ou, M, q2, O, x1, x2, x3⟩ := h o N q z f
  have f2 : q2.2.1 < 0 := Classical.byContradiction fun w => by
    have e := RDZ_4f x3 (by show 0 ≤ q2.2.1; omega)
    rw [e] at f
    exact w f
  refine ⟨M, _, x3, f2, ?_⟩
  rcases hz ou M q2 (by rw [o1]; exact x2) f2 with ⟨y1, y2, y3, y4⟩ | ⟨y1, y2⟩
  · refine Or.inl ⟨y1, y2, y3, ?_⟩
    show OPB v _ _ (NV q2.2.1 q2.2.2.2.1 (O ||| 2 ^ q2.2.2.1))
    rw [y1, NV_1 f2]
    refine OPB_s (OPB_m x1 (fun k x hk g => gk k x ou hk g)) h0 ?_
    rw [show 21 + gp_I s 74 42 + v1 = 21 + gp_I u 74 42 by rw [p1 ou]; omega]
    exact y4
  · exact Or.inr ⟨y1, y2⟩
theorem ZTH_s {τ : Nat → Int} {n c1 : Int} {s v u : gH} (h : ZTC τ n s v c1) (k0 : gp_I v 74 43 = 0) (b : bA τ n (gp_I v 74 38) = 44) (a1 : gp_I u 74 38 = gp_I v 74 38 + 1) (ou : ok v → ok u) (g : ∀ (k : Nat) x, GTM v (Int.toNat (21 + gp_I s 74 42 + k)) x → GTM u (Int.toNat (21 + gp_I s 74 42 + k)) x) : ZTH τ n s u c1 := fun o N q z f => by
  obtain ⟨M, c, x1, x2, x3⟩ := h o N q z f
  have eb : ∀ p, nxg τ n p = bA τ n p := fun _ => rfl
  rcases x3 with ⟨y1, y2, y3, y4⟩ | ⟨y1, y2⟩
  · obtain ⟨K, _, x1⟩ := RDZ_4i x1
    rcases x1 with ⟨w, _⟩ | ⟨_, q2, w1, w2⟩
    · exact absurd ⟨x2, (eb _).trans (by rw [← y3]; exact b)⟩ w
    · rw [y1] at w1
      exact ⟨ou y2, K, q2, c.2.2.1, OPB_m y4 (fun k x _ hg => g k x hg), by rw [a1, y3]; exact w1, w2⟩
  · exact absurd (y2.symm.trans k0) y1
theorem ZS_e {τ : Nat → Int} {n c1 : Int} {s v t : gH} (h : ZTC τ n s v c1) (h1 : 1 ≤ c1) (no : ¬ (gp_I v 74 40 < 0 ∧ gp_I v 74 43 = 0 ∧ bA τ n (gp_I v 74 38) = 44)) (lt : gp_I t 74 43 = gp_I v 74 43) (at_ : gp_I t 74 38 = gp_I v 74 38) (ot : ok v → ok t) (g : ∀ g x, GTM v g x → GTM t g x) : ZS τ n s t c1 := fun o N q z f => by
  obtain ⟨M, c, x1, x2, x3⟩ := h o N q z f
  have eb : ∀ p, nxg τ n p = bA τ n p := fun _ => rfl
  rcases x3 with ⟨y1, y2, y3, y4⟩ | ⟨y1, y2⟩
  · obtain ⟨K, _, x1⟩ := RDZ_4i x1
    rcases x1 with ⟨_, w⟩ | ⟨w, _⟩
    · rw [w]; exact Or.inl ⟨y1, ot y2, at_.trans y3, Or.inr ⟨h1, OPB_m y4 (fun k x _ hg => g _ x hg)⟩⟩
    · exact absurd ⟨y2.2.1, y2.2.2, by rw [y3, ← eb]; exact w.2⟩ no
  · have e := RDZ_tre _ _ _ _ _ x1 y1
    exact Or.inr ⟨by rw [e]; exact y1, by rw [e]; exact lt.trans y2⟩
/-! piles that hold games -/
def KQ (s t : gH) : Prop := KCQ (gp_I s 74 42) s t
theorem KQ.refl (s : gH) : KQ s s := KCQ_r _ s
theorem KQ_fr {s u t : gH} {m f : List Nat} (h : KQ s u) (g : gF m f u t) (e1 : m.contains 76 = false) (e2 : m.contains 77 = false) (e3 : m.contains 78 = false) (e4 : m.contains 79 = false) : KQ s t := KCQ_fr h g e1 e2 e3 e4
theorem KQ_t {s u t : gH} (h : KQ s u) (g : KQ u t) (e : gp_I s 74 42 ≤ gp_I u 74 42) : KQ s t := KCQ_t h g e
theorem KQ_p {s u t : gH} {p : Int} (h : KQ s u) (g : KCQ p u t) (e : gp_I s 74 42 ≤ p) : KQ s t := KCQ_t h g e
theorem KQ_c {s u t : gH} (h : KQ s u) (g : CK u t) : KQ s t := KCQ_c h g
theorem GTM_q {s t : gH} {g x : Nat} (h : GTM s g x) (hk : kq s t) (hK : KQ s t) (hg : 21 ≤ g ∧ (g : Int) < 21 + gp_I s 74 42) : GTM t g x := GTM_kc h hK hg (hk g (by omega) (by omega) (by omega) hg.2)
theorem GTM_fr2 {s t : gH} {m f : List Nat} {g x : Nat} (h : GTM s g x) (hf : gF m f s t) (e0 : m.contains 81 = false) (e1 : m.contains 76 = false) (e2 : m.contains 77 = false) (e3 : m.contains 78 = false) (e4 : m.contains 79 = false) : GTM t g x := GTM_e h ((hf.2 81 g e0 (fun h => absurd h (by decide))).1) (fun k _ => by
  unfold TM
  rw [(hf.2 76 _ e1 (fun h => absurd h (by decide))).2, (hf.2 77 _ e2 (fun h => absurd h (by decide))).2, (hf.2 78 _ e3 (fun h => absurd h (by decide))).1, (hf.2 79 _ e4 (fun h => absurd h (by decide))).1])
def PGM (s : gH) : Prop := ok s → ∀ k : Nat, 21 ≤ k → (k : Int) < 21 + gp_I s 74 42 → ∃ x, GTM s k x
theorem PGM_0 {s : gH} (h : gp_I s 74 42 = 0) : PGM s := fun _ k h1 h2 => by omega
theorem PGM_fr {s t : gH} {m g : List Nat} (h : PGM s) (hf : gF m g s t) (e : m.contains 81 = false) (e1 : m.contains 76 = false) (e2 : m.contains 77 = false) (e3 : m.contains 78 = false) (e4 : m.contains 79 = false) (f1 : g.contains 40 = false) (f2 : g.contains 42 = false) (f3 : g.contains 43 = false) (f4 : g.contains 44 = false) (q : m.contains 74 = false := by rfl) : PGM t := by
  have r7 : ∀ k, g.contains k = false → gp_I t 74 k = gp_I s 74 k := fun k h1 => (hf.2 74 k q (fun _ => h1)).1
  intro o k h1 h2
  rw [r7 42 f2] at h2
  obtain ⟨x, hx⟩ := h ⟨by rw [← r7 44 f4]; exact o.1, by rw [← r7 40 f1]; exact o.2.1, by rw [← r7 43 f3]; exact o.2.2⟩ k h1 h2
  exact ⟨x, GTM_fr2 hx hf e e1 e2 e3 e4⟩
theorem PGM_q {s t : gH} (h : PGM s) (hk : kq s t) (hK : KQ s t) (ho : ok t → ok s) (e : ok t → gp_I t 74 42 ≤ gp_I s 74 42 + 1) (hn : ok t → gp_I t 74 42 = gp_I s 74 42 + 1 → ∃ x, GTM t (Int.toNat (21 + gp_I s 74 42)) x) : PGM t := fun o k h1 h2 => by
  have e' := e o
  by_cases c : (k : Int) < 21 + gp_I s 74 42
  · obtain ⟨x, hx⟩ := h (ho o) k h1 c
    exact ⟨x, GTM_q hx hk hK ⟨h1, c⟩⟩
  · obtain ⟨x, hx⟩ := hn o (by omega)
    exact ⟨x, by rw [show k = Int.toNat (21 + gp_I s 74 42) by omega]; exact hx⟩
theorem PGM_w2 {s t : gH} {m g : List Nat} (h : PGM s) (hf : gF m g s t) (e : m.contains 81 = false) (e1 : m.contains 76 = false) (e2 : m.contains 77 = false) (e3 : m.contains 78 = false) (e4 : m.contains 79 = false) (f2 : g.contains 42 = false) (f3 : g.contains 43 = false) (f4 : g.contains 44 = false) (ho : gp_I t 74 43 = 0 → gp_I t 74 40 < 0 → gp_I s 74 40 < 0) (q : m.contains 74 = false := by rfl) : PGM t := by
  have r7 : ∀ k, g.contains k = false → gp_I t 74 k = gp_I s 74 k := fun k h1 => (hf.2 74 k q (fun _ => h1)).1
  intro o k h1 h2
  rw [r7 42 f2] at h2
  obtain ⟨x, hx⟩ := h ⟨by rw [← r7 44 f4]; exact o.1, ho o.2.2 o.2.1, by rw [← r7 43 f3]; exact o.2.2⟩ k h1 h2
  exact ⟨x, GTM_fr2 hx hf e e1 e2 e3 e4⟩
/-! a number's value -/
theorem ndg_st {τ : Nat → Int} {n a b v v2 : Int} {X : Int × Int} (h : ndg τ n (Int.toNat (a + 3 - b)) b v = X) (hb : b < a + 3) (d : 48 ≤ bA τ n b ∧ bA τ n b ≤ 57) (hv : v2 = v * 10 + (bA τ n b - 48)) (b2 : Int) (e : b2 = b + 1) : ndg τ n (Int.toNat (a + 3 - b2)) b2 v2 = X := by
  rw [← h, show Int.toNat (a + 3 - b) = Int.toNat (a + 3 - b2) + 1 by omega, e, hv]
  have d' : 48 ≤ nxg τ n b ∧ nxg τ n b ≤ 57 := d
  exact (if_pos d').symm
theorem ndg_en {τ : Nat → Int} {n a b v : Int} {X : Int × Int} (h : ndg τ n (Int.toNat (a + 3 - b)) b v = X) (e : a + 3 ≤ b ∨ ¬ (48 ≤ bA τ n b ∧ bA τ n b ≤ 57)) : v = X.2 := by
  rw [← h]
  cases c : Int.toNat (a + 3 - b) with
  | zero => rfl
  | succ k =>
    have q : ¬ (48 ≤ nxg τ n b ∧ nxg τ n b ≤ 57) := by
      rcases e with e | e
      · omega
      · exact e
    unfold ndg
    rw [if_neg q]
