/-! both sides of a framed game, at the reference -/
theorem GTM_1 {s : gH} {g x : Nat} (h : GTM s g x) : 1 ≤ gp_I s 81 g := by
  have := h.1.1.1
  omega
theorem RDZ_5c {τ : Nat → Int} {n : Int} {N : Nat} {o : Int} {i q : R5} (z : RDZ τ n N 5 o i q) (f : q.2.1 < 0) (h0 : 0 ≤ i.1) (hf : i.2.1 < 0) (o8 : o ≤ 8) : ∃ M a b, RDZ τ n M 3 o i a ∧ a.2.1 < 0 ∧ bA τ n a.1 = 124 ∧ RDZ τ n M 3 o (a.1 + 1, -1, 0, a.2.2.2.1, 0) b ∧ b.2.1 < 0 ∧ bA τ n b.1 = 62 ∧ FRR a b q := by
  obtain ⟨M, _, a, a1, a2⟩ := RDZ_5i z
  have pa := (ZEV _ _ _ _ _ (-1) a1 (by omega) o8 h0 hf (by omega)).1
  rcases a2 with ⟨x, y⟩ | ⟨x, x2, y⟩ | ⟨x, x2, b, b1, b2⟩
  · rw [y] at f
    have f' : a.2.1 < 0 := f
    omega
  · rw [y] at f
    have f' : a.1 < 0 := f
    omega
  · have pb := (ZEV _ _ _ _ _ (-1) b1 (by omega) o8 (by show 0 ≤ a.1 + 1; omega) (by show (-1 : Int) < 0; omega) (by omega)).1
    rcases b2 with ⟨x3, y⟩ | ⟨x3, x4, y⟩ | ⟨x3, x4, y⟩
    · rw [y] at f
      have f' : b.2.1 < 0 := f
      omega
    · rw [y] at f
      have f' : b.1 < 0 := f
      omega
    · exact ⟨M, a, b, a1, x, x2, b1, x3, x4, y⟩
def ZJ (τ : Nat → Int) (n : Int) (s u : gH) (c1 n1 c2 : Int) : Prop := ok s → ∀ N q, RDZ τ n N 5 (gp_I s 74 41) (inZ s) q → q.2.1 < 0 → ∃ a b : R5, FRR a b q ∧ bA τ n b.1 = 62 ∧ b.2.1 < 0 ∧ ((b.2.2.2.1 ≠ 0 ∧ gp_I u 74 43 = b.2.2.2.1) ∨ (b.2.2.2.1 = 0 ∧ ok u ∧ gp_I u 74 38 = b.1 ∧ SDO u (gp_I s 74 42) c1 n1 a ∧ SDO u (gp_I s 74 42 + c1) c2 (gp_I u 74 45) b))
theorem SDO_m {t u : gH} {p c sh : Int} {a : R5} (h : SDO t p c sh a) (g : ∀ (k : Nat) x, (k : Int) < c → GTM t (Int.toNat (21 + p + k)) x → GTM u (Int.toNat (21 + p + k)) x) : SDO u p c sh a := by
  rcases h with h | ⟨h1, h2⟩
  · exact Or.inl h
  · exact Or.inr ⟨h1, OPB_m h2 g⟩
theorem ZJ_a {τ : Nat → Int} {n c1 n1 c2 : Int} {s u0 u1 : gH} (hs0 : 0 ≤ gp_I s 74 38 ∧ gp_I s 74 41 ≤ 8) (hz : ZS τ n s u0 c1) (w : gp_I u1 74 43 = 0 → wnt τ n 124 (gp_I u0 74 38, gp_I u0 74 40) = (gp_I u1 74 38, gp_I u1 74 40)) (l : gp_I u1 74 43 = gp_I u0 74 43) (no : ¬ (gp_I u1 74 40 < 0 ∧ gp_I u1 74 43 = 0)) : ZJ τ n s u1 c1 n1 c2 := fun o N q z f => by
  obtain ⟨M, a, b, a1, a2, a3, b1, b2, b3, fr⟩ := RDZ_5c z f hs0.1 (by show (-1 : Int) < 0; omega) hs0.2
  refine ⟨a, b, fr, b3, b2, ?_⟩
  rcases hz o M a a1 a2 with ⟨x1, x2, x3, _⟩ | ⟨x1, x2⟩
  · have l0 : gp_I u1 74 43 = 0 := l.trans x2.2.2
    have e := w l0
    rw [wnt_y x2.2.1 (by rw [x3]; exact a3) rfl rfl] at e
    have e2 : gp_I u0 74 40 = gp_I u1 74 40 := congrArg Prod.snd e
    exact absurd ⟨by rw [← e2]; exact x2.2.1, l0⟩ no
  · have t9 := RDZ_tre _ _ _ _ _ b1 x1
    have t2 : b.2.2.2.1 = a.2.2.2.1 := t9
    exact Or.inl ⟨by rw [t2]; exact x1, by rw [l, x2, t2]⟩
theorem ZJ_b {τ : Nat → Int} {n c1 n1 c2 : Int} {s u0 u1 u2 : gH} (hs0 : 0 ≤ gp_I s 74 38 ∧ gp_I s 74 41 ≤ 8) (hz : ZS τ n s u0 c1) (hn : n1 = gp_I u0 74 45) (w : gp_I u1 74 43 = 0 → wnt τ n 124 (gp_I u0 74 38, gp_I u0 74 40) = (gp_I u1 74 38, gp_I u1 74 40)) (l : gp_I u1 74 43 = gp_I u0 74 43) (k1 : ok u1) (o1 : gp_I u1 74 41 = gp_I s 74 41) (p1 : gp_I u1 74 42 = gp_I s 74 42 + c1) (hz2 : ZS τ n u1 u2 c2) (g : ∀ (k : Nat) x, (k : Int) < c1 → GTM u0 (Int.toNat (21 + gp_I s 74 42 + k)) x → GTM u2 (Int.toNat (21 + gp_I s 74 42 + k)) x) : ZJ τ n s u2 c1 n1 c2 := fun o N q z f => by
  obtain ⟨M, a, b, a1, a2, a3, b1, b2, b3, fr⟩ := RDZ_5c z f hs0.1 (by show (-1 : Int) < 0; omega) hs0.2
  refine ⟨a, b, fr, b3, b2, ?_⟩
  rcases hz o M a a1 a2 with ⟨x1, x2, x3, x4⟩ | ⟨x1, x2⟩
  · have e := w k1.2.2
    rw [wnt_y x2.2.1 (by rw [x3]; exact a3) rfl rfl] at e
    have e1 : gp_I u0 74 38 + 1 = gp_I u1 74 38 := congrArg Prod.fst e
    rw [x1] at b1
    have y := hz2 k1 M b (by rw [o1, inZ_e (e1.symm.trans (by rw [x3]))]; exact b1) b2
    rw [p1] at y
    rcases y with ⟨y1, y2, y3, y4⟩ | y
    · exact Or.inr ⟨y1, y2, y3, by rw [hn]; exact SDO_m x4 g, y4⟩
    · exact Or.inl y
  · exact absurd (x2.symm.trans (l.symm.trans k1.2.2)) x1
theorem FRR_t {a b q : R5} (h : FRR a b q) (t : b.2.2.2.1 ≠ 0) : q.2.2.2.1 = b.2.2.2.1 := by
  obtain ⟨_, _, _, h⟩ := h
  rcases h with ⟨_, h, _⟩ | ⟨h, _⟩
  · exact h
  · exact absurd h t
theorem ZF_0 {τ : Nat → Int} {n c1 n1 c2 : Int} {s u t : gH} (h : ZJ τ n s u c1 n1 c2) (w : gp_I t 74 43 = 0 → wnt τ n 62 (gp_I u 74 38, gp_I u 74 40) = (gp_I t 74 38, gp_I t 74 40)) (l : gp_I t 74 43 = gp_I u 74 43) (no : ¬ (gp_I t 74 40 < 0 ∧ gp_I t 74 43 = 0)) : ZW τ n 5 s t := fun o N q z f => by
  obtain ⟨a, b, fr, b3, b2, x⟩ := h o N q z f
  rcases x with ⟨x1, x2⟩ | ⟨x1, x2, x3, _⟩
  · have e := FRR_t fr x1
    exact Or.inr ⟨by rw [e]; exact x1, by rw [l, x2, e]⟩
  · have l0 : gp_I t 74 43 = 0 := l.trans x2.2.2
    have e := w l0
    rw [wnt_y x2.2.1 (by rw [x3]; exact b3) rfl rfl] at e
    have e2 : gp_I u 74 40 = gp_I t 74 40 := congrArg Prod.snd e
    exact absurd ⟨by rw [← e2]; exact x2.2.1, l0⟩ no
def ZK (τ : Nat → Int) (n : Int) (s u : gH) (c1 n1 c2 n2 : Int) : Prop := ok s → ∀ N q, RDZ τ n N 5 (gp_I s 74 41) (inZ s) q → q.2.1 < 0 → ∃ a b : R5, FRR a b q ∧ b.2.2.2.1 = 0 ∧ gp_I u 74 38 = q.1 ∧ SDO u (gp_I s 74 42) c1 n1 a ∧ SDO u (gp_I s 74 42 + c1) c2 n2 b
theorem ZK_of {τ : Nat → Int} {n c1 n1 c2 n2 : Int} {s u t : gH} (h : ZJ τ n s u c1 n1 c2) (w : gp_I t 74 43 = 0 → wnt τ n 62 (gp_I u 74 38, gp_I u 74 40) = (gp_I t 74 38, gp_I t 74 40)) (l : gp_I t 74 43 = gp_I u 74 43) (k : gp_I t 74 43 = 0) (hn : n2 = gp_I u 74 45) (g : ∀ g x, GTM u g x → GTM t g x) : ZK τ n s t c1 n1 c2 n2 := fun o N q z f => by
  obtain ⟨a, b, fr, b3, b2, x⟩ := h o N q z f
  rcases x with ⟨x1, x2⟩ | ⟨x1, x2, x3, x4, x5⟩
  · exact absurd (x2.symm.trans (l.symm.trans k)) x1
  · have e := w k
    rw [wnt_y x2.2.1 (by rw [x3]; exact b3) rfl rfl] at e
    have e1 : gp_I u 74 38 + 1 = gp_I t 74 38 := congrArg Prod.fst e
    refine ⟨a, b, fr, x1, ?_, SDO_m x4 (fun k x _ h => g _ _ h), by rw [hn]; exact SDO_m x5 (fun k x _ h => g _ _ h)⟩
    rw [fr.1, ← e1, x3]
/-- games in piles -/
def GF (u : gH) (p c : Int) (f : Nat → Nat) : Prop := ∀ k : Nat, (k : Int) < c → GTM u (Int.toNat (21 + p + k)) (f k)
theorem GF_of {u : gH} (h : PGM u) (o : ok u) (p c : Int) (h0 : 0 ≤ p) (hc : p + c ≤ gp_I u 74 42) : ∃ f, GF u p c f := by
  classical
  refine ⟨fun k => if e : ∃ x, GTM u (Int.toNat (21 + p + k)) x then Classical.choose e else 0, fun k hk => ?_⟩
  have e : ∃ x, GTM u (Int.toNat (21 + p + k)) x := h o _ (by omega) (by omega)
  show GTM u _ (if e : ∃ x, GTM u (Int.toNat (21 + p + k)) x then Classical.choose e else 0)
  rw [dif_pos e]
  exact Classical.choose_spec e
theorem SDO_v {u : gH} {p c sh : Int} {a : R5} {f : Nat → Nat} (h : SDO u p c sh a) (g : GF u p c f) : a.2.2.1 = opn f c.toNat := by
  rcases h with ⟨h1, h2, _⟩ | ⟨h1, f', h2, h3⟩
  · rw [h2, h1]; rfl
  · rw [h3]
    exact opn_c _ (fun k hk => GTM_f (h2 k (by omega)) (g k (by omega)))
theorem opn_b {f : Nat → Nat} {x : Nat} : ∀ j, (opn f j).testBit x = true → ∃ k, k < j ∧ f k = x
  | 0, h => by
    have h' : (0 : Nat).testBit x = true := h
    rw [Nat.zero_testBit] at h'; cases h'
  | j + 1, h => by
    unfold opn at h
    rw [Nat.testBit_or, Nat.testBit_two_pow, Bool.or_eq_true] at h
    rcases h with h | h
    · obtain ⟨k, k1, k2⟩ := opn_b j h
      exact ⟨k, by omega, k2⟩
    · exact ⟨j, Nat.lt_succ_self _, by simpa using h⟩
theorem V9_of {f : Nat → ND} {n k : Nat} (h : B99 f n) (hk : k < n) : V9 (val f k) := by
  have z := h k hk
  exact ⟨_, _, _, _, val_e f k, by omega, by omega⟩
theorem GF_V {u : gH} {p c : Int} {f : Nat → Nat} (g : GF u p c f) (c0 : 0 ≤ c) {y : Nat} (h : OBS (opn f c.toNat) y) : V9 y := by
  obtain ⟨x, x1, x2⟩ := h
  obtain ⟨k, k1, k2⟩ := opn_b _ x1
  have gt := g k (by omega)
  rw [k2] at gt
  rw [← gt.2.2] at x2
  obtain ⟨m, j, j1, j2⟩ := (FLV_of gt.1.1).mp x2
  have := rch_le _ _ _ j1
  have := gt.1.1.1
  rw [← j2]
  exact V9_of gt.1.2.2 (by omega)
def FLL (u : gH) (f : Nat → Nat) (j : Int) (w : BitVec 64) : Prop := (gp_I u 74 15 = 0 ∧ OPI (MP u) w 0#64 (opn f j.toNat) 0) ∨ (gp_I u 74 15 ≠ 0 ∧ ¬ C60 (OBS (opn f j.toNat)))
theorem FLL_0 {u : gH} {f : Nat → Nat} (h : gp_I u 81 20 = 0) (h15 : gp_I u 74 15 = 0) : FLL u f 0 0#64 := Or.inl ⟨h15, fun k h => by simp at h, fun k h => by simp at h, cset_z _ _, cset_z _ _, fun y => ⟨fun q => absurd q (PS_m0 h y), fun q => by rcases q with q | q <;> exact absurd q OBS_0⟩⟩
theorem FLL_s {u t : gH} {f : Nat → Nat} {j r : Int} {w y : BitVec 64} (h : FLL u f j w) (j0 : 0 ≤ j) (cm : CMR u t (f j.toNat) r) (gv : GVM t) (hr : 0 ≤ r ∧ r ≤ 63) (hy : y = 1#64 <<< Int.toNat (r % 64)) : FLL t f (j + 1) (w ||| y) := by
  have rr : Int.toNat (r % 64) = r.toNat := by clear h cm gv; omega
  have jj : (j + 1).toNat = j.toNat + 1 := by clear h cm gv; omega
  unfold FLL
  rw [jj]
  show (_ ∧ OPI _ _ _ (opn f j.toNat ||| 2 ^ f j.toNat) _) ∨ (_ ∧ ¬ C60 (OBS (opn f j.toNat ||| 2 ^ f j.toNat)))
  rcases h with ⟨h1, h2⟩ | ⟨h1, h2⟩ <;> rcases cm with ⟨c1, k, c2, c3, c4, c5, c6⟩ | ⟨c1, c2⟩
  · have rk : r.toNat = k := by rw [c2]; exact Int.toNat_natCast k
    rw [hy, rr, rk]
    exact Or.inl ⟨c1.trans h1, OPI_l h2 c3 gv.2.2 c4 c5 c6⟩
  · refine Or.inr ⟨c1, fun c => ?_⟩
    rcases c2 with c2 | c2
    · exact c2 h1
    · exact c2 (C60_mono c (fun y hy => OBS_s.mpr (by
        rcases hy with q | q
        · rcases (h2.2.2.2.2 y).mp q with q | q
          · exact Or.inl q
          · exact absurd q OBS_0
        · exact Or.inr q)))
  · exact Or.inr ⟨by rw [c1]; exact h1, fun c => h2 (C60_mono c (fun y hy => OBS_s.mpr (Or.inl hy)))⟩
  · exact Or.inr ⟨c1, fun c => h2 (C60_mono c (fun y hy => OBS_s.mpr (Or.inl hy)))⟩
def FLR (u : gH) (f : Nat → Nat) (c1 : Int) (g : Nat → Nat) (j : Int) (w z : BitVec 64) : Prop := (gp_I u 74 15 = 0 ∧ OPI (MP u) w z (opn f c1.toNat) (opn g j.toNat)) ∨ (gp_I u 74 15 ≠ 0 ∧ ¬ C60 (fun y => OBS (opn f c1.toNat) y ∨ OBS (opn g j.toNat) y))
theorem FLR_0 {u : gH} {f g : Nat → Nat} {j c1 : Int} {w z : BitVec 64} (h : FLL u f j w) (e : j = c1) (hz : z = 0#64) : FLR u f c1 g 0 w z := by
  subst e; subst hz
  rcases h with ⟨h1, h2⟩ | ⟨h1, h2⟩
  · exact Or.inl ⟨h1, h2⟩
  · exact Or.inr ⟨h1, fun c => h2 (C60_mono c (fun y hy => Or.inl hy))⟩
theorem FLR_s {u t : gH} {f g : Nat → Nat} {c1 j r : Int} {w z y : BitVec 64} (h : FLR u f c1 g j w z) (j0 : 0 ≤ j) (cm : CMR u t (g j.toNat) r) (gv : GVM t) (hr : 0 ≤ r ∧ r ≤ 63) (hy : y = 1#64 <<< Int.toNat (r % 64)) : FLR t f c1 g (j + 1) w (z ||| y) := by
  have rr : Int.toNat (r % 64) = r.toNat := by clear h cm gv; omega
  have jj : (j + 1).toNat = j.toNat + 1 := by clear h cm gv; omega
  unfold FLR
  rw [jj]
  show (_ ∧ OPI _ _ _ _ (opn g j.toNat ||| 2 ^ g j.toNat)) ∨ (_ ∧ ¬ C60 (fun y => _ ∨ OBS (opn g j.toNat ||| 2 ^ g j.toNat) y))
  rcases h with ⟨h1, h2⟩ | ⟨h1, h2⟩ <;> rcases cm with ⟨d1, k, c2, c3, c4, c5, c6⟩ | ⟨d1, c2⟩
  · have rk : r.toNat = k := by rw [c2]; exact Int.toNat_natCast k
    rw [hy, rr, rk]
    exact Or.inl ⟨d1.trans h1, OPI_r h2 c3 gv.2.2 c4 c5 c6⟩
  · refine Or.inr ⟨d1, fun c => ?_⟩
    rcases c2 with c2 | c2
    · exact c2 h1
    · exact c2 (C60_mono c (fun y hy => by
        rcases hy with q | q
        · rcases (h2.2.2.2.2 y).mp q with q | q
          · exact Or.inl q
          · exact Or.inr (OBS_s.mpr (Or.inl q))
        · exact Or.inr (OBS_s.mpr (Or.inr q))))
  · exact Or.inr ⟨by rw [d1]; exact h1, fun c => h2 (C60_mono c (fun y hy => by
      rcases hy with q | q
      · exact Or.inl q
      · exact Or.inr (OBS_s.mpr (Or.inl q))))⟩
  · exact Or.inr ⟨d1, fun c => h2 (C60_mono c (fun y hy => by
      rcases hy with q | q
      · exact Or.inl q
      · exact Or.inr (OBS_s.mpr (Or.inl q))))⟩
def MDW (t : gH) (OL OR v : Nat) (res : Int) : Prop := (gp_I t 74 15 = 0 ∧ res.toNat < (MP t).1 ∧ val (MP t).2 res.toNat = v ∧ ∀ y, PS (MP t) y ↔ FRS OL OR v y) ∨ (gp_I t 74 15 ≠ 0 ∧ ¬ C60 (FRS OL OR v))
theorem MDW_of {u t : gH} {f g : Nat → Nat} {c1 c2 n1 n2 res j : Int} {w z : BitVec 64} (h : FLR u f c1 g j w z) (e : j = c2) (av : AVM u t w z n1 n2 res) (m1 : gp_I t 74 15 = gp_I u 74 15 ∨ (gp_I t 74 15 = 1 ∧ gp_I u 81 20 = 60 ∧ NOS u w z n1 n2)) : MDW t (opn f c1.toNat) (opn g c2.toNat) (frv (opn f c1.toNat) (opn g c2.toNat) n1 n2) res := by
  subst e
  obtain ⟨_, av⟩ := av
  rcases h with ⟨h1, h2⟩ | ⟨h1, h2⟩
  · rw [OPI_v h2] at av
    rcases av with ⟨k, k1, k2, k3, k4, k5, k6⟩ | ⟨k1, k2⟩
    · have rk : res.toNat = k := by rw [k1]; exact Int.toNat_natCast k
      refine Or.inl ⟨k6.trans h1, by rw [rk]; exact k3, by rw [rk]; exact k4, fun y => ?_⟩
      rw [k5, h2.2.2.2.2]
      unfold FRS
      constructor
      · rintro ((q | q) | q)
        · exact Or.inl q
        · exact Or.inr (Or.inl q)
        · exact Or.inr (Or.inr q)
      · rintro (q | q | q)
        · exact Or.inl (Or.inl q)
        · exact Or.inl (Or.inr q)
        · exact Or.inr q
    · refine Or.inr ⟨by rw [k1]; decide, fun c => k2 (C60_mono c (fun y hy => ?_))⟩
      rcases hy with q | q
      · rcases (h2.2.2.2.2 y).mp q with q | q
        · exact Or.inl q
        · exact Or.inr (Or.inl q)
      · exact Or.inr (Or.inr q)
  · refine Or.inr ⟨?_, fun c => h2 (C60_mono c (fun y hy => ?_))⟩
    · rcases m1 with q | ⟨q, _⟩
      · rw [q]; exact h1
      · rw [q]; decide
    · rcases hy with q | q
      · exact Or.inl q
      · exact Or.inr (Or.inl q)
theorem frv_V {f g : Nat → Nat} {c1 c2 n1 n2 : Int} (c10 : 0 ≤ c1) (c20 : 0 ≤ c2) (b1 : c1 = 0 → -999 ≤ n1 ∧ n1 ≤ 999) (b2 : c2 = 0 → -999 ≤ n2 ∧ n2 ≤ 999) : V9 (frv (opn f c1.toNat) (opn g c2.toNat) n1 n2) := by
  have key : ∀ (f : Nat → Nat) (c m : Int), 0 ≤ c → (c = 0 → -999 ≤ m ∧ m ≤ 999) → -99999 ≤ (if opn f c.toNat = 0 then m else 0) ∧ (if opn f c.toNat = 0 then m else 0) ≤ 99999 := fun f c m h0 hb => by
    by_cases e : c = 0
    · have := hb e
      by_cases q : opn f c.toNat = 0
      · rw [if_pos q]; omega
      · rw [if_neg q]; omega
    · have q : ¬ opn f c.toNat = 0 := by
        rw [show c.toNat = (c.toNat - 1) + 1 by omega]
        exact opn_ne
      rw [if_neg q]; omega
  exact ⟨_, _, _, _, rfl, key f c1 n1 c10 b1, key g c2 n2 c20 b2⟩
theorem MDW_V {u t : gH} {f g : Nat → Nat} {p p2 c1 c2 n1 n2 res : Int} (h : MDW t (opn f c1.toNat) (opn g c2.toNat) (frv (opn f c1.toNat) (opn g c2.toNat) n1 n2) res) (gf : GF u p c1 f) (gg : GF u p2 c2 g) (c10 : 0 ≤ c1) (c20 : 0 ≤ c2) (b1 : c1 = 0 → -999 ≤ n1 ∧ n1 ≤ 999) (b2 : c2 = 0 → -999 ≤ n2 ∧ n2 ≤ 999) : gp_I t 74 15 = 0 → ∀ y, PS (MP t) y → V9 y := fun h15 y hy => by
  rcases h with ⟨_, _, _, h⟩ | ⟨h, _⟩
  · rcases (h y).mp hy with q | q | q
    · exact GF_V gf c10 q
    · exact GF_V gg c20 q
    · rw [q]; exact frv_V c10 c20 b1 b2
  · exact absurd h15 h
def FRZ (OL OR v : Nat) (t : gH) (r : Int) : Prop := (r = 4 ∧ ¬ C60 (FRS OL OR v)) ∨ (r = 0 ∧ C60 (FRS OL OR v) ∧ GTM t 19 v)
theorem FRZ_of {t t2 : gH} {OL OR v : Nat} {res r : Int} (h : MDW t OL OR v res) (hv : gp_I t 74 15 = 0 → ∀ y, PS (MP t) y → V9 y) (gv : GVM t) (rs : RSW t t2 res r) : FRZ OL OR v t2 r := by
  rcases h with ⟨h1, h2, h3, h4⟩ | ⟨h1, h2⟩
  · have cc : C60 (FRS OL OR v) := ⟨val (MP t).2, fun y hy => by
      obtain ⟨k, k1, k2⟩ := (h4 y).mpr hy
      exact ⟨k, by have := gv.2.2; omega, k2⟩⟩
    rcases rs with ⟨q, _⟩ | ⟨_, rs⟩
    · exact absurd h1 q
    · rw [h3] at rs
      rcases rs with ⟨⟨f, n, f1, f2, f3⟩, _⟩ | ⟨_, r1, r2⟩
      · refine absurd (fun k hk => ?_) f3
        obtain ⟨m, hm⟩ := f1.2.2.2 k hk
        obtain ⟨k', q1, q2⟩ := rch_val m (n - 1) res.toNat k (f2.trans h3.symm) hm
        have l := rch_le _ _ _ q1
        exact V9_at (by rw [← q2]; exact hv h1 _ ⟨k', by omega, rfl⟩)
      · exact Or.inr ⟨r1, cc, r2⟩
  · rcases rs with ⟨_, q⟩ | ⟨q, _⟩
    · exact Or.inl ⟨q, h2⟩
    · exact absurd q h1
theorem frv_e {u : gH} {p c sh : Int} {a : R5} {f : Nat → Nat} (h : SDO u p c sh a) (g : GF u p c f) : (if a.2.2.1 = 0 then a.2.2.2.2 else 0) = (if opn f c.toNat = 0 then sh else 0) := by
  have e := SDO_v h g
  rcases h with ⟨h1, h2, h3⟩ | ⟨h1, _⟩
  · rw [← e, if_pos h2, if_pos h2, h3]
  · have q : ¬ opn f c.toNat = 0 := by
      rw [show c.toNat = (c.toNat - 1) + 1 by omega]
      exact opn_ne
    rw [e, if_neg q, if_neg q]
theorem ZF_1 {τ : Nat → Int} {n c1 n1 c2 n2 r : Int} {s u t2 t : gH} {f g : Nat → Nat} (h : ZK τ n s u c1 n1 c2 n2) (gf : GF u (gp_I s 74 42) c1 f) (gg : GF u (gp_I s 74 42 + c1) c2 g) (fz : FRZ (opn f c1.toNat) (opn g c2.toNat) (frv (opn f c1.toNat) (opn g c2.toNat) n1 n2) t2 r) (lt : gp_I t 74 43 = r) (at_ : gp_I t 74 38 = gp_I u 74 38) (ot : r = 0 → ok t) (gt : ∀ x, GTM t2 19 x → GTM t (Int.toNat (21 + gp_I s 74 42)) x) : ZW τ n 5 s t := fun o N q z f2 => by
  obtain ⟨a, b, fr, b1, b2, b3, b4⟩ := h o N q z f2
  have e1 := SDO_v b3 gf
  have e2 := SDO_v b4 gg
  have ev : frv a.2.2.1 b.2.2.1 a.2.2.2.2 b.2.2.2.2 = frv (opn f c1.toNat) (opn g c2.toNat) n1 n2 := by
    unfold frv
    rw [frv_e b3 gf, frv_e b4 gg, e1, e2]
  obtain ⟨_, _, _, fr⟩ := fr
  rw [ev, e1, e2] at fr
  rcases fr with ⟨q1, _⟩ | ⟨_, ⟨q1, q2, _⟩ | ⟨q1, q2, q3⟩⟩
  · exact absurd b1 q1
  · rcases fz with ⟨r1, _⟩ | ⟨_, r1, _⟩
    · exact Or.inr ⟨by omega, by omega⟩
    · exact absurd r1 q1
  · rcases fz with ⟨_, r1⟩ | ⟨r1, _, r2⟩
    · exact absurd q1 r1
    · exact Or.inl ⟨q2, ot r1, at_.trans b2, by rw [q3]; exact gt _ r2⟩
def UNZ (m : Nat) : Prop := ∀ (L D : Nat) (K : Option gV → gH → Prop) (s : gH) (τ : Nat → Int) (n : Int) , ((4 * m + 190 ≤ D)) → (MI s) → (TPn τ n s) → (2 * gp_I s 74 42 ≤ gp_I s 74 38) → (gp_I s 74 38 ≤ gp_I s 74 39) → (9 ≤ gp_I s 74 41 + m) → (PGM s) → (gp_I s 74 44 ≠ 0) → (∀ (t : gH), MI t → gF [76, 77, 78, 79, 80, 81, 86, 87, 88, 89, 105] [15, 38, 40, 41, 42, 43, 45] s t → (gp_I s 74 38 ≤ gp_I t 74 38 ∧ gp_I t 74 38 ≤ gp_I t 74 39) → (gp_I s 74 42 ≤ gp_I t 74 42 ∧ 2 * gp_I t 74 42 ≤ gp_I t 74 38 + 1) → (gp_I t 74 40 < 0 → gp_I s 74 40 < 0) → (gp_I t 74 43 = 0 → gp_I s 74 43 = 0) → (gp_I t 74 41 = gp_I s 74 41 ∧ gp_I t 74 44 = gp_I s 74 44) → (TPn τ n t) → (kq s t) → (gp_I t 74 40 < 0 → gp_I t 74 43 = 0 → gp_I t 74 42 = gp_I s 74 42 + 1) → (KQ s t) → (PGM t) → (gp_I s 74 43 ≠ 0 → gp_I t 74 43 = gp_I s 74 43) → (ZW τ n 0 s t) → K none t) → gs_C L D 3134 2 [gp_r (some 74)] s K
def EXZ (m : Nat) : Prop := ∀ (L D : Nat) (K : Option gV → gH → Prop) (s : gH) (τ : Nat → Int) (n : Int) , ((4 * m + 191 ≤ D)) → (MI s) → (TPn τ n s) → (2 * gp_I s 74 42 ≤ gp_I s 74 38) → (gp_I s 74 38 ≤ gp_I s 74 39) → (9 ≤ gp_I s 74 41 + m) → (PGM s) → (gp_I s 74 44 ≠ 0) → (∀ (t : gH), MI t → gF [76, 77, 78, 79, 80, 81, 86, 87, 88, 89, 105] [15, 38, 40, 41, 42, 43, 45] s t → (gp_I s 74 38 ≤ gp_I t 74 38 ∧ gp_I t 74 38 ≤ gp_I t 74 39) → (gp_I s 74 42 ≤ gp_I t 74 42 ∧ 2 * gp_I t 74 42 ≤ gp_I t 74 38 + 1) → (gp_I t 74 40 < 0 → gp_I s 74 40 < 0) → (gp_I t 74 43 = 0 → gp_I s 74 43 = 0) → (gp_I t 74 41 = gp_I s 74 41 ∧ gp_I t 74 44 = gp_I s 74 44) → (TPn τ n t) → (kq s t) → (gp_I t 74 40 < 0 → gp_I t 74 43 = 0 → gp_I t 74 42 = gp_I s 74 42 + 1) → (KQ s t) → (PGM t) → (gp_I s 74 43 ≠ 0 → gp_I t 74 43 = gp_I s 74 43) → (ZW τ n 1 s t) → K none t) → gs_C L D 3137 1 [gp_r (some 74)] s K
def SIZ (m : Nat) : Prop := ∀ (L D : Nat) (K : Option gV → gH → Prop) (s : gH) (τ : Nat → Int) (n : Int) , ((4 * m + 192 ≤ D)) → (MI s) → (TPn τ n s) → (2 * gp_I s 74 42 ≤ gp_I s 74 38) → (gp_I s 74 38 ≤ gp_I s 74 39) → (9 ≤ gp_I s 74 41 + m) → (PGM s) → (gp_I s 74 44 ≠ 0) → (∀ (r : Int), ∀ (t : gH), MI t → gF [76, 77, 78, 79, 80, 81, 86, 87, 88, 89, 105] [15, 38, 40, 41, 42, 43, 45] s t → (0 ≤ r ∧ r ≤ 101) → (gp_I s 74 38 ≤ gp_I t 74 38 ∧ gp_I t 74 38 ≤ gp_I t 74 39) → (gp_I s 74 42 ≤ gp_I t 74 42 ∧ 2 * gp_I t 74 42 ≤ gp_I t 74 38 + 1) → (gp_I t 74 40 < 0 → gp_I s 74 40 < 0) → (gp_I t 74 43 = 0 → gp_I s 74 43 = 0) → (gp_I t 74 41 = gp_I s 74 41 ∧ gp_I t 74 44 = gp_I s 74 44) → (TPn τ n t) → (kq s t) → (gp_I t 74 40 < 0 → gp_I t 74 43 = 0 → gp_I t 74 42 = gp_I s 74 42 + r) → (KQ s t) → (PGM t) → (gp_I s 74 43 ≠ 0 → gp_I t 74 43 = gp_I s 74 43) → (ZS τ n s t r) → (r = 0 → -999 ≤ gp_I t 74 45 ∧ gp_I t 74 45 ≤ 999) → K (some (gp_i r)) t) → gs_C L D 3135 3 [gp_r (some 74)] s K
def SSZ (m : Nat) : Prop := ∀ (L D : Nat) (K : Option gV → gH → Prop) (s : gH) (τ : Nat → Int) (n : Int) , ((4 * m + 193 ≤ D)) → (MI s) → (TPn τ n s) → (2 * gp_I s 74 42 ≤ gp_I s 74 38) → (gp_I s 74 38 ≤ gp_I s 74 39) → (9 ≤ gp_I s 74 41 + m) → (PGM s) → (gp_I s 74 44 ≠ 0) → (∀ (t : gH), MI t → gF [76, 77, 78, 79, 80, 81, 86, 87, 88, 89, 105] [15, 38, 40, 41, 42, 43, 45] s t → (gp_I s 74 38 ≤ gp_I t 74 38 ∧ gp_I t 74 38 ≤ gp_I t 74 39) → (gp_I s 74 42 ≤ gp_I t 74 42 ∧ 2 * gp_I t 74 42 ≤ gp_I t 74 38 + 1) → (gp_I t 74 40 < 0 → gp_I s 74 40 < 0) → (gp_I t 74 43 = 0 → gp_I s 74 43 = 0) → (gp_I t 74 41 = gp_I s 74 41 ∧ gp_I t 74 44 = gp_I s 74 44) → (TPn τ n t) → (kq s t) → (gp_I t 74 40 < 0 → gp_I t 74 43 = 0 → gp_I t 74 42 = gp_I s 74 42 + 1) → (KQ s t) → (PGM t) → (gp_I s 74 43 ≠ 0 → gp_I t 74 43 = gp_I s 74 43) → (ZW τ n 5 s t) → K none t) → gs_C L D 3136 11 [gp_r (some 74)] s K
set_option maxHeartbeats 12000000 in
set_option maxRecDepth 100000 in
/-- GatheredPointsModel.unit -/
theorem vm_unitV (m : Nat) (ihU : UNZ m) (ihB : SSZ m) : UNZ (m + 1) := by
  intro L D K s τ n hD hs q0 q1 q2 q3 q4 q5 k
  obtain ⟨d, rfl⟩ : ∃ d, D = d + 188 := ⟨D - 188, by omega⟩
  have f_1 := mr74_38 hs
  have f_2 := mr74_39 hs
  have f_3 := mr74_40 hs
  have f_4 := mr74_41 hs
  have f_5 := mr74_42 hs
  have f_6 := mr74_43 hs
  have f_7 := mr74_44 hs
  have f_8 := mr81 hs 19
  refine s_3134_e ?_
  have hkq0 := kq.refl s
  have hKq0 := KQ.refl s
  refine vm_goesOn hs (fun x_9 p_10 p_11 => ⟨_, rfl, ?_⟩)
  refine ⟨fun h_12 => ?_, fun h_12 => ?_⟩
  · exact k s hs (gF.refl _ _ _) (by first | omega | assumption) (by first | omega | assumption) (by first | omega | assumption) (by first | omega | assumption) (by first | omega | assumption) (q0) (hkq0) (by first | omega | assumption) (hKq0) (q4) (fun h9 => by omega) (ZW_n (fun o9 => by have := o9.1; have := o9.2.1; have := o9.2.2; omega))
  · refine vm_isDigit τ n hs (q0) (fun x_13 p_14 p_15 => ⟨_, rfl, ?_⟩)
    refine ⟨fun h_16 => ?_, fun h_16 => ?_⟩
    · have hb_17 := hasF p_15 h_16
      refine vm_takes τ n _ hs (by omega) (q0) (by first | omega | assumption) (fun x_18 s_19 hs_20 hf_21 p_22 p_23 p_24 => ⟨_, rfl, ?_⟩)
      have hf_25 : gF [76, 77, 78, 79, 80, 81, 86, 87, 88, 89, 105] [15, 38, 40, 41, 42, 43, 45] s s_19 := gF.sub hf_21 rfl rfl
      have pd_26 : TPn τ n s_19 := TP_fr q0 hf_21 rfl rfl
      have pd_27 : kq s s_19 := kq_fr hkq0 hf_21 rfl
      have pd_28 : KQ s s_19 := KQ_fr hKq0 hf_21 rfl rfl rfl rfl
      have pd_29 : PGM s_19 := PGM_fr q4 hf_21 rfl rfl rfl rfl rfl rfl rfl rfl rfl
      have q_30 := (hf_21.2 74 39 rfl (fun _ => rfl)).1
      have q_31 := (hf_21.2 74 40 rfl (fun _ => rfl)).1
      have q_32 := (hf_21.2 74 41 rfl (fun _ => rfl)).1
      have q_33 := (hf_21.2 74 42 rfl (fun _ => rfl)).1
      have q_34 := (hf_21.2 74 43 rfl (fun _ => rfl)).1
      have q_35 := (hf_21.2 74 44 rfl (fun _ => rfl)).1
      have q_36 := (hf_21.2 81 19 rfl (fun h => absurd h (by decide))).1
      refine ⟨fun h_37 => ?_, fun h_37 => ?_⟩
      · refine vm_byteAt τ n hs_20 (pd_26) (fun x_38 p_39 p_40 => ⟨_, rfl, ?_⟩)
        have hbs : bA τ n (gp_I s_19 74 38) = bA τ n (gp_I s 74 38) := by rw [show gp_I s_19 74 38 = gp_I s 74 38 by omega]
        have hb8 := @bA_m1 τ n (gp_I s_19 74 38)
        have he8 := (pd_26).2
        refine ⟨fun h_41 => ?_, fun h_41 => ?_⟩
        · refine s_3134_103 _ _ ?_
          refine ⟨fun h_42 => ?_, fun h_42 => ?_⟩
          · exfalso; omega
          · refine s_3134_117 _ ?_
            have f_43 := mr74_41 hs_20
            refine ⟨fun h_44 => ?_, fun h_44 => ?_⟩
            · refine s_3134_126 _ ?_
              refine vm_fails hs_20 (fun s_45 hs_46 hf_47 p_48 => ⟨rfl, ?_⟩)
              have hf_49 : gF [76, 77, 78, 79, 80, 81, 86, 87, 88, 89, 105] [15, 38, 40, 41, 42, 43, 45] s s_45 := gF.trans hf_25 hf_47 rfl rfl
              have pd_50 : TPn τ n s_45 := TP_fr pd_26 hf_47 rfl rfl
              have pd_51 : kq s s_45 := kq_fr pd_27 hf_47 rfl
              have pd_52 : KQ s s_45 := KQ_fr pd_28 hf_47 rfl rfl rfl rfl
              have q_53 := (hf_47.2 74 38 rfl (fun _ => rfl)).1
              have q_54 := (hf_47.2 74 39 rfl (fun _ => rfl)).1
              have q_55 := (hf_47.2 74 41 rfl (fun _ => rfl)).1
              have q_56 := (hf_47.2 74 42 rfl (fun _ => rfl)).1
              have q_57 := (hf_47.2 74 43 rfl (fun _ => rfl)).1
              have q_58 := (hf_47.2 74 44 rfl (fun _ => rfl)).1
              have q_59 := (hf_47.2 81 19 rfl (fun h => absurd h (by decide))).1
              have hPG9 : PGM s_45 := fun o9 => absurd o9.2.1 (by omega)
              have hZ9 : ZW τ n 0 s s_45 := ZW_b (by omega) (by omega) (by omega) (by omega)
              exact k s_45 hs_46 hf_49 (by first | omega | assumption) (by first | omega | assumption) (by first | omega | assumption) (by first | omega | assumption) (by first | omega | assumption) (pd_50) (pd_51) (by first | omega | assumption) (pd_52) (hPG9) (fun h9 => by omega) (hZ9)
            · have f_60 := mr74_38 hs_20
              try rw [show gp_wr ((gp_I s_19 74 38) + 1) = (gp_I s_19 74 38) + 1 from gp_wr_id (by omega) (by omega)]
              intro s_61 e_62
              have hs_63 : MI s_61 := by rw [e_62]; exact mw74_38 hs_20 _ (by omega)
              have hf_64 : gF [76, 77, 78, 79, 80, 81, 86, 87, 88, 89, 105] [15, 38, 40, 41, 42, 43, 45] s s_61 := by rw [e_62]; exact gF.wI hf_25 (Or.inr ⟨rfl, rfl⟩)
              have q_65 : gp_I s_61 74 38 = (gp_I s_19 74 38) + 1 := by rw [e_62]; exact (gz_rw _ _ _ _ _).1 rfl
              have q_66 : gp_I s_61 74 39 = gp_I s_19 74 39 := by rw [e_62] <;> rfl
              have q_67 : gp_I s_61 74 40 = gp_I s_19 74 40 := by rw [e_62] <;> rfl
              have q_68 : gp_I s_61 74 41 = gp_I s_19 74 41 := by rw [e_62] <;> rfl
              have q_69 : gp_I s_61 74 42 = gp_I s_19 74 42 := by rw [e_62] <;> rfl
              have q_70 : gp_I s_61 74 43 = gp_I s_19 74 43 := by rw [e_62] <;> rfl
              have q_71 : gp_I s_61 74 44 = gp_I s_19 74 44 := by rw [e_62] <;> rfl
              have q_72 : gp_I s_61 81 19 = gp_I s_19 81 19 := by rw [e_62] <;> rfl
              have pd_73 : TPn τ n s_61 := by rw [e_62]; exact TP_fr pd_26 (gF.wI (gF.refl [] [38] _) (Or.inr ⟨rfl, rfl⟩)) rfl rfl
              have pd_74 : kq s s_61 := by rw [e_62]; exact kq_fr pd_27 (gF.wI (gF.refl [] [38] _) (Or.inr ⟨rfl, rfl⟩)) rfl
              have pd_75 : KQ s s_61 := by rw [e_62]; exact KQ_fr pd_28 (gF.wI (gF.refl [] [38] _) (Or.inr ⟨rfl, rfl⟩)) rfl rfl rfl rfl
              have pd_76 : PGM s_61 := by rw [e_62]; exact PGM_fr pd_29 (gF.wI (gF.refl [] [38] _) (Or.inr ⟨rfl, rfl⟩)) rfl rfl rfl rfl rfl rfl rfl rfl rfl
              have f_77 := mr74_41 hs_63
              try rw [show gp_wr ((gp_I s_61 74 41) + 1) = (gp_I s_61 74 41) + 1 from gp_wr_id (by omega) (by omega)]
              intro s_78 e_79
              have hs_80 : MI s_78 := by rw [e_79]; exact mw74_41 hs_63 _ (by omega)
              have hf_81 : gF [76, 77, 78, 79, 80, 81, 86, 87, 88, 89, 105] [15, 38, 40, 41, 42, 43, 45] s s_78 := by rw [e_79]; exact gF.wI hf_64 (Or.inr ⟨rfl, rfl⟩)
              have q_82 : gp_I s_78 74 38 = gp_I s_61 74 38 := by rw [e_79] <;> rfl
              have q_83 : gp_I s_78 74 39 = gp_I s_61 74 39 := by rw [e_79] <;> rfl
              have q_84 : gp_I s_78 74 40 = gp_I s_61 74 40 := by rw [e_79] <;> rfl
              have q_85 : gp_I s_78 74 41 = (gp_I s_61 74 41) + 1 := by rw [e_79]; exact (gz_rw _ _ _ _ _).1 rfl
              have q_86 : gp_I s_78 74 42 = gp_I s_61 74 42 := by rw [e_79] <;> rfl
              have q_87 : gp_I s_78 74 43 = gp_I s_61 74 43 := by rw [e_79] <;> rfl
              have q_88 : gp_I s_78 74 44 = gp_I s_61 74 44 := by rw [e_79] <;> rfl
              have q_89 : gp_I s_78 81 19 = gp_I s_61 81 19 := by rw [e_79] <;> rfl
              have pd_90 : TPn τ n s_78 := by rw [e_79]; exact TP_fr pd_73 (gF.wI (gF.refl [] [41] _) (Or.inr ⟨rfl, rfl⟩)) rfl rfl
              have pd_91 : kq s s_78 := by rw [e_79]; exact kq_fr pd_74 (gF.wI (gF.refl [] [41] _) (Or.inr ⟨rfl, rfl⟩)) rfl
              have pd_92 : KQ s s_78 := by rw [e_79]; exact KQ_fr pd_75 (gF.wI (gF.refl [] [41] _) (Or.inr ⟨rfl, rfl⟩)) rfl rfl rfl rfl
              have pd_93 : PGM s_78 := by rw [e_79]; exact PGM_fr pd_76 (gF.wI (gF.refl [] [41] _) (Or.inr ⟨rfl, rfl⟩)) rfl rfl rfl rfl rfl rfl rfl rfl rfl
              refine ⟨fun h_94 => ?_, fun h_94 => ?_⟩
              · exfalso; omega
              · have hk155 := pd_91
                have hK155 := pd_92
                refine ihU _ _ _ _ τ n (by omega) hs_80 (pd_90) (by first | omega | assumption) (by first | omega | assumption) (by first | omega | assumption) (pd_93) (by first | omega | assumption) (fun s_95 hs_96 hf_97 p_98 p_99 p_100 p_101 p_102 p_103 p_104 p_105 p_106 p_107 p_108 p_109 => ⟨rfl, ?_⟩)
                have hf_110 : gF [76, 77, 78, 79, 80, 81, 86, 87, 88, 89, 105] [15, 38, 40, 41, 42, 43, 45] s s_95 := gF.trans hf_81 hf_97 rfl rfl
                have q_111 := (hf_97.2 74 39 rfl (fun _ => rfl)).1
                have q_112 := (hf_97.2 74 44 rfl (fun _ => rfl)).1
                have hk159 : kq s s_95 := kq.trans hk155 p_104 (by omega)
                have hK159 : KQ s s_95 := KQ_t hK155 p_106 (by omega)
                have hzw := p_109
                have f_113 := mr74_44 hs_96
                refine ⟨fun h_114 => ?_, fun h_114 => ?_⟩
                · exfalso; omega
                · refine vm_goesOn hs_96 (fun x_115 p_116 p_117 => ⟨_, rfl, ?_⟩)
                  refine ⟨fun h_118 => ?_, fun h_118 => ?_⟩
                  · refine s_3134_207 _ ?_
                    have hk207 : kq s s_95 := by first | exact hk159 | exact kq.trans hk203 p_104 (by omega)
                    have hK207 : KQ s s_95 := by first | exact hK159 | exact KQ_t hK203 p_106 (by omega)
                    have hzw := p_109
                    have f_119 := mr74_41 hs_96
                    try rw [show gp_wr ((gp_I s_95 74 41) - 1) = (gp_I s_95 74 41) - 1 from gp_wr_id (by omega) (by omega)]
                    intro s_120 e_121
                    have hs_122 : MI s_120 := by rw [e_121]; exact mw74_41 hs_96 _ (by omega)
                    have hf_123 : gF [76, 77, 78, 79, 80, 81, 86, 87, 88, 89, 105] [15, 38, 40, 41, 42, 43, 45] s s_120 := by rw [e_121]; exact gF.wI hf_110 (Or.inr ⟨rfl, rfl⟩)
                    have q_124 : gp_I s_120 74 38 = gp_I s_95 74 38 := by rw [e_121] <;> rfl
                    have q_125 : gp_I s_120 74 39 = gp_I s_95 74 39 := by rw [e_121] <;> rfl
                    have q_126 : gp_I s_120 74 40 = gp_I s_95 74 40 := by rw [e_121] <;> rfl
                    have q_127 : gp_I s_120 74 41 = (gp_I s_95 74 41) - 1 := by rw [e_121]; exact (gz_rw _ _ _ _ _).1 rfl
                    have q_128 : gp_I s_120 74 42 = gp_I s_95 74 42 := by rw [e_121] <;> rfl
                    have q_129 : gp_I s_120 74 43 = gp_I s_95 74 43 := by rw [e_121] <;> rfl
                    have q_130 : gp_I s_120 74 44 = gp_I s_95 74 44 := by rw [e_121] <;> rfl
                    have q_131 : gp_I s_120 81 19 = gp_I s_95 81 19 := by rw [e_121] <;> rfl
                    have pd_132 : TPn τ n s_120 := by rw [e_121]; exact TP_fr p_103 (gF.wI (gF.refl [] [41] _) (Or.inr ⟨rfl, rfl⟩)) rfl rfl
                    have pd_133 : kq s s_120 := by rw [e_121]; exact kq_fr hk207 (gF.wI (gF.refl [] [41] _) (Or.inr ⟨rfl, rfl⟩)) rfl
                    have pd_134 : KQ s s_120 := by rw [e_121]; exact KQ_fr hK207 (gF.wI (gF.refl [] [41] _) (Or.inr ⟨rfl, rfl⟩)) rfl rfl rfl rfl
                    have pd_135 : PGM s_120 := by rw [e_121]; exact PGM_fr p_107 (gF.wI (gF.refl [] [41] _) (Or.inr ⟨rfl, rfl⟩)) rfl rfl rfl rfl rfl rfl rfl rfl rfl
                    exact k s_120 hs_122 hf_123 (by first | omega | assumption) (by first | omega | assumption) (by first | omega | assumption) (by first | omega | assumption) (by first | omega | assumption) (pd_132) (pd_133) (by first | omega | assumption) (pd_134) (pd_135) (fun h9 => by omega) (by first | exact ZW_m0 (by omega) (by omega) (by omega) (by omega) (okI (by omega) (by omega) (by omega)) hzw (by omega) (by omega) | exact ZW_m1 (by omega) (by omega) (by omega) (by omega) (by omega) (okI (by omega) (by omega) (by omega)) hzw (by omega) (fun x9 h9 => by obtain ⟨z9, a9, b9⟩ := hG200 x9 h9; exact ⟨z9, a9, by rw [‹s_120 = gp_wI _ 74 41 _›]; exact b9⟩) (okI (by omega) (by omega) (by omega)) (by omega) | exact ZW_s (by omega) (by omega) (by omega) (by omega) (by omega) (okI (by omega) (by omega) (by omega)) hzw (fun o => okI (by have := o.1; omega) (by have := o.2.1; omega) (by have := o.2.2; omega)) (by omega) (by omega) (fun x9 h9 => by rw [‹s_120 = gp_wI _ 74 41 _›]; exact h9))
                  · have f_136 := mr74_42 hs_96
                    try rw [show gp_wr (21 + (gp_I s_95 74 42)) = 21 + (gp_I s_95 74 42) from gp_wr_id (by omega) (by omega)]
                    try rw [show gp_wr ((21 + (gp_I s_95 74 42)) - 1) = (21 + (gp_I s_95 74 42)) - 1 from gp_wr_id (by omega) (by omega)]
                    obtain ⟨x9, hpg9⟩ := p_107 (okI (by omega) (by omega) (by omega)) (Int.toNat ((21 + (gp_I s_95 74 42)) - 1)) (by omega) (by omega)
                    have hpi9 := GTM_1 hpg9
                    refine vm_negatesV _ hs_96 (by omega) (by first | omega | assumption) (by first | omega | assumption) (⟨_, hpg9⟩) (fun s_137 hs_138 hf_139 p_140 p_141 p_142 p_143 p_144 => ⟨rfl, ?_⟩)
                    have hf_145 : gF [76, 77, 78, 79, 80, 81, 86, 87, 88, 89, 105] [15, 38, 40, 41, 42, 43, 45] s s_137 := gF.trans hf_110 hf_139 rfl rfl
                    have pd_146 : TPn τ n s_137 := TP_fr p_103 hf_139 rfl rfl
                    have q_147 := (hf_139.2 74 38 rfl (fun _ => rfl)).1
                    have q_148 := (hf_139.2 74 39 rfl (fun _ => rfl)).1
                    have q_149 := (hf_139.2 74 40 rfl (fun _ => rfl)).1
                    have q_150 := (hf_139.2 74 41 rfl (fun _ => rfl)).1
                    have q_151 := (hf_139.2 74 42 rfl (fun _ => rfl)).1
                    have q_152 := (hf_139.2 74 43 rfl (fun _ => rfl)).1
                    have q_153 := (hf_139.2 74 44 rfl (fun _ => rfl)).1
                    have hk186 : kq s s_137 := kq_K hk159 p_141
                    have hK186 : KQ s s_137 := KQ_c hK159 p_144
                    have hNG := p_143
                    have f_154 := mr74_42 hs_138
                    try rw [show gp_wr ((gp_I s_137 74 42) - 1) = (gp_I s_137 74 42) - 1 from gp_wr_id (by omega) (by omega)]
                    intro s_155 e_156
                    have hs_157 : MI s_155 := by rw [e_156]; exact mw74_42 hs_138 _ (by omega)
                    have hf_158 : gF [76, 77, 78, 79, 80, 81, 86, 87, 88, 89, 105] [15, 38, 40, 41, 42, 43, 45] s s_155 := by rw [e_156]; exact gF.wI hf_145 (Or.inr ⟨rfl, rfl⟩)
                    have q_159 : gp_I s_155 74 38 = gp_I s_137 74 38 := by rw [e_156] <;> rfl
                    have q_160 : gp_I s_155 74 39 = gp_I s_137 74 39 := by rw [e_156] <;> rfl
                    have q_161 : gp_I s_155 74 40 = gp_I s_137 74 40 := by rw [e_156] <;> rfl
                    have q_162 : gp_I s_155 74 41 = gp_I s_137 74 41 := by rw [e_156] <;> rfl
                    have q_163 : gp_I s_155 74 42 = (gp_I s_137 74 42) - 1 := by rw [e_156]; exact (gz_rw _ _ _ _ _).1 rfl
                    have q_164 : gp_I s_155 74 43 = gp_I s_137 74 43 := by rw [e_156] <;> rfl
                    have q_165 : gp_I s_155 74 44 = gp_I s_137 74 44 := by rw [e_156] <;> rfl
                    have q_166 : gp_I s_155 81 19 = gp_I s_137 81 19 := by rw [e_156] <;> rfl
                    have pd_167 : TPn τ n s_155 := by rw [e_156]; exact TP_fr pd_146 (gF.wI (gF.refl [] [42] _) (Or.inr ⟨rfl, rfl⟩)) rfl rfl
                    have pd_168 : kq s s_155 := by rw [e_156]; exact kq_fr hk186 (gF.wI (gF.refl [] [42] _) (Or.inr ⟨rfl, rfl⟩)) rfl
                    have pd_169 : KQ s s_155 := by rw [e_156]; exact KQ_fr hK186 (gF.wI (gF.refl [] [42] _) (Or.inr ⟨rfl, rfl⟩)) rfl rfl rfl rfl
                    have hk197 := pd_168
                    have hK197 := pd_169
                    have hNG2 : ∀ x, GTM s_95 (Int.toNat (21 + gp_I s 74 42)) x → ∃ z, NGV x z ∧ GTM s_155 19 z := fun x h9 => by have h8 := hNG x (GTM_i h9 (by omega)); rw [‹s_155 = gp_wI s_137 74 42 _›]; exact h8
                    refine vm_pilesV hs_157 (by first | omega | assumption) (fun s_170 hs_171 hf_172 p_173 p_174 p_175 p_176 p_177 => ⟨rfl, ?_⟩)
                    have hf_178 : gF [76, 77, 78, 79, 80, 81, 86, 87, 88, 89, 105] [15, 38, 40, 41, 42, 43, 45] s s_170 := gF.trans hf_158 hf_172 rfl rfl
                    have pd_179 : TPn τ n s_170 := TP_fr pd_167 hf_172 rfl rfl
                    have q_180 := (hf_172.2 74 38 rfl (fun _ => rfl)).1
                    have q_181 := (hf_172.2 74 39 rfl (fun _ => rfl)).1
                    have q_182 := (hf_172.2 74 40 rfl (fun _ => rfl)).1
                    have q_183 := (hf_172.2 74 41 rfl (fun _ => rfl)).1
                    have q_184 := (hf_172.2 74 43 rfl (fun _ => rfl)).1
                    have q_185 := (hf_172.2 74 44 rfl (fun _ => rfl)).1
                    have hk200 : kq s s_170 := kq_p hk197 p_174 (by omega)
                    have hK200 : KQ s s_170 := KQ_p hK197 p_177 (by omega)
                    have hpl := p_176
                    have hG200 : ∀ x, GTM s_95 (Int.toNat (21 + gp_I s 74 42)) x → ∃ z, NGV x z ∧ GTM s_170 (Int.toNat (21 + gp_I s 74 42)) z := fun x h9 => by obtain ⟨z9, a9, b9⟩ := hNG2 x h9; exact ⟨z9, a9, GTM_i (hpl z9 b9) (by omega)⟩
                    have hPG9 : PGM s_170 := PGM_q q4 hk200 hK200 (fun o => okI (by have := o.1; omega) (by have := o.2.1; omega) (by have := o.2.2; omega)) (fun o9 => by have := o9.1; have := o9.2.1; have := o9.2.2; omega) (fun o9 e9 => by obtain ⟨z9, _, h8⟩ := hG200 x9 (GTM_i hpg9 (by omega)); exact ⟨z9, h8⟩)
                    refine s_3134_207 _ ?_
                    have hk207 : kq s s_170 := by first | exact hk200 | exact kq.trans hk203 p_104 (by omega)
                    have hK207 : KQ s s_170 := by first | exact hK200 | exact KQ_t hK203 p_106 (by omega)
                    have hzw := p_109
                    have f_186 := mr74_41 hs_171
                    try rw [show gp_wr ((gp_I s_170 74 41) - 1) = (gp_I s_170 74 41) - 1 from gp_wr_id (by omega) (by omega)]
                    intro s_187 e_188
                    have hs_189 : MI s_187 := by rw [e_188]; exact mw74_41 hs_171 _ (by omega)
                    have hf_190 : gF [76, 77, 78, 79, 80, 81, 86, 87, 88, 89, 105] [15, 38, 40, 41, 42, 43, 45] s s_187 := by rw [e_188]; exact gF.wI hf_178 (Or.inr ⟨rfl, rfl⟩)
                    have q_191 : gp_I s_187 74 38 = gp_I s_170 74 38 := by rw [e_188] <;> rfl
                    have q_192 : gp_I s_187 74 39 = gp_I s_170 74 39 := by rw [e_188] <;> rfl
                    have q_193 : gp_I s_187 74 40 = gp_I s_170 74 40 := by rw [e_188] <;> rfl
                    have q_194 : gp_I s_187 74 41 = (gp_I s_170 74 41) - 1 := by rw [e_188]; exact (gz_rw _ _ _ _ _).1 rfl
                    have q_195 : gp_I s_187 74 42 = gp_I s_170 74 42 := by rw [e_188] <;> rfl
                    have q_196 : gp_I s_187 74 43 = gp_I s_170 74 43 := by rw [e_188] <;> rfl
                    have q_197 : gp_I s_187 74 44 = gp_I s_170 74 44 := by rw [e_188] <;> rfl
                    have q_198 : gp_I s_187 81 19 = gp_I s_170 81 19 := by rw [e_188] <;> rfl
                    have pd_199 : TPn τ n s_187 := by rw [e_188]; exact TP_fr pd_179 (gF.wI (gF.refl [] [41] _) (Or.inr ⟨rfl, rfl⟩)) rfl rfl
                    have pd_200 : kq s s_187 := by rw [e_188]; exact kq_fr hk207 (gF.wI (gF.refl [] [41] _) (Or.inr ⟨rfl, rfl⟩)) rfl
                    have pd_201 : KQ s s_187 := by rw [e_188]; exact KQ_fr hK207 (gF.wI (gF.refl [] [41] _) (Or.inr ⟨rfl, rfl⟩)) rfl rfl rfl rfl
                    have pd_202 : PGM s_187 := by rw [e_188]; exact PGM_fr hPG9 (gF.wI (gF.refl [] [41] _) (Or.inr ⟨rfl, rfl⟩)) rfl rfl rfl rfl rfl rfl rfl rfl rfl
                    exact k s_187 hs_189 hf_190 (by first | omega | assumption) (by first | omega | assumption) (by first | omega | assumption) (by first | omega | assumption) (by first | omega | assumption) (pd_199) (pd_200) (by first | omega | assumption) (pd_201) (pd_202) (fun h9 => by omega) (by first | exact ZW_m0 (by omega) (by omega) (by omega) (by omega) (okI (by omega) (by omega) (by omega)) hzw (by omega) (by omega) | exact ZW_m1 (by omega) (by omega) (by omega) (by omega) (by omega) (okI (by omega) (by omega) (by omega)) hzw (by omega) (fun x9 h9 => by obtain ⟨z9, a9, b9⟩ := hG200 x9 h9; exact ⟨z9, a9, by rw [‹s_187 = gp_wI _ 74 41 _›]; exact b9⟩) (okI (by omega) (by omega) (by omega)) (by omega) | exact ZW_s (by omega) (by omega) (by omega) (by omega) (by omega) (okI (by omega) (by omega) (by omega)) hzw (fun o => okI (by have := o.1; omega) (by have := o.2.1; omega) (by have := o.2.2; omega)) (by omega) (by omega) (fun x9 h9 => by rw [‹s_187 = gp_wI _ 74 41 _›]; exact h9))
        · refine s_3134_103 _ _ ?_
          refine ⟨fun h_203 => ?_, fun h_203 => ?_⟩
          · refine vm_byteAt τ n hs_20 (pd_26) (fun x_204 p_205 p_206 => ⟨_, rfl, ?_⟩)
            refine ⟨fun h_207 => ?_, fun h_207 => ?_⟩
            · refine s_3134_117 _ ?_
              have f_208 := mr74_41 hs_20
              refine ⟨fun h_209 => ?_, fun h_209 => ?_⟩
              · refine s_3134_126 _ ?_
                refine vm_fails hs_20 (fun s_210 hs_211 hf_212 p_213 => ⟨rfl, ?_⟩)
                have hf_214 : gF [76, 77, 78, 79, 80, 81, 86, 87, 88, 89, 105] [15, 38, 40, 41, 42, 43, 45] s s_210 := gF.trans hf_25 hf_212 rfl rfl
                have pd_215 : TPn τ n s_210 := TP_fr pd_26 hf_212 rfl rfl
                have pd_216 : kq s s_210 := kq_fr pd_27 hf_212 rfl
                have pd_217 : KQ s s_210 := KQ_fr pd_28 hf_212 rfl rfl rfl rfl
                have q_218 := (hf_212.2 74 38 rfl (fun _ => rfl)).1
                have q_219 := (hf_212.2 74 39 rfl (fun _ => rfl)).1
                have q_220 := (hf_212.2 74 41 rfl (fun _ => rfl)).1
                have q_221 := (hf_212.2 74 42 rfl (fun _ => rfl)).1
                have q_222 := (hf_212.2 74 43 rfl (fun _ => rfl)).1
                have q_223 := (hf_212.2 74 44 rfl (fun _ => rfl)).1
                have q_224 := (hf_212.2 81 19 rfl (fun h => absurd h (by decide))).1
                have hPG9 : PGM s_210 := fun o9 => absurd o9.2.1 (by omega)
                have hZ9 : ZW τ n 0 s s_210 := ZW_b (by omega) (by omega) (by omega) (by omega)
                exact k s_210 hs_211 hf_214 (by first | omega | assumption) (by first | omega | assumption) (by first | omega | assumption) (by first | omega | assumption) (by first | omega | assumption) (pd_215) (pd_216) (by first | omega | assumption) (pd_217) (hPG9) (fun h9 => by omega) (hZ9)
              · have f_225 := mr74_38 hs_20
                try rw [show gp_wr ((gp_I s_19 74 38) + 1) = (gp_I s_19 74 38) + 1 from gp_wr_id (by omega) (by omega)]
                intro s_226 e_227
                have hs_228 : MI s_226 := by rw [e_227]; exact mw74_38 hs_20 _ (by omega)
                have hf_229 : gF [76, 77, 78, 79, 80, 81, 86, 87, 88, 89, 105] [15, 38, 40, 41, 42, 43, 45] s s_226 := by rw [e_227]; exact gF.wI hf_25 (Or.inr ⟨rfl, rfl⟩)
                have q_230 : gp_I s_226 74 38 = (gp_I s_19 74 38) + 1 := by rw [e_227]; exact (gz_rw _ _ _ _ _).1 rfl
                have q_231 : gp_I s_226 74 39 = gp_I s_19 74 39 := by rw [e_227] <;> rfl
                have q_232 : gp_I s_226 74 40 = gp_I s_19 74 40 := by rw [e_227] <;> rfl
                have q_233 : gp_I s_226 74 41 = gp_I s_19 74 41 := by rw [e_227] <;> rfl
                have q_234 : gp_I s_226 74 42 = gp_I s_19 74 42 := by rw [e_227] <;> rfl
                have q_235 : gp_I s_226 74 43 = gp_I s_19 74 43 := by rw [e_227] <;> rfl
                have q_236 : gp_I s_226 74 44 = gp_I s_19 74 44 := by rw [e_227] <;> rfl
                have q_237 : gp_I s_226 81 19 = gp_I s_19 81 19 := by rw [e_227] <;> rfl
                have pd_238 : TPn τ n s_226 := by rw [e_227]; exact TP_fr pd_26 (gF.wI (gF.refl [] [38] _) (Or.inr ⟨rfl, rfl⟩)) rfl rfl
                have pd_239 : kq s s_226 := by rw [e_227]; exact kq_fr pd_27 (gF.wI (gF.refl [] [38] _) (Or.inr ⟨rfl, rfl⟩)) rfl
                have pd_240 : KQ s s_226 := by rw [e_227]; exact KQ_fr pd_28 (gF.wI (gF.refl [] [38] _) (Or.inr ⟨rfl, rfl⟩)) rfl rfl rfl rfl
                have pd_241 : PGM s_226 := by rw [e_227]; exact PGM_fr pd_29 (gF.wI (gF.refl [] [38] _) (Or.inr ⟨rfl, rfl⟩)) rfl rfl rfl rfl rfl rfl rfl rfl rfl
                have f_242 := mr74_41 hs_228
                try rw [show gp_wr ((gp_I s_226 74 41) + 1) = (gp_I s_226 74 41) + 1 from gp_wr_id (by omega) (by omega)]
                intro s_243 e_244
                have hs_245 : MI s_243 := by rw [e_244]; exact mw74_41 hs_228 _ (by omega)
                have hf_246 : gF [76, 77, 78, 79, 80, 81, 86, 87, 88, 89, 105] [15, 38, 40, 41, 42, 43, 45] s s_243 := by rw [e_244]; exact gF.wI hf_229 (Or.inr ⟨rfl, rfl⟩)
                have q_247 : gp_I s_243 74 38 = gp_I s_226 74 38 := by rw [e_244] <;> rfl
                have q_248 : gp_I s_243 74 39 = gp_I s_226 74 39 := by rw [e_244] <;> rfl
                have q_249 : gp_I s_243 74 40 = gp_I s_226 74 40 := by rw [e_244] <;> rfl
                have q_250 : gp_I s_243 74 41 = (gp_I s_226 74 41) + 1 := by rw [e_244]; exact (gz_rw _ _ _ _ _).1 rfl
                have q_251 : gp_I s_243 74 42 = gp_I s_226 74 42 := by rw [e_244] <;> rfl
                have q_252 : gp_I s_243 74 43 = gp_I s_226 74 43 := by rw [e_244] <;> rfl
                have q_253 : gp_I s_243 74 44 = gp_I s_226 74 44 := by rw [e_244] <;> rfl
                have q_254 : gp_I s_243 81 19 = gp_I s_226 81 19 := by rw [e_244] <;> rfl
                have pd_255 : TPn τ n s_243 := by rw [e_244]; exact TP_fr pd_238 (gF.wI (gF.refl [] [41] _) (Or.inr ⟨rfl, rfl⟩)) rfl rfl
                have pd_256 : kq s s_243 := by rw [e_244]; exact kq_fr pd_239 (gF.wI (gF.refl [] [41] _) (Or.inr ⟨rfl, rfl⟩)) rfl
                have pd_257 : KQ s s_243 := by rw [e_244]; exact KQ_fr pd_240 (gF.wI (gF.refl [] [41] _) (Or.inr ⟨rfl, rfl⟩)) rfl rfl rfl rfl
                have pd_258 : PGM s_243 := by rw [e_244]; exact PGM_fr pd_241 (gF.wI (gF.refl [] [41] _) (Or.inr ⟨rfl, rfl⟩)) rfl rfl rfl rfl rfl rfl rfl rfl rfl
                refine ⟨fun h_259 => ?_, fun h_259 => ?_⟩
                · have hk203 := pd_256
                  have hK203 := pd_257
                  refine ihB _ _ _ _ τ n (by omega) hs_245 (pd_255) (by first | omega | assumption) (by first | omega | assumption) (by first | omega | assumption) (pd_258) (by first | omega | assumption) (fun s_260 hs_261 hf_262 p_263 p_264 p_265 p_266 p_267 p_268 p_269 p_270 p_271 p_272 p_273 p_274 => ⟨rfl, ?_⟩)
                  have hf_275 : gF [76, 77, 78, 79, 80, 81, 86, 87, 88, 89, 105] [15, 38, 40, 41, 42, 43, 45] s s_260 := gF.trans hf_246 hf_262 rfl rfl
                  have q_276 := (hf_262.2 74 39 rfl (fun _ => rfl)).1
                  have q_277 := (hf_262.2 74 44 rfl (fun _ => rfl)).1
                  refine s_3134_207 _ ?_
                  have hk207 : kq s s_260 := by first | exact (by assumption) | exact kq.trans hk203 p_269 (by omega)
                  have hK207 : KQ s s_260 := by first | exact (by assumption) | exact KQ_t hK203 p_271 (by omega)
                  have hzw := p_274
                  have f_278 := mr74_41 hs_261
                  try rw [show gp_wr ((gp_I s_260 74 41) - 1) = (gp_I s_260 74 41) - 1 from gp_wr_id (by omega) (by omega)]
                  intro s_279 e_280
                  have hs_281 : MI s_279 := by rw [e_280]; exact mw74_41 hs_261 _ (by omega)
                  have hf_282 : gF [76, 77, 78, 79, 80, 81, 86, 87, 88, 89, 105] [15, 38, 40, 41, 42, 43, 45] s s_279 := by rw [e_280]; exact gF.wI hf_275 (Or.inr ⟨rfl, rfl⟩)
                  have q_283 : gp_I s_279 74 38 = gp_I s_260 74 38 := by rw [e_280] <;> rfl
                  have q_284 : gp_I s_279 74 39 = gp_I s_260 74 39 := by rw [e_280] <;> rfl
                  have q_285 : gp_I s_279 74 40 = gp_I s_260 74 40 := by rw [e_280] <;> rfl
                  have q_286 : gp_I s_279 74 41 = (gp_I s_260 74 41) - 1 := by rw [e_280]; exact (gz_rw _ _ _ _ _).1 rfl
                  have q_287 : gp_I s_279 74 42 = gp_I s_260 74 42 := by rw [e_280] <;> rfl
                  have q_288 : gp_I s_279 74 43 = gp_I s_260 74 43 := by rw [e_280] <;> rfl
                  have q_289 : gp_I s_279 74 44 = gp_I s_260 74 44 := by rw [e_280] <;> rfl
                  have q_290 : gp_I s_279 81 19 = gp_I s_260 81 19 := by rw [e_280] <;> rfl
                  have pd_291 : TPn τ n s_279 := by rw [e_280]; exact TP_fr p_268 (gF.wI (gF.refl [] [41] _) (Or.inr ⟨rfl, rfl⟩)) rfl rfl
                  have pd_292 : kq s s_279 := by rw [e_280]; exact kq_fr hk207 (gF.wI (gF.refl [] [41] _) (Or.inr ⟨rfl, rfl⟩)) rfl
                  have pd_293 : KQ s s_279 := by rw [e_280]; exact KQ_fr hK207 (gF.wI (gF.refl [] [41] _) (Or.inr ⟨rfl, rfl⟩)) rfl rfl rfl rfl
                  have pd_294 : PGM s_279 := by rw [e_280]; exact PGM_fr p_272 (gF.wI (gF.refl [] [41] _) (Or.inr ⟨rfl, rfl⟩)) rfl rfl rfl rfl rfl rfl rfl rfl rfl
                  exact k s_279 hs_281 hf_282 (by first | omega | assumption) (by first | omega | assumption) (by first | omega | assumption) (by first | omega | assumption) (by first | omega | assumption) (pd_291) (pd_292) (by first | omega | assumption) (pd_293) (pd_294) (fun h9 => by omega) (by first | exact ZW_m0 (by omega) (by omega) (by omega) (by omega) (okI (by omega) (by omega) (by omega)) hzw (by omega) (by omega) | exact ZW_m1 (by omega) (by omega) (by omega) (by omega) (by omega) (okI (by omega) (by omega) (by omega)) hzw (by omega) (fun x9 h9 => by obtain ⟨z9, a9, b9⟩ := hG200 x9 h9; exact ⟨z9, a9, by rw [‹s_279 = gp_wI _ 74 41 _›]; exact b9⟩) (okI (by omega) (by omega) (by omega)) (by omega) | exact ZW_s (by omega) (by omega) (by omega) (by omega) (by omega) (okI (by omega) (by omega) (by omega)) hzw (fun o => okI (by have := o.1; omega) (by have := o.2.1; omega) (by have := o.2.2; omega)) (by omega) (by omega) (fun x9 h9 => by rw [‹s_279 = gp_wI _ 74 41 _›]; exact h9))
                · exfalso; omega
            · refine s_3134_126 _ ?_
              refine vm_fails hs_20 (fun s_295 hs_296 hf_297 p_298 => ⟨rfl, ?_⟩)
              have hf_299 : gF [76, 77, 78, 79, 80, 81, 86, 87, 88, 89, 105] [15, 38, 40, 41, 42, 43, 45] s s_295 := gF.trans hf_25 hf_297 rfl rfl
              have pd_300 : TPn τ n s_295 := TP_fr pd_26 hf_297 rfl rfl
              have pd_301 : kq s s_295 := kq_fr pd_27 hf_297 rfl
              have pd_302 : KQ s s_295 := KQ_fr pd_28 hf_297 rfl rfl rfl rfl
              have q_303 := (hf_297.2 74 38 rfl (fun _ => rfl)).1
              have q_304 := (hf_297.2 74 39 rfl (fun _ => rfl)).1
              have q_305 := (hf_297.2 74 41 rfl (fun _ => rfl)).1
              have q_306 := (hf_297.2 74 42 rfl (fun _ => rfl)).1
              have q_307 := (hf_297.2 74 43 rfl (fun _ => rfl)).1
              have q_308 := (hf_297.2 74 44 rfl (fun _ => rfl)).1
              have q_309 := (hf_297.2 81 19 rfl (fun h => absurd h (by decide))).1
              have hPG9 : PGM s_295 := fun o9 => absurd o9.2.1 (by omega)
              have hZ9 : ZW τ n 0 s s_295 := ZW_b (by omega) (by omega) (by omega) (by omega)
              exact k s_295 hs_296 hf_299 (by first | omega | assumption) (by first | omega | assumption) (by first | omega | assumption) (by first | omega | assumption) (by first | omega | assumption) (pd_300) (pd_301) (by first | omega | assumption) (pd_302) (hPG9) (fun h9 => by omega) (hZ9)
          · exfalso; omega
      · have hA42 : gp_I s_19 74 38 = gp_I s 74 38 + 1 := by omega
        refine vm_isDigit τ n hs_20 (pd_26) (fun x_310 p_311 p_312 => ⟨_, rfl, ?_⟩)
        refine ⟨fun h_313 => ?_, fun h_313 => ?_⟩
        · have hb_314 := hasF p_312 h_313
          refine vm_fails hs_20 (fun s_315 hs_316 hf_317 p_318 => ⟨rfl, ?_⟩)
          have hf_319 : gF [76, 77, 78, 79, 80, 81, 86, 87, 88, 89, 105] [15, 38, 40, 41, 42, 43, 45] s s_315 := gF.trans hf_25 hf_317 rfl rfl
          have pd_320 : TPn τ n s_315 := TP_fr pd_26 hf_317 rfl rfl
          have pd_321 : kq s s_315 := kq_fr pd_27 hf_317 rfl
          have pd_322 : KQ s s_315 := KQ_fr pd_28 hf_317 rfl rfl rfl rfl
          have q_323 := (hf_317.2 74 38 rfl (fun _ => rfl)).1
          have q_324 := (hf_317.2 74 39 rfl (fun _ => rfl)).1
          have q_325 := (hf_317.2 74 41 rfl (fun _ => rfl)).1
          have q_326 := (hf_317.2 74 42 rfl (fun _ => rfl)).1
          have q_327 := (hf_317.2 74 43 rfl (fun _ => rfl)).1
          have q_328 := (hf_317.2 74 44 rfl (fun _ => rfl)).1
          have q_329 := (hf_317.2 81 19 rfl (fun h => absurd h (by decide))).1
          have hPG9 : PGM s_315 := fun o9 => absurd o9.2.1 (by omega)
          have hZ9 : ZW τ n 0 s s_315 := ZW_w0 (by omega) (by omega) hA42 (by omega)
          exact k s_315 hs_316 hf_319 (by first | omega | assumption) (by first | omega | assumption) (by first | omega | assumption) (by first | omega | assumption) (by first | omega | assumption) (pd_320) (pd_321) (by first | omega | assumption) (pd_322) (hPG9) (fun h9 => by omega) (hZ9)
        · have hb_330 := hasT p_312 h_313
          have hb8 := @bA_m1 τ n (gp_I s_19 74 38)
          have he8 := (pd_26).2
          refine vm_byteAt τ n hs_20 (pd_26) (fun x_331 p_332 p_333 => ⟨_, rfl, ?_⟩)
          try rw [show gp_wr (x_331 - 48) = x_331 - 48 from gp_wr_id (by omega) (by omega)]
          have f_334 := mr74_38 hs_20
          try rw [show gp_wr ((gp_I s_19 74 38) + 1) = (gp_I s_19 74 38) + 1 from gp_wr_id (by omega) (by omega)]
          intro s_335 e_336
          have hs_337 : MI s_335 := by rw [e_336]; exact mw74_38 hs_20 _ (by omega)
          have hf_338 : gF [76, 77, 78, 79, 80, 81, 86, 87, 88, 89, 105] [15, 38, 40, 41, 42, 43, 45] s s_335 := by rw [e_336]; exact gF.wI hf_25 (Or.inr ⟨rfl, rfl⟩)
          have q_339 : gp_I s_335 74 38 = (gp_I s_19 74 38) + 1 := by rw [e_336]; exact (gz_rw _ _ _ _ _).1 rfl
          have q_340 : gp_I s_335 74 39 = gp_I s_19 74 39 := by rw [e_336] <;> rfl
          have q_341 : gp_I s_335 74 40 = gp_I s_19 74 40 := by rw [e_336] <;> rfl
          have q_342 : gp_I s_335 74 41 = gp_I s_19 74 41 := by rw [e_336] <;> rfl
          have q_343 : gp_I s_335 74 42 = gp_I s_19 74 42 := by rw [e_336] <;> rfl
          have q_344 : gp_I s_335 74 43 = gp_I s_19 74 43 := by rw [e_336] <;> rfl
          have q_345 : gp_I s_335 74 44 = gp_I s_19 74 44 := by rw [e_336] <;> rfl
          have q_346 : gp_I s_335 81 19 = gp_I s_19 81 19 := by rw [e_336] <;> rfl
          have pd_347 : TPn τ n s_335 := by rw [e_336]; exact TP_fr pd_26 (gF.wI (gF.refl [] [38] _) (Or.inr ⟨rfl, rfl⟩)) rfl rfl
          have pd_348 : kq s s_335 := by rw [e_336]; exact kq_fr pd_27 (gF.wI (gF.refl [] [38] _) (Or.inr ⟨rfl, rfl⟩)) rfl
          have pd_349 : KQ s s_335 := by rw [e_336]; exact KQ_fr pd_28 (gF.wI (gF.refl [] [38] _) (Or.inr ⟨rfl, rfl⟩)) rfl rfl rfl rfl
          have pd_350 : PGM s_335 := by rw [e_336]; exact PGM_fr pd_29 (gF.wI (gF.refl [] [38] _) (Or.inr ⟨rfl, rfl⟩)) rfl rfl rfl rfl rfl rfl rfl rfl rfl
          have f_351 := mr74_44 hs_337
          refine ⟨fun h_352 => ?_, fun h_352 => ?_⟩
          · exfalso; omega
          · have hk79 := pd_348
            have hK79 := pd_349
            refine vm_waitsOfV _ hs_337 (by omega) (fun s_353 hs_354 hf_355 p_356 p_357 p_358 p_359 => ⟨rfl, ?_⟩)
            have hf_360 : gF [76, 77, 78, 79, 80, 81, 86, 87, 88, 89, 105] [15, 38, 40, 41, 42, 43, 45] s s_353 := gF.trans hf_338 hf_355 rfl rfl
            have pd_361 : TPn τ n s_353 := TP_fr pd_347 hf_355 rfl rfl
            have q_362 := (hf_355.2 74 38 rfl (fun _ => rfl)).1
            have q_363 := (hf_355.2 74 39 rfl (fun _ => rfl)).1
            have q_364 := (hf_355.2 74 40 rfl (fun _ => rfl)).1
            have q_365 := (hf_355.2 74 41 rfl (fun _ => rfl)).1
            have q_366 := (hf_355.2 74 42 rfl (fun _ => rfl)).1
            have q_367 := (hf_355.2 74 43 rfl (fun _ => rfl)).1
            have q_368 := (hf_355.2 74 44 rfl (fun _ => rfl)).1
            have hkq84 : kq s s_353 := kq_K hk79 p_357
            have hKq84 : KQ s s_353 := KQ_c hK79 p_359
            have hG84 := p_358
            refine vm_pilesV hs_354 (by first | omega | assumption) (fun s_369 hs_370 hf_371 p_372 p_373 p_374 p_375 p_376 => ⟨rfl, ?_⟩)
            have hf_377 : gF [76, 77, 78, 79, 80, 81, 86, 87, 88, 89, 105] [15, 38, 40, 41, 42, 43, 45] s s_369 := gF.trans hf_360 hf_371 rfl rfl
            have pd_378 : TPn τ n s_369 := TP_fr pd_361 hf_371 rfl rfl
            have q_379 := (hf_371.2 74 38 rfl (fun _ => rfl)).1
            have q_380 := (hf_371.2 74 39 rfl (fun _ => rfl)).1
            have q_381 := (hf_371.2 74 40 rfl (fun _ => rfl)).1
            have q_382 := (hf_371.2 74 41 rfl (fun _ => rfl)).1
            have q_383 := (hf_371.2 74 43 rfl (fun _ => rfl)).1
            have q_384 := (hf_371.2 74 44 rfl (fun _ => rfl)).1
            refine s_3134_88 _ ?_
            have hkq9 : kq s s_369 := kq_p hkq84 p_373 (by omega)
            have hKq9 : KQ s s_369 := KQ_p hKq84 p_376 (by omega)
            have hG9 := p_375 _ hG84
            have hPG9 : PGM s_369 := PGM_q q4 hkq9 hKq9 (fun o => okI (by have := o.1; omega) (by have := o.2.1; omega) (by have := o.2.2; omega)) (fun o9 => by have := o9.1; have := o9.2.1; have := o9.2.2; omega) (fun o9 e9 => ⟨_, GTM_i hG9 (by omega)⟩)
            have hZ9 : ZW τ n 0 s s_369 := ZW_w (okI (by omega) (by omega) (by omega)) (by omega) hA42 (by omega) (by omega) (GTM_i hG9 (by omega)) (by omega)
            exact k s_369 hs_370 hf_377 (by first | omega | assumption) (by first | omega | assumption) (by first | omega | assumption) (by first | omega | assumption) (by first | omega | assumption) (pd_378) (hkq9) (by first | omega | assumption) (hKq9) (hPG9) (fun h9 => by omega) (hZ9)
    · have hb_385 := hasT p_15 h_16
      refine vm_numberV τ n hs (q0) (by first | omega | assumption) (fun x_386 s_387 hs_388 hf_389 p_390 p_391 p_392 p_393 p_394 => ⟨_, rfl, ?_⟩)
      have hf_395 : gF [76, 77, 78, 79, 80, 81, 86, 87, 88, 89, 105] [15, 38, 40, 41, 42, 43, 45] s s_387 := gF.sub hf_389 rfl rfl
      have pd_396 : TPn τ n s_387 := TP_fr q0 hf_389 rfl rfl
      have pd_397 : kq s s_387 := kq_fr hkq0 hf_389 rfl
      have pd_398 : KQ s s_387 := KQ_fr hKq0 hf_389 rfl rfl rfl rfl
      have q_399 := (hf_389.2 74 39 rfl (fun _ => rfl)).1
      have q_400 := (hf_389.2 74 41 rfl (fun _ => rfl)).1
      have q_401 := (hf_389.2 74 42 rfl (fun _ => rfl)).1
      have q_402 := (hf_389.2 74 43 rfl (fun _ => rfl)).1
      have q_403 := (hf_389.2 74 44 rfl (fun _ => rfl)).1
      have q_404 := (hf_389.2 81 19 rfl (fun h => absurd h (by decide))).1
      have hA9 : gp_I s_387 74 38 = aN τ n (gp_I s 74 38) := p_391
      have hNV : x_386 = (ndg τ n 3 (gp_I s 74 38) 0).2 := p_393
      have hNB := p_394
      have f_405 := mr74_44 hs_388
      refine ⟨fun h_406 => ?_, fun h_406 => ?_⟩
      · exfalso; omega
      · have hk27 := pd_397
        have hK27 := pd_398
        refine vm_pilesNumberV _ hs_388 (by omega) (by first | omega | assumption) (fun s_407 hs_408 hf_409 p_410 p_411 p_412 p_413 p_414 => ⟨rfl, ?_⟩)
        have hf_415 : gF [76, 77, 78, 79, 80, 81, 86, 87, 88, 89, 105] [15, 38, 40, 41, 42, 43, 45] s s_407 := gF.trans hf_395 hf_409 rfl rfl
        have pd_416 : TPn τ n s_407 := TP_fr pd_396 hf_409 rfl rfl
        have q_417 := (hf_409.2 74 38 rfl (fun _ => rfl)).1
        have q_418 := (hf_409.2 74 39 rfl (fun _ => rfl)).1
        have q_419 := (hf_409.2 74 40 rfl (fun _ => rfl)).1
        have q_420 := (hf_409.2 74 41 rfl (fun _ => rfl)).1
        have q_421 := (hf_409.2 74 43 rfl (fun _ => rfl)).1
        have q_422 := (hf_409.2 74 44 rfl (fun _ => rfl)).1
        refine s_3134_32 _ ?_
        have hkq9 : kq s s_407 := kq.trans hk27 p_411 (by omega)
        have hKq9 : KQ s s_407 := KQ_p hK27 p_414 (by omega)
        have hG9 := p_413
        have hPG9 : PGM s_407 := PGM_q q4 hkq9 hKq9 (fun o => okI (by have := o.1; omega) (by have := o.2.1; omega) (by have := o.2.2; omega)) (fun o9 => by have := o9.1; have := o9.2.1; have := o9.2.2; omega) (fun o9 e9 => ⟨_, GTM_i hG9 (by omega)⟩)
        have hZ9 : ZW τ n 0 s s_407 := ZW_d (okI (by omega) (by omega) (by omega)) ⟨by omega, by omega⟩ (by omega) (GTM_i hG9 (by omega)) hNV
        exact k s_407 hs_408 hf_415 (by first | omega | assumption) (by first | omega | assumption) (by first | omega | assumption) (by first | omega | assumption) (by first | omega | assumption) (pd_416) (hkq9) (by first | omega | assumption) (hKq9) (hPG9) (fun h9 => by omega) (hZ9)
