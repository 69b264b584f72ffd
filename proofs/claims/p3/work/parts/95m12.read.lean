/-! the class's reader: units, sums, sides, frames -/
theorem RZ0 {g : Nat → Int} {n : Int} {N : Nat} {o : Int} {i r : R5} (h : RDU (RDZ g n N) g n o i r) : RDZ g n (N + 1) 0 o i r := by
  show RDK _ _ _ _ _ _ _
  unfold RDK
  rw [if_pos rfl]; exact h
theorem RZ1 {g : Nat → Int} {n : Int} {N : Nat} {o : Int} {i r : R5} (h : RDE (RDZ g n N) o i r) : RDZ g n (N + 1) 1 o i r := by
  show RDK _ _ _ _ _ _ _
  unfold RDK
  rw [if_neg (by decide), if_pos rfl]; exact h
theorem RZ2 {g : Nat → Int} {n : Int} {N : Nat} {o : Int} {i r : R5} (h : RDL (RDZ g n N) g n o i r) : RDZ g n (N + 1) 2 o i r := by
  show RDK _ _ _ _ _ _ _
  unfold RDK
  rw [if_neg (by decide), if_neg (by decide), if_pos rfl]; exact h
theorem RZ3 {g : Nat → Int} {n : Int} {N : Nat} {o : Int} {i r : R5} (h : RDS (RDZ g n N) g n o i r) : RDZ g n (N + 1) 3 o i r := by
  show RDK _ _ _ _ _ _ _
  unfold RDK
  rw [if_neg (by decide), if_neg (by decide), if_neg (by decide), if_pos rfl]; exact h
theorem RZ4 {g : Nat → Int} {n : Int} {N : Nat} {o : Int} {i r : R5} (h : RDT (RDZ g n N) g n o i r) : RDZ g n (N + 1) 4 o i r := by
  show RDK _ _ _ _ _ _ _
  unfold RDK
  rw [if_neg (by decide), if_neg (by decide), if_neg (by decide), if_neg (by decide), if_pos rfl]; exact h
theorem RZ5 {g : Nat → Int} {n : Int} {N : Nat} {o : Int} {i r : R5} (h : RDF (RDZ g n N) g n o i r) : RDZ g n (N + 1) 5 o i r := by
  show RDK _ _ _ _ _ _ _
  unfold RDK
  rw [if_neg (by decide), if_neg (by decide), if_neg (by decide), if_neg (by decide), if_neg (by decide)]; exact h
def FTE (t : gH) (q : R5) : Prop := (gp_I t 46 7 < 0 ∧ q.2.1 < 0) ∨ (0 ≤ q.2.1 ∧ gp_I t 46 7 = q.2.1)
theorem FTE_lt {t : gH} {q : R5} (h : FTE t q) : gp_I t 46 7 < 0 ↔ q.2.1 < 0 := by unfold FTE at h; omega
def SAM (s t : gH) : Prop := gp_I t 46 6 = gp_I s 46 6 ∧ gp_I t 46 7 = gp_I s 46 7 ∧ gp_I t 46 8 = gp_I s 46 8
def CUR (L : Nat) (t : gH) (q : R5) (r : Option Nat) : Prop := gp_I t 46 6 = q.1 ∧ FTE t q ∧ gp_I t 46 8 = q.2.2.2.1 ∧ (OK5 q → GT L t r q.2.2.1)
def IN5 (s : gH) : R5 := (gp_I s 46 6, -1, 0, gp_I s 46 8, 0)
def SRC (s : gH) (g : Nat → Int) (n : Int) : Prop := G3 s = g ∧ gp_I s 46 5 = n
def RTW (L : Nat) (g : Nat → Int) (n : Int) (s t : gH) (k : Nat) (o : Int) (r : Option Nat) : Prop := (0 ≤ gp_I s 46 7 → SAM s t) ∧ (gp_I s 46 7 < 0 → ∃ N q, RDZ g n N k o (IN5 s) q ∧ CUR L t q r)
theorem CUR_fr {L : Nat} {al : Bool} {m : List Nat} {u t : gH} {q : R5} {r : Option Nat} (h : CUR L u q r) (x : SAM u t) (g : gX L al m u t) (i : IK u t) : CUR L t q r := by
  obtain ⟨h1, h2, h3, h4⟩ := h
  refine ⟨x.1.trans h1, ?_, x.2.2.trans h3, fun ok => GT_fr (h4 ok) g i⟩
  unfold FTE at h2 ⊢
  rw [x.2.1]; exact h2
theorem nxs {s : gH} {g : Nat → Int} {n c : Int} (hs : SRC s g n) (hc : c = nxb s) (h0 : 0 ≤ c) : gp_I s 46 7 < 0 ∧ nxg g n (gp_I s 46 6) = c := by
  have f : gp_I s 46 7 < 0 := by
    by_cases q : gp_I s 46 7 < 0
    · exact q
    · rw [nxb_f (by omega)] at hc; omega
  refine ⟨f, ?_⟩
  rw [hc, nxb_g f, hs.1, hs.2]
theorem NV_ok {f tr : Int} {v : Nat} (h : f < 0 ∧ tr = 0) : NV f tr v = v := if_pos h
theorem U_w {L : Nat} {g : Nat → Int} {n c v o : Int} {s u d t : gH} {r : Option Nat} (hs : SRC s g n) (hu : SRC u g n) (hc : c = nxb s) (h1 : c = 119) (p0 : 0 ≤ gp_I s 46 6) (eu : gp_I u 46 6 = gp_I s 46 6 + 1 ∧ gp_I u 46 7 = gp_I s 46 7 ∧ gp_I u 46 8 = gp_I s 46 8) (dg : DGW u d 1 v) (ed : gp_I d 46 8 = gp_I u 46 8) (et : SAM d t) (hr : GT L t r (wtv v.toNat)) : RTW L g n s t 0 o r := by
  have x := nxs hs hc (by omega)
  refine ⟨fun q => by omega, fun _ => ?_⟩
  have y := dg.2 (by omega)
  rw [hu.1, hu.2, eu.1] at y
  rcases y with ⟨y1, y2, y3, y4⟩ | ⟨y1, y2, y3⟩
  · have e : ndg g n (1 : Int).toNat (gp_I s 46 6 + 1) 0 = (gp_I s 46 6 + 2, nxg g n (gp_I s 46 6 + 1) - 48) := by
      show (if 48 ≤ nxg g n (gp_I s 46 6 + 1) ∧ nxg g n (gp_I s 46 6 + 1) ≤ 57 then (gp_I s 46 6 + 1 + 1, (0 : Int) * 10 + (nxg g n (gp_I s 46 6 + 1) - 48)) else _) = _
      rw [if_pos (show 48 ≤ nxg g n (gp_I s 46 6 + 1) ∧ nxg g n (gp_I s 46 6 + 1) ≤ 57 from y1)]
      refine Prod.ext ?_ ?_
      · show gp_I s 46 6 + 1 + 1 = gp_I s 46 6 + 2; omega
      · show (0 : Int) * 10 + (nxg g n (gp_I s 46 6 + 1) - 48) = nxg g n (gp_I s 46 6 + 1) - 48; omega
    rw [e] at y2 y3
    have y2' : gp_I d 46 6 = gp_I s 46 6 + 2 := y2
    have y3' : v = nxg g n (gp_I s 46 6 + 1) - 48 := y3
    refine ⟨1, (gp_I s 46 6 + 2, -1, NV (-1) (gp_I s 46 8) (wtv v.toNat), gp_I s 46 8, 0), RZ0 (Or.inl ⟨x.2.trans h1, y1, by show _ = (gp_I s 46 6 + 2, -1, NV (-1) (gp_I s 46 8) (wtv (nxg g n (gp_I s 46 6 + 1) - 48).toNat), gp_I s 46 8, 0); rw [← y3']⟩), by show gp_I t 46 6 = gp_I s 46 6 + 2; have := et.1; omega, Or.inl ⟨by have := et.2.1; omega, by show (-1 : Int) < 0; decide⟩, by show gp_I t 46 8 = gp_I s 46 8; have := et.2.2; omega, fun ok => ?_⟩
    have tr0 : gp_I s 46 8 = 0 := ok.2
    show GT L t r (NV (-1) (gp_I s 46 8) (wtv v.toNat))
    rw [NV_ok ⟨by decide, tr0⟩]; exact hr
  · exact ⟨1, (gp_I s 46 6 + 1, gp_I s 46 6 + 1, 0, gp_I s 46 8, 0), RZ0 (Or.inr (Or.inl ⟨x.2.trans h1, y1, rfl⟩)), by show gp_I t 46 6 = gp_I s 46 6 + 1; have := et.1; omega, Or.inr ⟨by show 0 ≤ gp_I s 46 6 + 1; omega, by show gp_I t 46 7 = gp_I s 46 6 + 1; have := et.2.1; omega⟩, by show gp_I t 46 8 = gp_I s 46 8; have := et.2.2; omega, fun ok => by have z : gp_I s 46 6 + 1 < 0 := ok.1; omega⟩
theorem U_d {L : Nat} {g : Nat → Int} {n c v o : Int} {s d t : gH} {r : Option Nat} (hs : SRC s g n) (hc : c = nxb s) (h1 : 48 ≤ c ∧ c ≤ 57) (dg : DGW s d 3 v) (ed : gp_I d 46 8 = gp_I s 46 8) (et : SAM d t) (hr : GT L t r (cod4 0 0 v v)) : RTW L g n s t 0 o r := by
  have x := nxs hs hc (by omega)
  refine ⟨fun q => by omega, fun _ => ?_⟩
  have y := dg.2 (by omega)
  rw [hs.1, hs.2] at y
  have dd : dgt (nxg g n (gp_I s 46 6)) := by unfold dgt; rw [x.2]; exact h1
  rcases y with ⟨y1, y2, y3, y4⟩ | ⟨y1, y2, y3⟩
  · have y2' : gp_I d 46 6 = (ndg g n 3 (gp_I s 46 6) 0).1 := y2
    have y3' : v = (ndg g n 3 (gp_I s 46 6) 0).2 := y3
    refine ⟨1, ((ndg g n 3 (gp_I s 46 6) 0).1, -1, NV (-1) (gp_I s 46 8) (cod4 0 0 v v), gp_I s 46 8, 0), RZ0 (Or.inr (Or.inr (Or.inl ⟨dd, by rw [y3']; rfl⟩))), et.1.trans y2', Or.inl ⟨by have := et.2.1; omega, by show (-1 : Int) < 0; decide⟩, by show gp_I t 46 8 = gp_I s 46 8; have := et.2.2; omega, fun ok => ?_⟩
    have tr0 : gp_I s 46 8 = 0 := ok.2
    show GT L t r (NV (-1) (gp_I s 46 8) (cod4 0 0 v v))
    rw [NV_ok ⟨by decide, tr0⟩]; exact hr
  · exact absurd dd y1
theorem U_x {L : Nat} {g : Nat → Int} {n c o : Int} {s t : gH} {r : Option Nat} (hs : SRC s g n) (hc : c = nxb s) (p0 : 0 ≤ gp_I s 46 6) (h1 : c ≠ 119 ∧ ¬ (48 ≤ c ∧ c ≤ 57) ∧ ((c ≠ 45 ∧ c ≠ 60) ∨ 8 ≤ o)) (fl : FLW s t) (h6 : gp_I t 46 6 = gp_I s 46 6) (h8 : gp_I t 46 8 = gp_I s 46 8) : RTW L g n s t 0 o r := by
  refine ⟨fun q => ⟨h6, fl.2 q, h8⟩, fun q => ?_⟩
  have e : nxg g n (gp_I s 46 6) = c := by rw [hc, nxb_g q, hs.1, hs.2]
  exact ⟨1, (gp_I s 46 6, gp_I s 46 6, 0, gp_I s 46 8, 0), RZ0 (Or.inr (Or.inr (Or.inr (Or.inl ⟨by show nxg g n (gp_I s 46 6) ≠ 119; rw [e]; exact h1.1, by show ¬ dgt (nxg g n (gp_I s 46 6)); unfold dgt; rw [e]; exact h1.2.1, by show (nxg g n (gp_I s 46 6) ≠ 45 ∧ nxg g n (gp_I s 46 6) ≠ 60) ∨ 8 ≤ o; rw [e]; exact h1.2.2, rfl⟩)))), h6, Or.inr ⟨p0, fl.1 q⟩, h8, fun ok => by have z : gp_I s 46 6 < 0 := ok.1; omega⟩
theorem U_n {L : Nat} {al : Bool} {m : List Nat} {g : Nat → Int} {n c o : Int} {s u d t : gH} {r : Option Nat} {p0 n0 : Nat} (hs : SRC s g n) (hc : c = nxb s) (h1 : c = 45 ∧ o < 8) (eu : gp_I u 46 6 = gp_I s 46 6 + 1 ∧ gp_I u 46 7 = gp_I s 46 7 ∧ gp_I u 46 8 = gp_I s 46 8) (sub_ : RTW L g n u d 0 (o + 1) (some p0)) (kt : kT L d p0 n0) (ng : ∃ a n', r = some a ∧ kT L t a n' ∧ n' ≤ 60 ∧ 117 ≤ a ∧ (117 ≤ p0 ∧ TBG (TF d p0) n0 → TBG (TF t a) n' ∧ val (TF t a) (n' - 1) = negv (TF d p0) (n0 - 1))) (et : SAM d t) : RTW L g n s t 0 o r := by
  have x := nxs hs hc (by omega)
  refine ⟨fun q => by omega, fun _ => ?_⟩
  obtain ⟨N, q, y, z1, z2, z3, z4⟩ := sub_.2 (by omega)
  have ei : IN5 u = (gp_I s 46 6 + 1, -1, 0, gp_I s 46 8, 0) := by unfold IN5; rw [eu.1, eu.2.2]
  rw [ei] at y
  obtain ⟨a, n', a1, a2, a3, a4, a5⟩ := ng
  have fin : ∀ z : Nat, (OK5 q → NGV q.2.2.1 z) → (¬ OK5 q → z = 0) → (OK5 q → GT L t r z) → ∃ N q', RDZ g n N 0 o (IN5 s) q' ∧ CUR L t q' r := fun z w1 w2 w3 => by
    refine ⟨N + 1, (q.1, q.2.1, z, q.2.2.2.1, 0), RZ0 (Or.inr (Or.inr (Or.inr (Or.inr (Or.inl ⟨x.2.trans h1.1, h1.2, q, z, y, w1, w2, rfl⟩))))), et.1.trans z1, ?_, et.2.2.trans z3, w3⟩
    unfold FTE at z2 ⊢
    rw [et.2.1]; exact z2
  by_cases ok : OK5 q
  · have gt := GT_at (z4 ok) kt
    have b := a5 ⟨gt.1, gt.2.1⟩
    exact fin (negv (TF d p0) (n0 - 1)) (fun _ => ⟨TF d p0, n0, gt.2.1.1, gt.2.2, rfl⟩) (fun h => absurd ok h) (fun _ => ⟨a, n', a1, a2, a3, a4, b.1, b.2⟩)
  · exact fin 0 (fun h => absurd h ok) (fun _ => rfl) (fun h => absurd h ok)
theorem U_f {L : Nat} {g : Nat → Int} {n c o : Int} {s u t : gH} {r : Option Nat} (hs : SRC s g n) (hc : c = nxb s) (h1 : c = 60 ∧ o < 8) (eu : gp_I u 46 6 = gp_I s 46 6 + 1 ∧ gp_I u 46 7 = gp_I s 46 7 ∧ gp_I u 46 8 = gp_I s 46 8) (sub_ : RTW L g n u t 5 (o + 1) r) : RTW L g n s t 0 o r := by
  have x := nxs hs hc (by omega)
  refine ⟨fun q => by omega, fun _ => ?_⟩
  obtain ⟨N, q, y, z⟩ := sub_.2 (by omega)
  have ei : IN5 u = (gp_I s 46 6 + 1, -1, 0, gp_I s 46 8, 0) := by unfold IN5; rw [eu.1, eu.2.2]
  rw [ei] at y
  exact ⟨N + 1, q, RZ0 (Or.inr (Or.inr (Or.inr (Or.inr (Or.inr ⟨x.2.trans h1.1, h1.2, y⟩))))), z⟩
/-! a sum of units -/
def ESW (L : Nat) (g : Nat → Int) (n : Int) (s u : gH) (o : Int) (r : Option Nat) : Prop := (0 ≤ gp_I s 46 7 → SAM s u) ∧ (gp_I s 46 7 < 0 → ∃ q, CUR L u q r ∧ ∀ N w, RDZ g n N 2 o q w → ∃ M, RDZ g n M 1 o (IN5 s) w)
theorem ESW_0 {L : Nat} {g : Nat → Int} {n o : Int} {s u : gH} {r : Option Nat} (h : RTW L g n s u 0 o r) : ESW L g n s u o r := ⟨h.1, fun f => by
  obtain ⟨N, q, y, z⟩ := h.2 f
  exact ⟨q, z, fun M w hw => ⟨N + M + 1, RZ1 ⟨q, RDZ_le y (by omega), RDZ_le hw (by omega)⟩⟩⟩⟩
theorem ESW_e {L : Nat} {g : Nat → Int} {n o : Int} {s u : gH} {r : Option Nat} (h : ESW L g n s u o r) (hu : SRC u g n) (hx : nxb u ≠ 43 ∨ n ≤ gp_I u 46 6) : RTW L g n s u 1 o r := ⟨h.1, fun f => by
  obtain ⟨q, z, k⟩ := h.2 f
  have st : ¬ (q.2.1 < 0 ∧ nxg g n q.1 = 43) := fun c => by
    have f2 := (FTE_lt z.2.1).mpr c.1
    rcases hx with x | x
    · rw [nxb_g f2, hu.1, hu.2, z.1] at x
      exact x c.2
    · have := c.2
      unfold nxg at this
      rw [if_neg (by rw [← z.1]; omega)] at this
      omega
  obtain ⟨M, y⟩ := k 1 q (RZ2 (Or.inl ⟨st, rfl⟩))
  exact ⟨M, q, y, z⟩⟩
theorem ESW_s {L : Nat} {g : Nat → Int} {n o c : Int} {s u u1 d t : gH} {r r2 : Option Nat} (h : ESW L g n s u o r) (hu : SRC u g n) (hc : c = nxb u) (h1 : c = 43) (eu : gp_I u1 46 6 = gp_I u 46 6 + 1 ∧ gp_I u1 46 7 = gp_I u 46 7 ∧ gp_I u1 46 8 = gp_I u 46 8) (w2 : Option Nat) (un : RTW L g n u1 d 0 o w2) (fin : ∀ q q2, CUR L u q r → CUR L d q2 w2 → (OK5 q2 → OK5 q) → ∃ q3, SUR q q2 q3 ∧ CUR L t q3 r2) (mono : ∀ N q2 p f v tr b, RDZ g n N 0 o (p, f, v, tr, b) q2 → q2.2.2.2.1 = 0 → tr = 0) : ESW L g n s t o r2 := by
  have x := nxs hu hc (by omega)
  have f0 : gp_I s 46 7 < 0 := by
    by_cases q : gp_I s 46 7 < 0
    · exact q
    · have := (h.1 (by omega)).2.1; omega
  refine ⟨fun q => by omega, fun _ => ?_⟩
  obtain ⟨q, z, k⟩ := h.2 f0
  obtain ⟨N, q2, y, z2⟩ := un.2 (by omega)
  have ei : IN5 u1 = (q.1 + 1, -1, 0, q.2.2.2.1, 0) := by unfold IN5; rw [eu.1, eu.2.2, z.1, z.2.2.1]
  rw [ei] at y
  have qf := (FTE_lt z.2.1).mp x.1
  obtain ⟨q3, s3, z3⟩ := fin q q2 z z2 (fun ok => ⟨qf, mono _ _ _ _ _ _ _ y ok.2⟩)
  exact ⟨q3, z3, fun M w hw => k (N + M + 1) w (RZ2 (Or.inr ⟨⟨qf, by rw [← z.1, x.2]; exact h1⟩, q2, q3, RDZ_le y (by omega), s3, RDZ_le hw (by omega)⟩))⟩
/-- trouble stays -/
theorem RDZ_tr {g : Nat → Int} {n : Int} : ∀ N k o i r, RDZ g n N k o i r → i.2.2.2.1 ≠ 0 → r.2.2.2.1 ≠ 0
  | 0, _, _, _, _, h, _ => absurd h (fun q => q)
  | N + 1, k, o, i, r, x, hi => by
    have ih := fun k o i r => RDZ_tr (g := g) (n := n) N k o i r
    have x' : RDK (RDZ g n N) g n k o i r := x
    clear x
    unfold RDK at x'
    by_cases c0 : k = 0
    · rw [if_pos c0] at x'
      rcases x' with ⟨_, _, a⟩ | ⟨_, _, a⟩ | ⟨_, a⟩ | ⟨_, _, _, a⟩ | ⟨_, _, q, z, a1, _, _, a⟩ | ⟨_, _, a⟩
      · rw [a]; exact hi
      · rw [a]; exact hi
      · rw [a]; exact hi
      · rw [a]; exact hi
      · rw [a]; exact ih _ _ _ q a1 hi
      · exact ih _ _ _ _ a hi
    rw [if_neg c0] at x'
    by_cases c1 : k = 1
    · rw [if_pos c1] at x'
      obtain ⟨q, a1, a2⟩ := x'
      exact ih _ _ _ _ a2 (ih _ _ _ _ a1 hi)
    rw [if_neg c1] at x'
    by_cases c2 : k = 2
    · rw [if_pos c2] at x'
      rcases x' with ⟨_, a⟩ | ⟨_, q2, q3, a1, a2, a3⟩
      · rw [a]; exact hi
      · have t2 := ih _ _ _ _ a1 hi
        refine ih _ _ _ _ a3 ?_
        obtain ⟨_, _, _, b⟩ := a2
        rcases b with ⟨_, b, _⟩ | ⟨b, _⟩
        · rw [b]; exact t2
        · exact absurd b.2 t2
    rw [if_neg c2] at x'
    by_cases c3 : k = 3
    · rw [if_pos c3] at x'
      rcases x' with ⟨_, p, s, _, ⟨_, a⟩ | ⟨_, a⟩⟩ | ⟨_, q, a1, a2⟩
      · rw [a]; exact hi
      · rw [a]; exact hi
      · exact ih _ _ _ _ a2 (ih _ _ _ q a1 hi)
    rw [if_neg c3] at x'
    by_cases c4 : k = 4
    · rw [if_pos c4] at x'
      rcases x' with ⟨_, a⟩ | ⟨_, q2, a1, a2⟩
      · rw [a]; exact hi
      · exact ih _ _ _ _ a2 (ih _ _ _ q2 a1 hi)
    rw [if_neg c4] at x'
    obtain ⟨a, a1, a2⟩ := x'
    have ta := ih _ _ _ _ a1 hi
    rcases a2 with ⟨_, b⟩ | ⟨_, _, b⟩ | ⟨_, _, b, b1, b2⟩
    · rw [b]; exact ta
    · rw [b]; exact ta
    · have tb := ih _ _ _ _ b1 ta
      rcases b2 with ⟨_, c⟩ | ⟨_, _, c⟩ | ⟨_, _, c⟩
      · rw [c]; exact tb
      · rw [c]; exact tb
      · obtain ⟨_, _, _, d⟩ := c
        rcases d with ⟨_, d, _⟩ | ⟨d, _⟩
        · rw [d]; exact tb
        · exact absurd d tb
/-- the sum that is made -/
theorem SU_no {L : Nat} {d t : gH} {q q2 : R5} {w2 r2 : Option Nat} (z2 : CUR L d q2 w2) (no : ¬ (gp_I d 46 7 < 0 ∧ gp_I d 46 8 = 0)) (et : SAM d t) : ∃ q3, SUR q q2 q3 ∧ CUR L t q3 r2 := by
  have nk : ¬ OK5 q2 := fun ok => no ⟨(FTE_lt z2.2.1).mpr ok.1, by rw [z2.2.2.1]; exact ok.2⟩
  refine ⟨(q2.1, q2.2.1, 0, q2.2.2.2.1, 0), ⟨rfl, rfl, rfl, Or.inl ⟨nk, rfl, rfl⟩⟩, et.1.trans z2.1, ?_, et.2.2.trans z2.2.2.1, fun ok => absurd ok nk⟩
  have f := z2.2.1
  unfold FTE at f ⊢
  rw [et.2.1]; exact f
theorem SU_y {L : Nat} {u d e t : gH} {q q2 : R5} {p0 p1 n0 n1 : Nat} {rj r2 : Option Nat} (z : CUR L u q (some p0)) (z2 : CUR L d q2 (some p1)) (gp : GT L u (some p0) q.2.2.1 → GT L d (some p0) q.2.2.1) (okk : OK5 q2 → OK5 q) (k0 : kT L d p0 n0) (k1 : kT L d p1 n1) (yes : gp_I d 46 7 < 0 ∧ gp_I d 46 8 = 0) (jn : JNR L d e p0 p1 n0 n1 rj) (et : SAM d e) (ft : FTR L e t rj r2) (h67 : gp_I t 46 6 = gp_I e 46 6 ∧ gp_I t 46 7 = gp_I e 46 7) (gt : ∀ a n x, GT L e (some a) x → kT L e a n → GT L t (some a) x) : ∃ q3, SUR q q2 q3 ∧ CUR L t q3 r2 := by
  have ok2 : OK5 q2 := ⟨(FTE_lt z2.2.1).mp yes.1, by rw [← z2.2.2.1]; exact yes.2⟩
  have ok := okk ok2
  have g0 := GT_at (gp (z.2.2.2 ok)) k0
  have g1 := GT_at (z2.2.2.2 ok2) k1
  have jp : JNP d p0 p1 n0 n1 := ⟨⟨g0.1, g0.2.1⟩, g1.1, g1.2.1⟩
  have jf := JFV_of g0.2.1.1 g1.2.1.1
  rw [g0.2.2, g1.2.2] at jf
  have fte : ∀ (v : Nat) (tr : Int), FTE t (q2.1, q2.2.1, v, tr, 0) := fun v tr => by
    have f := z2.2.1
    unfold FTE at f ⊢
    rw [h67.2, et.2.1]; exact f
  have pl : gp_I t 46 6 = q2.1 := by rw [h67.1, et.1, z2.1]
  rcases jn jp with ⟨j1, j2⟩ | ⟨a, n, j1, j2, j3, j4, j5, j6, j7, j8, j9⟩
  · rcases ft with ⟨_, f2⟩ | ⟨a, n, f1, _⟩
    · exact ⟨(q2.1, q2.2.1, 0, 4, 0), ⟨rfl, rfl, rfl, Or.inr ⟨ok2, Or.inl ⟨jf.mpr j2, rfl, rfl⟩⟩⟩, pl, fte _ _, f2, fun o4 => by have : (4 : Int) = 0 := o4.2; omega⟩
    · rw [j1] at f1; cases f1
  · have bb : B2S (TF e a) n ∧ n ≤ 60 := ⟨j9, j8⟩
    have njf : ¬ JFV q.2.2.1 q2.2.2.1 := fun c => jf.mp c j7
    have js : JSV q.2.2.1 q2.2.2.1 (sm (TF d p0) (TF d p1) (n0 - 1) (n1 - 1)) := ⟨_, _, _, _, g0.2.1.1, g1.2.1.1, g0.2.2, g1.2.2, rfl⟩
    have bg := BIGV_of j4
    rw [j6] at bg
    rcases ft with ⟨f1, _⟩ | ⟨a', n', f1, f2, f3, f4⟩
    · rw [j1] at f1; cases f1
    · rw [j1] at f1
      injection f1 with f1
      subst f1
      have en : n' = n := f3.2.2.symm.trans j2.2.2
      subst en
      rcases f4 bb.1 with ⟨f5, f6⟩ | ⟨f5, f6⟩
      · refine ⟨(q2.1, q2.2.1, sm (TF d p0) (TF d p1) (n0 - 1) (n1 - 1), 0, 0), ⟨rfl, rfl, rfl, Or.inr ⟨ok2, Or.inr ⟨njf, _, js, Or.inr ⟨fun c => bg.mp c f5, rfl, rfl⟩⟩⟩⟩, pl, fte _ _, ?_, fun _ => ?_⟩
        · show gp_I t 46 8 = 0
          rw [f6, et.2.2]; exact yes.2
        · rw [f2]
          exact gt a n' _ ⟨a, n', rfl, j2, bb.2, j3, ⟨j4, j5, f5⟩, j6⟩ j2
      · exact ⟨(q2.1, q2.2.1, 0, 6, 0), ⟨rfl, rfl, rfl, Or.inr ⟨ok2, Or.inr ⟨njf, _, js, Or.inl ⟨bg.mpr f5, rfl, rfl⟩⟩⟩⟩, pl, fte _ _, f6, fun o4 => by have : (6 : Int) = 0 := o4.2; omega⟩
/-! sides and frames -/
def SDW (L : Nat) (g : Nat → Int) (n : Int) (s t : gH) (o r : Int) : Prop := (0 ≤ gp_I s 46 7 → SAM s t) ∧ (gp_I s 46 7 < 0 → ∃ N q, RDZ g n N 3 o (IN5 s) q ∧ gp_I t 46 6 = q.1 ∧ FTE t q ∧ gp_I t 46 8 = q.2.2.2.1 ∧ (q.2.1 < 0 → r = q.2.2.2.2 ∧ -999 ≤ r ∧ r ≤ 999) ∧ (OK5 q → PGA L t (gp_I s 46 3) (gp_I t 46 3) ∧ PGD L t (gp_I s 46 3) (gp_I t 46 3) q.2.2.1))
theorem PG_0 {L : Nat} {t : gH} {w v : Int} (h : v = w) : PGA L t w v ∧ PGD L t w v 0 := ⟨fun k h1 h2 => by omega, fun x => ⟨fun q => (by rw [Nat.zero_testBit] at q; cases q), fun ⟨k, h1, h2, _⟩ => by omega⟩⟩
theorem S_num {L : Nat} {g : Nat → Int} {n c c2 p sg v o r : Int} {s u w t : gH} (hs : SRC s g n) (hu : SRC u g n) (hw : SRC w g n) (hc : c = nxb s) (h1 : c = 58) (eu : gp_I u 46 6 = gp_I s 46 6 + 1 ∧ gp_I u 46 7 = gp_I s 46 7) (hc2 : c2 = nxb u) (h2 : (c2 = 45 ∧ p = gp_I s 46 6 + 2 ∧ sg = -1) ∨ (c2 ≠ 45 ∧ p = gp_I s 46 6 + 1 ∧ sg = 1)) (ew : gp_I w 46 6 = p ∧ gp_I w 46 7 = gp_I s 46 7 ∧ gp_I w 46 8 = gp_I s 46 8) (dg : DGW w t 3 v) (hv : 0 ≤ v ∧ v ≤ 999) (hr : r = sg * v) (p0 : 0 ≤ gp_I s 46 6) (w3 : gp_I t 46 3 = gp_I s 46 3) (t8 : gp_I t 46 8 = gp_I w 46 8) : SDW L g n s t o r := by
  have x := nxs hs hc (by omega)
  refine ⟨fun q => by omega, fun _ => ?_⟩
  have e2 : c2 = nxg g n (gp_I s 46 6 + 1) := by rw [hc2, nxb_g (by omega), hu.1, hu.2, eu.1]
  rw [e2] at h2
  have y := dg.2 (by omega)
  rw [hw.1, hw.2, ew.1] at y
  have hr2 : -999 ≤ r ∧ r ≤ 999 := by
    rcases h2 with ⟨_, _, q⟩ | ⟨_, _, q⟩ <;> subst q <;> omega
  rcases y with ⟨y1, y2, y3, y4⟩ | ⟨y1, y2, y3⟩
  · have y2' : gp_I t 46 6 = (ndg g n 3 p 0).1 := y2
    have y3' : v = (ndg g n 3 p 0).2 := y3
    exact ⟨1, ((ndg g n 3 p 0).1, -1, 0, gp_I s 46 8, sg * v), RZ3 (Or.inl ⟨x.2.trans h1, p, sg, h2, Or.inl ⟨y1, by rw [y3']; rfl⟩⟩), y2', Or.inl ⟨by omega, by show (-1 : Int) < 0; decide⟩, by show gp_I t 46 8 = gp_I s 46 8; omega, fun _ => ⟨hr, hr2⟩, fun _ => PG_0 w3⟩
  · exact ⟨1, (p, p, 0, gp_I s 46 8, 0), RZ3 (Or.inl ⟨x.2.trans h1, p, sg, h2, Or.inr ⟨y1, rfl⟩⟩), y2, Or.inr ⟨by show 0 ≤ p; omega, y3⟩, by show gp_I t 46 8 = gp_I s 46 8; omega, fun q => by have q' : p < 0 := q; omega, fun ok => by have q' : p < 0 := ok.1; omega⟩
def TSW (L : Nat) (g : Nat → Int) (n : Int) (s u : gH) (o : Int) : Prop := (0 ≤ gp_I s 46 7 → SAM s u) ∧ (gp_I s 46 7 < 0 → ∃ q, gp_I u 46 6 = q.1 ∧ FTE u q ∧ gp_I u 46 8 = q.2.2.2.1 ∧ q.2.2.2.2 = 0 ∧ (OK5 q → PGA L u (gp_I s 46 3) (gp_I u 46 3) ∧ PGD L u (gp_I s 46 3) (gp_I u 46 3) q.2.2.1) ∧ ∀ N w, RDZ g n N 4 o q w → ∃ M, RDZ g n M 3 o (IN5 s) w)
theorem OK_iff {q : R5} {v : Nat} {b : Int} : OK5 (q.1, q.2.1, v, q.2.2.2.1, b) ↔ OK5 q := Iff.rfl
theorem PG_s {L : Nat} {u t : gH} {w0 w1 w2 : Int} {O v : Nat} (h0 : 0 ≤ w0 ∧ w0 ≤ w1) (a : PGA L u w0 w1) (d : PGD L u w0 w1 O) (fr : ∀ (k x : Nat), (k : Int) < w1 → PGT L u k x → PGT L t k x) (h2 : w2 = w1 + 1) (new : PGT L t w1.toNat v) : PGA L t w0 w2 ∧ PGD L t w0 w2 (O ||| 2 ^ v) := by
  constructor
  · intro k k0 k1
    by_cases c : (k : Int) < w1
    · obtain ⟨x, hx⟩ := a k k0 c
      exact ⟨x, fr k x c hx⟩
    · exact ⟨v, by rw [show k = w1.toNat by omega]; exact new⟩
  · intro x
    rw [tb_or, d]
    constructor
    · rintro (⟨k, k0, k1, k2⟩ | q)
      · exact ⟨k, k0, by omega, fr k x k1 k2⟩
      · subst q; exact ⟨w1.toNat, by omega, by omega, new⟩
    · rintro ⟨k, k0, k1, k2⟩
      by_cases c : (k : Int) < w1
      · obtain ⟨y, hy⟩ := a k k0 c
        have e := GT_f (fr k y c hy) k2
        subst e
        exact Or.inl ⟨k, k0, c, hy⟩
      · rw [show k = w1.toNat by omega] at k2
        exact Or.inr (GT_f new k2)
theorem TSW_0 {L : Nat} {g : Nat → Int} {n c o : Int} {s d u : gH} {a : Nat} (hs : SRC s g n) (hc : c = nxb s) (h1 : c ≠ 58) (sm_ : RTW L g n s d 1 o (some a)) (hw : gp_I d 46 3 = gp_I s 46 3 ∧ 0 ≤ gp_I s 46 3) (h100 : gp_I s 46 7 < 0 ∧ gp_I d 46 7 < 0 → gp_I d 46 3 < 100) (hg : HGW L d u a) (e : SAM d u) (fr : ∀ x, GT L d (some a) x → GT L u (some a) x) : TSW L g n s u o := by
  refine ⟨fun q => ?_, fun f => ?_⟩
  · have z := sm_.1 q
    exact ⟨e.1.trans z.1, e.2.1.trans z.2.1, e.2.2.trans z.2.2⟩
  obtain ⟨N, q, y, z1, z2, z3, z4⟩ := sm_.2 f
  have nx : nxg g n (gp_I s 46 6) ≠ 58 := by rw [← hs.1, ← hs.2, ← nxb_g f, ← hc]; exact h1
  refine ⟨(q.1, q.2.1, NV q.2.1 q.2.2.2.1 (2 ^ q.2.2.1), q.2.2.2.1, 0), e.1.trans z1, ?_, e.2.2.trans z3, rfl, fun ok => ?_, fun M w hw2 => ⟨N + M + 1, RZ3 (Or.inr ⟨nx, q, RDZ_le y (by omega), RDZ_le hw2 (by omega)⟩)⟩⟩
  · unfold FTE at z2 ⊢
    rw [e.2.1]; exact z2
  · have ok' : OK5 q := ok
    have h := hg.2 (h100 ⟨f, (FTE_lt z2).mpr ok'.1⟩)
    have new : PGT L u (gp_I d 46 3).toNat q.2.2.1 := by
      unfold PGT
      rw [h.2]; exact fr _ (z4 ok')
    show PGA L u (gp_I s 46 3) (gp_I u 46 3) ∧ PGD L u (gp_I s 46 3) (gp_I u 46 3) (NV q.2.1 q.2.2.2.1 (2 ^ q.2.2.1))
    rw [NV_ok ok']
    have b := PG_0 (L := L) (t := u) (w := gp_I s 46 3) (v := gp_I s 46 3) rfl
    have z := PG_s (u := u) (t := u) (w2 := gp_I u 46 3) (v := q.2.2.1) ⟨hw.2, Int.le_refl _⟩ b.1 b.2 (fun k x _ hx => hx) (by omega) (by rw [← hw.1]; exact new)
    rw [Nat.zero_or] at z
    exact z
theorem TSW_s {L : Nat} {g : Nat → Int} {n c o : Int} {s u u1 d t : gH} {a : Nat} (h : TSW L g n s u o) (hu : SRC u g n) (hc : c = nxb u) (h1 : c = 44) (eu : gp_I u1 46 6 = gp_I u 46 6 + 1 ∧ gp_I u1 46 7 = gp_I u 46 7 ∧ gp_I u1 46 8 = gp_I u 46 8) (sm_ : RTW L g n u1 d 1 o (some a)) (hw : gp_I d 46 3 = gp_I u 46 3 ∧ 0 ≤ gp_I s 46 3 ∧ gp_I s 46 3 ≤ gp_I u 46 3) (h100 : gp_I u1 46 7 < 0 ∧ gp_I d 46 7 < 0 → gp_I d 46 3 < 100) (hg : HGW L d t a) (e : SAM d t) (fr : ∀ x, GT L d (some a) x → GT L t (some a) x) (fr2 : ∀ (k x : Nat), (k : Int) < gp_I u 46 3 → PGT L u k x → PGT L t k x) : TSW L g n s t o := by
  have x := nxs hu hc (by omega)
  have f0 : gp_I s 46 7 < 0 := by
    by_cases q : gp_I s 46 7 < 0
    · exact q
    · have := (h.1 (by omega)).2.1; omega
  refine ⟨fun q => by omega, fun _ => ?_⟩
  obtain ⟨q, z1, z2, z3, z4, z5, k⟩ := h.2 f0
  obtain ⟨N, q2, y, w1, w2, w3, w4⟩ := sm_.2 (by omega)
  have ei : IN5 u1 = (q.1 + 1, -1, 0, q.2.2.2.1, 0) := by unfold IN5; rw [eu.1, eu.2.2, z1, z3]
  rw [ei] at y
  have qf := (FTE_lt z2).mp x.1
  refine ⟨(q2.1, q2.2.1, NV q2.2.1 q2.2.2.2.1 (q.2.2.1 ||| 2 ^ q2.2.2.1), q2.2.2.2.1, 0), e.1.trans w1, ?_, e.2.2.trans w3, rfl, fun ok => ?_, fun M w hw2 => k (N + M + 1) w (RZ4 (Or.inr ⟨⟨qf, by rw [← z1, x.2]; exact h1⟩, q2, RDZ_le y (by omega), RDZ_le hw2 (by omega)⟩))⟩
  · unfold FTE at w2 ⊢
    rw [e.2.1]; exact w2
  · have ok2 : OK5 q2 := ok
    have okq : OK5 q := ⟨qf, by
      by_cases c9 : q.2.2.2.1 = 0
      · exact c9
      · exact absurd ok2.2 (RDZ_tr _ _ _ _ _ y c9)⟩
    have hh := hg.2 (h100 ⟨by omega, (FTE_lt w2).mpr ok2.1⟩)
    have new : PGT L t (gp_I d 46 3).toNat q2.2.2.1 := by
      unfold PGT
      rw [hh.2]; exact fr _ (w4 ok2)
    show PGA L t (gp_I s 46 3) (gp_I t 46 3) ∧ PGD L t (gp_I s 46 3) (gp_I t 46 3) (NV q2.2.1 q2.2.2.2.1 (q.2.2.1 ||| 2 ^ q2.2.2.1))
    rw [NV_ok ok2]
    have b := z5 okq
    exact PG_s (w1 := gp_I u 46 3) ⟨hw.2.1, hw.2.2⟩ b.1 b.2 fr2 (by omega) (by rw [← hw.1]; exact new)
theorem TSW_e {L : Nat} {g : Nat → Int} {n o : Int} {s u : gH} (h : TSW L g n s u o) (hu : SRC u g n) (hx : nxb u ≠ 44 ∨ n ≤ gp_I u 46 6) : SDW L g n s u o 0 := ⟨h.1, fun f => by
  obtain ⟨q, z1, z2, z3, z4, z5, k⟩ := h.2 f
  have st : ¬ (q.2.1 < 0 ∧ nxg g n q.1 = 44) := fun c => by
    have f2 := (FTE_lt z2).mpr c.1
    rcases hx with x | x
    · rw [nxb_g f2, hu.1, hu.2, z1] at x
      exact x c.2
    · have := c.2
      unfold nxg at this
      rw [if_neg (by rw [← z1]; omega)] at this
      omega
  obtain ⟨M, y⟩ := k 1 q (RZ4 (Or.inl ⟨st, rfl⟩))
  exact ⟨M, q, y, z1, z2, z3, fun _ => ⟨by omega, by omega, by omega⟩, z5⟩⟩
/-- a frame -/
theorem F_ok {L : Nat} {g : Nat → Int} {n o ln rn : Int} {s d1 d2 d3 d4 : gH} (hd1 : SRC d1 g n) (hd3 : SRC d3 g n) (a : SDW L g n s d1 o ln) (e1 : EXW d1 d2 124) (e18 : gp_I d2 46 8 = gp_I d1 46 8 ∧ gp_I d2 46 3 = gp_I d1 46 3) (b : SDW L g n d2 d3 o rn) (e2 : EXW d3 d4 62) (e28 : gp_I d4 46 8 = gp_I d3 46 8 ∧ gp_I d4 46 3 = gp_I d3 46 3) (n1 : 0 ≤ gp_I d1 46 6) (n3 : 0 ≤ gp_I d3 46 6) (fr1 : ∀ (k x : Nat), (k : Int) < gp_I d1 46 3 → PGT L d1 k x → PGT L d4 k x) (fr3 : ∀ k x, PGT L d3 k x → PGT L d4 k x) (w1 : gp_I s 46 3 ≤ gp_I d1 46 3 ∧ gp_I d2 46 3 ≤ gp_I d3 46 3) (ok : gp_I d4 46 7 < 0 ∧ gp_I d4 46 8 = 0) (f : gp_I s 46 7 < 0) : ∃ N qa qb, RDZ g n N 3 o (IN5 s) qa ∧ RDZ g n N 3 o (qa.1 + 1, -1, 0, qa.2.2.2.1, 0) qb ∧ qa.2.1 < 0 ∧ nxg g n qa.1 = 124 ∧ qb.2.1 < 0 ∧ nxg g n qb.1 = 62 ∧ qb.2.2.2.1 = 0 ∧ gp_I d4 46 6 = qb.1 + 1 ∧ ln = qa.2.2.2.2 ∧ rn = qb.2.2.2.2 ∧ ((-999 ≤ ln ∧ ln ≤ 999) ∧ -999 ≤ rn ∧ rn ≤ 999) ∧ PGA L d4 (gp_I s 46 3) (gp_I d4 46 3) ∧ FMC L d4 (gp_I s 46 3) (gp_I d1 46 3) qa.2.2.1 qb.2.2.1 := by
  obtain ⟨N, qa, y, z1, z2, z3, z4, z5⟩ := a.2 f
  have f3 : gp_I d3 46 7 < 0 := by
    by_cases q : gp_I d3 46 7 < 0
    · exact q
    · have := (e2.1 (by omega)).2; omega
  have f2 : gp_I d2 46 7 < 0 := by
    by_cases q : gp_I d2 46 7 < 0
    · exact q
    · have := (b.1 (by omega)).2.1; omega
  have f1 : gp_I d1 46 7 < 0 := by
    by_cases q : gp_I d1 46 7 < 0
    · exact q
    · have := (e1.1 (by omega)).2; omega
  have x1 := e1.2 f1
  rw [hd1.1, hd1.2] at x1
  rcases x1 with ⟨x1, x2, x3⟩ | ⟨x1, x2, x3⟩
  · obtain ⟨M, qb, y2, v1, v2, v3, v4, v5⟩ := b.2 f2
    have ei : IN5 d2 = (qa.1 + 1, -1, 0, qa.2.2.2.1, 0) := by unfold IN5; rw [x2, e18.1, z1, z3]
    rw [ei] at y2
    have x4 := e2.2 f3
    rw [hd3.1, hd3.2] at x4
    rcases x4 with ⟨x4, x5, x6⟩ | ⟨x4, x5, x6⟩
    · have qaf := (FTE_lt z2).mp f1
      have qbf := (FTE_lt v2).mp f3
      have qb0 : qb.2.2.2.1 = 0 := by omega
      have qa0 : qa.2.2.2.1 = 0 := by
        by_cases c : qa.2.2.2.1 = 0
        · exact c
        · exact absurd qb0 (RDZ_tr _ _ _ _ _ y2 c)
      have pa := z5 ⟨qaf, qa0⟩
      have pb := v5 ⟨qbf, qb0⟩
      have la := z4 qaf
      have lb := v4 qbf
      refine ⟨N + M, qa, qb, RDZ_le y (by omega), RDZ_le y2 (by omega), qaf, by rw [← z1]; exact x1, qbf, by rw [← v1]; exact x4, qb0, by omega, la.1, lb.1, ⟨la.2, lb.2⟩, fun k k0 k1 => ?_, by omega, by omega, fun x => ?_, fun x => ?_⟩
      · by_cases c : (k : Int) < gp_I d1 46 3
        · obtain ⟨w, hw⟩ := pa.1 k k0 c
          exact ⟨w, fr1 k w c hw⟩
        · obtain ⟨w, hw⟩ := pb.1 k (by omega) (by omega)
          exact ⟨w, fr3 k w hw⟩
      · rw [pa.2 x]
        constructor
        · rintro ⟨k, k0, k1, k2⟩; exact ⟨k, k0, k1, fr1 k x k1 k2⟩
        · rintro ⟨k, k0, k1, k2⟩
          obtain ⟨w, hw⟩ := pa.1 k k0 k1
          have e := GT_f (fr1 k w k1 hw) k2
          subst e
          exact ⟨k, k0, k1, hw⟩
      · rw [pb.2 x]
        constructor
        · rintro ⟨k, k0, k1, k2⟩; exact ⟨k, by omega, by omega, fr3 k x k2⟩
        · rintro ⟨k, k0, k1, k2⟩
          obtain ⟨w, hw⟩ := pb.1 k (by omega) (by omega)
          have e := GT_f (fr3 k w hw) k2
          subst e
          exact ⟨k, by omega, by omega, hw⟩
    · omega
  · omega
theorem F_ret {L : Nat} {g : Nat → Int} {n o ln rn : Int} {s d1 d2 d3 d4 t : gH} {r : Option Nat} (hd1 : SRC d1 g n) (hd3 : SRC d3 g n) (a : SDW L g n s d1 o ln) (e1 : EXW d1 d2 124) (e18 : gp_I d2 46 8 = gp_I d1 46 8 ∧ gp_I d2 46 3 = gp_I d1 46 3) (b : SDW L g n d2 d3 o rn) (e2 : EXW d3 d4 62) (e28 : gp_I d4 46 8 = gp_I d3 46 8 ∧ gp_I d4 46 3 = gp_I d3 46 3) (n1 : 0 ≤ gp_I d1 46 6) (n3 : 0 ≤ gp_I d3 46 6) (fr1 : ∀ (k x : Nat), (k : Int) < gp_I d1 46 3 → PGT L d1 k x → PGT L d4 k x) (fr3 : ∀ k x, PGT L d3 k x → PGT L d4 k x) (w1 : gp_I s 46 3 ≤ gp_I d1 46 3 ∧ gp_I d2 46 3 ≤ gp_I d3 46 3) (fm : FMR L d4 t (gp_I s 46 3) (gp_I d1 46 3) ln rn r) (ft : ¬ (gp_I d4 46 7 < 0 ∧ gp_I d4 46 8 = 0) → gp_I t 46 8 = gp_I d4 46 8) (t67 : gp_I t 46 6 = gp_I d4 46 6 ∧ gp_I t 46 7 = gp_I d4 46 7) : RTW L g n s t 5 o r := by
  refine ⟨fun q => ?_, fun f => ?_⟩
  · have z := a.1 q
    have y1 := z.1; have y2 := z.2.1; have y3 := z.2.2
    have z1 := e1.1 (by omega)
    have z2 := b.1 (by omega)
    have y4 := z2.1; have y5 := z2.2.1; have y6 := z2.2.2
    have z3 := e2.1 (by omega)
    have y7 := ft (by omega)
    exact ⟨by omega, by omega, by omega⟩
  by_cases ok : gp_I d4 46 7 < 0 ∧ gp_I d4 46 8 = 0
  · obtain ⟨N, qa, qb, x1, x2, x3, x4, x5, x6, x7, x8, x9, x10, x11, x12, x13⟩ := F_ok hd1 hd3 a e1 e18 b e2 e28 n1 n3 fr1 fr3 w1 ok f
    have m := fm ok qa.2.2.1 qb.2.2.1 x13 x11
    rw [x9, x10] at m
    rcases m with ⟨m1, m2⟩ | ⟨m1, m2, m3⟩
    · exact ⟨N + 1, (qb.1 + 1, -1, 0, 4, 0), RZ5 ⟨qa, x1, Or.inr (Or.inr ⟨x3, x4, qb, x2, Or.inr (Or.inr ⟨x5, x6, rfl, rfl, rfl, Or.inr ⟨x7, Or.inl ⟨m1, rfl, rfl⟩⟩⟩)⟩)⟩, t67.1.trans x8, Or.inl ⟨by omega, by show (-1 : Int) < 0; decide⟩, m2, fun q => by have : (4 : Int) = 0 := q.2; omega⟩
    · exact ⟨N + 1, (qb.1 + 1, -1, frv qa.2.2.1 qb.2.2.1 qa.2.2.2.2 qb.2.2.2.2, 0, 0), RZ5 ⟨qa, x1, Or.inr (Or.inr ⟨x3, x4, qb, x2, Or.inr (Or.inr ⟨x5, x6, rfl, rfl, rfl, Or.inr ⟨x7, Or.inr ⟨m1, rfl, rfl⟩⟩⟩)⟩)⟩, t67.1.trans x8, Or.inl ⟨by omega, by show (-1 : Int) < 0; decide⟩, m2, fun _ => m3⟩
  have t8 := ft ok
  obtain ⟨N, qa, y, z1, z2, z3, z4, z5⟩ := a.2 f
  by_cases f1 : gp_I d1 46 7 < 0
  · have qaf := (FTE_lt z2).mp f1
    have x1 := e1.2 f1
    rw [hd1.1, hd1.2] at x1
    rcases x1 with ⟨x1, x2, x3⟩ | ⟨x1, x2, x3⟩
    · obtain ⟨M, qb, y2, v1, v2, v3, v4, v5⟩ := b.2 (by omega)
      have ei : IN5 d2 = (qa.1 + 1, -1, 0, qa.2.2.2.1, 0) := by unfold IN5; rw [x2, e18.1, z1, z3]
      rw [ei] at y2
      have na : nxg g n qa.1 = 124 := by rw [← z1]; exact x1
      by_cases f3 : gp_I d3 46 7 < 0
      · have qbf := (FTE_lt v2).mp f3
        have x4 := e2.2 f3
        rw [hd3.1, hd3.2] at x4
        rcases x4 with ⟨x4, x5, x6⟩ | ⟨x4, x5, x6⟩
        · exact ⟨N + M + 1, (qb.1 + 1, -1, 0, qb.2.2.2.1, 0), RZ5 ⟨qa, RDZ_le y (by omega), Or.inr (Or.inr ⟨qaf, na, qb, RDZ_le y2 (by omega), Or.inr (Or.inr ⟨qbf, by rw [← v1]; exact x4, rfl, rfl, rfl, Or.inl ⟨by omega, rfl, rfl⟩⟩)⟩)⟩, by show gp_I t 46 6 = qb.1 + 1; omega, Or.inl ⟨by omega, by show (-1 : Int) < 0; decide⟩, by show gp_I t 46 8 = qb.2.2.2.1; omega, fun q => by have : qb.2.2.2.1 = 0 := q.2; omega⟩
        · exact ⟨N + M + 1, (qb.1, qb.1, 0, qb.2.2.2.1, 0), RZ5 ⟨qa, RDZ_le y (by omega), Or.inr (Or.inr ⟨qaf, na, qb, RDZ_le y2 (by omega), Or.inr (Or.inl ⟨qbf, by rw [← v1]; exact x4, rfl⟩)⟩)⟩, by show gp_I t 46 6 = qb.1; omega, Or.inr ⟨by show 0 ≤ qb.1; omega, by show gp_I t 46 7 = qb.1; omega⟩, by show gp_I t 46 8 = qb.2.2.2.1; omega, fun q => by have : qb.1 < 0 := q.1; omega⟩
      · have x4 := e2.1 (by omega)
        have qbf : 0 ≤ qb.2.1 := by
          by_cases c : qb.2.1 < 0
          · exact absurd ((FTE_lt v2).mpr c) f3
          · omega
        exact ⟨N + M + 1, (qb.1, qb.2.1, 0, qb.2.2.2.1, 0), RZ5 ⟨qa, RDZ_le y (by omega), Or.inr (Or.inr ⟨qaf, na, qb, RDZ_le y2 (by omega), Or.inl ⟨qbf, rfl⟩⟩)⟩, by show gp_I t 46 6 = qb.1; omega, Or.inr ⟨qbf, by show gp_I t 46 7 = qb.2.1; unfold FTE at v2; omega⟩, by show gp_I t 46 8 = qb.2.2.2.1; omega, fun q => by have : qb.2.1 < 0 := q.1; omega⟩
    · have z2' := b.1 (by omega)
      have z3' := e2.1 (by have := z2'.2.1; omega)
      have y4 := z2'.1; have y5 := z2'.2.1; have y6 := z2'.2.2
      exact ⟨N + 1, (qa.1, qa.1, 0, qa.2.2.2.1, 0), RZ5 ⟨qa, y, Or.inr (Or.inl ⟨qaf, by rw [← z1]; exact x1, rfl⟩)⟩, by show gp_I t 46 6 = qa.1; omega, Or.inr ⟨by show 0 ≤ qa.1; omega, by show gp_I t 46 7 = qa.1; omega⟩, by show gp_I t 46 8 = qa.2.2.2.1; omega, fun q => by have : qa.1 < 0 := q.1; omega⟩
  · have z1' := e1.1 (by omega)
    have z2' := b.1 (by omega)
    have z3' := e2.1 (by have := z2'.2.1; omega)
    have y4 := z2'.1; have y5 := z2'.2.1; have y6 := z2'.2.2
    have qaf : 0 ≤ qa.2.1 := by
      by_cases c : qa.2.1 < 0
      · exact absurd ((FTE_lt z2).mpr c) f1
      · omega
    exact ⟨N + 1, (qa.1, qa.2.1, 0, qa.2.2.2.1, 0), RZ5 ⟨qa, y, Or.inl ⟨qaf, rfl⟩⟩, by show gp_I t 46 6 = qa.1; omega, Or.inr ⟨qaf, by show gp_I t 46 7 = qa.2.1; unfold FTE at z2; omega⟩, by show gp_I t 46 8 = qa.2.2.2.1; omega, fun q => by have : qa.2.1 < 0 := q.1; omega⟩
