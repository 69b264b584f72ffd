/-! strips at the reference -/
def cod (x : Int) : Int := if x = -1 then 10 else if x = -2 then 11 else x
def okc (x : Int) : Prop := x = -1 ∨ x = -2 ∨ (0 ≤ x ∧ x ≤ 9)
def PV (v : BitVec 64) (f : Nat → Int) (n : Nat) : Prop := ∀ j : Nat, j < n → okc (f j) ∧ cl v j = cod (f j)
theorem PV_mv {v : BitVec 64} {f : Nat → Int} {n c to : Nat} (h : PV v f n) (hn : n ≤ 8) (hc : c < n) (ht : to < n) (ne : c ≠ to) : PV (wt (wt v c 0) to (cl v c)) (mvd f c to) n := fun j hj => by
  have hr := cl_rng v c
  have w := cl_wt (x := wt v c 0) (k := (to : Int)) (v := cl v c) (j := (j : Int)) (by omega) hr (by omega)
  have w2 := cl_wt (x := v) (k := (c : Int)) (v := 0) (j := (j : Int)) (by omega) (by omega) (by omega)
  by_cases a : j = to
  · subst a
    rw [mvd_t, w.2]
    exact h c hc
  · by_cases b : j = c
    · subst b
      rw [mvd_i ne, w.1 (by omega), w2.2]
      exact ⟨Or.inr (Or.inr (by omega)), rfl⟩
    · rw [mvd_o a b, w.1 (by omega), w2.1 (by omega)]
      exact h j hj
/-- the far ones at a step -/
theorem far_t {f : Nat → Int} {n c to : Nat} (hc : c < n) (h : tgt f n c = some to) : far (mvd f c to) n n = far f n n - 1 := by
  have q := tgt_s h hc
  rcases q.2.2 with ⟨a, b⟩ | ⟨a, b⟩
  · subst b; exact far_L q.1 a q.2.1
  · subst b; exact far_R hc a q.2.1
def PLP (s : gH) (p0 : BitVec 64) (p1 : Int) (n : Nat) (f : Nat → Int) (P : AP) (N : Nat) : Prop := (n : Int) = gp_I s 74 46 ∧ n ≤ 8 ∧ PV p0 f n ∧ RVm s P ∧ GP P ∧ P.1 ≤ 60 ∧ NBP72 n f p1 ∧ gp_I s 74 15 = 0 ∧ (N : Int) = far f n n
def PLX (s t : gH) (p0 : BitVec 64) (p1 r : Int) : Prop := ∀ n f P N, PLP s p0 p1 n f P N → (∃ Q k, pw n (N + 1) f p1 P = some (Q, k) ∧ RVm t Q ∧ r = (k : Nat) ∧ gp_I t 74 15 = 0) ∨ (pw n (N + 1) f p1 P = none ∧ gp_I t 74 15 = 1)
def PLI (s u : gH) (p0 : BitVec 64) (p1 c : Int) (l r : BitVec 64) (ly hl hr : Int) : Prop := ∀ n f P N, PLP s p0 p1 n f P N → ly = lay f c.toNat ∧ ((∃ Q, wlp (pw n N) f n p1 P c.toNat = some (Q, l, r) ∧ RVm u Q ∧ gp_I u 74 15 = 0 ∧ (hl = 0 → l = 0#64) ∧ (hr = 0 → r = 0#64)) ∨ (wlp (pw n N) f n p1 P c.toNat = none ∧ gp_I u 74 15 = 1))
theorem PLI_0 {s : gH} {p0 : BitVec 64} {p1 : Int} : PLI s s p0 p1 0 0#64 0#64 0 0 0 := fun n f P N h => ⟨rfl, Or.inl ⟨P, rfl, h.2.2.2.1, h.2.2.2.2.2.2.2.1, fun _ => rfl, fun _ => rfl⟩⟩
theorem wlp_n {rec : RCW} {f : Nat → Int} {n : Nat} {p : Int} {P0 : AP} {c : Nat} (h : wlp rec f n p P0 c = none) : wlp rec f n p P0 (c + 1) = none := by
  unfold wlp; rw [h]
theorem wlp_no {rec : RCW} {f : Nat → Int} {n : Nat} {p : Int} {P0 : AP} {c : Nat} (h : tgt f n c = none) : wlp rec f n p P0 (c + 1) = wlp rec f n p P0 c := by
  have e : wlp rec f n p P0 (c + 1) = match wlp rec f n p P0 c with
    | none => none
    | some (P, l, r) => match tgt f n c with
      | none => some (P, l, r)
      | some to => match rec (mvd f c to) (if f c = -1 then p + f to else p - f to) P with
        | none => none
        | some (Q, k) => some (Q, (if f c = -1 then l ||| 1#64 <<< k else l), (if f c = -1 then r else r ||| 1#64 <<< k)) := rfl
  rw [e, h]
  cases wlp rec f n p P0 c with
  | none => rfl
  | some z => rfl
theorem wlp_end {n N : Nat} {f : Nat → Int} {p : Int} {P : AP} (h : wlp (pw n N) f n p P n = none) : pw n (N + 1) f p P = none := by
  unfold pw
  rw [h]
theorem wlp_pw {n N : Nat} {f : Nat → Int} {p : Int} {P Q : AP} {l r : BitVec 64} (h : wlp (pw n N) f n p P n = some (Q, l, r)) : pw n (N + 1) f p P = aaddc Q (nx l r (p - lay f n) (p + lay f n)) := by
  have e : pw n (N + 1) f p P = match wlp (pw n N) f n p P n with
    | none => none
    | some (Q, l, r) => aaddc Q (nx l r (p - lay f n) (p + lay f n)) := rfl
  rw [e, h]
theorem lay_le {f : Nat → Int} {i : Nat} : ∀ {j : Nat}, i ≤ j → lay f i ≤ lay f j
  | 0, h => by rw [show i = 0 by omega]; exact Int.le_refl _
  | j + 1, h => by
    by_cases c : i = j + 1
    · rw [c]; exact Int.le_refl _
    · have := lay_le (f := f) (i := i) (j := j) (by omega)
      have e : lay f (j + 1) = lay f j + (if f j < 0 then 0 else f j) := rfl
      rw [e]
      split <;> omega
theorem lay_s {f : Nat → Int} {c : Nat} {x : Int} (ho : okc (f c)) (hx : x = cod (f c)) : lay f (c + 1) = lay f c + (if x < 10 then x else 0) := by
  have e : lay f (c + 1) = lay f c + (if f c < 0 then 0 else f c) := rfl
  rw [e, hx]
  unfold cod
  unfold okc at ho
  rcases ho with q | q | q
  · rw [q]; rfl
  · rw [q]; rfl
  · rw [if_neg (show ¬ f c < 0 by omega), if_neg (show ¬ f c = -1 by omega), if_neg (show ¬ f c = -2 by omega), if_pos (show f c < 10 by omega)]
theorem cod_10 {x : Int} (h : okc x) : (cod x = 10 ↔ x = -1) ∧ (cod x = 11 ↔ x = -2) ∧ (cod x ≤ 9 ↔ 0 ≤ x) ∧ (0 ≤ x → cod x = x) := by
  unfold cod
  unfold okc at h
  by_cases a : x = -1
  · rw [if_pos a]; omega
  · rw [if_neg a]
    by_cases b : x = -2
    · rw [if_pos b]; omega
    · rw [if_neg b]; omega
theorem PLI_ly {s : gH} {p0 : BitVec 64} {p1 c ly ly2 : Int} {n N : Nat} {f : Nat → Int} {P : AP} (h : PLP s p0 p1 n f P N) (h0 : 0 ≤ c) (hc : c < gp_I s 74 46) (e : ly = lay f c.toNat) (e2 : ly2 = gp_wr (ly + (if cl p0 c < 10 then cl p0 c else 0))) : ly2 = lay f (c + 1).toNat := by
  obtain ⟨a1, a2, a3, a4, a5, a6, a7, a8⟩ := h
  have q := a3 c.toNat (by omega)
  rw [show ((c.toNat : Nat) : Int) = c by omega] at q
  have z := lay_s q.1 q.2
  have m := lay_le (f := f) (i := c.toNat + 1) (j := n) (by omega)
  have nn := lay_nn f (c.toNat + 1)
  unfold NBP72 at a7
  rw [show (c + 1).toNat = c.toNat + 1 by omega, z, e2, e]
  rw [z] at m nn
  exact gp_wr_id (by omega) (by omega)
theorem PLI_a {s u : gH} {p0 : BitVec 64} {p1 c ly ly2 hl hr : Int} {l r : BitVec 64} (h : PLI s u p0 p1 c l r ly hl hr) (h0 : 0 ≤ c) (hc : c < gp_I s 74 46) (e2 : ly2 = gp_wr (ly + (if cl p0 c < 10 then cl p0 c else 0))) (hm : ((cl p0 c = 10 → c + 1 < gp_I s 74 46 → 9 < cl p0 (c + 1)) ∧ (cl p0 c = 11 → 1 ≤ c → 9 < cl p0 (c - 1))) ∨ gp_I u 74 15 ≠ 0) : PLI s u p0 p1 (c + 1) l r ly2 hl hr := fun n f P N hp => by
  obtain ⟨e, h⟩ := h n f P N hp
  refine ⟨PLI_ly hp h0 hc e e2, ?_⟩
  obtain ⟨a1, a2, a3, a4, a5, a6, a7, a8⟩ := hp
  rw [show (c + 1).toNat = c.toNat + 1 by omega]
  rcases h with ⟨Q, w, h1, h2, h3, h4⟩ | ⟨w, h1⟩
  · rcases hm with ⟨m1, m2⟩ | m
    · have q := a3 c.toNat (by omega)
      rw [show ((c.toNat : Nat) : Int) = c by omega] at q
      have k := cod_10 q.1
      rw [q.2] at m1 m2
      have ht : tgt f n c.toNat = none := by
        unfold tgt
        rw [if_neg, if_neg]
        · rintro ⟨b1, b2, b3⟩
          have q2 := a3 (c.toNat - 1) (by omega)
          have z := m2 (k.2.1.mpr b1) (by omega)
          rw [show c - 1 = ((c.toNat - 1 : Nat) : Int) by omega, q2.2] at z
          have := (cod_10 q2.1).2.2.1.mpr b3
          omega
        · rintro ⟨b1, b2, b3⟩
          have q2 := a3 (c.toNat + 1) b2
          have z := m1 (k.1.mpr b1) (by omega)
          rw [show c + 1 = ((c.toNat + 1 : Nat) : Int) by omega, q2.2] at z
          have := (cod_10 q2.1).2.2.1.mpr b3
          omega
      exact Or.inl ⟨Q, (wlp_no ht).trans w, h1, h2, h3, h4⟩
    · exact absurd h2 m
  · exact Or.inr ⟨wlp_n w, h1⟩
theorem wlp_e (rec : RCW) (f : Nat → Int) (n : Nat) (p : Int) (P0 : AP) (c : Nat) : wlp rec f n p P0 (c + 1) = match wlp rec f n p P0 c with
    | none => none
    | some (P, l, r) => match tgt f n c with
      | none => some (P, l, r)
      | some to => match rec (mvd f c to) (if f c = -1 then p + f to else p - f to) P with
        | none => none
        | some (Q, k) => some (Q, (if f c = -1 then l ||| 1#64 <<< k else l), (if f c = -1 then r else r ||| 1#64 <<< k)) := rfl
theorem wlp_yes {rec : RCW} {f : Nat → Int} {n : Nat} {p : Int} {P0 Q Q2 : AP} {c to k : Nat} {l r : BitVec 64} (w : wlp rec f n p P0 c = some (Q, l, r)) (ht : tgt f n c = some to) (h : rec (mvd f c to) (if f c = -1 then p + f to else p - f to) Q = some (Q2, k)) : wlp rec f n p P0 (c + 1) = some (Q2, (if f c = -1 then l ||| 1#64 <<< k else l), (if f c = -1 then r else r ||| 1#64 <<< k)) := by
  rw [wlp_e, w]
  simp only [ht, h]
theorem wlp_fail {rec : RCW} {f : Nat → Int} {n : Nat} {p : Int} {P0 Q : AP} {c to : Nat} {l r : BitVec 64} (w : wlp rec f n p P0 c = some (Q, l, r)) (ht : tgt f n c = some to) (h : rec (mvd f c to) (if f c = -1 then p + f to else p - f to) Q = none) : wlp rec f n p P0 (c + 1) = none := by
  rw [wlp_e, w]
  simp only [ht, h]
theorem wlp_all {n N c : Nat} {f : Nat → Int} {p : Int} {P Q : AP} {l r : BitVec 64} (hI : NBP72 n f p) (g : GP P) (g60 : P.1 ≤ 60) (hc : c ≤ n) (h : wlp (pw n N) f n p P c = some (Q, l, r)) : GP Q ∧ Q.1 ≤ 60 :=
  wlp_keep (J := fun P => GP P ∧ P.1 ≤ 60) (I := NBP72 n) (fun f p P Q k hI hJ h => pw_keep (J := fun P => GP P ∧ P.1 ≤ 60) (I := NBP72 n) (fun f p P l r Q k hI hJ h => ⟨aaddc_GP hJ.1 h, aaddc_60 hJ.2 h⟩) NBP72_s N f p P Q k hI hJ h) NBP72_s hI ⟨g, g60⟩ hc h
theorem PLI_b {s u t : gH} {p0 : BitVec 64} {p1 c to pts res ly ly2 hl hr hl2 hr2 : Int} {l r l2 r2 : BitVec 64} (h : PLI s u p0 p1 c l r ly hl hr) (h0 : 0 ≤ c) (hc : c < gp_I s 74 46) (e2 : ly2 = gp_wr (ly + (if cl p0 c < 10 then cl p0 c else 0))) (hmv : (cl p0 c = 10 ∧ to = c + 1) ∨ (cl p0 c = 11 ∧ to = c - 1)) (hto : 0 ≤ to ∧ to < gp_I s 74 46) (h9 : cl p0 to ≤ 9) (h15 : gp_I u 74 15 = 0) (h46 : gp_I u 74 46 = gp_I s 74 46) (hP : PLX u t (wt (wt p0 c 0) to (cl p0 c)) pts res) (hpts : -1000 ≤ p1 ∧ p1 ≤ 1000 → pts = p1 + (if cl p0 c = 10 then cl p0 to else - cl p0 to)) (hL : l2 = if cl p0 c = 10 then l ||| 1#64 <<< Int.toNat (res % 64) else l) (hR : r2 = if cl p0 c = 11 then r ||| 1#64 <<< Int.toNat (res % 64) else r) (hl' : hl2 = 0 → hl = 0 ∧ cl p0 c ≠ 10) (hr' : hr2 = 0 → hr = 0 ∧ cl p0 c ≠ 11) : PLI s t p0 p1 (c + 1) l2 r2 ly2 hl2 hr2 := fun n f P N hp => by
  obtain ⟨e, h⟩ := h n f P N hp
  refine ⟨PLI_ly hp h0 hc e e2, ?_⟩
  obtain ⟨a1, a2, a3, a4, a5, a6, a7, a8, a9⟩ := hp
  rw [show (c + 1).toNat = c.toNat + 1 by omega]
  rcases h with ⟨Q, w, h1, h2, h3, h4⟩ | ⟨w, h1⟩
  · have qc := a3 c.toNat (by omega)
    have qt := a3 to.toNat (by omega)
    rw [show ((c.toNat : Nat) : Int) = c by omega] at qc
    rw [show ((to.toNat : Nat) : Int) = to by omega] at qt
    have kc := cod_10 qc.1
    have kt := cod_10 qt.1
    have ft : 0 ≤ f to.toNat := kt.2.2.1.mp (by rw [← qt.2]; exact h9)
    have et : cl p0 to = f to.toNat := by rw [qt.2]; exact kt.2.2.2 ft
    have c10 : cl p0 c = 10 ↔ f c.toNat = -1 := by rw [qc.2]; exact kc.1
    have c11 : cl p0 c = 11 ↔ f c.toNat = -2 := by rw [qc.2]; exact kc.2.1
    have ht : tgt f n c.toNat = some to.toNat := by
      unfold tgt
      rcases hmv with ⟨m1, m2⟩ | ⟨m1, m2⟩
      · have e3 : to.toNat = c.toNat + 1 := by omega
        rw [e3] at ft
        rw [if_pos ⟨c10.mp m1, by omega, ft⟩, e3]
      · have e3 : to.toNat = c.toNat - 1 := by omega
        rw [e3] at ft
        have := c11.mp m1
        rw [if_neg (fun q => by have := q.1; omega), if_pos ⟨this, by omega, ft⟩, e3]
    have fr := far_t (show c.toNat < n by omega) ht
    have fn := far_nn (mvd f c.toNat to.toNat) n n (Nat.le_refl _)
    obtain ⟨N1, rfl⟩ : ∃ N1, N = N1 + 1 := ⟨N - 1, by omega⟩
    have ep : pts = if f c.toNat = -1 then p1 + f to.toNat else p1 - f to.toNat := by
      have := lay_nn f n
      have z := a7
      unfold NBP72 at z
      rw [hpts (by omega), et]
      by_cases b : f c.toNat = -1
      · rw [if_pos (c10.mpr b), if_pos b]
      · rw [if_neg (fun q => b (c10.mp q)), if_neg b]; omega
    have g := wlp_all a7 a5 a6 (show c.toNat ≤ n by omega) w
    have pv := PV_mv a3 a2 (show c.toNat < n by omega) (show to.toNat < n by omega) (by omega)
    rw [show ((c.toNat : Nat) : Int) = c by omega, show ((to.toNat : Nat) : Int) = to by omega] at pv
    have x := hP n (mvd f c.toNat to.toNat) Q N1 ⟨a1.trans h46.symm, a2, pv, h1, g.1, g.2, by rw [ep]; exact NBP72_s f p1 c.toNat to.toNat a7 (by omega) ht, h2, by omega⟩
    rw [ep] at x
    rcases x with ⟨Q2, k, x1, x2, x3, x4⟩ | ⟨x1, x2⟩
    · have kk := (pw_ext n _ _ _ _ _ _ x1).2
      have k60 := (pw_keep (J := fun P => GP P ∧ P.1 ≤ 60) (I := NBP72 n) (fun f p P l r Q k hI hJ h => ⟨aaddc_GP hJ.1 h, aaddc_60 hJ.2 h⟩) NBP72_s _ _ _ _ _ _ (NBP72_s f p1 c.toNat to.toNat a7 (by omega) ht) g x1).2
      have rk : Int.toNat (res % 64) = k := by omega
      have y := wlp_yes w ht x1
      rw [rk] at hL hR
      refine Or.inl ⟨Q2, ?_, x2, x4, fun q => ?_, fun q => ?_⟩
      · rw [y, hL, hR]
        rcases hmv with ⟨m1, m2⟩ | ⟨m1, m2⟩
        · rw [if_pos (c10.mp m1), if_pos (c10.mp m1), if_pos m1, if_neg (by omega)]
        · have := c11.mp m1
          rw [if_neg (by omega), if_neg (by omega), if_neg (by omega), if_pos m1]
      · have z := hl' q
        rw [hL, if_neg z.2]; exact h3 z.1
      · have z := hr' q
        rw [hR, if_neg z.2]; exact h4 z.1
    · exact Or.inr ⟨wlp_fail w ht x1, x2⟩
  · omega
theorem RV_nos {s : gH} {P : AP} {l r : BitVec 64} {a b : Int} (h : RVm s P) (g : GP P) (n : NOS s l r a b) : fnd P.2 (nx l r a b) P.1 = none := by
  cases q : fnd P.2 (nx l r a b) P.1 with
  | none => rfl
  | some k =>
    have z := fnd_some q
    have e := h.1
    exact absurd ((RV_same h g z.1 l r a b).mpr z.2) (n k (by omega))
theorem PLX_f {s u : gH} {p0 : BitVec 64} {p1 c ly hl hr x : Int} {l r : BitVec 64} (h : PLI s u p0 p1 c l r ly hl hr) (hc : c = gp_I s 74 46) (h15 : gp_I u 74 15 ≠ 0) : PLX s u p0 p1 x := fun n f P N hp => by
  obtain ⟨e, h⟩ := h n f P N hp
  rw [show c.toNat = n by have := hp.1; omega] at h
  rcases h with ⟨Q, w, h1, h2, h3, h4⟩ | ⟨w, h1⟩
  · exact absurd h2 h15
  · exact Or.inr ⟨wlp_end w, h1⟩
theorem PLX_m {s u t : gH} {p0 : BitVec 64} {p1 c ly hl hr a b res : Int} {l r l2 r2 : BitVec 64} (h : PLI s u p0 p1 c l r ly hl hr) (hc : c = gp_I s 74 46) (h15 : gp_I u 74 15 = 0) (m : MDX u t l2 r2 a b res) (hL : l2 = l ∨ (hl = 0 ∧ l2 = 0#64)) (hR : r2 = r ∨ (hr = 0 ∧ r2 = 0#64)) (ha : a = gp_wr (p1 - ly)) (hb : b = gp_wr (p1 + ly)) (m1 : gp_I t 74 15 = gp_I u 74 15 ∨ (gp_I t 74 15 = 1 ∧ gp_I u 81 20 = 60 ∧ NOS u l2 r2 a b)) (m2 : gp_I u 81 20 = 60 → NOS u l2 r2 a b → gp_I t 74 15 = 1) : PLX s t p0 p1 res := fun n f P N hp => by
  obtain ⟨e, h⟩ := h n f P N hp
  rw [show c.toNat = n by have := hp.1; omega] at h e
  obtain ⟨a1, a2, a3, a4, a5, a6, a7, a8, a9⟩ := hp
  rcases h with ⟨Q, w, h1, h2, h3, h4⟩ | ⟨w, h1⟩
  · have g := wlp_all a7 a5 a6 (Nat.le_refl n) w
    have nn := lay_nn f n
    have z := a7
    unfold NBP72 at z
    have eL : l2 = l := by
      rcases hL with q | q
      · exact q
      · rw [q.2, h3 q.1]
    have eR : r2 = r := by
      rcases hR with q | q
      · exact q
      · rw [q.2, h4 q.1]
    have ea : a = p1 - lay f n := by rw [ha, e]; exact gp_wr_id (by omega) (by omega)
    have eb : b = p1 + lay f n := by rw [hb, e]; exact gp_wr_id (by omega) (by omega)
    subst eL; subst eR; subst ea; subst eb
    rw [wlp_pw w]
    rcases RV_addc h1 g.1 m g.2 with ⟨Q2, k, x1, x2, x3⟩ | ⟨x1, x2, x3⟩
    · refine Or.inl ⟨Q2, k, x1, x2, x3, ?_⟩
      rcases m1 with q | ⟨q1, q2, q3⟩
      · omega
      · have := h1.1
        rw [aaddc_full (RV_nos h1 g.1 q3) (by omega)] at x1
        cases x1
    · exact Or.inr ⟨x1, m2 x2 (fun k hk => x3 k (by omega))⟩
  · omega
def PLWX (m : Nat) : Prop := ∀ (L D : Nat) (K : Option gV → gH → Prop) (s : gH)  (p0 : BitVec 64) (p1 : Int), ((m + 6 ≤ D)) → (MI s) → (MDi s) → (gp_I s 74 15 ≠ 0 → 1 ≤ gp_I s 81 20) → (pm p0 (Int.toNat (gp_I s 74 46)) < m) → (∀ (r : Int), ∀ (t : gH), MI t → gF [76, 77, 78, 79, 80, 81] [15] s t → (0 ≤ r ∧ r ≤ 63) → (MDi t) → (mOut s t) → (r < gp_I t 81 20) → (gp_I s 81 20 ≤ gp_I t 81 20) → (gp_I t 74 15 ≠ 0 → 1 ≤ gp_I t 81 20) → (PLX s t p0 p1 r) → K (some (gp_i r)) t) → gs_C L D 3142 17 [gp_r (some 74), gp_l p0, gp_i p1] s K
set_option maxRecDepth 100000 in
/-- GatheredPointsModel.played -/
theorem vm_playedX (m : Nat) (ihP : PLWX m) : PLWX (m + 1) := by
  intro L D K s p0 p1 hD hs q0 q1 q2 k
  obtain ⟨d, rfl⟩ : ∃ d, D = d + 6 := ⟨D - 6, by omega⟩
  have f_1 := mr81 hs 20
  have f_2 := mr74_15 hs
  have f_3 := mr74_46 hs
  refine s_3142_e _ _ ?_
  have lp_4 : ∀ (n_4 : Nat) (v4_4 : BitVec 64) (v6_4 : BitVec 64) (v8_4 : Int) (v9_4 : Int) (v10_4 : Int) (v11_4 : Int) (v12_4 : gV) (v13_4 : gV) (v14_4 : gV) (v15_4 : gV) (v16_4 : gV) (s_4 : gH), (MI s_4) → (gF [76, 77, 78, 79, 80, 81] [15] s s_4) → (MDi s_4) → (mOut s s_4) → ((-2147483648) ≤ v8_4 ∧ v8_4 ≤ 2147483647) → (0 ≤ v9_4 ∧ v9_4 ≤ 1) → (0 ≤ v10_4 ∧ v10_4 ≤ 1) → (0 ≤ v11_4 ∧ v11_4 ≤ 8) → (gp_I s_4 74 46 = gp_I s 74 46) → (bd v4_4 (gp_I s_4 81 20)) → (bd v6_4 (gp_I s_4 81 20)) → (gp_I s_4 74 15 ≠ 0 → 1 ≤ gp_I s_4 81 20) → (gp_I s 81 20 ≤ gp_I s_4 81 20) → (gp_I s_4 74 46 = gp_I s 74 46) → (PLI s s_4 p0 p1 v11_4 v4_4 v6_4 v8_4 v9_4 v10_4) → (v11_4 ≤ gp_I s 74 46) → (9 - v11_4).toNat < n_4 → gs_E L (d + 6) 3142 18 [gp_r (some 74), gp_l p0, gp_n, gp_i p1, gp_l v4_4, gp_n, gp_l v6_4, gp_n, gp_i v8_4, gp_i v9_4, gp_i v10_4, gp_i v11_4, v12_4, v13_4, v14_4, v15_4, v16_4] [] s_4 K := by
    intro n_4
    induction n_4 with
    | zero => intro v4_4 v6_4 v8_4 v9_4 v10_4 v11_4 v12_4 v13_4 v14_4 v15_4 v16_4 s_4 hs_s_4 hf_s_4 MDi_s_4 mOut_s_4 hv8_4 hv9_4 hv10_4 hv11_4 tk0_4 iv0_4 iv1_4 iv2_4 iv3_4 iv4_4 iv5_4 iv6_4 hm_4; exact absurd hm_4 (Nat.not_lt_zero _)
    | succ n_4 ih_4 =>
      intro v4_4 v6_4 v8_4 v9_4 v10_4 v11_4 v12_4 v13_4 v14_4 v15_4 v16_4 s_4 hs_s_4 hf_s_4 MDi_s_4 mOut_s_4 hv8_4 hv9_4 hv10_4 hv11_4 tk0_4 iv0_4 iv1_4 iv2_4 iv3_4 iv4_4 iv5_4 iv6_4 hm_4
      refine s_3142_18 _ _ _ _ _ _ _ _ _ _ _ _ _ ?_
      have f_5 := mr74_46 hs_s_4
      refine ⟨fun h_6 => ?_, fun h_6 => ?_⟩
      · refine vm_cellAt _ _ (by omega) (fun x_7 p_8 p_9 => ⟨_, rfl, ?_⟩)
        refine ⟨fun h_10 => ?_, fun h_10 => ?_⟩
        · refine s_3142_50 _ _ _ _ _ _ _ _ _ _ _ _ _ _ _ ?_
          have w_11 := wr_rng (v8_4 + x_7)
          refine ⟨fun h_12 => ?_, fun h_12 => ?_⟩
          · exfalso; omega
          · refine ⟨fun h_13 => ?_, fun h_13 => ?_⟩
            · exfalso; omega
            · refine s_3142_82 _ _ _ _ _ _ _ _ _ _ _ _ _ _ ?_
              have w_14 := gz_oi ((-1)) (by omega)
              have f_15 := mr74_46 hs_s_4
              try rw [show gp_wr ((gp_I s_4 74 46) - 1) = (gp_I s_4 74 46) - 1 from gp_wr_id (by omega) (by omega)]
              have w_16 := gz_oi ((gp_I s_4 74 46) - 1) (by omega)
              refine vm_isIn _ _ _ (fun x_17 p_18 p_19 => ⟨_, rfl, ?_⟩)
              have w_20 : BitVec.toInt (0#64) = 0 := by decide
              refine ⟨fun h_21 => ?_, fun h_21 => ?_⟩
              · refine s_3142_249 _ _ _ _ _ _ _ _ _ _ _ _ _ ?_
                try rw [show gp_wr (v11_4 + 1) = v11_4 + 1 from gp_wr_id (by omega) (by omega)]
                exact ih_4 _ _ _ _ _ _ _ _ _ _ _ _ hs_s_4 hf_s_4 MDi_s_4 mOut_s_4 (by omega) (by omega) (by omega) (by omega) (by first | rfl | omega) (by first | (refine bd_or (bd_le iv0_4 ?_) (bd_0 _); omega) | (refine bd_or (bd_le iv0_4 ?_) (bd_sh ?_ ?_ ?_) <;> omega) | (refine bd_le iv0_4 ?_; omega)) (by first | (refine bd_or (bd_le iv1_4 ?_) (bd_0 _); omega) | (refine bd_or (bd_le iv1_4 ?_) (bd_sh ?_ ?_ ?_) <;> omega) | (refine bd_le iv1_4 ?_; omega)) (by first | omega | assumption) (by first | omega | assumption) (by first | omega | assumption) (by first | exact PLI_a iv5_4 (by omega) (by omega) (by first | (rw [if_pos (by omega)]; exact congrArg gp_wr (by omega)) | (rw [if_neg (by omega)]; exact (gp_wr_id (by omega) (by omega)).symm) | (rw [if_neg (by omega)]; exact congrArg gp_wr (by omega)) | (rw [if_pos (by omega)]; done) | (rw [if_neg (by omega)]; done)) (by omega) | (exfalso; omega) | exact PLI_b iv5_4 (by omega) (by omega) (by first | (rw [if_pos (by omega)]; exact congrArg gp_wr (by omega)) | (rw [if_neg (by omega)]; exact (gp_wr_id (by omega) (by omega)).symm) | (rw [if_neg (by omega)]; exact congrArg gp_wr (by omega)) | (rw [if_pos (by omega)]; done) | (rw [if_neg (by omega)]; done)) (by omega) (by omega) (by omega) (by omega) (by omega) hPX (fun h9 => by first | (rw [if_pos (by omega), gp_wr_id (by omega) (by omega)]; omega) | (rw [if_neg (by omega), gp_wr_id (by omega) (by omega)]; omega)) (by first | (rw [if_pos (by omega)]; done) | (rw [if_neg (by omega)]; simp; done)) (by first | (rw [if_pos (by omega)]; done) | (rw [if_neg (by omega)]; simp; done)) (by omega) (by omega)) (by first | omega | assumption) (by omega)
              · refine vm_cellAt _ _ (by omega) (fun x_22 p_23 p_24 => ⟨_, rfl, ?_⟩)
                refine ⟨fun h_25 => ?_, fun h_25 => ?_⟩
                · refine s_3142_249 _ _ _ _ _ _ _ _ _ _ _ _ _ ?_
                  try rw [show gp_wr (v11_4 + 1) = v11_4 + 1 from gp_wr_id (by omega) (by omega)]
                  exact ih_4 _ _ _ _ _ _ _ _ _ _ _ _ hs_s_4 hf_s_4 MDi_s_4 mOut_s_4 (by omega) (by omega) (by omega) (by omega) (by first | rfl | omega) (by first | (refine bd_or (bd_le iv0_4 ?_) (bd_0 _); omega) | (refine bd_or (bd_le iv0_4 ?_) (bd_sh ?_ ?_ ?_) <;> omega) | (refine bd_le iv0_4 ?_; omega)) (by first | (refine bd_or (bd_le iv1_4 ?_) (bd_0 _); omega) | (refine bd_or (bd_le iv1_4 ?_) (bd_sh ?_ ?_ ?_) <;> omega) | (refine bd_le iv1_4 ?_; omega)) (by first | omega | assumption) (by first | omega | assumption) (by first | omega | assumption) (by first | exact PLI_a iv5_4 (by omega) (by omega) (by first | (rw [if_pos (by omega)]; exact congrArg gp_wr (by omega)) | (rw [if_neg (by omega)]; exact (gp_wr_id (by omega) (by omega)).symm) | (rw [if_neg (by omega)]; exact congrArg gp_wr (by omega)) | (rw [if_pos (by omega)]; done) | (rw [if_neg (by omega)]; done)) (by omega) | (exfalso; omega) | exact PLI_b iv5_4 (by omega) (by omega) (by first | (rw [if_pos (by omega)]; exact congrArg gp_wr (by omega)) | (rw [if_neg (by omega)]; exact (gp_wr_id (by omega) (by omega)).symm) | (rw [if_neg (by omega)]; exact congrArg gp_wr (by omega)) | (rw [if_pos (by omega)]; done) | (rw [if_neg (by omega)]; done)) (by omega) (by omega) (by omega) (by omega) (by omega) hPX (fun h9 => by first | (rw [if_pos (by omega), gp_wr_id (by omega) (by omega)]; omega) | (rw [if_neg (by omega), gp_wr_id (by omega) (by omega)]; omega)) (by first | (rw [if_pos (by omega)]; done) | (rw [if_neg (by omega)]; simp; done)) (by first | (rw [if_pos (by omega)]; done) | (rw [if_neg (by omega)]; simp; done)) (by omega) (by omega)) (by first | omega | assumption) (by omega)
                · have f_26 := mr74_15 hs_s_4
                  refine ⟨fun h_27 => ?_, fun h_27 => ?_⟩
                  · refine vm_with _ _ _ (by omega) (by omega) (fun m_28 p_29 => ⟨_, rfl, ?_⟩)
                    refine vm_with _ _ _ (by omega) (by omega) (fun m_30 p_31 => ⟨_, rfl, ?_⟩)
                    have hpm9 : (cl p0 v11_4 = 10 ∧ (-1) = v11_4 + 1) ∨ (cl p0 v11_4 = 11 ∧ (-1) = v11_4 - 1) → cl p0 (-1) ≤ 9 → pm m_30 (Int.toNat (gp_I s_4 74 46)) < pm p0 (Int.toNat (gp_I s_4 74 46)) := fun a b => by have h8 : m_30 = wt (wt p0 v11_4 0) (-1) (cl p0 v11_4) := (by subst_vars; rfl); rw [h8]; exact pm_step (by omega) (by omega) (by omega) rfl a b
                    have hpmA := hpm9 (by omega) (by omega)
                    rw [show gp_I s_4 74 46 = gp_I s 74 46 by omega] at hpmA
                    refine ⟨fun h_32 => ?_, fun h_32 => ?_⟩
                    · exfalso; omega
                    · refine vm_cellAt _ _ (by omega) (fun x_33 p_34 p_35 => ⟨_, rfl, ?_⟩)
                      try rw [show gp_wr (-x_33) = -x_33 from gp_wr_id (by omega) (by omega)]
                      refine s_3142_165 _ _ _ _ _ _ _ _ _ _ _ _ _ _ _ ?_
                      have w_36 := wr_rng (p1 + (-x_33))
                      refine ihP _ _ _ _ _ _ (by omega) hs_s_4 (MDi_s_4) (by first | omega | assumption) (by rw [show gp_I s_4 74 46 = gp_I s 74 46 by omega]; omega) (fun x_37 s_38 hs_39 hf_40 p_41 p_42 p_43 p_44 p_45 p_46 p_47 => ⟨_, rfl, ?_⟩)
                      have hf_48 : gF [76, 77, 78, 79, 80, 81] [15] s s_38 := gF.trans hf_s_4 hf_40 rfl rfl
                      have q_49 := (hf_40.2 74 46 rfl (fun _ => rfl)).1
                      have mo_50 : mOut s s_38 := mOut.trans mOut_s_4 p_43
                      have hPX := p_47
                      rw [show m_30 = wt (wt p0 v11_4 0) (-1) (cl p0 v11_4) from (by subst_vars; rfl)] at hPX
                      refine ⟨fun h_51 => ?_, fun h_51 => ?_⟩
                      · exfalso; omega
                      · refine s_3142_188 _ _ _ _ _ _ _ _ _ _ _ _ _ _ ?_
                        refine ⟨fun h_52 => ?_, fun h_52 => ?_⟩
                        · exfalso; omega
                        · refine s_3142_208 _ _ _ _ _ _ _ _ _ _ _ _ _ _ ?_
                          refine ⟨fun h_53 => ?_, fun h_53 => ?_⟩
                          · refine ⟨fun h_54 => ?_, fun h_54 => ?_⟩
                            · exfalso; omega
                            · refine s_3142_228 _ _ _ _ _ _ _ _ _ _ _ _ _ ?_
                              refine ⟨fun h_55 => ?_, fun h_55 => ?_⟩
                              · refine ⟨fun h_56 => ?_, fun h_56 => ?_⟩
                                · exfalso; omega
                                · refine s_3142_247 _ _ _ _ _ _ _ _ _ _ _ _ _ ?_
                                  refine s_3142_249 _ _ _ _ _ _ _ _ _ _ _ _ _ ?_
                                  try rw [show gp_wr (v11_4 + 1) = v11_4 + 1 from gp_wr_id (by omega) (by omega)]
                                  exact ih_4 _ _ _ _ _ _ _ _ _ _ _ _ hs_39 hf_48 p_42 mo_50 (by omega) (by omega) (by omega) (by omega) (by first | rfl | omega) (by first | (refine bd_or (bd_le iv0_4 ?_) (bd_0 _); omega) | (refine bd_or (bd_le iv0_4 ?_) (bd_sh ?_ ?_ ?_) <;> omega) | (refine bd_le iv0_4 ?_; omega)) (by first | (refine bd_or (bd_le iv1_4 ?_) (bd_0 _); omega) | (refine bd_or (bd_le iv1_4 ?_) (bd_sh ?_ ?_ ?_) <;> omega) | (refine bd_le iv1_4 ?_; omega)) (by first | omega | assumption) (by first | omega | assumption) (by first | omega | assumption) (by first | exact PLI_a iv5_4 (by omega) (by omega) (by first | (rw [if_pos (by omega)]; exact congrArg gp_wr (by omega)) | (rw [if_neg (by omega)]; exact (gp_wr_id (by omega) (by omega)).symm) | (rw [if_neg (by omega)]; exact congrArg gp_wr (by omega)) | (rw [if_pos (by omega)]; done) | (rw [if_neg (by omega)]; done)) (by omega) | (exfalso; omega) | exact PLI_b iv5_4 (by omega) (by omega) (by first | (rw [if_pos (by omega)]; exact congrArg gp_wr (by omega)) | (rw [if_neg (by omega)]; exact (gp_wr_id (by omega) (by omega)).symm) | (rw [if_neg (by omega)]; exact congrArg gp_wr (by omega)) | (rw [if_pos (by omega)]; done) | (rw [if_neg (by omega)]; done)) (by omega) (by omega) (by omega) (by omega) (by omega) hPX (fun h9 => by first | (rw [if_pos (by omega), gp_wr_id (by omega) (by omega)]; omega) | (rw [if_neg (by omega), gp_wr_id (by omega) (by omega)]; omega)) (by first | (rw [if_pos (by omega)]; done) | (rw [if_neg (by omega)]; simp; done)) (by first | (rw [if_pos (by omega)]; done) | (rw [if_neg (by omega)]; simp; done)) (by omega) (by omega)) (by first | omega | assumption) (by omega)
                              · refine s_3142_242 _ _ _ _ _ _ _ _ _ _ _ _ ?_
                                refine s_3142_247 _ _ _ _ _ _ _ _ _ _ _ _ _ ?_
                                refine s_3142_249 _ _ _ _ _ _ _ _ _ _ _ _ _ ?_
                                try rw [show gp_wr (v11_4 + 1) = v11_4 + 1 from gp_wr_id (by omega) (by omega)]
                                exact ih_4 _ _ _ _ _ _ _ _ _ _ _ _ hs_39 hf_48 p_42 mo_50 (by omega) (by omega) (by omega) (by omega) (by first | rfl | omega) (by first | (refine bd_or (bd_le iv0_4 ?_) (bd_0 _); omega) | (refine bd_or (bd_le iv0_4 ?_) (bd_sh ?_ ?_ ?_) <;> omega) | (refine bd_le iv0_4 ?_; omega)) (by first | (refine bd_or (bd_le iv1_4 ?_) (bd_0 _); omega) | (refine bd_or (bd_le iv1_4 ?_) (bd_sh ?_ ?_ ?_) <;> omega) | (refine bd_le iv1_4 ?_; omega)) (by first | omega | assumption) (by first | omega | assumption) (by first | omega | assumption) (by first | exact PLI_a iv5_4 (by omega) (by omega) (by first | (rw [if_pos (by omega)]; exact congrArg gp_wr (by omega)) | (rw [if_neg (by omega)]; exact (gp_wr_id (by omega) (by omega)).symm) | (rw [if_neg (by omega)]; exact congrArg gp_wr (by omega)) | (rw [if_pos (by omega)]; done) | (rw [if_neg (by omega)]; done)) (by omega) | (exfalso; omega) | exact PLI_b iv5_4 (by omega) (by omega) (by first | (rw [if_pos (by omega)]; exact congrArg gp_wr (by omega)) | (rw [if_neg (by omega)]; exact (gp_wr_id (by omega) (by omega)).symm) | (rw [if_neg (by omega)]; exact congrArg gp_wr (by omega)) | (rw [if_pos (by omega)]; done) | (rw [if_neg (by omega)]; done)) (by omega) (by omega) (by omega) (by omega) (by omega) hPX (fun h9 => by first | (rw [if_pos (by omega), gp_wr_id (by omega) (by omega)]; omega) | (rw [if_neg (by omega), gp_wr_id (by omega) (by omega)]; omega)) (by first | (rw [if_pos (by omega)]; done) | (rw [if_neg (by omega)]; simp; done)) (by first | (rw [if_pos (by omega)]; done) | (rw [if_neg (by omega)]; simp; done)) (by omega) (by omega)) (by first | omega | assumption) (by omega)
                          · refine s_3142_223 _ _ _ _ _ _ _ _ _ _ _ _ ?_
                            refine s_3142_228 _ _ _ _ _ _ _ _ _ _ _ _ _ ?_
                            refine ⟨fun h_57 => ?_, fun h_57 => ?_⟩
                            · refine ⟨fun h_58 => ?_, fun h_58 => ?_⟩
                              · exfalso; omega
                              · refine s_3142_247 _ _ _ _ _ _ _ _ _ _ _ _ _ ?_
                                refine s_3142_249 _ _ _ _ _ _ _ _ _ _ _ _ _ ?_
                                try rw [show gp_wr (v11_4 + 1) = v11_4 + 1 from gp_wr_id (by omega) (by omega)]
                                exact ih_4 _ _ _ _ _ _ _ _ _ _ _ _ hs_39 hf_48 p_42 mo_50 (by omega) (by omega) (by omega) (by omega) (by first | rfl | omega) (by first | (refine bd_or (bd_le iv0_4 ?_) (bd_0 _); omega) | (refine bd_or (bd_le iv0_4 ?_) (bd_sh ?_ ?_ ?_) <;> omega) | (refine bd_le iv0_4 ?_; omega)) (by first | (refine bd_or (bd_le iv1_4 ?_) (bd_0 _); omega) | (refine bd_or (bd_le iv1_4 ?_) (bd_sh ?_ ?_ ?_) <;> omega) | (refine bd_le iv1_4 ?_; omega)) (by first | omega | assumption) (by first | omega | assumption) (by first | omega | assumption) (by first | exact PLI_a iv5_4 (by omega) (by omega) (by first | (rw [if_pos (by omega)]; exact congrArg gp_wr (by omega)) | (rw [if_neg (by omega)]; exact (gp_wr_id (by omega) (by omega)).symm) | (rw [if_neg (by omega)]; exact congrArg gp_wr (by omega)) | (rw [if_pos (by omega)]; done) | (rw [if_neg (by omega)]; done)) (by omega) | (exfalso; omega) | exact PLI_b iv5_4 (by omega) (by omega) (by first | (rw [if_pos (by omega)]; exact congrArg gp_wr (by omega)) | (rw [if_neg (by omega)]; exact (gp_wr_id (by omega) (by omega)).symm) | (rw [if_neg (by omega)]; exact congrArg gp_wr (by omega)) | (rw [if_pos (by omega)]; done) | (rw [if_neg (by omega)]; done)) (by omega) (by omega) (by omega) (by omega) (by omega) hPX (fun h9 => by first | (rw [if_pos (by omega), gp_wr_id (by omega) (by omega)]; omega) | (rw [if_neg (by omega), gp_wr_id (by omega) (by omega)]; omega)) (by first | (rw [if_pos (by omega)]; done) | (rw [if_neg (by omega)]; simp; done)) (by first | (rw [if_pos (by omega)]; done) | (rw [if_neg (by omega)]; simp; done)) (by omega) (by omega)) (by first | omega | assumption) (by omega)
                            · refine s_3142_242 _ _ _ _ _ _ _ _ _ _ _ _ ?_
                              refine s_3142_247 _ _ _ _ _ _ _ _ _ _ _ _ _ ?_
                              refine s_3142_249 _ _ _ _ _ _ _ _ _ _ _ _ _ ?_
                              try rw [show gp_wr (v11_4 + 1) = v11_4 + 1 from gp_wr_id (by omega) (by omega)]
                              exact ih_4 _ _ _ _ _ _ _ _ _ _ _ _ hs_39 hf_48 p_42 mo_50 (by omega) (by omega) (by omega) (by omega) (by first | rfl | omega) (by first | (refine bd_or (bd_le iv0_4 ?_) (bd_0 _); omega) | (refine bd_or (bd_le iv0_4 ?_) (bd_sh ?_ ?_ ?_) <;> omega) | (refine bd_le iv0_4 ?_; omega)) (by first | (refine bd_or (bd_le iv1_4 ?_) (bd_0 _); omega) | (refine bd_or (bd_le iv1_4 ?_) (bd_sh ?_ ?_ ?_) <;> omega) | (refine bd_le iv1_4 ?_; omega)) (by first | omega | assumption) (by first | omega | assumption) (by first | omega | assumption) (by first | exact PLI_a iv5_4 (by omega) (by omega) (by first | (rw [if_pos (by omega)]; exact congrArg gp_wr (by omega)) | (rw [if_neg (by omega)]; exact (gp_wr_id (by omega) (by omega)).symm) | (rw [if_neg (by omega)]; exact congrArg gp_wr (by omega)) | (rw [if_pos (by omega)]; done) | (rw [if_neg (by omega)]; done)) (by omega) | (exfalso; omega) | exact PLI_b iv5_4 (by omega) (by omega) (by first | (rw [if_pos (by omega)]; exact congrArg gp_wr (by omega)) | (rw [if_neg (by omega)]; exact (gp_wr_id (by omega) (by omega)).symm) | (rw [if_neg (by omega)]; exact congrArg gp_wr (by omega)) | (rw [if_pos (by omega)]; done) | (rw [if_neg (by omega)]; done)) (by omega) (by omega) (by omega) (by omega) (by omega) hPX (fun h9 => by first | (rw [if_pos (by omega), gp_wr_id (by omega) (by omega)]; omega) | (rw [if_neg (by omega), gp_wr_id (by omega) (by omega)]; omega)) (by first | (rw [if_pos (by omega)]; done) | (rw [if_neg (by omega)]; simp; done)) (by first | (rw [if_pos (by omega)]; done) | (rw [if_neg (by omega)]; simp; done)) (by omega) (by omega)) (by first | omega | assumption) (by omega)
                  · refine s_3142_249 _ _ _ _ _ _ _ _ _ _ _ _ _ ?_
                    try rw [show gp_wr (v11_4 + 1) = v11_4 + 1 from gp_wr_id (by omega) (by omega)]
                    exact ih_4 _ _ _ _ _ _ _ _ _ _ _ _ hs_s_4 hf_s_4 MDi_s_4 mOut_s_4 (by omega) (by omega) (by omega) (by omega) (by first | rfl | omega) (by first | (refine bd_or (bd_le iv0_4 ?_) (bd_0 _); omega) | (refine bd_or (bd_le iv0_4 ?_) (bd_sh ?_ ?_ ?_) <;> omega) | (refine bd_le iv0_4 ?_; omega)) (by first | (refine bd_or (bd_le iv1_4 ?_) (bd_0 _); omega) | (refine bd_or (bd_le iv1_4 ?_) (bd_sh ?_ ?_ ?_) <;> omega) | (refine bd_le iv1_4 ?_; omega)) (by first | omega | assumption) (by first | omega | assumption) (by first | omega | assumption) (by first | exact PLI_a iv5_4 (by omega) (by omega) (by first | (rw [if_pos (by omega)]; exact congrArg gp_wr (by omega)) | (rw [if_neg (by omega)]; exact (gp_wr_id (by omega) (by omega)).symm) | (rw [if_neg (by omega)]; exact congrArg gp_wr (by omega)) | (rw [if_pos (by omega)]; done) | (rw [if_neg (by omega)]; done)) (by omega) | (exfalso; omega) | exact PLI_b iv5_4 (by omega) (by omega) (by first | (rw [if_pos (by omega)]; exact congrArg gp_wr (by omega)) | (rw [if_neg (by omega)]; exact (gp_wr_id (by omega) (by omega)).symm) | (rw [if_neg (by omega)]; exact congrArg gp_wr (by omega)) | (rw [if_pos (by omega)]; done) | (rw [if_neg (by omega)]; done)) (by omega) (by omega) (by omega) (by omega) (by omega) hPX (fun h9 => by first | (rw [if_pos (by omega), gp_wr_id (by omega) (by omega)]; omega) | (rw [if_neg (by omega), gp_wr_id (by omega) (by omega)]; omega)) (by first | (rw [if_pos (by omega)]; done) | (rw [if_neg (by omega)]; simp; done)) (by first | (rw [if_pos (by omega)]; done) | (rw [if_neg (by omega)]; simp; done)) (by omega) (by omega)) (by first | omega | assumption) (by omega)
        · refine s_3142_50 _ _ _ _ _ _ _ _ _ _ _ _ _ _ _ ?_
          try rw [show gp_wr (v8_4 + 0) = v8_4 + 0 from gp_wr_id (by omega) (by omega)]
          refine ⟨fun h_59 => ?_, fun h_59 => ?_⟩
          · try rw [show gp_wr (v11_4 + 1) = v11_4 + 1 from gp_wr_id (by omega) (by omega)]
            refine s_3142_82 _ _ _ _ _ _ _ _ _ _ _ _ _ _ ?_
            have w_60 := gz_oi (v11_4 + 1) (by omega)
            have f_61 := mr74_46 hs_s_4
            try rw [show gp_wr ((gp_I s_4 74 46) - 1) = (gp_I s_4 74 46) - 1 from gp_wr_id (by omega) (by omega)]
            have w_62 := gz_oi ((gp_I s_4 74 46) - 1) (by omega)
            refine vm_isIn _ _ _ (fun x_63 p_64 p_65 => ⟨_, rfl, ?_⟩)
            have w_66 : BitVec.toInt (0#64) = 0 := by decide
            refine ⟨fun h_67 => ?_, fun h_67 => ?_⟩
            · refine s_3142_249 _ _ _ _ _ _ _ _ _ _ _ _ _ ?_
              try rw [show gp_wr (v11_4 + 1) = v11_4 + 1 from gp_wr_id (by omega) (by omega)]
              exact ih_4 _ _ _ _ _ _ _ _ _ _ _ _ hs_s_4 hf_s_4 MDi_s_4 mOut_s_4 (by omega) (by omega) (by omega) (by omega) (by first | rfl | omega) (by first | (refine bd_or (bd_le iv0_4 ?_) (bd_0 _); omega) | (refine bd_or (bd_le iv0_4 ?_) (bd_sh ?_ ?_ ?_) <;> omega) | (refine bd_le iv0_4 ?_; omega)) (by first | (refine bd_or (bd_le iv1_4 ?_) (bd_0 _); omega) | (refine bd_or (bd_le iv1_4 ?_) (bd_sh ?_ ?_ ?_) <;> omega) | (refine bd_le iv1_4 ?_; omega)) (by first | omega | assumption) (by first | omega | assumption) (by first | omega | assumption) (by first | exact PLI_a iv5_4 (by omega) (by omega) (by first | (rw [if_pos (by omega)]; exact congrArg gp_wr (by omega)) | (rw [if_neg (by omega)]; exact (gp_wr_id (by omega) (by omega)).symm) | (rw [if_neg (by omega)]; exact congrArg gp_wr (by omega)) | (rw [if_pos (by omega)]; done) | (rw [if_neg (by omega)]; done)) (by omega) | (exfalso; omega) | exact PLI_b iv5_4 (by omega) (by omega) (by first | (rw [if_pos (by omega)]; exact congrArg gp_wr (by omega)) | (rw [if_neg (by omega)]; exact (gp_wr_id (by omega) (by omega)).symm) | (rw [if_neg (by omega)]; exact congrArg gp_wr (by omega)) | (rw [if_pos (by omega)]; done) | (rw [if_neg (by omega)]; done)) (by omega) (by omega) (by omega) (by omega) (by omega) hPX (fun h9 => by first | (rw [if_pos (by omega), gp_wr_id (by omega) (by omega)]; omega) | (rw [if_neg (by omega), gp_wr_id (by omega) (by omega)]; omega)) (by first | (rw [if_pos (by omega)]; done) | (rw [if_neg (by omega)]; simp; done)) (by first | (rw [if_pos (by omega)]; done) | (rw [if_neg (by omega)]; simp; done)) (by omega) (by omega)) (by first | omega | assumption) (by omega)
            · refine vm_cellAt _ _ (by omega) (fun x_68 p_69 p_70 => ⟨_, rfl, ?_⟩)
              refine ⟨fun h_71 => ?_, fun h_71 => ?_⟩
              · refine s_3142_249 _ _ _ _ _ _ _ _ _ _ _ _ _ ?_
                try rw [show gp_wr (v11_4 + 1) = v11_4 + 1 from gp_wr_id (by omega) (by omega)]
                exact ih_4 _ _ _ _ _ _ _ _ _ _ _ _ hs_s_4 hf_s_4 MDi_s_4 mOut_s_4 (by omega) (by omega) (by omega) (by omega) (by first | rfl | omega) (by first | (refine bd_or (bd_le iv0_4 ?_) (bd_0 _); omega) | (refine bd_or (bd_le iv0_4 ?_) (bd_sh ?_ ?_ ?_) <;> omega) | (refine bd_le iv0_4 ?_; omega)) (by first | (refine bd_or (bd_le iv1_4 ?_) (bd_0 _); omega) | (refine bd_or (bd_le iv1_4 ?_) (bd_sh ?_ ?_ ?_) <;> omega) | (refine bd_le iv1_4 ?_; omega)) (by first | omega | assumption) (by first | omega | assumption) (by first | omega | assumption) (by first | exact PLI_a iv5_4 (by omega) (by omega) (by first | (rw [if_pos (by omega)]; exact congrArg gp_wr (by omega)) | (rw [if_neg (by omega)]; exact (gp_wr_id (by omega) (by omega)).symm) | (rw [if_neg (by omega)]; exact congrArg gp_wr (by omega)) | (rw [if_pos (by omega)]; done) | (rw [if_neg (by omega)]; done)) (by omega) | (exfalso; omega) | exact PLI_b iv5_4 (by omega) (by omega) (by first | (rw [if_pos (by omega)]; exact congrArg gp_wr (by omega)) | (rw [if_neg (by omega)]; exact (gp_wr_id (by omega) (by omega)).symm) | (rw [if_neg (by omega)]; exact congrArg gp_wr (by omega)) | (rw [if_pos (by omega)]; done) | (rw [if_neg (by omega)]; done)) (by omega) (by omega) (by omega) (by omega) (by omega) hPX (fun h9 => by first | (rw [if_pos (by omega), gp_wr_id (by omega) (by omega)]; omega) | (rw [if_neg (by omega), gp_wr_id (by omega) (by omega)]; omega)) (by first | (rw [if_pos (by omega)]; done) | (rw [if_neg (by omega)]; simp; done)) (by first | (rw [if_pos (by omega)]; done) | (rw [if_neg (by omega)]; simp; done)) (by omega) (by omega)) (by first | omega | assumption) (by omega)
              · have f_72 := mr74_15 hs_s_4
                refine ⟨fun h_73 => ?_, fun h_73 => ?_⟩
                · refine vm_with _ _ _ (by omega) (by omega) (fun m_74 p_75 => ⟨_, rfl, ?_⟩)
                  refine vm_with _ _ _ (by omega) (by omega) (fun m_76 p_77 => ⟨_, rfl, ?_⟩)
                  have hpm9 : (cl p0 v11_4 = 10 ∧ (v11_4 + 1) = v11_4 + 1) ∨ (cl p0 v11_4 = 11 ∧ (v11_4 + 1) = v11_4 - 1) → cl p0 (v11_4 + 1) ≤ 9 → pm m_76 (Int.toNat (gp_I s_4 74 46)) < pm p0 (Int.toNat (gp_I s_4 74 46)) := fun a b => by have h8 : m_76 = wt (wt p0 v11_4 0) (v11_4 + 1) (cl p0 v11_4) := (by subst_vars; rfl); rw [h8]; exact pm_step (by omega) (by omega) (by omega) rfl a b
                  have hpmA := hpm9 (by omega) (by omega)
                  rw [show gp_I s_4 74 46 = gp_I s 74 46 by omega] at hpmA
                  refine ⟨fun h_78 => ?_, fun h_78 => ?_⟩
                  · refine vm_cellAt _ _ (by omega) (fun x_79 p_80 p_81 => ⟨_, rfl, ?_⟩)
                    refine s_3142_165 _ _ _ _ _ _ _ _ _ _ _ _ _ _ _ ?_
                    have w_82 := wr_rng (p1 + x_79)
                    refine ihP _ _ _ _ _ _ (by omega) hs_s_4 (MDi_s_4) (by first | omega | assumption) (by rw [show gp_I s_4 74 46 = gp_I s 74 46 by omega]; omega) (fun x_83 s_84 hs_85 hf_86 p_87 p_88 p_89 p_90 p_91 p_92 p_93 => ⟨_, rfl, ?_⟩)
                    have hf_94 : gF [76, 77, 78, 79, 80, 81] [15] s s_84 := gF.trans hf_s_4 hf_86 rfl rfl
                    have q_95 := (hf_86.2 74 46 rfl (fun _ => rfl)).1
                    have mo_96 : mOut s s_84 := mOut.trans mOut_s_4 p_89
                    have hPX := p_93
                    rw [show m_76 = wt (wt p0 v11_4 0) (v11_4 + 1) (cl p0 v11_4) from (by subst_vars; rfl)] at hPX
                    refine ⟨fun h_97 => ?_, fun h_97 => ?_⟩
                    · refine s_3142_188 _ _ _ _ _ _ _ _ _ _ _ _ _ _ ?_
                      refine ⟨fun h_98 => ?_, fun h_98 => ?_⟩
                      · exfalso; omega
                      · refine s_3142_208 _ _ _ _ _ _ _ _ _ _ _ _ _ _ ?_
                        refine ⟨fun h_99 => ?_, fun h_99 => ?_⟩
                        · refine ⟨fun h_100 => ?_, fun h_100 => ?_⟩
                          · refine s_3142_223 _ _ _ _ _ _ _ _ _ _ _ _ ?_
                            refine s_3142_228 _ _ _ _ _ _ _ _ _ _ _ _ _ ?_
                            refine ⟨fun h_101 => ?_, fun h_101 => ?_⟩
                            · refine ⟨fun h_102 => ?_, fun h_102 => ?_⟩
                              · exfalso; omega
                              · refine s_3142_247 _ _ _ _ _ _ _ _ _ _ _ _ _ ?_
                                refine s_3142_249 _ _ _ _ _ _ _ _ _ _ _ _ _ ?_
                                try rw [show gp_wr (v11_4 + 1) = v11_4 + 1 from gp_wr_id (by omega) (by omega)]
                                exact ih_4 _ _ _ _ _ _ _ _ _ _ _ _ hs_85 hf_94 p_88 mo_96 (by omega) (by omega) (by omega) (by omega) (by first | rfl | omega) (by first | (refine bd_or (bd_le iv0_4 ?_) (bd_0 _); omega) | (refine bd_or (bd_le iv0_4 ?_) (bd_sh ?_ ?_ ?_) <;> omega) | (refine bd_le iv0_4 ?_; omega)) (by first | (refine bd_or (bd_le iv1_4 ?_) (bd_0 _); omega) | (refine bd_or (bd_le iv1_4 ?_) (bd_sh ?_ ?_ ?_) <;> omega) | (refine bd_le iv1_4 ?_; omega)) (by first | omega | assumption) (by first | omega | assumption) (by first | omega | assumption) (by first | exact PLI_a iv5_4 (by omega) (by omega) (by first | (rw [if_pos (by omega)]; exact congrArg gp_wr (by omega)) | (rw [if_neg (by omega)]; exact (gp_wr_id (by omega) (by omega)).symm) | (rw [if_neg (by omega)]; exact congrArg gp_wr (by omega)) | (rw [if_pos (by omega)]; done) | (rw [if_neg (by omega)]; done)) (by omega) | (exfalso; omega) | exact PLI_b iv5_4 (by omega) (by omega) (by first | (rw [if_pos (by omega)]; exact congrArg gp_wr (by omega)) | (rw [if_neg (by omega)]; exact (gp_wr_id (by omega) (by omega)).symm) | (rw [if_neg (by omega)]; exact congrArg gp_wr (by omega)) | (rw [if_pos (by omega)]; done) | (rw [if_neg (by omega)]; done)) (by omega) (by omega) (by omega) (by omega) (by omega) hPX (fun h9 => by first | (rw [if_pos (by omega), gp_wr_id (by omega) (by omega)]; omega) | (rw [if_neg (by omega), gp_wr_id (by omega) (by omega)]; omega)) (by first | (rw [if_pos (by omega)]; done) | (rw [if_neg (by omega)]; simp; done)) (by first | (rw [if_pos (by omega)]; done) | (rw [if_neg (by omega)]; simp; done)) (by omega) (by omega)) (by first | omega | assumption) (by omega)
                            · refine s_3142_242 _ _ _ _ _ _ _ _ _ _ _ _ ?_
                              refine s_3142_247 _ _ _ _ _ _ _ _ _ _ _ _ _ ?_
                              refine s_3142_249 _ _ _ _ _ _ _ _ _ _ _ _ _ ?_
                              try rw [show gp_wr (v11_4 + 1) = v11_4 + 1 from gp_wr_id (by omega) (by omega)]
                              exact ih_4 _ _ _ _ _ _ _ _ _ _ _ _ hs_85 hf_94 p_88 mo_96 (by omega) (by omega) (by omega) (by omega) (by first | rfl | omega) (by first | (refine bd_or (bd_le iv0_4 ?_) (bd_0 _); omega) | (refine bd_or (bd_le iv0_4 ?_) (bd_sh ?_ ?_ ?_) <;> omega) | (refine bd_le iv0_4 ?_; omega)) (by first | (refine bd_or (bd_le iv1_4 ?_) (bd_0 _); omega) | (refine bd_or (bd_le iv1_4 ?_) (bd_sh ?_ ?_ ?_) <;> omega) | (refine bd_le iv1_4 ?_; omega)) (by first | omega | assumption) (by first | omega | assumption) (by first | omega | assumption) (by first | exact PLI_a iv5_4 (by omega) (by omega) (by first | (rw [if_pos (by omega)]; exact congrArg gp_wr (by omega)) | (rw [if_neg (by omega)]; exact (gp_wr_id (by omega) (by omega)).symm) | (rw [if_neg (by omega)]; exact congrArg gp_wr (by omega)) | (rw [if_pos (by omega)]; done) | (rw [if_neg (by omega)]; done)) (by omega) | (exfalso; omega) | exact PLI_b iv5_4 (by omega) (by omega) (by first | (rw [if_pos (by omega)]; exact congrArg gp_wr (by omega)) | (rw [if_neg (by omega)]; exact (gp_wr_id (by omega) (by omega)).symm) | (rw [if_neg (by omega)]; exact congrArg gp_wr (by omega)) | (rw [if_pos (by omega)]; done) | (rw [if_neg (by omega)]; done)) (by omega) (by omega) (by omega) (by omega) (by omega) hPX (fun h9 => by first | (rw [if_pos (by omega), gp_wr_id (by omega) (by omega)]; omega) | (rw [if_neg (by omega), gp_wr_id (by omega) (by omega)]; omega)) (by first | (rw [if_pos (by omega)]; done) | (rw [if_neg (by omega)]; simp; done)) (by first | (rw [if_pos (by omega)]; done) | (rw [if_neg (by omega)]; simp; done)) (by omega) (by omega)) (by first | omega | assumption) (by omega)
                          · exfalso; omega
                        · refine s_3142_223 _ _ _ _ _ _ _ _ _ _ _ _ ?_
                          refine s_3142_228 _ _ _ _ _ _ _ _ _ _ _ _ _ ?_
                          refine ⟨fun h_103 => ?_, fun h_103 => ?_⟩
                          · refine ⟨fun h_104 => ?_, fun h_104 => ?_⟩
                            · exfalso; omega
                            · refine s_3142_247 _ _ _ _ _ _ _ _ _ _ _ _ _ ?_
                              refine s_3142_249 _ _ _ _ _ _ _ _ _ _ _ _ _ ?_
                              try rw [show gp_wr (v11_4 + 1) = v11_4 + 1 from gp_wr_id (by omega) (by omega)]
                              exact ih_4 _ _ _ _ _ _ _ _ _ _ _ _ hs_85 hf_94 p_88 mo_96 (by omega) (by omega) (by omega) (by omega) (by first | rfl | omega) (by first | (refine bd_or (bd_le iv0_4 ?_) (bd_0 _); omega) | (refine bd_or (bd_le iv0_4 ?_) (bd_sh ?_ ?_ ?_) <;> omega) | (refine bd_le iv0_4 ?_; omega)) (by first | (refine bd_or (bd_le iv1_4 ?_) (bd_0 _); omega) | (refine bd_or (bd_le iv1_4 ?_) (bd_sh ?_ ?_ ?_) <;> omega) | (refine bd_le iv1_4 ?_; omega)) (by first | omega | assumption) (by first | omega | assumption) (by first | omega | assumption) (by first | exact PLI_a iv5_4 (by omega) (by omega) (by first | (rw [if_pos (by omega)]; exact congrArg gp_wr (by omega)) | (rw [if_neg (by omega)]; exact (gp_wr_id (by omega) (by omega)).symm) | (rw [if_neg (by omega)]; exact congrArg gp_wr (by omega)) | (rw [if_pos (by omega)]; done) | (rw [if_neg (by omega)]; done)) (by omega) | (exfalso; omega) | exact PLI_b iv5_4 (by omega) (by omega) (by first | (rw [if_pos (by omega)]; exact congrArg gp_wr (by omega)) | (rw [if_neg (by omega)]; exact (gp_wr_id (by omega) (by omega)).symm) | (rw [if_neg (by omega)]; exact congrArg gp_wr (by omega)) | (rw [if_pos (by omega)]; done) | (rw [if_neg (by omega)]; done)) (by omega) (by omega) (by omega) (by omega) (by omega) hPX (fun h9 => by first | (rw [if_pos (by omega), gp_wr_id (by omega) (by omega)]; omega) | (rw [if_neg (by omega), gp_wr_id (by omega) (by omega)]; omega)) (by first | (rw [if_pos (by omega)]; done) | (rw [if_neg (by omega)]; simp; done)) (by first | (rw [if_pos (by omega)]; done) | (rw [if_neg (by omega)]; simp; done)) (by omega) (by omega)) (by first | omega | assumption) (by omega)
                          · refine s_3142_242 _ _ _ _ _ _ _ _ _ _ _ _ ?_
                            refine s_3142_247 _ _ _ _ _ _ _ _ _ _ _ _ _ ?_
                            refine s_3142_249 _ _ _ _ _ _ _ _ _ _ _ _ _ ?_
                            try rw [show gp_wr (v11_4 + 1) = v11_4 + 1 from gp_wr_id (by omega) (by omega)]
                            exact ih_4 _ _ _ _ _ _ _ _ _ _ _ _ hs_85 hf_94 p_88 mo_96 (by omega) (by omega) (by omega) (by omega) (by first | rfl | omega) (by first | (refine bd_or (bd_le iv0_4 ?_) (bd_0 _); omega) | (refine bd_or (bd_le iv0_4 ?_) (bd_sh ?_ ?_ ?_) <;> omega) | (refine bd_le iv0_4 ?_; omega)) (by first | (refine bd_or (bd_le iv1_4 ?_) (bd_0 _); omega) | (refine bd_or (bd_le iv1_4 ?_) (bd_sh ?_ ?_ ?_) <;> omega) | (refine bd_le iv1_4 ?_; omega)) (by first | omega | assumption) (by first | omega | assumption) (by first | omega | assumption) (by first | exact PLI_a iv5_4 (by omega) (by omega) (by first | (rw [if_pos (by omega)]; exact congrArg gp_wr (by omega)) | (rw [if_neg (by omega)]; exact (gp_wr_id (by omega) (by omega)).symm) | (rw [if_neg (by omega)]; exact congrArg gp_wr (by omega)) | (rw [if_pos (by omega)]; done) | (rw [if_neg (by omega)]; done)) (by omega) | (exfalso; omega) | exact PLI_b iv5_4 (by omega) (by omega) (by first | (rw [if_pos (by omega)]; exact congrArg gp_wr (by omega)) | (rw [if_neg (by omega)]; exact (gp_wr_id (by omega) (by omega)).symm) | (rw [if_neg (by omega)]; exact congrArg gp_wr (by omega)) | (rw [if_pos (by omega)]; done) | (rw [if_neg (by omega)]; done)) (by omega) (by omega) (by omega) (by omega) (by omega) hPX (fun h9 => by first | (rw [if_pos (by omega), gp_wr_id (by omega) (by omega)]; omega) | (rw [if_neg (by omega), gp_wr_id (by omega) (by omega)]; omega)) (by first | (rw [if_pos (by omega)]; done) | (rw [if_neg (by omega)]; simp; done)) (by first | (rw [if_pos (by omega)]; done) | (rw [if_neg (by omega)]; simp; done)) (by omega) (by omega)) (by first | omega | assumption) (by omega)
                    · exfalso; omega
                  · exfalso; omega
                · refine s_3142_249 _ _ _ _ _ _ _ _ _ _ _ _ _ ?_
                  try rw [show gp_wr (v11_4 + 1) = v11_4 + 1 from gp_wr_id (by omega) (by omega)]
                  exact ih_4 _ _ _ _ _ _ _ _ _ _ _ _ hs_s_4 hf_s_4 MDi_s_4 mOut_s_4 (by omega) (by omega) (by omega) (by omega) (by first | rfl | omega) (by first | (refine bd_or (bd_le iv0_4 ?_) (bd_0 _); omega) | (refine bd_or (bd_le iv0_4 ?_) (bd_sh ?_ ?_ ?_) <;> omega) | (refine bd_le iv0_4 ?_; omega)) (by first | (refine bd_or (bd_le iv1_4 ?_) (bd_0 _); omega) | (refine bd_or (bd_le iv1_4 ?_) (bd_sh ?_ ?_ ?_) <;> omega) | (refine bd_le iv1_4 ?_; omega)) (by first | omega | assumption) (by first | omega | assumption) (by first | omega | assumption) (by first | exact PLI_a iv5_4 (by omega) (by omega) (by first | (rw [if_pos (by omega)]; exact congrArg gp_wr (by omega)) | (rw [if_neg (by omega)]; exact (gp_wr_id (by omega) (by omega)).symm) | (rw [if_neg (by omega)]; exact congrArg gp_wr (by omega)) | (rw [if_pos (by omega)]; done) | (rw [if_neg (by omega)]; done)) (by omega) | (exfalso; omega) | exact PLI_b iv5_4 (by omega) (by omega) (by first | (rw [if_pos (by omega)]; exact congrArg gp_wr (by omega)) | (rw [if_neg (by omega)]; exact (gp_wr_id (by omega) (by omega)).symm) | (rw [if_neg (by omega)]; exact congrArg gp_wr (by omega)) | (rw [if_pos (by omega)]; done) | (rw [if_neg (by omega)]; done)) (by omega) (by omega) (by omega) (by omega) (by omega) hPX (fun h9 => by first | (rw [if_pos (by omega), gp_wr_id (by omega) (by omega)]; omega) | (rw [if_neg (by omega), gp_wr_id (by omega) (by omega)]; omega)) (by first | (rw [if_pos (by omega)]; done) | (rw [if_neg (by omega)]; simp; done)) (by first | (rw [if_pos (by omega)]; done) | (rw [if_neg (by omega)]; simp; done)) (by omega) (by omega)) (by first | omega | assumption) (by omega)
          · refine ⟨fun h_105 => ?_, fun h_105 => ?_⟩
            · try rw [show gp_wr (v11_4 - 1) = v11_4 - 1 from gp_wr_id (by omega) (by omega)]
              refine s_3142_82 _ _ _ _ _ _ _ _ _ _ _ _ _ _ ?_
              have w_106 := gz_oi (v11_4 - 1) (by omega)
              have f_107 := mr74_46 hs_s_4
              try rw [show gp_wr ((gp_I s_4 74 46) - 1) = (gp_I s_4 74 46) - 1 from gp_wr_id (by omega) (by omega)]
              have w_108 := gz_oi ((gp_I s_4 74 46) - 1) (by omega)
              refine vm_isIn _ _ _ (fun x_109 p_110 p_111 => ⟨_, rfl, ?_⟩)
              have w_112 : BitVec.toInt (0#64) = 0 := by decide
              refine ⟨fun h_113 => ?_, fun h_113 => ?_⟩
              · refine s_3142_249 _ _ _ _ _ _ _ _ _ _ _ _ _ ?_
                try rw [show gp_wr (v11_4 + 1) = v11_4 + 1 from gp_wr_id (by omega) (by omega)]
                exact ih_4 _ _ _ _ _ _ _ _ _ _ _ _ hs_s_4 hf_s_4 MDi_s_4 mOut_s_4 (by omega) (by omega) (by omega) (by omega) (by first | rfl | omega) (by first | (refine bd_or (bd_le iv0_4 ?_) (bd_0 _); omega) | (refine bd_or (bd_le iv0_4 ?_) (bd_sh ?_ ?_ ?_) <;> omega) | (refine bd_le iv0_4 ?_; omega)) (by first | (refine bd_or (bd_le iv1_4 ?_) (bd_0 _); omega) | (refine bd_or (bd_le iv1_4 ?_) (bd_sh ?_ ?_ ?_) <;> omega) | (refine bd_le iv1_4 ?_; omega)) (by first | omega | assumption) (by first | omega | assumption) (by first | omega | assumption) (by first | exact PLI_a iv5_4 (by omega) (by omega) (by first | (rw [if_pos (by omega)]; exact congrArg gp_wr (by omega)) | (rw [if_neg (by omega)]; exact (gp_wr_id (by omega) (by omega)).symm) | (rw [if_neg (by omega)]; exact congrArg gp_wr (by omega)) | (rw [if_pos (by omega)]; done) | (rw [if_neg (by omega)]; done)) (by omega) | (exfalso; omega) | exact PLI_b iv5_4 (by omega) (by omega) (by first | (rw [if_pos (by omega)]; exact congrArg gp_wr (by omega)) | (rw [if_neg (by omega)]; exact (gp_wr_id (by omega) (by omega)).symm) | (rw [if_neg (by omega)]; exact congrArg gp_wr (by omega)) | (rw [if_pos (by omega)]; done) | (rw [if_neg (by omega)]; done)) (by omega) (by omega) (by omega) (by omega) (by omega) hPX (fun h9 => by first | (rw [if_pos (by omega), gp_wr_id (by omega) (by omega)]; omega) | (rw [if_neg (by omega), gp_wr_id (by omega) (by omega)]; omega)) (by first | (rw [if_pos (by omega)]; done) | (rw [if_neg (by omega)]; simp; done)) (by first | (rw [if_pos (by omega)]; done) | (rw [if_neg (by omega)]; simp; done)) (by omega) (by omega)) (by first | omega | assumption) (by omega)
              · refine vm_cellAt _ _ (by omega) (fun x_114 p_115 p_116 => ⟨_, rfl, ?_⟩)
                refine ⟨fun h_117 => ?_, fun h_117 => ?_⟩
                · refine s_3142_249 _ _ _ _ _ _ _ _ _ _ _ _ _ ?_
                  try rw [show gp_wr (v11_4 + 1) = v11_4 + 1 from gp_wr_id (by omega) (by omega)]
                  exact ih_4 _ _ _ _ _ _ _ _ _ _ _ _ hs_s_4 hf_s_4 MDi_s_4 mOut_s_4 (by omega) (by omega) (by omega) (by omega) (by first | rfl | omega) (by first | (refine bd_or (bd_le iv0_4 ?_) (bd_0 _); omega) | (refine bd_or (bd_le iv0_4 ?_) (bd_sh ?_ ?_ ?_) <;> omega) | (refine bd_le iv0_4 ?_; omega)) (by first | (refine bd_or (bd_le iv1_4 ?_) (bd_0 _); omega) | (refine bd_or (bd_le iv1_4 ?_) (bd_sh ?_ ?_ ?_) <;> omega) | (refine bd_le iv1_4 ?_; omega)) (by first | omega | assumption) (by first | omega | assumption) (by first | omega | assumption) (by first | exact PLI_a iv5_4 (by omega) (by omega) (by first | (rw [if_pos (by omega)]; exact congrArg gp_wr (by omega)) | (rw [if_neg (by omega)]; exact (gp_wr_id (by omega) (by omega)).symm) | (rw [if_neg (by omega)]; exact congrArg gp_wr (by omega)) | (rw [if_pos (by omega)]; done) | (rw [if_neg (by omega)]; done)) (by omega) | (exfalso; omega) | exact PLI_b iv5_4 (by omega) (by omega) (by first | (rw [if_pos (by omega)]; exact congrArg gp_wr (by omega)) | (rw [if_neg (by omega)]; exact (gp_wr_id (by omega) (by omega)).symm) | (rw [if_neg (by omega)]; exact congrArg gp_wr (by omega)) | (rw [if_pos (by omega)]; done) | (rw [if_neg (by omega)]; done)) (by omega) (by omega) (by omega) (by omega) (by omega) hPX (fun h9 => by first | (rw [if_pos (by omega), gp_wr_id (by omega) (by omega)]; omega) | (rw [if_neg (by omega), gp_wr_id (by omega) (by omega)]; omega)) (by first | (rw [if_pos (by omega)]; done) | (rw [if_neg (by omega)]; simp; done)) (by first | (rw [if_pos (by omega)]; done) | (rw [if_neg (by omega)]; simp; done)) (by omega) (by omega)) (by first | omega | assumption) (by omega)
                · have f_118 := mr74_15 hs_s_4
                  refine ⟨fun h_119 => ?_, fun h_119 => ?_⟩
                  · refine vm_with _ _ _ (by omega) (by omega) (fun m_120 p_121 => ⟨_, rfl, ?_⟩)
                    refine vm_with _ _ _ (by omega) (by omega) (fun m_122 p_123 => ⟨_, rfl, ?_⟩)
                    have hpm9 : (cl p0 v11_4 = 10 ∧ (v11_4 - 1) = v11_4 + 1) ∨ (cl p0 v11_4 = 11 ∧ (v11_4 - 1) = v11_4 - 1) → cl p0 (v11_4 - 1) ≤ 9 → pm m_122 (Int.toNat (gp_I s_4 74 46)) < pm p0 (Int.toNat (gp_I s_4 74 46)) := fun a b => by have h8 : m_122 = wt (wt p0 v11_4 0) (v11_4 - 1) (cl p0 v11_4) := (by subst_vars; rfl); rw [h8]; exact pm_step (by omega) (by omega) (by omega) rfl a b
                    have hpmA := hpm9 (by omega) (by omega)
                    rw [show gp_I s_4 74 46 = gp_I s 74 46 by omega] at hpmA
                    refine ⟨fun h_124 => ?_, fun h_124 => ?_⟩
                    · exfalso; omega
                    · refine vm_cellAt _ _ (by omega) (fun x_125 p_126 p_127 => ⟨_, rfl, ?_⟩)
                      try rw [show gp_wr (-x_125) = -x_125 from gp_wr_id (by omega) (by omega)]
                      refine s_3142_165 _ _ _ _ _ _ _ _ _ _ _ _ _ _ _ ?_
                      have w_128 := wr_rng (p1 + (-x_125))
                      refine ihP _ _ _ _ _ _ (by omega) hs_s_4 (MDi_s_4) (by first | omega | assumption) (by rw [show gp_I s_4 74 46 = gp_I s 74 46 by omega]; omega) (fun x_129 s_130 hs_131 hf_132 p_133 p_134 p_135 p_136 p_137 p_138 p_139 => ⟨_, rfl, ?_⟩)
                      have hf_140 : gF [76, 77, 78, 79, 80, 81] [15] s s_130 := gF.trans hf_s_4 hf_132 rfl rfl
                      have q_141 := (hf_132.2 74 46 rfl (fun _ => rfl)).1
                      have mo_142 : mOut s s_130 := mOut.trans mOut_s_4 p_135
                      have hPX := p_139
                      rw [show m_122 = wt (wt p0 v11_4 0) (v11_4 - 1) (cl p0 v11_4) from (by subst_vars; rfl)] at hPX
                      refine ⟨fun h_143 => ?_, fun h_143 => ?_⟩
                      · exfalso; omega
                      · refine s_3142_188 _ _ _ _ _ _ _ _ _ _ _ _ _ _ ?_
                        refine ⟨fun h_144 => ?_, fun h_144 => ?_⟩
                        · refine s_3142_208 _ _ _ _ _ _ _ _ _ _ _ _ _ _ ?_
                          refine ⟨fun h_145 => ?_, fun h_145 => ?_⟩
                          · refine ⟨fun h_146 => ?_, fun h_146 => ?_⟩
                            · exfalso; omega
                            · refine s_3142_228 _ _ _ _ _ _ _ _ _ _ _ _ _ ?_
                              refine ⟨fun h_147 => ?_, fun h_147 => ?_⟩
                              · refine ⟨fun h_148 => ?_, fun h_148 => ?_⟩
                                · refine s_3142_242 _ _ _ _ _ _ _ _ _ _ _ _ ?_
                                  refine s_3142_247 _ _ _ _ _ _ _ _ _ _ _ _ _ ?_
                                  refine s_3142_249 _ _ _ _ _ _ _ _ _ _ _ _ _ ?_
                                  try rw [show gp_wr (v11_4 + 1) = v11_4 + 1 from gp_wr_id (by omega) (by omega)]
                                  exact ih_4 _ _ _ _ _ _ _ _ _ _ _ _ hs_131 hf_140 p_134 mo_142 (by omega) (by omega) (by omega) (by omega) (by first | rfl | omega) (by first | (refine bd_or (bd_le iv0_4 ?_) (bd_0 _); omega) | (refine bd_or (bd_le iv0_4 ?_) (bd_sh ?_ ?_ ?_) <;> omega) | (refine bd_le iv0_4 ?_; omega)) (by first | (refine bd_or (bd_le iv1_4 ?_) (bd_0 _); omega) | (refine bd_or (bd_le iv1_4 ?_) (bd_sh ?_ ?_ ?_) <;> omega) | (refine bd_le iv1_4 ?_; omega)) (by first | omega | assumption) (by first | omega | assumption) (by first | omega | assumption) (by first | exact PLI_a iv5_4 (by omega) (by omega) (by first | (rw [if_pos (by omega)]; exact congrArg gp_wr (by omega)) | (rw [if_neg (by omega)]; exact (gp_wr_id (by omega) (by omega)).symm) | (rw [if_neg (by omega)]; exact congrArg gp_wr (by omega)) | (rw [if_pos (by omega)]; done) | (rw [if_neg (by omega)]; done)) (by omega) | (exfalso; omega) | exact PLI_b iv5_4 (by omega) (by omega) (by first | (rw [if_pos (by omega)]; exact congrArg gp_wr (by omega)) | (rw [if_neg (by omega)]; exact (gp_wr_id (by omega) (by omega)).symm) | (rw [if_neg (by omega)]; exact congrArg gp_wr (by omega)) | (rw [if_pos (by omega)]; done) | (rw [if_neg (by omega)]; done)) (by omega) (by omega) (by omega) (by omega) (by omega) hPX (fun h9 => by first | (rw [if_pos (by omega), gp_wr_id (by omega) (by omega)]; omega) | (rw [if_neg (by omega), gp_wr_id (by omega) (by omega)]; omega)) (by first | (rw [if_pos (by omega)]; done) | (rw [if_neg (by omega)]; simp; done)) (by first | (rw [if_pos (by omega)]; done) | (rw [if_neg (by omega)]; simp; done)) (by omega) (by omega)) (by first | omega | assumption) (by omega)
                                · exfalso; omega
                              · refine s_3142_242 _ _ _ _ _ _ _ _ _ _ _ _ ?_
                                refine s_3142_247 _ _ _ _ _ _ _ _ _ _ _ _ _ ?_
                                refine s_3142_249 _ _ _ _ _ _ _ _ _ _ _ _ _ ?_
                                try rw [show gp_wr (v11_4 + 1) = v11_4 + 1 from gp_wr_id (by omega) (by omega)]
                                exact ih_4 _ _ _ _ _ _ _ _ _ _ _ _ hs_131 hf_140 p_134 mo_142 (by omega) (by omega) (by omega) (by omega) (by first | rfl | omega) (by first | (refine bd_or (bd_le iv0_4 ?_) (bd_0 _); omega) | (refine bd_or (bd_le iv0_4 ?_) (bd_sh ?_ ?_ ?_) <;> omega) | (refine bd_le iv0_4 ?_; omega)) (by first | (refine bd_or (bd_le iv1_4 ?_) (bd_0 _); omega) | (refine bd_or (bd_le iv1_4 ?_) (bd_sh ?_ ?_ ?_) <;> omega) | (refine bd_le iv1_4 ?_; omega)) (by first | omega | assumption) (by first | omega | assumption) (by first | omega | assumption) (by first | exact PLI_a iv5_4 (by omega) (by omega) (by first | (rw [if_pos (by omega)]; exact congrArg gp_wr (by omega)) | (rw [if_neg (by omega)]; exact (gp_wr_id (by omega) (by omega)).symm) | (rw [if_neg (by omega)]; exact congrArg gp_wr (by omega)) | (rw [if_pos (by omega)]; done) | (rw [if_neg (by omega)]; done)) (by omega) | (exfalso; omega) | exact PLI_b iv5_4 (by omega) (by omega) (by first | (rw [if_pos (by omega)]; exact congrArg gp_wr (by omega)) | (rw [if_neg (by omega)]; exact (gp_wr_id (by omega) (by omega)).symm) | (rw [if_neg (by omega)]; exact congrArg gp_wr (by omega)) | (rw [if_pos (by omega)]; done) | (rw [if_neg (by omega)]; done)) (by omega) (by omega) (by omega) (by omega) (by omega) hPX (fun h9 => by first | (rw [if_pos (by omega), gp_wr_id (by omega) (by omega)]; omega) | (rw [if_neg (by omega), gp_wr_id (by omega) (by omega)]; omega)) (by first | (rw [if_pos (by omega)]; done) | (rw [if_neg (by omega)]; simp; done)) (by first | (rw [if_pos (by omega)]; done) | (rw [if_neg (by omega)]; simp; done)) (by omega) (by omega)) (by first | omega | assumption) (by omega)
                          · refine s_3142_223 _ _ _ _ _ _ _ _ _ _ _ _ ?_
                            refine s_3142_228 _ _ _ _ _ _ _ _ _ _ _ _ _ ?_
                            refine ⟨fun h_149 => ?_, fun h_149 => ?_⟩
                            · refine ⟨fun h_150 => ?_, fun h_150 => ?_⟩
                              · refine s_3142_242 _ _ _ _ _ _ _ _ _ _ _ _ ?_
                                refine s_3142_247 _ _ _ _ _ _ _ _ _ _ _ _ _ ?_
                                refine s_3142_249 _ _ _ _ _ _ _ _ _ _ _ _ _ ?_
                                try rw [show gp_wr (v11_4 + 1) = v11_4 + 1 from gp_wr_id (by omega) (by omega)]
                                exact ih_4 _ _ _ _ _ _ _ _ _ _ _ _ hs_131 hf_140 p_134 mo_142 (by omega) (by omega) (by omega) (by omega) (by first | rfl | omega) (by first | (refine bd_or (bd_le iv0_4 ?_) (bd_0 _); omega) | (refine bd_or (bd_le iv0_4 ?_) (bd_sh ?_ ?_ ?_) <;> omega) | (refine bd_le iv0_4 ?_; omega)) (by first | (refine bd_or (bd_le iv1_4 ?_) (bd_0 _); omega) | (refine bd_or (bd_le iv1_4 ?_) (bd_sh ?_ ?_ ?_) <;> omega) | (refine bd_le iv1_4 ?_; omega)) (by first | omega | assumption) (by first | omega | assumption) (by first | omega | assumption) (by first | exact PLI_a iv5_4 (by omega) (by omega) (by first | (rw [if_pos (by omega)]; exact congrArg gp_wr (by omega)) | (rw [if_neg (by omega)]; exact (gp_wr_id (by omega) (by omega)).symm) | (rw [if_neg (by omega)]; exact congrArg gp_wr (by omega)) | (rw [if_pos (by omega)]; done) | (rw [if_neg (by omega)]; done)) (by omega) | (exfalso; omega) | exact PLI_b iv5_4 (by omega) (by omega) (by first | (rw [if_pos (by omega)]; exact congrArg gp_wr (by omega)) | (rw [if_neg (by omega)]; exact (gp_wr_id (by omega) (by omega)).symm) | (rw [if_neg (by omega)]; exact congrArg gp_wr (by omega)) | (rw [if_pos (by omega)]; done) | (rw [if_neg (by omega)]; done)) (by omega) (by omega) (by omega) (by omega) (by omega) hPX (fun h9 => by first | (rw [if_pos (by omega), gp_wr_id (by omega) (by omega)]; omega) | (rw [if_neg (by omega), gp_wr_id (by omega) (by omega)]; omega)) (by first | (rw [if_pos (by omega)]; done) | (rw [if_neg (by omega)]; simp; done)) (by first | (rw [if_pos (by omega)]; done) | (rw [if_neg (by omega)]; simp; done)) (by omega) (by omega)) (by first | omega | assumption) (by omega)
                              · exfalso; omega
                            · refine s_3142_242 _ _ _ _ _ _ _ _ _ _ _ _ ?_
                              refine s_3142_247 _ _ _ _ _ _ _ _ _ _ _ _ _ ?_
                              refine s_3142_249 _ _ _ _ _ _ _ _ _ _ _ _ _ ?_
                              try rw [show gp_wr (v11_4 + 1) = v11_4 + 1 from gp_wr_id (by omega) (by omega)]
                              exact ih_4 _ _ _ _ _ _ _ _ _ _ _ _ hs_131 hf_140 p_134 mo_142 (by omega) (by omega) (by omega) (by omega) (by first | rfl | omega) (by first | (refine bd_or (bd_le iv0_4 ?_) (bd_0 _); omega) | (refine bd_or (bd_le iv0_4 ?_) (bd_sh ?_ ?_ ?_) <;> omega) | (refine bd_le iv0_4 ?_; omega)) (by first | (refine bd_or (bd_le iv1_4 ?_) (bd_0 _); omega) | (refine bd_or (bd_le iv1_4 ?_) (bd_sh ?_ ?_ ?_) <;> omega) | (refine bd_le iv1_4 ?_; omega)) (by first | omega | assumption) (by first | omega | assumption) (by first | omega | assumption) (by first | exact PLI_a iv5_4 (by omega) (by omega) (by first | (rw [if_pos (by omega)]; exact congrArg gp_wr (by omega)) | (rw [if_neg (by omega)]; exact (gp_wr_id (by omega) (by omega)).symm) | (rw [if_neg (by omega)]; exact congrArg gp_wr (by omega)) | (rw [if_pos (by omega)]; done) | (rw [if_neg (by omega)]; done)) (by omega) | (exfalso; omega) | exact PLI_b iv5_4 (by omega) (by omega) (by first | (rw [if_pos (by omega)]; exact congrArg gp_wr (by omega)) | (rw [if_neg (by omega)]; exact (gp_wr_id (by omega) (by omega)).symm) | (rw [if_neg (by omega)]; exact congrArg gp_wr (by omega)) | (rw [if_pos (by omega)]; done) | (rw [if_neg (by omega)]; done)) (by omega) (by omega) (by omega) (by omega) (by omega) hPX (fun h9 => by first | (rw [if_pos (by omega), gp_wr_id (by omega) (by omega)]; omega) | (rw [if_neg (by omega), gp_wr_id (by omega) (by omega)]; omega)) (by first | (rw [if_pos (by omega)]; done) | (rw [if_neg (by omega)]; simp; done)) (by first | (rw [if_pos (by omega)]; done) | (rw [if_neg (by omega)]; simp; done)) (by omega) (by omega)) (by first | omega | assumption) (by omega)
                        · exfalso; omega
                  · refine s_3142_249 _ _ _ _ _ _ _ _ _ _ _ _ _ ?_
                    try rw [show gp_wr (v11_4 + 1) = v11_4 + 1 from gp_wr_id (by omega) (by omega)]
                    exact ih_4 _ _ _ _ _ _ _ _ _ _ _ _ hs_s_4 hf_s_4 MDi_s_4 mOut_s_4 (by omega) (by omega) (by omega) (by omega) (by first | rfl | omega) (by first | (refine bd_or (bd_le iv0_4 ?_) (bd_0 _); omega) | (refine bd_or (bd_le iv0_4 ?_) (bd_sh ?_ ?_ ?_) <;> omega) | (refine bd_le iv0_4 ?_; omega)) (by first | (refine bd_or (bd_le iv1_4 ?_) (bd_0 _); omega) | (refine bd_or (bd_le iv1_4 ?_) (bd_sh ?_ ?_ ?_) <;> omega) | (refine bd_le iv1_4 ?_; omega)) (by first | omega | assumption) (by first | omega | assumption) (by first | omega | assumption) (by first | exact PLI_a iv5_4 (by omega) (by omega) (by first | (rw [if_pos (by omega)]; exact congrArg gp_wr (by omega)) | (rw [if_neg (by omega)]; exact (gp_wr_id (by omega) (by omega)).symm) | (rw [if_neg (by omega)]; exact congrArg gp_wr (by omega)) | (rw [if_pos (by omega)]; done) | (rw [if_neg (by omega)]; done)) (by omega) | (exfalso; omega) | exact PLI_b iv5_4 (by omega) (by omega) (by first | (rw [if_pos (by omega)]; exact congrArg gp_wr (by omega)) | (rw [if_neg (by omega)]; exact (gp_wr_id (by omega) (by omega)).symm) | (rw [if_neg (by omega)]; exact congrArg gp_wr (by omega)) | (rw [if_pos (by omega)]; done) | (rw [if_neg (by omega)]; done)) (by omega) (by omega) (by omega) (by omega) (by omega) hPX (fun h9 => by first | (rw [if_pos (by omega), gp_wr_id (by omega) (by omega)]; omega) | (rw [if_neg (by omega), gp_wr_id (by omega) (by omega)]; omega)) (by first | (rw [if_pos (by omega)]; done) | (rw [if_neg (by omega)]; simp; done)) (by first | (rw [if_pos (by omega)]; done) | (rw [if_neg (by omega)]; simp; done)) (by omega) (by omega)) (by first | omega | assumption) (by omega)
            · refine s_3142_82 _ _ _ _ _ _ _ _ _ _ _ _ _ _ ?_
              have w_151 := gz_oi ((-1)) (by omega)
              have f_152 := mr74_46 hs_s_4
              try rw [show gp_wr ((gp_I s_4 74 46) - 1) = (gp_I s_4 74 46) - 1 from gp_wr_id (by omega) (by omega)]
              have w_153 := gz_oi ((gp_I s_4 74 46) - 1) (by omega)
              refine vm_isIn _ _ _ (fun x_154 p_155 p_156 => ⟨_, rfl, ?_⟩)
              have w_157 : BitVec.toInt (0#64) = 0 := by decide
              refine ⟨fun h_158 => ?_, fun h_158 => ?_⟩
              · refine s_3142_249 _ _ _ _ _ _ _ _ _ _ _ _ _ ?_
                try rw [show gp_wr (v11_4 + 1) = v11_4 + 1 from gp_wr_id (by omega) (by omega)]
                exact ih_4 _ _ _ _ _ _ _ _ _ _ _ _ hs_s_4 hf_s_4 MDi_s_4 mOut_s_4 (by omega) (by omega) (by omega) (by omega) (by first | rfl | omega) (by first | (refine bd_or (bd_le iv0_4 ?_) (bd_0 _); omega) | (refine bd_or (bd_le iv0_4 ?_) (bd_sh ?_ ?_ ?_) <;> omega) | (refine bd_le iv0_4 ?_; omega)) (by first | (refine bd_or (bd_le iv1_4 ?_) (bd_0 _); omega) | (refine bd_or (bd_le iv1_4 ?_) (bd_sh ?_ ?_ ?_) <;> omega) | (refine bd_le iv1_4 ?_; omega)) (by first | omega | assumption) (by first | omega | assumption) (by first | omega | assumption) (by first | exact PLI_a iv5_4 (by omega) (by omega) (by first | (rw [if_pos (by omega)]; exact congrArg gp_wr (by omega)) | (rw [if_neg (by omega)]; exact (gp_wr_id (by omega) (by omega)).symm) | (rw [if_neg (by omega)]; exact congrArg gp_wr (by omega)) | (rw [if_pos (by omega)]; done) | (rw [if_neg (by omega)]; done)) (by omega) | (exfalso; omega) | exact PLI_b iv5_4 (by omega) (by omega) (by first | (rw [if_pos (by omega)]; exact congrArg gp_wr (by omega)) | (rw [if_neg (by omega)]; exact (gp_wr_id (by omega) (by omega)).symm) | (rw [if_neg (by omega)]; exact congrArg gp_wr (by omega)) | (rw [if_pos (by omega)]; done) | (rw [if_neg (by omega)]; done)) (by omega) (by omega) (by omega) (by omega) (by omega) hPX (fun h9 => by first | (rw [if_pos (by omega), gp_wr_id (by omega) (by omega)]; omega) | (rw [if_neg (by omega), gp_wr_id (by omega) (by omega)]; omega)) (by first | (rw [if_pos (by omega)]; done) | (rw [if_neg (by omega)]; simp; done)) (by first | (rw [if_pos (by omega)]; done) | (rw [if_neg (by omega)]; simp; done)) (by omega) (by omega)) (by first | omega | assumption) (by omega)
              · refine vm_cellAt _ _ (by omega) (fun x_159 p_160 p_161 => ⟨_, rfl, ?_⟩)
                refine ⟨fun h_162 => ?_, fun h_162 => ?_⟩
                · refine s_3142_249 _ _ _ _ _ _ _ _ _ _ _ _ _ ?_
                  try rw [show gp_wr (v11_4 + 1) = v11_4 + 1 from gp_wr_id (by omega) (by omega)]
                  exact ih_4 _ _ _ _ _ _ _ _ _ _ _ _ hs_s_4 hf_s_4 MDi_s_4 mOut_s_4 (by omega) (by omega) (by omega) (by omega) (by first | rfl | omega) (by first | (refine bd_or (bd_le iv0_4 ?_) (bd_0 _); omega) | (refine bd_or (bd_le iv0_4 ?_) (bd_sh ?_ ?_ ?_) <;> omega) | (refine bd_le iv0_4 ?_; omega)) (by first | (refine bd_or (bd_le iv1_4 ?_) (bd_0 _); omega) | (refine bd_or (bd_le iv1_4 ?_) (bd_sh ?_ ?_ ?_) <;> omega) | (refine bd_le iv1_4 ?_; omega)) (by first | omega | assumption) (by first | omega | assumption) (by first | omega | assumption) (by first | exact PLI_a iv5_4 (by omega) (by omega) (by first | (rw [if_pos (by omega)]; exact congrArg gp_wr (by omega)) | (rw [if_neg (by omega)]; exact (gp_wr_id (by omega) (by omega)).symm) | (rw [if_neg (by omega)]; exact congrArg gp_wr (by omega)) | (rw [if_pos (by omega)]; done) | (rw [if_neg (by omega)]; done)) (by omega) | (exfalso; omega) | exact PLI_b iv5_4 (by omega) (by omega) (by first | (rw [if_pos (by omega)]; exact congrArg gp_wr (by omega)) | (rw [if_neg (by omega)]; exact (gp_wr_id (by omega) (by omega)).symm) | (rw [if_neg (by omega)]; exact congrArg gp_wr (by omega)) | (rw [if_pos (by omega)]; done) | (rw [if_neg (by omega)]; done)) (by omega) (by omega) (by omega) (by omega) (by omega) hPX (fun h9 => by first | (rw [if_pos (by omega), gp_wr_id (by omega) (by omega)]; omega) | (rw [if_neg (by omega), gp_wr_id (by omega) (by omega)]; omega)) (by first | (rw [if_pos (by omega)]; done) | (rw [if_neg (by omega)]; simp; done)) (by first | (rw [if_pos (by omega)]; done) | (rw [if_neg (by omega)]; simp; done)) (by omega) (by omega)) (by first | omega | assumption) (by omega)
                · have f_163 := mr74_15 hs_s_4
                  refine ⟨fun h_164 => ?_, fun h_164 => ?_⟩
                  · refine vm_with _ _ _ (by omega) (by omega) (fun m_165 p_166 => ⟨_, rfl, ?_⟩)
                    refine vm_with _ _ _ (by omega) (by omega) (fun m_167 p_168 => ⟨_, rfl, ?_⟩)
                    have hpm9 : (cl p0 v11_4 = 10 ∧ (-1) = v11_4 + 1) ∨ (cl p0 v11_4 = 11 ∧ (-1) = v11_4 - 1) → cl p0 (-1) ≤ 9 → pm m_167 (Int.toNat (gp_I s_4 74 46)) < pm p0 (Int.toNat (gp_I s_4 74 46)) := fun a b => by have h8 : m_167 = wt (wt p0 v11_4 0) (-1) (cl p0 v11_4) := (by subst_vars; rfl); rw [h8]; exact pm_step (by omega) (by omega) (by omega) rfl a b
                    have hpmA := hpm9 (by omega) (by omega)
                    rw [show gp_I s_4 74 46 = gp_I s 74 46 by omega] at hpmA
                    refine ⟨fun h_169 => ?_, fun h_169 => ?_⟩
                    · exfalso; omega
                    · refine vm_cellAt _ _ (by omega) (fun x_170 p_171 p_172 => ⟨_, rfl, ?_⟩)
                      try rw [show gp_wr (-x_170) = -x_170 from gp_wr_id (by omega) (by omega)]
                      refine s_3142_165 _ _ _ _ _ _ _ _ _ _ _ _ _ _ _ ?_
                      have w_173 := wr_rng (p1 + (-x_170))
                      refine ihP _ _ _ _ _ _ (by omega) hs_s_4 (MDi_s_4) (by first | omega | assumption) (by rw [show gp_I s_4 74 46 = gp_I s 74 46 by omega]; omega) (fun x_174 s_175 hs_176 hf_177 p_178 p_179 p_180 p_181 p_182 p_183 p_184 => ⟨_, rfl, ?_⟩)
                      have hf_185 : gF [76, 77, 78, 79, 80, 81] [15] s s_175 := gF.trans hf_s_4 hf_177 rfl rfl
                      have q_186 := (hf_177.2 74 46 rfl (fun _ => rfl)).1
                      have mo_187 : mOut s s_175 := mOut.trans mOut_s_4 p_180
                      have hPX := p_184
                      rw [show m_167 = wt (wt p0 v11_4 0) (-1) (cl p0 v11_4) from (by subst_vars; rfl)] at hPX
                      refine ⟨fun h_188 => ?_, fun h_188 => ?_⟩
                      · exfalso; omega
                      · refine s_3142_188 _ _ _ _ _ _ _ _ _ _ _ _ _ _ ?_
                        refine ⟨fun h_189 => ?_, fun h_189 => ?_⟩
                        · exfalso; omega
                        · refine s_3142_208 _ _ _ _ _ _ _ _ _ _ _ _ _ _ ?_
                          refine ⟨fun h_190 => ?_, fun h_190 => ?_⟩
                          · refine ⟨fun h_191 => ?_, fun h_191 => ?_⟩
                            · exfalso; omega
                            · refine s_3142_228 _ _ _ _ _ _ _ _ _ _ _ _ _ ?_
                              refine ⟨fun h_192 => ?_, fun h_192 => ?_⟩
                              · refine ⟨fun h_193 => ?_, fun h_193 => ?_⟩
                                · exfalso; omega
                                · refine s_3142_247 _ _ _ _ _ _ _ _ _ _ _ _ _ ?_
                                  refine s_3142_249 _ _ _ _ _ _ _ _ _ _ _ _ _ ?_
                                  try rw [show gp_wr (v11_4 + 1) = v11_4 + 1 from gp_wr_id (by omega) (by omega)]
                                  exact ih_4 _ _ _ _ _ _ _ _ _ _ _ _ hs_176 hf_185 p_179 mo_187 (by omega) (by omega) (by omega) (by omega) (by first | rfl | omega) (by first | (refine bd_or (bd_le iv0_4 ?_) (bd_0 _); omega) | (refine bd_or (bd_le iv0_4 ?_) (bd_sh ?_ ?_ ?_) <;> omega) | (refine bd_le iv0_4 ?_; omega)) (by first | (refine bd_or (bd_le iv1_4 ?_) (bd_0 _); omega) | (refine bd_or (bd_le iv1_4 ?_) (bd_sh ?_ ?_ ?_) <;> omega) | (refine bd_le iv1_4 ?_; omega)) (by first | omega | assumption) (by first | omega | assumption) (by first | omega | assumption) (by first | exact PLI_a iv5_4 (by omega) (by omega) (by first | (rw [if_pos (by omega)]; exact congrArg gp_wr (by omega)) | (rw [if_neg (by omega)]; exact (gp_wr_id (by omega) (by omega)).symm) | (rw [if_neg (by omega)]; exact congrArg gp_wr (by omega)) | (rw [if_pos (by omega)]; done) | (rw [if_neg (by omega)]; done)) (by omega) | (exfalso; omega) | exact PLI_b iv5_4 (by omega) (by omega) (by first | (rw [if_pos (by omega)]; exact congrArg gp_wr (by omega)) | (rw [if_neg (by omega)]; exact (gp_wr_id (by omega) (by omega)).symm) | (rw [if_neg (by omega)]; exact congrArg gp_wr (by omega)) | (rw [if_pos (by omega)]; done) | (rw [if_neg (by omega)]; done)) (by omega) (by omega) (by omega) (by omega) (by omega) hPX (fun h9 => by first | (rw [if_pos (by omega), gp_wr_id (by omega) (by omega)]; omega) | (rw [if_neg (by omega), gp_wr_id (by omega) (by omega)]; omega)) (by first | (rw [if_pos (by omega)]; done) | (rw [if_neg (by omega)]; simp; done)) (by first | (rw [if_pos (by omega)]; done) | (rw [if_neg (by omega)]; simp; done)) (by omega) (by omega)) (by first | omega | assumption) (by omega)
                              · refine s_3142_242 _ _ _ _ _ _ _ _ _ _ _ _ ?_
                                refine s_3142_247 _ _ _ _ _ _ _ _ _ _ _ _ _ ?_
                                refine s_3142_249 _ _ _ _ _ _ _ _ _ _ _ _ _ ?_
                                try rw [show gp_wr (v11_4 + 1) = v11_4 + 1 from gp_wr_id (by omega) (by omega)]
                                exact ih_4 _ _ _ _ _ _ _ _ _ _ _ _ hs_176 hf_185 p_179 mo_187 (by omega) (by omega) (by omega) (by omega) (by first | rfl | omega) (by first | (refine bd_or (bd_le iv0_4 ?_) (bd_0 _); omega) | (refine bd_or (bd_le iv0_4 ?_) (bd_sh ?_ ?_ ?_) <;> omega) | (refine bd_le iv0_4 ?_; omega)) (by first | (refine bd_or (bd_le iv1_4 ?_) (bd_0 _); omega) | (refine bd_or (bd_le iv1_4 ?_) (bd_sh ?_ ?_ ?_) <;> omega) | (refine bd_le iv1_4 ?_; omega)) (by first | omega | assumption) (by first | omega | assumption) (by first | omega | assumption) (by first | exact PLI_a iv5_4 (by omega) (by omega) (by first | (rw [if_pos (by omega)]; exact congrArg gp_wr (by omega)) | (rw [if_neg (by omega)]; exact (gp_wr_id (by omega) (by omega)).symm) | (rw [if_neg (by omega)]; exact congrArg gp_wr (by omega)) | (rw [if_pos (by omega)]; done) | (rw [if_neg (by omega)]; done)) (by omega) | (exfalso; omega) | exact PLI_b iv5_4 (by omega) (by omega) (by first | (rw [if_pos (by omega)]; exact congrArg gp_wr (by omega)) | (rw [if_neg (by omega)]; exact (gp_wr_id (by omega) (by omega)).symm) | (rw [if_neg (by omega)]; exact congrArg gp_wr (by omega)) | (rw [if_pos (by omega)]; done) | (rw [if_neg (by omega)]; done)) (by omega) (by omega) (by omega) (by omega) (by omega) hPX (fun h9 => by first | (rw [if_pos (by omega), gp_wr_id (by omega) (by omega)]; omega) | (rw [if_neg (by omega), gp_wr_id (by omega) (by omega)]; omega)) (by first | (rw [if_pos (by omega)]; done) | (rw [if_neg (by omega)]; simp; done)) (by first | (rw [if_pos (by omega)]; done) | (rw [if_neg (by omega)]; simp; done)) (by omega) (by omega)) (by first | omega | assumption) (by omega)
                          · refine s_3142_223 _ _ _ _ _ _ _ _ _ _ _ _ ?_
                            refine s_3142_228 _ _ _ _ _ _ _ _ _ _ _ _ _ ?_
                            refine ⟨fun h_194 => ?_, fun h_194 => ?_⟩
                            · refine ⟨fun h_195 => ?_, fun h_195 => ?_⟩
                              · exfalso; omega
                              · refine s_3142_247 _ _ _ _ _ _ _ _ _ _ _ _ _ ?_
                                refine s_3142_249 _ _ _ _ _ _ _ _ _ _ _ _ _ ?_
                                try rw [show gp_wr (v11_4 + 1) = v11_4 + 1 from gp_wr_id (by omega) (by omega)]
                                exact ih_4 _ _ _ _ _ _ _ _ _ _ _ _ hs_176 hf_185 p_179 mo_187 (by omega) (by omega) (by omega) (by omega) (by first | rfl | omega) (by first | (refine bd_or (bd_le iv0_4 ?_) (bd_0 _); omega) | (refine bd_or (bd_le iv0_4 ?_) (bd_sh ?_ ?_ ?_) <;> omega) | (refine bd_le iv0_4 ?_; omega)) (by first | (refine bd_or (bd_le iv1_4 ?_) (bd_0 _); omega) | (refine bd_or (bd_le iv1_4 ?_) (bd_sh ?_ ?_ ?_) <;> omega) | (refine bd_le iv1_4 ?_; omega)) (by first | omega | assumption) (by first | omega | assumption) (by first | omega | assumption) (by first | exact PLI_a iv5_4 (by omega) (by omega) (by first | (rw [if_pos (by omega)]; exact congrArg gp_wr (by omega)) | (rw [if_neg (by omega)]; exact (gp_wr_id (by omega) (by omega)).symm) | (rw [if_neg (by omega)]; exact congrArg gp_wr (by omega)) | (rw [if_pos (by omega)]; done) | (rw [if_neg (by omega)]; done)) (by omega) | (exfalso; omega) | exact PLI_b iv5_4 (by omega) (by omega) (by first | (rw [if_pos (by omega)]; exact congrArg gp_wr (by omega)) | (rw [if_neg (by omega)]; exact (gp_wr_id (by omega) (by omega)).symm) | (rw [if_neg (by omega)]; exact congrArg gp_wr (by omega)) | (rw [if_pos (by omega)]; done) | (rw [if_neg (by omega)]; done)) (by omega) (by omega) (by omega) (by omega) (by omega) hPX (fun h9 => by first | (rw [if_pos (by omega), gp_wr_id (by omega) (by omega)]; omega) | (rw [if_neg (by omega), gp_wr_id (by omega) (by omega)]; omega)) (by first | (rw [if_pos (by omega)]; done) | (rw [if_neg (by omega)]; simp; done)) (by first | (rw [if_pos (by omega)]; done) | (rw [if_neg (by omega)]; simp; done)) (by omega) (by omega)) (by first | omega | assumption) (by omega)
                            · refine s_3142_242 _ _ _ _ _ _ _ _ _ _ _ _ ?_
                              refine s_3142_247 _ _ _ _ _ _ _ _ _ _ _ _ _ ?_
                              refine s_3142_249 _ _ _ _ _ _ _ _ _ _ _ _ _ ?_
                              try rw [show gp_wr (v11_4 + 1) = v11_4 + 1 from gp_wr_id (by omega) (by omega)]
                              exact ih_4 _ _ _ _ _ _ _ _ _ _ _ _ hs_176 hf_185 p_179 mo_187 (by omega) (by omega) (by omega) (by omega) (by first | rfl | omega) (by first | (refine bd_or (bd_le iv0_4 ?_) (bd_0 _); omega) | (refine bd_or (bd_le iv0_4 ?_) (bd_sh ?_ ?_ ?_) <;> omega) | (refine bd_le iv0_4 ?_; omega)) (by first | (refine bd_or (bd_le iv1_4 ?_) (bd_0 _); omega) | (refine bd_or (bd_le iv1_4 ?_) (bd_sh ?_ ?_ ?_) <;> omega) | (refine bd_le iv1_4 ?_; omega)) (by first | omega | assumption) (by first | omega | assumption) (by first | omega | assumption) (by first | exact PLI_a iv5_4 (by omega) (by omega) (by first | (rw [if_pos (by omega)]; exact congrArg gp_wr (by omega)) | (rw [if_neg (by omega)]; exact (gp_wr_id (by omega) (by omega)).symm) | (rw [if_neg (by omega)]; exact congrArg gp_wr (by omega)) | (rw [if_pos (by omega)]; done) | (rw [if_neg (by omega)]; done)) (by omega) | (exfalso; omega) | exact PLI_b iv5_4 (by omega) (by omega) (by first | (rw [if_pos (by omega)]; exact congrArg gp_wr (by omega)) | (rw [if_neg (by omega)]; exact (gp_wr_id (by omega) (by omega)).symm) | (rw [if_neg (by omega)]; exact congrArg gp_wr (by omega)) | (rw [if_pos (by omega)]; done) | (rw [if_neg (by omega)]; done)) (by omega) (by omega) (by omega) (by omega) (by omega) hPX (fun h9 => by first | (rw [if_pos (by omega), gp_wr_id (by omega) (by omega)]; omega) | (rw [if_neg (by omega), gp_wr_id (by omega) (by omega)]; omega)) (by first | (rw [if_pos (by omega)]; done) | (rw [if_neg (by omega)]; simp; done)) (by first | (rw [if_pos (by omega)]; done) | (rw [if_neg (by omega)]; simp; done)) (by omega) (by omega)) (by first | omega | assumption) (by omega)
                  · refine s_3142_249 _ _ _ _ _ _ _ _ _ _ _ _ _ ?_
                    try rw [show gp_wr (v11_4 + 1) = v11_4 + 1 from gp_wr_id (by omega) (by omega)]
                    exact ih_4 _ _ _ _ _ _ _ _ _ _ _ _ hs_s_4 hf_s_4 MDi_s_4 mOut_s_4 (by omega) (by omega) (by omega) (by omega) (by first | rfl | omega) (by first | (refine bd_or (bd_le iv0_4 ?_) (bd_0 _); omega) | (refine bd_or (bd_le iv0_4 ?_) (bd_sh ?_ ?_ ?_) <;> omega) | (refine bd_le iv0_4 ?_; omega)) (by first | (refine bd_or (bd_le iv1_4 ?_) (bd_0 _); omega) | (refine bd_or (bd_le iv1_4 ?_) (bd_sh ?_ ?_ ?_) <;> omega) | (refine bd_le iv1_4 ?_; omega)) (by first | omega | assumption) (by first | omega | assumption) (by first | omega | assumption) (by first | exact PLI_a iv5_4 (by omega) (by omega) (by first | (rw [if_pos (by omega)]; exact congrArg gp_wr (by omega)) | (rw [if_neg (by omega)]; exact (gp_wr_id (by omega) (by omega)).symm) | (rw [if_neg (by omega)]; exact congrArg gp_wr (by omega)) | (rw [if_pos (by omega)]; done) | (rw [if_neg (by omega)]; done)) (by omega) | (exfalso; omega) | exact PLI_b iv5_4 (by omega) (by omega) (by first | (rw [if_pos (by omega)]; exact congrArg gp_wr (by omega)) | (rw [if_neg (by omega)]; exact (gp_wr_id (by omega) (by omega)).symm) | (rw [if_neg (by omega)]; exact congrArg gp_wr (by omega)) | (rw [if_pos (by omega)]; done) | (rw [if_neg (by omega)]; done)) (by omega) (by omega) (by omega) (by omega) (by omega) hPX (fun h9 => by first | (rw [if_pos (by omega), gp_wr_id (by omega) (by omega)]; omega) | (rw [if_neg (by omega), gp_wr_id (by omega) (by omega)]; omega)) (by first | (rw [if_pos (by omega)]; done) | (rw [if_neg (by omega)]; simp; done)) (by first | (rw [if_pos (by omega)]; done) | (rw [if_neg (by omega)]; simp; done)) (by omega) (by omega)) (by first | omega | assumption) (by omega)
      · have f_196 := mr74_15 hs_s_4
        refine ⟨fun h_197 => ?_, fun h_197 => ?_⟩
        · refine ⟨fun h_198 => ?_, fun h_198 => ?_⟩
          · refine s_3142_278 _ _ _ _ _ _ _ _ _ _ _ _ _ _ ?_
            refine ⟨fun h_199 => ?_, fun h_199 => ?_⟩
            · refine s_3142_289 _ _ _ _ _ _ _ _ _ _ _ _ _ _ _ ?_
              have w_200 := wr_rng (p1 - v8_4)
              have w_201 := wr_rng (p1 + v8_4)
              refine vm_madeY _ _ _ _ hs_s_4 (MDi_s_4) (by first | exact iv0_4 | exact bd_0 _ | assumption) (by first | exact iv1_4 | exact bd_0 _ | assumption) (fun x_202 s_203 hs_204 hf_205 p_206 p_207 p_208 p_209 p_210 p_211 p_212 p_213 p_214 p_215 => ⟨_, rfl, ?_⟩)
              have hf_216 : gF [76, 77, 78, 79, 80, 81] [15] s s_203 := gF.trans hf_s_4 hf_205 rfl rfl
              have q_217 := (hf_205.2 74 46 rfl (fun _ => rfl)).1
              have mo_218 : mOut s s_203 := mOut.trans mOut_s_4 p_211
              refine s_3142_300 _ _ _ _ _ _ _ _ _ _ _ _ _ _ ?_
              exact k _ s_203 hs_204 hf_216 (by omega) (p_207) mo_218 (by first | omega | assumption) (by first | omega | assumption) (by first | omega | assumption) (by first | exact PLX_f iv5_4 (by omega) (by omega) | exact PLX_m iv5_4 (by omega) (by omega) (by assumption) (by first | exact Or.inl rfl | exact Or.inr ⟨by omega, rfl⟩) (by first | exact Or.inl rfl | exact Or.inr ⟨by omega, rfl⟩) rfl rfl (by assumption) (by assumption))
            · refine s_3142_289 _ _ _ _ _ _ _ _ _ _ _ _ _ _ _ ?_
              have w_219 := wr_rng (p1 - v8_4)
              have w_220 := wr_rng (p1 + v8_4)
              refine vm_madeY _ _ _ _ hs_s_4 (MDi_s_4) (by first | exact iv0_4 | exact bd_0 _ | assumption) (by first | exact iv1_4 | exact bd_0 _ | assumption) (fun x_221 s_222 hs_223 hf_224 p_225 p_226 p_227 p_228 p_229 p_230 p_231 p_232 p_233 p_234 => ⟨_, rfl, ?_⟩)
              have hf_235 : gF [76, 77, 78, 79, 80, 81] [15] s s_222 := gF.trans hf_s_4 hf_224 rfl rfl
              have q_236 := (hf_224.2 74 46 rfl (fun _ => rfl)).1
              have mo_237 : mOut s s_222 := mOut.trans mOut_s_4 p_230
              refine s_3142_300 _ _ _ _ _ _ _ _ _ _ _ _ _ _ ?_
              exact k _ s_222 hs_223 hf_235 (by omega) (p_226) mo_237 (by first | omega | assumption) (by first | omega | assumption) (by first | omega | assumption) (by first | exact PLX_f iv5_4 (by omega) (by omega) | exact PLX_m iv5_4 (by omega) (by omega) (by assumption) (by first | exact Or.inl rfl | exact Or.inr ⟨by omega, rfl⟩) (by first | exact Or.inl rfl | exact Or.inr ⟨by omega, rfl⟩) rfl rfl (by assumption) (by assumption))
          · refine s_3142_278 _ _ _ _ _ _ _ _ _ _ _ _ _ _ ?_
            refine ⟨fun h_238 => ?_, fun h_238 => ?_⟩
            · refine s_3142_289 _ _ _ _ _ _ _ _ _ _ _ _ _ _ _ ?_
              have w_239 := wr_rng (p1 - v8_4)
              have w_240 := wr_rng (p1 + v8_4)
              refine vm_madeY _ _ _ _ hs_s_4 (MDi_s_4) (by first | exact iv0_4 | exact bd_0 _ | assumption) (by first | exact iv1_4 | exact bd_0 _ | assumption) (fun x_241 s_242 hs_243 hf_244 p_245 p_246 p_247 p_248 p_249 p_250 p_251 p_252 p_253 p_254 => ⟨_, rfl, ?_⟩)
              have hf_255 : gF [76, 77, 78, 79, 80, 81] [15] s s_242 := gF.trans hf_s_4 hf_244 rfl rfl
              have q_256 := (hf_244.2 74 46 rfl (fun _ => rfl)).1
              have mo_257 : mOut s s_242 := mOut.trans mOut_s_4 p_250
              refine s_3142_300 _ _ _ _ _ _ _ _ _ _ _ _ _ _ ?_
              exact k _ s_242 hs_243 hf_255 (by omega) (p_246) mo_257 (by first | omega | assumption) (by first | omega | assumption) (by first | omega | assumption) (by first | exact PLX_f iv5_4 (by omega) (by omega) | exact PLX_m iv5_4 (by omega) (by omega) (by assumption) (by first | exact Or.inl rfl | exact Or.inr ⟨by omega, rfl⟩) (by first | exact Or.inl rfl | exact Or.inr ⟨by omega, rfl⟩) rfl rfl (by assumption) (by assumption))
            · refine s_3142_289 _ _ _ _ _ _ _ _ _ _ _ _ _ _ _ ?_
              have w_258 := wr_rng (p1 - v8_4)
              have w_259 := wr_rng (p1 + v8_4)
              refine vm_madeY _ _ _ _ hs_s_4 (MDi_s_4) (by first | exact iv0_4 | exact bd_0 _ | assumption) (by first | exact iv1_4 | exact bd_0 _ | assumption) (fun x_260 s_261 hs_262 hf_263 p_264 p_265 p_266 p_267 p_268 p_269 p_270 p_271 p_272 p_273 => ⟨_, rfl, ?_⟩)
              have hf_274 : gF [76, 77, 78, 79, 80, 81] [15] s s_261 := gF.trans hf_s_4 hf_263 rfl rfl
              have q_275 := (hf_263.2 74 46 rfl (fun _ => rfl)).1
              have mo_276 : mOut s s_261 := mOut.trans mOut_s_4 p_269
              refine s_3142_300 _ _ _ _ _ _ _ _ _ _ _ _ _ _ ?_
              exact k _ s_261 hs_262 hf_274 (by omega) (p_265) mo_276 (by first | omega | assumption) (by first | omega | assumption) (by first | omega | assumption) (by first | exact PLX_f iv5_4 (by omega) (by omega) | exact PLX_m iv5_4 (by omega) (by omega) (by assumption) (by first | exact Or.inl rfl | exact Or.inr ⟨by omega, rfl⟩) (by first | exact Or.inl rfl | exact Or.inr ⟨by omega, rfl⟩) rfl rfl (by assumption) (by assumption))
        · refine s_3142_300 _ _ _ _ _ _ _ _ _ _ _ _ _ _ ?_
          exact k _ s_4 hs_s_4 hf_s_4 (by omega) (MDi_s_4) mOut_s_4 (by first | omega | assumption) (by first | omega | assumption) (by first | omega | assumption) (by first | exact PLX_f iv5_4 (by omega) (by omega) | exact PLX_m iv5_4 (by omega) (by omega) (by assumption) (by first | exact Or.inl rfl | exact Or.inr ⟨by omega, rfl⟩) (by first | exact Or.inl rfl | exact Or.inr ⟨by omega, rfl⟩) rfl rfl (by assumption) (by assumption))
  exact lp_4 _ _ _ _ _ _ _ _ _ _ _ _ _ hs (gF.refl _ _ _) q0 (mOut.refl _) (by omega) (by omega) (by omega) (by omega) (by first | rfl | omega) (bd_0 _) (bd_0 _) (by first | omega | assumption) (by first | omega | assumption) (by first | omega | assumption) (PLI_0) (by first | omega | assumption) (Nat.lt_succ_self _)
