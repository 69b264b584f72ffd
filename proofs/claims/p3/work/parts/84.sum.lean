/-! the class's sums -/
def XS (L : Nat) (s : gH) : Prop := ∀ k : Nat, k < 8 → ∃ a n, gp_R (gp_mk L s) 4 k = some a ∧ kT L s a n ∧ n ≤ 60
def XK (L : Nat) (s : gH) : Prop := ∀ k : Nat, k < 8 → ∃ a n, gp_R (gp_mk L s) 5 k = some a ∧ kT L s a n ∧ n ≤ 60
theorem XS.get {L : Nat} {s : gH} (h : XS L s) (k : Nat) (hk : k < 8) : ∃ a n, gp_R (gp_mk L s) 4 k = some a ∧ kT L s a n ∧ n ≤ 60 := h k hk
theorem XS.kept {L : Nat} {s : gH} (h : XK L s) (k : Nat) (hk : k < 8) : ∃ a n, gp_R (gp_mk L s) 5 k = some a ∧ kT L s a n ∧ n ≤ 60 := h k hk
theorem R_fr {L : Nat} {al : Bool} {m : List Nat} {s t : gH} (g : gX L al m s t) {c k : Nat} (h1 : 1 ≤ c) (h2 : c < 117) (e : m.contains (gcd c k) = false) : gp_R (gp_mk L t) c k = gp_R (gp_mk L s) c k := by
  have r := (g.2.2.1 c k (Nat.zero_le _) h2 e).2.2
  show (match gp_sR c k with | some r => r | none => _) = (match gp_sR c k with | some r => r | none => _)
  rw [r]
theorem XS_fr {L : Nat} {al : Bool} {m : List Nat} {s t : gH} (h : XS L s) (g : gX L al m s t) (e : m.contains 4 = false) : XS L t := fun k hk => by
  obtain ⟨a, n, h1, h2, h3⟩ := h k hk
  exact ⟨a, n, (R_fr (c := 4) (k := k) g (by decide) (by decide) e).trans h1, h2.fr g.1, h3⟩
theorem XK_fr {L : Nat} {al : Bool} {m : List Nat} {s t : gH} (h : XK L s) (g : gX L al m s t) (e : m.contains 5 = false) : XK L t := fun k hk => by
  obtain ⟨a, n, h1, h2, h3⟩ := h k hk
  exact ⟨a, n, (R_fr (c := 5) (k := k) g (by decide) (by decide) e).trans h1, h2.fr g.1, h3⟩
/-- a part's cell, how many places it has -/
def pt (L P : Nat) (s : gH) (b : Nat) : Nat := (gp_R (gp_mk L s) P b).getD 0
def pn (L P : Nat) (s : gH) (b : Nat) : Nat := (gp_sh (gp_mk L s) (pt L P s b + 1)).2
def SVP (L P : Nat) (s : gH) : Prop := ∀ b : Nat, b < 3 → ∃ a n, gp_R (gp_mk L s) P b = some a ∧ kT L s a n ∧ n ≤ 60 ∧ gp_I s (P + 1) b < n
theorem pt_of {L P b a : Nat} {s : gH} (h : gp_R (gp_mk L s) P b = some a) : pt L P s b = a := by unfold pt; rw [h]; rfl
theorem pn_of {L P b a n : Nat} {s : gH} (h : gp_R (gp_mk L s) P b = some a) (k : kT L s a n) : pn L P s b = n := by unfold pn; rw [pt_of h]; exact k.2.2
theorem SVP.part {L P : Nat} {s : gH} (h : SVP L P s) (b : Nat) (hb : b < 3) : ∃ a n, gp_R (gp_mk L s) P b = some a ∧ kT L s a n ∧ (n ≤ 60 ∧ gp_I s (P + 1) b < n ∧ n = pn L P s b ∧ a = pt L P s b) := by
  obtain ⟨a, n, h1, h2, h3, h4⟩ := h b hb
  exact ⟨a, n, h1, h2, h3, h4, (pn_of h1 h2).symm, (pt_of h1).symm⟩
theorem pn_eq {L P b a n : Nat} {al : Bool} {m : List Nat} {s t : gH} (g : gX L al m s t) (h1 : 1 ≤ P) (h2 : P < 117) (e : m.contains (gcd P b) = false) (r : gp_R (gp_mk L s) P b = some a) (k : kT L s a n) : pn L P t b = pn L P s b := by
  rw [pn_of r k, pn_of ((R_fr g h1 h2 e).trans r) (k.fr g.1)]
theorem SVP_le {L P : Nat} {al : Bool} {m : List Nat} {s t : gH} (h : SVP L P s) (g : gX L al m s t) (h1 : 1 ≤ P) (h2 : P < 117) (e : ∀ b, b < 3 → m.contains (gcd P b) = false) (he : ∀ b : Nat, b < 3 → gp_I t (P + 1) b < pn L P s b) : SVP L P t := fun b hb => by
  obtain ⟨a, n, q1, q2, q3, q4⟩ := h b hb
  refine ⟨a, n, (R_fr g h1 h2 (e b hb)).trans q1, q2.fr g.1, q3, ?_⟩
  have := he b hb
  rw [pn_of q1 q2] at this
  exact this
theorem SVP_fr {L P : Nat} {al : Bool} {m : List Nat} {s t : gH} (h : SVP L P s) (g : gX L al m s t) (h1 : 1 ≤ P) (h2 : P + 1 < 117) (e : ∀ b, b < 3 → m.contains (gcd P b) = false) (e2 : ∀ b, b < 3 → m.contains (gcd (P + 1) b) = false) : SVP L P t := by
  refine SVP_le h g h1 (by omega) e (fun b hb => ?_)
  obtain ⟨a, n, q1, q2, q3, q4⟩ := h b hb
  rw [pn_of q1 q2, (g.2.2.1 (P + 1) b (by omega) h2 (e2 b hb)).1]
  exact q4
theorem SVP52_fr {L : Nat} {al : Bool} {m : List Nat} {s t : gH} (h : SVP L 52 s) (g : gX L al m s t) (e : m.contains 52 = false) (e2 : m.contains 53 = false) : SVP L 52 t := SVP_fr h g (by decide) (by decide) (fun _ _ => e) (fun _ _ => e2)
theorem SVP61_fr {L : Nat} {al : Bool} {m : List Nat} {s t : gH} (h : SVP L 61 s) (g : gX L al m s t) (e : m.contains 61 = false) (e2 : m.contains 62 = false) : SVP L 61 t := SVP_fr h g (by decide) (by decide) (fun _ _ => e) (fun _ _ => e2)
theorem SVP_set {L P i a n S : Nat} {s s1 s2 t : gH} {x y : Int} (h : SVP L P s) (hP : (P = 52 ∧ S = 51) ∨ (P = 61 ∧ S = 60)) (kt : kT L t a n) (hn : n ≤ 60) (e1 : s1 = gp_wI s S 8 x) (e2 : s2 = gp_wR s1 P i (some a)) (e3 : t = gp_wI s2 (P + 1) i y) (hy : y < n) : SVP L P t := by
  intro b hb
  have hR : gp_R (gp_mk L t) P b = gp_R (gp_mk L s2) P b := by rw [e3]; rfl
  have hI : gp_I t (P + 1) b = if b = i then y else gp_I s (P + 1) b := by
    rw [e3, gz_rwi]
    have : gp_I s2 (P + 1) b = gp_I s (P + 1) b := by
      rw [e2, e1]
      exact I_ne (by omega)
    rw [this]
  have hs : ∀ c, gp_sh (gp_mk L t) c = gp_sh (gp_mk L s) c := fun c => by rw [e3, e2, e1]; rfl
  have hz : t.1 = s.1 := by rw [e3, e2, e1]
  by_cases c : b = i
  · refine ⟨a, n, ?_, kt, hn, ?_⟩
    · rw [hR, e2, c]
      refine R_wRs ?_
      rcases hP with q | q <;> rw [q.1] <;> rfl
    · rw [hI, if_pos c]; exact hy
  · obtain ⟨a', n', q1, q2, q3, q4⟩ := h b hb
    refine ⟨a', n', ?_, ⟨by rw [hz]; exact q2.1, by rw [hs]; exact q2.2.1, by rw [hs]; exact q2.2.2⟩, q3, ?_⟩
    · rw [hR, e2, R_wR b (Or.inr c), e1]; exact q1
    · rw [hI, if_neg c]; exact q4
/-- scores that are good fill no more places than there are -/
def aln (L S : Nat) (s : gH) : Nat := (gp_sh (gp_mk L s) ((gp_R (gp_mk L s) S 6).getD 0)).2
def pr3 (L P : Nat) (s : gH) : Nat := pn L P s 0 * pn L P s 1 * pn L P s 2
theorem SVP.p52 {L : Nat} {s : gH} (h : SVP L 52 s) (b : Nat) (hb : b < 3) : ∃ a n, gp_R (gp_mk L s) 52 b = some a ∧ kT L s a n ∧ (n ≤ 60 ∧ gp_I s 53 b < n ∧ n = pn L 52 s b ∧ a = pt L 52 s b) := SVP.part h b hb
theorem SVP.p61 {L : Nat} {s : gH} (h : SVP L 61 s) (b : Nat) (hb : b < 3) : ∃ a n, gp_R (gp_mk L s) 61 b = some a ∧ kT L s a n ∧ (n ≤ 60 ∧ gp_I s 62 b < n ∧ n = pn L 61 s b ∧ a = pt L 61 s b) := SVP.part h b hb
def SVL (L P S : Nat) (s : gH) : Prop := (∀ b : Nat, b < 3 → ∃ a n, gp_R (gp_mk L s) P b = some a ∧ kT L s a n) ∧ ∃ l, gp_R (gp_mk L s) S 6 = some l ∧ l < s.1
def SVF (L P S : Nat) (s : gH) : Prop := SVL L P S s ∧ (gp_I s S 8 = 0 ∨ pr3 L P s ≤ aln L S s)
def SVG (L P S : Nat) (s : gH) : Prop := SVL L P S s ∧ pr3 L P s ≤ aln L S s
theorem aln_of {L S l : Nat} {s : gH} (h : gp_R (gp_mk L s) S 6 = some l) : aln L S s = (gp_sh (gp_mk L s) l).2 := by unfold aln; rw [h]; rfl
theorem SVL.fr {L P S : Nat} {al : Bool} {m : List Nat} {s t : gH} (h : SVL L P S s) (g : gX L al m s t) (h1 : 1 ≤ P) (h2 : P < 117) (h3 : 1 ≤ S) (h4 : S < 117) (e : ∀ b, b < 3 → m.contains (gcd P b) = false) (e2 : m.contains (gcd S 6) = false) : SVL L P S t ∧ pr3 L P t = pr3 L P s ∧ aln L S t = aln L S s := by
  refine ⟨⟨fun b hb => ?_, ?_⟩, ?_, ?_⟩
  · obtain ⟨a, n, q1, q2⟩ := h.1 b hb
    exact ⟨a, n, (R_fr g h1 h2 (e b hb)).trans q1, q2.fr g.1⟩
  · obtain ⟨l, q1, q2⟩ := h.2
    exact ⟨l, (R_fr g h3 h4 e2).trans q1, Nat.lt_of_lt_of_le q2 g.1.1⟩
  · have e9 : ∀ b, b < 3 → pn L P t b = pn L P s b := fun b hb => by
      obtain ⟨a, n, q1, q2⟩ := h.1 b hb
      exact pn_eq g h1 h2 (e b hb) q1 q2
    unfold pr3
    rw [e9 0 (by decide), e9 1 (by decide), e9 2 (by decide)]
  · obtain ⟨l, q1, q2⟩ := h.2
    rw [aln_of q1, aln_of ((R_fr g h3 h4 e2).trans q1), g.1.2.1 l q2]
theorem SVF51_fr {L : Nat} {al : Bool} {m : List Nat} {s t : gH} (h : SVF L 52 51 s) (g : gX L al m s t) (e : m.contains 52 = false) (e2 : m.contains 2638 = false) (e3 : m.contains 2640 = false) : SVF L 52 51 t := by
  have q := h.1.fr g (by decide) (by decide) (by decide) (by decide) (fun _ _ => e) e2
  refine ⟨q.1, ?_⟩
  rw [q.2.1, q.2.2, (g.2.2.1 51 8 (by decide) (by decide) e3).1]
  exact h.2
theorem SVF60_fr {L : Nat} {al : Bool} {m : List Nat} {s t : gH} (h : SVF L 61 60 s) (g : gX L al m s t) (e : m.contains 61 = false) (e2 : m.contains 2926 = false) (e3 : m.contains 2928 = false) : SVF L 61 60 t := by
  have q := h.1.fr g (by decide) (by decide) (by decide) (by decide) (fun _ _ => e) e2
  refine ⟨q.1, ?_⟩
  rw [q.2.1, q.2.2, (g.2.2.1 60 8 (by decide) (by decide) e3).1]
  exact h.2
theorem SVG51_fr {L : Nat} {al : Bool} {m : List Nat} {s t : gH} (h : SVG L 52 51 s) (g : gX L al m s t) (e : m.contains 52 = false) (e2 : m.contains 2638 = false) : SVG L 52 51 t := by
  have q := h.1.fr g (by decide) (by decide) (by decide) (by decide) (fun _ _ => e) e2
  refine ⟨q.1, ?_⟩
  rw [q.2.1, q.2.2]
  exact h.2
theorem SVG60_fr {L : Nat} {al : Bool} {m : List Nat} {s t : gH} (h : SVG L 61 60 s) (g : gX L al m s t) (e : m.contains 61 = false) (e2 : m.contains 2926 = false) : SVG L 61 60 t := by
  have q := h.1.fr g (by decide) (by decide) (by decide) (by decide) (fun _ _ => e) e2
  refine ⟨q.1, ?_⟩
  rw [q.2.1, q.2.2]
  exact h.2
theorem SVF_set {L P i a n S : Nat} {s s1 s2 t : gH} {x y : Int} (h : SVF L P S s) (hP : (P = 52 ∧ S = 51) ∨ (P = 61 ∧ S = 60)) (kt : kT L t a n) (hx : x = 0 ∨ (¬ gp_I s S 8 = 0 ∧ gp_R (gp_mk L s) P i = some a)) (e1 : s1 = gp_wI s S 8 x) (e2 : s2 = gp_wR s1 P i (some a)) (e3 : t = gp_wI s2 (P + 1) i y) : SVF L P S t := by
  have hs : ∀ c, gp_sh (gp_mk L t) c = gp_sh (gp_mk L s) c := fun c => by rw [e3, e2, e1]; rfl
  have hz : t.1 = s.1 := by rw [e3, e2, e1]
  have hk : ∀ {a n}, kT L s a n → kT L t a n := fun q2 => ⟨by rw [hz]; exact q2.1, by rw [hs]; exact q2.2.1, by rw [hs]; exact q2.2.2⟩
  have hR : ∀ b, gp_R (gp_mk L t) P b = gp_R (gp_mk L s2) P b := fun b => by rw [e3]; rfl
  have hRi : gp_R (gp_mk L t) P i = some a := by
    rw [hR, e2]
    refine R_wRs ?_
    rcases hP with q | q <;> rw [q.1] <;> rfl
  have hRn : ∀ b, ¬ b = i → gp_R (gp_mk L t) P b = gp_R (gp_mk L s) P b := fun b c => by
    rw [hR, e2, R_wR b (Or.inr c), e1]; rfl
  have hl : gp_R (gp_mk L t) S 6 = gp_R (gp_mk L s) S 6 := by
    have q9 : gp_R (gp_mk L t) S 6 = gp_R (gp_mk L s2) S 6 := by rw [e3]; rfl
    rw [q9, e2, R_wR 6 (Or.inl (by omega)), e1]; rfl
  refine ⟨⟨fun b hb => ?_, ?_⟩, ?_⟩
  · by_cases c : b = i
    · exact ⟨a, n, by rw [c]; exact hRi, kt⟩
    · obtain ⟨a', n', q1, q2⟩ := h.1.1 b hb
      exact ⟨a', n', (hRn b c).trans q1, hk q2⟩
  · obtain ⟨l, q1, q2⟩ := h.1.2
    exact ⟨l, hl.trans q1, by rw [hz]; exact q2⟩
  · rcases hx with q | q
    · left
      rw [e3]
      refine (I_ne (by omega)).trans ?_
      rw [e2]
      show gp_I s1 S 8 = 0
      rw [e1, (gz_rw _ _ _ _ _).1 rfl]
      exact q
    · right
      have hA : ∀ b, gp_R (gp_mk L t) P b = gp_R (gp_mk L s) P b := fun b => by
        by_cases c : b = i
        · rw [c, hRi, q.2]
        · exact hRn b c
      have hn : ∀ b, pn L P t b = pn L P s b := fun b => by unfold pn pt; rw [hA, hs]
      have ha : aln L S t = aln L S s := by unfold aln; rw [hl, hs]
      have h9 := h.2
      unfold pr3 at h9 ⊢
      rw [hn, hn, hn, ha]
      rcases h9 with q9 | q9
      · exact absurd q9 q.1
      · exact q9
/-! products that are no sums -/
theorem plc3 {a0 a1 a2 : Int} {n0 n1 n2 : Nat} (h0 : 0 ≤ a0) (k0 : a0 < n0) (h1 : 0 ≤ a1) (k1 : a1 < n1) (h2 : 0 ≤ a2) (k2 : a2 < n2) : 0 ≤ (a0 * n1 + a1) * n2 + a2 ∧ (a0 * n1 + a1) * n2 + a2 < ((n0 * n1 * n2 : Nat) : Int) := by
  obtain ⟨x, hx⟩ : ∃ x : Nat, a0 = x := ⟨a0.toNat, by omega⟩
  obtain ⟨y, hy⟩ : ∃ x : Nat, a1 = x := ⟨a1.toNat, by omega⟩
  obtain ⟨z, hz⟩ : ∃ x : Nat, a2 = x := ⟨a2.toNat, by omega⟩
  subst hx; subst hy; subst hz
  have q : (x * n1 + y) * n2 + z < n0 * n1 * n2 := by
    have q1 : x * n1 + y + 1 ≤ n0 * n1 := by
      have : (x + 1) * n1 ≤ n0 * n1 := Nat.mul_le_mul_right _ (by omega)
      rw [Nat.succ_mul] at this
      omega
    have q2 : (x * n1 + y + 1) * n2 ≤ n0 * n1 * n2 := Nat.mul_le_mul_right _ q1
    rw [Nat.succ_mul] at q2
    omega
  constructor
  · have : (0 : Int) ≤ (((x * n1 + y) * n2 + z : Nat) : Int) := Int.natCast_nonneg _
    simpa using this
  · have : (((x * n1 + y) * n2 + z : Nat) : Int) < ((n0 * n1 * n2 : Nat) : Int) := by exact_mod_cast q
    simpa using this
/-- how many choices a board has -/
def chc (L P A : Nat) (s : gH) (b : Nat) (side : Int) : Nat := gm_cnt (tO s (pt L P s b) side (gp_I s A b)) 64
theorem chc_of {L P A : Nat} {s : gH} {x side : Int} {m : BitVec 64} {a b : Nat} (e1 : x = (gm_cnt m 64 : Nat)) (e2 : m = tO s a side (gp_I s A b)) (e3 : a = pt L P s b) : x = (chc L P A s b side : Nat) := by
  unfold chc
  rw [← e3, ← e2]; exact e1
set_option maxRecDepth 100000 in
/-- Sum.stand -/
theorem xm_sstand51  {L d : Nat} {K : Option gV → gH → Prop} {s : gH} (n_p1 : Nat) (p0 : Int) (p1 : Nat) (hs : XI L 0 s) (h_p0 : 0 ≤ p0 ∧ p0 ≤ 2) (q0 : kT L s p1 n_p1) (q1 : n_p1 ≤ 60) (q2 : SVP L 52 s) (q3 : SVF L 52 51 s) (k : ∀ (t : gH), XI L 0 t → gX L false [52, 53, 2640] s t → (SVP L 52 t) → (SVF L 52 51 t) → K none t) : gs_C L (d + 1) 2050 3 [gp_r (some 51), gp_i p0, gp_r (some p1)] s K := by
  have hn_p1 := q0.n hs
  refine s_2050_e _ _ _ ?_
  refine ⟨51, rfl, ?_⟩
  refine ⟨rfl, ?_⟩
  have f_1 := xr51_8 hs
  refine ⟨fun h_2 => ?_, fun h_2 => ?_⟩
  · refine s_2050_22 _ _ _ _ ?_
    refine s_2050_23 _ _ _ _ _ ?_
    refine ⟨51, rfl, ?_⟩
    refine ⟨rfl, ?_⟩
    refine ⟨by omega, ?_⟩
    intro s_9 e_10
    have hs_11 : XI L 0 s_9 := by rw [e_10]; exact xw51_8 hs _ (by omega)
    have hf_12 : gX L false [52, 53, 2640] s s_9 := by rw [e_10]; exact gX.wI (gX.refl _ _ _ _) (Or.inl rfl)
    have kt_13 : kT L s_9 p1 n_p1 := by rw [e_10]; exact q0
    have pd_14 : SVP L 52 s_9 := by rw [e_10]; exact SVP52_fr q2 (gX.wI (gX.refl L true [2640] _) (Or.inl rfl)) rfl rfl
    refine ⟨51, rfl, ?_⟩
    refine ⟨rfl, ?_⟩
    refine ⟨p1, rfl, ?_⟩
    refine ⟨52, rfl, ?_⟩
    refine ⟨⟨rfl, by show 0 ≤ p0 ∧ p0 < 3; omega⟩, ?_⟩
    refine ⟨kt_13.2.1, ?_⟩
    refine ⟨rfl, ?_⟩
    intro s_15 e_16
    have hs_17 : XI L 0 s_15 := by rw [e_16]; exact XI.wR hs_11 52 (Int.toNat p0) _ (Or.inl (show ¬ (gp_ss 52).1 = 9 by decide))
    have hf_18 : gX L false [52, 53, 2640] s s_15 := by rw [e_16]; exact gX.wR hf_12 (Or.inl rfl) (Or.inl (show ¬ (gp_ss 52).1 = 9 by decide))
    have kt_19 : kT L s_15 p1 n_p1 := by rw [e_16]; exact kt_13
    refine ⟨rfl, ?_⟩
    refine ⟨kt_19.2.1, ?_⟩
    refine xm_root n_p1 _ hs_17 (by first | assumption | exact kT7 hs_17.1.1 | exact kT25 hs_17.1.1) (fun x_20 p_21 p_22 => ⟨_, rfl, ?_⟩)
    refine ⟨53, rfl, ?_⟩
    refine ⟨⟨rfl, by show 0 ≤ p0 ∧ p0 < 3; omega⟩, ?_⟩
    intro s_23 e_24
    have hs_25 : XI L 0 s_23 := by rw [e_24]; exact xw53 hs_17 _ _ (by omega)
    have hf_26 : gX L false [52, 53, 2640] s s_23 := by rw [e_24]; exact gX.wI hf_18 (Or.inl rfl)
    have kt_27 : kT L s_23 p1 n_p1 := by rw [e_24]; exact kt_19
    exact k s_23 hs_25 hf_26 (SVP_set (S := 51) q2 (by decide) (by assumption) q1 (by assumption) (by assumption) (by assumption) (by omega)) (by first | exact SVF_set (P := 52) (S := 51) (x := 0) q3 (by decide) (by assumption) (Or.inl rfl) (by assumption) (by assumption) (by assumption) | exact SVF_set (P := 52) (S := 51) (x := 1) q3 (by decide) (by assumption) (Or.inr ⟨by assumption, by assumption⟩) (by assumption) (by assumption) (by assumption))
  · refine ⟨rfl, ?_⟩
    refine ⟨52, rfl, ?_⟩
    refine ⟨⟨rfl, by show 0 ≤ p0 ∧ p0 < 3; omega⟩, ?_⟩
    refine ⟨fun h_28 => ?_, fun h_28 => ?_⟩
    · refine s_2050_23 _ _ _ _ _ ?_
      refine ⟨51, rfl, ?_⟩
      refine ⟨rfl, ?_⟩
      refine ⟨by omega, ?_⟩
      intro s_32 e_33
      have hs_34 : XI L 0 s_32 := by rw [e_33]; exact xw51_8 hs _ (by omega)
      have hf_35 : gX L false [52, 53, 2640] s s_32 := by rw [e_33]; exact gX.wI (gX.refl _ _ _ _) (Or.inl rfl)
      have kt_36 : kT L s_32 p1 n_p1 := by rw [e_33]; exact q0
      have pd_37 : SVP L 52 s_32 := by rw [e_33]; exact SVP52_fr q2 (gX.wI (gX.refl L true [2640] _) (Or.inl rfl)) rfl rfl
      refine ⟨51, rfl, ?_⟩
      refine ⟨rfl, ?_⟩
      refine ⟨p1, rfl, ?_⟩
      refine ⟨52, rfl, ?_⟩
      refine ⟨⟨rfl, by show 0 ≤ p0 ∧ p0 < 3; omega⟩, ?_⟩
      refine ⟨kt_36.2.1, ?_⟩
      refine ⟨rfl, ?_⟩
      intro s_38 e_39
      have hs_40 : XI L 0 s_38 := by rw [e_39]; exact XI.wR hs_34 52 (Int.toNat p0) _ (Or.inl (show ¬ (gp_ss 52).1 = 9 by decide))
      have hf_41 : gX L false [52, 53, 2640] s s_38 := by rw [e_39]; exact gX.wR hf_35 (Or.inl rfl) (Or.inl (show ¬ (gp_ss 52).1 = 9 by decide))
      have kt_42 : kT L s_38 p1 n_p1 := by rw [e_39]; exact kt_36
      refine ⟨rfl, ?_⟩
      refine ⟨kt_42.2.1, ?_⟩
      refine xm_root n_p1 _ hs_40 (by first | assumption | exact kT7 hs_40.1.1 | exact kT25 hs_40.1.1) (fun x_43 p_44 p_45 => ⟨_, rfl, ?_⟩)
      refine ⟨53, rfl, ?_⟩
      refine ⟨⟨rfl, by show 0 ≤ p0 ∧ p0 < 3; omega⟩, ?_⟩
      intro s_46 e_47
      have hs_48 : XI L 0 s_46 := by rw [e_47]; exact xw53 hs_40 _ _ (by omega)
      have hf_49 : gX L false [52, 53, 2640] s s_46 := by rw [e_47]; exact gX.wI hf_41 (Or.inl rfl)
      have kt_50 : kT L s_46 p1 n_p1 := by rw [e_47]; exact kt_42
      exact k s_46 hs_48 hf_49 (SVP_set (S := 51) q2 (by decide) (by assumption) q1 (by assumption) (by assumption) (by assumption) (by omega)) (by first | exact SVF_set (P := 52) (S := 51) (x := 0) q3 (by decide) (by assumption) (Or.inl rfl) (by assumption) (by assumption) (by assumption) | exact SVF_set (P := 52) (S := 51) (x := 1) q3 (by decide) (by assumption) (Or.inr ⟨by assumption, by assumption⟩) (by assumption) (by assumption) (by assumption))
    · refine s_2050_22 _ _ _ _ ?_
      refine s_2050_23 _ _ _ _ _ ?_
      refine ⟨51, rfl, ?_⟩
      refine ⟨rfl, ?_⟩
      refine ⟨by omega, ?_⟩
      intro s_57 e_58
      have hs_59 : XI L 0 s_57 := by rw [e_58]; exact xw51_8 hs _ (by omega)
      have hf_60 : gX L false [52, 53, 2640] s s_57 := by rw [e_58]; exact gX.wI (gX.refl _ _ _ _) (Or.inl rfl)
      have kt_61 : kT L s_57 p1 n_p1 := by rw [e_58]; exact q0
      have pd_62 : SVP L 52 s_57 := by rw [e_58]; exact SVP52_fr q2 (gX.wI (gX.refl L true [2640] _) (Or.inl rfl)) rfl rfl
      refine ⟨51, rfl, ?_⟩
      refine ⟨rfl, ?_⟩
      refine ⟨p1, rfl, ?_⟩
      refine ⟨52, rfl, ?_⟩
      refine ⟨⟨rfl, by show 0 ≤ p0 ∧ p0 < 3; omega⟩, ?_⟩
      refine ⟨kt_61.2.1, ?_⟩
      refine ⟨rfl, ?_⟩
      intro s_63 e_64
      have hs_65 : XI L 0 s_63 := by rw [e_64]; exact XI.wR hs_59 52 (Int.toNat p0) _ (Or.inl (show ¬ (gp_ss 52).1 = 9 by decide))
      have hf_66 : gX L false [52, 53, 2640] s s_63 := by rw [e_64]; exact gX.wR hf_60 (Or.inl rfl) (Or.inl (show ¬ (gp_ss 52).1 = 9 by decide))
      have kt_67 : kT L s_63 p1 n_p1 := by rw [e_64]; exact kt_61
      refine ⟨rfl, ?_⟩
      refine ⟨kt_67.2.1, ?_⟩
      refine xm_root n_p1 _ hs_65 (by first | assumption | exact kT7 hs_65.1.1 | exact kT25 hs_65.1.1) (fun x_68 p_69 p_70 => ⟨_, rfl, ?_⟩)
      refine ⟨53, rfl, ?_⟩
      refine ⟨⟨rfl, by show 0 ≤ p0 ∧ p0 < 3; omega⟩, ?_⟩
      intro s_71 e_72
      have hs_73 : XI L 0 s_71 := by rw [e_72]; exact xw53 hs_65 _ _ (by omega)
      have hf_74 : gX L false [52, 53, 2640] s s_71 := by rw [e_72]; exact gX.wI hf_66 (Or.inl rfl)
      have kt_75 : kT L s_71 p1 n_p1 := by rw [e_72]; exact kt_67
      exact k s_71 hs_73 hf_74 (SVP_set (S := 51) q2 (by decide) (by assumption) q1 (by assumption) (by assumption) (by assumption) (by omega)) (by first | exact SVF_set (P := 52) (S := 51) (x := 0) q3 (by decide) (by assumption) (Or.inl rfl) (by assumption) (by assumption) (by assumption) | exact SVF_set (P := 52) (S := 51) (x := 1) q3 (by decide) (by assumption) (Or.inr ⟨by assumption, by assumption⟩) (by assumption) (by assumption) (by assumption))
set_option maxRecDepth 100000 in
/-- Sum.stand -/
theorem xm_sstand60  {L d : Nat} {K : Option gV → gH → Prop} {s : gH} (n_p1 : Nat) (p0 : Int) (p1 : Nat) (hs : XI L 0 s) (h_p0 : 0 ≤ p0 ∧ p0 ≤ 2) (q0 : kT L s p1 n_p1) (q1 : n_p1 ≤ 60) (q2 : SVP L 61 s) (q3 : SVF L 61 60 s) (k : ∀ (t : gH), XI L 0 t → gX L false [61, 62, 2928] s t → (SVP L 61 t) → (SVF L 61 60 t) → K none t) : gs_C L (d + 1) 2050 3 [gp_r (some 60), gp_i p0, gp_r (some p1)] s K := by
  have hn_p1 := q0.n hs
  refine s_2050_e _ _ _ ?_
  refine ⟨60, rfl, ?_⟩
  refine ⟨rfl, ?_⟩
  have f_1 := xr60_8 hs
  refine ⟨fun h_2 => ?_, fun h_2 => ?_⟩
  · refine s_2050_22 _ _ _ _ ?_
    refine s_2050_23 _ _ _ _ _ ?_
    refine ⟨60, rfl, ?_⟩
    refine ⟨rfl, ?_⟩
    refine ⟨by omega, ?_⟩
    intro s_9 e_10
    have hs_11 : XI L 0 s_9 := by rw [e_10]; exact xw60_8 hs _ (by omega)
    have hf_12 : gX L false [61, 62, 2928] s s_9 := by rw [e_10]; exact gX.wI (gX.refl _ _ _ _) (Or.inl rfl)
    have kt_13 : kT L s_9 p1 n_p1 := by rw [e_10]; exact q0
    have pd_14 : SVP L 61 s_9 := by rw [e_10]; exact SVP61_fr q2 (gX.wI (gX.refl L true [2928] _) (Or.inl rfl)) rfl rfl
    refine ⟨60, rfl, ?_⟩
    refine ⟨rfl, ?_⟩
    refine ⟨p1, rfl, ?_⟩
    refine ⟨61, rfl, ?_⟩
    refine ⟨⟨rfl, by show 0 ≤ p0 ∧ p0 < 3; omega⟩, ?_⟩
    refine ⟨kt_13.2.1, ?_⟩
    refine ⟨rfl, ?_⟩
    intro s_15 e_16
    have hs_17 : XI L 0 s_15 := by rw [e_16]; exact XI.wR hs_11 61 (Int.toNat p0) _ (Or.inl (show ¬ (gp_ss 61).1 = 9 by decide))
    have hf_18 : gX L false [61, 62, 2928] s s_15 := by rw [e_16]; exact gX.wR hf_12 (Or.inl rfl) (Or.inl (show ¬ (gp_ss 61).1 = 9 by decide))
    have kt_19 : kT L s_15 p1 n_p1 := by rw [e_16]; exact kt_13
    refine ⟨rfl, ?_⟩
    refine ⟨kt_19.2.1, ?_⟩
    refine xm_root n_p1 _ hs_17 (by first | assumption | exact kT7 hs_17.1.1 | exact kT25 hs_17.1.1) (fun x_20 p_21 p_22 => ⟨_, rfl, ?_⟩)
    refine ⟨62, rfl, ?_⟩
    refine ⟨⟨rfl, by show 0 ≤ p0 ∧ p0 < 3; omega⟩, ?_⟩
    intro s_23 e_24
    have hs_25 : XI L 0 s_23 := by rw [e_24]; exact xw62 hs_17 _ _ (by omega)
    have hf_26 : gX L false [61, 62, 2928] s s_23 := by rw [e_24]; exact gX.wI hf_18 (Or.inl rfl)
    have kt_27 : kT L s_23 p1 n_p1 := by rw [e_24]; exact kt_19
    exact k s_23 hs_25 hf_26 (SVP_set (S := 60) q2 (by decide) (by assumption) q1 (by assumption) (by assumption) (by assumption) (by omega)) (by first | exact SVF_set (P := 61) (S := 60) (x := 0) q3 (by decide) (by assumption) (Or.inl rfl) (by assumption) (by assumption) (by assumption) | exact SVF_set (P := 61) (S := 60) (x := 1) q3 (by decide) (by assumption) (Or.inr ⟨by assumption, by assumption⟩) (by assumption) (by assumption) (by assumption))
  · refine ⟨rfl, ?_⟩
    refine ⟨61, rfl, ?_⟩
    refine ⟨⟨rfl, by show 0 ≤ p0 ∧ p0 < 3; omega⟩, ?_⟩
    refine ⟨fun h_28 => ?_, fun h_28 => ?_⟩
    · refine s_2050_23 _ _ _ _ _ ?_
      refine ⟨60, rfl, ?_⟩
      refine ⟨rfl, ?_⟩
      refine ⟨by omega, ?_⟩
      intro s_32 e_33
      have hs_34 : XI L 0 s_32 := by rw [e_33]; exact xw60_8 hs _ (by omega)
      have hf_35 : gX L false [61, 62, 2928] s s_32 := by rw [e_33]; exact gX.wI (gX.refl _ _ _ _) (Or.inl rfl)
      have kt_36 : kT L s_32 p1 n_p1 := by rw [e_33]; exact q0
      have pd_37 : SVP L 61 s_32 := by rw [e_33]; exact SVP61_fr q2 (gX.wI (gX.refl L true [2928] _) (Or.inl rfl)) rfl rfl
      refine ⟨60, rfl, ?_⟩
      refine ⟨rfl, ?_⟩
      refine ⟨p1, rfl, ?_⟩
      refine ⟨61, rfl, ?_⟩
      refine ⟨⟨rfl, by show 0 ≤ p0 ∧ p0 < 3; omega⟩, ?_⟩
      refine ⟨kt_36.2.1, ?_⟩
      refine ⟨rfl, ?_⟩
      intro s_38 e_39
      have hs_40 : XI L 0 s_38 := by rw [e_39]; exact XI.wR hs_34 61 (Int.toNat p0) _ (Or.inl (show ¬ (gp_ss 61).1 = 9 by decide))
      have hf_41 : gX L false [61, 62, 2928] s s_38 := by rw [e_39]; exact gX.wR hf_35 (Or.inl rfl) (Or.inl (show ¬ (gp_ss 61).1 = 9 by decide))
      have kt_42 : kT L s_38 p1 n_p1 := by rw [e_39]; exact kt_36
      refine ⟨rfl, ?_⟩
      refine ⟨kt_42.2.1, ?_⟩
      refine xm_root n_p1 _ hs_40 (by first | assumption | exact kT7 hs_40.1.1 | exact kT25 hs_40.1.1) (fun x_43 p_44 p_45 => ⟨_, rfl, ?_⟩)
      refine ⟨62, rfl, ?_⟩
      refine ⟨⟨rfl, by show 0 ≤ p0 ∧ p0 < 3; omega⟩, ?_⟩
      intro s_46 e_47
      have hs_48 : XI L 0 s_46 := by rw [e_47]; exact xw62 hs_40 _ _ (by omega)
      have hf_49 : gX L false [61, 62, 2928] s s_46 := by rw [e_47]; exact gX.wI hf_41 (Or.inl rfl)
      have kt_50 : kT L s_46 p1 n_p1 := by rw [e_47]; exact kt_42
      exact k s_46 hs_48 hf_49 (SVP_set (S := 60) q2 (by decide) (by assumption) q1 (by assumption) (by assumption) (by assumption) (by omega)) (by first | exact SVF_set (P := 61) (S := 60) (x := 0) q3 (by decide) (by assumption) (Or.inl rfl) (by assumption) (by assumption) (by assumption) | exact SVF_set (P := 61) (S := 60) (x := 1) q3 (by decide) (by assumption) (Or.inr ⟨by assumption, by assumption⟩) (by assumption) (by assumption) (by assumption))
    · refine s_2050_22 _ _ _ _ ?_
      refine s_2050_23 _ _ _ _ _ ?_
      refine ⟨60, rfl, ?_⟩
      refine ⟨rfl, ?_⟩
      refine ⟨by omega, ?_⟩
      intro s_57 e_58
      have hs_59 : XI L 0 s_57 := by rw [e_58]; exact xw60_8 hs _ (by omega)
      have hf_60 : gX L false [61, 62, 2928] s s_57 := by rw [e_58]; exact gX.wI (gX.refl _ _ _ _) (Or.inl rfl)
      have kt_61 : kT L s_57 p1 n_p1 := by rw [e_58]; exact q0
      have pd_62 : SVP L 61 s_57 := by rw [e_58]; exact SVP61_fr q2 (gX.wI (gX.refl L true [2928] _) (Or.inl rfl)) rfl rfl
      refine ⟨60, rfl, ?_⟩
      refine ⟨rfl, ?_⟩
      refine ⟨p1, rfl, ?_⟩
      refine ⟨61, rfl, ?_⟩
      refine ⟨⟨rfl, by show 0 ≤ p0 ∧ p0 < 3; omega⟩, ?_⟩
      refine ⟨kt_61.2.1, ?_⟩
      refine ⟨rfl, ?_⟩
      intro s_63 e_64
      have hs_65 : XI L 0 s_63 := by rw [e_64]; exact XI.wR hs_59 61 (Int.toNat p0) _ (Or.inl (show ¬ (gp_ss 61).1 = 9 by decide))
      have hf_66 : gX L false [61, 62, 2928] s s_63 := by rw [e_64]; exact gX.wR hf_60 (Or.inl rfl) (Or.inl (show ¬ (gp_ss 61).1 = 9 by decide))
      have kt_67 : kT L s_63 p1 n_p1 := by rw [e_64]; exact kt_61
      refine ⟨rfl, ?_⟩
      refine ⟨kt_67.2.1, ?_⟩
      refine xm_root n_p1 _ hs_65 (by first | assumption | exact kT7 hs_65.1.1 | exact kT25 hs_65.1.1) (fun x_68 p_69 p_70 => ⟨_, rfl, ?_⟩)
      refine ⟨62, rfl, ?_⟩
      refine ⟨⟨rfl, by show 0 ≤ p0 ∧ p0 < 3; omega⟩, ?_⟩
      intro s_71 e_72
      have hs_73 : XI L 0 s_71 := by rw [e_72]; exact xw62 hs_65 _ _ (by omega)
      have hf_74 : gX L false [61, 62, 2928] s s_71 := by rw [e_72]; exact gX.wI hf_66 (Or.inl rfl)
      have kt_75 : kT L s_71 p1 n_p1 := by rw [e_72]; exact kt_67
      exact k s_71 hs_73 hf_74 (SVP_set (S := 60) q2 (by decide) (by assumption) q1 (by assumption) (by assumption) (by assumption) (by omega)) (by first | exact SVF_set (P := 61) (S := 60) (x := 0) q3 (by decide) (by assumption) (Or.inl rfl) (by assumption) (by assumption) (by assumption) | exact SVF_set (P := 61) (S := 60) (x := 1) q3 (by decide) (by assumption) (Or.inr ⟨by assumption, by assumption⟩) (by assumption) (by assumption) (by assumption))
set_option maxRecDepth 100000 in
/-- Sum.placeOf -/
theorem xm_splaceOf51  {L d : Nat} {K : Option gV → gH → Prop} {s : gH}  (p0 : Int) (hs : XI L 0 s)   (k : ∀ (r : Int), ((-1) ≤ r ∧ r ≤ 2) → K (some (gp_i r)) s) : gs_C L d 2051 3 [gp_r (some 51), gp_i p0] s K := by
  refine s_2051_e _ _ ?_
  have lp_2 : ∀ (n_2 : Nat) (v2_2 : Int), (0 ≤ v2_2 ∧ v2_2 ≤ 3) → (4 - v2_2).toNat < n_2 → gs_E L d 2051 2 [gp_r (some 51), gp_i p0, gp_i v2_2] [] s K := by
    intro n_2
    induction n_2 with
    | zero => intro v2_2 hv2_2 hm_2; exact absurd hm_2 (Nat.not_lt_zero _)
    | succ n_2 ih_2 =>
      intro v2_2 hv2_2 hm_2
      refine s_2051_2 _ _ _ ?_
      refine ⟨51, rfl, ?_⟩
      refine ⟨rfl, ?_⟩
      have f_3 := xr51_4 hs
      refine ⟨fun h_4 => ?_, fun h_4 => ?_⟩
      · refine ⟨rfl, ?_⟩
        refine ⟨54, rfl, ?_⟩
        refine ⟨⟨rfl, by show 0 ≤ v2_2 ∧ v2_2 < 3; omega⟩, ?_⟩
        have f_5 := xr54 hs (Int.toNat v2_2)
        refine ⟨fun h_6 => ?_, fun h_6 => ?_⟩
        · exact k _ (by omega)
        · try rw [show gp_wr (v2_2 + 1) = v2_2 + 1 from gp_wr_id (by omega) (by omega)]
          exact ih_2 _ (by omega) (by omega)
      · exact k _ (by omega)
  exact lp_2 _ _ (by omega) (Nat.lt_succ_self _)
set_option maxRecDepth 100000 in
/-- Sum.placeOf -/
theorem xm_splaceOf60  {L d : Nat} {K : Option gV → gH → Prop} {s : gH}  (p0 : Int) (hs : XI L 0 s)   (k : ∀ (r : Int), ((-1) ≤ r ∧ r ≤ 2) → K (some (gp_i r)) s) : gs_C L d 2051 3 [gp_r (some 60), gp_i p0] s K := by
  refine s_2051_e _ _ ?_
  have lp_2 : ∀ (n_2 : Nat) (v2_2 : Int), (0 ≤ v2_2 ∧ v2_2 ≤ 3) → (4 - v2_2).toNat < n_2 → gs_E L d 2051 2 [gp_r (some 60), gp_i p0, gp_i v2_2] [] s K := by
    intro n_2
    induction n_2 with
    | zero => intro v2_2 hv2_2 hm_2; exact absurd hm_2 (Nat.not_lt_zero _)
    | succ n_2 ih_2 =>
      intro v2_2 hv2_2 hm_2
      refine s_2051_2 _ _ _ ?_
      refine ⟨60, rfl, ?_⟩
      refine ⟨rfl, ?_⟩
      have f_3 := xr60_4 hs
      refine ⟨fun h_4 => ?_, fun h_4 => ?_⟩
      · refine ⟨rfl, ?_⟩
        refine ⟨63, rfl, ?_⟩
        refine ⟨⟨rfl, by show 0 ≤ v2_2 ∧ v2_2 < 3; omega⟩, ?_⟩
        have f_5 := xr63 hs (Int.toNat v2_2)
        refine ⟨fun h_6 => ?_, fun h_6 => ?_⟩
        · exact k _ (by omega)
        · try rw [show gp_wr (v2_2 + 1) = v2_2 + 1 from gp_wr_id (by omega) (by omega)]
          exact ih_2 _ (by omega) (by omega)
      · exact k _ (by omega)
  exact lp_2 _ _ (by omega) (Nat.lt_succ_self _)
set_option maxRecDepth 100000 in
/-- Sum.named -/
theorem xm_snamed51  {L d : Nat} {K : Option gV → gH → Prop} {s : gH}  (p0 : Int) (hs : XI L 0 s) (h_p0 : 0 ≤ p0 ∧ p0 ≤ 299)  (k : ∀ (r : Int), (0 ≤ r ∧ r ≤ 799) → K (some (gp_i r)) s) : gs_C L d 2052 2 [gp_r (some 51), gp_i p0] s K := by
  refine s_2052_e _ _ ?_
  refine ⟨51, rfl, ?_⟩
  refine ⟨rfl, ?_⟩
  have w_1 := gz_td (p0) (100) (by omega)
  try rw [show gp_wr (p0.tdiv 100) = p0.tdiv 100 from gp_wr_id (by omega) (by omega)]
  refine ⟨54, rfl, ?_⟩
  refine ⟨⟨rfl, by show 0 ≤ p0.tdiv 100 ∧ p0.tdiv 100 < 3; omega⟩, ?_⟩
  have f_2 := xr54 hs (Int.toNat (p0.tdiv 100))
  try rw [show gp_wr ((gp_I s 54 (Int.toNat (p0.tdiv 100))) * 100) = (gp_I s 54 (Int.toNat (p0.tdiv 100))) * 100 from gp_wr_id (by omega) (by omega)]
  have w_3 := gz_td (p0) (100) (by omega)
  try rw [show gp_wr (((gp_I s 54 (Int.toNat (p0.tdiv 100))) * 100) + (p0.tmod 100)) = ((gp_I s 54 (Int.toNat (p0.tdiv 100))) * 100) + (p0.tmod 100) from gp_wr_id (by omega) (by omega)]
  exact k _ (by omega)
set_option maxRecDepth 100000 in
/-- Sum.named -/
theorem xm_snamed60  {L d : Nat} {K : Option gV → gH → Prop} {s : gH}  (p0 : Int) (hs : XI L 0 s) (h_p0 : 0 ≤ p0 ∧ p0 ≤ 299)  (k : ∀ (r : Int), (0 ≤ r ∧ r ≤ 799) → K (some (gp_i r)) s) : gs_C L d 2052 2 [gp_r (some 60), gp_i p0] s K := by
  refine s_2052_e _ _ ?_
  refine ⟨60, rfl, ?_⟩
  refine ⟨rfl, ?_⟩
  have w_1 := gz_td (p0) (100) (by omega)
  try rw [show gp_wr (p0.tdiv 100) = p0.tdiv 100 from gp_wr_id (by omega) (by omega)]
  refine ⟨63, rfl, ?_⟩
  refine ⟨⟨rfl, by show 0 ≤ p0.tdiv 100 ∧ p0.tdiv 100 < 3; omega⟩, ?_⟩
  have f_2 := xr63 hs (Int.toNat (p0.tdiv 100))
  try rw [show gp_wr ((gp_I s 63 (Int.toNat (p0.tdiv 100))) * 100) = (gp_I s 63 (Int.toNat (p0.tdiv 100))) * 100 from gp_wr_id (by omega) (by omega)]
  have w_3 := gz_td (p0) (100) (by omega)
  try rw [show gp_wr (((gp_I s 63 (Int.toNat (p0.tdiv 100))) * 100) + (p0.tmod 100)) = ((gp_I s 63 (Int.toNat (p0.tdiv 100))) * 100) + (p0.tmod 100) from gp_wr_id (by omega) (by omega)]
  exact k _ (by omega)
set_option maxRecDepth 100000 in
/-- Sum.choices -/
theorem xm_schoices51  {L d : Nat} {K : Option gV → gH → Prop} {s : gH}  (p0 : Int) (p1 : Int) (hs : XI L 0 s) (h_p0 : 0 ≤ p0 ∧ p0 ≤ 2) (q0 : SVP L 52 s) (k : ∀ (r : Int), (0 ≤ r ∧ r ≤ 64) → (r = (chc L 52 53 s (Int.toNat p0) p1 : Nat)) → K (some (gp_i r)) s) : gs_C L (d + 1) 2053 3 [gp_r (some 51), gp_i p0, gp_i p1] s K := by
  refine s_2053_e _ _ _ ?_
  refine ⟨51, rfl, ?_⟩
  refine ⟨rfl, ?_⟩
  refine ⟨52, rfl, ?_⟩
  refine ⟨⟨rfl, by show 0 ≤ p0 ∧ p0 < 3; omega⟩, ?_⟩
  refine ⟨rfl, ?_⟩
  refine ⟨53, rfl, ?_⟩
  refine ⟨⟨rfl, by show 0 ≤ p0 ∧ p0 < 3; omega⟩, ?_⟩
  have f_1 := xr53 hs (Int.toNat p0)
  obtain ⟨a_2, n_3, e_4, kt_5, hn_6⟩ := SVP.p52 (by assumption : SVP L 52 s) (Int.toNat p0) (by omega)
  have hn_a_2 := kt_5.n hs
  refine ⟨a_2, e_4, ?_⟩
  refine ⟨kt_5.2.1, ?_⟩
  refine xm_options n_3 _ _ _ hs (by omega) (by first | assumption | exact kT7 hs.1.1 | exact kT25 hs.1.1) (by first | omega | assumption) (fun m_7 p_8 p_9 => ⟨_, rfl, ?_⟩)
  refine xm_bc _ (fun x_10 p_11 p_12 => ⟨_, rfl, ?_⟩)
  exact k _ (by omega) (chc_of (by assumption) (by assumption) (by omega))
set_option maxRecDepth 100000 in
/-- Sum.choices -/
theorem xm_schoices60  {L d : Nat} {K : Option gV → gH → Prop} {s : gH}  (p0 : Int) (p1 : Int) (hs : XI L 0 s) (h_p0 : 0 ≤ p0 ∧ p0 ≤ 2) (q0 : SVP L 61 s) (k : ∀ (r : Int), (0 ≤ r ∧ r ≤ 64) → (r = (chc L 61 62 s (Int.toNat p0) p1 : Nat)) → K (some (gp_i r)) s) : gs_C L (d + 1) 2053 3 [gp_r (some 60), gp_i p0, gp_i p1] s K := by
  refine s_2053_e _ _ _ ?_
  refine ⟨60, rfl, ?_⟩
  refine ⟨rfl, ?_⟩
  refine ⟨61, rfl, ?_⟩
  refine ⟨⟨rfl, by show 0 ≤ p0 ∧ p0 < 3; omega⟩, ?_⟩
  refine ⟨rfl, ?_⟩
  refine ⟨62, rfl, ?_⟩
  refine ⟨⟨rfl, by show 0 ≤ p0 ∧ p0 < 3; omega⟩, ?_⟩
  have f_1 := xr62 hs (Int.toNat p0)
  obtain ⟨a_2, n_3, e_4, kt_5, hn_6⟩ := SVP.p61 (by assumption : SVP L 61 s) (Int.toNat p0) (by omega)
  have hn_a_2 := kt_5.n hs
  refine ⟨a_2, e_4, ?_⟩
  refine ⟨kt_5.2.1, ?_⟩
  refine xm_options n_3 _ _ _ hs (by omega) (by first | assumption | exact kT7 hs.1.1 | exact kT25 hs.1.1) (by first | omega | assumption) (fun m_7 p_8 p_9 => ⟨_, rfl, ?_⟩)
  refine xm_bc _ (fun x_10 p_11 p_12 => ⟨_, rfl, ?_⟩)
  exact k _ (by omega) (chc_of (by assumption) (by assumption) (by omega))
set_option maxRecDepth 100000 in
/-- Sum.allChoices -/
theorem xm_sallChoices51  {L d : Nat} {K : Option gV → gH → Prop} {s : gH}  (p0 : Int) (hs : XI L 0 s)  (q0 : SVP L 52 s) (k : ∀ (r : Int), (0 ≤ r ∧ r ≤ 192) → K (some (gp_i r)) s) : gs_C L (d + 2) 2054 4 [gp_r (some 51), gp_i p0] s K := by
  refine s_2054_e _ _ ?_
  have lp_2 : ∀ (n_2 : Nat) (v2_2 : Int) (v3_2 : Int), (0 ≤ v2_2 ∧ v2_2 ≤ 192) → (0 ≤ v3_2 ∧ v3_2 ≤ 3) → (v2_2 ≤ 64 * v3_2) → (4 - v3_2).toNat < n_2 → gs_E L (d + 2) 2054 4 [gp_r (some 51), gp_i p0, gp_i v2_2, gp_i v3_2] [] s K := by
    intro n_2
    induction n_2 with
    | zero => intro v2_2 v3_2 hv2_2 hv3_2 iv0_2 hm_2; exact absurd hm_2 (Nat.not_lt_zero _)
    | succ n_2 ih_2 =>
      intro v2_2 v3_2 hv2_2 hv3_2 iv0_2 hm_2
      refine s_2054_4 _ _ _ _ ?_
      refine ⟨51, rfl, ?_⟩
      refine ⟨rfl, ?_⟩
      have f_3 := xr51_4 hs
      refine ⟨fun h_4 => ?_, fun h_4 => ?_⟩
      · refine ⟨rfl, ?_⟩
        refine xm_schoices51 _ _ hs (by omega) (q0) (fun x_5 p_6 p_7 => ⟨_, rfl, ?_⟩)
        try rw [show gp_wr (v2_2 + x_5) = v2_2 + x_5 from gp_wr_id (by omega) (by omega)]
        try rw [show gp_wr (v3_2 + 1) = v3_2 + 1 from gp_wr_id (by omega) (by omega)]
        exact ih_2 _ _ (by omega) (by omega) (by first | omega | assumption) (by omega)
      · exact k _ (by omega)
  exact lp_2 _ _ _ (by omega) (by omega) (by first | omega | assumption) (Nat.lt_succ_self _)
set_option maxRecDepth 100000 in
/-- Sum.allChoices -/
theorem xm_sallChoices60  {L d : Nat} {K : Option gV → gH → Prop} {s : gH}  (p0 : Int) (hs : XI L 0 s)  (q0 : SVP L 61 s) (k : ∀ (r : Int), (0 ≤ r ∧ r ≤ 192) → K (some (gp_i r)) s) : gs_C L (d + 2) 2054 4 [gp_r (some 60), gp_i p0] s K := by
  refine s_2054_e _ _ ?_
  have lp_2 : ∀ (n_2 : Nat) (v2_2 : Int) (v3_2 : Int), (0 ≤ v2_2 ∧ v2_2 ≤ 192) → (0 ≤ v3_2 ∧ v3_2 ≤ 3) → (v2_2 ≤ 64 * v3_2) → (4 - v3_2).toNat < n_2 → gs_E L (d + 2) 2054 4 [gp_r (some 60), gp_i p0, gp_i v2_2, gp_i v3_2] [] s K := by
    intro n_2
    induction n_2 with
    | zero => intro v2_2 v3_2 hv2_2 hv3_2 iv0_2 hm_2; exact absurd hm_2 (Nat.not_lt_zero _)
    | succ n_2 ih_2 =>
      intro v2_2 v3_2 hv2_2 hv3_2 iv0_2 hm_2
      refine s_2054_4 _ _ _ _ ?_
      refine ⟨60, rfl, ?_⟩
      refine ⟨rfl, ?_⟩
      have f_3 := xr60_4 hs
      refine ⟨fun h_4 => ?_, fun h_4 => ?_⟩
      · refine ⟨rfl, ?_⟩
        refine xm_schoices60 _ _ hs (by omega) (q0) (fun x_5 p_6 p_7 => ⟨_, rfl, ?_⟩)
        try rw [show gp_wr (v2_2 + x_5) = v2_2 + x_5 from gp_wr_id (by omega) (by omega)]
        try rw [show gp_wr (v3_2 + 1) = v3_2 + 1 from gp_wr_id (by omega) (by omega)]
        exact ih_2 _ _ (by omega) (by omega) (by first | omega | assumption) (by omega)
      · exact k _ (by omega)
  exact lp_2 _ _ _ (by omega) (by omega) (by first | omega | assumption) (Nat.lt_succ_self _)
set_option maxRecDepth 100000 in
/-- Sum.points -/
theorem xm_spoints51  {L d : Nat} {K : Option gV → gH → Prop} {s : gH}  (p0 : Int) (hs : XI L 0 s)  (q0 : SVP L 52 s) (k : ∀ (r : Int), K (some (gp_i r)) s) : gs_C L (d + 1) 2055 4 [gp_r (some 51), gp_i p0] s K := by
  refine s_2055_e _ _ ?_
  have lp_2 : ∀ (n_2 : Nat) (v2_2 : Int) (v3_2 : Int), ((-2147483648) ≤ v2_2 ∧ v2_2 ≤ 2147483647) → (0 ≤ v3_2 ∧ v3_2 ≤ 3) → (4 - v3_2).toNat < n_2 → gs_E L (d + 1) 2055 4 [gp_r (some 51), gp_i p0, gp_i v2_2, gp_i v3_2] [] s K := by
    intro n_2
    induction n_2 with
    | zero => intro v2_2 v3_2 hv2_2 hv3_2 hm_2; exact absurd hm_2 (Nat.not_lt_zero _)
    | succ n_2 ih_2 =>
      intro v2_2 v3_2 hv2_2 hv3_2 hm_2
      refine s_2055_4 _ _ _ _ ?_
      refine ⟨51, rfl, ?_⟩
      refine ⟨rfl, ?_⟩
      have f_3 := xr51_4 hs
      refine ⟨fun h_4 => ?_, fun h_4 => ?_⟩
      · refine ⟨rfl, ?_⟩
        refine ⟨52, rfl, ?_⟩
        refine ⟨⟨rfl, by show 0 ≤ v3_2 ∧ v3_2 < 3; omega⟩, ?_⟩
        refine ⟨rfl, ?_⟩
        refine ⟨53, rfl, ?_⟩
        refine ⟨⟨rfl, by show 0 ≤ v3_2 ∧ v3_2 < 3; omega⟩, ?_⟩
        have f_5 := xr53 hs (Int.toNat v3_2)
        obtain ⟨a_6, n_7, e_8, kt_9, hn_10⟩ := SVP.p52 (by assumption : SVP L 52 s) (Int.toNat v3_2) (by omega)
        have hn_a_6 := kt_9.n hs
        refine ⟨a_6, e_8, ?_⟩
        refine ⟨kt_9.2.1, ?_⟩
        refine xm_shutNumber n_7 _ _ _ hs (by omega) (by first | assumption | exact kT7 hs.1.1 | exact kT25 hs.1.1) (by first | omega | assumption) (fun x_11 => ⟨_, rfl, ?_⟩)
        have w_12 := wr_rng (v2_2 + x_11)
        try rw [show gp_wr (v3_2 + 1) = v3_2 + 1 from gp_wr_id (by omega) (by omega)]
        exact ih_2 _ _ (by omega) (by omega) (by omega)
      · exact k _
  exact lp_2 _ _ _ (by omega) (by omega) (Nat.lt_succ_self _)
set_option maxRecDepth 100000 in
/-- Sum.points -/
theorem xm_spoints60  {L d : Nat} {K : Option gV → gH → Prop} {s : gH}  (p0 : Int) (hs : XI L 0 s)  (q0 : SVP L 61 s) (k : ∀ (r : Int), K (some (gp_i r)) s) : gs_C L (d + 1) 2055 4 [gp_r (some 60), gp_i p0] s K := by
  refine s_2055_e _ _ ?_
  have lp_2 : ∀ (n_2 : Nat) (v2_2 : Int) (v3_2 : Int), ((-2147483648) ≤ v2_2 ∧ v2_2 ≤ 2147483647) → (0 ≤ v3_2 ∧ v3_2 ≤ 3) → (4 - v3_2).toNat < n_2 → gs_E L (d + 1) 2055 4 [gp_r (some 60), gp_i p0, gp_i v2_2, gp_i v3_2] [] s K := by
    intro n_2
    induction n_2 with
    | zero => intro v2_2 v3_2 hv2_2 hv3_2 hm_2; exact absurd hm_2 (Nat.not_lt_zero _)
    | succ n_2 ih_2 =>
      intro v2_2 v3_2 hv2_2 hv3_2 hm_2
      refine s_2055_4 _ _ _ _ ?_
      refine ⟨60, rfl, ?_⟩
      refine ⟨rfl, ?_⟩
      have f_3 := xr60_4 hs
      refine ⟨fun h_4 => ?_, fun h_4 => ?_⟩
      · refine ⟨rfl, ?_⟩
        refine ⟨61, rfl, ?_⟩
        refine ⟨⟨rfl, by show 0 ≤ v3_2 ∧ v3_2 < 3; omega⟩, ?_⟩
        refine ⟨rfl, ?_⟩
        refine ⟨62, rfl, ?_⟩
        refine ⟨⟨rfl, by show 0 ≤ v3_2 ∧ v3_2 < 3; omega⟩, ?_⟩
        have f_5 := xr62 hs (Int.toNat v3_2)
        obtain ⟨a_6, n_7, e_8, kt_9, hn_10⟩ := SVP.p61 (by assumption : SVP L 61 s) (Int.toNat v3_2) (by omega)
        have hn_a_6 := kt_9.n hs
        refine ⟨a_6, e_8, ?_⟩
        refine ⟨kt_9.2.1, ?_⟩
        refine xm_shutNumber n_7 _ _ _ hs (by omega) (by first | assumption | exact kT7 hs.1.1 | exact kT25 hs.1.1) (by first | omega | assumption) (fun x_11 => ⟨_, rfl, ?_⟩)
        have w_12 := wr_rng (v2_2 + x_11)
        try rw [show gp_wr (v3_2 + 1) = v3_2 + 1 from gp_wr_id (by omega) (by omega)]
        exact ih_2 _ _ (by omega) (by omega) (by omega)
      · exact k _
  exact lp_2 _ _ _ (by omega) (by omega) (Nat.lt_succ_self _)
set_option maxRecDepth 100000 in
/-- Sum.lay -/
theorem xm_slay51  {L d : Nat} {K : Option gV → gH → Prop} {s : gH}  (p0 : Int) (hs : XI L 0 s) (h_p0 : 1 ≤ p0 ∧ p0 ≤ 255) (q0 : XS L s) (q1 : SVP L 52 s) (q2 : SVF L 52 51 s) (k : ∀ (t : gH), XI L 0 t → gX L false [52, 53, 54, 2634, 2636, 2640] s t → (SVP L 52 t) → (SVF L 52 51 t) → K none t) : gs_C L (d + 2) 2049 4 [gp_r (some 51), gp_i p0, gp_r (some 4)] s K := by
  have f_1 := xr51_4 hs
  refine s_2049_e _ _ _ ?_
  refine ⟨51, rfl, ?_⟩
  refine ⟨rfl, ?_⟩
  intro s_2 e_3
  have hs_4 : XI L 0 s_2 := by rw [e_3]; exact xw51_2 hs _
  have hf_5 : gX L false [52, 53, 54, 2634, 2636, 2640] s s_2 := by rw [e_3]; exact gX.wI (gX.refl _ _ _ _) (Or.inl rfl)
  have q_6 : gp_I s_2 51 4 = gp_I s 51 4 := by rw [e_3] <;> first | rfl | exact I_ne (by omega)
  have pd_7 : XS L s_2 := by rw [e_3]; exact XS_fr q0 (gX.wI (gX.refl L true [2634] _) (Or.inl rfl)) rfl
  have pd_8 : SVP L 52 s_2 := by rw [e_3]; exact SVP52_fr q1 (gX.wI (gX.refl L true [2634] _) (Or.inl rfl)) rfl rfl
  have pd_9 : SVF L 52 51 s_2 := by rw [e_3]; exact SVF51_fr q2 (gX.wI (gX.refl L true [2634] _) (Or.inl rfl)) rfl rfl rfl
  refine ⟨rfl, ?_⟩
  intro s_10 e_11
  have hs_12 : XI L 0 s_10 := by rw [e_11]; exact xw51_4 hs_4 _ (by omega)
  have hf_13 : gX L false [52, 53, 54, 2634, 2636, 2640] s s_10 := by rw [e_11]; exact gX.wI hf_5 (Or.inl rfl)
  have q_14 : gp_I s_10 51 4 = 0 := by rw [e_11]; exact (gz_rw _ _ _ _ _).1 rfl
  have pd_15 : XS L s_10 := by rw [e_11]; exact XS_fr pd_7 (gX.wI (gX.refl L true [2636] _) (Or.inl rfl)) rfl
  have pd_16 : SVP L 52 s_10 := by rw [e_11]; exact SVP52_fr pd_8 (gX.wI (gX.refl L true [2636] _) (Or.inl rfl)) rfl rfl
  have pd_17 : SVF L 52 51 s_10 := by rw [e_11]; exact SVF51_fr pd_9 (gX.wI (gX.refl L true [2636] _) (Or.inl rfl)) rfl rfl rfl
  have lp_20 : ∀ (n_20 : Nat) (v3_20 : Int) (s_20 : gH), (XI L 0 s_20) → (gX L false [52, 53, 54, 2634, 2636, 2640] s s_20) → (XS L s_20) → (SVP L 52 s_20) → (SVF L 52 51 s_20) → (0 ≤ v3_20 ∧ v3_20 ≤ 8) → (9 - v3_20).toNat < n_20 → gs_E L (d + 2) 2049 12 [gp_r (some 51), gp_i p0, gp_r (some 4), gp_i v3_20] [] s_20 K := by
    intro n_20
    induction n_20 with
    | zero => intro v3_20 s_20 hs_s_20 hf_s_20 XS_L_s_20 SVP_L_52_s_20 SVF_L_52_51_s_20 hv3_20 hm_20; exact absurd hm_20 (Nat.not_lt_zero _)
    | succ n_20 ih_20 =>
      intro v3_20 s_20 hs_s_20 hf_s_20 XS_L_s_20 SVP_L_52_s_20 SVF_L_52_51_s_20 hv3_20 hm_20
      refine s_2049_12 _ _ _ _ ?_
      refine ⟨fun h_21 => ?_, fun h_21 => ?_⟩
      · refine ⟨51, rfl, ?_⟩
        refine ⟨rfl, ?_⟩
        have f_22 := xr51_4 hs_s_20
        refine ⟨fun h_23 => ?_, fun h_23 => ?_⟩
        · have w_24 := gz_shrx (p0) (v3_20)
          have w_25 := gz_and (gp_shr p0 v3_20) 1 (by decide)
          refine ⟨fun h_26 => ?_, fun h_26 => ?_⟩
          · refine s_2049_65 _ _ _ _ ?_
            try rw [show gp_wr (v3_20 + 1) = v3_20 + 1 from gp_wr_id (by omega) (by omega)]
            exact ih_20 _ _ hs_s_20 hf_s_20 XS_L_s_20 SVP_L_52_s_20 SVF_L_52_51_s_20 (by omega) (by omega)
          · refine ⟨rfl, ?_⟩
            refine ⟨rfl, ?_⟩
            have f_31 := xr51_4 hs_s_20
            refine ⟨54, rfl, ?_⟩
            refine ⟨⟨rfl, by show 0 ≤ gp_I s_20 51 4 ∧ gp_I s_20 51 4 < 3; omega⟩, ?_⟩
            intro s_32 e_33
            have hs_34 : XI L 0 s_32 := by rw [e_33]; exact xw54 hs_s_20 _ _ (by omega)
            have hf_35 : gX L false [52, 53, 54, 2634, 2636, 2640] s s_32 := by rw [e_33]; exact gX.wI hf_s_20 (Or.inl rfl)
            have q_36 : gp_I s_32 51 4 = gp_I s_20 51 4 := by rw [e_33] <;> first | rfl | exact I_ne (by omega)
            have pd_37 : XS L s_32 := by rw [e_33]; exact XS_fr XS_L_s_20 (gX.wI (gX.refl L true [54] _) (Or.inl rfl)) rfl
            have pd_38 : SVP L 52 s_32 := by rw [e_33]; exact SVP52_fr SVP_L_52_s_20 (gX.wI (gX.refl L true [54] _) (Or.inl rfl)) rfl rfl
            have pd_39 : SVF L 52 51 s_32 := by rw [e_33]; exact SVF51_fr SVF_L_52_51_s_20 (gX.wI (gX.refl L true [54] _) (Or.inl rfl)) rfl rfl rfl
            refine ⟨rfl, ?_⟩
            have f_40 := xr51_4 hs_34
            refine ⟨4, rfl, ?_⟩
            refine ⟨⟨rfl, by show 0 ≤ v3_20 ∧ v3_20 < 8; omega⟩, ?_⟩
            refine ⟨rfl, ?_⟩
            obtain ⟨a_41, n_42, e_43, kt_44, hn_45⟩ := XS.get (by assumption) (Int.toNat v3_20) (by omega)
            have hn_a_41 := kt_44.n hs_34
            rw [show gp_r (gp_R (gp_mk L s_32) 4 (Int.toNat v3_20)) = gp_r (some a_41) from congrArg gp_r e_43]
            refine xm_sstand51 n_42 _ _ hs_34 (by omega) (by first | assumption | exact kT7 hs_34.1.1 | exact kT25 hs_34.1.1) (by first | omega | assumption) (pd_38) (pd_39) (fun s_46 hs_47 hf_48 p_49 p_50 => ⟨rfl, ?_⟩)
            have hf_51 : gX L false [52, 53, 54, 2634, 2636, 2640] s s_46 := gX.trans hf_35 hf_48 rfl rfl
            have kt_52 : kT L s_46 a_41 n_42 := kt_44.fr hf_48.1
            have pd_53 : XS L s_46 := XS_fr pd_37 hf_48 rfl
            have q_54 : gp_I s_46 51 4 = gp_I s_32 51 4 := (hf_48.2.2.1 51 4 (by decide) (by decide) rfl).1
            refine ⟨rfl, ?_⟩
            have f_55 := xr51_4 hs_47
            try rw [show gp_wr ((gp_I s_46 51 4) + 1) = (gp_I s_46 51 4) + 1 from gp_wr_id (by omega) (by omega)]
            refine ⟨rfl, ?_⟩
            intro s_56 e_57
            have hs_58 : XI L 0 s_56 := by rw [e_57]; exact xw51_4 hs_47 _ (by omega)
            have hf_59 : gX L false [52, 53, 54, 2634, 2636, 2640] s s_56 := by rw [e_57]; exact gX.wI hf_51 (Or.inl rfl)
            have kt_60 : kT L s_56 a_41 n_42 := by rw [e_57]; exact kt_52
            have q_61 : gp_I s_56 51 4 = (gp_I s_46 51 4) + 1 := by rw [e_57]; exact (gz_rw _ _ _ _ _).1 rfl
            have pd_62 : XS L s_56 := by rw [e_57]; exact XS_fr pd_53 (gX.wI (gX.refl L true [2636] _) (Or.inl rfl)) rfl
            have pd_63 : SVP L 52 s_56 := by rw [e_57]; exact SVP52_fr p_49 (gX.wI (gX.refl L true [2636] _) (Or.inl rfl)) rfl rfl
            have pd_64 : SVF L 52 51 s_56 := by rw [e_57]; exact SVF51_fr p_50 (gX.wI (gX.refl L true [2636] _) (Or.inl rfl)) rfl rfl rfl
            refine s_2049_65 _ _ _ _ ?_
            try rw [show gp_wr (v3_20 + 1) = v3_20 + 1 from gp_wr_id (by omega) (by omega)]
            exact ih_20 _ _ hs_58 hf_59 pd_62 pd_63 pd_64 (by omega) (by omega)
        · refine s_2049_71 _ _ _ _ ?_
          refine ⟨51, rfl, ?_⟩
          refine ⟨rfl, ?_⟩
          have f_71 := xr51_4 hs_s_20
          have lp_74 : ∀ (n_74 : Nat) (v3_74 : Int) (s_74 : gH), (XI L 0 s_74) → (gX L false [52, 53, 54, 2634, 2636, 2640] s s_74) → (XS L s_74) → (SVP L 52 s_74) → (SVF L 52 51 s_74) → (0 ≤ v3_74 ∧ v3_74 ≤ 3) → (gp_I s_74 51 4 = gp_I s_20 51 4) → (4 - v3_74).toNat < n_74 → gs_E L (d + 2) 2049 76 [gp_r (some 51), gp_i p0, gp_r (some 4), gp_i v3_74] [] s_74 K := by
            intro n_74
            induction n_74 with
            | zero => intro v3_74 s_74 hs_s_74 hf_s_74 XS_L_s_74 SVP_L_52_s_74 SVF_L_52_51_s_74 hv3_74 tk0_74 hm_74; exact absurd hm_74 (Nat.not_lt_zero _)
            | succ n_74 ih_74 =>
              intro v3_74 s_74 hs_s_74 hf_s_74 XS_L_s_74 SVP_L_52_s_74 SVF_L_52_51_s_74 hv3_74 tk0_74 hm_74
              refine s_2049_76 _ _ _ _ ?_
              refine ⟨fun h_75 => ?_, fun h_75 => ?_⟩
              · refine ⟨51, rfl, ?_⟩
                refine ⟨rfl, ?_⟩
                refine ⟨rfl, ?_⟩
                refine xm_sstand51 1 _ _ hs_s_74 (by omega) (by first | assumption | exact kT7 hs_s_74.1.1 | exact kT25 hs_s_74.1.1) (by first | omega | assumption) (SVP_L_52_s_74) (SVF_L_52_51_s_74) (fun s_76 hs_77 hf_78 p_79 p_80 => ⟨rfl, ?_⟩)
                have hf_81 : gX L false [52, 53, 54, 2634, 2636, 2640] s s_76 := gX.trans hf_s_74 hf_78 rfl rfl
                have pd_82 : XS L s_76 := XS_fr XS_L_s_74 hf_78 rfl
                have q_83 : gp_I s_76 51 4 = gp_I s_74 51 4 := (hf_78.2.2.1 51 4 (by decide) (by decide) rfl).1
                try rw [show gp_wr (v3_74 + 1) = v3_74 + 1 from gp_wr_id (by omega) (by omega)]
                exact ih_74 _ _ hs_77 hf_81 pd_82 p_79 p_80 (by omega) (by first | rfl | omega) (by omega)
              · exact k s_74 hs_s_74 hf_s_74 (SVP_L_52_s_74) (SVF_L_52_51_s_74)
          exact lp_74 _ _ _ hs_s_20 hf_s_20 XS_L_s_20 SVP_L_52_s_20 SVF_L_52_51_s_20 (by omega) (by first | rfl | omega) (Nat.lt_succ_self _)
      · refine s_2049_71 _ _ _ _ ?_
        refine ⟨51, rfl, ?_⟩
        refine ⟨rfl, ?_⟩
        have f_88 := xr51_4 hs_s_20
        have lp_91 : ∀ (n_91 : Nat) (v3_91 : Int) (s_91 : gH), (XI L 0 s_91) → (gX L false [52, 53, 54, 2634, 2636, 2640] s s_91) → (XS L s_91) → (SVP L 52 s_91) → (SVF L 52 51 s_91) → (0 ≤ v3_91 ∧ v3_91 ≤ 3) → (gp_I s_91 51 4 = gp_I s_20 51 4) → (4 - v3_91).toNat < n_91 → gs_E L (d + 2) 2049 76 [gp_r (some 51), gp_i p0, gp_r (some 4), gp_i v3_91] [] s_91 K := by
          intro n_91
          induction n_91 with
          | zero => intro v3_91 s_91 hs_s_91 hf_s_91 XS_L_s_91 SVP_L_52_s_91 SVF_L_52_51_s_91 hv3_91 tk0_91 hm_91; exact absurd hm_91 (Nat.not_lt_zero _)
          | succ n_91 ih_91 =>
            intro v3_91 s_91 hs_s_91 hf_s_91 XS_L_s_91 SVP_L_52_s_91 SVF_L_52_51_s_91 hv3_91 tk0_91 hm_91
            refine s_2049_76 _ _ _ _ ?_
            refine ⟨fun h_92 => ?_, fun h_92 => ?_⟩
            · refine ⟨51, rfl, ?_⟩
              refine ⟨rfl, ?_⟩
              refine ⟨rfl, ?_⟩
              refine xm_sstand51 1 _ _ hs_s_91 (by omega) (by first | assumption | exact kT7 hs_s_91.1.1 | exact kT25 hs_s_91.1.1) (by first | omega | assumption) (SVP_L_52_s_91) (SVF_L_52_51_s_91) (fun s_93 hs_94 hf_95 p_96 p_97 => ⟨rfl, ?_⟩)
              have hf_98 : gX L false [52, 53, 54, 2634, 2636, 2640] s s_93 := gX.trans hf_s_91 hf_95 rfl rfl
              have pd_99 : XS L s_93 := XS_fr XS_L_s_91 hf_95 rfl
              have q_100 : gp_I s_93 51 4 = gp_I s_91 51 4 := (hf_95.2.2.1 51 4 (by decide) (by decide) rfl).1
              try rw [show gp_wr (v3_91 + 1) = v3_91 + 1 from gp_wr_id (by omega) (by omega)]
              exact ih_91 _ _ hs_94 hf_98 pd_99 p_96 p_97 (by omega) (by first | rfl | omega) (by omega)
            · exact k s_91 hs_s_91 hf_s_91 (SVP_L_52_s_91) (SVF_L_52_51_s_91)
        exact lp_91 _ _ _ hs_s_20 hf_s_20 XS_L_s_20 SVP_L_52_s_20 SVF_L_52_51_s_20 (by omega) (by first | rfl | omega) (Nat.lt_succ_self _)
  exact lp_20 _ _ _ hs_12 hf_13 pd_15 pd_16 pd_17 (by omega) (Nat.lt_succ_self _)
set_option maxRecDepth 100000 in
/-- Sum.lay -/
theorem xm_slay60  {L d : Nat} {K : Option gV → gH → Prop} {s : gH}  (p0 : Int) (hs : XI L 0 s) (h_p0 : 1 ≤ p0 ∧ p0 ≤ 255) (q0 : XS L s) (q1 : SVP L 61 s) (q2 : SVF L 61 60 s) (k : ∀ (t : gH), XI L 0 t → gX L false [61, 62, 63, 2922, 2924, 2928] s t → (SVP L 61 t) → (SVF L 61 60 t) → K none t) : gs_C L (d + 2) 2049 4 [gp_r (some 60), gp_i p0, gp_r (some 4)] s K := by
  have f_1 := xr60_4 hs
  refine s_2049_e _ _ _ ?_
  refine ⟨60, rfl, ?_⟩
  refine ⟨rfl, ?_⟩
  intro s_2 e_3
  have hs_4 : XI L 0 s_2 := by rw [e_3]; exact xw60_2 hs _
  have hf_5 : gX L false [61, 62, 63, 2922, 2924, 2928] s s_2 := by rw [e_3]; exact gX.wI (gX.refl _ _ _ _) (Or.inl rfl)
  have q_6 : gp_I s_2 60 4 = gp_I s 60 4 := by rw [e_3] <;> first | rfl | exact I_ne (by omega)
  have pd_7 : XS L s_2 := by rw [e_3]; exact XS_fr q0 (gX.wI (gX.refl L true [2922] _) (Or.inl rfl)) rfl
  have pd_8 : SVP L 61 s_2 := by rw [e_3]; exact SVP61_fr q1 (gX.wI (gX.refl L true [2922] _) (Or.inl rfl)) rfl rfl
  have pd_9 : SVF L 61 60 s_2 := by rw [e_3]; exact SVF60_fr q2 (gX.wI (gX.refl L true [2922] _) (Or.inl rfl)) rfl rfl rfl
  refine ⟨rfl, ?_⟩
  intro s_10 e_11
  have hs_12 : XI L 0 s_10 := by rw [e_11]; exact xw60_4 hs_4 _ (by omega)
  have hf_13 : gX L false [61, 62, 63, 2922, 2924, 2928] s s_10 := by rw [e_11]; exact gX.wI hf_5 (Or.inl rfl)
  have q_14 : gp_I s_10 60 4 = 0 := by rw [e_11]; exact (gz_rw _ _ _ _ _).1 rfl
  have pd_15 : XS L s_10 := by rw [e_11]; exact XS_fr pd_7 (gX.wI (gX.refl L true [2924] _) (Or.inl rfl)) rfl
  have pd_16 : SVP L 61 s_10 := by rw [e_11]; exact SVP61_fr pd_8 (gX.wI (gX.refl L true [2924] _) (Or.inl rfl)) rfl rfl
  have pd_17 : SVF L 61 60 s_10 := by rw [e_11]; exact SVF60_fr pd_9 (gX.wI (gX.refl L true [2924] _) (Or.inl rfl)) rfl rfl rfl
  have lp_20 : ∀ (n_20 : Nat) (v3_20 : Int) (s_20 : gH), (XI L 0 s_20) → (gX L false [61, 62, 63, 2922, 2924, 2928] s s_20) → (XS L s_20) → (SVP L 61 s_20) → (SVF L 61 60 s_20) → (0 ≤ v3_20 ∧ v3_20 ≤ 8) → (9 - v3_20).toNat < n_20 → gs_E L (d + 2) 2049 12 [gp_r (some 60), gp_i p0, gp_r (some 4), gp_i v3_20] [] s_20 K := by
    intro n_20
    induction n_20 with
    | zero => intro v3_20 s_20 hs_s_20 hf_s_20 XS_L_s_20 SVP_L_61_s_20 SVF_L_61_60_s_20 hv3_20 hm_20; exact absurd hm_20 (Nat.not_lt_zero _)
    | succ n_20 ih_20 =>
      intro v3_20 s_20 hs_s_20 hf_s_20 XS_L_s_20 SVP_L_61_s_20 SVF_L_61_60_s_20 hv3_20 hm_20
      refine s_2049_12 _ _ _ _ ?_
      refine ⟨fun h_21 => ?_, fun h_21 => ?_⟩
      · refine ⟨60, rfl, ?_⟩
        refine ⟨rfl, ?_⟩
        have f_22 := xr60_4 hs_s_20
        refine ⟨fun h_23 => ?_, fun h_23 => ?_⟩
        · have w_24 := gz_shrx (p0) (v3_20)
          have w_25 := gz_and (gp_shr p0 v3_20) 1 (by decide)
          refine ⟨fun h_26 => ?_, fun h_26 => ?_⟩
          · refine s_2049_65 _ _ _ _ ?_
            try rw [show gp_wr (v3_20 + 1) = v3_20 + 1 from gp_wr_id (by omega) (by omega)]
            exact ih_20 _ _ hs_s_20 hf_s_20 XS_L_s_20 SVP_L_61_s_20 SVF_L_61_60_s_20 (by omega) (by omega)
          · refine ⟨rfl, ?_⟩
            refine ⟨rfl, ?_⟩
            have f_31 := xr60_4 hs_s_20
            refine ⟨63, rfl, ?_⟩
            refine ⟨⟨rfl, by show 0 ≤ gp_I s_20 60 4 ∧ gp_I s_20 60 4 < 3; omega⟩, ?_⟩
            intro s_32 e_33
            have hs_34 : XI L 0 s_32 := by rw [e_33]; exact xw63 hs_s_20 _ _ (by omega)
            have hf_35 : gX L false [61, 62, 63, 2922, 2924, 2928] s s_32 := by rw [e_33]; exact gX.wI hf_s_20 (Or.inl rfl)
            have q_36 : gp_I s_32 60 4 = gp_I s_20 60 4 := by rw [e_33] <;> first | rfl | exact I_ne (by omega)
            have pd_37 : XS L s_32 := by rw [e_33]; exact XS_fr XS_L_s_20 (gX.wI (gX.refl L true [63] _) (Or.inl rfl)) rfl
            have pd_38 : SVP L 61 s_32 := by rw [e_33]; exact SVP61_fr SVP_L_61_s_20 (gX.wI (gX.refl L true [63] _) (Or.inl rfl)) rfl rfl
            have pd_39 : SVF L 61 60 s_32 := by rw [e_33]; exact SVF60_fr SVF_L_61_60_s_20 (gX.wI (gX.refl L true [63] _) (Or.inl rfl)) rfl rfl rfl
            refine ⟨rfl, ?_⟩
            have f_40 := xr60_4 hs_34
            refine ⟨4, rfl, ?_⟩
            refine ⟨⟨rfl, by show 0 ≤ v3_20 ∧ v3_20 < 8; omega⟩, ?_⟩
            refine ⟨rfl, ?_⟩
            obtain ⟨a_41, n_42, e_43, kt_44, hn_45⟩ := XS.get (by assumption) (Int.toNat v3_20) (by omega)
            have hn_a_41 := kt_44.n hs_34
            rw [show gp_r (gp_R (gp_mk L s_32) 4 (Int.toNat v3_20)) = gp_r (some a_41) from congrArg gp_r e_43]
            refine xm_sstand60 n_42 _ _ hs_34 (by omega) (by first | assumption | exact kT7 hs_34.1.1 | exact kT25 hs_34.1.1) (by first | omega | assumption) (pd_38) (pd_39) (fun s_46 hs_47 hf_48 p_49 p_50 => ⟨rfl, ?_⟩)
            have hf_51 : gX L false [61, 62, 63, 2922, 2924, 2928] s s_46 := gX.trans hf_35 hf_48 rfl rfl
            have kt_52 : kT L s_46 a_41 n_42 := kt_44.fr hf_48.1
            have pd_53 : XS L s_46 := XS_fr pd_37 hf_48 rfl
            have q_54 : gp_I s_46 60 4 = gp_I s_32 60 4 := (hf_48.2.2.1 60 4 (by decide) (by decide) rfl).1
            refine ⟨rfl, ?_⟩
            have f_55 := xr60_4 hs_47
            try rw [show gp_wr ((gp_I s_46 60 4) + 1) = (gp_I s_46 60 4) + 1 from gp_wr_id (by omega) (by omega)]
            refine ⟨rfl, ?_⟩
            intro s_56 e_57
            have hs_58 : XI L 0 s_56 := by rw [e_57]; exact xw60_4 hs_47 _ (by omega)
            have hf_59 : gX L false [61, 62, 63, 2922, 2924, 2928] s s_56 := by rw [e_57]; exact gX.wI hf_51 (Or.inl rfl)
            have kt_60 : kT L s_56 a_41 n_42 := by rw [e_57]; exact kt_52
            have q_61 : gp_I s_56 60 4 = (gp_I s_46 60 4) + 1 := by rw [e_57]; exact (gz_rw _ _ _ _ _).1 rfl
            have pd_62 : XS L s_56 := by rw [e_57]; exact XS_fr pd_53 (gX.wI (gX.refl L true [2924] _) (Or.inl rfl)) rfl
            have pd_63 : SVP L 61 s_56 := by rw [e_57]; exact SVP61_fr p_49 (gX.wI (gX.refl L true [2924] _) (Or.inl rfl)) rfl rfl
            have pd_64 : SVF L 61 60 s_56 := by rw [e_57]; exact SVF60_fr p_50 (gX.wI (gX.refl L true [2924] _) (Or.inl rfl)) rfl rfl rfl
            refine s_2049_65 _ _ _ _ ?_
            try rw [show gp_wr (v3_20 + 1) = v3_20 + 1 from gp_wr_id (by omega) (by omega)]
            exact ih_20 _ _ hs_58 hf_59 pd_62 pd_63 pd_64 (by omega) (by omega)
        · refine s_2049_71 _ _ _ _ ?_
          refine ⟨60, rfl, ?_⟩
          refine ⟨rfl, ?_⟩
          have f_71 := xr60_4 hs_s_20
          have lp_74 : ∀ (n_74 : Nat) (v3_74 : Int) (s_74 : gH), (XI L 0 s_74) → (gX L false [61, 62, 63, 2922, 2924, 2928] s s_74) → (XS L s_74) → (SVP L 61 s_74) → (SVF L 61 60 s_74) → (0 ≤ v3_74 ∧ v3_74 ≤ 3) → (gp_I s_74 60 4 = gp_I s_20 60 4) → (4 - v3_74).toNat < n_74 → gs_E L (d + 2) 2049 76 [gp_r (some 60), gp_i p0, gp_r (some 4), gp_i v3_74] [] s_74 K := by
            intro n_74
            induction n_74 with
            | zero => intro v3_74 s_74 hs_s_74 hf_s_74 XS_L_s_74 SVP_L_61_s_74 SVF_L_61_60_s_74 hv3_74 tk0_74 hm_74; exact absurd hm_74 (Nat.not_lt_zero _)
            | succ n_74 ih_74 =>
              intro v3_74 s_74 hs_s_74 hf_s_74 XS_L_s_74 SVP_L_61_s_74 SVF_L_61_60_s_74 hv3_74 tk0_74 hm_74
              refine s_2049_76 _ _ _ _ ?_
              refine ⟨fun h_75 => ?_, fun h_75 => ?_⟩
              · refine ⟨60, rfl, ?_⟩
                refine ⟨rfl, ?_⟩
                refine ⟨rfl, ?_⟩
                refine xm_sstand60 1 _ _ hs_s_74 (by omega) (by first | assumption | exact kT7 hs_s_74.1.1 | exact kT25 hs_s_74.1.1) (by first | omega | assumption) (SVP_L_61_s_74) (SVF_L_61_60_s_74) (fun s_76 hs_77 hf_78 p_79 p_80 => ⟨rfl, ?_⟩)
                have hf_81 : gX L false [61, 62, 63, 2922, 2924, 2928] s s_76 := gX.trans hf_s_74 hf_78 rfl rfl
                have pd_82 : XS L s_76 := XS_fr XS_L_s_74 hf_78 rfl
                have q_83 : gp_I s_76 60 4 = gp_I s_74 60 4 := (hf_78.2.2.1 60 4 (by decide) (by decide) rfl).1
                try rw [show gp_wr (v3_74 + 1) = v3_74 + 1 from gp_wr_id (by omega) (by omega)]
                exact ih_74 _ _ hs_77 hf_81 pd_82 p_79 p_80 (by omega) (by first | rfl | omega) (by omega)
              · exact k s_74 hs_s_74 hf_s_74 (SVP_L_61_s_74) (SVF_L_61_60_s_74)
          exact lp_74 _ _ _ hs_s_20 hf_s_20 XS_L_s_20 SVP_L_61_s_20 SVF_L_61_60_s_20 (by omega) (by first | rfl | omega) (Nat.lt_succ_self _)
      · refine s_2049_71 _ _ _ _ ?_
        refine ⟨60, rfl, ?_⟩
        refine ⟨rfl, ?_⟩
        have f_88 := xr60_4 hs_s_20
        have lp_91 : ∀ (n_91 : Nat) (v3_91 : Int) (s_91 : gH), (XI L 0 s_91) → (gX L false [61, 62, 63, 2922, 2924, 2928] s s_91) → (XS L s_91) → (SVP L 61 s_91) → (SVF L 61 60 s_91) → (0 ≤ v3_91 ∧ v3_91 ≤ 3) → (gp_I s_91 60 4 = gp_I s_20 60 4) → (4 - v3_91).toNat < n_91 → gs_E L (d + 2) 2049 76 [gp_r (some 60), gp_i p0, gp_r (some 4), gp_i v3_91] [] s_91 K := by
          intro n_91
          induction n_91 with
          | zero => intro v3_91 s_91 hs_s_91 hf_s_91 XS_L_s_91 SVP_L_61_s_91 SVF_L_61_60_s_91 hv3_91 tk0_91 hm_91; exact absurd hm_91 (Nat.not_lt_zero _)
          | succ n_91 ih_91 =>
            intro v3_91 s_91 hs_s_91 hf_s_91 XS_L_s_91 SVP_L_61_s_91 SVF_L_61_60_s_91 hv3_91 tk0_91 hm_91
            refine s_2049_76 _ _ _ _ ?_
            refine ⟨fun h_92 => ?_, fun h_92 => ?_⟩
            · refine ⟨60, rfl, ?_⟩
              refine ⟨rfl, ?_⟩
              refine ⟨rfl, ?_⟩
              refine xm_sstand60 1 _ _ hs_s_91 (by omega) (by first | assumption | exact kT7 hs_s_91.1.1 | exact kT25 hs_s_91.1.1) (by first | omega | assumption) (SVP_L_61_s_91) (SVF_L_61_60_s_91) (fun s_93 hs_94 hf_95 p_96 p_97 => ⟨rfl, ?_⟩)
              have hf_98 : gX L false [61, 62, 63, 2922, 2924, 2928] s s_93 := gX.trans hf_s_91 hf_95 rfl rfl
              have pd_99 : XS L s_93 := XS_fr XS_L_s_91 hf_95 rfl
              have q_100 : gp_I s_93 60 4 = gp_I s_91 60 4 := (hf_95.2.2.1 60 4 (by decide) (by decide) rfl).1
              try rw [show gp_wr (v3_91 + 1) = v3_91 + 1 from gp_wr_id (by omega) (by omega)]
              exact ih_91 _ _ hs_94 hf_98 pd_99 p_96 p_97 (by omega) (by first | rfl | omega) (by omega)
            · exact k s_91 hs_s_91 hf_s_91 (SVP_L_61_s_91) (SVF_L_61_60_s_91)
        exact lp_91 _ _ _ hs_s_20 hf_s_20 XS_L_s_20 SVP_L_61_s_20 SVF_L_61_60_s_20 (by omega) (by first | rfl | omega) (Nat.lt_succ_self _)
  exact lp_20 _ _ _ hs_12 hf_13 pd_15 pd_16 pd_17 (by omega) (Nat.lt_succ_self _)
