/-! a table is made; its bounds -/
theorem XT.wIe {L e : Nat} {s : gH} (h : XT L e s) (k : Nat) (v : Int) (he : (gp_sh (gp_mk L s) e).1 = 9) : XT L e (gp_wI s e k v) :=
  ⟨h.1, fun a ha hne => by
    obtain ⟨n, hn⟩ := h.2 a ha hne
    refine ⟨n, hn.wI (fun q => hne q.symm) (fun q => ?_)⟩
    have := hn.1.2.2.2.2.1.2.2.2.2
    rw [← q] at this
    rw [this] at he
    exact absurd (show (100 : Nat) = 9 from he) (by decide)⟩
def kJ (j : Nat) : Nat := if j ≤ 2 then 101 else 100
theorem kJ9 (j : Nat) : kJ j ≠ 9 := by unfold kJ; split <;> decide
def PT (L : Nat) (s0 s : gH) (a n J : Nat) : Prop := (117 ≤ a ∧ s.1 = a + 1 + J ∧ s.2.1 = s0.2.1 + J * n) ∧ XI L a s ∧ gp_sh (gp_mk L s) a = (9, 10) ∧ gp_I s a 0 = (n : Int) ∧ (∀ j, 1 ≤ j → j ≤ J → gp_R (gp_mk L s) a j = some (a + j) ∧ gp_sh (gp_mk L s) (a + j) = (kJ j, n) ∧ (∀ i, gp_I s (a + j) i = 0 ∧ gp_L s (a + j) i = 0#64)) ∧ (∀ f, J < f → gp_R (gp_mk L s) a f = none) ∧ gX L true [] s0 s
theorem PT.k9 {L : Nat} {s0 s : gH} {a n J k m : Nat} (h : PT L s0 s a n J) : (gp_sh (gp_mk L (gp_new s k m)) a).1 = 9 := by
  obtain ⟨⟨h1, h2, h3⟩, h4, h5, -⟩ := h
  rw [sh_new h4.1.1, if_neg (by omega), h5]
theorem PT.step {L : Nat} {s0 s : gH} {a n J : Nat} (h : PT L s0 s a n J) : PT L s0 (gp_wR (gp_new s (kJ (J + 1)) n) a (J + 1) (some s.1)) a n (J + 1) := by
  obtain ⟨⟨h1, h2, h3⟩, h4, h5, h6, h7, h8, h9⟩ := h
  have hs := h4.1.1
  refine ⟨⟨h1, ?_, ?_⟩, (h4.new _ _ (Or.inl (kJ9 _))).wR _ _ _ (Or.inr rfl), ?_, ?_, fun j j1 j2 => ?_, fun f hf => ?_, (h9.new _ _ hs).wR (Or.inr h1) (Or.inr (Or.inr (by intro q; cases q)))⟩
  · show s.1 + 1 = _; omega
  · show s.2.1 + n = _; rw [h3, Nat.succ_mul]; omega
  · show gp_sh (gp_mk L (gp_new s (kJ (J + 1)) n)) a = _
    rw [sh_new hs, if_neg (by omega)]; exact h5
  · show gp_I (gp_new s (kJ (J + 1)) n) a 0 = _
    rw [I_new, if_neg (by omega)]; exact h6
  · by_cases c : j = J + 1
    · subst c
      refine ⟨?_, ?_, fun i => ⟨?_, ?_⟩⟩
      · rw [R_wRs (gp_sR_big h1 _)]; congr 1; omega
      · show gp_sh (gp_mk L (gp_new s (kJ (J + 1)) n)) _ = _
        rw [sh_new hs, if_pos (by omega)]
      · show gp_I (gp_new s (kJ (J + 1)) n) _ _ = _
        rw [I_new, if_pos (by omega)]
      · show gp_L (gp_new s (kJ (J + 1)) n) _ _ = _
        rw [L_new, if_pos (by omega)]
    · obtain ⟨c1, c2, c3⟩ := h7 j j1 (by omega)
      refine ⟨?_, ?_, fun i => ⟨?_, ?_⟩⟩
      · rw [R_wR j (Or.inr c), R_new hs, if_neg (by omega)]; exact c1
      · show gp_sh (gp_mk L (gp_new s (kJ (J + 1)) n)) _ = _
        rw [sh_new hs, if_neg (by omega)]; exact c2
      · show gp_I (gp_new s (kJ (J + 1)) n) _ _ = _
        rw [I_new, if_neg (by omega)]; exact (c3 i).1
      · show gp_L (gp_new s (kJ (J + 1)) n) _ _ = _
        rw [L_new, if_neg (by omega)]; exact (c3 i).2
  · rw [R_wR f (Or.inr (by omega)), R_new hs, if_neg (by omega)]; exact h8 f (by omega)
theorem PT.fin {L : Nat} {s0 s : gH} {a n : Nat} (h : PT L s0 s a n 5) (hn : 1 ≤ n ∧ n ≤ 60) : TT L s a n := by
  obtain ⟨⟨h1, h2, h3⟩, h4, h5, h6, h7, h8, h9⟩ := h
  have g1 := h7 1 (by omega) (by omega)
  have g2 := h7 2 (by omega) (by omega)
  have g3 := h7 3 (by omega) (by omega)
  have g4 := h7 4 (by omega) (by omega)
  have g5 := h7 5 (by omega) (by omega)
  exact ⟨⟨⟨by omega, by omega, by omega⟩, ⟨hn.1, by omega, fun _ => hn.2⟩, h6, ⟨g1.1, g2.1, g3.1, g4.1, g5.1⟩, ⟨g1.2.1, g2.2.1, g3.2.1, g4.2.1, g5.2.1⟩, fun i => ⟨⟨by rw [(g1.2.2 i).2]; exact bd_0 _, by rw [(g2.2.2 i).2]; exact bd_0 _⟩, by rw [(g5.2.2 i).1]; omega⟩⟩, Or.inl (h8 6 (by omega))⟩
set_option maxRecDepth 100000 in
theorem xm_init {L d : Nat} {K : Option gV → gH → Prop} {s : gH} (this : Nat) (p0 : Int) (h_p0 : 1 ≤ p0 ∧ p0 ≤ 60) (q0 : XI L this s) (q1' : gp_sz s = this + 1) (q2 : 117 ≤ this) (q3 : gp_sh (gp_mk L s) this = (9, 10)) (q4 : ∀ f, gp_R (gp_mk L s) this f = none) (k : ∀ (t : gH), XI L 0 t → gX L true [] s t → (kT L t this (Int.toNat p0)) → (gp_R (gp_mk L t) this 6 = none) → (gp_sz t = gp_sz s + 5) → (gp_us t = gp_us s + 5 * Int.toNat p0) → K none t) : gs_C L d 2304 2 [gp_r (some this), gp_i p0] s K := by
  have en : ((p0.toNat : Nat) : Int) = p0 := by omega
  have q1 : s.1 = this + 1 := q1'
  refine s_2304_e _ _ ⟨this, rfl, by rw [q3], fun s2 e2 => ?_⟩
  have k9 : (gp_sh (gp_mk L s) this).1 = 9 := by rw [q3]
  have P0 : PT L s s2 this p0.toNat 0 := by
    subst e2
    refine ⟨⟨q2, q1, by show s.2.1 = _; omega⟩, ⟨XT.wIe q0.1 _ _ k9, gJx.dI q0.2 _ _ _ (by omega)⟩, q3, ?_, fun j j1 j2 => by omega, fun f _ => q4 f, (gX.refl _ _ _ _).wI (Or.inr q2)⟩
    rw [en]; exact (gz_rw _ _ _ _ _).1 rfl
  refine ⟨⟨by omega, by omega⟩, P0.2.1.1.1, fun s3 e3 => ⟨by subst e3; exact P0.k9, gp_sR_big q2 1, fun s4 e4 => ?_⟩⟩
  have P1 : PT L s s4 this p0.toNat 1 := by rw [e4, e3]; exact P0.step
  refine ⟨⟨by omega, by omega⟩, P1.2.1.1.1, fun s5 e5 => ⟨by subst e5; exact P1.k9, gp_sR_big q2 2, fun s6 e6 => ?_⟩⟩
  have P2 : PT L s s6 this p0.toNat 2 := by rw [e6, e5]; exact P1.step
  refine ⟨⟨by omega, by omega⟩, P2.2.1.1.1, fun s7 e7 => ⟨by subst e7; exact P2.k9, gp_sR_big q2 3, fun s8 e8 => ?_⟩⟩
  have P3 : PT L s s8 this p0.toNat 3 := by rw [e8, e7]; exact P2.step
  refine ⟨⟨by omega, by omega⟩, P3.2.1.1.1, fun s9 e9 => ⟨by subst e9; exact P3.k9, gp_sR_big q2 4, fun s10 e10 => ?_⟩⟩
  have P4 : PT L s s10 this p0.toNat 4 := by rw [e10, e9]; exact P3.step
  refine ⟨⟨by omega, by omega⟩, P4.2.1.1.1, fun s11 e11 => ⟨by subst e11; exact P4.k9, gp_sR_big q2 5, fun s12 e12 => ?_⟩⟩
  have P5 : PT L s s12 this p0.toNat 5 := by rw [e12, e11]; exact P4.step
  have tt := P5.fin (by omega)
  exact k s12 ⟨XT.done P5.2.1.1 tt, P5.2.1.2⟩ P5.2.2.2.2.2.2 ⟨by have := P5.1.2.1; omega, by rw [P5.2.2.1], by rw [tt.1.2.2.2.2.1.1]⟩ (P5.2.2.2.2.2.1 6 (by omega)) (by have := P5.1.2.1; show s12.1 = s.1 + 5; omega) P5.1.2.2
def PB (L : Nat) (s0 s : gH) (a n J : Nat) : Prop := ((117 ≤ a ∨ a = 25) ∧ s.1 = s0.1 + J ∧ s.2.1 = s0.2.1 + J * n) ∧ XI L a s ∧ (gp_sh (gp_mk L s) a).1 = 9 ∧ TT0 L s a n ∧ (∀ f, 6 ≤ f → f < 6 + J → BB L s a n f) ∧ gX L true [1806, 1807, 1808, 1809] s0 s
theorem PB.k9 {L : Nat} {s0 s : gH} {a n J k m : Nat} (h : PB L s0 s a n J) : (gp_sh (gp_mk L (gp_new s k m)) a).1 = 9 := by
  obtain ⟨-, h4, h5, h6, -⟩ := h
  have := h6.1.2.1
  rw [sh_new h4.1.1, if_neg (by omega), h5]
theorem PB.step {L : Nat} {s0 s : gH} {a n J : Nat} (h : PB L s0 s a n J) (hJ : gp_sR a (6 + J) = none) (hJ2 : [1806, 1807, 1808, 1809].contains (gcd 25 (6 + J)) = true) : PB L s0 (gp_wR (gp_new s 100 n) a (6 + J) (some s.1)) a n (J + 1) := by
  obtain ⟨⟨h1, h2, h3⟩, h4, h5, h6, h7, h9⟩ := h
  have hs := h4.1.1
  have ha := h6.1.2.1
  refine ⟨⟨h1, ?_, ?_⟩, (h4.new _ _ (Or.inl (by decide))).wR _ _ _ (Or.inr rfl), ?_, (h6.new hs).wR (Or.inr (by omega)), fun f f1 f2 => ?_, (h9.new _ _ hs).wR (by rcases h1 with q | q; exact Or.inr q; subst q; exact Or.inl hJ2) (Or.inr (Or.inr (by intro q; cases q)))⟩
  · show s.1 + 1 = _; omega
  · show s.2.1 + n = _; rw [h3, Nat.succ_mul]; omega
  · show (gp_sh (gp_mk L (gp_new s 100 n)) a).1 = _
    rw [sh_new hs, if_neg (by omega)]; exact h5
  · by_cases c : f = 6 + J
    · subst c
      refine ⟨s.1, R_wRs hJ, Nat.lt_succ_self _, ?_, fun a' ha' => ?_, fun q => by omega⟩
      · show gp_sh (gp_mk L (gp_new s 100 n)) _ = _
        rw [sh_new hs, if_pos rfl]
      · have ha2 : (gp_sh (gp_mk L (gp_new s 100 n)) a').1 = 9 := ha'
        rw [sh_new hs] at ha2
        by_cases c2 : a' = s.1
        · omega
        · rw [if_neg c2] at ha2
          by_cases c3 : a' = a
          · omega
          · obtain ⟨n', t'⟩ := h4.1.2 a' ha2 c3
            have := t'.1.1.2.1
            omega
    · exact ((h7 f f1 (by omega)).new hs (by omega)).wR (Or.inr c)
theorem sR25 : gp_sR 25 6 = none ∧ gp_sR 25 7 = none ∧ gp_sR 25 8 = none ∧ gp_sR 25 9 = none := ⟨rfl, rfl, rfl, rfl⟩
theorem sRt {a : Nat} (h : 117 ≤ a ∨ a = 25) : gp_sR a 6 = none ∧ gp_sR a 7 = none ∧ gp_sR a 8 = none ∧ gp_sR a 9 = none := by
  rcases h with h | h
  · exact ⟨gp_sR_big h _, gp_sR_big h _, gp_sR_big h _, gp_sR_big h _⟩
  · subst h; exact sR25
set_option maxRecDepth 100000 in
theorem xm_mb {L d : Nat} {K : Option gV → gH → Prop} {s : gH} (n : Nat) (this : Nat) (hs : XI L 0 s) (q0 : kT L s this n) (q1 : n ≤ 60) (k : ∀ (t : gH), XI L 0 t → gX L true [1806, 1807, 1808, 1809] s t → (kB L t this) → (gp_sz t = gp_sz s + 4) → (gp_us t = gp_us s + 4 * n) → K none t) : gs_C L d 2305 1 [gp_r (some this)] s K := by
  have tt := q0.tt hs
  have h7 := q0.n60 hs q1
  have ha : 117 ≤ this ∨ this = 25 := by
    by_cases c : this < 117
    · rcases tt.1.1.2.2 c with q | q
      · exact absurd q h7
      · exact Or.inr q
    · exact Or.inl (by omega)
  have hz := sRt ha
  have P0 : PB L s s this n 0 := ⟨⟨ha, by omega, by omega⟩, ⟨XT.weak hs.1, hs.2⟩, q0.2.1, tt.1, fun f f1 f2 => by omega, gX.refl _ _ _ _⟩
  have hI : ∀ {u J}, PB L s u this n J → (gp_I u this 0) = (n : Int) := fun h => h.2.2.2.1.2.2.1
  have hI2 : ∀ {u J}, PB L s u this n J → (gp_I u this 0).toNat = n := fun h => by rw [hI h]; omega
  refine s_2305_e _ ⟨this, rfl, q0.2.1, by rw [hI P0]; omega, hs.1.1, fun s2 e2 => ⟨by subst e2; exact P0.k9, hz.1, fun s3 e3 => ?_⟩⟩
  have P1 : PB L s s3 this n 1 := by rw [e3, e2, hI2 P0]; exact P0.step hz.1 rfl
  refine ⟨P1.2.2.1, by rw [hI P1]; omega, P1.2.1.1.1, fun s4 e4 => ⟨by subst e4; exact P1.k9, hz.2.1, fun s5 e5 => ?_⟩⟩
  have P2 : PB L s s5 this n 2 := by rw [e5, e4, hI2 P1]; exact P1.step hz.2.1 rfl
  refine ⟨P2.2.2.1, by rw [hI P2]; omega, P2.2.1.1.1, fun s6 e6 => ⟨by subst e6; exact P2.k9, hz.2.2.1, fun s7 e7 => ?_⟩⟩
  have P3 : PB L s s7 this n 3 := by rw [e7, e6, hI2 P2]; exact P2.step hz.2.2.1 rfl
  refine ⟨P3.2.2.1, by rw [hI P3]; omega, P3.2.1.1.1, fun s8 e8 => ⟨by subst e8; exact P3.k9, hz.2.2.2, fun s9 e9 => ?_⟩⟩
  have P4 : PB L s s9 this n 4 := by rw [e9, e8, hI2 P3]; exact P3.step hz.2.2.2 rfl
  have b := fun f f1 f2 => P4.2.2.2.2.1 f f1 f2
  have t9 : TT L s9 this n := ⟨P4.2.2.2.1, Or.inr ⟨b 6 (by omega) (by omega), b 7 (by omega) (by omega), b 8 (by omega) (by omega), b 9 (by omega) (by omega)⟩⟩
  obtain ⟨b6, r6, -⟩ := b 6 (by omega) (by omega)
  exact k s9 ⟨XT.done P4.2.1.1 t9, P4.2.1.2⟩ P4.2.2.2.2.2 ⟨by have := t9.1.1.2.1; omega, P4.2.2.1, b6, r6⟩ P4.1.2.1 P4.1.2.2
