set_option maxRecDepth 1000000 in
theorem cf_81 (L : Nat) (xs : Nat → Int32) (k : Nat) : (0 ≤ gp_I (cH263 L xs) 81 k ∧ gp_I (cH263 L xs) 81 k ≤ 1) ∧ (k < 8 → gp_I (cH263 L xs) 81 k = 1) := by
  by_cases h : k < 8
  · have hc : k = 0 ∨ k = 1 ∨ k = 2 ∨ k = 3 ∨ k = 4 ∨ k = 5 ∨ k = 6 ∨ k = 7 := by omega
    have e : gp_I (cH263 L xs) 81 k = 1 := by
      rcases hc with h | h | h | h | h | h | h | h
      · subst h; rfl
      · subst h; rfl
      · subst h; rfl
      · subst h; rfl
      · subst h; rfl
      · subst h; rfl
      · subst h; rfl
      · subst h; rfl
    omega
  · obtain ⟨j, rfl⟩ : ∃ j, k = j + 8 := ⟨k - 8, by omega⟩
    have e : gp_I (cH263 L xs) 81 (j + 8) = 0 := rfl
    omega
set_option maxRecDepth 1000000 in
theorem cf_xp (L : Nat) (xs : Nat → Int32) : ∀ a k, 1 ≤ a → a < 74 → xP a k (gp_I (cH263 L xs) a k) ∧ xQ a k (gp_L (cH263 L xs) a k) := by
  intro a k h1 h2
  have hc : a = 1 ∨ a = 2 ∨ a = 3 ∨ a = 4 ∨ a = 5 ∨ a = 6 ∨ a = 7 ∨ a = 8 ∨ a = 9 ∨ a = 10 ∨ a = 11 ∨ a = 12 ∨ a = 13 ∨ a = 14 ∨ a = 15 ∨ a = 16 ∨ a = 17 ∨ a = 18 ∨ a = 19 ∨ a = 20 ∨ a = 21 ∨ a = 22 ∨ a = 23 ∨ a = 24 ∨ a = 25 ∨ a = 26 ∨ a = 27 ∨ a = 28 ∨ a = 29 ∨ a = 30 ∨ a = 31 ∨ a = 32 ∨ a = 33 ∨ a = 34 ∨ a = 35 ∨ a = 36 ∨ a = 37 ∨ a = 38 ∨ a = 39 ∨ a = 40 ∨ a = 41 ∨ a = 42 ∨ a = 43 ∨ a = 44 ∨ a = 45 ∨ a = 46 ∨ a = 47 ∨ a = 48 ∨ a = 49 ∨ a = 50 ∨ a = 51 ∨ a = 52 ∨ a = 53 ∨ a = 54 ∨ a = 55 ∨ a = 56 ∨ a = 57 ∨ a = 58 ∨ a = 59 ∨ a = 60 ∨ a = 61 ∨ a = 62 ∨ a = 63 ∨ a = 64 ∨ a = 65 ∨ a = 66 ∨ a = 67 ∨ a = 68 ∨ a = 69 ∨ a = 70 ∨ a = 71 ∨ a = 72 ∨ a = 73 := by omega
  rcases hc with h | h | h | h | h | h | h | h | h | h | h | h | h | h | h | h | h | h | h | h | h | h | h | h | h | h | h | h | h | h | h | h | h | h | h | h | h | h | h | h | h | h | h | h | h | h | h | h | h | h | h | h | h | h | h | h | h | h | h | h | h | h | h | h | h | h | h | h | h | h | h | h | h
  · subst h; exact ⟨True.intro, True.intro⟩
  · subst h; exact ⟨True.intro, True.intro⟩
  · subst h; exact ⟨True.intro, True.intro⟩
  · subst h; exact ⟨True.intro, True.intro⟩
  · subst h; exact ⟨True.intro, True.intro⟩
  · subst h; exact ⟨True.intro, True.intro⟩
  · subst h; refine ⟨?_, ?_⟩
    · show cond (Nat.beq k 0) (gp_I (cH263 L xs) 7 k = 61) (True)
      cases e : Nat.beq k 0 with
      | true => have ek := Nat.eq_of_beq_eq_true e; subst ek; rfl
      | false =>
        exact True.intro
    · exact True.intro
  · subst h; exact ⟨True.intro, rfl⟩
  · subst h; exact ⟨True.intro, rfl⟩
  · subst h; exact ⟨rfl, True.intro⟩
  · subst h; exact ⟨rfl, True.intro⟩
  · subst h; exact ⟨rfl, True.intro⟩
  · subst h; exact ⟨rfl, True.intro⟩
  · subst h; exact ⟨rfl, True.intro⟩
  · subst h; exact ⟨rfl, True.intro⟩
  · subst h; exact ⟨rfl, True.intro⟩
  · subst h; exact ⟨rfl, True.intro⟩
  · subst h; exact ⟨rfl, True.intro⟩
  · subst h; exact ⟨rfl, True.intro⟩
  · subst h; exact ⟨True.intro, True.intro⟩
  · subst h; exact ⟨rfl, True.intro⟩
  · subst h; exact ⟨rfl, True.intro⟩
  · subst h; exact ⟨rfl, True.intro⟩
  · subst h; exact ⟨rfl, True.intro⟩
  · subst h; refine ⟨?_, ?_⟩
    · show cond (Nat.beq k 0) (gp_I (cH263 L xs) 25 k = 1) (True)
      cases e : Nat.beq k 0 with
      | true => have ek := Nat.eq_of_beq_eq_true e; subst ek; rfl
      | false =>
        exact True.intro
    · exact True.intro
  · subst h; exact ⟨True.intro, rfl⟩
  · subst h; exact ⟨True.intro, rfl⟩
  · subst h; exact ⟨rfl, True.intro⟩
  · subst h; exact ⟨rfl, True.intro⟩
  · subst h; exact ⟨rfl, True.intro⟩
  · subst h; exact ⟨True.intro, True.intro⟩
  · subst h; exact ⟨rfl, True.intro⟩
  · subst h; exact ⟨rfl, True.intro⟩
  · subst h; exact ⟨rfl, True.intro⟩
  · subst h; exact ⟨rfl, True.intro⟩
  · subst h; exact ⟨rfl, True.intro⟩
  · subst h; exact ⟨rfl, True.intro⟩
  · subst h; exact ⟨True.intro, True.intro⟩
  · subst h; exact ⟨True.intro, True.intro⟩
  · subst h; exact ⟨True.intro, True.intro⟩
  · subst h; refine ⟨?_, ?_⟩
    · exact True.intro
    · show cond (Nat.beq k 4) (gp_L (cH263 L xs) 41 k = 0#64) (cond (Nat.beq k 5) (gp_L (cH263 L xs) 41 k = 0#64) (True))
      cases e : Nat.beq k 4 with
      | true => have ek := Nat.eq_of_beq_eq_true e; subst ek; rfl
      | false =>
        cases e : Nat.beq k 5 with
        | true => have ek := Nat.eq_of_beq_eq_true e; subst ek; rfl
        | false =>
          exact True.intro
  · subst h; exact ⟨True.intro, True.intro⟩
  · subst h; exact ⟨True.intro, True.intro⟩
  · subst h; exact ⟨True.intro, True.intro⟩
  · subst h; exact ⟨rfl, True.intro⟩
  · subst h; exact ⟨True.intro, True.intro⟩
  · subst h; exact ⟨True.intro, True.intro⟩
  · subst h; exact ⟨True.intro, True.intro⟩
  · subst h; exact ⟨True.intro, True.intro⟩
  · subst h; exact ⟨True.intro, True.intro⟩
  · subst h; exact ⟨True.intro, True.intro⟩
  · subst h; exact ⟨True.intro, True.intro⟩
  · subst h; exact ⟨rfl, True.intro⟩
  · subst h; exact ⟨(by have e : gp_I (cH263 L xs) 54 k = 0 := rfl; exact ⟨by rw [e]; decide, by rw [e]; decide⟩), True.intro⟩
  · subst h; exact ⟨True.intro, True.intro⟩
  · subst h; exact ⟨True.intro, True.intro⟩
  · subst h; refine ⟨?_, ?_⟩
    · show cond (Nat.beq k 2) (0 ≤ gp_I (cH263 L xs) 57 k ∧ gp_I (cH263 L xs) 57 k ≤ 1) (True)
      cases e : Nat.beq k 2 with
      | true => have ek := Nat.eq_of_beq_eq_true e; subst ek; have e0 : gp_I (cH263 L xs) 57 2 = 0 := rfl; show 0 ≤ gp_I (cH263 L xs) 57 2 ∧ gp_I (cH263 L xs) 57 2 ≤ 1; rw [e0]; decide
      | false =>
        exact True.intro
    · exact True.intro
  · subst h; exact ⟨True.intro, True.intro⟩
  · subst h; exact ⟨True.intro, True.intro⟩
  · subst h; exact ⟨True.intro, True.intro⟩
  · subst h; exact ⟨True.intro, True.intro⟩
  · subst h; exact ⟨rfl, True.intro⟩
  · subst h; exact ⟨(by have e : gp_I (cH263 L xs) 63 k = 0 := rfl; exact ⟨by rw [e]; decide, by rw [e]; decide⟩), True.intro⟩
  · subst h; exact ⟨True.intro, True.intro⟩
  · subst h; exact ⟨True.intro, True.intro⟩
  · subst h; exact ⟨True.intro, True.intro⟩
  · subst h; exact ⟨True.intro, True.intro⟩
  · subst h; exact ⟨True.intro, True.intro⟩
  · subst h; exact ⟨True.intro, True.intro⟩
  · subst h; exact ⟨True.intro, True.intro⟩
  · subst h; exact ⟨True.intro, True.intro⟩
  · subst h; exact ⟨True.intro, True.intro⟩
  · subst h; exact ⟨True.intro, True.intro⟩
set_option maxRecDepth 1000000 in
theorem cf_zp (L : Nat) (xs : Nat → Int32) : ∀ a k, 74 ≤ a → a < 117 → zP a k (gp_I (cH263 L xs) a k) ∧ zQ a k (gp_L (cH263 L xs) a k) := by
  intro a k h1 h2
  have hc : a = 74 ∨ a = 75 ∨ a = 76 ∨ a = 77 ∨ a = 78 ∨ a = 79 ∨ a = 80 ∨ a = 81 ∨ a = 82 ∨ a = 83 ∨ a = 84 ∨ a = 85 ∨ a = 86 ∨ a = 87 ∨ a = 88 ∨ a = 89 ∨ a = 90 ∨ a = 91 ∨ a = 92 ∨ a = 93 ∨ a = 94 ∨ a = 95 ∨ a = 96 ∨ a = 97 ∨ a = 98 ∨ a = 99 ∨ a = 100 ∨ a = 101 ∨ a = 102 ∨ a = 103 ∨ a = 104 ∨ a = 105 ∨ a = 106 ∨ a = 107 ∨ a = 108 ∨ a = 109 ∨ a = 110 ∨ a = 111 ∨ a = 112 ∨ a = 113 ∨ a = 114 ∨ a = 115 ∨ a = 116 := by omega
  rcases hc with h | h | h | h | h | h | h | h | h | h | h | h | h | h | h | h | h | h | h | h | h | h | h | h | h | h | h | h | h | h | h | h | h | h | h | h | h | h | h | h | h | h | h
  · subst h; refine ⟨?_, ?_⟩
    · show cond (Nat.beq k 15) (gp_I (cH263 L xs) 74 k = 0) (cond (Nat.beq k 44) (gp_I (cH263 L xs) 74 k = 0) (cond (Nat.beq k 49) (0 ≤ gp_I (cH263 L xs) 74 k ∧ gp_I (cH263 L xs) 74 k ≤ 3) (cond (Nat.beq k 55) (0 ≤ gp_I (cH263 L xs) 74 k ∧ gp_I (cH263 L xs) 74 k ≤ 3) (cond (Nat.beq k 56) (0 ≤ gp_I (cH263 L xs) 74 k ∧ gp_I (cH263 L xs) 74 k ≤ 1) (True)))))
      cases e : Nat.beq k 15 with
      | true => have ek := Nat.eq_of_beq_eq_true e; subst ek; rfl
      | false =>
        cases e : Nat.beq k 44 with
        | true => have ek := Nat.eq_of_beq_eq_true e; subst ek; rfl
        | false =>
          cases e : Nat.beq k 49 with
          | true => have ek := Nat.eq_of_beq_eq_true e; subst ek; have e0 : gp_I (cH263 L xs) 74 49 = 0 := rfl; show 0 ≤ gp_I (cH263 L xs) 74 49 ∧ gp_I (cH263 L xs) 74 49 ≤ 3; rw [e0]; decide
          | false =>
            cases e : Nat.beq k 55 with
            | true => have ek := Nat.eq_of_beq_eq_true e; subst ek; have e0 : gp_I (cH263 L xs) 74 55 = 0 := rfl; show 0 ≤ gp_I (cH263 L xs) 74 55 ∧ gp_I (cH263 L xs) 74 55 ≤ 3; rw [e0]; decide
            | false =>
              cases e : Nat.beq k 56 with
              | true => have ek := Nat.eq_of_beq_eq_true e; subst ek; have e0 : gp_I (cH263 L xs) 74 56 = 0 := rfl; show 0 ≤ gp_I (cH263 L xs) 74 56 ∧ gp_I (cH263 L xs) 74 56 ≤ 1; rw [e0]; decide
              | false =>
                exact True.intro
    · show cond (Nat.beq k 35) (gp_L (cH263 L xs) 74 k = 0#64) (cond (Nat.beq k 36) (gp_L (cH263 L xs) 74 k = 0#64) (True))
      cases e : Nat.beq k 35 with
      | true => have ek := Nat.eq_of_beq_eq_true e; subst ek; rfl
      | false =>
        cases e : Nat.beq k 36 with
        | true => have ek := Nat.eq_of_beq_eq_true e; subst ek; rfl
        | false =>
          exact True.intro
  · subst h; exact ⟨True.intro, True.intro⟩
  · subst h; exact ⟨True.intro, rfl⟩
  · subst h; exact ⟨True.intro, rfl⟩
  · subst h; exact ⟨rfl, True.intro⟩
  · subst h; exact ⟨rfl, True.intro⟩
  · subst h; exact ⟨rfl, True.intro⟩
  · subst h; exact ⟨cf_81 L xs k, trivial⟩
  · subst h; exact ⟨True.intro, True.intro⟩
  · subst h; exact ⟨True.intro, True.intro⟩
  · subst h; exact ⟨True.intro, True.intro⟩
  · subst h; exact ⟨True.intro, True.intro⟩
  · subst h; exact ⟨Or.inl rfl, True.intro⟩
  · subst h; exact ⟨rfl, True.intro⟩
  · subst h; exact ⟨rfl, True.intro⟩
  · subst h; exact ⟨rfl, True.intro⟩
  · subst h; exact ⟨rfl, True.intro⟩
  · subst h; exact ⟨rfl, True.intro⟩
  · subst h; exact ⟨rfl, True.intro⟩
  · subst h; exact ⟨rfl, True.intro⟩
  · subst h; exact ⟨rfl, True.intro⟩
  · subst h; exact ⟨rfl, True.intro⟩
  · subst h; exact ⟨rfl, True.intro⟩
  · subst h; exact ⟨rfl, True.intro⟩
  · subst h; exact ⟨(by have e : gp_I (cH263 L xs) 98 k = 0 := rfl; exact ⟨by rw [e]; decide, by rw [e]; decide⟩), True.intro⟩
  · subst h; exact ⟨(by have e : gp_I (cH263 L xs) 99 k = 0 := rfl; exact ⟨by rw [e]; decide, by rw [e]; decide⟩), True.intro⟩
  · subst h; exact ⟨rfl, True.intro⟩
  · subst h; exact ⟨rfl, True.intro⟩
  · subst h; exact ⟨rfl, True.intro⟩
  · subst h; exact ⟨rfl, True.intro⟩
  · subst h; exact ⟨rfl, True.intro⟩
  · subst h; exact ⟨(by have e : gp_I (cH263 L xs) 105 k = 0 := rfl; exact ⟨by rw [e]; decide, by rw [e]; decide⟩), True.intro⟩
  · subst h; exact ⟨(by have e : gp_I (cH263 L xs) 106 k = 0 := rfl; exact ⟨by rw [e]; decide, by rw [e]; decide⟩), True.intro⟩
  · subst h; exact ⟨rfl, True.intro⟩
  · subst h; exact ⟨rfl, True.intro⟩
  · subst h; exact ⟨rfl, True.intro⟩
  · subst h; exact ⟨rfl, True.intro⟩
  · subst h; exact ⟨(by have e : gp_I (cH263 L xs) 111 k = 0 := rfl; exact ⟨by rw [e]; decide, by rw [e]; decide⟩), True.intro⟩
  · subst h; exact ⟨rfl, True.intro⟩
  · subst h; exact ⟨True.intro, True.intro⟩
  · subst h; exact ⟨True.intro, True.intro⟩
  · subst h; exact ⟨True.intro, True.intro⟩
  · subst h; exact ⟨True.intro, True.intro⟩
theorem cf_x (L : Nat) (xs : Nat → Int32) : xM (cH263 L xs) (cH263 L xs) := ⟨by show 117 ≤ 117; omega, fun _ _ _ => ⟨rfl, rfl⟩, cf_xp L xs⟩
theorem cf_m {L : Nat} {xs : Nat → Int32} {t : gH} (h : xM (cH263 L xs) t) : zM t t := ⟨⟨rfl, rfl, rfl, rfl⟩, fun _ _ _ => ⟨rfl, rfl⟩, fun a k h1 h2 => by
  obtain ⟨e1, e2⟩ := h.2.1 a k (Or.inr ⟨h1, h2⟩)
  rw [e1, e2]; exact cf_zp L xs a k h1 h2⟩
theorem cf_f {L : Nat} {xs : Nat → Int32} {t : gH} (h : xM (cH263 L xs) t) {a k : Nat} {v : Int} (h1 : 74 ≤ a) (h2 : a < 117) (e : gp_I (cH263 L xs) a k = v) : gp_I t a k = v := ((h.2.1 a k (Or.inr ⟨h1, h2⟩)).1).trans e
theorem cf_0 {L : Nat} {xs : Nat → Int32} {t : gH} (h : xM (cH263 L xs) t) (k : Nat) : gp_I t 0 k = gp_I (cH263 L xs) 0 k := (h.2.1 0 k (Or.inl rfl)).1
set_option maxRecDepth 1000000 in
theorem cf_s (L : Nat) (xs : Nat → Int32) (k : Nat) : gp_I (cH263 L xs) 0 k = (xs k).toInt := rfl
theorem cf_r (L : Nat) (xs : Nat → Int32) (k : Nat) : -2147483648 ≤ gp_I (cH263 L xs) 0 k ∧ gp_I (cH263 L xs) 0 k ≤ 2147483647 := by
  rw [cf_s]
  have h1 := Int32.le_toInt (xs k)
  have h2 := Int32.toInt_lt (xs k)
  omega
theorem cf_z {t u : gH} {c : Nat} (h : zM t u) (q : gp_sz t = c) (hc : c ≤ 600001) : gp_sz u ≤ 600001 := by
  have e : gp_sz u = gp_sz t := h.1.1
  omega
theorem cf_u {t u : gH} {c : Nat} (h : zM t u) (q : gp_us t = c) (hc : c ≤ 7302250) : gp_us u ≤ 7302250 := by
  have e : gp_us u = gp_us t := h.1.2.1
  omega
theorem cf_z2 {t u : gH} {c : Nat} (e : gp_sz u = gp_sz t) (q : gp_sz t = c) (hc : c ≤ 600001) : gp_sz u ≤ 600001 := by omega
theorem cf_u2 {t u : gH} {c : Nat} (e : gp_us u = gp_us t) (q : gp_us t = c) (hc : c ≤ 7302250) : gp_us u ≤ 7302250 := by omega
set_option maxRecDepth 1000000 in
theorem ff_I_1_2 (L : Nat) (xs : Nat → Int32) : gp_I (cH263 L xs) 1 2 = 0 := rfl
set_option maxRecDepth 1000000 in
theorem ff_I_1_6 (L : Nat) (xs : Nat → Int32) : gp_I (cH263 L xs) 1 6 = 0 := rfl
set_option maxRecDepth 1000000 in
theorem ff_I_1_7 (L : Nat) (xs : Nat → Int32) : gp_I (cH263 L xs) 1 7 = 1 := rfl
set_option maxRecDepth 1000000 in
theorem ff_I_2_1 (L : Nat) (xs : Nat → Int32) : gp_I (cH263 L xs) 2 1 = 0 := rfl
set_option maxRecDepth 1000000 in
theorem ff_I_2_2 (L : Nat) (xs : Nat → Int32) : gp_I (cH263 L xs) 2 2 = 0 := rfl
set_option maxRecDepth 1000000 in
theorem ff_I_2_3 (L : Nat) (xs : Nat → Int32) : gp_I (cH263 L xs) 2 3 = 0 := rfl
set_option maxRecDepth 1000000 in
theorem ff_I_2_4 (L : Nat) (xs : Nat → Int32) : gp_I (cH263 L xs) 2 4 = 0 := rfl
set_option maxRecDepth 1000000 in
theorem ff_I_2_5 (L : Nat) (xs : Nat → Int32) : gp_I (cH263 L xs) 2 5 = 0 := rfl
set_option maxRecDepth 1000000 in
theorem ff_I_2_6 (L : Nat) (xs : Nat → Int32) : gp_I (cH263 L xs) 2 6 = 0 := rfl
set_option maxRecDepth 1000000 in
theorem ff_I_51_8 (L : Nat) (xs : Nat → Int32) : gp_I (cH263 L xs) 51 8 = 0 := rfl
set_option maxRecDepth 1000000 in
theorem ff_I_57_1 (L : Nat) (xs : Nat → Int32) : gp_I (cH263 L xs) 57 1 = 0 := rfl
set_option maxRecDepth 1000000 in
theorem ff_I_57_3 (L : Nat) (xs : Nat → Int32) : gp_I (cH263 L xs) 57 3 = 0 := rfl
set_option maxRecDepth 1000000 in
theorem ff_I_6_4 (L : Nat) (xs : Nat → Int32) : gp_I (cH263 L xs) 6 4 = 0 := rfl
set_option maxRecDepth 1000000 in
theorem ff_I_60_8 (L : Nat) (xs : Nat → Int32) : gp_I (cH263 L xs) 60 8 = 0 := rfl
set_option maxRecDepth 1000000 in
theorem ff_I_72_0 (L : Nat) (xs : Nat → Int32) : gp_I (cH263 L xs) 72 0 = 0 := rfl
set_option maxRecDepth 1000000 in
theorem ff_I_72_1 (L : Nat) (xs : Nat → Int32) : gp_I (cH263 L xs) 72 1 = 0 := rfl
set_option maxRecDepth 1000000 in
theorem ff_I_72_2 (L : Nat) (xs : Nat → Int32) : gp_I (cH263 L xs) 72 2 = 0 := rfl
set_option maxRecDepth 1000000 in
theorem ff_I_72_3 (L : Nat) (xs : Nat → Int32) : gp_I (cH263 L xs) 72 3 = 0 := rfl
set_option maxRecDepth 1000000 in
theorem ff_I_73_0 (L : Nat) (xs : Nat → Int32) : gp_I (cH263 L xs) 73 0 = 0 := rfl
set_option maxRecDepth 1000000 in
theorem ff_I_73_1 (L : Nat) (xs : Nat → Int32) : gp_I (cH263 L xs) 73 1 = 0 := rfl
set_option maxRecDepth 1000000 in
theorem ff_I_73_2 (L : Nat) (xs : Nat → Int32) : gp_I (cH263 L xs) 73 2 = 0 := rfl
set_option maxRecDepth 1000000 in
theorem ff_I_73_3 (L : Nat) (xs : Nat → Int32) : gp_I (cH263 L xs) 73 3 = 0 := rfl
set_option maxRecDepth 1000000 in
theorem ff_R_25_6 (L : Nat) (xs : Nat → Int32) : gp_R (cH263 L xs) 25 6 = none := rfl
set_option maxRecDepth 1000000 in
theorem ff_R_25_7 (L : Nat) (xs : Nat → Int32) : gp_R (cH263 L xs) 25 7 = none := rfl
set_option maxRecDepth 1000000 in
theorem ff_R_25_8 (L : Nat) (xs : Nat → Int32) : gp_R (cH263 L xs) 25 8 = none := rfl
set_option maxRecDepth 1000000 in
theorem ff_R_25_9 (L : Nat) (xs : Nat → Int32) : gp_R (cH263 L xs) 25 9 = none := rfl
set_option maxRecDepth 1000000 in
theorem ff_R_4_s (L : Nat) (xs : Nat → Int32) : ∀ k, k < 8 → gp_R (cH263 L xs) 4 k = some 25 := by
  intro k hk
  have hc : k = 0 ∨ k = 1 ∨ k = 2 ∨ k = 3 ∨ k = 4 ∨ k = 5 ∨ k = 6 ∨ k = 7 := by omega
  rcases hc with h | h | h | h | h | h | h | h
  · subst h; rfl
  · subst h; rfl
  · subst h; rfl
  · subst h; rfl
  · subst h; rfl
  · subst h; rfl
  · subst h; rfl
  · subst h; rfl
set_option maxRecDepth 1000000 in
theorem ff_R_51_6 (L : Nat) (xs : Nat → Int32) : gp_R (cH263 L xs) 51 6 = some 55 := rfl
set_option maxRecDepth 1000000 in
theorem ff_R_51_7 (L : Nat) (xs : Nat → Int32) : gp_R (cH263 L xs) 51 7 = some 56 := rfl
set_option maxRecDepth 1000000 in
theorem ff_R_52_s (L : Nat) (xs : Nat → Int32) : ∀ k, k < 3 → gp_R (cH263 L xs) 52 k = some 25 := by
  intro k hk
  have hc : k = 0 ∨ k = 1 ∨ k = 2 := by omega
  rcases hc with h | h | h
  · subst h; rfl
  · subst h; rfl
  · subst h; rfl
set_option maxRecDepth 1000000 in
theorem ff_R_60_6 (L : Nat) (xs : Nat → Int32) : gp_R (cH263 L xs) 60 6 = some 64 := rfl
set_option maxRecDepth 1000000 in
theorem ff_R_60_7 (L : Nat) (xs : Nat → Int32) : gp_R (cH263 L xs) 60 7 = some 65 := rfl
set_option maxRecDepth 1000000 in
theorem ff_R_61_s (L : Nat) (xs : Nat → Int32) : ∀ k, k < 3 → gp_R (cH263 L xs) 61 k = some 25 := by
  intro k hk
  have hc : k = 0 ∨ k = 1 ∨ k = 2 := by omega
  rcases hc with h | h | h
  · subst h; rfl
  · subst h; rfl
  · subst h; rfl
set_option maxRecDepth 1000000 in
theorem ff_U_0_0 (L : Nat) (xs : Nat → Int32) : gp_us (cH263 L xs) = 606895 := rfl
set_option maxRecDepth 1000000 in
theorem ff_Z_0_0 (L : Nat) (xs : Nat → Int32) : gp_sz (cH263 L xs) = 117 := rfl
set_option maxRecDepth 1000000 in
theorem ff_I_74_11 (L : Nat) (xs : Nat → Int32) : gp_I (cH263 L xs) 74 11 = 0 := rfl
set_option maxRecDepth 1000000 in
theorem ff_I_74_43 (L : Nat) (xs : Nat → Int32) : gp_I (cH263 L xs) 74 43 = 0 := rfl
set_option maxRecDepth 1000000 in
theorem ff_I_74_57 (L : Nat) (xs : Nat → Int32) : gp_I (cH263 L xs) 74 57 = 0 := rfl
set_option maxRecDepth 1000000 in
theorem ff_I_74_58 (L : Nat) (xs : Nat → Int32) : gp_I (cH263 L xs) 74 58 = 0 := rfl
set_option maxRecDepth 1000000 in
theorem ff_I_74_7 (L : Nat) (xs : Nat → Int32) : gp_I (cH263 L xs) 74 7 = 1 := rfl
set_option maxRecDepth 1000000 in
theorem ff_I_74_9 (L : Nat) (xs : Nat → Int32) : gp_I (cH263 L xs) 74 9 = 0 := rfl
set_option maxRecDepth 1000000 in
theorem ff_I_75_1 (L : Nat) (xs : Nat → Int32) : gp_I (cH263 L xs) 75 1 = 0 := rfl
set_option maxRecDepth 1000000 in
theorem ff_I_75_2 (L : Nat) (xs : Nat → Int32) : gp_I (cH263 L xs) 75 2 = 0 := rfl
set_option maxRecDepth 1000000 in
theorem ff_I_75_3 (L : Nat) (xs : Nat → Int32) : gp_I (cH263 L xs) 75 3 = 0 := rfl
set_option maxRecDepth 1000000 in
theorem ff_I_75_4 (L : Nat) (xs : Nat → Int32) : gp_I (cH263 L xs) 75 4 = 0 := rfl
set_option maxRecDepth 1000000 in
theorem ff_I_75_5 (L : Nat) (xs : Nat → Int32) : gp_I (cH263 L xs) 75 5 = 0 := rfl
set_option maxRecDepth 1000000 in
theorem ff_I_75_6 (L : Nat) (xs : Nat → Int32) : gp_I (cH263 L xs) 75 6 = 0 := rfl
set_option maxRecDepth 1000000 in
theorem ff_I_81_20 (L : Nat) (xs : Nat → Int32) : gp_I (cH263 L xs) 81 20 = 0 := rfl
set_option maxRecDepth 1000000 in
theorem ff_I_84_0 (L : Nat) (xs : Nat → Int32) : gp_I (cH263 L xs) 84 0 = 0 := rfl
set_option maxRecDepth 1000000 in
theorem ff_I_84_1 (L : Nat) (xs : Nat → Int32) : gp_I (cH263 L xs) 84 1 = 0 := rfl
set_option maxRecDepth 1000000 in
theorem ff_I_84_2 (L : Nat) (xs : Nat → Int32) : gp_I (cH263 L xs) 84 2 = 0 := rfl
set_option maxRecDepth 1000000 in
theorem ff_I_84_3 (L : Nat) (xs : Nat → Int32) : gp_I (cH263 L xs) 84 3 = 0 := rfl
set_option maxRecDepth 1000000 in
theorem ff_I_85_0 (L : Nat) (xs : Nat → Int32) : gp_I (cH263 L xs) 85 0 = 0 := rfl
set_option maxRecDepth 1000000 in
theorem ff_I_85_1 (L : Nat) (xs : Nat → Int32) : gp_I (cH263 L xs) 85 1 = 0 := rfl
set_option maxRecDepth 1000000 in
theorem ff_I_85_2 (L : Nat) (xs : Nat → Int32) : gp_I (cH263 L xs) 85 2 = 0 := rfl
set_option maxRecDepth 1000000 in
theorem ff_I_85_3 (L : Nat) (xs : Nat → Int32) : gp_I (cH263 L xs) 85 3 = 0 := rfl
