/-! the heap that the constructors leave, in the world of any state -/
set_option maxRecDepth 1000000 in
theorem cf_81 (L : Nat) (xs : Nat → Int32) (k : Nat) : (0 ≤ gp_I (cH263 L xs) 81 k ∧ gp_I (cH263 L xs) 81 k ≤ 1) ∧ (k < 8 → gp_I (cH263 L xs) 81 k = 1) := by
  by_cases h : k < 8
  · have hc : k = 0 ∨ k = 1 ∨ k = 2 ∨ k = 3 ∨ k = 4 ∨ k = 5 ∨ k = 6 ∨ k = 7 := by omega
    have e : gp_I (cH263 L xs) 81 k = 1 := by
      rcases hc with h | h | h | h | h | h | h | h
      · subst h; rfl
      · subst h; rfl
      · subst h; rfl
      · subst h; rfl
      · subst h; rfl
      · subst h; rfl
      · subst h; rfl
      · subst h; rfl
    omega
  · obtain ⟨j, rfl⟩ : ∃ j, k = j + 8 := ⟨k - 8, by omega⟩
    have e : gp_I (cH263 L xs) 81 (j + 8) = 0 := rfl
    omega
theorem ss9 : ∀ a, a < 117 → (gp_ss a).1 = 9 → a = 7 ∨ a = 25 := by decide +kernel
theorem cs_9 {L : Nat} {xs : Nat → Int32} {a : Nat} (ha : (gp_sh (gp_mk L (cH263 L xs)) a).1 = 9) : a = 7 ∨ a = 25 := by
  by_cases h0 : a = 0
  · subst h0; exact absurd (show (105 : Nat) = 9 from ha) (by decide)
  · by_cases h1 : a < 117
    · refine ss9 a h1 ?_
      have h2 : (cond (Nat.beq a 0) (105, L) (cond (Nat.blt a 117) (gp_ss a) ((cH263 L xs).2.2.1 a))).1 = 9 := ha
      have q0 : Nat.beq a 0 = false := by
        cases z : Nat.beq a 0 with
        | false => rfl
        | true => exact absurd (Nat.eq_of_beq_eq_true z) h0
      have q1 : Nat.blt a 117 = true := Nat.blt_eq.mpr h1
      rw [q0, q1] at h2
      exact h2
    · obtain ⟨j, rfl⟩ : ∃ j, a = j + 117 := ⟨a - 117, by omega⟩
      rw [cf_sh, cs_big] at ha
      exact absurd ha (by decide)

set_option maxRecDepth 1000000 in
theorem cf_gjx (L : Nat) (xs : Nat → Int32) : gJx xP xQ (cH263 L xs) := by
  intro a k h1
  have hc : a = 0 ∨ a = 1 ∨ a = 2 ∨ a = 3 ∨ a = 4 ∨ a = 5 ∨ a = 6 ∨ a = 7 ∨ a = 8 ∨ a = 9 ∨ a = 10 ∨ a = 11 ∨ a = 12 ∨ a = 13 ∨ a = 14 ∨ a = 15 ∨ a = 16 ∨ a = 17 ∨ a = 18 ∨ a = 19 ∨ a = 20 ∨ a = 21 ∨ a = 22 ∨ a = 23 ∨ a = 24 ∨ a = 25 ∨ a = 26 ∨ a = 27 ∨ a = 28 ∨ a = 29 ∨ a = 30 ∨ a = 31 ∨ a = 32 ∨ a = 33 ∨ a = 34 ∨ a = 35 ∨ a = 36 ∨ a = 37 ∨ a = 38 ∨ a = 39 ∨ a = 40 ∨ a = 41 ∨ a = 42 ∨ a = 43 ∨ a = 44 ∨ a = 45 ∨ a = 46 ∨ a = 47 ∨ a = 48 ∨ a = 49 ∨ a = 50 ∨ a = 51 ∨ a = 52 ∨ a = 53 ∨ a = 54 ∨ a = 55 ∨ a = 56 ∨ a = 57 ∨ a = 58 ∨ a = 59 ∨ a = 60 ∨ a = 61 ∨ a = 62 ∨ a = 63 ∨ a = 64 ∨ a = 65 ∨ a = 66 ∨ a = 67 ∨ a = 68 ∨ a = 69 ∨ a = 70 ∨ a = 71 ∨ a = 72 ∨ a = 73 := by omega
  rcases hc with h | h | h | h | h | h | h | h | h | h | h | h | h | h | h | h | h | h | h | h | h | h | h | h | h | h | h | h | h | h | h | h | h | h | h | h | h | h | h | h | h | h | h | h | h | h | h | h | h | h | h | h | h | h | h | h | h | h | h | h | h | h | h | h | h | h | h | h | h | h | h | h | h | h
  · subst h; exact ⟨True.intro, True.intro⟩
  · subst h; exact ⟨(by
      show cond (Nat.beq k 2) (0 ≤ gp_I (cH263 L xs) 1 k ∧ gp_I (cH263 L xs) 1 k ≤ 100) (True)
      cases e : Nat.beq k 2 with
      | true => have ek := Nat.eq_of_beq_eq_true e; subst ek; have e0 : gp_I (cH263 L xs) 1 2 = 0 := rfl; show 0 ≤ gp_I (cH263 L xs) 1 2 ∧ gp_I (cH263 L xs) 1 2 ≤ 100; rw [e0]; decide
      | false =>
        exact True.intro), True.intro⟩
  · subst h; exact ⟨True.intro, True.intro⟩
  · subst h; exact ⟨(by have e : gp_I (cH263 L xs) 3 k = 0 := rfl; show (-128) ≤ gp_I (cH263 L xs) 3 k ∧ gp_I (cH263 L xs) 3 k ≤ 127; rw [e]; decide), True.intro⟩
  · subst h; exact ⟨True.intro, True.intro⟩
  · subst h; exact ⟨True.intro, True.intro⟩
  · subst h; exact ⟨(by
      show cond (Nat.beq k 4) (0 ≤ gp_I (cH263 L xs) 6 k ∧ gp_I (cH263 L xs) 6 k ≤ 60) (True)
      cases e : Nat.beq k 4 with
      | true => have ek := Nat.eq_of_beq_eq_true e; subst ek; have e0 : gp_I (cH263 L xs) 6 4 = 0 := rfl; show 0 ≤ gp_I (cH263 L xs) 6 4 ∧ gp_I (cH263 L xs) 6 4 ≤ 60; rw [e0]; decide
      | false =>
        exact True.intro), True.intro⟩
  · subst h; exact ⟨True.intro, True.intro⟩
  · subst h; exact ⟨True.intro, (by have e : gp_L (cH263 L xs) 8 k = 0#64 := rfl; show bd (gp_L (cH263 L xs) 8 k) (k : Int); rw [e]; exact bd_0 _)⟩
  · subst h; exact ⟨True.intro, (by have e : gp_L (cH263 L xs) 9 k = 0#64 := rfl; show bd (gp_L (cH263 L xs) 9 k) (k : Int); rw [e]; exact bd_0 _)⟩
  · subst h; exact ⟨True.intro, True.intro⟩
  · subst h; exact ⟨True.intro, True.intro⟩
  · subst h; exact ⟨(by have e : gp_I (cH263 L xs) 12 k = 0 := rfl; show 0 ≤ gp_I (cH263 L xs) 12 k ∧ gp_I (cH263 L xs) 12 k ≤ (k : Int); rw [e]; omega), True.intro⟩
  · subst h; exact ⟨(by have e : gp_I (cH263 L xs) 13 k = 0 := rfl; show 0 ≤ gp_I (cH263 L xs) 13 k ∧ gp_I (cH263 L xs) 13 k ≤ 60; rw [e]; decide), True.intro⟩
  · subst h; exact ⟨(by have e : gp_I (cH263 L xs) 14 k = 0 := rfl; show 0 ≤ gp_I (cH263 L xs) 14 k ∧ gp_I (cH263 L xs) 14 k ≤ 60; rw [e]; decide), True.intro⟩
  · subst h; exact ⟨(by have e : gp_I (cH263 L xs) 15 k = 0 := rfl; show (-1) ≤ gp_I (cH263 L xs) 15 k ∧ gp_I (cH263 L xs) 15 k ≤ 60; rw [e]; decide), True.intro⟩
  · subst h; exact ⟨True.intro, True.intro⟩
  · subst h; exact ⟨True.intro, True.intro⟩
  · subst h; exact ⟨True.intro, True.intro⟩
  · subst h; exact ⟨True.intro, True.intro⟩
  · subst h; exact ⟨True.intro, True.intro⟩
  · subst h; exact ⟨(by have e : gp_I (cH263 L xs) 21 k = 0 := rfl; show (-1) ≤ gp_I (cH263 L xs) 21 k ∧ gp_I (cH263 L xs) 21 k ≤ 60; rw [e]; decide), True.intro⟩
  · subst h; exact ⟨(by have e : gp_I (cH263 L xs) 22 k = 0 := rfl; show 0 ≤ gp_I (cH263 L xs) 22 k ∧ gp_I (cH263 L xs) 22 k ≤ 59; rw [e]; decide), True.intro⟩
  · subst h; exact ⟨True.intro, True.intro⟩
  · subst h; exact ⟨True.intro, True.intro⟩
  · subst h; exact ⟨True.intro, True.intro⟩
  · subst h; exact ⟨True.intro, True.intro⟩
  · subst h; exact ⟨True.intro, True.intro⟩
  · subst h; exact ⟨True.intro, True.intro⟩
  · subst h; exact ⟨True.intro, True.intro⟩
  · subst h; exact ⟨True.intro, True.intro⟩
  · subst h; exact ⟨True.intro, True.intro⟩
  · subst h; exact ⟨True.intro, True.intro⟩
  · subst h; exact ⟨True.intro, True.intro⟩
  · subst h; exact ⟨True.intro, True.intro⟩
  · subst h; exact ⟨True.intro, True.intro⟩
  · subst h; exact ⟨True.intro, True.intro⟩
  · subst h; exact ⟨True.intro, True.intro⟩
  · subst h; exact ⟨True.intro, True.intro⟩
  · subst h; exact ⟨True.intro, True.intro⟩
  · subst h; exact ⟨True.intro, True.intro⟩
  · subst h; exact ⟨True.intro, True.intro⟩
  · subst h; exact ⟨True.intro, True.intro⟩
  · subst h; exact ⟨True.intro, True.intro⟩
  · subst h; exact ⟨True.intro, True.intro⟩
  · subst h; exact ⟨(by have e : gp_I (cH263 L xs) 45 k = 0 := rfl; show (-1) ≤ gp_I (cH263 L xs) 45 k ∧ gp_I (cH263 L xs) 45 k ≤ 60; rw [e]; decide), True.intro⟩
  · subst h; exact ⟨(by
      show cond (Nat.beq k 3) (0 ≤ gp_I (cH263 L xs) 46 k ∧ gp_I (cH263 L xs) 46 k ≤ 100) (cond (Nat.beq k 5) (0 ≤ gp_I (cH263 L xs) 46 k ∧ gp_I (cH263 L xs) 46 k ≤ 100) (cond (Nat.beq k 6) (0 ≤ gp_I (cH263 L xs) 46 k ∧ gp_I (cH263 L xs) 46 k ≤ 100) (cond (Nat.beq k 7) ((-1) ≤ gp_I (cH263 L xs) 46 k ∧ gp_I (cH263 L xs) 46 k ≤ 100) (cond (Nat.beq k 8) (0 ≤ gp_I (cH263 L xs) 46 k ∧ gp_I (cH263 L xs) 46 k ≤ 6) (True)))))
      cases e : Nat.beq k 3 with
      | true => have ek := Nat.eq_of_beq_eq_true e; subst ek; have e0 : gp_I (cH263 L xs) 46 3 = 0 := rfl; show 0 ≤ gp_I (cH263 L xs) 46 3 ∧ gp_I (cH263 L xs) 46 3 ≤ 100; rw [e0]; decide
      | false =>
        cases e : Nat.beq k 5 with
        | true => have ek := Nat.eq_of_beq_eq_true e; subst ek; have e0 : gp_I (cH263 L xs) 46 5 = 0 := rfl; show 0 ≤ gp_I (cH263 L xs) 46 5 ∧ gp_I (cH263 L xs) 46 5 ≤ 100; rw [e0]; decide
        | false =>
          cases e : Nat.beq k 6 with
          | true => have ek := Nat.eq_of_beq_eq_true e; subst ek; have e0 : gp_I (cH263 L xs) 46 6 = 0 := rfl; show 0 ≤ gp_I (cH263 L xs) 46 6 ∧ gp_I (cH263 L xs) 46 6 ≤ 100; rw [e0]; decide
          | false =>
            cases e : Nat.beq k 7 with
            | true => have ek := Nat.eq_of_beq_eq_true e; subst ek; have e0 : gp_I (cH263 L xs) 46 7 = 0 := rfl; show -1 ≤ gp_I (cH263 L xs) 46 7 ∧ gp_I (cH263 L xs) 46 7 ≤ 100; rw [e0]; decide
            | false =>
              cases e : Nat.beq k 8 with
              | true => have ek := Nat.eq_of_beq_eq_true e; subst ek; have e0 : gp_I (cH263 L xs) 46 8 = 0 := rfl; show 0 ≤ gp_I (cH263 L xs) 46 8 ∧ gp_I (cH263 L xs) 46 8 ≤ 6; rw [e0]; decide
              | false =>
                exact True.intro), True.intro⟩
  · subst h; exact ⟨True.intro, True.intro⟩
  · subst h; exact ⟨(by
      show cond (Nat.beq k 2) (0 ≤ gp_I (cH263 L xs) 48 k ∧ gp_I (cH263 L xs) 48 k ≤ 8) (True)
      cases e : Nat.beq k 2 with
      | true => have ek := Nat.eq_of_beq_eq_true e; subst ek; have e0 : gp_I (cH263 L xs) 48 2 = 0 := rfl; show 0 ≤ gp_I (cH263 L xs) 48 2 ∧ gp_I (cH263 L xs) 48 2 ≤ 8; rw [e0]; decide
      | false =>
        exact True.intro), True.intro⟩
  · subst h; exact ⟨(by have e : gp_I (cH263 L xs) 49 k = 0 := rfl; show (-2) ≤ gp_I (cH263 L xs) 49 k ∧ gp_I (cH263 L xs) 49 k ≤ 9; rw [e]; decide), True.intro⟩
  · subst h; exact ⟨(by have e : gp_I (cH263 L xs) 50 k = 0 := rfl; show (-1) ≤ gp_I (cH263 L xs) 50 k ∧ gp_I (cH263 L xs) 50 k ≤ 59; rw [e]; decide), True.intro⟩
  · subst h; exact ⟨(by
      show cond (Nat.beq k 4) (0 ≤ gp_I (cH263 L xs) 51 k ∧ gp_I (cH263 L xs) 51 k ≤ 3) (cond (Nat.beq k 8) (0 ≤ gp_I (cH263 L xs) 51 k ∧ gp_I (cH263 L xs) 51 k ≤ 1) (True))
      cases e : Nat.beq k 4 with
      | true => have ek := Nat.eq_of_beq_eq_true e; subst ek; have e0 : gp_I (cH263 L xs) 51 4 = 0 := rfl; show 0 ≤ gp_I (cH263 L xs) 51 4 ∧ gp_I (cH263 L xs) 51 4 ≤ 3; rw [e0]; decide
      | false =>
        cases e : Nat.beq k 8 with
        | true => have ek := Nat.eq_of_beq_eq_true e; subst ek; have e0 : gp_I (cH263 L xs) 51 8 = 0 := rfl; show 0 ≤ gp_I (cH263 L xs) 51 8 ∧ gp_I (cH263 L xs) 51 8 ≤ 1; rw [e0]; decide
        | false =>
          exact True.intro), True.intro⟩
  · subst h; exact ⟨True.intro, True.intro⟩
  · subst h; exact ⟨(by have e : gp_I (cH263 L xs) 53 k = 0 := rfl; show 0 ≤ gp_I (cH263 L xs) 53 k ∧ gp_I (cH263 L xs) 53 k ≤ 59; rw [e]; decide), True.intro⟩
  · subst h; exact ⟨(by have e : gp_I (cH263 L xs) 54 k = 0 := rfl; show 0 ≤ gp_I (cH263 L xs) 54 k ∧ gp_I (cH263 L xs) 54 k ≤ 7; rw [e]; decide), True.intro⟩
  · subst h; exact ⟨True.intro, True.intro⟩
  · subst h; exact ⟨True.intro, True.intro⟩
  · subst h; exact ⟨(by
      show cond (Nat.beq k 1) (0 ≤ gp_I (cH263 L xs) 57 k ∧ gp_I (cH263 L xs) 57 k ≤ 1) (cond (Nat.beq k 2) (0 ≤ gp_I (cH263 L xs) 57 k ∧ gp_I (cH263 L xs) 57 k ≤ 1) (cond (Nat.beq k 3) (0 ≤ gp_I (cH263 L xs) 57 k ∧ gp_I (cH263 L xs) 57 k ≤ 180) (True)))
      cases e : Nat.beq k 1 with
      | true => have ek := Nat.eq_of_beq_eq_true e; subst ek; have e0 : gp_I (cH263 L xs) 57 1 = 0 := rfl; show 0 ≤ gp_I (cH263 L xs) 57 1 ∧ gp_I (cH263 L xs) 57 1 ≤ 1; rw [e0]; decide
      | false =>
        cases e : Nat.beq k 2 with
        | true => have ek := Nat.eq_of_beq_eq_true e; subst ek; have e0 : gp_I (cH263 L xs) 57 2 = 0 := rfl; show 0 ≤ gp_I (cH263 L xs) 57 2 ∧ gp_I (cH263 L xs) 57 2 ≤ 1; rw [e0]; decide
        | false =>
          cases e : Nat.beq k 3 with
          | true => have ek := Nat.eq_of_beq_eq_true e; subst ek; have e0 : gp_I (cH263 L xs) 57 3 = 0 := rfl; show 0 ≤ gp_I (cH263 L xs) 57 3 ∧ gp_I (cH263 L xs) 57 3 ≤ 180; rw [e0]; decide
          | false =>
            exact True.intro), True.intro⟩
  · subst h; exact ⟨(by have e : gp_I (cH263 L xs) 58 k = 0 := rfl; show 0 ≤ gp_I (cH263 L xs) 58 k ∧ gp_I (cH263 L xs) 58 k ≤ 263; rw [e]; decide), True.intro⟩
  · subst h; exact ⟨(by have e : gp_I (cH263 L xs) 59 k = 0 := rfl; show 0 ≤ gp_I (cH263 L xs) 59 k ∧ gp_I (cH263 L xs) 59 k ≤ 59; rw [e]; decide), True.intro⟩
  · subst h; exact ⟨(by
      show cond (Nat.beq k 4) (0 ≤ gp_I (cH263 L xs) 60 k ∧ gp_I (cH263 L xs) 60 k ≤ 3) (cond (Nat.beq k 8) (0 ≤ gp_I (cH263 L xs) 60 k ∧ gp_I (cH263 L xs) 60 k ≤ 1) (True))
      cases e : Nat.beq k 4 with
      | true => have ek := Nat.eq_of_beq_eq_true e; subst ek; have e0 : gp_I (cH263 L xs) 60 4 = 0 := rfl; show 0 ≤ gp_I (cH263 L xs) 60 4 ∧ gp_I (cH263 L xs) 60 4 ≤ 3; rw [e0]; decide
      | false =>
        cases e : Nat.beq k 8 with
        | true => have ek := Nat.eq_of_beq_eq_true e; subst ek; have e0 : gp_I (cH263 L xs) 60 8 = 0 := rfl; show 0 ≤ gp_I (cH263 L xs) 60 8 ∧ gp_I (cH263 L xs) 60 8 ≤ 1; rw [e0]; decide
        | false =>
          exact True.intro), True.intro⟩
  · subst h; exact ⟨True.intro, True.intro⟩
  · subst h; exact ⟨(by have e : gp_I (cH263 L xs) 62 k = 0 := rfl; show 0 ≤ gp_I (cH263 L xs) 62 k ∧ gp_I (cH263 L xs) 62 k ≤ 59; rw [e]; decide), True.intro⟩
  · subst h; exact ⟨(by have e : gp_I (cH263 L xs) 63 k = 0 := rfl; show 0 ≤ gp_I (cH263 L xs) 63 k ∧ gp_I (cH263 L xs) 63 k ≤ 7; rw [e]; decide), True.intro⟩
  · subst h; exact ⟨True.intro, True.intro⟩
  · subst h; exact ⟨True.intro, True.intro⟩
  · subst h; exact ⟨True.intro, True.intro⟩
  · subst h; exact ⟨True.intro, True.intro⟩
  · subst h; exact ⟨True.intro, True.intro⟩
  · subst h; exact ⟨True.intro, True.intro⟩
  · subst h; exact ⟨True.intro, True.intro⟩
  · subst h; exact ⟨True.intro, True.intro⟩
  · subst h; exact ⟨True.intro, True.intro⟩
  · subst h; exact ⟨(by have e : gp_I (cH263 L xs) 73 k = 0 := rfl; show 0 ≤ gp_I (cH263 L xs) 73 k ∧ gp_I (cH263 L xs) 73 k ≤ 20; rw [e]; decide), True.intro⟩
set_option maxRecDepth 1000000 in
theorem cf_mi (L : Nat) (xs : Nat → Int32) : MI (cH263 L xs) := by
  intro a k h1 h2
  have hc : a = 74 ∨ a = 75 ∨ a = 76 ∨ a = 77 ∨ a = 78 ∨ a = 79 ∨ a = 80 ∨ a = 81 ∨ a = 82 ∨ a = 83 ∨ a = 84 ∨ a = 85 ∨ a = 86 ∨ a = 87 ∨ a = 88 ∨ a = 89 ∨ a = 90 ∨ a = 91 ∨ a = 92 ∨ a = 93 ∨ a = 94 ∨ a = 95 ∨ a = 96 ∨ a = 97 ∨ a = 98 ∨ a = 99 ∨ a = 100 ∨ a = 101 ∨ a = 102 ∨ a = 103 ∨ a = 104 ∨ a = 105 ∨ a = 106 ∨ a = 107 ∨ a = 108 ∨ a = 109 ∨ a = 110 ∨ a = 111 ∨ a = 112 ∨ a = 113 ∨ a = 114 ∨ a = 115 ∨ a = 116 := by omega
  rcases hc with h | h | h | h | h | h | h | h | h | h | h | h | h | h | h | h | h | h | h | h | h | h | h | h | h | h | h | h | h | h | h | h | h | h | h | h | h | h | h | h | h | h | h
  · subst h; exact ⟨(by
      show cond (Nat.beq k 11) (0 ≤ gp_I (cH263 L xs) 74 k ∧ gp_I (cH263 L xs) 74 k ≤ 100) (cond (Nat.beq k 15) (0 ≤ gp_I (cH263 L xs) 74 k ∧ gp_I (cH263 L xs) 74 k ≤ 1) (cond (Nat.beq k 38) (0 ≤ gp_I (cH263 L xs) 74 k ∧ gp_I (cH263 L xs) 74 k ≤ 100) (cond (Nat.beq k 39) (0 ≤ gp_I (cH263 L xs) 74 k ∧ gp_I (cH263 L xs) 74 k ≤ 100) (cond (Nat.beq k 40) ((-1) ≤ gp_I (cH263 L xs) 74 k ∧ gp_I (cH263 L xs) 74 k ≤ 100) (cond (Nat.beq k 41) (0 ≤ gp_I (cH263 L xs) 74 k ∧ gp_I (cH263 L xs) 74 k ≤ 8) (cond (Nat.beq k 42) (0 ≤ gp_I (cH263 L xs) 74 k ∧ gp_I (cH263 L xs) 74 k ≤ 63) (cond (Nat.beq k 43) (0 ≤ gp_I (cH263 L xs) 74 k ∧ gp_I (cH263 L xs) 74 k ≤ 6) (cond (Nat.beq k 44) (0 ≤ gp_I (cH263 L xs) 74 k ∧ gp_I (cH263 L xs) 74 k ≤ 1) (cond (Nat.beq k 46) (0 ≤ gp_I (cH263 L xs) 74 k ∧ gp_I (cH263 L xs) 74 k ≤ 8) (cond (Nat.beq k 49) (0 ≤ gp_I (cH263 L xs) 74 k ∧ gp_I (cH263 L xs) 74 k ≤ 3) (cond (Nat.beq k 55) (0 ≤ gp_I (cH263 L xs) 74 k ∧ gp_I (cH263 L xs) 74 k ≤ 3) (cond (Nat.beq k 56) (0 ≤ gp_I (cH263 L xs) 74 k ∧ gp_I (cH263 L xs) 74 k ≤ 1) (cond (Nat.beq k 57) (0 ≤ gp_I (cH263 L xs) 74 k ∧ gp_I (cH263 L xs) 74 k ≤ 200) (cond (Nat.beq k 58) (0 ≤ gp_I (cH263 L xs) 74 k ∧ gp_I (cH263 L xs) 74 k ≤ 1) (True)))))))))))))))
      cases e : Nat.beq k 11 with
      | true => have ek := Nat.eq_of_beq_eq_true e; subst ek; have e0 : gp_I (cH263 L xs) 74 11 = 0 := rfl; show 0 ≤ gp_I (cH263 L xs) 74 11 ∧ gp_I (cH263 L xs) 74 11 ≤ 100; rw [e0]; decide
      | false =>
        cases e : Nat.beq k 15 with
        | true => have ek := Nat.eq_of_beq_eq_true e; subst ek; have e0 : gp_I (cH263 L xs) 74 15 = 0 := rfl; show 0 ≤ gp_I (cH263 L xs) 74 15 ∧ gp_I (cH263 L xs) 74 15 ≤ 1; rw [e0]; decide
        | false =>
          cases e : Nat.beq k 38 with
          | true => have ek := Nat.eq_of_beq_eq_true e; subst ek; have e0 : gp_I (cH263 L xs) 74 38 = 0 := rfl; show 0 ≤ gp_I (cH263 L xs) 74 38 ∧ gp_I (cH263 L xs) 74 38 ≤ 100; rw [e0]; decide
          | false =>
            cases e : Nat.beq k 39 with
            | true => have ek := Nat.eq_of_beq_eq_true e; subst ek; have e0 : gp_I (cH263 L xs) 74 39 = 0 := rfl; show 0 ≤ gp_I (cH263 L xs) 74 39 ∧ gp_I (cH263 L xs) 74 39 ≤ 100; rw [e0]; decide
            | false =>
              cases e : Nat.beq k 40 with
              | true => have ek := Nat.eq_of_beq_eq_true e; subst ek; have e0 : gp_I (cH263 L xs) 74 40 = 0 := rfl; show -1 ≤ gp_I (cH263 L xs) 74 40 ∧ gp_I (cH263 L xs) 74 40 ≤ 100; rw [e0]; decide
              | false =>
                cases e : Nat.beq k 41 with
                | true => have ek := Nat.eq_of_beq_eq_true e; subst ek; have e0 : gp_I (cH263 L xs) 74 41 = 0 := rfl; show 0 ≤ gp_I (cH263 L xs) 74 41 ∧ gp_I (cH263 L xs) 74 41 ≤ 8; rw [e0]; decide
                | false =>
                  cases e : Nat.beq k 42 with
                  | true => have ek := Nat.eq_of_beq_eq_true e; subst ek; have e0 : gp_I (cH263 L xs) 74 42 = 0 := rfl; show 0 ≤ gp_I (cH263 L xs) 74 42 ∧ gp_I (cH263 L xs) 74 42 ≤ 63; rw [e0]; decide
                  | false =>
                    cases e : Nat.beq k 43 with
                    | true => have ek := Nat.eq_of_beq_eq_true e; subst ek; have e0 : gp_I (cH263 L xs) 74 43 = 0 := rfl; show 0 ≤ gp_I (cH263 L xs) 74 43 ∧ gp_I (cH263 L xs) 74 43 ≤ 6; rw [e0]; decide
                    | false =>
                      cases e : Nat.beq k 44 with
                      | true => have ek := Nat.eq_of_beq_eq_true e; subst ek; have e0 : gp_I (cH263 L xs) 74 44 = 0 := rfl; show 0 ≤ gp_I (cH263 L xs) 74 44 ∧ gp_I (cH263 L xs) 74 44 ≤ 1; rw [e0]; decide
                      | false =>
                        cases e : Nat.beq k 46 with
                        | true => have ek := Nat.eq_of_beq_eq_true e; subst ek; have e0 : gp_I (cH263 L xs) 74 46 = 0 := rfl; show 0 ≤ gp_I (cH263 L xs) 74 46 ∧ gp_I (cH263 L xs) 74 46 ≤ 8; rw [e0]; decide
                        | false =>
                          cases e : Nat.beq k 49 with
                          | true => have ek := Nat.eq_of_beq_eq_true e; subst ek; have e0 : gp_I (cH263 L xs) 74 49 = 0 := rfl; show 0 ≤ gp_I (cH263 L xs) 74 49 ∧ gp_I (cH263 L xs) 74 49 ≤ 3; rw [e0]; decide
                          | false =>
                            cases e : Nat.beq k 55 with
                            | true => have ek := Nat.eq_of_beq_eq_true e; subst ek; have e0 : gp_I (cH263 L xs) 74 55 = 0 := rfl; show 0 ≤ gp_I (cH263 L xs) 74 55 ∧ gp_I (cH263 L xs) 74 55 ≤ 3; rw [e0]; decide
                            | false =>
                              cases e : Nat.beq k 56 with
                              | true => have ek := Nat.eq_of_beq_eq_true e; subst ek; have e0 : gp_I (cH263 L xs) 74 56 = 0 := rfl; show 0 ≤ gp_I (cH263 L xs) 74 56 ∧ gp_I (cH263 L xs) 74 56 ≤ 1; rw [e0]; decide
                              | false =>
                                cases e : Nat.beq k 57 with
                                | true => have ek := Nat.eq_of_beq_eq_true e; subst ek; have e0 : gp_I (cH263 L xs) 74 57 = 0 := rfl; show 0 ≤ gp_I (cH263 L xs) 74 57 ∧ gp_I (cH263 L xs) 74 57 ≤ 200; rw [e0]; decide
                                | false =>
                                  cases e : Nat.beq k 58 with
                                  | true => have ek := Nat.eq_of_beq_eq_true e; subst ek; have e0 : gp_I (cH263 L xs) 74 58 = 0 := rfl; show 0 ≤ gp_I (cH263 L xs) 74 58 ∧ gp_I (cH263 L xs) 74 58 ≤ 1; rw [e0]; decide
                                  | false =>
                                    exact True.intro), True.intro⟩
  · subst h; exact ⟨True.intro, True.intro⟩
  · subst h; exact ⟨True.intro, (by have e : gp_L (cH263 L xs) 76 k = 0#64 := rfl; show bd (gp_L (cH263 L xs) 76 k) ((k % 64 : Nat) : Int); rw [e]; exact bd_0 _)⟩
  · subst h; exact ⟨True.intro, (by have e : gp_L (cH263 L xs) 77 k = 0#64 := rfl; show bd (gp_L (cH263 L xs) 77 k) ((k % 64 : Nat) : Int); rw [e]; exact bd_0 _)⟩
  · subst h; exact ⟨True.intro, True.intro⟩
  · subst h; exact ⟨True.intro, True.intro⟩
  · subst h; exact ⟨(by have e : gp_I (cH263 L xs) 80 k = 0 := rfl; refine ⟨by rw [e]; decide, fun q q2 => by rw [e]; omega⟩), True.intro⟩
  · subst h; exact ⟨(by have e := cf_81 L xs k; refine ⟨by omega, fun q => by have := e.2 q; omega, fun q => by omega⟩), True.intro⟩
  · subst h; exact ⟨(by have e : gp_I (cH263 L xs) 82 k = 0 := rfl; show 0 ≤ gp_I (cH263 L xs) 82 k ∧ gp_I (cH263 L xs) 82 k ≤ 255; rw [e]; decide), True.intro⟩
  · subst h; exact ⟨True.intro, True.intro⟩
  · subst h; exact ⟨True.intro, True.intro⟩
  · subst h; exact ⟨(by have e : gp_I (cH263 L xs) 85 k = 0 := rfl; show 0 ≤ gp_I (cH263 L xs) 85 k ∧ gp_I (cH263 L xs) 85 k ≤ 20; rw [e]; decide), True.intro⟩
  · subst h; exact ⟨(by have e : gp_I (cH263 L xs) 86 k = 0 := rfl; show 0 ≤ gp_I (cH263 L xs) 86 k ∧ gp_I (cH263 L xs) 86 k ≤ 3; rw [e]; decide), True.intro⟩
  · subst h; exact ⟨(by have e : gp_I (cH263 L xs) 87 k = 0 := rfl; show 0 ≤ gp_I (cH263 L xs) 87 k ∧ gp_I (cH263 L xs) 87 k ≤ 63; rw [e]; decide), True.intro⟩
  · subst h; exact ⟨(by have e : gp_I (cH263 L xs) 88 k = 0 := rfl; show 0 ≤ gp_I (cH263 L xs) 88 k ∧ gp_I (cH263 L xs) 88 k ≤ 63; rw [e]; decide), True.intro⟩
  · subst h; exact ⟨(by have e : gp_I (cH263 L xs) 89 k = 0 := rfl; show 0 ≤ gp_I (cH263 L xs) 89 k ∧ gp_I (cH263 L xs) 89 k ≤ 63; rw [e]; decide), True.intro⟩
  · subst h; exact ⟨True.intro, True.intro⟩
  · subst h; exact ⟨True.intro, True.intro⟩
  · subst h; exact ⟨True.intro, True.intro⟩
  · subst h; exact ⟨True.intro, True.intro⟩
  · subst h; exact ⟨True.intro, True.intro⟩
  · subst h; exact ⟨True.intro, True.intro⟩
  · subst h; exact ⟨True.intro, True.intro⟩
  · subst h; exact ⟨True.intro, True.intro⟩
  · subst h; exact ⟨(by have e : gp_I (cH263 L xs) 98 k = 0 := rfl; show 0 ≤ gp_I (cH263 L xs) 98 k ∧ gp_I (cH263 L xs) 98 k ≤ 2; rw [e]; decide), True.intro⟩
  · subst h; exact ⟨(by have e : gp_I (cH263 L xs) 99 k = 0 := rfl; show 0 ≤ gp_I (cH263 L xs) 99 k ∧ gp_I (cH263 L xs) 99 k ≤ 2; rw [e]; decide), True.intro⟩
  · subst h; exact ⟨True.intro, True.intro⟩
  · subst h; exact ⟨True.intro, True.intro⟩
  · subst h; exact ⟨True.intro, True.intro⟩
  · subst h; exact ⟨True.intro, True.intro⟩
  · subst h; exact ⟨(by have e : gp_I (cH263 L xs) 104 k = 0 := rfl; show 0 ≤ gp_I (cH263 L xs) 104 k ∧ gp_I (cH263 L xs) 104 k ≤ 63; rw [e]; decide), True.intro⟩
  · subst h; exact ⟨(by have e : gp_I (cH263 L xs) 105 k = 0 := rfl; show 0 ≤ gp_I (cH263 L xs) 105 k ∧ gp_I (cH263 L xs) 105 k ≤ 64; rw [e]; decide), True.intro⟩
  · subst h; exact ⟨(by have e : gp_I (cH263 L xs) 106 k = 0 := rfl; show 0 ≤ gp_I (cH263 L xs) 106 k ∧ gp_I (cH263 L xs) 106 k ≤ 18; rw [e]; decide), True.intro⟩
  · subst h; exact ⟨(by have e : gp_I (cH263 L xs) 107 k = 0 := rfl; show 0 ≤ gp_I (cH263 L xs) 107 k ∧ gp_I (cH263 L xs) 107 k ≤ 63; rw [e]; decide), True.intro⟩
  · subst h; exact ⟨True.intro, True.intro⟩
  · subst h; exact ⟨True.intro, True.intro⟩
  · subst h; exact ⟨(by have e : gp_I (cH263 L xs) 110 k = 0 := rfl; show 0 ≤ gp_I (cH263 L xs) 110 k ∧ gp_I (cH263 L xs) 110 k ≤ 63; rw [e]; decide), True.intro⟩
  · subst h; exact ⟨(by have e : gp_I (cH263 L xs) 111 k = 0 := rfl; show 0 ≤ gp_I (cH263 L xs) 111 k ∧ gp_I (cH263 L xs) 111 k ≤ 7; rw [e]; decide), True.intro⟩
  · subst h; exact ⟨(by have e : gp_I (cH263 L xs) 112 k = 0 := rfl; show 0 ≤ gp_I (cH263 L xs) 112 k ∧ gp_I (cH263 L xs) 112 k ≤ 63; rw [e]; decide), True.intro⟩
  · subst h; exact ⟨(by have e : gp_I (cH263 L xs) 113 k = 0 := rfl; show 0 ≤ gp_I (cH263 L xs) 113 k ∧ gp_I (cH263 L xs) 113 k ≤ 2; rw [e]; decide), True.intro⟩
  · subst h; exact ⟨True.intro, True.intro⟩
  · subst h; exact ⟨(by have e : gp_I (cH263 L xs) 115 k = 0 := rfl; show 0 ≤ gp_I (cH263 L xs) 115 k ∧ gp_I (cH263 L xs) 115 k ≤ 63; rw [e]; decide), True.intro⟩
  · subst h; exact ⟨True.intro, True.intro⟩
theorem cf_nt {L : Nat} {xs : Nat → Int32} {b : Nat} (h1 : b ≠ 12) (h2 : b ≠ 30) : NT L (cH263 L xs) b := fun a ha e => by
  rcases cs_9 ha with q | q <;> omega
set_option maxRecDepth 1000000 in
theorem cf_t7 (L : Nat) (xs : Nat → Int32) : TT L (cH263 L xs) 7 61 := by
  have z : gp_sz (cH263 L xs) = 117 := rfl
  have bb : ∀ b : Nat, 16 ≤ b → b ≤ 19 → b < (cH263 L xs).1 ∧ NT L (cH263 L xs) b ∧ (b < 117 → 16 ≤ b ∧ b ≤ 19) := fun b b1 b2 => ⟨by show b < 117; omega, cf_nt (by omega) (by omega), fun _ => ⟨b1, b2⟩⟩
  refine ⟨⟨⟨by decide, by show 7 + 5 < 117; decide, fun _ => Or.inl rfl⟩, ⟨by decide, by decide, fun q => absurd rfl q⟩, rfl, ⟨rfl, rfl, rfl, rfl, rfl⟩, ⟨rfl, rfl, rfl, rfl, rfl⟩, fun i => ⟨⟨?_, ?_⟩, ?_⟩⟩, Or.inr ⟨⟨16, rfl, (bb 16 (by decide) (by decide)).1, rfl, (bb 16 (by decide) (by decide)).2⟩, ⟨17, rfl, (bb 17 (by decide) (by decide)).1, rfl, (bb 17 (by decide) (by decide)).2⟩, ⟨18, rfl, (bb 18 (by decide) (by decide)).1, rfl, (bb 18 (by decide) (by decide)).2⟩, ⟨19, rfl, (bb 19 (by decide) (by decide)).1, rfl, (bb 19 (by decide) (by decide)).2⟩⟩⟩
  · have e : gp_L (cH263 L xs) (7 + 1) i = 0#64 := rfl
    rw [e]; exact bd_0 _
  · have e : gp_L (cH263 L xs) (7 + 2) i = 0#64 := rfl
    rw [e]; exact bd_0 _
  · have e : gp_I (cH263 L xs) (7 + 5) i = 0 := rfl
    rw [e]; omega
set_option maxRecDepth 1000000 in
theorem cf_t25 (L : Nat) (xs : Nat → Int32) : TT L (cH263 L xs) 25 1 := by
  refine ⟨⟨⟨by decide, by show 25 + 5 < 117; decide, fun _ => Or.inr rfl⟩, ⟨by decide, by decide, fun _ => by decide⟩, rfl, ⟨rfl, rfl, rfl, rfl, rfl⟩, ⟨rfl, rfl, rfl, rfl, rfl⟩, fun i => ⟨⟨?_, ?_⟩, ?_⟩⟩, Or.inl rfl⟩
  · have e : gp_L (cH263 L xs) (25 + 1) i = 0#64 := rfl
    rw [e]; exact bd_0 _
  · have e : gp_L (cH263 L xs) (25 + 2) i = 0#64 := rfl
    rw [e]; exact bd_0 _
  · have e : gp_I (cH263 L xs) (25 + 5) i = 0 := rfl
    rw [e]; omega
theorem cf_xi (L : Nat) (xs : Nat → Int32) : XI L 0 (cH263 L xs) := ⟨⟨by show 117 ≤ 117; decide, fun a ha _ => by
  rcases cs_9 ha with q | q
  · subst q; exact ⟨61, cf_t7 L xs⟩
  · subst q; exact ⟨1, cf_t25 L xs⟩⟩, cf_gjx L xs⟩
theorem cf_k25 (L : Nat) (xs : Nat → Int32) : kT L (cH263 L xs) 25 1 := kT25 (cf_xi L xs).1.1
set_option maxRecDepth 1000000 in
theorem cf_xs (L : Nat) (xs : Nat → Int32) : XS L (cH263 L xs) ∧ XK L (cH263 L xs) := by
  refine ⟨fun k hk => ⟨25, 1, ?_, cf_k25 L xs, by decide⟩, fun k hk => ⟨25, 1, ?_, cf_k25 L xs, by decide⟩⟩
  all_goals
    have hc : k = 0 ∨ k = 1 ∨ k = 2 ∨ k = 3 ∨ k = 4 ∨ k = 5 ∨ k = 6 ∨ k = 7 := by omega
    rcases hc with h | h | h | h | h | h | h | h <;> subst h <;> rfl
set_option maxRecDepth 1000000 in
theorem cf_sv (L : Nat) (xs : Nat → Int32) : SVP L 52 (cH263 L xs) ∧ SVP L 61 (cH263 L xs) := by
  refine ⟨fun k hk => ⟨25, 1, ?_, cf_k25 L xs, by decide, ?_⟩, fun k hk => ⟨25, 1, ?_, cf_k25 L xs, by decide, ?_⟩⟩
  all_goals
    have hc : k = 0 ∨ k = 1 ∨ k = 2 := by omega
    rcases hc with h | h | h <;> subst h <;> first | rfl | (show (0 : Int) < ((1 : Nat) : Int); decide)
set_option maxRecDepth 1000000 in
theorem cf_svf (L : Nat) (xs : Nat → Int32) : SVF L 52 51 (cH263 L xs) ∧ SVF L 61 60 (cH263 L xs) := by
  have h := cf_sv L xs
  exact ⟨⟨⟨fun b hb => by obtain ⟨a, n, q1, q2, q3⟩ := h.1 b hb; exact ⟨a, n, q1, q2⟩, 55, rfl, by show 55 < 117; decide⟩, Or.inl rfl⟩, ⟨⟨fun b hb => by obtain ⟨a, n, q1, q2, q3⟩ := h.2 b hb; exact ⟨a, n, q1, q2⟩, 64, rfl, by show 64 < 117; decide⟩, Or.inl rfl⟩⟩
set_option maxRecDepth 1000000 in
theorem cf_sva (L : Nat) (xs : Nat → Int32) : SVA L 51 1 (cH263 L xs) ∧ SVA L 60 1 (cH263 L xs) :=
  ⟨⟨55, 56, rfl, rfl, by show 55 < 117; decide, by show 56 < 117; decide, rfl, rfl, cf_nt (by decide) (by decide), cf_nt (by decide) (by decide), fun _ => by omega, fun _ => by omega, by decide, by decide⟩, ⟨64, 65, rfl, rfl, by show 64 < 117; decide, by show 65 < 117; decide, rfl, rfl, cf_nt (by decide) (by decide), cf_nt (by decide) (by decide), fun _ => by omega, fun _ => by omega, by decide, by decide⟩⟩
set_option maxRecDepth 1000000 in
theorem cf_xw (L : Nat) (xs : Nat → Int32) : XW L 1 1 (cH263 L xs) := ⟨cf_xi L xs, (cf_xs L xs).1, (cf_xs L xs).2, (cf_sv L xs).1, (cf_svf L xs).1, (cf_sva L xs).1, (cf_sv L xs).2, (cf_svf L xs).2, (cf_sva L xs).2, MFV_0 (cf_sv L xs).2 rfl⟩
set_option maxRecDepth 1000000 in
theorem cf_mw (L : Nat) (xs : Nat → Int32) : MW (cH263 L xs) := by
  have e1 : gp_I (cH263 L xs) 74 58 = 0 := rfl
  have e2 : gp_I (cH263 L xs) 74 9 = 0 := rfl
  exact ⟨cf_mi L xs, fun h => by rw [e1] at h; exact absurd h (by decide), fun h => absurd e2 h⟩

