theorem lt_tb {n m i : Nat} (hn : n.testBit i = false) (hm : m.testBit i = true) (h : ∀ j, i < j → n.testBit j = m.testBit j) : n < m := by
  have e : n / 2 ^ (i + 1) = m / 2 ^ (i + 1) := by
    apply Nat.eq_of_testBit_eq
    intro j
    rw [Nat.testBit_div_two_pow, Nat.testBit_div_two_pow]
    exact h _ (by omega)
  have a : n % 2 ^ (i + 1) < 2 ^ i := by
    apply Nat.lt_pow_two_of_testBit
    intro k hk
    rw [Nat.testBit_mod_two_pow]
    by_cases c : k = i
    · subst c; simp [hn]
    · have : ¬ k < i + 1 := by omega
      simp [this]
  have b : 2 ^ i ≤ m % 2 ^ (i + 1) := by
    apply Classical.byContradiction
    intro c
    have z := Nat.testBit_lt_two_pow (x := m % 2 ^ (i + 1)) (i := i) (by omega)
    rw [Nat.testBit_mod_two_pow] at z
    simp [hm] at z
  have x := Nat.div_add_mod n (2 ^ (i + 1))
  have y := Nat.div_add_mod m (2 ^ (i + 1))
  rw [e] at x
  omega
theorem lt_turn {A B : BitVec 64} {x : Int} (hx : 0 ≤ x ∧ x < 64) (xA : A.getLsbD x.toNat = true) (hB : bd B x) : ((A &&& ((1#64 <<< (x % 64).toNat) ^^^ BitVec.ofInt 64 (-1))) ||| B).toNat < A.toNat := by
  have key : ∀ j : Nat, j < 64 → ((1#64 <<< (x % 64).toNat) ^^^ BitVec.ofInt 64 (-1)).getLsbD j = !(decide (j = x.toNat)) := by
    intro j hj
    have e : BitVec.ofInt 64 (-1) = BitVec.allOnes 64 := by decide
    rw [e, BitVec.getLsbD_xor, BitVec.getLsbD_shiftLeft, show (x % 64).toNat = x.toNat by omega, BitVec.getLsbD_allOnes]
    by_cases c : j = x.toNat
    · subst c; simp [hj]
    · simp [hj, c]
      omega
  refine lt_tb (i := x.toNat) ?_ ?_ ?_
  · show BitVec.getLsbD _ _ = false
    rw [BitVec.getLsbD_or, BitVec.getLsbD_and, key _ (by omega)]
    cases q : B.getLsbD x.toNat
    · simp
    · have := hB _ q; omega
  · exact xA
  · intro j hj
    show BitVec.getLsbD _ j = BitVec.getLsbD _ j
    by_cases c : j < 64
    · rw [BitVec.getLsbD_or, BitVec.getLsbD_and, key _ c]
      cases q : B.getLsbD j
      · have : j ≠ x.toNat := by omega
        simp [this]
      · have := hB _ q; omega
    · rw [BitVec.getLsbD_of_ge _ _ (by omega), BitVec.getLsbD_of_ge _ _ (by omega)]
theorem lt_drop {A : BitVec 64} {x : Int} (hx : 0 ≤ x ∧ x < 64) (xA : A.getLsbD x.toNat = true) : (A &&& ((1#64 <<< (x % 64).toNat) ^^^ BitVec.ofInt 64 (-1))).toNat < A.toNat := by
  have := lt_turn (B := 0#64) hx xA (bd_0 _)
  rw [BitVec.or_zero] at this
  exact this
theorem MS_lay {s t : gH} {n : Nat} {o : Nat → Nat → Int} {l r : BitVec 64} {a b : Int} (h : MS s n o) (hi : MI s) (hn : n < 64) (hl : LayP s t n l r a b) : MS t n o := by
  refine ⟨h.1, fun f e hf he => ?_, fun f k hf hk => ?_⟩
  · rw [h.2.1 f e hf he]
    have q1 := hl.2 f (by omega)
    have q2 := hl.2 e (by omega)
    unfold ck
    rw [q1.1, q1.2.1, q1.2.2.1, q1.2.2.2.1, q1.2.2.2.2, q2.1, q2.2.1, q2.2.2.1, q2.2.2.2.1, q2.2.2.2.2]
  · have q := hl.2 f (by omega)
    rw [q.1, q.2.1] at hk
    have x := mr76 hi 20 (f : Int) (by omega) (by omega)
    have y := mr77 hi 20 (f : Int) (by omega) (by omega)
    rw [ix20 (by omega), show ((f : Nat) : Int).toNat = f from rfl] at x y
    have kn : k < n := by
      rcases hk with w | w
      · have := x k w; omega
      · have := y k w; omega
    rw [q.2.2.2.2, (hl.2 k (by omega)).2.2.2.2]
    exact h.2.2 f k hf hk
theorem MDi_lay {m g : List Nat} {s t : gH} {x : Int} {l r : BitVec 64} {a b : Int} (h : MDi s) (hi : MI s) (hx : x = gp_I s 81 20) (hl : LayP s t x.toNat l r a b) (hf : gF m g s t) (e1 : m.contains 81 = false) (e2 : m.contains 86 = false) : MDi t := by
  obtain ⟨o, h1, h2⟩ := h
  have e := (hf.2 81 20 e1 (fun h => absurd h (by decide))).1
  have p := mr81 hi 20
  subst hx
  refine ⟨o, ?_, ?_⟩ <;> rw [e]
  · exact MS_lay h1 hi (by omega) hl
  · exact MC_fr h2 hf e2
theorem vm_atLeastM {L d : Nat} {K : Option gV → gH → Prop} {s : gH} (p1 p3 : Int) (hs : MI s) (h_p1 : 0 ≤ p1 ∧ p1 ≤ 63) (h_p3 : 0 ≤ p3 ∧ p3 ≤ 63) (q0 : MDi s) (q1 : p1 ≤ gp_I s 81 20) (q2 : p3 ≤ gp_I s 81 20) (k : ∀ (r : Int), ∀ (t : gH), MI t → gF [86, 98, 99] [] s t → (0 ≤ r ∧ r ≤ 1) → (MDi t) → K (some (gp_i r)) t) : gs_C L (d + 571) 3105 7 [gp_r (some 74), gp_i 20, gp_i p1, gp_i 20, gp_i p3, gp_i 0] s K :=
  AL_m_all 127 _ _ _ _ _ _ (by omega) hs h_p1 h_p3 q0 q1 q2 (by omega) k
theorem vm_atLeast5 {L d : Nat} {K : Option gV → gH → Prop} {s : gH} (p0 p1 p2 p3 p4 : Int) (hs : MI s) (h_p0 : 0 ≤ p0 ∧ p0 ≤ 19) (h_p1 : 0 ≤ p1 ∧ p1 ≤ 63) (h_p2 : 0 ≤ p2 ∧ p2 ≤ 19) (h_p3 : 0 ≤ p3 ∧ p3 ≤ 63) (h_p4 : 0 ≤ p4 ∧ p4 ≤ 1) (k : ∀ (r : Int), ∀ (t : gH), MI t → gF [98, 99] [] s t → (0 ≤ r ∧ r ≤ 1) → K (some (gp_i r)) t) : gs_C L (d + 387) 3105 7 [gp_r (some 74), gp_i p0, gp_i p1, gp_i p2, gp_i p3, gp_i p4] s K :=
  AL_g_all 127 _ _ _ _ _ _ _ _ _ (by omega) hs h_p0 h_p1 h_p2 h_p3 h_p4 (by omega) k
theorem vm_answerLeft5 {L d : Nat} {K : Option gV → gH → Prop} {s : gH} (p0 p1 p2 p3 p4 : Int) (hs : MI s) (h_p0 : 0 ≤ p0 ∧ p0 ≤ 19) (h_p1 : 0 ≤ p1 ∧ p1 ≤ 63) (h_p2 : 0 ≤ p2 ∧ p2 ≤ 19) (h_p3 : 0 ≤ p3 ∧ p3 ≤ 63) (h_p4 : 0 ≤ p4 ∧ p4 ≤ 1) (k : ∀ (r : Int), ∀ (t : gH), MI t → gF [98, 99] [] s t → ((-1) ≤ r ∧ r ≤ 164) → K (some (gp_i r)) t) : gs_C L (d + 388) 3107 11 [gp_r (some 74), gp_i p0, gp_i p1, gp_i p2, gp_i p3, gp_i p4] s K :=
  vm_answerLeft_g 127 (AL_g_all 127) _ _ _ _ _ _ _ _ _ (by omega) hs h_p0 h_p1 h_p2 h_p3 h_p4 (by omega) k
theorem vm_answerRight5 {L d : Nat} {K : Option gV → gH → Prop} {s : gH} (p0 p1 p2 p3 p4 : Int) (hs : MI s) (h_p0 : 0 ≤ p0 ∧ p0 ≤ 19) (h_p1 : 0 ≤ p1 ∧ p1 ≤ 63) (h_p2 : 0 ≤ p2 ∧ p2 ≤ 19) (h_p3 : 0 ≤ p3 ∧ p3 ≤ 63) (h_p4 : 0 ≤ p4 ∧ p4 ≤ 1) (k : ∀ (r : Int), ∀ (t : gH), MI t → gF [98, 99] [] s t → ((-1) ≤ r ∧ r ≤ 164) → K (some (gp_i r)) t) : gs_C L (d + 388) 3108 11 [gp_r (some 74), gp_i p0, gp_i p1, gp_i p2, gp_i p3, gp_i p4] s K :=
  vm_answerRight_g 127 (AL_g_all 127) _ _ _ _ _ _ _ _ _ (by omega) hs h_p0 h_p1 h_p2 h_p3 h_p4 (by omega) k
