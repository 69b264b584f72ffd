/-! the order of games that are being made: a total order out of one on lesser nodes -/
def cntp (p : Nat → Bool) : Nat → Nat
  | 0 => 0
  | n + 1 => cntp p n + (if p n = true then 1 else 0)
theorem cntp_le (p : Nat → Bool) : ∀ n, cntp p n ≤ n
  | 0 => Nat.le_refl _
  | n + 1 => by have := cntp_le p n; unfold cntp; split <;> omega
theorem cntp_mono {p q : Nat → Bool} : ∀ {n : Nat}, (∀ y, y < n → p y = true → q y = true) → cntp p n ≤ cntp q n
  | 0, _ => Nat.le_refl _
  | n + 1, h => by
    have ih := cntp_mono (n := n) (fun y hy => h y (by omega))
    have := h n (by omega)
    unfold cntp
    by_cases hp : p n = true
    · rw [if_pos hp, if_pos (this hp)]; omega
    · rw [if_neg hp]; split <;> omega
theorem cntp_lt {p q : Nat → Bool} : ∀ {n x : Nat}, x < n → (∀ y, y < n → p y = true → q y = true) → p x = false → q x = true → cntp p n < cntp q n
  | 0, x, hx, _, _, _ => absurd hx (Nat.not_lt_zero _)
  | n + 1, x, hx, h, h1, h2 => by
    have hn := h n (by omega)
    by_cases e : x = n
    · subst e
      have ih := cntp_mono (n := x) (p := p) (q := q) (fun y hy => h y (by omega))
      unfold cntp
      rw [h1, if_pos h2]
      simp
      omega
    · have ih := cntp_lt (n := n) (x := x) (by omega) (fun y hy => h y (by omega)) h1 h2
      unfold cntp
      by_cases hp : p n = true
      · rw [if_pos hp, if_pos (hn hp)]; omega
      · rw [if_neg hp]; split <;> omega
theorem cntp_congr {p q : Nat → Bool} {n : Nat} (h : ∀ y, y < n → p y = q y) : cntp p n = cntp q n :=
  Nat.le_antisymm (cntp_mono (fun y hy e => by rw [← h y hy]; exact e)) (cntp_mono (fun y hy e => by rw [h y hy]; exact e))
theorem cnt_cntp (A : BitVec 64) : ∀ n, gm_cnt A n = cntp (fun y => A.getLsbD y) n
  | 0 => rfl
  | n + 1 => by unfold gm_cnt cntp; rw [cnt_cntp A n]
/-- a total order of the numbers below n -/
def TO (o : Nat → Nat → Int) (n : Nat) : Prop := ∀ f e, f < n → e < n → (-1 ≤ o f e ∧ o f e ≤ 1) ∧ (o f e = 0 ↔ f = e) ∧ o e f = - o f e ∧ ∀ g, g < n → o f e < 0 → o e g < 0 → o f g < 0
/-- how many of a set, below k, stand ahead of x -/
def rkb (o : Nat → Nat → Int) (A : BitVec 64) (k x : Nat) : Nat := cntp (fun y => A.getLsbD y && decide (o y x < 0)) k
theorem rkb_lt {o : Nat → Nat → Int} {n : Nat} (h : TO o n) {A : BitVec 64} (hA : bd A n) {k x w : Nat} (hx : x < k) (xA : A.getLsbD x = true) (hw : w < n) (c : o x w < 0) : rkb o A k x < rkb o A k w := by
  have xn : x < n := by have := hA x xA; omega
  unfold rkb
  refine cntp_lt hx (fun y hy q => ?_) ?_ ?_
  · rw [Bool.and_eq_true, decide_eq_true_eq] at q ⊢
    have yn : y < n := by have := hA y q.1; omega
    exact ⟨q.1, (h y x yn xn).2.2.2 w hw q.2 c⟩
  · rw [(h x x xn xn).2.1.mpr rfl]; simp
  · rw [xA]; simp; exact c
theorem rkb_le {o : Nat → Nat → Int} {n : Nat} (h : TO o n) {A : BitVec 64} (hA : bd A n) {k x w : Nat} (xn : x < n) (hw : w < n) (c : o w x < 0) : rkb o A k w ≤ rkb o A k x := by
  unfold rkb
  refine cntp_mono (fun y hy q => ?_)
  rw [Bool.and_eq_true, decide_eq_true_eq] at q ⊢
  have yn : y < n := by have := hA y q.1; omega
  exact ⟨q.1, (h y w yn hw).2.2.2 x xn q.2 c⟩
theorem rkb_s (o : Nat → Nat → Int) (A : BitVec 64) (k x : Nat) : rkb o A (k + 1) x = rkb o A k x + (if A.getLsbD k = true ∧ o k x < 0 then 1 else 0) := by
  show cntp _ k + _ = _
  unfold rkb
  congr 1
  by_cases h1 : A.getLsbD k = true
  · by_cases h2 : o k x < 0
    · simp [h1, h2]
    · simp [h1, h2]
  · simp [h1]
theorem rkb_ex {o : Nat → Nat → Int} {n : Nat} (h : TO o n) {A : BitVec 64} (hA : bd A n) : ∀ k i, i < gm_cnt A k → ∃ x, x < k ∧ A.getLsbD x = true ∧ rkb o A k x = i
  | 0, i, hi => absurd hi (Nat.not_lt_zero _)
  | k + 1, i, hi => by
    by_cases kA : A.getLsbD k = true
    · have kn : k < n := by have := hA k kA; omega
      rw [gm_cnt_s kA] at hi
      have kk : o k k = 0 := (h k k kn kn).2.1.mpr rfl
      have ek : rkb o A (k + 1) k = rkb o A k k := by rw [rkb_s, kk]; simp
      rcases Nat.lt_trichotomy i (rkb o A k k) with q | q | q
      · have lt : rkb o A k k ≤ gm_cnt A k := by
          rw [cnt_cntp]; unfold rkb
          exact cntp_mono (fun y _ hq => by rw [Bool.and_eq_true] at hq; exact hq.1)
        obtain ⟨x, h1, h2, h3⟩ := rkb_ex h hA k i (by omega)
        have xn : x < n := by have := hA x h2; omega
        refine ⟨x, by omega, h2, ?_⟩
        rw [rkb_s, if_neg]
        · omega
        · intro c
          have := rkb_le h hA (k := k) xn kn c.2
          omega
      · exact ⟨k, by omega, kA, by omega⟩
      · obtain ⟨x, h1, h2, h3⟩ := rkb_ex h hA k (i - 1) (by omega)
        have xn : x < n := by have := hA x h2; omega
        refine ⟨x, by omega, h2, ?_⟩
        rw [rkb_s, if_pos]
        · omega
        · refine ⟨kA, ?_⟩
          have a := h x k xn kn
          apply Classical.byContradiction
          intro c
          have nz : o x k ≠ 0 := fun z => by have := a.2.1.mp z; omega
          have := rkb_lt h hA h1 h2 kn (by omega)
          omega
    · have kA' : A.getLsbD k = false := by simpa using kA
      rw [gm_cnt_z kA'] at hi
      obtain ⟨x, h1, h2, h3⟩ := rkb_ex h hA k i hi
      refine ⟨x, by omega, h2, ?_⟩
      rw [rkb_s, if_neg (fun c => kA c.1)]; exact h3
theorem rkb_inj {o : Nat → Nat → Int} {n : Nat} (h : TO o n) {A : BitVec 64} (hA : bd A n) {x w : Nat} (xA : A.getLsbD x = true) (wA : A.getLsbD w = true) (e : rkb o A 64 x = rkb o A 64 w) : x = w := by
  have xn : x < n := by have := hA x xA; omega
  have wn : w < n := by have := hA w wA; omega
  have x6 := BitVec.lt_of_getLsbD xA
  have w6 := BitVec.lt_of_getLsbD wA
  have a := h x w xn wn
  rcases (by omega : o x w < 0 ∨ o x w = 0 ∨ o w x < 0) with q | q | q
  · have := rkb_lt h hA x6 xA wn q; omega
  · exact a.2.1.mp q
  · have := rkb_lt h hA w6 wA xn q; omega
/-- the member number i of a set in the order -/
def isop (o : Nat → Nat → Int) (A : BitVec 64) (i x : Nat) : Prop := A.getLsbD x = true ∧ rkb o A 64 x = i
theorem isop_ex {o : Nat → Nat → Int} {n : Nat} (h : TO o n) {A : BitVec 64} (hA : bd A n) {i : Nat} (hi : i < gm_cnt A 64) : ∃ x, isop o A i x := by
  obtain ⟨x, _, h2, h3⟩ := rkb_ex h hA 64 i hi
  exact ⟨x, h2, h3⟩
theorem isop_un {o : Nat → Nat → Int} {n : Nat} (h : TO o n) {A : BitVec 64} (hA : bd A n) {i x w : Nat} (h1 : isop o A i x) (h2 : isop o A i w) : x = w := rkb_inj h hA h1.1 h2.1 (h1.2.trans h2.2.symm)
