/-! ladders: BIG -/
theorem nx0 (a b : Int) : nx 0#64 0#64 a b = (0#64, 0#64, a, b) := by
  unfold nx nrm
  rw [if_pos rfl, if_pos rfl]
theorem bit_sh {k : Nat} (h : k < 64) : (1#64 <<< k : BitVec 64).getLsbD k = true := by
  rw [BitVec.getLsbD_shiftLeft]
  simp [h]
theorem nx1 {x y : Nat} (hx : x < 64) (hy : y < 64) : nx (1#64 <<< x) (1#64 <<< y) 0 0 = (1#64 <<< x, 1#64 <<< y, 0, 0) := by
  unfold nx nrm
  rw [if_neg (sh_ne0 hx), if_neg (sh_ne0 hy)]
def clsd (P : AP) (C : BitVec 64) : Prop := ∀ k i : Nat, k < P.1 → C.getLsbD k = true → (msk P k).getLsbD i = true → C.getLsbD i = true
theorem lad_A (w : Nat → Int) (n : Nat) (C : BitVec 64) : ∀ j, j ≤ 28 → clsd (ladF w n j).1 C → C.getLsbD (ladF w n j).2 = true → ∀ i, i < n → n - 1 - j ≤ i → ∃ k, k < (ladF w n j).1.1 ∧ C.getLsbD k = true ∧ (ladF w n j).1.2 k = (0#64, 0#64, w i, w i)
  | 0, _, _, hC, i, h1, h2 => by
    have a := aadd_ex (P := (0, fun _ => nx 0#64 0#64 0 0)) (nx 0#64 0#64 (w (n - 1)) (w (n - 1)))
    have b := aadd_le (P := (0, fun _ => nx 0#64 0#64 0 0)) (nx 0#64 0#64 (w (n - 1)) (w (n - 1)))
    refine ⟨_, b.2.2, hC, ?_⟩
    rw [show i = n - 1 by omega, ← nx0]
    exact a.2
  | j + 1, hj, hcl, hC, i, h1, h2 => by
    have le := lad_le w n j
    obtain ⟨P, last, hP⟩ : ∃ P last, (P, last) = ladF w n j := ⟨_, _, rfl⟩
    have eP : (ladF w n j).1 = P := by rw [← hP]
    have el : (ladF w n j).2 = last := by rw [← hP]
    have ih := lad_A w n C j (by omega)
    rw [eP, el] at ih le
    have key : ladF w n (j + 1) = aadd (aadd P (nx 0#64 0#64 (w (n - 2 - j)) (w (n - 2 - j)))).1 (nx (1#64 <<< (aadd P (nx 0#64 0#64 (w (n - 2 - j)) (w (n - 2 - j)))).2) (1#64 <<< last) 0 0) := by
      rw [← eP, ← el]; rfl
    rw [key] at hcl hC ⊢
    have a1 := aadd_ex (P := P) (nx 0#64 0#64 (w (n - 2 - j)) (w (n - 2 - j)))
    have b1 := aadd_le (P := P) (nx 0#64 0#64 (w (n - 2 - j)) (w (n - 2 - j)))
    generalize hq : aadd P (nx 0#64 0#64 (w (n - 2 - j)) (w (n - 2 - j))) = q at *
    have a2 := aadd_ex (P := q.1) (nx (1#64 <<< q.2) (1#64 <<< last) 0 0)
    have b2 := aadd_le (P := q.1) (nx (1#64 <<< q.2) (1#64 <<< last) 0 0)
    generalize hr : aadd q.1 (nx (1#64 <<< q.2) (1#64 <<< last) 0 0) = r at *
    have hm : ∀ i, ((1#64 <<< q.2 : BitVec 64).getLsbD i = true ∨ (1#64 <<< last : BitVec 64).getLsbD i = true) → C.getLsbD i = true := fun i hi => by
      refine hcl r.2 i b2.2.2 hC ?_
      unfold msk
      rw [a2.2, nx1 (by omega) (by omega), BitVec.getLsbD_or]
      rcases hi with z | z <;> simp [z]
    by_cases c : i = n - 2 - j
    · refine ⟨q.2, by omega, hm q.2 (Or.inl (bit_sh (by omega))), ?_⟩
      rw [a2.1 q.2 (by omega), a1.2, nx0, c]
    · obtain ⟨k, k1, k2, k3⟩ := ih (fun k i hk hCk hi => by
        refine hcl k i (by omega) hCk ?_
        unfold msk at hi ⊢
        rw [a2.1 k (by omega), a1.1 k hk]; exact hi) (hm last (Or.inr (bit_sh (by omega)))) i h1 (by omega)
      refine ⟨k, by omega, k2, ?_⟩
      rw [a2.1 k (by omega), a1.1 k k1]; exact k3
theorem lad_B (w : Nat → Int) (n : Nat) (hn : 1 ≤ n) : ∀ j, j ≤ 28 → ∀ k, k < (ladF w n j).1.1 → (∃ i, i < n ∧ (ladF w n j).1.2 k = (0#64, 0#64, w i, w i)) ∨ (¬ ((ladF w n j).1.2 k).1 = 0#64 ∧ ¬ ((ladF w n j).1.2 k).2.1 = 0#64 ∧ ((ladF w n j).1.2 k).2.2 = (0, 0))
  | 0, _, k, hk => by
    have a := aadd_ex (P := (0, fun _ => nx 0#64 0#64 0 0)) (nx 0#64 0#64 (w (n - 1)) (w (n - 1)))
    have b := aadd_le (P := (0, fun _ => nx 0#64 0#64 0 0)) (nx 0#64 0#64 (w (n - 1)) (w (n - 1)))
    have hk2 : k < (aadd (0, fun _ => nx 0#64 0#64 0 0) (nx 0#64 0#64 (w (n - 1)) (w (n - 1)))).1.1 := hk
    have b1 : (aadd (0, fun _ => nx 0#64 0#64 0 0) (nx 0#64 0#64 (w (n - 1)) (w (n - 1)))).1.1 ≤ 0 + 1 := b.2.1
    refine Or.inl ⟨n - 1, by omega, ?_⟩
    have e : k = (aadd (0, fun _ => nx 0#64 0#64 0 0) (nx 0#64 0#64 (w (n - 1)) (w (n - 1)))).2 := by have := b.2.2; omega
    rw [← nx0, e]
    exact a.2
  | j + 1, hj, k, hk => by
    have le := lad_le w n j
    obtain ⟨P, last, hP⟩ : ∃ P last, (P, last) = ladF w n j := ⟨_, _, rfl⟩
    have eP : (ladF w n j).1 = P := by rw [← hP]
    have el : (ladF w n j).2 = last := by rw [← hP]
    have ih := lad_B w n hn j (by omega)
    rw [eP] at ih
    rw [eP, el] at le
    have key : ladF w n (j + 1) = aadd (aadd P (nx 0#64 0#64 (w (n - 2 - j)) (w (n - 2 - j)))).1 (nx (1#64 <<< (aadd P (nx 0#64 0#64 (w (n - 2 - j)) (w (n - 2 - j)))).2) (1#64 <<< last) 0 0) := by
      rw [← eP, ← el]; rfl
    rw [key] at hk ⊢
    have a1 := aadd_ex (P := P) (nx 0#64 0#64 (w (n - 2 - j)) (w (n - 2 - j)))
    have b1 := aadd_le (P := P) (nx 0#64 0#64 (w (n - 2 - j)) (w (n - 2 - j)))
    generalize hq : aadd P (nx 0#64 0#64 (w (n - 2 - j)) (w (n - 2 - j))) = q at *
    have a2 := aadd_ex (P := q.1) (nx (1#64 <<< q.2) (1#64 <<< last) 0 0)
    have b2 := aadd_le (P := q.1) (nx (1#64 <<< q.2) (1#64 <<< last) 0 0)
    have hcase : k < q.1.1 ∨ (k = q.1.1 ∧ k = (aadd q.1 (nx (1#64 <<< q.2) (1#64 <<< last) 0 0)).2) := by
      by_cases c : k < q.1.1
      · exact Or.inl c
      · right
        cases z : fnd q.1.2 (nx (1#64 <<< q.2) (1#64 <<< last) 0 0) q.1.1 with
        | some m => rw [aadd_f z] at hk; exact absurd hk c
        | none =>
          rw [aadd_n z] at hk ⊢
          have hk2 : k < q.1.1 + 1 := hk
          exact ⟨by omega, show k = q.1.1 by omega⟩
    generalize hr : aadd q.1 (nx (1#64 <<< q.2) (1#64 <<< last) 0 0) = r at *
    rcases hcase with c | ⟨c, c2⟩
    · rw [a2.1 k c]
      by_cases d : k < P.1
      · rw [a1.1 k d]; exact ih k d
      · left
        refine ⟨n - 2 - j, by omega, ?_⟩
        cases z : fnd P.2 (nx 0#64 0#64 (w (n - 2 - j)) (w (n - 2 - j))) P.1 with
        | some m => rw [aadd_f z] at hq; subst hq; exact absurd c d
        | none =>
          rw [aadd_n z] at hq
          have e : k = q.2 := by
            have q1 : q.1.1 = P.1 + 1 := by rw [← hq]
            have q2 : q.2 = P.1 := by rw [← hq]
            omega
          rw [e, a1.2, nx0]
    · right
      rw [c2, a2.2, nx1 (by omega) (by omega)]
      exact ⟨sh_ne0 (by omega), sh_ne0 (by omega), rfl⟩
theorem clo_closed {m : Nat → BitVec 64} (hb : ∀ k i : Nat, (m k).getLsbD i = true → i < k) : ∀ (n : Nat) (x : BitVec 64), (∀ k i : Nat, n < k → x.getLsbD k = true → (m k).getLsbD i = true → x.getLsbD i = true) → ∀ k i : Nat, (clo m n x).getLsbD k = true → (m k).getLsbD i = true → (clo m n x).getLsbD i = true
  | 0, x, h, k, i, hk, hi => by
    have hx : (clo m 0 x).getLsbD k = true → x.getLsbD k = true ∨ (m 0).getLsbD k = true := fun q => by
      unfold clo at q
      by_cases c : x.getLsbD 0 = true
      · rw [if_pos c, BitVec.getLsbD_or, Bool.or_eq_true] at q; exact q
      · rw [if_neg c] at q; exact Or.inl q
    by_cases c : k = 0
    · subst c; exact absurd (hb 0 i hi) (Nat.not_lt_zero _)
    · rcases hx hk with q | q
      · exact clo_sup 0 x i (h k i (by omega) q hi)
      · exact absurd (hb 0 k q) (Nat.not_lt_zero _)
  | n + 1, x, h, k, i, hk, hi => by
    have e : clo m (n + 1) x = clo m n (if x.getLsbD (n + 1) = true then x ||| m (n + 1) else x) := rfl
    rw [e] at hk ⊢
    refine clo_closed hb n _ (fun k i hk hx hi => ?_) k i hk hi
    by_cases c : x.getLsbD (n + 1) = true
    · rw [if_pos c] at hx ⊢
      rw [BitVec.getLsbD_or, Bool.or_eq_true] at hx ⊢
      by_cases d : k = n + 1
      · rw [d] at hi; exact Or.inr hi
      · rcases hx with q | q
        · exact Or.inl (h k i (by omega) q hi)
        · exact absurd (hb _ _ q) (by omega)
    · rw [if_neg c] at hx ⊢
      by_cases d : k = n + 1
      · rw [d] at hx; exact absurd hx c
      · exact h k i (by omega) hx hi
theorem aadd_new {P : AP} {x : ND} {k : Nat} (hk : k < (aadd P x).1.1) : (k < P.1 ∧ (aadd P x).1.2 k = P.2 k) ∨ (k = P.1 ∧ (aadd P x).1.2 k = x) := by
  by_cases c : k < P.1
  · exact Or.inl ⟨c, (aadd_ex x).1 k c⟩
  · have b := aadd_le (P := P) x
    have e : k = P.1 := by omega
    refine Or.inr ⟨e, ?_⟩
    cases z : fnd P.2 x P.1 with
    | some m => rw [aadd_f z] at hk; exact absurd hk c
    | none =>
      rw [aadd_n z]
      show (if k = P.1 then x else P.2 k) = x
      rw [if_pos e]
theorem lad_M (w : Nat → Int) (n : Nat) : ∀ j, j ≤ 28 → ∀ k i : Nat, k < (ladF w n j).1.1 → (msk (ladF w n j).1 k).getLsbD i = true → i < k
  | 0, _, k, i, hk, hi => by
    have hk2 : k < (aadd (0, fun _ => nx 0#64 0#64 0 0) (nx 0#64 0#64 (w (n - 1)) (w (n - 1)))).1.1 := hk
    have hi2 : ((aadd (0, fun _ => nx 0#64 0#64 0 0) (nx 0#64 0#64 (w (n - 1)) (w (n - 1)))).1.2 k).1 ||| ((aadd (0, fun _ => nx 0#64 0#64 0 0) (nx 0#64 0#64 (w (n - 1)) (w (n - 1)))).1.2 k).2.1 = msk (ladF w n 0).1 k := rfl
    rcases aadd_new hk2 with ⟨c, _⟩ | ⟨_, c⟩
    · exact absurd c (Nat.not_lt_zero _)
    · rw [c, nx0] at hi2
      rw [← hi2] at hi
      simp at hi
  | j + 1, hj, k, i, hk, hi => by
    have le := lad_le w n j
    obtain ⟨P, last, hP⟩ : ∃ P last, (P, last) = ladF w n j := ⟨_, _, rfl⟩
    have eP : (ladF w n j).1 = P := by rw [← hP]
    have el : (ladF w n j).2 = last := by rw [← hP]
    have ih := lad_M w n j (by omega)
    rw [eP] at ih
    rw [eP, el] at le
    have key : ladF w n (j + 1) = aadd (aadd P (nx 0#64 0#64 (w (n - 2 - j)) (w (n - 2 - j)))).1 (nx (1#64 <<< (aadd P (nx 0#64 0#64 (w (n - 2 - j)) (w (n - 2 - j)))).2) (1#64 <<< last) 0 0) := by
      rw [← eP, ← el]; rfl
    rw [key] at hk hi
    have b1 := aadd_le (P := P) (nx 0#64 0#64 (w (n - 2 - j)) (w (n - 2 - j)))
    have n1 := fun k => aadd_new (P := P) (x := nx 0#64 0#64 (w (n - 2 - j)) (w (n - 2 - j))) (k := k)
    generalize hq : aadd P (nx 0#64 0#64 (w (n - 2 - j)) (w (n - 2 - j))) = q at *
    have n2 := aadd_new hk
    generalize hr : aadd q.1 (nx (1#64 <<< q.2) (1#64 <<< last) 0 0) = r at *
    unfold msk at hi
    rcases n2 with ⟨c, c2⟩ | ⟨c, c2⟩
    · rw [c2] at hi
      rcases n1 k c with ⟨d, d2⟩ | ⟨d, d2⟩
      · rw [d2] at hi; exact ih k i d hi
      · rw [d2, nx0] at hi; simp at hi
    · rw [c2, nx1 (by omega) (by omega), BitVec.getLsbD_or, Bool.or_eq_true] at hi
      have one : ∀ x, (1#64 <<< x : BitVec 64).getLsbD i = true → i = x := fun x hx => by
        rw [BitVec.getLsbD_shiftLeft] at hx
        simp at hx
        omega
      rcases hi with z | z
      · have := one _ z; omega
      · have := one _ z; omega
theorem clo_lt {m : Nat → BitVec 64} (hb : ∀ k i : Nat, (m k).getLsbD i = true → i < k) (N : Nat) : ∀ (n : Nat) (x : BitVec 64), (∀ i : Nat, x.getLsbD i = true → i < N) → ∀ i : Nat, (clo m n x).getLsbD i = true → i < N
  | 0, x, h, i, hi => by
    unfold clo at hi
    by_cases c : x.getLsbD 0 = true
    · rw [if_pos c, BitVec.getLsbD_or, Bool.or_eq_true] at hi
      rcases hi with z | z
      · exact h i z
      · exact absurd (hb 0 i z) (Nat.not_lt_zero _)
    · rw [if_neg c] at hi; exact h i hi
  | n + 1, x, h, i, hi => by
    have e : clo m (n + 1) x = clo m n (if x.getLsbD (n + 1) = true then x ||| m (n + 1) else x) := rfl
    rw [e] at hi
    refine clo_lt hb N n _ (fun i hx => ?_) i hi
    by_cases c : x.getLsbD (n + 1) = true
    · rw [if_pos c, BitVec.getLsbD_or, Bool.or_eq_true] at hx
      rcases hx with z | z
      · exact h i z
      · have := hb _ i z; have := h _ c; omega
    · rw [if_neg c] at hx; exact h i hx
theorem BC_lad {s : gH} {w : Nat → Int} {n : Nat} {v : Int} (h : RVm s (ladF w n (n - 1)).1) (hv : v = ((ladF w n (n - 1)).2 : Nat)) (h1 : 1 ≤ n) (h2 : n ≤ 29) : BC s (CLM s v) ↔ BIGW w n := by
  have le := lad_le w n (n - 1)
  have hM := lad_M w n (n - 1) (by omega)
  have hA := lad_A w n
  have hB := lad_B w n h1 (n - 1) (by omega)
  rw [CLM_RV h hv le.2 (by omega)]
  generalize hP : (ladF w n (n - 1)).1 = P at *
  generalize hl : (ladF w n (n - 1)).2 = last at *
  obtain ⟨m, hm⟩ : ∃ m : Nat → BitVec 64, m = fun k => if k < P.1 then msk P k else 0#64 := ⟨_, rfl⟩
  have hm1 : ∀ k, k < P.1 → m k = msk P k := fun k hk => by rw [hm]; exact if_pos hk
  have hb : ∀ k i : Nat, (m k).getLsbD i = true → i < k := fun k i hi => by
    by_cases c : k < P.1
    · rw [hm1 k c] at hi; exact hM k i c hi
    · rw [hm] at hi; simp [c] at hi
  rw [clo_congr last _ (fun k hk => (hm1 k (by omega)).symm)]
  have one : ∀ i : Nat, (1#64 <<< last : BitVec 64).getLsbD i = true → i = last := fun i hx => by
    rw [BitVec.getLsbD_shiftLeft] at hx
    simp at hx
    omega
  have hC0 : (clo m last (1#64 <<< last)).getLsbD last = true := clo_sup _ _ _ (bit_sh (by omega))
  have hCl := clo_closed hb last (1#64 <<< last) (fun k i hk hx _ => by have := one k hx; omega)
  have hCb := clo_lt hb (last + 1) last (1#64 <<< last) (fun i hx => by have := one i hx; omega)
  generalize clo m last (1#64 <<< last) = C at *
  constructor
  · rintro ⟨k, k1, k2⟩
    have kl := hCb k k1
    have e := h.2 k (by omega)
    rcases hB k (by omega) with ⟨i, i1, i2⟩ | ⟨i1, i2, _⟩
    · rw [i2] at e
      injection e with e1 e2
      injection e2 with e2 e3
      injection e3 with e3 e4
      rw [e3, e4] at k2
      refine ⟨i, by omega, ?_⟩
      unfold outr at k2
      omega
    · rw [← e] at i1 i2
      rcases k2 with ⟨z, _⟩ | ⟨z, _⟩
      · exact absurd z i1
      · exact absurd z i2
  · rintro ⟨i, i1, i2⟩
    obtain ⟨k, k1, k2, k3⟩ := hA C (n - 1) (by omega) (fun k i hk hCk hi => by
      rw [hP] at hk hi
      exact hCl k i hCk (by rw [hm1 k hk]; exact hi)) (by rw [hl]; exact hC0) i (by omega) (by omega)
    rw [hP] at k1 k3
    have e := h.2 k k1
    rw [k3] at e
    injection e with e1 e2
    injection e2 with e2 e3
    injection e3 with e3 e4
    refine ⟨k, k2, Or.inl ⟨e1, ?_⟩⟩
    rw [e3]
    unfold outr
    omega
theorem LDM_BC {s : gH} {w : Nat → Int} {n : Nat} {j last : Int} (h : LDM s w n j last) (hj : j.toNat = n - 1) (h1 : 1 ≤ n) (h2 : n ≤ 29) : BC s (CLM s last) ↔ BIGW w n := by
  obtain ⟨c, e⟩ := h
  rw [hj] at c e
  exact BC_lad c e h1 h2
def B32 (x : Int) : Prop := -2147483648 ≤ x ∧ x ≤ 2147483647
def B83 (s : gH) : Prop := ∀ i k : Nat, i < 4 → k < 20 → B32 (mV s i k)
theorem LDM_BNM {s : gH} {w : Nat → Int} {n : Nat} {j last : Int} (h : LDM s w n j last) (hj : j.toNat = n - 1) (h1 : 1 ≤ n) (h2 : n ≤ 29) (hw : ∀ i, i < n → B32 (w i)) : BNM s := by
  obtain ⟨c, e⟩ := h
  rw [hj] at c e
  intro k hk
  have q := c.2 k (by have := c.1; omega)
  have z : B32 0 := by unfold B32; omega
  show B32 (mA s k) ∧ B32 (mB s k)
  rcases lad_B w n h1 (n - 1) (by omega) k (by have := c.1; omega) with ⟨i, i1, i2⟩ | ⟨_, _, i2⟩
  · rw [i2] at q
    injection q with e1 e2
    injection e2 with e2 e3
    injection e3 with e3 e4
    rw [e3, e4]
    exact ⟨hw i i1, hw i i1⟩
  · rw [← q] at i2
    injection i2 with e1 e2
    have f1 : mA s k = 0 := e1
    have f2 : mB s k = 0 := e2
    rw [f1, f2]
    exact ⟨z, z⟩
theorem BIGW_w20 {f : Nat → Int} {n : Int} (hn : n ≤ 20) : BIGW (w20 f) n ↔ BIGW f n := BIGW_eq (fun k hk => w20_i hk) hn
theorem w20_B {s : gH} {i n : Nat} (h : B83 s) (hi : i < 4) (hn : n ≤ 20) : ∀ k, k < n → B32 (w20 (mV s i) k) := fun k hk => by
  rw [w20_i (by omega)]; exact h i k hi (by omega)
theorem BIGW_eqn {w : Nat → Int} {n m : Int} (h : n = m) : BIGW w n ↔ BIGW w m := by rw [h]
/-! sheets hold numbers of a row's width -/
def BXV (s : gH) : Prop := ∀ i k : Nat, i < 4 → k < 20 → B32 (xV s i k)
theorem nar_B {b v : Int} (h : B32 v) : B32 (nar b v) := by
  unfold nar
  by_cases c : b = 8
  · rw [if_pos c, gz_b]; unfold B32; omega
  · rw [if_neg c]
    by_cases d : b = 16
    · rw [if_pos d, gz_s]; unfold B32; omega
    · rw [if_neg d]; exact h
theorem BXV_X {s t : gH} (h : BXV s) (hX : ∀ a k, a < 74 → gp_I t a k = gp_I s a k) : BXV t := fun i k hi hk => by
  show B32 (gp_I t (68 + i) k)
  rw [hX _ _ (by omega)]
  exact h i k hi hk
theorem BXV_KP {s t : gH} (h : BXV s) (a : KP 72 73 xV s t) : BXV t := fun i k hi hk => by
  rw [a.2 i k hi hk]; exact h i k hi hk
theorem BXV_SHP {s t : gH} (h : BXV s) {p0 p1 p2 r : Int} (a : SHP 72 73 xV s t p0 p1 p2 r) : BXV t := by
  rcases a with ⟨_, _, a⟩ | ⟨_, _, _, a⟩ | ⟨_, _, _, a⟩ | ⟨_, _, _, a⟩
  · exact BXV_KP h a
  · exact BXV_KP h a
  · exact BXV_KP h a
  · intro i k hi hk
    rw [a.2 i k hi hk]
    by_cases c : i = p0.toNat ∧ (k : Int) < 20
    · rw [if_pos c]; unfold B32; omega
    · rw [if_neg c]; exact h i k hi hk
theorem BXV_PTP {s t : gH} (h : BXV s) {p0 p1 p2 r : Int} (hb : B32 p2) (a : PTP 72 73 xV s t p0 p1 p2 r) : BXV t := by
  obtain ⟨no, _, ⟨_, _, a⟩ | ⟨_, _, a⟩⟩ := a
  · exact BXV_KP h a
  · intro i k hi hk
    rw [a.2 i k hi hk]
    by_cases c : i = p0.toNat ∧ k = p1.toNat
    · rw [if_pos c]; exact nar_B hb
    · rw [if_neg c]; exact h i k hi hk
theorem BXV_SFP {s t : gH} (h : BXV s) (hl : ∀ i : Nat, gp_I s 73 i ≤ 20) {p0 p1 p2 p3 p4 r : Int} (a : SFP 72 73 xV s t p0 p1 p2 p3 p4 r) : BXV t := by
  obtain ⟨no, a1, ⟨_, _, a⟩ | ⟨a0, _, a⟩⟩ := a
  · exact BXV_KP h a
  · intro i k hi hk
    have := hl p0.toNat
    have hp : (0 ≤ p0 ∧ p0 ≤ 3) ∧ 0 ≤ p1 ∧ p1 + p4 ≤ 20 := by unfold SFK at a1; omega
    rw [a.2 i k hi hk]
    by_cases c : i = p2.toNat ∧ p3 ≤ (k : Int) ∧ (k : Int) < p3 + p4
    · rw [if_pos c]; exact h _ _ (by omega) (by omega)
    · rw [if_neg c]; exact h i k hi hk
theorem B83_of {s t : gH} (h : EQV s) (hB : BXV s) (hR : ∀ a k, 74 ≤ a → a < 117 → gp_I t a k = gp_I s a k) : B83 t := fun i k hi hk => by
  show B32 (gp_I t 83 (20 * i + k))
  rw [hR 83 _ (by decide) (by decide)]
  have e := h.2 i k hi hk
  have b := hB i k hi hk
  rw [e] at b
  exact b
theorem LDP_EQ {s t : gH} (h : EQV s) (hR : ∀ a k, 74 ≤ a → a < 117 → gp_I t a k = gp_I s a k) (hl : ∀ i : Nat, gp_I s 73 i ≤ 20) {p0 p1 r r2 : Int} (a : LDP (gp_I s 72 p1.toNat) (gp_I s 73 p1.toNat) (gp_I s (68 + p1.toNat)) p0 p1 r) (c : LDP (gp_I t 84 p1.toNat) (gp_I t 85 p1.toNat) (mV t p1.toNat) p0 p1 r2) : r = r2 := by
  by_cases d : 0 ≤ p1 ∧ p1 ≤ 3
  · have e := h.1 p1.toNat (by omega)
    rw [hR 84 _ (by decide) (by decide), hR 85 _ (by decide) (by decide), ← e.1, ← e.2] at c
    have e2 : mV t p1.toNat = mV s p1.toNat := funext fun k => hR 83 _ (by decide) (by decide)
    rw [e2] at c
    exact LDP_eq (fun k hk => h.2 p1.toNat k (by omega) hk) (hl _) a c
  · unfold LDP at a c
    omega
theorem BXV_NBP {s t : gH} (h : BXV s) {p0 p1 r : Int} (a : NBP 72 73 xV s t p0 p1 r) : BXV t := by
  obtain ⟨_, _, _, a⟩ := a
  exact BXV_KP h a
set_option maxRecDepth 100000 in
/-- GatheredPointsModel.ladder -/
theorem wp_ladder2  {L d : Nat} {K : Option gV → gH → Prop} {s : gH}  (p0 : Int) (p1 : Int) (hs : MI s) (h_p0 : (-2147483648) ≤ p0 ∧ p0 ≤ 2147483647) (h_p1 : (-2147483648) ≤ p1 ∧ p1 ≤ 2147483647) (q0 : B83 s) (k : ∀ (r : Int), ∀ (t : gH), MI t → gF [75, 76, 77, 78, 79, 80, 81, 86, 87, 88] [15] s t → (mK s t) → (LDP (gp_I s 84 p1.toNat) (gp_I s 85 p1.toNat) (mV s p1.toNat) p0 p1 r) → K (some (gp_i r)) t) : gs_C L (d + 186) 3144 9 [gp_r (some 74), gp_i p0, gp_i p1] s K := by
  have f_1 := mr81 hs 19
  have f_2 := mr81 hs 20
  have f_3 := mr74_15 hs
  refine s_3144_e _ _ ?_
  refine vm_isSlot _ (fun x_4 p_5 p_6 p_7 => ⟨_, rfl, ?_⟩)
  refine ⟨fun h_8 => ?_, fun h_8 => ?_⟩
  · refine s_3144_14 _ _ _ _ _ _ _ _ ?_
    refine vm_finds _ hs (by omega) (fun x_9 s_10 hs_11 hf_12 p_13 p_14 => ⟨_, rfl, ?_⟩)
    have hf_15 : gF [75, 76, 77, 78, 79, 80, 81, 86, 87, 88] [15] s s_10 := gF.sub hf_12 rfl rfl
    have mb_16 : mK s s_10 := mK_fr (mK.refl _) hf_12 rfl
    have q_17 := (hf_12.2 81 19 rfl (fun h => absurd h (by decide))).1
    have q_18 := (hf_12.2 81 20 rfl (fun h => absurd h (by decide))).1
    have q_19 := (hf_12.2 74 15 rfl (fun _ => rfl)).1
    exact k _ s_10 hs_11 hf_15 mb_16 (by first | exact Or.inl ⟨by omega, by omega⟩ | exact Or.inr (Or.inl ⟨by omega, by omega, by omega⟩) | exact Or.inr (Or.inr (Or.inl ⟨by omega, by omega, (by rcases hr6 with q | q; exact q.2; omega), by omega⟩)) | exact Or.inr (Or.inr (Or.inr ⟨by omega, by omega, (by rcases hr6 with q | q; omega; exact q.2), by omega⟩)))
  · refine vm_isSheet _ (fun x_20 p_21 p_22 p_23 => ⟨_, rfl, ?_⟩)
    refine ⟨fun h_24 => ?_, fun h_24 => ?_⟩
    · refine s_3144_14 _ _ _ _ _ _ _ _ ?_
      refine vm_finds _ hs (by omega) (fun x_25 s_26 hs_27 hf_28 p_29 p_30 => ⟨_, rfl, ?_⟩)
      have hf_31 : gF [75, 76, 77, 78, 79, 80, 81, 86, 87, 88] [15] s s_26 := gF.sub hf_28 rfl rfl
      have mb_32 : mK s s_26 := mK_fr (mK.refl _) hf_28 rfl
      have q_33 := (hf_28.2 81 19 rfl (fun h => absurd h (by decide))).1
      have q_34 := (hf_28.2 81 20 rfl (fun h => absurd h (by decide))).1
      have q_35 := (hf_28.2 74 15 rfl (fun _ => rfl)).1
      exact k _ s_26 hs_27 hf_31 mb_32 (by first | exact Or.inl ⟨by omega, by omega⟩ | exact Or.inr (Or.inl ⟨by omega, by omega, by omega⟩) | exact Or.inr (Or.inr (Or.inl ⟨by omega, by omega, (by rcases hr6 with q | q; exact q.2; omega), by omega⟩)) | exact Or.inr (Or.inr (Or.inr ⟨by omega, by omega, (by rcases hr6 with q | q; omega; exact q.2), by omega⟩)))
    · refine ⟨by omega, ?_⟩
      have f_36 := mr85 hs (Int.toNat p1)
      refine ⟨by omega, ?_⟩
      refine ⟨fun h_37 => ?_, fun h_37 => ?_⟩
      · refine s_3144_40 _ _ _ _ _ _ _ _ ?_
        refine vm_finds _ hs (by omega) (fun x_38 s_39 hs_40 hf_41 p_42 p_43 => ⟨_, rfl, ?_⟩)
        have hf_44 : gF [75, 76, 77, 78, 79, 80, 81, 86, 87, 88] [15] s s_39 := gF.sub hf_41 rfl rfl
        have mb_45 : mK s s_39 := mK_fr (mK.refl _) hf_41 rfl
        have q_46 := (hf_41.2 81 19 rfl (fun h => absurd h (by decide))).1
        have q_47 := (hf_41.2 81 20 rfl (fun h => absurd h (by decide))).1
        have q_48 := (hf_41.2 74 15 rfl (fun _ => rfl)).1
        exact k _ s_39 hs_40 hf_44 mb_45 (by first | exact Or.inl ⟨by omega, by omega⟩ | exact Or.inr (Or.inl ⟨by omega, by omega, by omega⟩) | exact Or.inr (Or.inr (Or.inl ⟨by omega, by omega, (by rcases hr6 with q | q; exact q.2; omega), by omega⟩)) | exact Or.inr (Or.inr (Or.inr ⟨by omega, by omega, (by rcases hr6 with q | q; omega; exact q.2), by omega⟩)))
      · refine ⟨fun h_49 => ?_, fun h_49 => ?_⟩
        · refine s_3144_40 _ _ _ _ _ _ _ _ ?_
          refine vm_finds _ hs (by omega) (fun x_50 s_51 hs_52 hf_53 p_54 p_55 => ⟨_, rfl, ?_⟩)
          have hf_56 : gF [75, 76, 77, 78, 79, 80, 81, 86, 87, 88] [15] s s_51 := gF.sub hf_53 rfl rfl
          have mb_57 : mK s s_51 := mK_fr (mK.refl _) hf_53 rfl
          have q_58 := (hf_53.2 81 19 rfl (fun h => absurd h (by decide))).1
          have q_59 := (hf_53.2 81 20 rfl (fun h => absurd h (by decide))).1
          have q_60 := (hf_53.2 74 15 rfl (fun _ => rfl)).1
          exact k _ s_51 hs_52 hf_56 mb_57 (by first | exact Or.inl ⟨by omega, by omega⟩ | exact Or.inr (Or.inl ⟨by omega, by omega, by omega⟩) | exact Or.inr (Or.inr (Or.inl ⟨by omega, by omega, (by rcases hr6 with q | q; exact q.2; omega), by omega⟩)) | exact Or.inr (Or.inr (Or.inr ⟨by omega, by omega, (by rcases hr6 with q | q; omega; exact q.2), by omega⟩)))
        · refine vm_begins2 hs (fun s_61 hs_62 hf_63 p_64 p_65 p_66 p_67 => ⟨rfl, ?_⟩)
          have hf_68 : gF [75, 76, 77, 78, 79, 80, 81, 86, 87, 88] [15] s s_61 := gF.sub hf_63 rfl rfl
          have mb_69 : mK s s_61 := mK.trans (mK.refl _) (mK_o p_67)
          have q_70 := p_67.1 19 (by omega)
          try rw [show gp_wr (20 * p1) = 20 * p1 from gp_wr_id (by omega) (by omega)]
          try rw [show gp_wr ((20 * p1) + (gp_I s 85 (Int.toNat p1))) = (20 * p1) + (gp_I s 85 (Int.toNat p1)) from gp_wr_id (by omega) (by omega)]
          try rw [show gp_wr (((20 * p1) + (gp_I s 85 (Int.toNat p1))) - 1) = ((20 * p1) + (gp_I s 85 (Int.toNat p1))) - 1 from gp_wr_id (by omega) (by omega)]
          refine ⟨by omega, ?_⟩
          have hrw : (gp_I s_61 83 (Int.toNat (((20 * p1) + (gp_I s 85 (Int.toNat p1))) - 1))) = w20 (mV s p1.toNat) (Int.toNat (gp_I s 85 (Int.toNat p1)) - 1) := by rw [w20_i (by omega)]; exact (hf_63.2 83 _ rfl (fun h => absurd h (by decide))).1.trans (by unfold mV; congr 1; omega)
          refine vm_madeX _ _ _ _ hs_62 (p_66) (bd_0 _) (bd_0 _) (fun x_71 s_72 hs_73 hf_74 p_75 p_76 p_77 p_78 p_79 p_80 p_81 p_82 => ⟨_, rfl, ?_⟩)
          have hf_83 : gF [75, 76, 77, 78, 79, 80, 81, 86, 87, 88] [15] s s_72 := gF.trans hf_68 hf_74 rfl rfl
          have mb_84 : mK s s_72 := mK.trans mb_69 (mK_o p_80)
          have q_85 := p_80.1 19 (by omega)
          have hL0 := LDM_0 (w := w20 (mV s p1.toNat)) (n := Int.toNat (gp_I s 85 (Int.toNat p1))) (by omega) hrw p_82
          try rw [show gp_wr ((gp_I s 85 (Int.toNat p1)) - 2) = (gp_I s 85 (Int.toNat p1)) - 2 from gp_wr_id (by omega) (by omega)]
          have lp_86 : ∀ (n_86 : Nat) (v5_86 : Int) (v6_86 : Int) (v7_86 : gV) (v8_86 : gV) (s_86 : gH), (MI s_86) → (gF [75, 76, 77, 78, 79, 80, 81, 86, 87, 88] [15] s s_86) → (MDi s_86) → (mK s s_86) → (0 ≤ v5_86 ∧ v5_86 ≤ 63) → ((-1) ≤ v6_86 ∧ v6_86 ≤ 18) → (v5_86 < gp_I s_86 81 20) → (gp_I s_86 81 20 ≤ 1 + 2 * ((gp_I s 85 (Int.toNat p1)) - 2 - v6_86)) → (gp_I s_86 74 15 = 0) → (v6_86 ≤ (gp_I s 85 (Int.toNat p1)) - 2) → (LDM s_86 (w20 (mV s p1.toNat)) (Int.toNat (gp_I s 85 (Int.toNat p1))) ((gp_I s 85 (Int.toNat p1)) - 2 - v6_86) v5_86) → (v6_86 + 2).toNat < n_86 → gs_E L (d + 186) 3144 82 [gp_r (some 74), gp_i p0, gp_i p1, gp_i (gp_I s 85 (Int.toNat p1)), gp_i (gp_I s_61 83 (Int.toNat (((20 * p1) + (gp_I s 85 (Int.toNat p1))) - 1))), gp_i v5_86, gp_i v6_86, v7_86, v8_86] [] s_86 K := by
            intro n_86
            induction n_86 with
            | zero => intro v5_86 v6_86 v7_86 v8_86 s_86 hs_s_86 hf_s_86 MDi_s_86 mK_s_86 hv5_86 hv6_86 iv0_86 iv1_86 iv2_86 iv3_86 iv4_86 hm_86; exact absurd hm_86 (Nat.not_lt_zero _)
            | succ n_86 ih_86 =>
              intro v5_86 v6_86 v7_86 v8_86 s_86 hs_s_86 hf_s_86 MDi_s_86 mK_s_86 hv5_86 hv6_86 iv0_86 iv1_86 iv2_86 iv3_86 iv4_86 hm_86
              refine s_3144_82 _ _ _ _ _ _ _ _ ?_
              refine ⟨fun h_87 => ?_, fun h_87 => ?_⟩
              · have hbn := LDM_BNM iv4_86 (by omega) (by omega) (by omega) (w20_B q0 (by omega) (by omega))
                have hbe := LDM_end iv4_86 (by omega) (by omega)
                have hbc := (LDM_BC iv4_86 (by omega) (by omega) (by omega)).trans ((BIGW_eqn (m := (gp_I s 85 (Int.toNat p1))) (by omega)).trans (BIGW_w20 (f := mV s p1.toNat) (by omega)))
                refine vm_resultsX _ hs_s_86 (by omega) (MDi_s_86) (by first | omega | assumption) (by first | omega | assumption) (fun x_88 s_89 hs_90 hf_91 p_92 p_93 p_94 p_95 p_96 p_97 p_98 => ⟨_, rfl, ?_⟩)
                have hf_99 : gF [75, 76, 77, 78, 79, 80, 81, 86, 87, 88] [15] s s_89 := gF.trans hf_s_86 hf_91 rfl rfl
                have q_100 := (hf_91.2 74 15 rfl (fun _ => rfl)).1
                have mb_101 : mK s s_89 := mK.trans mK_s_86 p_96
                have hr6 := p_97 (by omega)
                have hrm := p_98 (by omega)
                rw [hbc] at hr6
                refine ⟨fun h_102 => ?_, fun h_102 => ?_⟩
                · refine vm_finds _ hs_90 (by omega) (fun x_103 s_104 hs_105 hf_106 p_107 p_108 => ⟨_, rfl, ?_⟩)
                  have hf_109 : gF [75, 76, 77, 78, 79, 80, 81, 86, 87, 88] [15] s s_104 := gF.trans hf_99 hf_106 rfl rfl
                  have mb_110 : mK s s_104 := mK_fr mb_101 hf_106 rfl
                  have q_111 := (hf_106.2 81 19 rfl (fun h => absurd h (by decide))).1
                  have q_112 := (hf_106.2 81 20 rfl (fun h => absurd h (by decide))).1
                  have q_113 := (hf_106.2 74 15 rfl (fun _ => rfl)).1
                  refine s_3144_160 _ _ _ _ _ _ _ _ _ ?_
                  exact k _ s_104 hs_105 hf_109 mb_110 (by first | exact Or.inl ⟨by omega, by omega⟩ | exact Or.inr (Or.inl ⟨by omega, by omega, by omega⟩) | exact Or.inr (Or.inr (Or.inl ⟨by omega, by omega, (by rcases hr6 with q | q; exact q.2; omega), by omega⟩)) | exact Or.inr (Or.inr (Or.inr ⟨by omega, by omega, (by rcases hr6 with q | q; omega; exact q.2), by omega⟩)))
                · refine vm_holdsX _ hs_90 (by omega) (by first | omega | assumption) (fun x_114 s_115 hs_116 hf_117 p_118 p_119 p_120 p_121 => ⟨_, rfl, ?_⟩)
                  have hf_122 : gF [75, 76, 77, 78, 79, 80, 81, 86, 87, 88] [15] s s_115 := gF.trans hf_99 hf_117 rfl rfl
                  have q_123 := (hf_117.2 74 15 rfl (fun _ => rfl)).1
                  have mb_124 : mK s s_115 := mK.trans mb_101 p_120
                  refine s_3144_160 _ _ _ _ _ _ _ _ _ ?_
                  exact k _ s_115 hs_116 hf_122 mb_124 (by first | exact Or.inl ⟨by omega, by omega⟩ | exact Or.inr (Or.inl ⟨by omega, by omega, by omega⟩) | exact Or.inr (Or.inr (Or.inl ⟨by omega, by omega, (by rcases hr6 with q | q; exact q.2; omega), by omega⟩)) | exact Or.inr (Or.inr (Or.inr ⟨by omega, by omega, (by rcases hr6 with q | q; omega; exact q.2), by omega⟩)))
              · try rw [show gp_wr (20 * p1) = 20 * p1 from gp_wr_id (by omega) (by omega)]
                try rw [show gp_wr ((20 * p1) + v6_86) = (20 * p1) + v6_86 from gp_wr_id (by omega) (by omega)]
                refine ⟨by omega, ?_⟩
                have hrx : (gp_I s_86 83 (Int.toNat ((20 * p1) + v6_86))) = w20 (mV s p1.toNat) (Int.toNat (gp_I s 85 (Int.toNat p1)) - 2 - Int.toNat ((gp_I s 85 (Int.toNat p1)) - 2 - v6_86)) := by rw [w20_i (by omega)]; exact (hf_s_86.2 83 _ rfl (fun h => absurd h (by decide))).1.trans (by unfold mV; congr 1; omega)
                refine vm_madeX _ _ _ _ hs_s_86 (MDi_s_86) (bd_0 _) (bd_0 _) (fun x_125 s_126 hs_127 hf_128 p_129 p_130 p_131 p_132 p_133 p_134 p_135 p_136 => ⟨_, rfl, ?_⟩)
                have hf_137 : gF [75, 76, 77, 78, 79, 80, 81, 86, 87, 88] [15] s s_126 := gF.trans hf_s_86 hf_128 rfl rfl
                have mb_138 : mK s s_126 := mK.trans mK_s_86 (mK_o p_134)
                have q_139 := p_134.1 19 (by omega)
                have hA1 := p_136
                refine vm_madeX _ _ _ _ hs_127 (p_130) (bd_sh (by omega) (by omega) (by omega)) (bd_sh (by omega) (by omega) (by omega)) (fun x_140 s_141 hs_142 hf_143 p_144 p_145 p_146 p_147 p_148 p_149 p_150 p_151 => ⟨_, rfl, ?_⟩)
                have hf_152 : gF [75, 76, 77, 78, 79, 80, 81, 86, 87, 88] [15] s s_141 := gF.trans hf_137 hf_143 rfl rfl
                have mb_153 : mK s s_141 := mK.trans mb_138 (mK_o p_149)
                have q_154 := p_149.1 19 (by omega)
                have hA2 := p_151
                try rw [show gp_wr (v6_86 + (-1)) = v6_86 + (-1) from gp_wr_id (by omega) (by omega)]
                exact ih_86 _ _ _ _ _ hs_142 hf_152 p_145 mb_153 (by omega) (by omega) (by first | omega | assumption) (by first | omega | assumption) (by first | omega | assumption) (by first | omega | assumption) (by first | (rw [show (gp_I s 85 (Int.toNat p1)) - 2 - (v6_86 + (-1)) = (gp_I s 85 (Int.toNat p1)) - 2 - v6_86 + 1 by omega]; exact LDM_s iv4_86 (by omega) (by omega) hrx hA1 rfl rfl hA2)) (by omega)
          exact lp_86 _ _ _ _ _ _ hs_73 hf_83 p_76 mb_84 (by omega) (by omega) (by first | omega | assumption) (by first | omega | assumption) (by first | omega | assumption) (by first | omega | assumption) (by rw [show (gp_I s 85 (Int.toNat p1)) - 2 - ((gp_I s 85 (Int.toNat p1)) - 2) = 0 by omega]; exact hL0) (Nat.lt_succ_self _)
