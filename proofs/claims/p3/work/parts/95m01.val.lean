/-! games by a number: the same number, the same game -/
def cset (x : BitVec 64) (v : Nat → Nat) : Nat → Nat
  | 0 => 0
  | n + 1 => cset x v n ||| (if x.getLsbD n = true then 2 ^ v n else 0)
theorem cset_s (x : BitVec 64) (v : Nat → Nat) (n : Nat) : cset x v (n + 1) = cset x v n ||| (if x.getLsbD n = true then 2 ^ v n else 0) := rfl
theorem cset_bit {x : BitVec 64} {v : Nat → Nat} {m : Nat} : ∀ n, (cset x v n).testBit m = true ↔ ∃ k, k < n ∧ x.getLsbD k = true ∧ v k = m
  | 0 => ⟨fun h => (by unfold cset at h; rw [Nat.zero_testBit] at h; cases h), fun ⟨k, hk, _⟩ => absurd hk (Nat.not_lt_zero _)⟩
  | n + 1 => by
    rw [cset_s, Nat.testBit_or, Bool.or_eq_true, cset_bit n]
    constructor
    · rintro (⟨k, a, b, c⟩ | h)
      · exact ⟨k, by omega, b, c⟩
      · by_cases q : x.getLsbD n = true
        · rw [if_pos q, Nat.testBit_two_pow] at h
          exact ⟨n, by omega, q, by simpa using h⟩
        · rw [if_neg q, Nat.zero_testBit] at h; cases h
    · rintro ⟨k, a, b, c⟩
      by_cases q : k = n
      · subst q
        refine Or.inr ?_
        rw [if_pos b, Nat.testBit_two_pow]
        simpa using c
      · exact Or.inl ⟨k, by omega, b, c⟩
theorem cset_eq {x y : BitVec 64} {v w : Nat → Nat} {n m : Nat} (h1 : ∀ k, k < n → x.getLsbD k = true → ∃ j, j < m ∧ y.getLsbD j = true ∧ w j = v k) (h2 : ∀ k, k < m → y.getLsbD k = true → ∃ j, j < n ∧ x.getLsbD j = true ∧ v j = w k) : cset x v n = cset y w m := by
  refine Nat.eq_of_testBit_eq fun i => ?_
  have a := @cset_bit x v i n
  have b := @cset_bit y w i m
  cases p : (cset x v n).testBit i <;> cases q : (cset y w m).testBit i
  · rfl
  · obtain ⟨k, k1, k2, k3⟩ := b.mp q
    obtain ⟨j, j1, j2, j3⟩ := h2 k k1 k2
    have := a.mpr ⟨j, j1, j2, by omega⟩
    rw [p] at this; cases this
  · obtain ⟨k, k1, k2, k3⟩ := a.mp p
    obtain ⟨j, j1, j2, j3⟩ := h1 k k1 k2
    have := b.mpr ⟨j, j1, j2, by omega⟩
    rw [q] at this; cases this
  · rfl
theorem cset_mem {x y : BitVec 64} {v w : Nat → Nat} {n m : Nat} (h : cset x v n = cset y w m) {k : Nat} (hk : k < n) (hb : x.getLsbD k = true) : ∃ j, j < m ∧ y.getLsbD j = true ∧ w j = v k := by
  have := (@cset_bit x v (v k) n).mpr ⟨k, hk, hb, rfl⟩
  rw [h] at this
  exact cset_bit m |>.mp this
/-- pairs -/
def npr (x y : Nat) : Nat := 2 ^ x * (2 * y + 1)
theorem npr_inj : ∀ {x y x' y' : Nat}, npr x y = npr x' y' → x = x' ∧ y = y'
  | 0, y, 0, y', h => by unfold npr at h; omega
  | 0, y, x' + 1, y', h => by
    unfold npr at h
    rw [Nat.pow_succ, Nat.mul_comm (2 ^ x') 2, Nat.mul_assoc] at h
    generalize 2 ^ x' * (2 * y' + 1) = z at h
    omega
  | x + 1, y, 0, y', h => by
    unfold npr at h
    rw [Nat.pow_succ, Nat.mul_comm (2 ^ x) 2, Nat.mul_assoc] at h
    generalize 2 ^ x * (2 * y + 1) = z at h
    omega
  | x + 1, y, x' + 1, y', h => by
    have : npr x y = npr x' y' := by
      unfold npr at h ⊢
      rw [Nat.pow_succ, Nat.mul_comm (2 ^ x) 2, Nat.mul_assoc, Nat.pow_succ, Nat.mul_comm (2 ^ x') 2, Nat.mul_assoc] at h
      exact Nat.eq_of_mul_eq_mul_left (by decide) h
    have q := npr_inj this
    exact ⟨by omega, q.2⟩
def nie (a : Int) : Nat := if 0 ≤ a then 2 * a.toNat else 2 * (-a).toNat - 1
theorem nie_inj {a b : Int} (h : nie a = nie b) : a = b := by
  unfold nie at h
  by_cases p : 0 ≤ a <;> by_cases q : 0 ≤ b
  · rw [if_pos p, if_pos q] at h; omega
  · rw [if_pos p, if_neg q] at h; omega
  · rw [if_neg p, if_pos q] at h; omega
  · rw [if_neg p, if_neg q] at h; omega
def cod4 (L R : Nat) (a b : Int) : Nat := npr L (npr R (npr (nie a) (nie b)))
theorem cod4_inj {L R L' R' : Nat} {a b a' b' : Int} (h : cod4 L R a b = cod4 L' R' a' b') : L = L' ∧ R = R' ∧ a = a' ∧ b = b' := by
  have h1 := npr_inj h
  have h2 := npr_inj h1.2
  have h3 := npr_inj h2.2
  exact ⟨h1.1, h2.1, nie_inj h3.1, nie_inj h3.2⟩
/-- what is folded over the nodes ahead -/
abbrev ALG : Type := Nat → Nat → Int → Int → Nat
def fold (A : ALG) (f : Nat → ND) : Nat → Nat → Nat
  | 0 => fun _ => 0
  | n + 1 => fun i => if i = n then A (cset (f n).1 (fold A f n) n) (cset (f n).2.1 (fold A f n) n) (f n).2.2.1 (f n).2.2.2 else fold A f n i
def fv (A : ALG) (f : Nat → ND) (i : Nat) : Nat := fold A f (i + 1) i
theorem fold_s (A : ALG) (f : Nat → ND) (n i : Nat) : fold A f (n + 1) i = if i = n then A (cset (f n).1 (fold A f n) n) (cset (f n).2.1 (fold A f n) n) (f n).2.2.1 (f n).2.2.2 else fold A f n i := rfl
theorem fold_fv {A : ALG} {f : Nat → ND} {i : Nat} : ∀ {n}, i < n → fold A f n i = fv A f i
  | 0, h => absurd h (Nat.not_lt_zero _)
  | n + 1, h => by
    by_cases c : i = n
    · subst c; rfl
    · rw [fold_s, if_neg c]; exact fold_fv (by omega)
theorem cset_congr {x : BitVec 64} {v w : Nat → Nat} : ∀ n, (∀ k, k < n → v k = w k) → cset x v n = cset x w n
  | 0, _ => rfl
  | n + 1, h => by rw [cset_s, cset_s, cset_congr n (fun k hk => h k (by omega)), h n (by omega)]
theorem fv_e (A : ALG) (f : Nat → ND) (i : Nat) : fv A f i = A (cset (f i).1 (fv A f) i) (cset (f i).2.1 (fv A f) i) (f i).2.2.1 (f i).2.2.2 := by
  have e : fv A f i = fold A f (i + 1) i := rfl
  rw [e, fold_s, if_pos rfl, cset_congr i (fun k hk => fold_fv hk), cset_congr i (fun k hk => fold_fv hk)]
/-- the number of a node -/
def val (f : Nat → ND) (i : Nat) : Nat := fv cod4 f i
theorem val_e (f : Nat → ND) (i : Nat) : val f i = cod4 (cset (f i).1 (val f) i) (cset (f i).2.1 (val f) i) (f i).2.2.1 (f i).2.2.2 := fv_e cod4 f i
/-- masks say nodes ahead -/
def BDP (f : Nat → ND) (n : Nat) : Prop := ∀ i, i < n → ∀ k : Nat, ((f i).1.getLsbD k = true ∨ (f i).2.1.getLsbD k = true) → k < i
def DIS (f : Nat → ND) (n : Nat) : Prop := ∀ i j, i < n → j < n → f i = f j → i = j
theorem val_m {f g : Nat → ND} {i j : Nat} (h : val f i = val g j) : (∀ k, k < i → (f i).1.getLsbD k = true → ∃ k', k' < j ∧ (g j).1.getLsbD k' = true ∧ val g k' = val f k) ∧ (∀ k, k < i → (f i).2.1.getLsbD k = true → ∃ k', k' < j ∧ (g j).2.1.getLsbD k' = true ∧ val g k' = val f k) ∧ (f i).2.2.1 = (g j).2.2.1 ∧ (f i).2.2.2 = (g j).2.2.2 := by
  rw [val_e, val_e] at h
  obtain ⟨h1, h2, h3, h4⟩ := cod4_inj h
  exact ⟨fun k hk hb => cset_mem h1 hk hb, fun k hk hb => cset_mem h2 hk hb, h3, h4⟩
theorem val_inj {f : Nat → ND} {n : Nat} (hb : BDP f n) (hd : DIS f n) : ∀ N, N ≤ n → ∀ i j, i < N → j < N → val f i = val f j → i = j
  | 0, _, i, _, hi, _, _ => absurd hi (Nat.not_lt_zero _)
  | N + 1, hN, i, j, hi, hj, h => by
    have ih := val_inj hb hd N (by omega)
    have a := val_m h
    have b := val_m h.symm
    refine hd i j (by omega) (by omega) ?_
    have key : ∀ (p q : Nat) (x y : BitVec 64), p < N + 1 → q < N + 1 → (∀ k : Nat, x.getLsbD k = true → k < p) → (∀ k, k < p → x.getLsbD k = true → ∃ k', k' < q ∧ y.getLsbD k' = true ∧ val f k' = val f k) → ∀ k : Nat, x.getLsbD k = true → y.getLsbD k = true := fun p q x y hp hq hx hm k hk => by
      have kp := hx k hk
      obtain ⟨k', c1, c2, c3⟩ := hm k kp hk
      have := ih k' k (by omega) (by omega) c3
      rw [← this]; exact c2
    have eq2 : ∀ (x y : BitVec 64), (∀ k : Nat, x.getLsbD k = true → y.getLsbD k = true) → (∀ k : Nat, y.getLsbD k = true → x.getLsbD k = true) → x = y := fun x y p q => by
      refine BitVec.eq_of_getLsbD_eq fun k hk => ?_
      cases u : x.getLsbD k <;> cases w : y.getLsbD k
      · rfl
      · rw [q k w] at u; cases u
      · rw [p k u] at w; cases w
      · rfl
    have e1 := eq2 (f i).1 (f j).1 (key i j _ _ hi hj (fun k hk => hb i (by omega) k (Or.inl hk)) a.1) (key j i _ _ hj hi (fun k hk => hb j (by omega) k (Or.inl hk)) b.1)
    have e2 := eq2 (f i).2.1 (f j).2.1 (key i j _ _ hi hj (fun k hk => hb i (by omega) k (Or.inr hk)) a.2.1) (key j i _ _ hj hi (fun k hk => hb j (by omega) k (Or.inr hk)) b.2.1)
    exact Prod.ext e1 (Prod.ext e2 (Prod.ext a.2.2.1 a.2.2.2))
/-- what is folded hangs on the number alone -/
theorem fv_eq {A : ALG} {f g : Nat → ND} : ∀ N i j, i < N → val f i = val g j → fv A f i = fv A g j
  | 0, i, _, hi, _ => absurd hi (Nat.not_lt_zero _)
  | N + 1, i, j, hi, h => by
    have a := val_m h
    have b := val_m h.symm
    rw [fv_e, fv_e, a.2.2.1, a.2.2.2]
    have key : ∀ (x y : BitVec 64), (∀ k, k < i → x.getLsbD k = true → ∃ k', k' < j ∧ y.getLsbD k' = true ∧ val g k' = val f k) → (∀ k, k < j → y.getLsbD k = true → ∃ k', k' < i ∧ x.getLsbD k' = true ∧ val f k' = val g k) → cset x (fv A f) i = cset y (fv A g) j := fun x y p q => by
      refine cset_eq (fun k hk hb => ?_) (fun k hk hb => ?_)
      · obtain ⟨k', c1, c2, c3⟩ := p k hk hb
        exact ⟨k', c1, c2, (fv_eq N k k' (by omega) c3.symm).symm⟩
      · obtain ⟨k', c1, c2, c3⟩ := q k hk hb
        exact ⟨k', c1, c2, fv_eq N k' k (by omega) c3⟩
    rw [key _ _ a.1 b.1, key _ _ a.2.1 b.2.1]
/-- the followers -/
def rch (f : Nat → ND) : Nat → Nat → Nat → Prop
  | 0, i, k => i = k
  | n + 1, i, k => ∃ j, j < i ∧ ((f i).1.getLsbD j = true ∨ (f i).2.1.getLsbD j = true) ∧ rch f n j k
theorem rch_val {f g : Nat → ND} : ∀ n i j k, val f i = val g j → rch f n i k → ∃ k', rch g n j k' ∧ val g k' = val f k
  | 0, i, j, k, h, r => ⟨j, rfl, by have r' : i = k := r; rw [← r']; exact h.symm⟩
  | n + 1, i, j, k, h, r => by
    obtain ⟨m, m1, m2, m3⟩ := r
    have a := val_m h
    have key : ∃ m', m' < j ∧ ((g j).1.getLsbD m' = true ∨ (g j).2.1.getLsbD m' = true) ∧ val g m' = val f m := by
      rcases m2 with q | q
      · obtain ⟨m', c1, c2, c3⟩ := a.1 m m1 q
        exact ⟨m', c1, Or.inl c2, c3⟩
      · obtain ⟨m', c1, c2, c3⟩ := a.2.1 m m1 q
        exact ⟨m', c1, Or.inr c2, c3⟩
    obtain ⟨m', c1, c2, c3⟩ := key
    obtain ⟨k', d1, d2⟩ := rch_val n m m' k c3.symm m3
    exact ⟨k', ⟨m', c1, c2, d1⟩, d2⟩
/-- as many on one side as on the other -/
theorem pigeon : ∀ (m n : Nat) (f g : Nat → Nat), (∀ i j, i < n → j < n → f i = f j → i = j) → (∀ i, i < n → ∃ j, j < m ∧ g j = f i) → n ≤ m
  | 0, n, f, g, _, h => by
    by_cases c : n = 0
    · omega
    · obtain ⟨j, j1, _⟩ := h 0 (by omega)
      exact absurd j1 (Nat.not_lt_zero _)
  | m + 1, n, f, g, hi, h => by
    by_cases c : ∃ i, i < n ∧ f i = g m
    · obtain ⟨i, i1, i2⟩ := c
      have := pigeon m (n - 1) (fun k => if k = i then f (n - 1) else f k) g (fun a b ha hb e => by
        by_cases p : a = i <;> by_cases q : b = i
        · omega
        · simp only [if_pos p, if_neg q] at e
          have := hi (n - 1) b (by omega) (by omega) e
          omega
        · simp only [if_neg p, if_pos q] at e
          have := hi a (n - 1) (by omega) (by omega) e
          omega
        · simp only [if_neg p, if_neg q] at e
          exact hi a b (by omega) (by omega) e) (fun k hk => by
        by_cases p : k = i
        · simp only [if_pos p]
          obtain ⟨j, j1, j2⟩ := h (n - 1) (by omega)
          refine ⟨j, ?_, j2⟩
          by_cases d : j = m
          · subst d
            have := hi (n - 1) i (by omega) i1 (j2.symm.trans i2.symm)
            omega
          · omega
        · simp only [if_neg p]
          obtain ⟨j, j1, j2⟩ := h k (by omega)
          refine ⟨j, ?_, j2⟩
          by_cases d : j = m
          · subst d
            exact absurd (hi k i (by omega) i1 (j2.symm.trans i2.symm)) p
          · omega)
      omega
    · have := pigeon m n f g hi (fun i hn => by
        obtain ⟨j, j1, j2⟩ := h i hn
        refine ⟨j, ?_, j2⟩
        by_cases d : j = m
        · subst d; exact absurd ⟨i, hn, j2.symm⟩ c
        · omega)
      omega
/-- a game of a slot: nodes ahead, none twice, each a follower of the last -/
def TBL (f : Nat → ND) (n : Nat) : Prop := 0 < n ∧ BDP f n ∧ DIS f n ∧ ∀ k, k < n → ∃ m, rch f m (n - 1) k
theorem rch_le {f : Nat → ND} : ∀ n i k, rch f n i k → k ≤ i
  | 0, i, k, h => by have h' : i = k := h; omega
  | n + 1, i, k, h => by
    obtain ⟨j, j1, _, j3⟩ := h
    have := rch_le n j k j3
    omega
theorem TBL_le {f g : Nat → ND} {n m : Nat} (a : TBL f n) (b : TBL g m) (h : val f (n - 1) = val g (m - 1)) : n ≤ m :=
  pigeon m n (val f) (val g) (fun i j hi hj e => val_inj a.2.1 a.2.2.1 n (Nat.le_refl _) i j hi hj e) (fun i hi => by
    obtain ⟨k, hk⟩ := a.2.2.2 i hi
    obtain ⟨k', c1, c2⟩ := rch_val k _ _ _ h hk
    have := rch_le _ _ _ c1
    have := b.1
    exact ⟨k', by omega, c2⟩)
theorem TBL_eq {f g : Nat → ND} {n m : Nat} (a : TBL f n) (b : TBL g m) (h : val f (n - 1) = val g (m - 1)) : n = m := Nat.le_antisymm (TBL_le a b h) (TBL_le b a h.symm)
/-! the sum of two games, by numbers -/
def smf (f g : Nat → ND) : Nat → Nat → Nat → Nat
  | 0 => fun _ _ => 0
  | n + 1 => fun i j => if i + j = n then cod4 (cset (f i).1 (fun k => smf f g n k j) i ||| cset (g j).1 (fun k => smf f g n i k) j) (cset (f i).2.1 (fun k => smf f g n k j) i ||| cset (g j).2.1 (fun k => smf f g n i k) j) (if cset (f i).1 (fun k => smf f g n k j) i ||| cset (g j).1 (fun k => smf f g n i k) j = 0 then (f i).2.2.1 + (g j).2.2.1 else 0) (if cset (f i).2.1 (fun k => smf f g n k j) i ||| cset (g j).2.1 (fun k => smf f g n i k) j = 0 then (f i).2.2.2 + (g j).2.2.2 else 0) else smf f g n i j
def sm (f g : Nat → ND) (i j : Nat) : Nat := smf f g (i + j + 1) i j
theorem smf_s (f g : Nat → ND) (n i j : Nat) : smf f g (n + 1) i j = if i + j = n then cod4 (cset (f i).1 (fun k => smf f g n k j) i ||| cset (g j).1 (fun k => smf f g n i k) j) (cset (f i).2.1 (fun k => smf f g n k j) i ||| cset (g j).2.1 (fun k => smf f g n i k) j) (if cset (f i).1 (fun k => smf f g n k j) i ||| cset (g j).1 (fun k => smf f g n i k) j = 0 then (f i).2.2.1 + (g j).2.2.1 else 0) (if cset (f i).2.1 (fun k => smf f g n k j) i ||| cset (g j).2.1 (fun k => smf f g n i k) j = 0 then (f i).2.2.2 + (g j).2.2.2 else 0) else smf f g n i j := rfl
theorem smf_sm {f g : Nat → ND} {i j : Nat} : ∀ {n}, i + j < n → smf f g n i j = sm f g i j
  | 0, h => absurd h (Nat.not_lt_zero _)
  | n + 1, h => by
    by_cases c : i + j = n
    · subst c; rfl
    · rw [smf_s, if_neg c]; exact smf_sm (by omega)
def smL (f g : Nat → ND) (i j : Nat) : Nat := cset (f i).1 (fun k => sm f g k j) i ||| cset (g j).1 (fun k => sm f g i k) j
def smR (f g : Nat → ND) (i j : Nat) : Nat := cset (f i).2.1 (fun k => sm f g k j) i ||| cset (g j).2.1 (fun k => sm f g i k) j
theorem sm_e (f g : Nat → ND) (i j : Nat) : sm f g i j = cod4 (smL f g i j) (smR f g i j) (if smL f g i j = 0 then (f i).2.2.1 + (g j).2.2.1 else 0) (if smR f g i j = 0 then (f i).2.2.2 + (g j).2.2.2 else 0) := by
  have e : sm f g i j = smf f g (i + j + 1) i j := rfl
  have a : ∀ x : BitVec 64, cset x (fun k => smf f g (i + j) k j) i = cset x (fun k => sm f g k j) i := fun x => cset_congr i (fun k hk => smf_sm (by omega))
  have b : ∀ x : BitVec 64, cset x (fun k => smf f g (i + j) i k) j = cset x (fun k => sm f g i k) j := fun x => cset_congr j (fun k hk => smf_sm (by omega))
  rw [e, smf_s, if_pos rfl, a, a, b, b]
  rfl
theorem sm_eq {f g f' g' : Nat → ND} : ∀ N i j i' j', i + j < N → val f i = val f' i' → val g j = val g' j' → sm f g i j = sm f' g' i' j'
  | 0, _, _, _, _, h, _, _ => absurd h (Nat.not_lt_zero _)
  | N + 1, i, j, i', j', h, hf, hg => by
    have a := val_m hf
    have b := val_m hg
    have a' := val_m hf.symm
    have b' := val_m hg.symm
    have k1 : ∀ (x y : BitVec 64), (∀ k, k < i → x.getLsbD k = true → ∃ k', k' < i' ∧ y.getLsbD k' = true ∧ val f' k' = val f k) → (∀ k, k < i' → y.getLsbD k = true → ∃ k', k' < i ∧ x.getLsbD k' = true ∧ val f k' = val f' k) → cset x (fun k => sm f g k j) i = cset y (fun k => sm f' g' k j') i' := fun x y p q => by
      refine cset_eq (fun k hk hb => ?_) (fun k hk hb => ?_)
      · obtain ⟨k', c1, c2, c3⟩ := p k hk hb
        exact ⟨k', c1, c2, (sm_eq N k j k' j' (by omega) c3.symm hg).symm⟩
      · obtain ⟨k', c1, c2, c3⟩ := q k hk hb
        exact ⟨k', c1, c2, sm_eq N k' j k j' (by omega) c3 hg⟩
    have k2 : ∀ (x y : BitVec 64), (∀ k, k < j → x.getLsbD k = true → ∃ k', k' < j' ∧ y.getLsbD k' = true ∧ val g' k' = val g k) → (∀ k, k < j' → y.getLsbD k = true → ∃ k', k' < j ∧ x.getLsbD k' = true ∧ val g k' = val g' k) → cset x (fun k => sm f g i k) j = cset y (fun k => sm f' g' i' k) j' := fun x y p q => by
      refine cset_eq (fun k hk hb => ?_) (fun k hk hb => ?_)
      · obtain ⟨k', c1, c2, c3⟩ := p k hk hb
        exact ⟨k', c1, c2, (sm_eq N i k i' k' (by omega) hf c3.symm).symm⟩
      · obtain ⟨k', c1, c2, c3⟩ := q k hk hb
        exact ⟨k', c1, c2, sm_eq N i k' i' k (by omega) hf c3⟩
    have eL : smL f g i j = smL f' g' i' j' := by
      unfold smL
      rw [k1 _ _ a.1 a'.1, k2 _ _ b.1 b'.1]
    have eR : smR f g i j = smR f' g' i' j' := by
      unfold smR
      rw [k1 _ _ a.2.1 a'.2.1, k2 _ _ b.2.1 b'.2.1]
    rw [sm_e, sm_e, eL, eR, a.2.2.1, a.2.2.2, b.2.2.1, b.2.2.2]
/-- what a sum's places are -/
def SMS (f g : Nat → ND) (i j x : Nat) : Prop := ∃ n k n' k', rch f n i k ∧ rch g n' j k' ∧ x = sm f g k k'
theorem SMS_eq {f g f' g' : Nat → ND} {i j i' j' x : Nat} (hf : val f i = val f' i') (hg : val g j = val g' j') (h : SMS f g i j x) : SMS f' g' i' j' x := by
  obtain ⟨n, k, n', k', h1, h2, h3⟩ := h
  obtain ⟨m, m1, m2⟩ := rch_val n i i' k hf h1
  obtain ⟨m', m3, m4⟩ := rch_val n' j j' k' hg h2
  exact ⟨n, m, n', m', m1, m3, h3.trans (sm_eq _ _ _ _ _ (Nat.lt_succ_self _) m2.symm m4.symm)⟩
/-- not more than sixty -/
def C60 (S : Nat → Prop) : Prop := ∃ h : Nat → Nat, ∀ x, S x → ∃ k, k < 60 ∧ h k = x
theorem C60_mono {S T : Nat → Prop} (h : C60 T) (s : ∀ x, S x → T x) : C60 S := by
  obtain ⟨g, hg⟩ := h
  exact ⟨g, fun x hx => hg x (s x hx)⟩
/-- sixty others, and one more -/
theorem C60_no {S : Nat → Prop} {f : Nat → Nat} (h : ∀ i, i < 61 → S (f i)) (hi : ∀ i j, i < 61 → j < 61 → f i = f j → i = j) : ¬ C60 S := fun ⟨g, hg⟩ => by
  have := pigeon 60 61 f g hi (fun i hn => hg _ (h i hn))
  omega
def FOL (f : Nat → ND) (i x : Nat) : Prop := ∃ n k, rch f n i k ∧ val f k = x
theorem FOL_eq {f g : Nat → ND} {i j x : Nat} (h : val f i = val g j) (r : FOL f i x) : FOL g j x := by
  obtain ⟨n, k, r1, r2⟩ := r
  obtain ⟨k', c1, c2⟩ := rch_val n i j k h r1
  exact ⟨n, k', c1, c2.trans r2⟩
theorem rch_tr {f : Nat → ND} : ∀ n m i j k, rch f n i j → rch f m j k → rch f (n + m) i k
  | 0, m, i, j, k, a, b => by
    have a' : i = j := a
    subst a'
    rw [Nat.zero_add]; exact b
  | n + 1, m, i, j, k, a, b => by
    obtain ⟨q, q1, q2, q3⟩ := a
    rw [show n + 1 + m = (n + m) + 1 by omega]
    exact ⟨q, q1, q2, rch_tr n m q j k q3 b⟩
/-- the numbers where a side is shut -/
def OUT (x : Int) : Prop := 99999 < x ∨ x < -99999
def BGF (f : Nat → ND) (i : Nat) : Prop := ∃ n k, rch f n i k ∧ (OUT (f k).2.2.1 ∨ OUT (f k).2.2.2)
theorem BGF_eq {f g : Nat → ND} {i j : Nat} (h : val f i = val g j) (r : BGF f i) : BGF g j := by
  obtain ⟨n, k, r1, r2⟩ := r
  obtain ⟨k', c1, c2⟩ := rch_val n i j k h r1
  have a := val_m c2
  exact ⟨n, k', c1, by rw [a.2.2.1, a.2.2.2]; exact r2⟩
/-! pools, by numbers -/
theorem val_congr {f g : Nat → ND} : ∀ N i, i < N → (∀ j, j ≤ i → f j = g j) → val f i = val g i
  | 0, i, h, _ => absurd h (Nat.not_lt_zero _)
  | N + 1, i, h, e => by
    have k : ∀ x : BitVec 64, cset x (val f) i = cset x (val g) i := fun x => cset_congr i (fun k hk => val_congr N k (by omega) (fun j hj => e j (by omega)))
    rw [val_e, val_e, e i (Nat.le_refl _), k, k]
theorem cset_ub {x : BitVec 64} {v : Nat → Nat} {a : Nat} (h : ∀ k : Nat, x.getLsbD k = true → k < a) : ∀ n, a ≤ n → cset x v n = cset x v a
  | 0, q => by rw [show a = 0 by omega]
  | n + 1, q => by
    by_cases c : a = n + 1
    · rw [c]
    · have : ¬ x.getLsbD n = true := fun z => by have := h n z; omega
      rw [cset_s, if_neg this, Nat.or_zero]
      exact cset_ub h n (by omega)
/-- the number of a node over a pool -/
def VOF (v : Nat → Nat) (n : Nat) (x : ND) : Nat := cod4 (cset x.1 v n) (cset x.2.1 v n) x.2.2.1 x.2.2.2
def PS (P : AP) (y : Nat) : Prop := ∃ k, k < P.1 ∧ val P.2 k = y
def GV (P : AP) : Prop := GP P ∧ BDP P.2 P.1 ∧ P.1 ≤ 60
theorem GV.dis {P : AP} (g : GV P) : DIS P.2 P.1 := g.1.1
theorem val_VOF {P : AP} (g : BDP P.2 P.1) {k : Nat} (hk : k < P.1) : val P.2 k = VOF (val P.2) P.1 (P.2 k) := by
  rw [val_e]
  unfold VOF
  rw [cset_ub (fun j hj => g k hk j (Or.inl hj)) P.1 (by omega), cset_ub (fun j hj => g k hk j (Or.inr hj)) P.1 (by omega)]
theorem GV_0 : GV (0, fun _ => nx 0#64 0#64 0 0) := ⟨GP_0, fun i hi => absurd hi (Nat.not_lt_zero _), by show 0 ≤ 60; decide⟩
theorem PS_0 {y : Nat} : ¬ PS (0, fun _ => nx 0#64 0#64 0 0) y := fun ⟨k, hk, _⟩ => absurd hk (Nat.not_lt_zero _)
theorem Ext_val {P Q : AP} (e : Ext P Q) {k : Nat} (hk : k < P.1) : val Q.2 k = val P.2 k := val_congr (k + 1) k (Nat.lt_succ_self _) (fun j hj => e.2 j (by omega))
theorem PS_inj {P : AP} (g : GV P) {i j : Nat} (hi : i < P.1) (hj : j < P.1) (h : val P.2 i = val P.2 j) : i = j := val_inj g.2.1 g.1.1 P.1 (Nat.le_refl _) i j hi hj h
/-- a node comes to a pool -/
theorem addV {P : AP} (g : GV P) {l r : BitVec 64} {a b : Int} (hl : ∀ k : Nat, l.getLsbD k = true → k < P.1) (hr : ∀ k : Nat, r.getLsbD k = true → k < P.1) : (∀ Q k, aaddc P (nx l r a b) = some (Q, k) → GV Q ∧ Ext P Q ∧ k < Q.1 ∧ val Q.2 k = VOF (val P.2) P.1 (nx l r a b) ∧ ∀ y, PS Q y ↔ PS P y ∨ y = VOF (val P.2) P.1 (nx l r a b)) ∧ (aaddc P (nx l r a b) = none → ¬ C60 (fun y => PS P y ∨ y = VOF (val P.2) P.1 (nx l r a b))) := by
  have new : ∀ k, k < P.1 → val P.2 k = VOF (val P.2) P.1 (nx l r a b) → P.2 k = nx l r a b := fun k hk h => by
    rw [val_VOF g.2.1 hk] at h
    obtain ⟨h1, h2, h3, h4⟩ := cod4_inj h
    have m : ∀ (x y : BitVec 64), (∀ j : Nat, x.getLsbD j = true → j < P.1) → (∀ j : Nat, y.getLsbD j = true → j < P.1) → cset x (val P.2) P.1 = cset y (val P.2) P.1 → x = y := fun x y hx hy e => by
      refine BitVec.eq_of_getLsbD_eq fun i hi => ?_
      have one : ∀ (x y : BitVec 64), (∀ j : Nat, x.getLsbD j = true → j < P.1) → cset x (val P.2) P.1 = cset y (val P.2) P.1 → x.getLsbD i = true → y.getLsbD i = true := fun x y hx e q => by
        obtain ⟨j, j1, j2, j3⟩ := cset_mem e (hx i q) q
        rw [← PS_inj g j1 (hx i q) j3]; exact j2
      cases u : x.getLsbD i <;> cases w : y.getLsbD i
      · rfl
      · rw [one y x hy e.symm w] at u; cases u
      · rw [one x y hx e u] at w; cases w
      · rfl
    exact Prod.ext (m _ _ (fun j hj => by have := g.2.1 k hk j (Or.inl hj); omega) hl h1) (Prod.ext (m _ _ (fun j hj => by have := g.2.1 k hk j (Or.inr hj); omega) hr h2) (Prod.ext h3 h4))
  constructor
  · intro Q k h
    have x := aaddc_ext h
    have g1 := aaddc_GP g.1 h
    have g3 := aaddc_60 g.2.2 h
    have s := aaddc_s h
    have le := aadd_le (P := P) (nx l r a b)
    rw [s] at le
    have le1 : P.1 ≤ Q.1 := le.1
    have bd : BDP Q.2 Q.1 := by
      cases q : fnd P.2 (nx l r a b) P.1 with
      | some j =>
        rw [aadd_f q] at s
        cases s; exact g.2.1
      | none =>
        rw [aadd_n q] at s
        cases s
        intro i hi k hk
        have hi2 : i < P.1 + 1 := hi
        have hk2 : (if i = P.1 then nx l r a b else P.2 i).1.getLsbD k = true ∨ (if i = P.1 then nx l r a b else P.2 i).2.1.getLsbD k = true := hk
        by_cases c : i = P.1
        · rw [if_pos c] at hk2
          rcases hk2 with z | z
          · have := hl k z; omega
          · have := hr k z; omega
        · rw [if_neg c] at hk2
          exact g.2.1 i (by omega) k hk2
    have vk : val Q.2 k = VOF (val P.2) P.1 (nx l r a b) := by
      rw [val_VOF bd x.2.1, x.2.2]
      have e : ∀ y : BitVec 64, (∀ j : Nat, y.getLsbD j = true → j < P.1) → cset y (val Q.2) Q.1 = cset y (val P.2) P.1 := fun y hy => by
        rw [cset_ub hy Q.1 le.1]
        exact cset_congr _ (fun j hj => Ext_val x.1 hj)
      show cod4 (cset l (val Q.2) Q.1) (cset r (val Q.2) Q.1) _ _ = cod4 (cset l (val P.2) P.1) (cset r (val P.2) P.1) _ _
      rw [e l hl, e r hr]
    refine ⟨⟨g1, bd, g3⟩, x.1, x.2.1, vk, fun y => ?_⟩
    constructor
    · rintro ⟨j, j1, j2⟩
      by_cases c : j < P.1
      · exact Or.inl ⟨j, c, (Ext_val x.1 c).symm.trans j2⟩
      · have : j = k := by
          cases q : fnd P.2 (nx l r a b) P.1 with
          | some i => rw [aadd_f q] at s; cases s; exact absurd j1 c
          | none =>
            rw [aadd_n q] at s
            cases s
            have j3 : j < P.1 + 1 := j1
            show j = P.1
            omega
        exact Or.inr (by rw [← j2, this, vk])
    · rintro (⟨j, j1, j2⟩ | h2)
      · exact ⟨j, by omega, (Ext_val x.1 j1).trans j2⟩
      · exact ⟨k, x.2.1, by rw [vk, h2]⟩
  · intro h
    unfold aaddc at h
    by_cases c : P.1 < 60 ∨ (fnd P.2 (nx l r a b) P.1).isSome = true
    · rw [if_pos c] at h; cases h
    · have c1 : P.1 = 60 := by have := g.2.2; omega
      have c2 : fnd P.2 (nx l r a b) P.1 = none := by
        cases q : fnd P.2 (nx l r a b) P.1 with
        | none => rfl
        | some j => exact absurd (Or.inr (by rw [q]; rfl)) c
      have nn := fnd_none c2
      refine C60_no (f := fun i => if i < 60 then val P.2 i else VOF (val P.2) P.1 (nx l r a b)) (fun i hi => ?_) (fun i j hi hj e => ?_)
      · by_cases d : i < 60
        · simp only [if_pos d]; exact Or.inl ⟨i, by omega, rfl⟩
        · refine Or.inr ?_
          simp only [if_neg d]
      · by_cases d : i < 60 <;> by_cases d2 : j < 60
        · simp only [if_pos d, if_pos d2] at e
          exact PS_inj g (by omega) (by omega) e
        · simp only [if_pos d, if_neg d2] at e
          exact absurd (new i (by omega) e) (nn i (by omega))
        · simp only [if_neg d, if_pos d2] at e
          exact absurd (new j (by omega) e.symm) (nn j (by omega))
        · omega
theorem GV_C60 {P : AP} (g : GV P) : C60 (PS P) := ⟨val P.2, fun x ⟨k, k1, k2⟩ => ⟨k, by have := g.2.2; omega, k2⟩⟩
/-- the mask of the followers -/
def mskf (f : Nat → ND) (k : Nat) : BitVec 64 := (f k).1 ||| (f k).2.1
theorem mskf_b {f : Nat → ND} {k i : Nat} : (mskf f k).getLsbD i = true ↔ (f k).1.getLsbD i = true ∨ (f k).2.1.getLsbD i = true := by
  unfold mskf
  rw [BitVec.getLsbD_or, Bool.or_eq_true]
theorem clo_in {m : Nat → BitVec 64} {S : Nat → Prop} (hs : ∀ k i : Nat, S k → (m k).getLsbD i = true → S i) : ∀ (n : Nat) (x : BitVec 64), (∀ i : Nat, x.getLsbD i = true → S i) → ∀ i : Nat, (clo m n x).getLsbD i = true → S i
  | 0, x, h, i, hi => by
    unfold clo at hi
    by_cases c : x.getLsbD 0 = true
    · rw [if_pos c, BitVec.getLsbD_or, Bool.or_eq_true] at hi
      rcases hi with q | q
      · exact h i q
      · exact hs 0 i (h 0 c) q
    · rw [if_neg c] at hi; exact h i hi
  | n + 1, x, h, i, hi => by
    refine clo_in hs n _ (fun j hj => ?_) i hi
    by_cases c : x.getLsbD (n + 1) = true
    · rw [if_pos c, BitVec.getLsbD_or, Bool.or_eq_true] at hj
      rcases hj with q | q
      · exact h j q
      · exact hs (n + 1) j (h _ c) q
    · rw [if_neg c] at hj; exact h j hj
theorem one_bit {n k : Nat} (hn : n < 64) : (1#64 <<< n).getLsbD k = true ↔ k = n := by
  rw [BitVec.getLsbD_shiftLeft]
  constructor
  · intro h
    simp only [Bool.and_eq_true, decide_eq_true_eq, Bool.not_eq_true', decide_eq_false_iff_not] at h
    have h2 := h.2
    rw [BitVec.getLsbD_one] at h2
    simp at h2
    omega
  · intro h
    subst h
    simp [hn]
theorem rch_step {f : Nat → ND} {n i j k : Nat} (h : rch f n i j) (hk : k < j) (hb : (f j).1.getLsbD k = true ∨ (f j).2.1.getLsbD k = true) : rch f (n + 1) i k := rch_tr n 1 i j k h ⟨k, hk, hb, rfl⟩
/-- followers are what the paths come to -/
theorem clo_rch {f : Nat → ND} {n : Nat} (hb : BDP f (n + 1)) (hn : n < 64) (k : Nat) : (clo (mskf f) n (1#64 <<< n)).getLsbD k = true ↔ ∃ m, rch f m n k := by
  have cg : clo (mskf f) n (1#64 <<< n) = clo (fun i => if i ≤ n then mskf f i else 0#64) n (1#64 <<< n) := clo_congr n _ (fun i hi => (if_pos hi).symm)
  constructor
  · intro h
    rw [cg] at h
    refine (clo_in (S := fun k => k ≤ n ∧ ∃ m, rch f m n k) (fun j i ⟨j1, m, jm⟩ hi => ?_) n _ (fun i hi => ?_) k h).2
    · rw [if_pos j1] at hi
      have z := mskf_b.mp hi
      have := hb j (by omega) i z
      exact ⟨by omega, m + 1, rch_step jm this z⟩
    · rw [one_bit hn] at hi
      subst hi
      exact ⟨Nat.le_refl _, 0, rfl⟩
  · rintro ⟨m, h⟩
    rw [cg]
    have cl := clo_closed (m := fun i => if i ≤ n then mskf f i else 0#64) (fun k i hi => by
      by_cases c : k ≤ n
      · simp only [if_pos c] at hi
        exact hb k (by omega) i (mskf_b.mp hi)
      · simp only [if_neg c] at hi
        simp at hi) n (1#64 <<< n) (fun k i hk hx hi => by
      rw [one_bit hn] at hx
      omega)
    have key : ∀ m i k, i ≤ n → (clo (fun i => if i ≤ n then mskf f i else 0#64) n (1#64 <<< n)).getLsbD i = true → rch f m i k → (clo (fun i => if i ≤ n then mskf f i else 0#64) n (1#64 <<< n)).getLsbD k = true := by
      intro m
      induction m with
      | zero => intro i k _ hi r; have r' : i = k := r; rw [← r']; exact hi
      | succ m ih =>
        intro i k hi hx r
        obtain ⟨j, j1, j2, j3⟩ := r
        refine ih j k (by omega) (cl i j hx ?_) j3
        simp only [if_pos hi]
        exact mskf_b.mpr j2
    exact key m n k (Nat.le_refl _) (clo_sup n _ n ((one_bit hn).mpr rfl)) h
/-! how many bits: places of them -/
theorem cnt_enum (x : BitVec 64) : ∀ n, ∃ e : Nat → Nat, (∀ i j, i < gm_cnt x n → j < gm_cnt x n → e i = e j → i = j) ∧ (∀ i, i < gm_cnt x n → e i < n ∧ x.getLsbD (e i) = true) ∧ ∀ k, k < n → x.getLsbD k = true → ∃ i, i < gm_cnt x n ∧ e i = k
  | 0 => ⟨fun _ => 0, fun i _ hi => absurd hi (Nat.not_lt_zero _), fun i hi => absurd hi (Nat.not_lt_zero _), fun k hk => absurd hk (Nat.not_lt_zero _)⟩
  | n + 1 => by
    obtain ⟨e, e1, e2, e3⟩ := cnt_enum x n
    have s : gm_cnt x (n + 1) = gm_cnt x n + (if x.getLsbD n = true then 1 else 0) := rfl
    by_cases c : x.getLsbD n = true
    · rw [if_pos c] at s
      rw [s]
      refine ⟨fun i => if i = gm_cnt x n then n else e i, fun i j hi hj h => ?_, fun i hi => ?_, fun k hk hx => ?_⟩
      · by_cases p : i = gm_cnt x n <;> by_cases q : j = gm_cnt x n
        · omega
        · simp only [if_pos p, if_neg q] at h
          have := (e2 j (by omega)).1
          omega
        · simp only [if_neg p, if_pos q] at h
          have := (e2 i (by omega)).1
          omega
        · simp only [if_neg p, if_neg q] at h
          exact e1 i j (by omega) (by omega) h
      · by_cases p : i = gm_cnt x n
        · simp only [if_pos p]; exact ⟨Nat.lt_succ_self _, c⟩
        · simp only [if_neg p]
          have := e2 i (by omega)
          exact ⟨by omega, this.2⟩
      · by_cases p : k = n
        · exact ⟨gm_cnt x n, Nat.lt_succ_self _, by simp only [if_true]; exact p.symm⟩
        · obtain ⟨i, i1, i2⟩ := e3 k (by omega) hx
          refine ⟨i, by omega, ?_⟩
          simp only [if_neg (show ¬ i = gm_cnt x n by omega)]
          exact i2
    · rw [if_neg c] at s
      rw [s]
      refine ⟨e, e1, fun i hi => ?_, fun k hk hx => ?_⟩
      · have := e2 i hi
        exact ⟨by omega, this.2⟩
      · by_cases p : k = n
        · rw [p] at hx; exact absurd hx c
        · exact e3 k (by omega) hx
theorem cnt_ge {x : BitVec 64} {n : Nat} (h : Nat → Nat) (hi : ∀ i j, i < n → j < n → h i = h j → i = j) (hx : ∀ i, i < n → x.getLsbD (h i) = true) : n ≤ gm_cnt x 64 := by
  obtain ⟨e, e1, e2, e3⟩ := cnt_enum x 64
  exact pigeon (gm_cnt x 64) n h e hi (fun i hn => e3 (h i) (BitVec.lt_of_getLsbD (hx i hn)) (hx i hn))
theorem cnt_le2 {x : BitVec 64} {n : Nat} (h : Nat → Nat) (hx : ∀ k, x.getLsbD k = true → ∃ i, i < n ∧ h i = k) : gm_cnt x 64 ≤ n := by
  obtain ⟨e, e1, e2, e3⟩ := cnt_enum x 64
  exact pigeon n (gm_cnt x 64) e h e1 (fun i hn => hx (e i) (e2 i hn).2)
/-- as many as there are: then all of them -/
theorem cnt_all {x : BitVec 64} (h : Nat → Nat) (hi : ∀ i j, i < gm_cnt x 64 → j < gm_cnt x 64 → h i = h j → i = j) (hx : ∀ i, i < gm_cnt x 64 → x.getLsbD (h i) = true) (k : Nat) (hk : x.getLsbD k = true) : ∃ i, i < gm_cnt x 64 ∧ h i = k := by
  by_cases c : ∃ i, i < gm_cnt x 64 ∧ h i = k
  · exact c
  · have := cnt_ge (x := x) (n := gm_cnt x 64 + 1) (fun i => if i = gm_cnt x 64 then k else h i) (fun i j hi2 hj2 e => by
      by_cases p : i = gm_cnt x 64 <;> by_cases q : j = gm_cnt x 64
      · omega
      · simp only [if_pos p, if_neg q] at e
        exact absurd ⟨j, by omega, e.symm⟩ c
      · simp only [if_neg p, if_pos q] at e
        exact absurd ⟨i, by omega, e⟩ c
      · simp only [if_neg p, if_neg q] at e
        exact hi i j (by omega) (by omega) e) (fun i hi2 => by
      by_cases p : i = gm_cnt x 64
      · simp only [if_pos p]; exact hk
      · simp only [if_neg p]; exact hx i (by omega))
    omega
/-- a mask carried over -/
def CAR (m r : BitVec 64) (pl : Nat → Nat) : Prop := ∀ b : Nat, r.getLsbD b = true ↔ ∃ j, m.getLsbD j = true ∧ pl j = b
theorem CAR_cset {m r : BitVec 64} {pl : Nat → Nat} {f g : Nat → Nat} {p n : Nat} (h : CAR m r pl) (hm : ∀ j : Nat, m.getLsbD j = true → j < p ∧ pl j < n ∧ g (pl j) = f j) : cset r g n = cset m f p :=
  cset_eq (fun k _ hb => by
    obtain ⟨j, j1, j2⟩ := (h k).mp hb
    have := hm j j1
    exact ⟨j, this.1, j1, by rw [← j2, this.2.2]⟩) (fun j _ hb => by
    have := hm j hb
    exact ⟨pl j, this.2.1, (h (pl j)).mpr ⟨j, hb, rfl⟩, this.2.2⟩)
theorem CAR_0 {m r : BitVec 64} {pl : Nat → Nat} (h : CAR m r pl) : r = 0#64 ↔ m = 0#64 := by
  constructor
  · intro e
    refine BitVec.eq_of_getLsbD_eq fun i _ => ?_
    cases q : m.getLsbD i with
    | false => simp
    | true =>
      have := (h (pl i)).mpr ⟨i, q, rfl⟩
      rw [e] at this; simp at this
  · intro e
    refine BitVec.eq_of_getLsbD_eq fun i _ => ?_
    cases q : r.getLsbD i with
    | false => simp
    | true =>
      obtain ⟨j, j1, _⟩ := (h i).mp q
      rw [e] at j1; simp at j1
/-! a table out of a pool: places in their order -/
def TOI (f : Nat → ND) (at_ : Nat → Nat) (w : BitVec 64) (r nxt : Nat) (pl : Nat → Nat) (g : Nat → ND) : Prop :=
  (∀ q, q < r → w.getLsbD (at_ q) = true → pl (at_ q) < nxt ∧ val g (pl (at_ q)) = val f (at_ q)) ∧ (∀ i, i < nxt → ∃ q, q < r ∧ w.getLsbD (at_ q) = true ∧ pl (at_ q) = i) ∧ BDP g nxt
theorem TOI_0 {f g : Nat → ND} {at_ pl : Nat → Nat} {w : BitVec 64} : TOI f at_ w 0 0 pl g := ⟨fun q hq => absurd hq (Nat.not_lt_zero _), fun i hi => absurd hi (Nat.not_lt_zero _), fun i hi => absurd hi (Nat.not_lt_zero _)⟩
theorem TOI_n {f g : Nat → ND} {at_ pl : Nat → Nat} {w : BitVec 64} {r nxt : Nat} (h : TOI f at_ w r nxt pl g) (hw : ¬ w.getLsbD (at_ r) = true) : TOI f at_ w (r + 1) nxt pl g := ⟨fun q hq hb => by
    by_cases c : q = r
    · rw [c] at hb; exact absurd hb hw
    · exact h.1 q (by omega) hb, fun i hi => by
    obtain ⟨q, q1, q2⟩ := h.2.1 i hi
    exact ⟨q, by omega, q2⟩, h.2.2⟩
theorem TOI_y {f g g' : Nat → ND} {at_ pl pl' : Nat → Nat} {w : BitVec 64} {r nxt : Nat} (h : TOI f at_ w r nxt pl g) (hw : w.getLsbD (at_ r) = true) (inj : ∀ q, q < r → at_ q ≠ at_ r) (ho : ∀ j, ((f (at_ r)).1.getLsbD j = true ∨ (f (at_ r)).2.1.getLsbD j = true) → j < at_ r ∧ w.getLsbD j = true ∧ ∃ q, q < r ∧ at_ q = j) (hp : ∀ j, pl' j = if j = at_ r then nxt else pl j) (hg : ∀ i, i < nxt → g' i = g i) (c1 : CAR (f (at_ r)).1 (g' nxt).1 pl) (c2 : CAR (f (at_ r)).2.1 (g' nxt).2.1 pl) (e3 : (g' nxt).2.2.1 = (f (at_ r)).2.2.1) (e4 : (g' nxt).2.2.2 = (f (at_ r)).2.2.2) : TOI f at_ w (r + 1) (nxt + 1) pl' g' := by
  have old : ∀ i, i < nxt → val g' i = val g i := fun i hi => val_congr (i + 1) i (Nat.lt_succ_self _) (fun j hj => hg j (by omega))
  have key : ∀ j, ((f (at_ r)).1.getLsbD j = true ∨ (f (at_ r)).2.1.getLsbD j = true) → j < at_ r ∧ pl j < nxt ∧ val g' (pl j) = val f j := fun j hj => by
    obtain ⟨a, b, q, q1, q2⟩ := ho j hj
    have z := h.1 q q1 (by rw [q2]; exact b)
    rw [q2] at z
    exact ⟨a, z.1, (old _ z.1).trans z.2⟩
  have vn : val g' nxt = val f (at_ r) := by
    rw [val_e, val_e, e3, e4, CAR_cset c1 (fun j hj => key j (Or.inl hj)), CAR_cset c2 (fun j hj => key j (Or.inr hj))]
  refine ⟨fun q hq hb => ?_, fun i hi => ?_, fun i hi k hk => ?_⟩
  · by_cases c : q = r
    · subst c
      rw [hp, if_pos rfl]
      exact ⟨Nat.lt_succ_self _, vn⟩
    · have n1 := inj q (by omega)
      have z := h.1 q (by omega) hb
      rw [hp, if_neg n1]
      exact ⟨by omega, (old _ z.1).trans z.2⟩
  · by_cases c : i = nxt
    · exact ⟨r, Nat.lt_succ_self _, hw, by rw [hp, if_pos rfl, c]⟩
    · obtain ⟨q, q1, q2, q3⟩ := h.2.1 i (by omega)
      exact ⟨q, by omega, q2, by rw [hp, if_neg (inj q q1)]; exact q3⟩
  · by_cases c : i = nxt
    · subst c
      rcases hk with z | z
      · obtain ⟨j, j1, j2⟩ := (c1 k).mp z
        have := (key j (Or.inl j1)).2.1
        omega
      · obtain ⟨j, j1, j2⟩ := (c2 k).mp z
        have := (key j (Or.inr j1)).2.1
        omega
    · rw [hg i (by omega)] at hk
      exact h.2.2 i (by omega) k hk
def MNO (at_ : Nat → Nat) (w : BitVec 64) (r : Nat) (pl : Nat → Nat) : Prop := ∀ q q', q < q' → q' < r → w.getLsbD (at_ q) = true → w.getLsbD (at_ q') = true → pl (at_ q) < pl (at_ q')
theorem MNO_0 {at_ pl : Nat → Nat} {w : BitVec 64} : MNO at_ w 0 pl := fun q q' _ h => absurd h (Nat.not_lt_zero _)
theorem MNO_n {at_ pl : Nat → Nat} {w : BitVec 64} {r : Nat} (h : MNO at_ w r pl) (hw : ¬ w.getLsbD (at_ r) = true) : MNO at_ w (r + 1) pl := fun q q' a b c d => by
  by_cases e : q' = r
  · rw [e] at d; exact absurd d hw
  · exact h q q' a (by omega) c d
theorem MNO_y {f g : Nat → ND} {at_ pl pl' : Nat → Nat} {w : BitVec 64} {r nxt : Nat} (m : MNO at_ w r pl) (h : TOI f at_ w r nxt pl g) (inj : ∀ q, q < r → at_ q ≠ at_ r) (hp : ∀ j, pl' j = if j = at_ r then nxt else pl j) : MNO at_ w (r + 1) pl' := fun q q' a b c d => by
  have n1 := inj q (by omega)
  rw [hp, if_neg n1, hp]
  by_cases e : q' = r
  · rw [e, if_pos rfl]
    exact (h.1 q (by omega) c).1
  · rw [if_neg (inj q' (by omega))]
    exact m q q' a (by omega) c d
/-- the table stands: all places that are wanted, the node last -/
theorem TOI_end {f g : Nat → ND} {at_ pl : Nat → Nat} {w : BitVec 64} {r nxt n node : Nat} (h : TOI f at_ w r nxt pl g) (hb : BDP f n) (hd : DIS f n) (hnode : node < n) (h64 : node < 64) (hw : w = clo (mskf f) node (1#64 <<< node)) (hr : r ≤ n) (inj : ∀ q q', q < n → q' < n → at_ q = at_ q' → q = q') (rng : ∀ q, q < n → at_ q < n) (onto : ∀ k, k < n → ∃ q, q < n ∧ at_ q = k) (last : ∀ q, q < n → w.getLsbD (at_ q) = true → ∀ q', q' < n → at_ q' = node → q ≤ q') (mono : ∀ q q', q < q' → q' < r → w.getLsbD (at_ q) = true → w.getLsbD (at_ q') = true → pl (at_ q) < pl (at_ q')) (end_ : nxt = gm_cnt w 64 ∨ r = n) (le : nxt ≤ gm_cnt w 64) : nxt = gm_cnt w 64 ∧ TBL g nxt ∧ val g (nxt - 1) = val f node ∧ ∀ i, i < nxt → ∃ k, k < n ∧ val f k = val g i := by
  have rw_ : ∀ k, w.getLsbD k = true ↔ ∃ m, rch f m node k := fun k => by rw [hw]; exact clo_rch (fun i hi => hb i (by omega)) h64 k
  have wn : w.getLsbD node = true := (rw_ node).mpr ⟨0, rfl⟩
  have wle : ∀ k, w.getLsbD k = true → k ≤ node := fun k hk => by
    obtain ⟨m, hm⟩ := (rw_ k).mp hk
    exact rch_le m _ _ hm
  have bk : ∃ b : Nat → Nat, ∀ i, i < nxt → b i < r ∧ w.getLsbD (at_ (b i)) = true ∧ pl (at_ (b i)) = i := by
    refine ⟨fun i => if c : ∃ q, q < r ∧ w.getLsbD (at_ q) = true ∧ pl (at_ q) = i then Classical.choose c else 0, fun i hi => ?_⟩
    have c := h.2.1 i hi
    simp only [dif_pos c]
    exact Classical.choose_spec c
  obtain ⟨b, hb2⟩ := bk
  have all : nxt = gm_cnt w 64 ∧ ∀ k, w.getLsbD k = true → ∃ q, q < r ∧ at_ q = k := by
    rcases end_ with e | e
    · refine ⟨e, fun k hk => ?_⟩
      obtain ⟨i, i1, i2⟩ := cnt_all (x := w) (fun i => at_ (b i)) (fun i j hi hj q => by
        have a1 := hb2 i (by omega)
        have a2 := hb2 j (by omega)
        have q' : at_ (b i) = at_ (b j) := q
        rw [← a1.2.2, ← a2.2.2, q']) (fun i hi => (hb2 i (by omega)).2.1) k hk
      exact ⟨b i, (hb2 i (by omega)).1, i2⟩
    · have ex : ∀ k, w.getLsbD k = true → ∃ q, q < r ∧ at_ q = k := fun k hk => by
        have := wle k hk
        obtain ⟨q, q1, q2⟩ := onto k (by omega)
        exact ⟨q, by omega, q2⟩
      refine ⟨?_, ex⟩
      have := cnt_le2 (x := w) (n := nxt) (fun i => at_ (b i)) (fun k hk => by
        obtain ⟨q, q1, q2⟩ := ex k hk
        have z := h.1 q q1 (by rw [q2]; exact hk)
        refine ⟨pl (at_ q), z.1, ?_⟩
        have a1 := hb2 _ z.1
        have v1 := h.1 (b (pl (at_ q))) a1.1 a1.2.1
        rw [a1.2.2, z.2] at v1
        have := val_inj hb hd n (Nat.le_refl _) (at_ q) (at_ (b (pl (at_ q)))) (rng q (by omega)) (rng _ (by omega)) v1.2
        show at_ (b (pl (at_ q))) = k
        rw [← this, q2])
      omega
  obtain ⟨e, all⟩ := all
  obtain ⟨q0, q01, q02⟩ := all node wn
  have z0 := h.1 q0 q01 (by rw [q02]; exact wn)
  have root : pl (at_ q0) = nxt - 1 := by
    have a1 := hb2 (nxt - 1) (by omega)
    have ll := last (b (nxt - 1)) (by omega) a1.2.1 q0 (by omega) q02
    by_cases c : b (nxt - 1) = q0
    · rw [← c]; exact a1.2.2
    · have := mono _ q0 (show b (nxt - 1) < q0 by omega) q01 a1.2.1 (by rw [q02]; exact wn)
      omega
  have vr : val g (nxt - 1) = val f node := by rw [← root, z0.2, q02]
  have ginj : ∀ i j, i < nxt → j < nxt → val g i = val g j → i = j := fun i j hi hj q => by
    have a1 := hb2 i hi
    have a2 := hb2 j hj
    have v1 := h.1 _ a1.1 a1.2.1
    have v2 := h.1 _ a2.1 a2.2.1
    rw [a1.2.2] at v1
    rw [a2.2.2] at v2
    have := val_inj hb hd n (Nat.le_refl _) (at_ (b i)) (at_ (b j)) (rng _ (by omega)) (rng _ (by omega)) (by rw [← v1.2, ← v2.2, q])
    rw [← a1.2.2, ← a2.2.2, this]
  refine ⟨e, ⟨by omega, h.2.2, fun i j hi hj q => ginj i j hi hj ?_, fun i hi => ?_⟩, vr, fun i hi => ?_⟩
  · rw [val_e, val_e, q]
    have u : ∀ x : BitVec 64, (∀ k : Nat, x.getLsbD k = true → k < i ∧ k < j) → cset x (val g) i = cset x (val g) j := fun x hx => by
      rw [← cset_ub (n := i + j) (fun k hk => (hx k hk).1) (by omega), ← cset_ub (n := i + j) (fun k hk => (hx k hk).2) (by omega)]
    rw [u _ (fun k hk => ⟨h.2.2 i hi k (Or.inl (by rw [q]; exact hk)), h.2.2 j hj k (Or.inl hk)⟩), u _ (fun k hk => ⟨h.2.2 i hi k (Or.inr (by rw [q]; exact hk)), h.2.2 j hj k (Or.inr hk)⟩)]
  · have a1 := hb2 i hi
    obtain ⟨m, hm⟩ := (rw_ _).mp a1.2.1
    obtain ⟨k', c1, c2⟩ := rch_val m node (nxt - 1) _ vr.symm hm
    have v1 := h.1 _ a1.1 a1.2.1
    rw [a1.2.2] at v1
    have le2 := rch_le _ _ _ c1
    have : k' = i := ginj k' i (by omega) hi (c2.trans v1.2.symm)
    rw [← this]; exact ⟨m, c1⟩
  · have a1 := hb2 i hi
    have v1 := h.1 _ a1.1 a1.2.1
    rw [a1.2.2] at v1
    exact ⟨_, rng _ (by omega), v1.2.symm⟩
/-! negatives and sums, made in a pool -/
def NEG : ALG := fun L R a b => cod4 R L (-b) (-a)
def negv (f : Nat → ND) (i : Nat) : Nat := fv NEG f i
theorem negv_e (f : Nat → ND) (i : Nat) : negv f i = cod4 (cset (f i).2.1 (negv f) i) (cset (f i).1 (negv f) i) (-(f i).2.2.2) (-(f i).2.2.1) := fv_e NEG f i
/-- numbers stand where a side is shut alone -/
def NRM (f : Nat → ND) (n : Nat) : Prop := ∀ k, k < n → (¬ (f k).1 = 0#64 → (f k).2.2.1 = 0) ∧ (¬ (f k).2.1 = 0#64 → (f k).2.2.2 = 0)
def NGI (f : Nat → ND) (P : AP) (pl : Nat → Nat) (i : Nat) : Prop := (∀ k, k < i → pl k < P.1 ∧ val P.2 (pl k) = negv f k) ∧ ∀ y, PS P y → ∃ k, k < i ∧ y = negv f k
theorem NGI_0 {f : Nat → ND} {pl : Nat → Nat} : NGI f (0, fun _ => nx 0#64 0#64 0 0) pl 0 := ⟨fun k hk => absurd hk (Nat.not_lt_zero _), fun y h => absurd h PS_0⟩
theorem CAR_b {m r : BitVec 64} {pl : Nat → Nat} {p n : Nat} (h : CAR m r pl) (hm : ∀ j : Nat, m.getLsbD j = true → j < p) (hp : ∀ k, k < p → pl k < n) : ∀ b : Nat, r.getLsbD b = true → b < n := fun b hb => by
  obtain ⟨j, j1, j2⟩ := (h b).mp hb
  rw [← j2]; exact hp j (hm j j1)
theorem nrm_0 {l m : BitVec 64} {a : Int} (h : l = 0#64 ↔ m = 0#64) (hm : ¬ m = 0#64 → a = 0) : nrm l a = a := by
  unfold nrm
  by_cases c : l = 0#64
  · rw [if_pos c]
  · rw [if_neg c, hm (fun q => c (h.mpr q))]
theorem NGI_v {f : Nat → ND} {P : AP} {pl : Nat → Nat} {i : Nat} {l r : BitVec 64} {a b : Int} (h : NGI f P pl i) (hb : ∀ k : Nat, ((f i).1.getLsbD k = true ∨ (f i).2.1.getLsbD k = true) → k < i) (hn : (¬ (f i).1 = 0#64 → (f i).2.2.1 = 0) ∧ (¬ (f i).2.1 = 0#64 → (f i).2.2.2 = 0)) (hl : CAR (f i).2.1 l pl) (hr : CAR (f i).1 r pl) (ha : a = -(f i).2.2.2) (hb2 : b = -(f i).2.2.1) : (∀ k : Nat, l.getLsbD k = true → k < P.1) ∧ (∀ k : Nat, r.getLsbD k = true → k < P.1) ∧ VOF (val P.2) P.1 (nx l r a b) = negv f i := by
  have e1 := CAR_cset hl (f := negv f) (g := val P.2) (p := i) (n := P.1) (fun j hj => ⟨hb j (Or.inr hj), h.1 j (hb j (Or.inr hj))⟩)
  have e2 := CAR_cset hr (f := negv f) (g := val P.2) (p := i) (n := P.1) (fun j hj => ⟨hb j (Or.inl hj), h.1 j (hb j (Or.inl hj))⟩)
  refine ⟨CAR_b hl (fun j hj => hb j (Or.inr hj)) (fun k hk => (h.1 k hk).1), CAR_b hr (fun j hj => hb j (Or.inl hj)) (fun k hk => (h.1 k hk).1), ?_⟩
  rw [negv_e]
  show cod4 (cset l (val P.2) P.1) (cset r (val P.2) P.1) (nrm l a) (nrm r b) = _
  rw [e1, e2, nrm_0 (CAR_0 hl) (fun q => by rw [ha, hn.2 q]; rfl), nrm_0 (CAR_0 hr) (fun q => by rw [hb2, hn.1 q]; rfl), ha, hb2]
theorem NGI_s {f : Nat → ND} {P Q : AP} {pl pl' : Nat → Nat} {i k : Nat} (h : NGI f P pl i) (e : Ext P Q) (hk : k < Q.1) (hv : val Q.2 k = negv f i) (hs : ∀ y, PS Q y ↔ PS P y ∨ y = negv f i) (hp : ∀ j, pl' j = if j = i then k else pl j) : NGI f Q pl' (i + 1) := ⟨fun j hj => by
    rw [hp]
    by_cases c : j = i
    · rw [if_pos c, c]; exact ⟨hk, hv⟩
    · rw [if_neg c]
      have z := h.1 j (by omega)
      exact ⟨by have := e.1; omega, (Ext_val e z.1).trans z.2⟩, fun y hy => by
    rcases (hs y).mp hy with q | q
    · obtain ⟨j, j1, j2⟩ := h.2 y q
      exact ⟨j, by omega, j2⟩
    · exact ⟨i, Nat.lt_succ_self _, q⟩⟩
/-- the negative's places are no more than the game's -/
theorem NGI_60 {f : Nat → ND} {P : AP} {pl : Nat → Nat} {i n : Nat} (h : NGI f P pl i) (hi : i < n) (hn : n ≤ 60) : C60 (fun y => PS P y ∨ y = negv f i) := ⟨negv f, fun y hy => by
    rcases hy with q | q
    · obtain ⟨k, k1, k2⟩ := h.2 y q
      exact ⟨k, by omega, k2.symm⟩
    · exact ⟨i, by omega, q.symm⟩⟩
theorem negv_eq {f g : Nat → ND} {i j : Nat} (h : val f i = val g j) : negv f i = negv g j := fv_eq (i + 1) i j (Nat.lt_succ_self _) h
/-! sums -/
def bef (i j i' j' : Nat) : Prop := i' < i ∨ (i' = i ∧ j' < j)
def SMI (f g : Nat → ND) (m : Nat) (P : AP) (pr : Nat → Nat) (i j : Nat) : Prop := (∀ i' j', j' < m → bef i j i' j' → pr (i' * 60 + j') < P.1 ∧ val P.2 (pr (i' * 60 + j')) = sm f g i' j') ∧ ∀ y, PS P y → ∃ i' j', j' < m ∧ bef i j i' j' ∧ y = sm f g i' j'
theorem SMI_0 {f g : Nat → ND} {m : Nat} {pr : Nat → Nat} : SMI f g m (0, fun _ => nx 0#64 0#64 0 0) pr 0 0 := ⟨fun i' j' _ h => by unfold bef at h; omega, fun y h => absurd h PS_0⟩
theorem SMI_r {f g : Nat → ND} {m : Nat} {P : AP} {pr : Nat → Nat} {i j : Nat} (h : SMI f g m P pr i j) (hj : j = m) : SMI f g m P pr (i + 1) 0 := ⟨fun i' j' hj' hb => h.1 i' j' hj' (by unfold bef at hb ⊢; omega), fun y hy => by
  obtain ⟨i', j', a, b, c⟩ := h.2 y hy
  exact ⟨i', j', a, by unfold bef at b ⊢; omega, c⟩⟩
/-- the mask of a pair -/
def PMK (x y : BitVec 64) (pr : Nat → Nat) (i j : Nat) (r : BitVec 64) : Prop := ∀ b : Nat, r.getLsbD b = true ↔ (∃ k, x.getLsbD k = true ∧ pr (k * 60 + j) = b) ∨ ∃ k, y.getLsbD k = true ∧ pr (i * 60 + k) = b
theorem PMK_v {f g : Nat → ND} {m : Nat} {P : AP} {pr : Nat → Nat} {i j : Nat} (h : SMI f g m P pr i j) (hj : j < m) {x y r : BitVec 64} (hx : ∀ k : Nat, x.getLsbD k = true → k < i) (hy : ∀ k : Nat, y.getLsbD k = true → k < j) (hr : PMK x y pr i j r) : (∀ k : Nat, r.getLsbD k = true → k < P.1) ∧ cset r (val P.2) P.1 = cset x (fun k => sm f g k j) i ||| cset y (fun k => sm f g i k) j := by
  have A : ∀ k, x.getLsbD k = true → pr (k * 60 + j) < P.1 ∧ val P.2 (pr (k * 60 + j)) = sm f g k j := fun k hk => h.1 k j hj (Or.inl (hx k hk))
  have B : ∀ k, y.getLsbD k = true → pr (i * 60 + k) < P.1 ∧ val P.2 (pr (i * 60 + k)) = sm f g i k := fun k hk => h.1 i k (by have := hy k hk; omega) (Or.inr ⟨rfl, hy k hk⟩)
  refine ⟨fun b hb => ?_, Nat.eq_of_testBit_eq fun b => ?_⟩
  · rcases (hr b).mp hb with ⟨k, k1, k2⟩ | ⟨k, k1, k2⟩
    · rw [← k2]; exact (A k k1).1
    · rw [← k2]; exact (B k k1).1
  · have L := @cset_bit r (val P.2) b P.1
    have R : (cset x (fun k => sm f g k j) i ||| cset y (fun k => sm f g i k) j).testBit b = true ↔ (∃ k, k < i ∧ x.getLsbD k = true ∧ sm f g k j = b) ∨ ∃ k, k < j ∧ y.getLsbD k = true ∧ sm f g i k = b := by
      rw [Nat.testBit_or, Bool.or_eq_true, cset_bit, cset_bit]
    have key : (∃ k, k < P.1 ∧ r.getLsbD k = true ∧ val P.2 k = b) ↔ ((∃ k, k < i ∧ x.getLsbD k = true ∧ sm f g k j = b) ∨ ∃ k, k < j ∧ y.getLsbD k = true ∧ sm f g i k = b) := by
      constructor
      · rintro ⟨k, k1, k2, k3⟩
        rcases (hr k).mp k2 with ⟨q, q1, q2⟩ | ⟨q, q1, q2⟩
        · exact Or.inl ⟨q, hx q q1, q1, by rw [← (A q q1).2, q2, k3]⟩
        · exact Or.inr ⟨q, hy q q1, q1, by rw [← (B q q1).2, q2, k3]⟩
      · rintro (⟨k, k1, k2, k3⟩ | ⟨k, k1, k2, k3⟩)
        · exact ⟨_, (A k k2).1, (hr _).mpr (Or.inl ⟨k, k2, rfl⟩), (A k k2).2.trans k3⟩
        · exact ⟨_, (B k k2).1, (hr _).mpr (Or.inr ⟨k, k2, rfl⟩), (B k k2).2.trans k3⟩
    have e := L.trans (key.trans R.symm)
    cases p : (cset r (val P.2) P.1).testBit b <;> cases q : (cset x (fun k => sm f g k j) i ||| cset y (fun k => sm f g i k) j).testBit b
    · rfl
    · have := e.mpr q; rw [p] at this; cases this
    · have := e.mp p; rw [q] at this; cases this
    · rfl
theorem cset_0 {x : BitVec 64} {v : Nat → Nat} {n : Nat} (hx : ∀ k : Nat, x.getLsbD k = true → k < n) : cset x v n = 0 ↔ x = 0#64 := by
  constructor
  · intro h
    refine BitVec.eq_of_getLsbD_eq fun i _ => ?_
    cases q : x.getLsbD i with
    | false => simp
    | true =>
      have := (@cset_bit x v (v i) n).mpr ⟨i, hx i q, q, rfl⟩
      rw [h, Nat.zero_testBit] at this; cases this
  · intro h
    refine Nat.eq_of_testBit_eq fun i => ?_
    rw [Nat.zero_testBit]
    cases q : (cset x v n).testBit i with
    | false => rfl
    | true =>
      obtain ⟨k, _, k2, _⟩ := (cset_bit n).mp q
      rw [h] at k2; simp at k2
theorem SMI_v {f g : Nat → ND} {m : Nat} {P : AP} {pr : Nat → Nat} {i j : Nat} {l r : BitVec 64} {a b : Int} (h : SMI f g m P pr i j) (hj : j < m) (hf : ∀ k : Nat, ((f i).1.getLsbD k = true ∨ (f i).2.1.getLsbD k = true) → k < i) (hg : ∀ k : Nat, ((g j).1.getLsbD k = true ∨ (g j).2.1.getLsbD k = true) → k < j) (hl : PMK (f i).1 (g j).1 pr i j l) (hr : PMK (f i).2.1 (g j).2.1 pr i j r) (ha : a = (f i).2.2.1 + (g j).2.2.1) (hb : b = (f i).2.2.2 + (g j).2.2.2) : (∀ k : Nat, l.getLsbD k = true → k < P.1) ∧ (∀ k : Nat, r.getLsbD k = true → k < P.1) ∧ VOF (val P.2) P.1 (nx l r a b) = sm f g i j := by
  have e1 := PMK_v h hj (fun k hk => hf k (Or.inl hk)) (fun k hk => hg k (Or.inl hk)) hl
  have e2 := PMK_v h hj (fun k hk => hf k (Or.inr hk)) (fun k hk => hg k (Or.inr hk)) hr
  refine ⟨e1.1, e2.1, ?_⟩
  rw [sm_e]
  have z1 := cset_0 (v := val P.2) e1.1
  have z2 := cset_0 (v := val P.2) e2.1
  show cod4 (cset l (val P.2) P.1) (cset r (val P.2) P.1) (nrm l a) (nrm r b) = cod4 (cset (f i).1 (fun k => sm f g k j) i ||| cset (g j).1 (fun k => sm f g i k) j) (cset (f i).2.1 (fun k => sm f g k j) i ||| cset (g j).2.1 (fun k => sm f g i k) j) (if cset (f i).1 (fun k => sm f g k j) i ||| cset (g j).1 (fun k => sm f g i k) j = 0 then (f i).2.2.1 + (g j).2.2.1 else 0) (if cset (f i).2.1 (fun k => sm f g k j) i ||| cset (g j).2.1 (fun k => sm f g i k) j = 0 then (f i).2.2.2 + (g j).2.2.2 else 0)
  rw [← e1.2, ← e2.2, ← ha, ← hb]
  unfold nrm
  by_cases c : l = 0#64 <;> by_cases d : r = 0#64
  · rw [if_pos c, if_pos d, if_pos (z1.mpr c), if_pos (z2.mpr d)]
  · rw [if_pos c, if_neg d, if_pos (z1.mpr c), if_neg (fun q => d (z2.mp q))]
  · rw [if_neg c, if_pos d, if_neg (fun q => c (z1.mp q)), if_pos (z2.mpr d)]
  · rw [if_neg c, if_neg d, if_neg (fun q => c (z1.mp q)), if_neg (fun q => d (z2.mp q))]
theorem SMI_s {f g : Nat → ND} {m : Nat} {P Q : AP} {pr pr' : Nat → Nat} {i j k : Nat} (h : SMI f g m P pr i j) (hm : m ≤ 60) (hj : j < m) (e : Ext P Q) (hk : k < Q.1) (hv : val Q.2 k = sm f g i j) (hs : ∀ y, PS Q y ↔ PS P y ∨ y = sm f g i j) (hp : ∀ q, pr' q = if q = i * 60 + j then k else pr q) : SMI f g m Q pr' i (j + 1) := ⟨fun i' j' hj' hb => by
    rw [hp]
    by_cases c : i' * 60 + j' = i * 60 + j
    · have c1 : i' = i := by omega
      have c2 : j' = j := by omega
      rw [if_pos c, c1, c2]; exact ⟨hk, hv⟩
    · rw [if_neg c]
      have z := h.1 i' j' hj' (by unfold bef at hb ⊢; omega)
      exact ⟨by have := e.1; omega, (Ext_val e z.1).trans z.2⟩, fun y hy => by
    rcases (hs y).mp hy with q | q
    · obtain ⟨i', j', a, b, c⟩ := h.2 y q
      exact ⟨i', j', a, by unfold bef at b ⊢; omega, c⟩
    · exact ⟨i, j, hj, by unfold bef; omega, q⟩⟩
/-- there is no room: nor has the sum -/
theorem SMI_full {f g : Nat → ND} {n m : Nat} {P : AP} {pr : Nat → Nat} {i j : Nat} (h : SMI f g m P pr i j) (hf : TBL f n) (hg : TBL g m) (hi : i < n) (hj : j < m) (full : ¬ C60 (fun y => PS P y ∨ y = sm f g i j)) : ¬ C60 (SMS f g (n - 1) (m - 1)) := fun c => full (C60_mono c (fun y hy => by
  have key : ∀ i' j', i' < n → j' < m → SMS f g (n - 1) (m - 1) (sm f g i' j') := fun i' j' a b => by
    obtain ⟨p, hp⟩ := hf.2.2.2 i' a
    obtain ⟨q, hq⟩ := hg.2.2.2 j' b
    exact ⟨p, i', q, j', hp, hq, rfl⟩
  rcases hy with q | q
  · obtain ⟨i', j', a, b, c⟩ := h.2 y q
    rw [c]
    exact key i' j' (by unfold bef at b; omega) a
  · rw [q]; exact key i j hi hj))
theorem SMI_room {f g : Nat → ND} {n m : Nat} {P : AP} {pr : Nat → Nat} (h : SMI f g m P pr n 0) (g60 : P.1 ≤ 60) (hn : 0 < n) (hm : 0 < m) : C60 (SMS f g (n - 1) (m - 1)) := ⟨val P.2, fun x ⟨a, k, b, k', h1, h2, h3⟩ => by
  have l1 := rch_le _ _ _ h1
  have l2 := rch_le _ _ _ h2
  have z := h.1 k k' (by omega) (Or.inl (by omega))
  exact ⟨_, by omega, z.2.trans h3.symm⟩⟩
/-! a framed game: options, and what they bring -/
def FLV (x y : Nat) : Prop := ∃ (f : Nat → ND) (n : Nat), TBL f n ∧ val f (n - 1) = x ∧ FOL f (n - 1) y
theorem FLV_of {f : Nat → ND} {n y : Nat} (h : TBL f n) : FLV (val f (n - 1)) y ↔ FOL f (n - 1) y := by
  constructor
  · rintro ⟨g, m, g1, g2, g3⟩
    exact FOL_eq g2 g3
  · intro q
    exact ⟨f, n, h, rfl, q⟩
/-- options as the bits of a number -/
def OBS (O y : Nat) : Prop := ∃ x, O.testBit x = true ∧ FLV x y
theorem OBS_0 {y : Nat} : ¬ OBS 0 y := fun ⟨x, h, _⟩ => by rw [Nat.zero_testBit] at h; cases h
theorem OBS_s {O x y : Nat} : OBS (O ||| 2 ^ x) y ↔ OBS O y ∨ FLV x y := by
  constructor
  · rintro ⟨z, h, q⟩
    rw [Nat.testBit_or, Bool.or_eq_true, Nat.testBit_two_pow] at h
    rcases h with h | h
    · exact Or.inl ⟨z, h, q⟩
    · have : x = z := by simpa using h
      rw [this]; exact Or.inr q
  · rintro (⟨z, h, q⟩ | q)
    · exact ⟨z, by rw [Nat.testBit_or, h, Bool.true_or], q⟩
    · exact ⟨x, by rw [Nat.testBit_or, Nat.testBit_two_pow]; simp, q⟩
def frv (OL OR : Nat) (a b : Int) : Nat := cod4 OL OR (if OL = 0 then a else 0) (if OR = 0 then b else 0)
def FRS (OL OR : Nat) (v y : Nat) : Prop := OBS OL y ∨ OBS OR y ∨ y = v
/-- options that came to the pool -/
def OPI (P : AP) (l r : BitVec 64) (OL OR : Nat) : Prop := (∀ k : Nat, l.getLsbD k = true → k < P.1) ∧ (∀ k : Nat, r.getLsbD k = true → k < P.1) ∧ cset l (val P.2) P.1 = OL ∧ cset r (val P.2) P.1 = OR ∧ ∀ y, PS P y ↔ OBS OL y ∨ OBS OR y
theorem cset_z (v : Nat → Nat) : ∀ n, cset 0#64 v n = 0
  | 0 => rfl
  | n + 1 => by
    rw [cset_s, cset_z v n, if_neg (by simp)]; rfl
theorem OPI_0 : OPI (0, fun _ => nx 0#64 0#64 0 0) 0#64 0#64 0 0 := ⟨fun k h => by simp at h, fun k h => by simp at h, rfl, rfl, fun y => ⟨fun h => absurd h PS_0, fun h => by rcases h with h | h <;> exact absurd h OBS_0⟩⟩
theorem cset_or {x : BitVec 64} {v w : Nat → Nat} {n m k : Nat} (hx : ∀ j : Nat, x.getLsbD j = true → j < n) (hnm : n ≤ m) (hv : ∀ j, j < n → w j = v j) (hk : k < m) (h64 : k < 64) : cset (x ||| 1#64 <<< k) w m = cset x v n ||| 2 ^ w k := by
  refine Nat.eq_of_testBit_eq fun i => ?_
  have a := @cset_bit (x ||| 1#64 <<< k) w i m
  have b := @cset_bit x v i n
  have c : (cset x v n ||| 2 ^ w k).testBit i = true ↔ (cset x v n).testBit i = true ∨ w k = i := by
    rw [Nat.testBit_or, Bool.or_eq_true, Nat.testBit_two_pow, decide_eq_true_eq]
  have key : (cset (x ||| 1#64 <<< k) w m).testBit i = true ↔ (cset x v n ||| 2 ^ w k).testBit i = true := by
    rw [a, c, b]
    constructor
    · rintro ⟨j, j1, j2, j3⟩
      rw [BitVec.getLsbD_or, Bool.or_eq_true, one_bit h64] at j2
      rcases j2 with q | q
      · exact Or.inl ⟨j, hx j q, q, by rw [← hv j (hx j q)]; exact j3⟩
      · rw [q] at j3; exact Or.inr j3
    · rintro (⟨j, j1, j2, j3⟩ | q)
      · exact ⟨j, by omega, by rw [BitVec.getLsbD_or, j2]; rfl, by rw [hv j j1]; exact j3⟩
      · exact ⟨k, hk, by rw [BitVec.getLsbD_or, Bool.or_eq_true]; exact Or.inr ((one_bit h64).mpr rfl), q⟩
  cases p : (cset (x ||| 1#64 <<< k) w m).testBit i <;> cases q : (cset x v n ||| 2 ^ w k).testBit i
  · rfl
  · have := key.mpr q; rw [p] at this; cases this
  · have := key.mp p; rw [q] at this; cases this
  · rfl
theorem OPI_l {P Q : AP} {l r : BitVec 64} {OL OR x k : Nat} (h : OPI P l r OL OR) (e : Ext P Q) (g60 : Q.1 ≤ 60) (hk : k < Q.1) (hv : val Q.2 k = x) (hs : ∀ y, PS Q y ↔ PS P y ∨ FLV x y) : OPI Q (l ||| 1#64 <<< k) r (OL ||| 2 ^ x) OR := by
  obtain ⟨h1, h2, h3, h4, h5⟩ := h
  refine ⟨fun j hj => ?_, fun j hj => by have := h2 j hj; have := e.1; omega, ?_, ?_, fun y => ?_⟩
  · rw [BitVec.getLsbD_or, Bool.or_eq_true, one_bit (by omega)] at hj
    rcases hj with q | q
    · have := h1 j q; have := e.1; omega
    · omega
  · rw [cset_or h1 e.1 (fun j hj => Ext_val e hj) hk (by omega), h3, hv]
  · rw [cset_ub h2 Q.1 e.1, cset_congr _ (fun j hj => Ext_val e hj), h4]
  · rw [hs, h5, OBS_s]
    constructor
    · rintro ((q | q) | q)
      · exact Or.inl (Or.inl q)
      · exact Or.inr q
      · exact Or.inl (Or.inr q)
    · rintro ((q | q) | q)
      · exact Or.inl (Or.inl q)
      · exact Or.inr q
      · exact Or.inl (Or.inr q)
theorem OPI_r {P Q : AP} {l r : BitVec 64} {OL OR x k : Nat} (h : OPI P l r OL OR) (e : Ext P Q) (g60 : Q.1 ≤ 60) (hk : k < Q.1) (hv : val Q.2 k = x) (hs : ∀ y, PS Q y ↔ PS P y ∨ FLV x y) : OPI Q l (r ||| 1#64 <<< k) OL (OR ||| 2 ^ x) := by
  obtain ⟨h1, h2, h3, h4, h5⟩ := h
  have z := OPI_l (P := P) (l := r) (r := l) (OL := OR) (OR := OL) ⟨h2, h1, h4, h3, fun y => by rw [h5]; exact Or.comm⟩ e g60 hk hv hs
  obtain ⟨z1, z2, z3, z4, z5⟩ := z
  exact ⟨z2, z1, z4, z3, fun y => by rw [z5]; exact Or.comm⟩
theorem OPI_v {P : AP} {l r : BitVec 64} {OL OR : Nat} {a b : Int} (h : OPI P l r OL OR) : VOF (val P.2) P.1 (nx l r a b) = frv OL OR a b := by
  obtain ⟨h1, h2, h3, h4, h5⟩ := h
  have z1 := cset_0 (v := val P.2) h1
  have z2 := cset_0 (v := val P.2) h2
  rw [h3] at z1
  rw [h4] at z2
  show cod4 (cset l (val P.2) P.1) (cset r (val P.2) P.1) (nrm l a) (nrm r b) = cod4 OL OR (if OL = 0 then a else 0) (if OR = 0 then b else 0)
  rw [h3, h4]
  unfold nrm
  by_cases c : l = 0#64 <;> by_cases d : r = 0#64
  · rw [if_pos c, if_pos d, if_pos (z1.mpr c), if_pos (z2.mpr d)]
  · rw [if_pos c, if_neg d, if_pos (z1.mpr c), if_neg (fun q => d (z2.mp q))]
  · rw [if_neg c, if_pos d, if_neg (fun q => c (z1.mp q)), if_pos (z2.mpr d)]
  · rw [if_neg c, if_neg d, if_neg (fun q => c (z1.mp q)), if_neg (fun q => d (z2.mp q))]
/-! a table's nodes come to a pool -/
def TKI (f : Nat → ND) (w : BitVec 64) (P0 P : AP) (pl : Nat → Nat) (i : Nat) : Prop := Ext P0 P ∧ (∀ k, k < i → w.getLsbD k = true → pl k < P.1 ∧ val P.2 (pl k) = val f k) ∧ ∀ y, PS P y ↔ PS P0 y ∨ ∃ k, k < i ∧ w.getLsbD k = true ∧ y = val f k
theorem TKI_0 {f : Nat → ND} {w : BitVec 64} {P : AP} {pl : Nat → Nat} : TKI f w P P pl 0 := ⟨⟨Nat.le_refl _, fun _ _ => rfl⟩, fun k hk => absurd hk (Nat.not_lt_zero _), fun y => ⟨fun h => Or.inl h, fun h => by
  rcases h with h | ⟨k, hk, _⟩
  · exact h
  · exact absurd hk (Nat.not_lt_zero _)⟩⟩
theorem TKI_n {f : Nat → ND} {w : BitVec 64} {P0 P : AP} {pl : Nat → Nat} {i : Nat} (h : TKI f w P0 P pl i) (hw : ¬ w.getLsbD i = true) : TKI f w P0 P pl (i + 1) := ⟨h.1, fun k hk hb => by
    by_cases c : k = i
    · rw [c] at hb; exact absurd hb hw
    · exact h.2.1 k (by omega) hb, fun y => by
    rw [h.2.2]
    constructor
    · rintro (q | ⟨k, k1, k2⟩)
      · exact Or.inl q
      · exact Or.inr ⟨k, by omega, k2⟩
    · rintro (q | ⟨k, k1, k2, k3⟩)
      · exact Or.inl q
      · by_cases c : k = i
        · rw [c] at k2; exact absurd k2 hw
        · exact Or.inr ⟨k, by omega, k2, k3⟩⟩
theorem TKI_v {f : Nat → ND} {w : BitVec 64} {P0 P : AP} {pl : Nat → Nat} {i : Nat} {l r : BitVec 64} {a b : Int} (h : TKI f w P0 P pl i) (hb : ∀ k : Nat, ((f i).1.getLsbD k = true ∨ (f i).2.1.getLsbD k = true) → k < i ∧ w.getLsbD k = true) (hn : (¬ (f i).1 = 0#64 → (f i).2.2.1 = 0) ∧ (¬ (f i).2.1 = 0#64 → (f i).2.2.2 = 0)) (hl : CAR (f i).1 l pl) (hr : CAR (f i).2.1 r pl) (ha : a = (f i).2.2.1) (hb2 : b = (f i).2.2.2) : (∀ k : Nat, l.getLsbD k = true → k < P.1) ∧ (∀ k : Nat, r.getLsbD k = true → k < P.1) ∧ VOF (val P.2) P.1 (nx l r a b) = val f i := by
  have e1 := CAR_cset hl (f := val f) (g := val P.2) (p := i) (n := P.1) (fun j hj => ⟨(hb j (Or.inl hj)).1, h.2.1 j (hb j (Or.inl hj)).1 (hb j (Or.inl hj)).2⟩)
  have e2 := CAR_cset hr (f := val f) (g := val P.2) (p := i) (n := P.1) (fun j hj => ⟨(hb j (Or.inr hj)).1, h.2.1 j (hb j (Or.inr hj)).1 (hb j (Or.inr hj)).2⟩)
  refine ⟨fun c hc => ?_, fun c hc => ?_, ?_⟩
  · obtain ⟨j, j1, j2⟩ := (hl c).mp hc
    rw [← j2]; exact (h.2.1 j (hb j (Or.inl j1)).1 (hb j (Or.inl j1)).2).1
  · obtain ⟨j, j1, j2⟩ := (hr c).mp hc
    rw [← j2]; exact (h.2.1 j (hb j (Or.inr j1)).1 (hb j (Or.inr j1)).2).1
  · rw [val_e]
    show cod4 (cset l (val P.2) P.1) (cset r (val P.2) P.1) (nrm l a) (nrm r b) = _
    rw [e1, e2, nrm_0 (CAR_0 hl) (fun q => by rw [ha]; exact hn.1 q), nrm_0 (CAR_0 hr) (fun q => by rw [hb2]; exact hn.2 q), ha, hb2]
theorem TKI_s {f : Nat → ND} {w : BitVec 64} {P0 P Q : AP} {pl pl' : Nat → Nat} {i k : Nat} (h : TKI f w P0 P pl i) (hw : w.getLsbD i = true) (e : Ext P Q) (hk : k < Q.1) (hv : val Q.2 k = val f i) (hs : ∀ y, PS Q y ↔ PS P y ∨ y = val f i) (hp : ∀ j, pl' j = if j = i then k else pl j) : TKI f w P0 Q pl' (i + 1) := ⟨⟨Nat.le_trans h.1.1 e.1, fun j hj => (e.2 j (Nat.lt_of_lt_of_le hj h.1.1)).trans (h.1.2 j hj)⟩, fun j hj hb => by
    rw [hp]
    by_cases c : j = i
    · rw [if_pos c, c]; exact ⟨hk, hv⟩
    · rw [if_neg c]
      have z := h.2.1 j (by omega) hb
      exact ⟨by have := e.1; omega, (Ext_val e z.1).trans z.2⟩, fun y => by
    rw [hs, h.2.2]
    constructor
    · rintro ((q | ⟨k, k1, k2⟩) | q)
      · exact Or.inl q
      · exact Or.inr ⟨k, by omega, k2⟩
      · exact Or.inr ⟨i, Nat.lt_succ_self _, hw, q⟩
    · rintro (q | ⟨k, k1, k2, k3⟩)
      · exact Or.inl (Or.inl q)
      · by_cases c : k = i
        · rw [c] at k3; exact Or.inr k3
        · exact Or.inl (Or.inr ⟨k, by omega, k2, k3⟩)⟩
theorem TKI_end {f : Nat → ND} {w : BitVec 64} {P0 P : AP} {pl : Nat → Nat} {node : Nat} (h : TKI f w P0 P pl (node + 1)) (hb : BDP f (node + 1)) (h64 : node < 64) (hw : w = clo (mskf f) node (1#64 <<< node)) : Ext P0 P ∧ pl node < P.1 ∧ val P.2 (pl node) = val f node ∧ ∀ y, PS P y ↔ PS P0 y ∨ FOL f node y := by
  have rw_ : ∀ k, w.getLsbD k = true ↔ ∃ m, rch f m node k := fun k => by rw [hw]; exact clo_rch hb h64 k
  have z := h.2.1 node (Nat.lt_succ_self _) ((rw_ node).mpr ⟨0, rfl⟩)
  refine ⟨h.1, z.1, z.2, fun y => ?_⟩
  rw [h.2.2]
  constructor
  · rintro (q | ⟨k, k1, k2, k3⟩)
    · exact Or.inl q
    · obtain ⟨m, hm⟩ := (rw_ k).mp k2
      exact Or.inr ⟨m, k, hm, k3.symm⟩
  · rintro (q | ⟨m, k, k1, k2⟩)
    · exact Or.inl q
    · have := rch_le _ _ _ k1
      exact Or.inr ⟨k, by omega, (rw_ k).mpr ⟨m, k1⟩, k2.symm⟩
/-- no room at a node: nor for all of them -/
theorem TKI_full {f : Nat → ND} {w : BitVec 64} {P0 P : AP} {pl : Nat → Nat} {node i : Nat} (h : TKI f w P0 P pl i) (hb : BDP f (node + 1)) (h64 : node < 64) (hw : w = clo (mskf f) node (1#64 <<< node)) (hi : i ≤ node) (wi : w.getLsbD i = true) (full : ¬ C60 (fun y => PS P y ∨ y = val f i)) : ¬ C60 (fun y => PS P0 y ∨ FOL f node y) := fun c => full (C60_mono c (fun y hy => by
  have rw_ : ∀ k, w.getLsbD k = true ↔ ∃ m, rch f m node k := fun k => by rw [hw]; exact clo_rch hb h64 k
  rcases hy with q | q
  · rcases (h.2.2 y).mp q with z | ⟨k, k1, k2, k3⟩
    · exact Or.inl z
    · obtain ⟨m, hm⟩ := (rw_ k).mp k2
      exact Or.inr ⟨m, k, hm, k3.symm⟩
  · obtain ⟨m, hm⟩ := (rw_ i).mp wi
    exact Or.inr ⟨m, i, hm, q.symm⟩))
/-! tables stay as they were made -/
def IK (s t : gH) : Prop := ∀ a k, 117 ≤ a → a < s.1 → gp_I t a k = gp_I s a k
theorem IK_r (s : gH) : IK s s := fun _ _ _ _ => rfl
theorem IK_wI {s u : gH} {c i : Nat} {v : Int} (h : IK s u) (hc : c < 117 ∨ s.1 ≤ c) : IK s (gp_wI u c i v) := fun a k h1 h2 => by
  rw [I_ne (by omega)]; exact h a k h1 h2
theorem IK_wL {s u : gH} {c i : Nat} {v : BitVec 64} (h : IK s u) : IK s (gp_wL u c i v) := fun a k h1 h2 => h a k h1 h2
theorem IK_wR {s u : gH} {c i : Nat} {v : Option Nat} (h : IK s u) : IK s (gp_wR u c i v) := fun a k h1 h2 => h a k h1 h2
theorem IK_n {s u : gH} {k m : Nat} (h : IK s u) (hs : s.1 ≤ gp_sz u) : IK s (gp_new u k m) := fun a i h1 h2 => by
  have e : gp_sz u = u.1 := rfl
  rw [I_new, if_neg (by omega)]; exact h a i h1 h2
theorem IK_t {s u t : gH} (h : IK s u) (g : IK u t) (hs : s.1 ≤ u.1) : IK s t := fun a k h1 h2 => (g a k h1 (by omega)).trans (h a k h1 h2)
def IKb (b : Nat) (s t : gH) : Prop := ∀ a k, a < b → gp_I t a k = gp_I s a k
theorem IK_b {s u t : gH} {b : Nat} (h : IK s u) (g : IKb b u t) (hs : s.1 ≤ b) : IK s t := fun a k h1 h2 => (g a k (by omega)).trans (h a k h1 h2)
def ZRO (s : gH) (a : Nat) : Prop := ∀ i, gp_L s (a + 1) i = 0#64 ∧ gp_L s (a + 2) i = 0#64 ∧ gp_I s (a + 3) i = 0 ∧ gp_I s (a + 4) i = 0
/-- the nodes of a table -/
def TF (s : gH) (a : Nat) : Nat → ND := fun k => (gp_L s (a + 1) k, gp_L s (a + 2) k, gp_I s (a + 3) k, gp_I s (a + 4) k)
theorem TF_fr {L : Nat} {al : Bool} {m : List Nat} {s t : gH} {a : Nat} (g : gX L al m s t) (h : IK s t) (h1 : 117 ≤ a) (h2 : a + 5 < s.1) : TF t a = TF s a := funext fun k => by
  unfold TF
  rw [g.2.2.2 (a + 1) k (by omega) (by omega), g.2.2.2 (a + 2) k (by omega) (by omega), h (a + 3) k (by omega) (by omega), h (a + 4) k (by omega) (by omega)]
theorem IKb_s {b : Nat} {s u t : gH} {k m c i : Nat} {v : Option Nat} (h : IKb b s u) (e1 : t = gp_wR (gp_new u k m) c i v) (hb : b ≤ u.1) : IKb b s t := fun a j h1 => by
  rw [e1]
  show gp_I (gp_new u k m) a j = _
  rw [I_new, if_neg (by omega)]; exact h a j h1
set_option maxRecDepth 100000 in
theorem xm_initX {L d : Nat} {K : Option gV → gH → Prop} {s : gH} (this : Nat) (p0 : Int) (h_p0 : 1 ≤ p0 ∧ p0 ≤ 60) (q0 : XI L this s) (q1' : gp_sz s = this + 1) (q2 : 117 ≤ this) (q3 : gp_sh (gp_mk L s) this = (9, 10)) (q4 : ∀ f, gp_R (gp_mk L s) this f = none) (k : ∀ (t : gH), XI L 0 t → gX L true [] s t → (kT L t this (Int.toNat p0)) → (gp_R (gp_mk L t) this 6 = none) → (gp_sz t = gp_sz s + 5) → (gp_us t = gp_us s + 5 * Int.toNat p0) → ZRO t this → IKb this s t → K none t) : gs_C L d 2304 2 [gp_r (some this), gp_i p0] s K := by
  have en : ((p0.toNat : Nat) : Int) = p0 := by omega
  have q1 : s.1 = this + 1 := q1'
  refine s_2304_e _ _ ⟨this, rfl, by rw [q3], fun s2 e2 => ?_⟩
  have k9 : (gp_sh (gp_mk L s) this).1 = 9 := by rw [q3]
  have P0 : PT L s s2 this p0.toNat 0 := by
    subst e2
    refine ⟨⟨q2, q1, by show s.2.1 = _; omega⟩, ⟨XT.wIe q0.1 _ _ k9, gJx.dI q0.2 _ _ _ (by omega)⟩, q3, ?_, fun j j1 j2 => by omega, fun f _ => q4 f, (gX.refl _ _ _ _).wI (Or.inr q2)⟩
    rw [en]; exact (gz_rw _ _ _ _ _).1 rfl
  have A0 : IKb this s s2 := fun a j h1 => by rw [e2]; exact I_ne (by omega)
  refine ⟨⟨by omega, by omega⟩, P0.2.1.1.1, fun s3 e3 => ⟨by subst e3; exact P0.k9, gp_sR_big q2 1, fun s4 e4 => ?_⟩⟩
  have P1 : PT L s s4 this p0.toNat 1 := by rw [e4, e3]; exact P0.step
  have A1 : IKb this s s4 := IKb_s A0 (e4.trans (by rw [e3])) (by have := P0.1.2.1; omega)
  refine ⟨⟨by omega, by omega⟩, P1.2.1.1.1, fun s5 e5 => ⟨by subst e5; exact P1.k9, gp_sR_big q2 2, fun s6 e6 => ?_⟩⟩
  have P2 : PT L s s6 this p0.toNat 2 := by rw [e6, e5]; exact P1.step
  have A2 : IKb this s s6 := IKb_s A1 (e6.trans (by rw [e5])) (by have := P1.1.2.1; omega)
  refine ⟨⟨by omega, by omega⟩, P2.2.1.1.1, fun s7 e7 => ⟨by subst e7; exact P2.k9, gp_sR_big q2 3, fun s8 e8 => ?_⟩⟩
  have P3 : PT L s s8 this p0.toNat 3 := by rw [e8, e7]; exact P2.step
  have A3 : IKb this s s8 := IKb_s A2 (e8.trans (by rw [e7])) (by have := P2.1.2.1; omega)
  refine ⟨⟨by omega, by omega⟩, P3.2.1.1.1, fun s9 e9 => ⟨by subst e9; exact P3.k9, gp_sR_big q2 4, fun s10 e10 => ?_⟩⟩
  have P4 : PT L s s10 this p0.toNat 4 := by rw [e10, e9]; exact P3.step
  have A4 : IKb this s s10 := IKb_s A3 (e10.trans (by rw [e9])) (by have := P3.1.2.1; omega)
  refine ⟨⟨by omega, by omega⟩, P4.2.1.1.1, fun s11 e11 => ⟨by subst e11; exact P4.k9, gp_sR_big q2 5, fun s12 e12 => ?_⟩⟩
  have P5 : PT L s s12 this p0.toNat 5 := by rw [e12, e11]; exact P4.step
  have A5 : IKb this s s12 := IKb_s A4 (e12.trans (by rw [e11])) (by have := P4.1.2.1; omega)
  have tt := P5.fin (by omega)
  have zz := P5.2.2.2.2.1
  exact k s12 ⟨XT.done P5.2.1.1 tt, P5.2.1.2⟩ P5.2.2.2.2.2.2 ⟨by have := P5.1.2.1; omega, by rw [P5.2.2.1], by rw [tt.1.2.2.2.2.1.1]⟩ (P5.2.2.2.2.2.1 6 (by omega)) (by have := P5.1.2.1; show s12.1 = s.1 + 5; omega) P5.1.2.2
    (fun i => ⟨((zz 1 (by omega) (by omega)).2.2 i).2, ((zz 2 (by omega) (by omega)).2.2 i).2, ((zz 3 (by omega) (by omega)).2.2 i).1, ((zz 4 (by omega) (by omega)).2.2 i).1⟩) A5
