/-! words for contracts over any state -/
theorem gz_w (x : Int) : gp_wr x = (x + 2147483648) % 4294967296 - 2147483648 := rfl
theorem gz_mx (x y : Int) : (x < y → gp_mx x y = y) ∧ (¬ x < y → gp_mx x y = x) := ⟨fun h => if_pos h, fun h => if_neg h⟩
theorem gz_mi (x y : Int) : (y < x → gp_mi x y = y) ∧ (¬ y < x → gp_mi x y = x) := ⟨fun h => if_pos h, fun h => if_neg h⟩
theorem gz_ab (x : Int) : (0 ≤ x → gp_ab x = x) ∧ (¬ 0 ≤ x → gp_ab x = (-x + 2147483648) % 4294967296 - 2147483648) := ⟨fun h => if_pos h, fun h => if_neg h⟩
theorem gz_b (x : Int) : gp_b x = (x + 128) % 256 - 128 := rfl
theorem gz_s (x : Int) : gp_s x = (x + 32768) % 65536 - 32768 := rfl
theorem gz_td (x y : Int) (h : 0 ≤ x) : x.tdiv y = x / y ∧ x.tmod y = x % y := ⟨Int.tdiv_eq_ediv_of_nonneg h, Int.tmod_eq_emod_of_nonneg h⟩
theorem gz_oi (x : Int) (h : -9223372036854775808 ≤ x ∧ x < 9223372036854775808) : (BitVec.ofInt 64 x).toInt = x := by
  rw [BitVec.toInt_ofInt]
  exact Int.bmod_eq_of_le (by omega) (by omega)
theorem gz_cmp (x y : BitVec 64) : (gp_cmp x y = -1 ∧ x.toInt < y.toInt) ∨ (gp_cmp x y = 0 ∧ x.toInt = y.toInt) ∨ (gp_cmp x y = 1 ∧ y.toInt < x.toInt) := by
  unfold gp_cmp
  split
  · exact Or.inl ⟨rfl, by assumption⟩
  · split
    · rename_i h1 h2; subst h2; exact Or.inr (Or.inl ⟨rfl, rfl⟩)
    · rename_i h1 h2
      have : x.toInt ≠ y.toInt := fun h => h2 (BitVec.eq_of_toInt_eq h)
      exact Or.inr (Or.inr ⟨rfl, by omega⟩)
theorem gz_rw (s : gH) (a i j : Nat) (v : Int) : (i = j → gp_I (gp_wI s a i v) a j = v) ∧ (i ≠ j → gp_I (gp_wI s a i v) a j = gp_I s a j) := by
  constructor
  · intro h; show gp_u2 _ _ _ _ _ _ = _; rw [gm_u2, if_pos (by omega)]
  · intro h; show gp_u2 _ _ _ _ _ _ = _; rw [gm_u2, if_neg (by omega)]
theorem gz_rwL (s : gH) (a i j : Nat) (v : BitVec 64) : (i = j → gp_L (gp_wL s a i v) a j = v) ∧ (i ≠ j → gp_L (gp_wL s a i v) a j = gp_L s a j) := by
  constructor
  · intro h; show gp_u2 _ _ _ _ _ _ = _; rw [gm_u2, if_pos (by omega)]
  · intro h; show gp_u2 _ _ _ _ _ _ = _; rw [gm_u2, if_neg (by omega)]
/-- all members of a set lie below a number -/
def bd (m : BitVec 64) (n : Int) : Prop := ∀ i : Nat, m.getLsbD i = true → (i : Int) < n
theorem bd_0 (n : Int) : bd 0#64 n := fun i h => by simp at h
theorem bd_le {m : BitVec 64} {a b : Int} (h : bd m a) (e : a ≤ b) : bd m b := fun i hi => by have := h i hi; omega
theorem bd_or {x y : BitVec 64} {n : Int} (h : bd x n) (k : bd y n) : bd (x ||| y) n := fun i hi => by
  rw [BitVec.getLsbD_or, Bool.or_eq_true] at hi
  exact hi.elim (h i) (k i)
theorem bd_and {x y : BitVec 64} {n : Int} (h : bd x n) : bd (x &&& y) n := fun i hi => by
  rw [BitVec.getLsbD_and, Bool.and_eq_true] at hi
  exact h i hi.1
theorem bd_and2 {x y : BitVec 64} {n : Int} (h : bd y n) : bd (x &&& y) n := fun i hi => by
  rw [BitVec.getLsbD_and, Bool.and_eq_true] at hi
  exact h i hi.2
theorem bd_64 (m : BitVec 64) : bd m 64 := fun i hi => by
  have : i < 64 := BitVec.lt_of_getLsbD hi
  omega
theorem bd_one {i : Nat} {n : Int} (h : (i : Int) < n) : bd (1#64 <<< i) n := fun j hj => by
  rw [BitVec.getLsbD_shiftLeft] at hj
  simp at hj
  omega
theorem bd_sh {x n : Int} (h : 0 ≤ x) (h2 : x < 64) (h3 : x < n) : bd (1#64 <<< (x % 64).toNat) n := bd_one (by omega)
/-- two heaps that are alike but for some rows, and some fields of the reference's object -/
def gF (m f : List Nat) (s t : gH) : Prop := (t.1 = s.1 ∧ t.2.1 = s.2.1 ∧ t.2.2.1 = s.2.2.1 ∧ t.2.2.2.2.2 = s.2.2.2.2.2) ∧ ∀ a k, m.contains a = false → (a = 74 → f.contains k = false) → gp_I t a k = gp_I s a k ∧ gp_L t a k = gp_L s a k
theorem gF.refl (m f : List Nat) (s : gH) : gF m f s s := ⟨⟨rfl, rfl, rfl, rfl⟩, fun _ _ _ _ => ⟨rfl, rfl⟩⟩
theorem gF.wI {m f : List Nat} {s t : gH} (h : gF m f s t) {a k : Nat} {v : Int} (q : m.contains a = true ∨ (a = 74 ∧ f.contains k = true)) : gF m f s (gp_wI t a k v) := ⟨h.1, fun a' k' h1 h2 => by
  refine ⟨?_, (h.2 a' k' h1 h2).2⟩
  show gp_u2 _ _ _ _ _ _ = _
  rw [gm_u2, if_neg]
  · exact (h.2 a' k' h1 h2).1
  · intro e
    rw [e.1] at h1 h2; rw [e.2] at h2
    rcases q with q | q
    · rw [q] at h1; cases h1
    · rw [h2 q.1] at q; cases q.2⟩
theorem gF.wL {m f : List Nat} {s t : gH} (h : gF m f s t) {a k : Nat} {v : BitVec 64} (q : m.contains a = true ∨ (a = 74 ∧ f.contains k = true)) : gF m f s (gp_wL t a k v) := ⟨h.1, fun a' k' h1 h2 => by
  refine ⟨(h.2 a' k' h1 h2).1, ?_⟩
  show gp_u2 _ _ _ _ _ _ = _
  rw [gm_u2, if_neg]
  · exact (h.2 a' k' h1 h2).2
  · intro e
    rw [e.1] at h1 h2; rw [e.2] at h2
    rcases q with q | q
    · rw [q] at h1; cases h1
    · rw [h2 q.1] at q; cases q.2⟩
theorem gF.sub {m f m' f' : List Nat} {s t : gH} (h : gF m' f' s t) (e1 : m'.all (fun x => m.contains x) = true) (e2 : f'.all (fun x => m.contains 74 || f.contains x) = true) : gF m f s t := ⟨h.1, fun a k h1 h2 => by
  refine h.2 a k ?_ ?_
  · cases q : m'.contains a with
    | false => rfl
    | true =>
      rw [List.all_eq_true] at e1
      have := e1 a (List.contains_iff_mem.mp q)
      rw [this] at h1; cases h1
  · intro ea
    cases q : f'.contains k with
    | false => rfl
    | true =>
      rw [List.all_eq_true] at e2
      have := e2 k (List.contains_iff_mem.mp q)
      rw [ea] at h1
      rw [h1, h2 ea] at this; cases this⟩
theorem gF.trans {m f m' f' : List Nat} {s t u : gH} (h : gF m f s t) (g : gF m' f' t u) (e1 : m'.all (fun x => m.contains x) = true) (e2 : f'.all (fun x => m.contains 74 || f.contains x) = true) : gF m f s u := ⟨⟨g.1.1.trans h.1.1, g.1.2.1.trans h.1.2.1, g.1.2.2.1.trans h.1.2.2.1, g.1.2.2.2.trans h.1.2.2.2⟩, fun a k h1 h2 =>
  have x := h.2 a k h1 h2
  have y := (gF.sub g e1 e2).2 a k h1 h2
  ⟨y.1.trans x.1, y.2.trans x.2⟩⟩
/-- a heap whose reference's places have their properties -/
def gJ (P : Nat → Nat → Int → Prop) (Q : Nat → Nat → BitVec 64 → Prop) (s : gH) : Prop := ∀ a k, 74 ≤ a → a < 117 → P a k (gp_I s a k) ∧ Q a k (gp_L s a k)
theorem gJ.wI {P : Nat → Nat → Int → Prop} {Q : Nat → Nat → BitVec 64 → Prop} {s : gH} (h : gJ P Q s) (a k : Nat) (v : Int) (hv : P a k v) : gJ P Q (gp_wI s a k v) := by
  refine fun a' k' h1 h2 => ⟨?_, (h a' k' h1 h2).2⟩
  show P a' k' (gp_u2 _ _ _ _ _ _)
  rw [gm_u2]
  split
  · rename_i q; rw [q.1, q.2]; exact hv
  · exact (h a' k' h1 h2).1
theorem gJ.wL {P : Nat → Nat → Int → Prop} {Q : Nat → Nat → BitVec 64 → Prop} {s : gH} (h : gJ P Q s) (a k : Nat) (v : BitVec 64) (hv : Q a k v) : gJ P Q (gp_wL s a k v) := by
  refine fun a' k' h1 h2 => ⟨(h a' k' h1 h2).1, ?_⟩
  show Q a' k' (gp_u2 _ _ _ _ _ _)
  rw [gm_u2]
  split
  · rename_i q; rw [q.1, q.2]; exact hv
  · exact (h a' k' h1 h2).2
