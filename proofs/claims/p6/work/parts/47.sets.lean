/-! sets: has, size, inSet -/
theorem vm_has {L d : Nat} {K : Option gV → gH → Prop} {s : gH} (p0 : BitVec 64) (p1 : Int) (h_p1 : 0 ≤ p1 ∧ p1 ≤ 63) (k : ∀ (r : Int), (0 ≤ r ∧ r ≤ 1) → ((r = 1 ∧ p0.getLsbD p1.toNat = true) ∨ (r = 0 ∧ p0.getLsbD p1.toNat = false)) → K (some (gp_i r)) s) : gs_C L d 3078 3 [gp_l p0, gp_i p1] s K := by
  obtain ⟨i, rfl⟩ := Int.eq_ofNat_of_zero_le h_p1.1
  refine cm_has p0 i (by omega) (k _ ?_ ?_)
  · unfold gm_h; split <;> omega
  · unfold gm_h
    rw [show ((i : Nat) : Int).toNat = i from rfl]
    cases q : p0.getLsbD i
    · exact Or.inr ⟨rfl, rfl⟩
    · exact Or.inl ⟨rfl, rfl⟩
theorem vm_size {L d : Nat} {K : Option gV → gH → Prop} {s : gH} (p0 : BitVec 64) (k : ∀ (r : Int), (0 ≤ r ∧ r ≤ 64) → (r = (gm_cnt p0 64 : Nat)) → K (some (gp_i r)) s) : gs_C L (d + 1) 3079 4 [gp_l p0] s K := by
  have := gm_cnt_le p0 64
  exact cm_size p0 (k _ (by omega) rfl)
theorem gm_cnt_mono (b : BitVec 64) : ∀ {m n : Nat}, m ≤ n → gm_cnt b m ≤ gm_cnt b n := by
  intro m n h
  induction h with
  | refl => exact Nat.le_refl _
  | step _ ih => exact Nat.le_trans ih (Nat.le_add_right _ _)
theorem gm_cnt_s {b : BitVec 64} {n : Nat} (h : b.getLsbD n = true) : gm_cnt b (n + 1) = gm_cnt b n + 1 := by
  show gm_cnt b n + _ = _; rw [if_pos h]
theorem gm_cnt_z {b : BitVec 64} {n : Nat} (h : b.getLsbD n = false) : gm_cnt b (n + 1) = gm_cnt b n := by
  show gm_cnt b n + _ = _; rw [h]; rfl
theorem vm_inSet {L d : Nat} {K : Option gV → gH → Prop} {s : gH} (p0 : BitVec 64) (p1 : Int) (k : ∀ (r : Int), (-1 ≤ r ∧ r ≤ 63) → ((r = -1 ∧ ¬ (0 ≤ p1 ∧ p1 < (gm_cnt p0 64 : Nat))) ∨ (0 ≤ r ∧ p0.getLsbD r.toNat = true ∧ ((gm_cnt p0 r.toNat : Nat) : Int) = p1)) → K (some (gp_i r)) s) : gs_C L (d + 1) 3080 5 [gp_l p0, gp_i p1] s K := by
  have lp : ∀ (n i : Nat), i + n = 64 → (p1 < 0 ∨ (gm_cnt p0 i : Int) ≤ p1) → gs_E L (d + 1) 3080 5 [gp_l p0, gp_n, gp_i p1, gp_i ((gm_cnt p0 i : Nat) : Int), gp_i (i : Int)] [] s K := by
    intro n
    induction n with
    | zero =>
      intro i h hp
      have : i = 64 := by omega
      subst this
      refine s_3080_5 _ _ _ _ ⟨fun h => absurd h (by decide), fun _ => k _ (by omega) (Or.inl ⟨rfl, by omega⟩)⟩
    | succ n ih =>
      intro i h hp
      have hl := gm_cnt_le p0 i
      have e2 : gp_wr ((i : Int) + 1) = ((i + 1 : Nat) : Int) := by rw [gp_wr_id (by omega) (by omega)]; simp
      refine s_3080_5 _ _ _ _ ⟨fun _ => vm_has p0 _ (by omega) (fun r hr hh => ⟨_, rfl, fun h0 => ?_, fun h0 => ⟨fun h1 => ?_, fun h1 => ?_⟩⟩), fun h0 => absurd (by omega : (i : Int) < 64) h0⟩
      · have hb : p0.getLsbD i = false := by
          rcases hh with hh | hh
          · omega
          · exact hh.2
        apply s_3080_32
        rw [e2]
        have := ih (i + 1) (by omega) (by rw [gm_cnt_z hb]; exact hp)
        rw [gm_cnt_z hb] at this
        exact this
      · have hb : p0.getLsbD i = true := by
          rcases hh with hh | hh
          · exact hh.2
          · omega
        exact k _ (by omega) (Or.inr ⟨by omega, hb, h1⟩)
      · have hb : p0.getLsbD i = true := by
          rcases hh with hh | hh
          · exact hh.2
          · omega
        apply s_3080_32
        rw [e2]
        have := ih (i + 1) (by omega) (by rw [gm_cnt_s hb]; omega)
        rw [gm_cnt_s hb] at this
        rw [show gp_wr (((gm_cnt p0 i : Nat) : Int) + 1) = ((gm_cnt p0 i + 1 : Nat) : Int) by rw [gp_wr_id (by omega) (by omega)]; simp]
        exact this
  exact s_3080_e _ _ (lp 64 0 rfl (by show p1 < 0 ∨ (0 : Int) ≤ p1; omega))
/-- a floor or a ceiling is one of its row -/
def mX (a b : Nat) (f : Int) (s : gH) : Prop := ∃ n : Nat, (n : Int) ≤ 64 ∧ gp_I s a (Int.toNat (64 * f + n)) = gp_I s b f.toNat
theorem mX_n {a b : Nat} {f : Int} {s : gH} (n : Int) (h1 : 0 ≤ n) (h2 : n ≤ 64) (e : gp_I s b f.toNat = gp_I s a (Int.toNat (64 * f + n))) : mX a b f s := ⟨n.toNat, by omega, by rw [e, Int.toNat_of_nonneg h1]⟩
theorem mX_1 {f n v1 v2 : Int} {s : gH} (h1 : 0 ≤ n) (h2 : n ≤ 64) (e : v1 = gp_I s 96 (Int.toNat (64 * f + n))) : mX 96 92 f (gp_wI (gp_wI s 92 f.toNat v1) 93 f.toNat v2) := by
  refine mX_n n h1 h2 ?_
  show gp_I (gp_wI s 92 f.toNat v1) 92 f.toNat = gp_I s 96 _
  rw [(gz_rw _ _ _ _ _).1 rfl, e]
theorem mX_2 {f v1 v2 : Int} {s : gH} (h : mX 96 92 f s) (e : v1 = gp_I s 92 f.toNat) : mX 96 92 f (gp_wI (gp_wI s 92 f.toNat v1) 93 f.toNat v2) := by
  obtain ⟨n, h1, h2⟩ := h
  refine ⟨n, h1, ?_⟩
  show gp_I s 96 _ = gp_I (gp_wI s 92 f.toNat v1) 92 f.toNat
  rw [(gz_rw _ _ _ _ _).1 rfl, e]; exact h2
theorem mX_3 {f n v1 v2 : Int} {s : gH} (h1 : 0 ≤ n) (h2 : n ≤ 64) (e : v2 = gp_I (gp_wI s 92 f.toNat v1) 95 (Int.toNat (64 * f + n))) : mX 95 93 f (gp_wI (gp_wI s 92 f.toNat v1) 93 f.toNat v2) := by
  refine mX_n n h1 h2 ?_
  rw [(gz_rw _ _ _ _ _).1 rfl, e]; rfl
theorem mX_4 {f v1 v2 : Int} {s : gH} (h : mX 95 93 f s) (e : v2 = gp_I (gp_wI s 92 f.toNat v1) 93 f.toNat) : mX 95 93 f (gp_wI (gp_wI s 92 f.toNat v1) 93 f.toNat v2) := by
  obtain ⟨n, h1, h2⟩ := h
  refine ⟨n, h1, ?_⟩
  rw [(gz_rw _ _ _ _ _).1 rfl, e]; exact h2
theorem pr_step {x : Int → Int} {c : Int} {n : Nat} {v : Int} (en : x n = c) (hv : v ≤ n) (hne : ¬ x v = c) : v + 1 ≤ n := by
  rcases Int.lt_or_eq_of_le hv with q | q
  · omega
  · rw [q] at hne; exact absurd en hne
theorem hasF {r : Int} {A B : Prop} (p : (r = 1 ∧ A) ∨ (r = 0 ∧ B)) (h : r = 0) : B := by
  rcases p with p | p
  · omega
  · exact p.2
theorem hasT {r : Int} {A B : Prop} (p : (r = 1 ∧ A) ∨ (r = 0 ∧ B)) (h : ¬ r = 0) : A := by
  rcases p with p | p
  · exact p.2
  · omega
theorem z_step {s : gH} {a : Nat} {x : Int} (hx : 0 ≤ x) (h : ∀ k : Nat, (k : Int) < x → gp_I s a k = 0) : ∀ k : Nat, (k : Int) < x + 1 → gp_I (gp_wI s a x.toNat 0) a k = 0 := by
  intro k hk
  have q := gz_rw s a x.toNat k 0
  by_cases c : x.toNat = k
  · exact q.1 c
  · rw [q.2 c]; exact h k (by omega)
/-- sizes of what is kept and of the boards are as they were -/
def mK (s t : gH) : Prop := ∀ k : Nat, 8 ≤ k → k ≠ 19 → k ≠ 20 → gp_I t 81 k = gp_I s 81 k
theorem mK.refl (s : gH) : mK s s := fun _ _ _ _ => rfl
theorem mK.trans {s t u : gH} (h : mK s t) (g : mK t u) : mK s u := fun k a b c => (g k a b c).trans (h k a b c)
theorem mK_fr {m g : List Nat} {s t u : gH} (h : mK s t) (hf : gF m g t u) (e : m.contains 81 = false) : mK s u := fun k a b c => ((hf.2 81 k e (fun h => absurd h (by decide))).1).trans (h k a b c)
theorem mK_wI {s t : gH} {a k : Nat} {v : Int} (h : mK s t) (ha : a ≠ 81) : mK s (gp_wI t a k v) := fun k' x y z => by
  rw [← h k' x y z]
  show gp_u2 _ _ _ _ _ _ = _; rw [gm_u2, if_neg (by omega)]
theorem mK_wL {s t : gH} {a k : Nat} {v : BitVec 64} (h : mK s t) (ha : a ≠ 81) : mK s (gp_wL t a k v) := fun k' x y z => h k' x y z
theorem mK_81 {s t : gH} {i : Nat} {v : Int} (h : mK s t) (ha : i < 8 ∨ i = 19 ∨ i = 20) : mK s (gp_wI t 81 i v) := fun k' x y z => by
  rw [← h k' x y z]
  show gp_u2 _ _ _ _ _ _ = _; rw [gm_u2, if_neg (by omega)]
/-- the options of a side -/
def sd (s : gH) (side g f : Int) : BitVec 64 := if side = 0 then gp_L s 76 (Int.toNat (64 * g + f)) else gp_L s 77 (Int.toNat (64 * g + f))
theorem sd_0 {s : gH} {side g f : Int} (h : side = 0) : gp_L s 76 (Int.toNat (64 * g + f)) = sd s side g f := (if_pos h).symm
theorem sd_1 {s : gH} {side g f : Int} (h : ¬ side = 0) : gp_L s 77 (Int.toNat (64 * g + f)) = sd s side g f := (if_neg h).symm
