/-! a pool of nodes, on either side: the place of the same one, or behind the last -/
abbrev ND : Type := BitVec 64 × BitVec 64 × Int × Int
abbrev AP : Type := Nat × (Nat → ND)
def fnd (f : Nat → ND) (x : ND) : Nat → Option Nat
  | 0 => none
  | n + 1 => match fnd f x n with
    | some k => some k
    | none => if f n = x then some n else none
theorem fnd_some {f : Nat → ND} {x : ND} : ∀ {n k : Nat}, fnd f x n = some k → k < n ∧ f k = x
  | 0, k, h => by cases h
  | n + 1, k, h => by
    unfold fnd at h
    cases q : fnd f x n with
    | some j =>
      rw [q] at h
      cases h
      have := fnd_some q
      exact ⟨by omega, this.2⟩
    | none =>
      rw [q] at h
      by_cases c : f n = x
      · simp only [c, if_true] at h
        cases h
        exact ⟨by omega, c⟩
      · simp only [c, if_false] at h
        cases h
theorem fnd_none {f : Nat → ND} {x : ND} : ∀ {n : Nat}, fnd f x n = none → ∀ k, k < n → f k ≠ x
  | 0, _, k, hk => by omega
  | n + 1, h, k, hk => by
    unfold fnd at h
    cases q : fnd f x n with
    | some j => rw [q] at h; cases h
    | none =>
      rw [q] at h
      by_cases c : f n = x
      · simp only [c, if_true] at h
        cases h
      · by_cases d : k = n
        · rw [d]; exact c
        · exact fnd_none q k (by omega)
def aadd (P : AP) (x : ND) : AP × Nat := match fnd P.2 x P.1 with
  | some k => (P, k)
  | none => ((P.1 + 1, fun i => if i = P.1 then x else P.2 i), P.1)
def nx (l r : BitVec 64) (a b : Int) : ND := (l, r, nrm l a, nrm r b)
/-- no node twice, numbers where a side is shut alone -/
def GP (P : AP) : Prop := (∀ i j, i < P.1 → j < P.1 → P.2 i = P.2 j → i = j) ∧ ∀ k, k < P.1 → (¬ (P.2 k).1 = 0#64 → (P.2 k).2.2.1 = 0) ∧ (¬ (P.2 k).2.1 = 0#64 → (P.2 k).2.2.2 = 0)
theorem aadd_f {P : AP} {x : ND} {k : Nat} (h : fnd P.2 x P.1 = some k) : aadd P x = (P, k) := by unfold aadd; rw [h]
theorem aadd_n {P : AP} {x : ND} (h : fnd P.2 x P.1 = none) : aadd P x = ((P.1 + 1, fun i => if i = P.1 then x else P.2 i), P.1) := by unfold aadd; rw [h]
theorem GP_add {P : AP} (h : GP P) (l r : BitVec 64) (a b : Int) : GP (aadd P (nx l r a b)).1 := by
  cases q : fnd P.2 (nx l r a b) P.1 with
  | some k => rw [aadd_f q]; exact h
  | none =>
    rw [aadd_n q]
    have hn := fnd_none q
    refine ⟨fun i j hi hj e => ?_, fun k hk => ?_⟩
    · have hi2 : i < P.1 + 1 := hi
      have hj2 : j < P.1 + 1 := hj
      have e2 : (if i = P.1 then nx l r a b else P.2 i) = (if j = P.1 then nx l r a b else P.2 j) := e
      by_cases c : i = P.1
      · by_cases d : j = P.1
        · omega
        · rw [if_pos c, if_neg d] at e2
          exact absurd e2.symm (hn j (by omega))
      · by_cases d : j = P.1
        · rw [if_neg c, if_pos d] at e2
          exact absurd e2 (hn i (by omega))
        · rw [if_neg c, if_neg d] at e2
          exact h.1 i j (by omega) (by omega) e2
    · have hk2 : k < P.1 + 1 := hk
      show (¬ (if k = P.1 then nx l r a b else P.2 k).1 = 0#64 → (if k = P.1 then nx l r a b else P.2 k).2.2.1 = 0) ∧ (¬ (if k = P.1 then nx l r a b else P.2 k).2.1 = 0#64 → (if k = P.1 then nx l r a b else P.2 k).2.2.2 = 0)
      by_cases c : k = P.1
      · rw [if_pos c]
        exact ⟨fun z => if_neg z, fun z => if_neg z⟩
      · rw [if_neg c]
        exact h.2 k (by omega)
theorem aadd_le {P : AP} (x : ND) : P.1 ≤ (aadd P x).1.1 ∧ (aadd P x).1.1 ≤ P.1 + 1 ∧ (aadd P x).2 < (aadd P x).1.1 := by
  cases q : fnd P.2 x P.1 with
  | some k => rw [aadd_f q]; exact ⟨Nat.le_refl _, Nat.le_succ _, (fnd_some q).1⟩
  | none => rw [aadd_n q]; exact ⟨Nat.le_succ _, Nat.le_refl _, Nat.lt_succ_self _⟩
/-- what was there stays; the node is there -/
theorem aadd_ex {P : AP} (x : ND) : (∀ k, k < P.1 → (aadd P x).1.2 k = P.2 k) ∧ (aadd P x).1.2 (aadd P x).2 = x := by
  cases q : fnd P.2 x P.1 with
  | some k => rw [aadd_f q]; exact ⟨fun _ _ => rfl, (fnd_some q).2⟩
  | none =>
    rw [aadd_n q]
    refine ⟨fun k hk => ?_, ?_⟩
    · show (if k = P.1 then x else P.2 k) = P.2 k
      rw [if_neg (by omega)]
    · show (if P.1 = P.1 then x else P.2 P.1) = x
      rw [if_pos rfl]
/-- the class's view -/
def CV (s : gH) (P : AP) : Prop := gp_I s 6 4 = P.1 ∧ ∀ k, k < P.1 → (gp_L s 8 k, gp_L s 9 k, gp_I s 10 k, gp_I s 11 k) = P.2 k
def RVm (s : gH) (P : AP) : Prop := gp_I s 81 20 = P.1 ∧ ∀ k, k < P.1 → (mL s k, mR s k, mA s k, mB s k) = P.2 k
theorem CV_same {s : gH} {P : AP} {k : Nat} (h : CV s P) (hk : k < P.1) (l r : BitVec 64) (a b : Int) : sameX s k l r a b ↔ P.2 k = nx l r a b := by
  rw [← h.2 k hk]
  unfold sameX nx
  constructor
  · intro q
    rw [q.1, q.2.1, q.2.2.1, q.2.2.2]
  · intro q
    injection q with q1 q2
    injection q2 with q2 q3
    injection q3 with q3 q4
    exact ⟨q1, q2, q3, q4⟩
theorem CV_add {s t : gH} {P : AP} {l r : BitVec 64} {a b res : Int} (h : CV s P) (g : GP P) (m : ADX s t l r a b res) (hn : P.1 < 60) : CV t (aadd P (nx l r a b)).1 ∧ res = ((aadd P (nx l r a b)).2 : Nat) := by
  obtain ⟨kp, m⟩ := m
  have old : ∀ k, k < P.1 → (gp_L t 8 k, gp_L t 9 k, gp_I t 10 k, gp_I t 11 k) = P.2 k := fun k hk => by
    have q := kp k (by have := h.1; omega)
    rw [q.1, q.2.1, q.2.2.1, q.2.2.2]; exact h.2 k hk
  have e6 := h.1
  cases q : fnd P.2 (nx l r a b) P.1 with
  | some k0 =>
    have q2 := fnd_some q
    rw [aadd_f q]
    rcases m with ⟨k, k1, k2, k3, k4⟩ | ⟨n, m⟩
    · have := g.1 k k0 (by omega) q2.1 (((CV_same h (by omega) l r a b).mp k3).trans q2.2.symm)
      exact ⟨⟨k4.trans e6, old⟩, by show res = (k0 : Int); omega⟩
    · exact absurd ((CV_same h q2.1 l r a b).mpr q2.2) (n k0 (by omega))
  | none =>
    have q2 := fnd_none q
    rw [aadd_n q]
    rcases m with ⟨k, k1, k2, k3, k4⟩ | ⟨n, ⟨m1, m2, m3, m4⟩ | ⟨m1, m2, m3⟩⟩
    · exact absurd ((CV_same h (by omega) l r a b).mp k3) (q2 k (by omega))
    · refine ⟨⟨by show gp_I t 6 4 = ((P.1 + 1 : Nat) : Int); omega, fun k hk => ?_⟩, by show res = (P.1 : Int); omega⟩
      have hk2 : k < P.1 + 1 := hk
      show _ = (if k = P.1 then nx l r a b else P.2 k)
      by_cases c : k = P.1
      · rw [if_pos c]
        have ek : (gp_I s 6 4).toNat = k := by omega
        rw [ek] at m4
        unfold sameX at m4
        rw [m4.1, m4.2.1, m4.2.2.1, m4.2.2.2]; rfl
      · rw [if_neg c]; exact old k (by omega)
    · omega
theorem RV_same {s : gH} {P : AP} {k : Nat} (h : RVm s P) (g : GP P) (hk : k < P.1) (l r : BitVec 64) (a b : Int) : sameAt s k l r a b ↔ P.2 k = nx l r a b := by
  have z := g.2 k hk
  rw [← h.2 k hk] at z ⊢
  unfold sameAt nx
  constructor
  · intro q
    obtain ⟨q1, q2, q3, q4⟩ := q
    have ea : mA s k = nrm l a := by
      unfold nrm
      by_cases c : l = 0#64
      · rw [if_pos c]; exact q3 c
      · rw [if_neg c]; exact z.1 (by show ¬ mL s k = 0#64; rw [q1]; exact c)
    have eb : mB s k = nrm r b := by
      unfold nrm
      by_cases c : r = 0#64
      · rw [if_pos c]; exact q4 c
      · rw [if_neg c]; exact z.2 (by show ¬ mR s k = 0#64; rw [q2]; exact c)
    rw [q1, q2, ea, eb]
  · intro q
    injection q with q1 q2
    injection q2 with q2 q3
    injection q3 with q3 q4
    exact ⟨q1, q2, fun c => q3.trans (if_pos c), fun c => q4.trans (if_pos c)⟩
theorem RV_add {s t : gH} {P : AP} {l r : BitVec 64} {a b res : Int} (h : RVm s P) (g : GP P) (m : MDX s t l r a b res) (hn : P.1 < 60) : RVm t (aadd P (nx l r a b)).1 ∧ res = ((aadd P (nx l r a b)).2 : Nat) := by
  have e6 := h.1
  cases q : fnd P.2 (nx l r a b) P.1 with
  | some k0 =>
    have q2 := fnd_some q
    rw [aadd_f q]
    rcases m with ⟨k, k1, k2, k3, k4⟩ | ⟨n, m⟩
    · have := g.1 k k0 (by omega) q2.1 (((RV_same h g (by omega) l r a b).mp k3).trans q2.2.symm)
      refine ⟨⟨k4.2.trans e6, fun j hj => ?_⟩, by show res = (k0 : Int); omega⟩
      have w := k4.1 j
      rw [w.1, w.2.1, w.2.2.1, w.2.2.2.1]; exact h.2 j hj
    · exact absurd ((RV_same h g q2.1 l r a b).mpr q2.2) (n k0 (by omega))
  | none =>
    have q2 := fnd_none q
    rw [aadd_n q]
    rcases m with ⟨k, k1, k2, k3, k4⟩ | ⟨n, ⟨m1, m2, m3, m4⟩ | ⟨m1, m2, m3⟩⟩
    · exact absurd ((RV_same h g (by omega) l r a b).mp k3) (q2 k (by omega))
    · refine ⟨⟨by show gp_I t 81 20 = ((P.1 + 1 : Nat) : Int); omega, fun k hk => ?_⟩, by show res = (P.1 : Int); omega⟩
      have hk2 : k < P.1 + 1 := hk
      show _ = (if k = P.1 then nx l r a b else P.2 k)
      by_cases c : k = P.1
      · rw [if_pos c]
        have ek : (gp_I s 81 20).toNat = k := by omega
        obtain ⟨⟨w1, w2, w3, w4, w5, w6, _⟩, _⟩ := m4
        rw [ek] at w1 w2 w3 w4 w5 w6
        have ea : mA t k = nrm l a := by
          unfold nrm
          by_cases c : l = 0#64
          · rw [if_pos c]; exact w3 c
          · rw [if_neg c]; exact w5 c
        have eb : mB t k = nrm r b := by
          unfold nrm
          by_cases c : r = 0#64
          · rw [if_pos c]; exact w4 c
          · rw [if_neg c]; exact w6 c
        unfold nx
        rw [w1, w2, ea, eb]
      · rw [if_neg c]
        have w := m4.2 k (by omega)
        rw [w.1, w.2.1, w.2.2.1, w.2.2.2.1]; exact h.2 k (by omega)
    · omega
/-- a ladder's pool, rung by rung from the last -/
def ladF (w : Nat → Int) (n : Nat) : Nat → AP × Nat
  | 0 => aadd (0, fun _ => nx 0#64 0#64 0 0) (nx 0#64 0#64 (w (n - 1)) (w (n - 1)))
  | j + 1 => aadd (aadd (ladF w n j).1 (nx 0#64 0#64 (w (n - 2 - j)) (w (n - 2 - j)))).1 (nx (1#64 <<< (aadd (ladF w n j).1 (nx 0#64 0#64 (w (n - 2 - j)) (w (n - 2 - j)))).2) (1#64 <<< (ladF w n j).2) 0 0)
theorem GP_lad (w : Nat → Int) (n : Nat) : ∀ j, GP (ladF w n j).1
  | 0 => GP_add ⟨fun i j hi => absurd hi (Nat.not_lt_zero _), fun k hk => absurd hk (Nat.not_lt_zero _)⟩ _ _ _ _
  | j + 1 => GP_add (GP_add (GP_lad w n j) _ _ _ _) _ _ _ _
theorem lad_le (w : Nat → Int) (n : Nat) : ∀ j, (ladF w n j).1.1 ≤ 1 + 2 * j ∧ (ladF w n j).2 < (ladF w n j).1.1
  | 0 => by
    have := aadd_le (P := (0, fun _ => nx 0#64 0#64 0 0)) (nx 0#64 0#64 (w (n - 1)) (w (n - 1)))
    exact ⟨this.2.1, this.2.2⟩
  | j + 1 => by
    have h := lad_le w n j
    have a := aadd_le (P := (ladF w n j).1) (nx 0#64 0#64 (w (n - 2 - j)) (w (n - 2 - j)))
    have b := aadd_le (P := (aadd (ladF w n j).1 (nx 0#64 0#64 (w (n - 2 - j)) (w (n - 2 - j)))).1) (nx (1#64 <<< (aadd (ladF w n j).1 (nx 0#64 0#64 (w (n - 2 - j)) (w (n - 2 - j)))).2) (1#64 <<< (ladF w n j).2) 0 0)
    exact ⟨by show (aadd _ _).1.1 ≤ _; omega, b.2.2⟩
/-- the followers of a node, downwards -/
def clo (m : Nat → BitVec 64) : Nat → BitVec 64 → BitVec 64
  | 0, x => if x.getLsbD 0 = true then x ||| m 0 else x
  | i + 1, x => clo m i (if x.getLsbD (i + 1) = true then x ||| m (i + 1) else x)
def msk (P : AP) (k : Nat) : BitVec 64 := (P.2 k).1 ||| (P.2 k).2.1
def cin (m : Nat → BitVec 64) (v : Int) (x C : BitVec 64) : Prop := if v < 0 then x = C else clo m v.toNat x = C
theorem cin_0 {m : Nat → BitVec 64} {v : Int} (h : 0 ≤ v) (x : BitVec 64) : cin m v x (clo m v.toNat x) := by
  unfold cin; rw [if_neg (by omega)]
theorem cin_s {m : Nat → BitVec 64} {v : Int} {x y C : BitVec 64} (h : cin m v x C) (h0 : 0 ≤ v) (hy : y = if x.getLsbD v.toNat = true then x ||| m v.toNat else x) : cin m (v + -1) y C := by
  unfold cin at h ⊢
  rw [if_neg (by omega)] at h
  by_cases c : v = 0
  · subst c
    rw [if_pos (by omega), hy]
    exact h
  · rw [if_neg (by omega)]
    have e : v.toNat = (v + -1).toNat + 1 := by omega
    rw [hy]
    rw [e] at h ⊢
    exact h
theorem cin_end {m : Nat → BitVec 64} {v : Int} {x C : BitVec 64} (h : cin m v x C) (h0 : v < 0) : x = C := by
  unfold cin at h; rw [if_pos h0] at h; exact h
/-! ladders: sizes -/
def CLT (s : gH) (a : Nat) (p : Int) : BitVec 64 := clo (fun k => gp_L s (a + 1) k ||| gp_L s (a + 2) k) p.toNat (1#64 <<< Int.toNat (p % 64))
theorem clo_congr {m m' : Nat → BitVec 64} : ∀ (n : Nat) (x : BitVec 64), (∀ k, k ≤ n → m k = m' k) → clo m n x = clo m' n x
  | 0, x, h => by unfold clo; rw [h 0 (Nat.le_refl _)]
  | n + 1, x, h => by
    unfold clo
    rw [h (n + 1) (Nat.le_refl _)]
    exact clo_congr n _ (fun k hk => h k (by omega))
def lsz (w : Nat → Int) (n : Nat) : Nat := gm_cnt (clo (msk (ladF w n (n - 1)).1) (ladF w n (n - 1)).2 (1#64 <<< (ladF w n (n - 1)).2)) 64
theorem CLT_CV {s : gH} {P : AP} {node : Nat} {v : Int} (h : CV s P) (hv : v = (node : Nat)) (hn : node < P.1) (hp : node < 64) : CLT s 7 v = clo (msk P) node (1#64 <<< node) := by
  unfold CLT
  have e1 : v.toNat = node := by omega
  have e2 : Int.toNat (v % 64) = node := by omega
  rw [e1, e2]
  refine clo_congr _ _ (fun k hk => ?_)
  have := h.2 k (by omega)
  unfold msk
  rw [← this]
def w20 (f : Nat → Int) : Nat → Int := fun k => if k < 20 then f k else 0
theorem w20_i {f : Nat → Int} {k : Nat} (h : k < 20) : w20 f k = f k := if_pos h
theorem w20_eq {f g : Nat → Int} (h : ∀ k, k < 20 → f k = g k) : w20 f = w20 g := funext fun k => by
  unfold w20
  by_cases c : k < 20
  · rw [if_pos c, if_pos c, h k c]
  · rw [if_neg c, if_neg c]
theorem S2P_0 {s : gH} (h : gp_I s 6 4 = 0) : S2P s := fun q p hqp hp => by omega
theorem DSA_0 {s : gH} (h : gp_I s 6 4 = 0) : DSA s := fun k hk => by omega
theorem S2P_fr {L : Nat} {al : Bool} {m : List Nat} {s t : gH} (h : S2P s) (g : gX L al m s t) (e6 : m.contains 1196 = false) (e8 : m.contains 8 = false) (e9 : m.contains 9 = false) (e10 : m.contains 10 = false) (e11 : m.contains 11 = false) (e12 : m.contains 12 = false) (e13 : m.contains 13 = false) (e14 : m.contains 14 = false) : S2P t :=
  S2_eq h (g.2.2.1 6 4 (by decide) (by decide) e6).1 (fun k => (g.2.2.1 14 k (by decide) (by decide) e14).1) (fun k => (g.2.2.1 13 k (by decide) (by decide) e13).1) (fun k => (g.2.2.1 12 k (by decide) (by decide) e12).1) (fun k => (g.2.2.1 8 k (by decide) (by decide) e8).2.1) (fun k => (g.2.2.1 9 k (by decide) (by decide) e9).2.1) (fun k => (g.2.2.1 10 k (by decide) (by decide) e10).1) (fun k => (g.2.2.1 11 k (by decide) (by decide) e11).1)
theorem DSA_fr {L : Nat} {al : Bool} {m : List Nat} {s t : gH} (h : DSA s) (g : gX L al m s t) (e6 : m.contains 1196 = false) (e8 : m.contains 8 = false) (e9 : m.contains 9 = false) (e12 : m.contains 12 = false) : DSA t := fun k hk => by
  have r6 := (g.2.2.1 6 4 (by decide) (by decide) e6).1
  exact DS_eq (h k (by omega)) (fun k => (g.2.2.1 8 k (by decide) (by decide) e8).2.1) (fun k => (g.2.2.1 9 k (by decide) (by decide) e9).2.1) (fun k => (g.2.2.1 12 k (by decide) (by decide) e12).1)
theorem CV_0 {s : gH} (h : gp_I s 6 4 = 0) : CV s (0, fun _ => nx 0#64 0#64 0 0) := ⟨h, fun k hk => absurd hk (Nat.not_lt_zero _)⟩
theorem GP_0 : GP (0, fun _ => nx 0#64 0#64 0 0) := ⟨fun i j hi => absurd hi (Nat.not_lt_zero _), fun k hk => absurd hk (Nat.not_lt_zero _)⟩
/-- where the rungs stand -/
def LDI (s : gH) (w : Nat → Int) (n : Nat) (j : Int) (last : Int) : Prop := CV s (ladF w n j.toNat).1 ∧ last = ((ladF w n j.toNat).2 : Nat)
theorem LDI_0 {s t : gH} {w : Nat → Int} {n : Nat} {a res : Int} (h0 : gp_I s 6 4 = 0) (ha : a = w (n - 1)) (m : ADX s t 0#64 0#64 a a res) : LDI t w n 0 res := by
  subst ha
  exact CV_add (CV_0 h0) GP_0 m (by show 0 < 60; decide)
theorem LDI_s {s u t : gH} {w : Nat → Int} {n : Nat} {j last a one res : Int} {l r : BitVec 64} (h : LDI s w n j last) (h0 : 0 ≤ j) (hj : j ≤ 28) (ha : a = w (n - 2 - j.toNat)) (m : ADX s u 0#64 0#64 a a one) (hl : l = 1#64 <<< Int.toNat (one % 64)) (hr : r = 1#64 <<< Int.toNat (last % 64)) (h1 : 0 ≤ one ∧ one ≤ 59) (h2 : 0 ≤ last ∧ last ≤ 59) (m2 : ADX u t l r 0 0 res) : LDI t w n (j + 1) res := by
  obtain ⟨c, e⟩ := h
  have le := lad_le w n j.toNat
  subst ha
  have a1 := CV_add c (GP_lad w n j.toNat) m (by omega)
  have le2 := aadd_le (P := (ladF w n j.toNat).1) (nx 0#64 0#64 (w (n - 2 - j.toNat)) (w (n - 2 - j.toNat)))
  have e1 : Int.toNat (one % 64) = (aadd (ladF w n j.toNat).1 (nx 0#64 0#64 (w (n - 2 - j.toNat)) (w (n - 2 - j.toNat)))).2 := by have := a1.2; omega
  have e2 : Int.toNat (last % 64) = (ladF w n j.toNat).2 := by omega
  rw [e1] at hl
  rw [e2] at hr
  subst hl; subst hr
  have b1 := CV_add a1.1 (GP_add (GP_lad w n j.toNat) _ _ _ _) m2 (by omega)
  unfold LDI
  rw [show (j + 1).toNat = j.toNat + 1 by omega]
  exact b1
theorem LDI_end {s : gH} {w : Nat → Int} {n : Nat} {j last : Int} (h : LDI s w n j last) (hj : j.toNat = n - 1) (hn : n ≤ 29) : (gm_cnt (CLT s 7 last) 64 : Nat) = lsz w n := by
  obtain ⟨c, e⟩ := h
  rw [hj] at c e
  have le := lad_le w n (n - 1)
  unfold lsz
  rw [CLT_CV c e le.2 (by omega)]
def BIGW (w : Nat → Int) (n : Int) : Prop := ∃ k : Nat, (k : Int) < n ∧ (99999 < w k ∨ w k < -99999)
def LDP (b n : Int) (w : Nat → Int) (p0 p1 r : Int) : Prop := (¬ ((0 ≤ p0 ∧ p0 ≤ 7) ∧ 0 ≤ p1 ∧ p1 ≤ 3) ∧ r = -1000000001) ∨ (((0 ≤ p0 ∧ p0 ≤ 7) ∧ 0 ≤ p1 ∧ p1 ≤ 3) ∧ (b = 0 ∨ n = 0) ∧ r = -1000000002) ∨ (((0 ≤ p0 ∧ p0 ≤ 7) ∧ 0 ≤ p1 ∧ p1 ≤ 3) ∧ ¬ (b = 0 ∨ n = 0) ∧ BIGW w n ∧ r = -1000000006) ∨ (((0 ≤ p0 ∧ p0 ≤ 7) ∧ 0 ≤ p1 ∧ p1 ≤ 3) ∧ ¬ (b = 0 ∨ n = 0) ∧ ¬ BIGW w n ∧ r = (lsz (w20 w) n.toNat : Nat))
theorem BIGW_eq {f g : Nat → Int} {n : Int} (h : ∀ k, k < 20 → f k = g k) (hn : n ≤ 20) : BIGW f n ↔ BIGW g n := by
  constructor
  · rintro ⟨k, k1, k2⟩
    exact ⟨k, k1, by rw [← h k (by omega)]; exact k2⟩
  · rintro ⟨k, k1, k2⟩
    exact ⟨k, k1, by rw [h k (by omega)]; exact k2⟩
theorem LDP_eq {b n : Int} {f g : Nat → Int} {p0 p1 r r2 : Int} (h : ∀ k, k < 20 → f k = g k) (hn : n ≤ 20) (a : LDP b n f p0 p1 r) (c : LDP b n g p0 p1 r2) : r = r2 := by
  have hb := BIGW_eq h hn
  have hw := w20_eq h
  unfold LDP at a c
  rw [hw, hb] at a
  rcases a with ⟨a1, a2⟩ | ⟨a1, a2, a3⟩ | ⟨a1, a2, a3, a4⟩ | ⟨a1, a2, a3, a4⟩ <;> rcases c with ⟨c1, c2⟩ | ⟨c1, c2, c3⟩ | ⟨c1, c2, c3, c4⟩ | ⟨c1, c2, c3, c4⟩ <;> first | omega | exact absurd c1 a1 | exact absurd a1 c1 | exact absurd c2 a2 | exact absurd a2 c2 | exact absurd c3 a3 | exact absurd a3 c3
theorem row_fr {L : Nat} {al : Bool} {m : List Nat} {s t : gH} {p : Nat} (g : gX L al m s t) (h : 68 ≤ p ∧ p ≤ 71) (e : m.all (fun x => !(Nat.ble 68 x && Nat.ble x 71)) = true) (k : Nat) : gp_I t p k = gp_I s p k := by
  have hc : p = 68 ∨ p = 69 ∨ p = 70 ∨ p = 71 := by omega
  rw [List.all_eq_true] at e
  have key : m.contains p = false := by
    cases c : m.contains p with
    | false => rfl
    | true =>
      have := e _ (List.contains_iff_mem.mp c)
      simp only [Bool.not_eq_true', Bool.and_eq_false_iff] at this
      rcases this with q | q
      · have := Nat.ble_eq.mpr h.1; rw [q] at this; cases this
      · have := Nat.ble_eq.mpr h.2; rw [q] at this; cases this
  rcases hc with q | q | q | q <;> subst q
  · exact (g.2.2.1 68 k (by decide) (by decide) key).1
  · exact (g.2.2.1 69 k (by decide) (by decide) key).1
  · exact (g.2.2.1 70 k (by decide) (by decide) key).1
  · exact (g.2.2.1 71 k (by decide) (by decide) key).1
theorem tb_nx {f : Nat → Int} {v : Int} (h : ∀ k : Nat, (k : Int) < v → ¬ (99999 < f k ∨ f k < -99999)) (h0 : 0 ≤ v) (hn : ¬ (99999 < f v.toNat ∨ f v.toNat < -99999)) : ∀ k : Nat, (k : Int) < v + 1 → ¬ (99999 < f k ∨ f k < -99999) := fun k hk => by
  by_cases c : k = v.toNat
  · rw [c]; exact hn
  · exact h k (by omega)
set_option maxRecDepth 100000 in
/-- Table.followers -/
theorem xm_followersX  {L d : Nat} {K : Option gV → gH → Prop} {s : gH} (n_this : Nat) (this : Nat) (p0 : Int) (hs : XI L 0 s) (h_p0 : 0 ≤ p0 ∧ p0 ≤ 60) (q0 : kT L s this n_this) (q1 : p0 < n_this) (k : ∀ (r : BitVec 64), (r.getLsbD p0.toNat = true) → (bd r (p0 + 1)) → (FC (gp_L s (this + 1)) (gp_L s (this + 2)) r) → (r = CLT s this p0) → K (some (gp_l r)) s) : gs_C L (d + 1) 2309 5 [gp_r (some this), gp_i p0] s K := by
  have hn_this := q0.n hs
  refine s_2309_e _ _ ?_
  have lp_2 : ∀ (n_2 : Nat) (v2_2 : BitVec 64) (v4_2 : Int), ((-1) ≤ v4_2 ∧ v4_2 ≤ 60) → ((v2_2).getLsbD p0.toNat = true) → (bd v2_2 (p0 + 1)) → (∀ i j : Nat, v4_2 < i → (v2_2).getLsbD i = true → ((gp_L s (this + 1) i).getLsbD j = true ∨ (gp_L s (this + 2) i).getLsbD j = true) → (v2_2).getLsbD j = true) → (v4_2 ≤ p0) → (cin (fun k => gp_L s (this + 1) k ||| gp_L s (this + 2) k) v4_2 v2_2 (CLT s this p0)) → (v4_2 + 2).toNat < n_2 → gs_E L (d + 1) 2309 7 [gp_r (some this), gp_i p0, gp_l v2_2, gp_n, gp_i v4_2] [] s K := by
    intro n_2
    induction n_2 with
    | zero => intro v2_2 v4_2 hv4_2 iv0_2 iv1_2 iv2_2 iv3_2 iv4_2 hm_2; exact absurd hm_2 (Nat.not_lt_zero _)
    | succ n_2 ih_2 =>
      intro v2_2 v4_2 hv4_2 iv0_2 iv1_2 iv2_2 iv3_2 iv4_2 hm_2
      refine s_2309_7 _ _ _ _ ?_
      refine ⟨fun h_3 => ?_, fun h_3 => ?_⟩
      · exact k _ (by first | omega | assumption) (by first | assumption | exact bd_le (by assumption) (by omega) | exact bd_0 _) (fun i j h1 h2 => iv2_2 i j (by omega) h1 h2) (cin_end iv4_2 (by omega))
      · refine xm_has _ _ (by omega) (fun x_4 p_5 p_6 => ⟨_, rfl, ?_⟩)
        refine ⟨fun h_7 => ?_, fun h_7 => ?_⟩
        · have hb_8 := hasF p_6 h_7
          refine s_2309_39 _ _ _ _ ?_
          try rw [show gp_wr (v4_2 + (-1)) = v4_2 + (-1) from gp_wr_id (by omega) (by omega)]
          exact ih_2 _ _ (by omega) (by first | exact iv0_2 | exact or_bit iv0_2) (by first | exact iv1_2 | (refine bd_or iv1_2 (bd_or (bd_le (by assumption) ?_) (bd_le (by assumption) ?_)) <;> omega)) (by first | exact fcl_n (by omega) (by assumption) iv2_2 | exact fcl_y (by omega) (by assumption) (by assumption) (by assumption) iv2_2) (by first | omega | assumption) (by first | exact cin_s iv4_2 (by omega) (if_pos (by assumption)).symm | exact cin_s iv4_2 (by omega) (if_neg (by simp [*])).symm) (by omega)
        · have hb_11 := hasT p_6 h_7
          refine ⟨this, rfl, ?_⟩
          refine ⟨q0.2.1, ?_⟩
          refine ⟨(this + 1), (q0.tt hs).1.2.2.2.1.1, ?_⟩
          refine ⟨gin ((q0.tt hs).1.2.2.2.2.1.1) (by omega), ?_⟩
          have b_12 : bd (gp_L s (this + 1) (Int.toNat v4_2)) v4_2 := bd_le ((q0.tt hs).1.2.2.2.2.2 (Int.toNat v4_2)).1.1 (by omega)
          refine ⟨q0.2.1, ?_⟩
          refine ⟨(this + 2), (q0.tt hs).1.2.2.2.1.2.1, ?_⟩
          refine ⟨gin ((q0.tt hs).1.2.2.2.2.1.2.1) (by omega), ?_⟩
          have b_13 : bd (gp_L s (this + 2) (Int.toNat v4_2)) v4_2 := bd_le ((q0.tt hs).1.2.2.2.2.2 (Int.toNat v4_2)).1.2 (by omega)
          refine s_2309_39 _ _ _ _ ?_
          try rw [show gp_wr (v4_2 + (-1)) = v4_2 + (-1) from gp_wr_id (by omega) (by omega)]
          exact ih_2 _ _ (by omega) (by first | exact iv0_2 | exact or_bit iv0_2) (by first | exact iv1_2 | (refine bd_or iv1_2 (bd_or (bd_le (by assumption) ?_) (bd_le (by assumption) ?_)) <;> omega)) (by first | exact fcl_n (by omega) (by assumption) iv2_2 | exact fcl_y (by omega) (by assumption) (by assumption) (by assumption) iv2_2) (by first | omega | assumption) (by first | exact cin_s iv4_2 (by omega) (if_pos (by assumption)).symm | exact cin_s iv4_2 (by omega) (if_neg (by simp [*])).symm) (by omega)
  exact lp_2 _ _ _ (by omega) (one_self (by omega) (by omega)) (bd_sh (by omega) (by omega) (by omega)) (fun i j h0 h1 => absurd (bd_sh (n := p0 + 1) (by omega) (by omega) (by omega) i h1) (by omega)) (by first | omega | assumption) (cin_0 (by omega) _) (Nat.lt_succ_self _)
set_option maxRecDepth 100000 in
/-- Pool.tableOf -/
theorem xm_tableOfX  {L d : Nat} {K : Option gV → gH → Prop} {s : gH}  (p0 : Int) (hs : XI L 0 s) (h_p0 : 0 ≤ p0 ∧ p0 ≤ 59) (q0 : PO s) (q1 : p0 < gp_I s 6 4) (k : ∀ (r : Option Nat), ∀ (t : gH), XI L 0 t → gX L true [15] s t → (∃ a n, r = some a ∧ kT L t a n ∧ n ≤ 60 ∧ n = gm_cnt (CLT s 7 p0) 64) → (gp_sz t ≤ gp_sz s + 6) → (gp_us t ≤ gp_us s + 310) → K (some (gp_r r)) t) : gs_C L (d + 3) 1032 8 [gp_r (some 6), gp_i p0] s K := by
  have f_1 := xr6_4 hs
  refine s_1032_e _ ?_
  refine xm_followersX 61 _ _ hs (by omega) (by first | assumption | exact kT7 hs.1.1 | exact kT25 hs.1.1) (by first | omega | assumption) (fun m_2 p_3 p_4 p_5 p_6 => ⟨_, rfl, ?_⟩)
  have hFC := p_5
  have hbN : bd m_2 (gp_I s 6 4) := bd_le p_4 (by omega)
  have hbt := p_3
  have hCL := p_6
  refine ⟨hs.1.1, ?_⟩
  intro s_7 e_8
  have h9_s_7 : (gp_sh (gp_mk L s_7) (gp_sz s)) = (9, 10) := by rw [e_8, sh_new hs.1.1, if_pos rfl]
  have hR_s_7 : ∀ f, gp_R (gp_mk L s_7) (gp_sz s) f = none := fun f => by rw [e_8, R_new hs.1.1, if_pos rfl]
  have hz_s_7 : gp_sz s_7 = gp_sz s + 1 ∧ gp_us s_7 = gp_us s + 10 := by rw [e_8]; exact ⟨rfl, rfl⟩
  have hw_s_7 : 117 ≤ gp_sz s := hs.1.1
  have hs_9 : XI L (gp_sz s) s_7 := by rw [e_8]; exact XI.new ⟨XT.weak hs.1, hs.2⟩ _ _ (Or.inr rfl)
  have hk_s_7 : (gp_sh (gp_mk L s_7) (gp_sz s)).1 = 9 := by rw [h9_s_7]
  have hf_10 : gX L true [15] s s_7 := by rw [e_8]; exact gX.new (gX.refl _ _ _ _) _ _ hs.1.1
  have hg_s_7 : gX L true [] s s_7 := by rw [e_8]; exact gX.new (gX.refl L true [] _) _ _ hs.1.1
  have pd_11 : PO s_7 := PO_fr q0 hg_s_7 rfl rfl rfl rfl rfl rfl
  have q_12 : gp_I s_7 6 4 = gp_I s 6 4 := (hg_s_7.2.2.1 6 4 (by decide) (by decide) rfl).1
  refine xm_bc _ (fun x_13 p_14 p_15 => ⟨_, rfl, ?_⟩)
  have hcn := cnt_range hbt hbN (by omega)
  have hbcx := p_15
  refine xm_init _ _ (by omega) (by assumption) (by first | omega | assumption) (by first | omega | assumption) (by first | omega | assumption) (by first | omega | assumption) (fun s_16 hs_17 hf_18 p_19 p_20 p_21 p_22 => ⟨rfl, ?_⟩)
  have hf_23 : gX L true [15] s s_16 := gX.trans hf_10 hf_18 rfl rfl
  have pd_24 : PO s_16 := PO_fr pd_11 hf_18 rfl rfl rfl rfl rfl rfl
  have q_25 : gp_I s_16 6 4 = gp_I s_7 6 4 := (hf_18.2.2.1 6 4 (by decide) (by decide) rfl).1
  obtain ⟨a_26, ha_26⟩ : ∃ a, (gp_sz s) = a := ⟨_, rfl⟩
  have hba_26 : s.1 = a_26 := ha_26
  obtain ⟨n_27, hn_27⟩ : ∃ n : Nat, Int.toNat x_13 = n := ⟨_, rfl⟩
  rw [ha_26] at p_19 p_20 ⊢
  rw [hn_27] at p_19
  have hn_a_26 := p_19.n hs_17
  have hr_a_26 := (p_19.tt hs_17).1.1
  have lp_29 : ∀ (n_29 : Nat) (v5_29 : Int) (v6_29 : Int) (v7_29 : gV) (s_29 : gH), (XI L 0 s_29) → (gX L true [15] s s_29) → (PO s_29) → (kT L s_29 a_26 n_27) → (gp_sz s_29 ≤ gp_sz s + 6 ∧ gp_us s_29 ≤ gp_us s + 310) → (0 ≤ v5_29 ∧ v5_29 ≤ 60) → (0 ≤ v6_29 ∧ v6_29 ≤ 60) → (gp_I s_29 6 4 = gp_I s_16 6 4) → (∀ p : Nat, (m_2).getLsbD p = true → gp_I s_29 13 p < v6_29 → 0 ≤ gp_I s_29 15 p ∧ gp_I s_29 15 p < v5_29) → (Int.toNat (61 - v6_29)) < n_29 → gs_E L (d + 3) 1032 28 [gp_r (some 6), gp_i p0, gp_l m_2, gp_n, gp_r (some a_26), gp_i v5_29, gp_i v6_29, v7_29] [] s_29 K := by
    intro n_29
    induction n_29 with
    | zero => intro v5_29 v6_29 v7_29 s_29 hs_s_29 hf_s_29 PO_s_29 kt_a_26_s_29 rm_s_29 hv5_29 hv6_29 tk0_29 iv0_29 hm_29; exact absurd hm_29 (Nat.not_lt_zero _)
    | succ n_29 ih_29 =>
      intro v5_29 v6_29 v7_29 s_29 hs_s_29 hf_s_29 PO_s_29 kt_a_26_s_29 rm_s_29 hv5_29 hv6_29 tk0_29 iv0_29 hm_29
      refine s_1032_28 _ _ _ _ _ _ ?_
      have f_30 := xr6_4 hs_s_29
      refine ⟨fun h_31 => ?_, fun h_31 => ?_⟩
      · refine ⟨a_26, rfl, ?_⟩
        refine ⟨kt_a_26_s_29.2.1, ?_⟩
        have f_32 := (kt_a_26_s_29.tt hs_s_29).1.2.2.1
        have f_33 := kt_a_26_s_29.n hs_s_29
        refine ⟨fun h_34 => ?_, fun h_34 => ?_⟩
        · refine ⟨by omega, ?_⟩
          have f_35 := xr14 hs_s_29 (Int.toNat v6_29)
          refine xm_has _ _ (by omega) (fun x_36 p_37 p_38 => ⟨_, rfl, ?_⟩)
          refine ⟨fun h_39 => ?_, fun h_39 => ?_⟩
          · have hb_40 := hasF p_38 h_39
            refine s_1032_181 _ _ _ _ _ _ ?_
            try rw [show gp_wr (v6_29 + 1) = v6_29 + 1 from gp_wr_id (by omega) (by omega)]
            exact ih_29 _ _ _ _ hs_s_29 hf_s_29 PO_s_29 kt_a_26_s_29 (by omega) (by omega) (by omega) (by first | rfl | omega) (by first | exact tb_step PO_s_29 (by omega) (bd_le hbN (by omega)) iv0_29 (by omega) he13 he15 | exact tb_no PO_s_29 (bd_le hbN (by omega)) iv0_29 (by assumption)) (by omega)
          · have hb_43 := hasT p_38 h_39
            have hpo := PO_s_29.1 (Int.toNat v6_29) (by omega)
            refine ⟨by omega, ?_⟩
            intro s_44 e_45
            have hs_46 : XI L 0 s_44 := by rw [e_45]; exact xw15 hs_s_29 _ _ (by omega)
            have hf_47 : gX L true [15] s s_44 := by rw [e_45]; exact gX.wI hf_s_29 (Or.inl rfl)
            have kt_48 : kT L s_44 a_26 n_27 := by rw [e_45]; exact kt_a_26_s_29
            have z_49 : gp_sz s_44 = gp_sz s_29 ∧ gp_us s_44 = gp_us s_29 := by rw [e_45]; exact ⟨rfl, rfl⟩
            have q_50 : gp_I s_44 6 4 = gp_I s_29 6 4 := by rw [e_45] <;> first | rfl | exact I_ne (by omega)
            have pd_51 : PO s_44 := by rw [e_45]; exact PO_fr PO_s_29 (gX.wI (gX.refl L true [15] _) (Or.inl rfl)) rfl rfl rfl rfl rfl rfl
            have hPK := tb_pre PO_s_29 hs_s_29 (bd_le hbN (by omega)) (FC_eq hFC hf_s_29 rfl rfl) (by omega) (by assumption) iv0_29 (by assumption)
            refine ⟨kt_48.2.1, ?_⟩
            refine ⟨by omega, ?_⟩
            have b_52 : bd (gp_L s_44 8 (Int.toNat (gp_I s_29 14 (Int.toNat v6_29)))) (gp_I s_29 14 (Int.toNat v6_29)) := bd_le (xr8 hs_46 (Int.toNat (gp_I s_29 14 (Int.toNat v6_29)))) (by omega)
            refine xm_carried15 v5_29 (gp_I s_29 14 (Int.toNat v6_29)) _ hs_46 (by first | assumption | exact bd_le (by assumption) (by omega) | exact bd_0 _) (by first | omega | assumption) (by first | omega | assumption) (fun k hk => hPK k (Or.inl hk)) (fun m_53 p_54 => ⟨_, rfl, ?_⟩)
            refine ⟨(a_26 + 1), (kt_48.tt hs_46).1.2.2.2.1.1, ?_⟩
            refine ⟨gin ((kt_48.tt hs_46).1.2.2.2.2.1.1) (by omega), ?_⟩
            intro s_55 e_56
            have hs_57 : XI L 0 s_55 := by rw [e_56]; exact XI.t12 hs_46 kt_48 _ _ _ (Or.inl rfl) (by exact bd_le (by assumption) (by omega))
            have hf_58 : gX L true [15] s s_55 := by rw [e_56]; exact gX.wL hf_47 (gXl (by omega) (by omega))
            have kt_59 : kT L s_55 a_26 n_27 := by rw [e_56]; exact kt_48
            have z_60 : gp_sz s_55 = gp_sz s_44 ∧ gp_us s_55 = gp_us s_44 := by rw [e_56]; exact ⟨rfl, rfl⟩
            have q_61 : gp_I s_55 6 4 = gp_I s_44 6 4 := by rw [e_56] <;> first | rfl | exact I_ne (by omega)
            have pd_63 : PO s_55 := by rw [e_56]; exact PO_wL pd_51 (by omega)
            refine ⟨kt_59.2.1, ?_⟩
            refine ⟨by omega, ?_⟩
            have b_64 : bd (gp_L s_55 9 (Int.toNat (gp_I s_29 14 (Int.toNat v6_29)))) (gp_I s_29 14 (Int.toNat v6_29)) := bd_le (xr9 hs_57 (Int.toNat (gp_I s_29 14 (Int.toNat v6_29)))) (by omega)
            refine xm_carried15 v5_29 (gp_I s_29 14 (Int.toNat v6_29)) _ hs_57 (by first | assumption | exact bd_le (by assumption) (by omega) | exact bd_0 _) (by first | omega | assumption) (by first | omega | assumption) (fun k hk => tb2 (by assumption) (by omega) hPK k (Or.inr hk)) (fun m_65 p_66 => ⟨_, rfl, ?_⟩)
            refine ⟨(a_26 + 2), (kt_59.tt hs_57).1.2.2.2.1.2.1, ?_⟩
            refine ⟨gin ((kt_59.tt hs_57).1.2.2.2.2.1.2.1) (by omega), ?_⟩
            intro s_67 e_68
            have hs_69 : XI L 0 s_67 := by rw [e_68]; exact XI.t12 hs_57 kt_59 _ _ _ (Or.inr rfl) (by exact bd_le (by assumption) (by omega))
            have hf_70 : gX L true [15] s s_67 := by rw [e_68]; exact gX.wL hf_58 (gXl (by omega) (by omega))
            have kt_71 : kT L s_67 a_26 n_27 := by rw [e_68]; exact kt_59
            have z_72 : gp_sz s_67 = gp_sz s_55 ∧ gp_us s_67 = gp_us s_55 := by rw [e_68]; exact ⟨rfl, rfl⟩
            have q_73 : gp_I s_67 6 4 = gp_I s_55 6 4 := by rw [e_68] <;> first | rfl | exact I_ne (by omega)
            have pd_75 : PO s_67 := by rw [e_68]; exact PO_wL pd_63 (by omega)
            refine ⟨kt_71.2.1, ?_⟩
            refine ⟨by omega, ?_⟩
            refine ⟨(a_26 + 3), (kt_71.tt hs_69).1.2.2.2.1.2.2.1, ?_⟩
            refine ⟨gin ((kt_71.tt hs_69).1.2.2.2.2.1.2.2.1) (by omega), ?_⟩
            intro s_76 e_77
            have hs_78 : XI L 0 s_76 := by rw [e_77]; exact XI.t34 hs_69 kt_71 _ _ _ (Or.inl rfl)
            have hf_79 : gX L true [15] s s_76 := by rw [e_77]; exact gX.wI hf_70 (gXt kt_71 hs_69 (by omega) (by omega) (by omega))
            have kt_80 : kT L s_76 a_26 n_27 := by rw [e_77]; exact kt_71
            have z_81 : gp_sz s_76 = gp_sz s_67 ∧ gp_us s_76 = gp_us s_67 := by rw [e_77]; exact ⟨rfl, rfl⟩
            have q_82 : gp_I s_76 6 4 = gp_I s_67 6 4 := by rw [e_77] <;> first | rfl | exact I_ne (by omega)
            have pd_83 : PO s_76 := by rw [e_77]; exact PO_fr pd_75 (gX.wI (gX.refl L true [] _) (gXt kt_71 hs_69 (by omega) (by omega) (by omega))) rfl rfl rfl rfl rfl rfl
            refine ⟨kt_80.2.1, ?_⟩
            refine ⟨by omega, ?_⟩
            refine ⟨(a_26 + 4), (kt_80.tt hs_78).1.2.2.2.1.2.2.2.1, ?_⟩
            refine ⟨gin ((kt_80.tt hs_78).1.2.2.2.2.1.2.2.2.1) (by omega), ?_⟩
            intro s_84 e_85
            have hs_86 : XI L 0 s_84 := by rw [e_85]; exact XI.t34 hs_78 kt_80 _ _ _ (Or.inr rfl)
            have hf_87 : gX L true [15] s s_84 := by rw [e_85]; exact gX.wI hf_79 (gXt kt_80 hs_78 (by omega) (by omega) (by omega))
            have kt_88 : kT L s_84 a_26 n_27 := by rw [e_85]; exact kt_80
            have z_89 : gp_sz s_84 = gp_sz s_76 ∧ gp_us s_84 = gp_us s_76 := by rw [e_85]; exact ⟨rfl, rfl⟩
            have q_90 : gp_I s_84 6 4 = gp_I s_76 6 4 := by rw [e_85] <;> first | rfl | exact I_ne (by omega)
            have pd_91 : PO s_84 := by rw [e_85]; exact PO_fr pd_83 (gX.wI (gX.refl L true [] _) (gXt kt_80 hs_78 (by omega) (by omega) (by omega))) rfl rfl rfl rfl rfl rfl
            refine ⟨kt_88.2.1, ?_⟩
            refine ⟨by omega, ?_⟩
            have f_92 := xr12 hs_86 (Int.toNat (gp_I s_29 14 (Int.toNat v6_29)))
            refine ⟨(a_26 + 5), (kt_88.tt hs_86).1.2.2.2.1.2.2.2.2, ?_⟩
            refine ⟨gin ((kt_88.tt hs_86).1.2.2.2.2.1.2.2.2.2) (by omega), ?_⟩
            intro s_93 e_94
            have hs_95 : XI L 0 s_93 := by rw [e_94]; exact XI.t5 hs_86 kt_88 _ _ _ rfl (by omega) (by omega)
            have hf_96 : gX L true [15] s s_93 := by rw [e_94]; exact gX.wI hf_87 (gXt kt_88 hs_86 (by omega) (by omega) (by omega))
            have kt_97 : kT L s_93 a_26 n_27 := by rw [e_94]; exact kt_88
            have z_98 : gp_sz s_93 = gp_sz s_84 ∧ gp_us s_93 = gp_us s_84 := by rw [e_94]; exact ⟨rfl, rfl⟩
            have q_99 : gp_I s_93 6 4 = gp_I s_84 6 4 := by rw [e_94] <;> first | rfl | exact I_ne (by omega)
            have pd_100 : PO s_93 := by rw [e_94]; exact PO_fr pd_91 (gX.wI (gX.refl L true [] _) (gXt kt_88 hs_86 (by omega) (by omega) (by omega))) rfl rfl rfl rfl rfl rfl
            have he13 : ∀ k, gp_I s_93 13 k = gp_I s_29 13 k := by subst_vars; exact fun k => (I_ne (by omega)).trans ((I_ne (by omega)).trans ((I_ne (by omega)).trans rfl))
            have he15 : ∀ k, gp_I s_93 15 k = if k = Int.toNat (gp_I s_29 14 (Int.toNat v6_29)) then v5_29 else gp_I s_29 15 k := by subst_vars; exact fun k => (I_ne (by omega)).trans ((I_ne (by omega)).trans ((I_ne (by omega)).trans (gz_rwi s_29 15 _ _ k)))
            try rw [show gp_wr (v5_29 + 1) = v5_29 + 1 from gp_wr_id (by omega) (by omega)]
            refine s_1032_181 _ _ _ _ _ _ ?_
            try rw [show gp_wr (v6_29 + 1) = v6_29 + 1 from gp_wr_id (by omega) (by omega)]
            exact ih_29 _ _ _ _ hs_95 hf_96 pd_100 kt_97 (by omega) (by omega) (by omega) (by first | rfl | omega) (by first | exact tb_step PO_s_29 (by omega) (bd_le hbN (by omega)) iv0_29 (by omega) he13 he15 | exact tb_no PO_s_29 (bd_le hbN (by omega)) iv0_29 (by assumption)) (by omega)
        · refine s_1032_187 _ _ _ _ _ _ ?_
          exact k _ s_29 hs_s_29 hf_s_29 (⟨_, _, rfl, kt_a_26_s_29, by omega, by rw [← hCL]; omega⟩) (by first | omega | assumption) (by first | omega | assumption)
      · refine s_1032_187 _ _ _ _ _ _ ?_
        exact k _ s_29 hs_s_29 hf_s_29 (⟨_, _, rfl, kt_a_26_s_29, by omega, by rw [← hCL]; omega⟩) (by first | omega | assumption) (by first | omega | assumption)
  exact lp_29 _ _ _ _ _ hs_17 hf_23 pd_24 p_19 (by omega) (by omega) (by omega) (by first | rfl | omega) (fun p h1 h2 => absurd h2 (by have h9 := (xr13 hs_17 p).1; omega)) (Nat.lt_succ_self _)
set_option maxRecDepth 100000 in
/-- Maker.rungs -/
theorem xm_rungsX  {L d : Nat} {K : Option gV → gH → Prop} {s : gH}  (p0 : Nat) (p1 : Int) (hs : XI L 0 s) (h_p1 : 1 ≤ p1 ∧ p1 ≤ 20) (q0 : 68 ≤ p0 ∧ p0 ≤ 71) (k : ∀ (r : Option Nat), ∀ (t : gH), XI L 0 t → gX L true [8, 9, 10, 11, 12, 13, 14, 15, 1196] s t → (∃ a n, r = some a ∧ kT L t a n ∧ n ≤ 60 ∧ n = lsz (w20 (gp_I s p0)) p1.toNat) → (gp_sz t ≤ gp_sz s + 6) → (gp_us t ≤ gp_us s + 310) → K (some (gp_r r)) t) : gs_C L (d + 5) 259 6 [gp_r (some 20), gp_r (some p0), gp_i p1] s K := by
  have f_1 := xr6_4 hs
  refine s_259_e _ _ ?_
  refine xm_empty hs (fun s_2 hs_3 hf_4 p_5 p_6 => ⟨rfl, ?_⟩)
  have hf_7 : gX L true [8, 9, 10, 11, 12, 13, 14, 15, 1196] s s_2 := gX.sub hf_4 rfl rfl
  have z_8 : gp_sz s_2 = gp_sz s ∧ gp_us s_2 = gp_us s := hf_4.2.1 rfl
  have hS0 : S2P s_2 := S2P_0 (by omega)
  have hD0 : DSA s_2 := DSA_0 (by omega)
  have hro : ∀ k, gp_I s_2 p0 k = gp_I s p0 k := fun k => (row_fr hf_7 q0 rfl k)
  try rw [show gp_wr (p1 - 1) = p1 - 1 from gp_wr_id (by omega) (by omega)]
  refine ⟨p0, rfl, ?_⟩
  refine ⟨gin (rowsh q0) (by omega), ?_⟩
  try rw [show gp_wr (p1 - 1) = p1 - 1 from gp_wr_id (by omega) (by omega)]
  refine ⟨gin (rowsh q0) (by omega), ?_⟩
  have hrw : (gp_I s_2 p0 (Int.toNat (p1 - 1))) = w20 (gp_I s p0) (p1.toNat - 1) := by rw [w20_i (by omega), hro]; congr 1; omega
  refine xm_addX _ _ _ _ hs_3 (p_6) (bd_0 _) (bd_0 _) (hS0) (hD0) (fun x_9 s_10 hs_11 hf_12 p_13 p_14 p_15 p_16 p_17 p_18 => ⟨_, rfl, ?_⟩)
  have hf_19 : gX L true [8, 9, 10, 11, 12, 13, 14, 15, 1196] s s_10 := gX.trans hf_7 hf_12 rfl rfl
  have z_20 : gp_sz s_10 = gp_sz s_2 ∧ gp_us s_10 = gp_us s_2 := hf_12.2.1 rfl
  have hL0 := LDI_0 (w := w20 (gp_I s p0)) (n := p1.toNat) (by omega) hrw p_17
  try rw [show gp_wr (p1 - 2) = p1 - 2 from gp_wr_id (by omega) (by omega)]
  have lp_22 : ∀ (n_22 : Nat) (v3_22 : Int) (v4_22 : Int) (v5_22 : gV) (s_22 : gH), (XI L 0 s_22) → (gX L true [8, 9, 10, 11, 12, 13, 14, 15, 1196] s s_22) → (PO s_22) → (S2P s_22) → (DSA s_22) → (gp_sz s_22 ≤ gp_sz s + 0 ∧ gp_us s_22 ≤ gp_us s + 0) → (0 ≤ v3_22 ∧ v3_22 ≤ 59) → ((-1) ≤ v4_22 ∧ v4_22 ≤ 18) → (v3_22 < gp_I s_22 6 4) → (gp_I s_22 6 4 ≤ 1 + 2 * (p1 - 2 - v4_22)) → (v4_22 ≤ p1 - 2) → (LDI s_22 (w20 (gp_I s p0)) p1.toNat (p1 - 2 - v4_22) v3_22) → (v4_22 + 2).toNat < n_22 → gs_E L (d + 5) 259 32 [gp_r (some 20), gp_r (some p0), gp_i p1, gp_i v3_22, gp_i v4_22, v5_22] [] s_22 K := by
    intro n_22
    induction n_22 with
    | zero => intro v3_22 v4_22 v5_22 s_22 hs_s_22 hf_s_22 PO_s_22 S2P_s_22 DSA_s_22 rm_s_22 hv3_22 hv4_22 iv0_22 iv1_22 iv2_22 iv3_22 hm_22; exact absurd hm_22 (Nat.not_lt_zero _)
    | succ n_22 ih_22 =>
      intro v3_22 v4_22 v5_22 s_22 hs_s_22 hf_s_22 PO_s_22 S2P_s_22 DSA_s_22 rm_s_22 hv3_22 hv4_22 iv0_22 iv1_22 iv2_22 iv3_22 hm_22
      refine s_259_32 _ _ _ _ _ ?_
      refine ⟨fun h_23 => ?_, fun h_23 => ?_⟩
      · have hbe := LDI_end iv3_22 (by omega) (by omega)
        refine xm_tableOfX _ hs_s_22 (by omega) (PO_s_22) (by first | omega | assumption) (fun o_24 s_25 hs_26 hf_27 p_28 p_29 p_30 => ⟨_, rfl, ?_⟩)
        have hf_31 : gX L true [8, 9, 10, 11, 12, 13, 14, 15, 1196] s s_25 := gX.trans hf_s_22 hf_27 rfl rfl
        have pd_32 : PO s_25 := PO_fr PO_s_22 hf_27 rfl rfl rfl rfl rfl rfl
        have pd_33 : S2P s_25 := S2P_fr S2P_s_22 hf_27 rfl rfl rfl rfl rfl rfl rfl rfl
        have pd_34 : DSA s_25 := DSA_fr DSA_s_22 hf_27 rfl rfl rfl rfl
        have q_35 : gp_I s_25 6 4 = gp_I s_22 6 4 := (hf_27.2.2.1 6 4 (by decide) (by decide) rfl).1
        obtain ⟨a_36, n_37, rfl, kt_38, hn_39⟩ := p_28
        have hn_a_36 := kt_38.n hs_26
        exact k _ s_25 hs_26 hf_31 (⟨_, _, rfl, by assumption, by omega, by omega⟩) (by first | omega | assumption) (by first | omega | assumption)
      · refine ⟨p0, rfl, ?_⟩
        refine ⟨gin (rowsh q0) (by omega), ?_⟩
        refine ⟨gin (rowsh q0) (by omega), ?_⟩
        have hrx : (gp_I s_22 p0 (Int.toNat v4_22)) = w20 (gp_I s p0) (p1.toNat - 2 - Int.toNat (p1 - 2 - v4_22)) := by rw [w20_i (by omega), row_fr hf_s_22 q0 rfl]; congr 1; omega
        refine xm_addX _ _ _ _ hs_s_22 (PO_s_22) (bd_0 _) (bd_0 _) (S2P_s_22) (DSA_s_22) (fun x_40 s_41 hs_42 hf_43 p_44 p_45 p_46 p_47 p_48 p_49 => ⟨_, rfl, ?_⟩)
        have hf_50 : gX L true [8, 9, 10, 11, 12, 13, 14, 15, 1196] s s_41 := gX.trans hf_s_22 hf_43 rfl rfl
        have z_51 : gp_sz s_41 = gp_sz s_22 ∧ gp_us s_41 = gp_us s_22 := hf_43.2.1 rfl
        have hA1 := p_48
        refine xm_addX _ _ _ _ hs_42 (p_45) (bd_sh (by omega) (by omega) (by omega)) (bd_sh (by omega) (by omega) (by omega)) (p_47) (p_49) (fun x_52 s_53 hs_54 hf_55 p_56 p_57 p_58 p_59 p_60 p_61 => ⟨_, rfl, ?_⟩)
        have hf_62 : gX L true [8, 9, 10, 11, 12, 13, 14, 15, 1196] s s_53 := gX.trans hf_50 hf_55 rfl rfl
        have z_63 : gp_sz s_53 = gp_sz s_41 ∧ gp_us s_53 = gp_us s_41 := hf_55.2.1 rfl
        have hA2 := p_60
        try rw [show gp_wr (v4_22 + (-1)) = v4_22 + (-1) from gp_wr_id (by omega) (by omega)]
        exact ih_22 _ _ _ _ hs_54 hf_62 p_57 p_59 p_61 (by omega) (by omega) (by omega) (by first | omega | assumption) (by first | omega | assumption) (by first | omega | assumption) (by rw [show p1 - 2 - (v4_22 + -1) = p1 - 2 - v4_22 + 1 by omega]; exact LDI_s iv3_22 (by omega) (by omega) hrx hA1 rfl rfl (by omega) (by omega) hA2) (by omega)
  exact lp_22 _ _ _ _ _ hs_11 hf_19 p_14 p_16 p_18 (by omega) (by omega) (by omega) (by first | omega | assumption) (by first | omega | assumption) (by first | omega | assumption) (by rw [show p1 - 2 - (p1 - 2) = 0 by omega]; exact hL0) (Nat.lt_succ_self _)
set_option maxRecDepth 100000 in
/-- Sheets.tooBig -/
theorem xm_sh_tooBigX  {L d : Nat} {K : Option gV → gH → Prop} {s : gH}  (p0 : Int) (hs : XI L 0 s) (h_p0 : 0 ≤ p0 ∧ p0 ≤ 3)  (k : ∀ (r : Int), (0 ≤ r ∧ r ≤ 1) → ((r = 1 ∧ BIGW (gp_I s (68 + p0.toNat)) (gp_I s 73 p0.toNat)) ∨ (r = 0 ∧ ¬ BIGW (gp_I s (68 + p0.toNat)) (gp_I s 73 p0.toNat))) → K (some (gp_i r)) s) : gs_C L d 1798 3 [gp_r (some 66), gp_i p0] s K := by
  refine s_1798_e _ ?_
  have lp_1 : ∀ (n_1 : Nat) (v2_1 : Int), (0 ≤ v2_1 ∧ v2_1 ≤ 20) → (∀ k : Nat, (k : Int) < v2_1 → ¬ (99999 < gp_I s (68 + p0.toNat) k ∨ gp_I s (68 + p0.toNat) k < -99999)) → (21 - v2_1).toNat < n_1 → gs_E L d 1798 2 [gp_r (some 66), gp_i p0, gp_i v2_1] [] s K := by
    intro n_1
    induction n_1 with
    | zero => intro v2_1 hv2_1 iv0_1 hm_1; exact absurd hm_1 (Nat.not_lt_zero _)
    | succ n_1 ih_1 =>
      intro v2_1 hv2_1 iv0_1 hm_1
      refine s_1798_2 _ _ ?_
      refine ⟨by omega, ?_⟩
      have f_2 := xr73 hs (Int.toNat p0)
      refine ⟨fun h_3 => ?_, fun h_3 => ?_⟩
      · refine ⟨by omega, ?_⟩
        refine ⟨(68 + Int.toNat p0), shR (by omega), ?_⟩
        refine ⟨gin (rowsh ⟨by omega, by omega⟩) (by omega), ?_⟩
        refine ⟨fun h_4 => ?_, fun h_4 => ?_⟩
        · refine s_1798_38 _ _ ?_
          exact k _ (by omega) (by first | exact Or.inl ⟨rfl, Int.toNat v2_1, by omega, by omega⟩ | exact Or.inr ⟨rfl, fun q9 => by obtain ⟨k9, a9, b9⟩ := q9; exact iv0_1 k9 (by omega) b9⟩)
        · refine ⟨by omega, ?_⟩
          refine ⟨(68 + Int.toNat p0), shR (by omega), ?_⟩
          refine ⟨gin (rowsh ⟨by omega, by omega⟩) (by omega), ?_⟩
          refine ⟨fun h_5 => ?_, fun h_5 => ?_⟩
          · refine s_1798_38 _ _ ?_
            exact k _ (by omega) (by first | exact Or.inl ⟨rfl, Int.toNat v2_1, by omega, by omega⟩ | exact Or.inr ⟨rfl, fun q9 => by obtain ⟨k9, a9, b9⟩ := q9; exact iv0_1 k9 (by omega) b9⟩)
          · try rw [show gp_wr (v2_1 + 1) = v2_1 + 1 from gp_wr_id (by omega) (by omega)]
            exact ih_1 _ (by omega) (tb_nx iv0_1 (by omega) (by omega)) (by omega)
      · exact k _ (by omega) (by first | exact Or.inl ⟨rfl, Int.toNat v2_1, by omega, by omega⟩ | exact Or.inr ⟨rfl, fun q9 => by obtain ⟨k9, a9, b9⟩ := q9; exact iv0_1 k9 (by omega) b9⟩)
  exact lp_1 _ _ (by omega) (fun k hk => by omega) (Nat.lt_succ_self _)
set_option maxRecDepth 100000 in
/-- GatheredPoints.ladder -/
theorem xp_ladder2  {L d : Nat} {K : Option gV → gH → Prop} {s : gH}  (p0 : Int) (p1 : Int) (hs : XI L 0 s) (h_p0 : (-2147483648) ≤ p0 ∧ p0 ≤ 2147483647) (h_p1 : (-2147483648) ≤ p1 ∧ p1 ≤ 2147483647) (q0 : XS L s) (k : ∀ (r : Int), ∀ (t : gH), XI L 0 t → gX L true [2, 4, 8, 9, 10, 11, 12, 13, 14, 15, 1196] s t → (XS L t) → (gp_sz t ≤ gp_sz s + 6) → (gp_us t ≤ gp_us s + 310) → (LDP (gp_I s 72 p1.toNat) (gp_I s 73 p1.toNat) (gp_I s (68 + p1.toNat)) p0 p1 r) → K (some (gp_i r)) t) : gs_C L (d + 6) 2820 3 [gp_r (some 1), gp_i p0, gp_i p1] s K := by
  refine s_2820_e _ _ ?_
  refine xm_noSlot _ (by omega) (fun x_1 p_2 p_3 p_4 => ⟨_, rfl, ?_⟩)
  refine ⟨fun h_5 => ?_, fun h_5 => ?_⟩
  · refine xm_sh_beyond _ hs (fun x_6 p_7 p_8 => ⟨_, rfl, ?_⟩)
    refine ⟨fun h_9 => ?_, fun h_9 => ?_⟩
    · refine xm_sh_missing2 _ hs (by omega) (fun x_10 p_11 p_12 => ⟨_, rfl, ?_⟩)
      refine ⟨fun h_13 => ?_, fun h_13 => ?_⟩
      · refine ⟨by omega, ?_⟩
        have f_14 := xr73 hs (Int.toNat p1)
        refine ⟨fun h_15 => ?_, fun h_15 => ?_⟩
        · refine s_2820_47 _ _ ?_
          refine xp_refused _ hs (by omega) (fun x_16 s_17 hs_18 hf_19 p_20 => ⟨_, rfl, ?_⟩)
          have hf_21 : gX L true [2, 4, 8, 9, 10, 11, 12, 13, 14, 15, 1196] s s_17 := gX.sub hf_19 rfl rfl
          have pd_22 : XS L s_17 := XS_fr q0 hf_19 rfl
          have z_23 : gp_sz s_17 = gp_sz s ∧ gp_us s_17 = gp_us s := hf_19.2.1 rfl
          exact k _ s_17 hs_18 hf_21 (pd_22) (by first | omega | assumption) (by first | omega | assumption) (Or.inr (Or.inl ⟨by omega, by omega, by omega⟩))
        · refine xm_sh_tooBigX _ hs (by omega) (fun x_24 p_25 p_26 => ⟨_, rfl, ?_⟩)
          have htb := p_26
          refine ⟨fun h_27 => ?_, fun h_27 => ?_⟩
          · refine ⟨by omega, ?_⟩
            refine ⟨by omega, ?_⟩
            have f_28 := xr73 hs (Int.toNat p1)
            rw [show gp_r (gp_R (gp_mk L s) 67 (Int.toNat p1)) = gp_r (some (68 + Int.toNat p1)) from congrArg gp_r (shR (by omega))]
            refine xm_rungsX _ _ hs (by omega) (by first | omega | assumption) (fun o_29 s_30 hs_31 hf_32 p_33 p_34 p_35 => ⟨_, rfl, ?_⟩)
            have hf_36 : gX L true [2, 4, 8, 9, 10, 11, 12, 13, 14, 15, 1196] s s_30 := gX.sub hf_32 rfl rfl
            have pd_37 : XS L s_30 := XS_fr q0 hf_32 rfl
            obtain ⟨a_38, n_39, rfl, kt_40, hn_41⟩ := p_33
            have hn_a_38 := kt_40.n hs_31
            refine xp_hold2 n_39 _ _ hs_31 (by omega) (by first | assumption | exact kT7 hs_31.1.1 | exact kT25 hs_31.1.1) (by first | omega | assumption) (pd_37) (fun x_42 s_43 hs_44 hf_45 p_46 p_47 p_48 => ⟨_, rfl, ?_⟩)
            have hf_49 : gX L true [2, 4, 8, 9, 10, 11, 12, 13, 14, 15, 1196] s s_43 := gX.trans hf_36 hf_45 rfl rfl
            have kt_50 : kT L s_43 a_38 n_39 := kt_40.fr hf_45.1
            have z_51 : gp_sz s_43 = gp_sz s_30 ∧ gp_us s_43 = gp_us s_30 := hf_45.2.1 rfl
            exact k _ s_43 hs_44 hf_49 (p_47) (by first | omega | assumption) (by first | omega | assumption) (Or.inr (Or.inr (Or.inr ⟨by omega, by omega, (by rcases htb with q | q; omega; exact q.2), by omega⟩)))
          · refine xp_refused _ hs (by omega) (fun x_52 s_53 hs_54 hf_55 p_56 => ⟨_, rfl, ?_⟩)
            have hf_57 : gX L true [2, 4, 8, 9, 10, 11, 12, 13, 14, 15, 1196] s s_53 := gX.sub hf_55 rfl rfl
            have pd_58 : XS L s_53 := XS_fr q0 hf_55 rfl
            have z_59 : gp_sz s_53 = gp_sz s ∧ gp_us s_53 = gp_us s := hf_55.2.1 rfl
            exact k _ s_53 hs_54 hf_57 (pd_58) (by first | omega | assumption) (by first | omega | assumption) (Or.inr (Or.inr (Or.inl ⟨by omega, by omega, (by rcases htb with q | q; exact q.2; omega), by omega⟩)))
      · refine s_2820_47 _ _ ?_
        refine xp_refused _ hs (by omega) (fun x_60 s_61 hs_62 hf_63 p_64 => ⟨_, rfl, ?_⟩)
        have hf_65 : gX L true [2, 4, 8, 9, 10, 11, 12, 13, 14, 15, 1196] s s_61 := gX.sub hf_63 rfl rfl
        have pd_66 : XS L s_61 := XS_fr q0 hf_63 rfl
        have z_67 : gp_sz s_61 = gp_sz s ∧ gp_us s_61 = gp_us s := hf_63.2.1 rfl
        exact k _ s_61 hs_62 hf_65 (pd_66) (by first | omega | assumption) (by first | omega | assumption) (Or.inr (Or.inl ⟨by omega, by omega, by omega⟩))
    · refine s_2820_18 _ _ ?_
      refine xp_refused _ hs (by omega) (fun x_68 s_69 hs_70 hf_71 p_72 => ⟨_, rfl, ?_⟩)
      have hf_73 : gX L true [2, 4, 8, 9, 10, 11, 12, 13, 14, 15, 1196] s s_69 := gX.sub hf_71 rfl rfl
      have pd_74 : XS L s_69 := XS_fr q0 hf_71 rfl
      have z_75 : gp_sz s_69 = gp_sz s ∧ gp_us s_69 = gp_us s := hf_71.2.1 rfl
      exact k _ s_69 hs_70 hf_73 (pd_74) (by first | omega | assumption) (by first | omega | assumption) (Or.inl ⟨by omega, by omega⟩)
  · refine s_2820_18 _ _ ?_
    refine xp_refused _ hs (by omega) (fun x_76 s_77 hs_78 hf_79 p_80 => ⟨_, rfl, ?_⟩)
    have hf_81 : gX L true [2, 4, 8, 9, 10, 11, 12, 13, 14, 15, 1196] s s_77 := gX.sub hf_79 rfl rfl
    have pd_82 : XS L s_77 := XS_fr q0 hf_79 rfl
    have z_83 : gp_sz s_77 = gp_sz s ∧ gp_us s_77 = gp_us s := hf_79.2.1 rfl
    exact k _ s_77 hs_78 hf_81 (pd_82) (by first | omega | assumption) (by first | omega | assumption) (Or.inl ⟨by omega, by omega⟩)
