/-! strips: where the stones stand tells the rest -/
def stn (f : Nat → Int) : Nat → Nat
  | 0 => 0
  | j + 1 => stn f j + (if f j < 0 then 1 else 0)
theorem stn_s (f : Nat → Int) (j : Nat) : stn f (j + 1) = stn f j + (if f j < 0 then 1 else 0) := rfl
theorem stn_y {f : Nat → Int} {j : Nat} (h : f j < 0) : stn f (j + 1) = stn f j + 1 := by rw [stn_s, if_pos h]
theorem stn_n {f : Nat → Int} {j : Nat} (h : 0 ≤ f j) : stn f (j + 1) = stn f j := by rw [stn_s, if_neg (by omega)]; rfl
theorem stn_mono {f : Nat → Int} {i : Nat} : ∀ {j : Nat}, i ≤ j → stn f i ≤ stn f j
  | 0, h => by rw [show i = 0 by omega]; exact Nat.le_refl _
  | j + 1, h => by
    by_cases c : i = j + 1
    · rw [c]; exact Nat.le_refl _
    · have := stn_mono (f := f) (i := i) (j := j) (by omega)
      rw [stn_s]; omega
theorem stn_le (f : Nat → Int) : ∀ j, stn f j ≤ j
  | 0 => Nat.le_refl _
  | j + 1 => by
    have := stn_le f j
    rw [stn_s]
    split <;> omega
theorem stn_eq {f g : Nat → Int} : ∀ (n : Nat), (∀ j, j < n → (f j < 0 ↔ g j < 0)) → stn f n = stn g n
  | 0, _ => rfl
  | n + 1, h => by
    rw [stn_s, stn_s, stn_eq n (fun j hj => h j (by omega))]
    by_cases c : f n < 0
    · rw [if_pos c, if_pos ((h n (by omega)).mp c)]
    · rw [if_neg c, if_neg (fun q => c ((h n (by omega)).mpr q))]
/-- a stone moves -/
def mvd (f : Nat → Int) (i to : Nat) : Nat → Int := fun j => if j = to then f i else if j = i then 0 else f j
theorem mvd_t (f : Nat → Int) (i to : Nat) : mvd f i to to = f i := if_pos rfl
theorem mvd_i {f : Nat → Int} {i to : Nat} (h : i ≠ to) : mvd f i to i = 0 := by unfold mvd; rw [if_neg h, if_pos rfl]
theorem mvd_o {f : Nat → Int} {i to j : Nat} (h1 : j ≠ to) (h2 : j ≠ i) : mvd f i to j = f j := by unfold mvd; rw [if_neg h1, if_neg h2]
theorem stn_L {f : Nat → Int} {i : Nat} (h1 : f i < 0) (h2 : 0 ≤ f (i + 1)) : ∀ j, stn (mvd f i (i + 1)) j = if j = i + 1 then stn f i else stn f j
  | 0 => by rw [if_neg (by omega)]; rfl
  | j + 1 => by
    have ih := stn_L h1 h2 j
    rw [stn_s, ih]
    by_cases c : j = i
    · subst c
      rw [mvd_i (by omega), if_neg (by omega), if_neg (by omega), if_pos rfl]; rfl
    · by_cases d : j = i + 1
      · subst d
        rw [mvd_t, if_pos rfl, if_pos h1, if_neg (by omega), stn_n h2, stn_y h1]
      · rw [mvd_o d c, if_neg d, if_neg (show ¬ (j + 1 = i + 1) by omega), stn_s]
theorem stn_R {f : Nat → Int} {i : Nat} (h1 : f (i + 1) < 0) (h2 : 0 ≤ f i) : ∀ j, stn (mvd f (i + 1) i) j = if j = i + 1 then stn f i + 1 else stn f j
  | 0 => by rw [if_neg (by omega)]; rfl
  | j + 1 => by
    have ih := stn_R h1 h2 j
    rw [stn_s, ih]
    by_cases c : j = i
    · subst c
      rw [mvd_t, if_neg (by omega), if_pos h1, if_pos rfl]
    · by_cases d : j = i + 1
      · subst d
        rw [mvd_i (by omega), if_pos rfl, if_neg (by omega), if_neg (by omega), stn_y h1, stn_n h2]
      · rw [mvd_o c d, if_neg d, if_neg (show ¬ (j + 1 = i + 1) by omega), stn_s]
/-- what is gathered, by the cells -/
def gth (f0 : Nat → Int) (c : Nat → Nat) : Nat → Int
  | 0 => 0
  | j + 1 => gth f0 c j + (if 0 ≤ f0 j ∧ c j < stn f0 j then f0 j else 0) - (if 0 ≤ f0 j ∧ stn f0 (j + 1) < c (j + 1) then f0 j else 0)
theorem gth_eq {f0 : Nat → Int} {c d : Nat → Nat} : ∀ (n : Nat), (∀ j, j ≤ n → c j = d j) → gth f0 c n = gth f0 d n
  | 0, _ => rfl
  | n + 1, h => by
    unfold gth
    rw [gth_eq n (fun j hj => h j (by omega)), h n (by omega), h (n + 1) (by omega)]
/-- a position that comes of f0, whose stones are T in their row -/
def SIV (f0 T : Nat → Int) (n : Nat) (f : Nat → Int) (p : Int) : Prop :=
  (∀ j, j < n → f j < 0 → f j = T (stn f j) ∧ (f j = -1 ∨ f j = -2)) ∧
  (∀ j, j ≤ n → (∀ k, stn f j ≤ k → k < stn f0 j → T k = -1) ∧ ∀ k, stn f0 j ≤ k → k < stn f j → T k = -2) ∧
  (∀ j, j < n → 0 ≤ f j → f j = if 0 ≤ f0 j ∧ stn f j = stn f0 j then f0 j else 0) ∧ p = gth f0 (stn f) n
theorem SIV_det {f0 T f g : Nat → Int} {n : Nat} {p q : Int} (h : SIV f0 T n f p) (k : SIV f0 T n g q) (e : ∀ j, j < n → (f j < 0 ↔ g j < 0)) : (∀ j, j < n → f j = g j) ∧ p = q := by
  have hc : ∀ j, j ≤ n → stn f j = stn g j := fun j hj => stn_eq j (fun i hi => e i (by omega))
  refine ⟨fun j hj => ?_, ?_⟩
  · by_cases c : f j < 0
    · rw [(h.1 j hj c).1, (k.1 j hj ((e j hj).mp c)).1, hc j (by omega)]
    · have d : ¬ g j < 0 := fun q => c ((e j hj).mpr q)
      rw [h.2.2.1 j hj (by omega), k.2.2.1 j hj (by omega), hc j (by omega)]
  · rw [h.2.2.2, k.2.2.2]
    exact gth_eq n hc
theorem gth_L {f0 : Nat → Int} {c d : Nat → Nat} {i : Nat} (h : ∀ j, d j = if j = i + 1 then c i else c j) (hc : c (i + 1) = c i + 1) (hl : c (i + 1) ≤ stn f0 (i + 1)) : ∀ n, gth f0 d n = gth f0 c n + if i + 1 < n ∧ 0 ≤ f0 (i + 1) ∧ c (i + 1) = stn f0 (i + 1) then f0 (i + 1) else 0
  | 0 => by rw [if_neg (by omega)]; rfl
  | n + 1 => by
    have ih := gth_L h hc hl n
    unfold gth
    rw [ih, h n, h (n + 1)]
    by_cases a : n = i + 1
    · subst a
      rw [if_neg (by omega : ¬ (i + 1 < i + 1 ∧ _)), if_pos rfl, if_neg (by omega : ¬ (i + 1 + 1 = i + 1))]
      by_cases z : 0 ≤ f0 (i + 1)
      · by_cases y : c (i + 1) = stn f0 (i + 1)
        · rw [if_pos (show 0 ≤ f0 (i + 1) ∧ c i < stn f0 (i + 1) from ⟨z, by omega⟩), if_neg (show ¬ (0 ≤ f0 (i + 1) ∧ c (i + 1) < stn f0 (i + 1)) from by omega), if_pos (show i + 1 < i + 1 + 1 ∧ 0 ≤ f0 (i + 1) ∧ c (i + 1) = stn f0 (i + 1) from ⟨by omega, z, y⟩)]
          omega
        · rw [if_pos (show 0 ≤ f0 (i + 1) ∧ c i < stn f0 (i + 1) from ⟨z, by omega⟩), if_pos (show (0 ≤ f0 (i + 1) ∧ c (i + 1) < stn f0 (i + 1)) from ⟨z, by omega⟩), if_neg (show ¬ (i + 1 < i + 1 + 1 ∧ 0 ≤ f0 (i + 1) ∧ c (i + 1) = stn f0 (i + 1)) from by omega)]
          omega
      · rw [if_neg (show ¬ (0 ≤ f0 (i + 1) ∧ c i < stn f0 (i + 1)) from fun q => z q.1), if_neg (show ¬ (0 ≤ f0 (i + 1) ∧ c (i + 1) < stn f0 (i + 1)) from fun q => z q.1), if_neg (show ¬ (i + 1 < i + 1 + 1 ∧ 0 ≤ f0 (i + 1) ∧ c (i + 1) = stn f0 (i + 1)) from fun q => z q.2.1)]
        omega
    · rw [if_neg a]
      by_cases b : n = i
      · subst b
        rw [if_pos rfl, if_neg (show ¬ (0 ≤ f0 n ∧ stn f0 (n + 1) < c n) from by omega), if_neg (show ¬ (0 ≤ f0 n ∧ stn f0 (n + 1) < c (n + 1)) from by omega), if_neg (show ¬ (n + 1 < n ∧ _) from by omega), if_neg (show ¬ (n + 1 < n + 1 ∧ _) from by omega)]
        omega
      · rw [if_neg (show ¬ (n + 1 = i + 1) from by omega)]
        by_cases z : i + 1 < n
        · simp only [z, show i + 1 < n + 1 by omega, true_and]
          omega
        · simp only [z, show ¬ i + 1 < n + 1 by omega, false_and, if_false]
          omega
theorem gth_R {f0 : Nat → Int} {c d : Nat → Nat} {i : Nat} (h : ∀ j, d j = if j = i + 1 then c i + 1 else c j) (hc : c (i + 1) = c i) (hl : stn f0 (i + 1) ≤ c (i + 1)) : ∀ n, i + 1 < n → gth f0 d n = gth f0 c n - if 0 ≤ f0 i ∧ c (i + 1) = stn f0 (i + 1) then f0 i else 0 := by
  have low : ∀ n, n ≤ i → gth f0 d n = gth f0 c n := fun n hn => gth_eq n (fun j hj => by rw [h j, if_neg (by omega)])
  have at1 : gth f0 d (i + 1) = gth f0 c (i + 1) - if 0 ≤ f0 i ∧ c (i + 1) = stn f0 (i + 1) then f0 i else 0 := by
    unfold gth
    rw [low i (Nat.le_refl _), h i, h (i + 1), if_neg (show ¬ i = i + 1 by omega), if_pos (show i + 1 = i + 1 from rfl)]
    by_cases z : 0 ≤ f0 i
    · by_cases y : c (i + 1) = stn f0 (i + 1)
      · rw [if_pos (show 0 ≤ f0 i ∧ stn f0 (i + 1) < c i + 1 from ⟨z, by omega⟩), if_neg (show ¬ (0 ≤ f0 i ∧ stn f0 (i + 1) < c (i + 1)) from by omega), if_pos (show 0 ≤ f0 i ∧ c (i + 1) = stn f0 (i + 1) from ⟨z, y⟩)]
        omega
      · rw [if_pos (show 0 ≤ f0 i ∧ stn f0 (i + 1) < c i + 1 from ⟨z, by omega⟩), if_pos (show (0 ≤ f0 i ∧ stn f0 (i + 1) < c (i + 1)) from ⟨z, by omega⟩), if_neg (show ¬ (0 ≤ f0 i ∧ c (i + 1) = stn f0 (i + 1)) from by omega)]
        omega
    · rw [if_neg (show ¬ (0 ≤ f0 i ∧ stn f0 (i + 1) < c i + 1) from fun q => z q.1), if_neg (show ¬ (0 ≤ f0 i ∧ stn f0 (i + 1) < c (i + 1)) from fun q => z q.1), if_neg (show ¬ (0 ≤ f0 i ∧ c (i + 1) = stn f0 (i + 1)) from fun q => z q.1)]
      omega
  have st : ∀ n, i + 1 ≤ n → gth f0 d (n + 1) = gth f0 c (n + 1) + (gth f0 d n - gth f0 c n) := fun n hn => by
    have e1 : gth f0 d (n + 1) = gth f0 d n + (if 0 ≤ f0 n ∧ d n < stn f0 n then f0 n else 0) - (if 0 ≤ f0 n ∧ stn f0 (n + 1) < d (n + 1) then f0 n else 0) := rfl
    have e2 : gth f0 c (n + 1) = gth f0 c n + (if 0 ≤ f0 n ∧ c n < stn f0 n then f0 n else 0) - (if 0 ≤ f0 n ∧ stn f0 (n + 1) < c (n + 1) then f0 n else 0) := rfl
    rw [e1, e2, h (n + 1), if_neg (show ¬ n + 1 = i + 1 by omega)]
    by_cases b : n = i + 1
    · subst b
      rw [h (i + 1), if_pos rfl, if_neg (show ¬ (0 ≤ f0 (i + 1) ∧ c i + 1 < stn f0 (i + 1)) by omega), if_neg (show ¬ (0 ≤ f0 (i + 1) ∧ c (i + 1) < stn f0 (i + 1)) by omega)]
      omega
    · rw [h n, if_neg b]; omega
  intro n hn
  induction n with
  | zero => omega
  | succ n ih =>
    by_cases c : n = i + 1
    · subst c
      rw [st _ (Nat.le_refl _), at1]; omega
    · have := ih (by omega)
      rw [st n (by omega), this]; omega
theorem SIV_L {f0 T f : Nat → Int} {n i : Nat} {p : Int} (h : SIV f0 T n f p) (hi : i + 1 < n) (h1 : f i = -1) (h2 : 0 ≤ f (i + 1)) : SIV f0 T n (mvd f i (i + 1)) (p + f (i + 1)) := by
  have hn : f i < 0 := by omega
  have hs := stn_L hn h2
  have hy : stn f (i + 1) = stn f i + 1 := stn_y hn
  have hT : T (stn f i) = -1 := by rw [← (h.1 i (by omega) hn).1]; exact h1
  have hb := h.2.1 (i + 1) (by omega)
  have hl : stn f (i + 1) ≤ stn f0 (i + 1) := by
    by_cases c : stn f (i + 1) ≤ stn f0 (i + 1)
    · exact c
    · have := hb.2 (stn f i) (by omega) (by omega)
      omega
  refine ⟨fun j hj c => ?_, fun j hj => ?_, fun j hj c => ?_, ?_⟩
  · rw [hs j]
    by_cases a : j = i + 1
    · subst a
      rw [mvd_t, if_pos rfl]
      exact h.1 i (by omega) hn
    · by_cases b : j = i
      · subst b
        rw [mvd_i (by omega)] at c
        omega
      · rw [mvd_o a b] at c ⊢
        rw [if_neg a]
        exact h.1 j hj c
  · rw [hs j]
    by_cases a : j = i + 1
    · subst a
      rw [if_pos rfl]
      refine ⟨fun k k1 k2 => ?_, fun k k1 k2 => hb.2 k k1 (by omega)⟩
      by_cases e : k = stn f i
      · rw [e]; exact hT
      · exact hb.1 k (by omega) k2
    · rw [if_neg a]; exact h.2.1 j hj
  · rw [hs j]
    by_cases a : j = i + 1
    · subst a
      rw [mvd_t] at c
      omega
    · rw [if_neg a]
      by_cases b : j = i
      · subst b
        rw [mvd_i (by omega), if_neg]
        intro q
        have := stn_n q.1
        omega
      · rw [mvd_o a b] at c ⊢
        exact h.2.2.1 j hj c
  · rw [gth_L hs hy hl n, ← h.2.2.2, h.2.2.1 (i + 1) hi h2]
    by_cases c : 0 ≤ f0 (i + 1) ∧ stn f (i + 1) = stn f0 (i + 1)
    · rw [if_pos c, if_pos ⟨hi, c⟩]
    · rw [if_neg c, if_neg (fun q => c q.2)]
theorem SIV_R {f0 T f : Nat → Int} {n i : Nat} {p : Int} (h : SIV f0 T n f p) (hi : i + 1 < n) (h1 : f (i + 1) = -2) (h2 : 0 ≤ f i) : SIV f0 T n (mvd f (i + 1) i) (p - f i) := by
  have hn : f (i + 1) < 0 := by omega
  have hs := stn_R hn h2
  have hy : stn f (i + 1) = stn f i := stn_n h2
  have hT : T (stn f (i + 1)) = -2 := by rw [← (h.1 (i + 1) hi hn).1]; exact h1
  have hb := h.2.1 (i + 1) (by omega)
  have hl : stn f0 (i + 1) ≤ stn f (i + 1) := by
    by_cases c : stn f0 (i + 1) ≤ stn f (i + 1)
    · exact c
    · have := hb.1 (stn f (i + 1)) (by omega) (by omega)
      omega
  refine ⟨fun j hj c => ?_, fun j hj => ?_, fun j hj c => ?_, ?_⟩
  · rw [hs j]
    by_cases a : j = i
    · subst a
      rw [mvd_t, if_neg (by omega), ← hy]
      exact h.1 (j + 1) hi hn
    · by_cases b : j = i + 1
      · subst b
        rw [mvd_i (by omega)] at c
        omega
      · rw [mvd_o a b] at c ⊢
        rw [if_neg b]
        exact h.1 j hj c
  · rw [hs j]
    by_cases a : j = i + 1
    · subst a
      rw [if_pos rfl]
      refine ⟨fun k k1 k2 => by omega, fun k k1 k2 => ?_⟩
      by_cases e : k = stn f (i + 1)
      · rw [e]; exact hT
      · exact hb.2 k k1 (by omega)
    · rw [if_neg a]; exact h.2.1 j hj
  · rw [hs j]
    by_cases a : j = i
    · subst a
      rw [mvd_t] at c
      omega
    · by_cases b : j = i + 1
      · subst b
        rw [mvd_i (by omega), if_pos rfl, if_neg]
        intro q
        omega
      · rw [mvd_o a b] at c ⊢
        rw [if_neg b]
        exact h.2.2.1 j hj c
  · rw [gth_R hs hy hl n hi, ← h.2.2.2, h.2.2.1 i (by omega) h2]
    by_cases z : 0 ≤ f0 i
    · have := stn_n z
      by_cases c : stn f i = stn f0 i
      · rw [if_pos ⟨z, c⟩, if_pos ⟨z, by omega⟩]
      · rw [if_neg (fun q => c q.2), if_neg (fun q => c (by omega))]
    · rw [if_neg (fun q => z q.1), if_neg (fun q => z q.1)]
/-- the stones in their row -/
def rowT (f : Nat → Int) : Nat → Nat → Int
  | 0, _ => 0
  | n + 1, k => if f n < 0 ∧ stn f n = k then f n else rowT f n k
theorem rowT_i {f : Nat → Int} : ∀ {n j : Nat}, j < n → f j < 0 → rowT f n (stn f j) = f j
  | 0, j, h, _ => by omega
  | n + 1, j, h, c => by
    unfold rowT
    by_cases d : j = n
    · subst d
      rw [if_pos ⟨c, rfl⟩]
    · have a := stn_y c
      have b := stn_mono (f := f) (i := j + 1) (j := n) (by omega)
      rw [if_neg (fun q => by have := q.2; omega)]
      exact rowT_i (by omega) c
theorem gth_0 (f : Nat → Int) : ∀ n, gth f (stn f) n = 0
  | 0 => rfl
  | n + 1 => by
    unfold gth
    rw [gth_0 f n, if_neg (by omega), if_neg (by omega)]; rfl
theorem SIV_0 {f : Nat → Int} {n : Nat} (h : ∀ j, j < n → f j < 0 → f j = -1 ∨ f j = -2) : SIV f (rowT f n) n f 0 :=
  ⟨fun j hj c => ⟨(rowT_i hj c).symm, h j hj c⟩, fun j _ => ⟨fun k k1 k2 => by omega, fun k k1 k2 => by omega⟩, fun j hj c => by rw [if_pos ⟨c, rfl⟩], (gth_0 f n).symm⟩
/-- how far it is: each step brings it one nearer -/
def far (f : Nat → Int) (n : Nat) : Nat → Int
  | 0 => 0
  | j + 1 => far f n j + (if f j = -1 then ((n : Int) - stn f n) - ((j : Int) + 1 - stn f (j + 1)) else if f j = -2 then (j : Int) - stn f j else 0)
theorem stn_lt {f : Nat → Int} {i : Nat} : ∀ {j : Nat}, i ≤ j → (stn f j : Int) - stn f i ≤ (j : Int) - i
  | 0, h => by rw [show i = 0 by omega]; omega
  | j + 1, h => by
    by_cases c : i = j + 1
    · rw [c]; omega
    · have := stn_lt (f := f) (i := i) (j := j) (by omega)
      rw [stn_s]
      split <;> omega
theorem far_nn (f : Nat → Int) (n : Nat) : ∀ j, j ≤ n → 0 ≤ far f n j
  | 0, _ => Int.le_refl _
  | j + 1, h => by
    have := far_nn f n j (by omega)
    have a := stn_lt (f := f) (i := j + 1) (j := n) (by omega)
    have b := stn_le f j
    unfold far
    split
    · omega
    · split <;> omega
theorem far_eq {f g : Nat → Int} {n : Nat} (hn : stn f n = stn g n) : ∀ j, (∀ i, i < j → f i = g i) → (∀ i, i ≤ j → stn f i = stn g i) → far f n j = far g n j
  | 0, _, _ => rfl
  | j + 1, h, e => by
    unfold far
    rw [far_eq hn j (fun i hi => h i (by omega)) (fun i hi => e i (by omega)), h j (by omega), hn, e j (by omega), e (j + 1) (by omega)]
theorem far_s (f : Nat → Int) (n j : Nat) : far f n (j + 1) = far f n j + (if f j = -1 then ((n : Int) - stn f n) - ((j : Int) + 1 - stn f (j + 1)) else if f j = -2 then (j : Int) - stn f j else 0) := rfl
theorem far_L {f : Nat → Int} {n i : Nat} (hi : i + 1 < n) (h1 : f i = -1) (h2 : 0 ≤ f (i + 1)) : far (mvd f i (i + 1)) n n = far f n n - 1 := by
  have hn : f i < 0 := by omega
  have hs := stn_L hn h2
  have hy : stn f (i + 1) = stn f i + 1 := stn_y hn
  have hz : stn f (i + 1 + 1) = stn f (i + 1) := stn_n h2
  have hN : stn (mvd f i (i + 1)) n = stn f n := by rw [hs n, if_neg (by omega)]
  have low : far (mvd f i (i + 1)) n i = far f n i := far_eq hN i (fun j hj => mvd_o (by omega) (by omega)) (fun j hj => by rw [hs j, if_neg (by omega)])
  have mid : far (mvd f i (i + 1)) n (i + 1 + 1) = far f n (i + 1 + 1) - 1 := by
    rw [far_s, far_s, far_s f n (i + 1), far_s f n i, low, mvd_i (by omega), mvd_t, hN, hs (i + 1 + 1), hs (i + 1), if_pos h1, if_neg (show ¬ i + 1 + 1 = i + 1 by omega), if_pos rfl, if_neg (show ¬ (0 : Int) = -1 by omega), if_neg (show ¬ (0 : Int) = -2 by omega), if_pos h1, if_neg (show ¬ f (i + 1) = -1 by omega), if_neg (show ¬ f (i + 1) = -2 by omega), hz]
    push_cast
    omega
  have st : ∀ m, i + 1 + 1 ≤ m → far (mvd f i (i + 1)) n m = far f n m - 1 := fun m hm => by
    induction m with
    | zero => omega
    | succ m ih =>
      by_cases c : m + 1 = i + 1 + 1
      · rw [c]; exact mid
      · rw [far_s, far_s f n m, ih (by omega), mvd_o (by omega) (by omega), hN, hs m, hs (m + 1), if_neg (show ¬ m = i + 1 by omega), if_neg (show ¬ m + 1 = i + 1 by omega)]
        omega
  exact st n (by omega)
theorem far_R {f : Nat → Int} {n i : Nat} (hi : i + 1 < n) (h1 : f (i + 1) = -2) (h2 : 0 ≤ f i) : far (mvd f (i + 1) i) n n = far f n n - 1 := by
  have hn : f (i + 1) < 0 := by omega
  have hs := stn_R hn h2
  have hy : stn f (i + 1) = stn f i := stn_n h2
  have hz : stn f (i + 1 + 1) = stn f (i + 1) + 1 := stn_y hn
  have hN : stn (mvd f (i + 1) i) n = stn f n := by rw [hs n, if_neg (by omega)]
  have low : far (mvd f (i + 1) i) n i = far f n i := far_eq hN i (fun j hj => mvd_o (by omega) (by omega)) (fun j hj => by rw [hs j, if_neg (by omega)])
  have mid : far (mvd f (i + 1) i) n (i + 1 + 1) = far f n (i + 1 + 1) - 1 := by
    rw [far_s, far_s, far_s f n (i + 1), far_s f n i, low, mvd_i (by omega), mvd_t, hN, hs i, if_neg (show ¬ i = i + 1 by omega), h1, if_neg (show ¬ (0 : Int) = -1 by omega), if_neg (show ¬ (0 : Int) = -2 by omega), if_neg (show ¬ (-2 : Int) = -1 by omega), if_pos rfl, if_neg (show ¬ f i = -1 by omega), if_neg (show ¬ f i = -2 by omega), hy]
    simp
    omega
  have st : ∀ m, i + 1 + 1 ≤ m → far (mvd f (i + 1) i) n m = far f n m - 1 := fun m hm => by
    induction m with
    | zero => omega
    | succ m ih =>
      by_cases c : m + 1 = i + 1 + 1
      · rw [c]; exact mid
      · rw [far_s, far_s f n m, ih (by omega), mvd_o (by omega) (by omega), hN, hs m, hs (m + 1), if_neg (show ¬ m = i + 1 by omega), if_neg (show ¬ m + 1 = i + 1 by omega)]
        omega
  exact st n (by omega)
theorem far_le (f : Nat → Int) (n : Nat) : ∀ j, j ≤ n → far f n j ≤ stn f j * ((n : Int) - stn f n)
  | 0, _ => by show (0 : Int) ≤ ((0 : Nat) : Int) * _; simp
  | j + 1, h => by
    have ih := far_le f n j (by omega)
    have a := stn_lt (f := f) (i := j) (j := n) (by omega)
    have b := stn_le f (j + 1)
    rw [far_s]
    by_cases c : f j = -1
    · rw [if_pos c, stn_y (show f j < 0 by omega), show ((stn f j + 1 : Nat) : Int) * ((n : Int) - stn f n) = (stn f j : Int) * ((n : Int) - stn f n) + ((n : Int) - stn f n) by push_cast; rw [Int.add_mul, Int.one_mul]]
      have := stn_y (show f j < 0 by omega)
      omega
    · rw [if_neg c]
      by_cases d : f j = -2
      · rw [if_pos d, stn_y (show f j < 0 by omega), show ((stn f j + 1 : Nat) : Int) * ((n : Int) - stn f n) = (stn f j : Int) * ((n : Int) - stn f n) + ((n : Int) - stn f n) by push_cast; rw [Int.add_mul, Int.one_mul]]
        omega
      · rw [if_neg d]
        rw [stn_s]
        by_cases e : f j < 0
        · rw [if_pos e, show ((stn f j + 1 : Nat) : Int) * ((n : Int) - stn f n) = (stn f j : Int) * ((n : Int) - stn f n) + ((n : Int) - stn f n) by push_cast; rw [Int.add_mul, Int.one_mul]]
          have := stn_le f n
          omega
        · rw [if_neg e]; simpa using ih
theorem far_16 (f : Nat → Int) {n : Nat} (h : n ≤ 8) : far f n n ≤ 16 := by
  have a := far_le f n n (Nat.le_refl _)
  have b := stn_le f n
  generalize stn f n = c at a b
  have hc : c = 0 ∨ c = 1 ∨ c = 2 ∨ c = 3 ∨ c = 4 ∨ c = 5 ∨ c = 6 ∨ c = 7 ∨ c = 8 := by omega
  rcases hc with e | e | e | e | e | e | e | e | e <;> subst e <;> omega
/-! strips: the walk over abstract pools -/
def Ext (P Q : AP) : Prop := P.1 ≤ Q.1 ∧ ∀ k, k < P.1 → Q.2 k = P.2 k
theorem Ext_r (P : AP) : Ext P P := ⟨Nat.le_refl _, fun _ _ => rfl⟩
theorem Ext_t {P Q R : AP} (h : Ext P Q) (k : Ext Q R) : Ext P R := ⟨Nat.le_trans h.1 k.1, fun j hj => by rw [k.2 j (by have := h.1; omega), h.2 j hj]⟩
abbrev OA : Type := Option (AP × Nat)
def aaddc (P : AP) (x : ND) : OA := if P.1 < 60 ∨ (fnd P.2 x P.1).isSome = true then some (aadd P x) else none
theorem aaddc_s {P Q : AP} {x : ND} {k : Nat} (h : aaddc P x = some (Q, k)) : aadd P x = (Q, k) := by
  unfold aaddc at h
  split at h
  · injection h
  · cases h
theorem aaddc_ext {P Q : AP} {x : ND} {k : Nat} (h : aaddc P x = some (Q, k)) : Ext P Q ∧ k < Q.1 ∧ Q.2 k = x := by
  have e := aaddc_s h
  have a := aadd_le (P := P) x
  have b := aadd_ex (P := P) x
  rw [e] at a b
  exact ⟨⟨a.1, b.1⟩, a.2.2, b.2⟩
theorem fnd_is {f : Nat → ND} {x : ND} {n k : Nat} (hd : ∀ i j, i < n → j < n → f i = f j → i = j) (hk : k < n) (h : f k = x) : fnd f x n = some k := by
  cases q : fnd f x n with
  | some j =>
    have a := fnd_some q
    rw [hd j k a.1 hk (a.2.trans h.symm)]
  | none => exact absurd h (fnd_none q k hk)
theorem aaddc_again {P Q R : AP} {x : ND} {k : Nat} (h : aaddc P x = some (Q, k)) (g : GP R) (e : Ext Q R) : aaddc R x = some (R, k) := by
  have a := aaddc_ext h
  have hf := fnd_is g.1 (show k < R.1 by have := e.1; omega) ((e.2 k a.2.1).trans a.2.2)
  unfold aaddc
  rw [hf, if_pos (show R.1 < 60 ∨ (some k).isSome = true from Or.inr rfl), aadd_f hf]
/-- where the stone of a cell may go -/
def tgt (f : Nat → Int) (n c : Nat) : Option Nat := if f c = -1 ∧ c + 1 < n ∧ 0 ≤ f (c + 1) then some (c + 1) else if f c = -2 ∧ 1 ≤ c ∧ 0 ≤ f (c - 1) then some (c - 1) else none
abbrev RCW : Type := (Nat → Int) → Int → AP → OA
def wlp (rec : RCW) (f : Nat → Int) (n : Nat) (p : Int) (P0 : AP) : Nat → Option (AP × BitVec 64 × BitVec 64)
  | 0 => some (P0, 0#64, 0#64)
  | c + 1 => match wlp rec f n p P0 c with
    | none => none
    | some (P, l, r) => match tgt f n c with
      | none => some (P, l, r)
      | some to => match rec (mvd f c to) (if f c = -1 then p + f to else p - f to) P with
        | none => none
        | some (Q, k) => some (Q, (if f c = -1 then l ||| 1#64 <<< k else l), (if f c = -1 then r else r ||| 1#64 <<< k))
def lay (f : Nat → Int) : Nat → Int
  | 0 => 0
  | c + 1 => lay f c + (if f c < 0 then 0 else f c)
def pw (n : Nat) : Nat → RCW
  | 0 => fun _ _ _ => none
  | N + 1 => fun f p P => match wlp (pw n N) f n p P n with
    | none => none
    | some (Q, l, r) => aaddc Q (nx l r (p - lay f n) (p + lay f n))
theorem wlp_ext {rec : RCW} (hr : ∀ f p P Q k, rec f p P = some (Q, k) → Ext P Q ∧ k < Q.1) {f : Nat → Int} {n : Nat} {p : Int} {P0 : AP} : ∀ {c : Nat} {Q : AP} {l r : BitVec 64}, wlp rec f n p P0 c = some (Q, l, r) → Ext P0 Q
  | 0, Q, l, r, h => by
    unfold wlp at h
    injection h with h
    injection h with h1 h2
    rw [← h1]; exact Ext_r _
  | c + 1, Q, l, r, h => by
    unfold wlp at h
    cases a : wlp rec f n p P0 c with
    | none => rw [a] at h; cases h
    | some z =>
      obtain ⟨P, l1, r1⟩ := z
      have ih := wlp_ext hr a
      rw [a] at h
      cases b : tgt f n c with
      | none =>
        simp only [b] at h
        injection h with h
        injection h with h1 h2
        rw [← h1]; exact ih
      | some to =>
        simp only [b] at h
        cases d : rec (mvd f c to) (if f c = -1 then p + f to else p - f to) P with
        | none => simp only [d] at h; cases h
        | some y =>
          obtain ⟨Q1, k⟩ := y
          simp only [d] at h
          injection h with h
          injection h with h1 h2
          rw [← h1]
          exact Ext_t ih (hr _ _ _ _ _ d).1
theorem pw_ext (n : Nat) : ∀ (N : Nat) (f : Nat → Int) (p : Int) (P Q : AP) (k : Nat), pw n N f p P = some (Q, k) → Ext P Q ∧ k < Q.1
  | 0, f, p, P, Q, k, h => by cases h
  | N + 1, f, p, P, Q, k, h => by
    have e : pw n (N + 1) f p P = match wlp (pw n N) f n p P n with
      | none => none
      | some (Q, l, r) => aaddc Q (nx l r (p - lay f n) (p + lay f n)) := rfl
    rw [e] at h
    cases a : wlp (pw n N) f n p P n with
    | none => rw [a] at h; cases h
    | some z =>
      obtain ⟨P1, l1, r1⟩ := z
      rw [a] at h
      have x := aaddc_ext h
      exact ⟨Ext_t (wlp_ext (pw_ext n N) a) x.1, x.2.1⟩
theorem wlp_again {rec : RCW} (hr : ∀ f p P Q k, rec f p P = some (Q, k) → Ext P Q ∧ k < Q.1) {R : AP} (hg : ∀ f p P Q k, rec f p P = some (Q, k) → Ext Q R → rec f p R = some (R, k)) {f : Nat → Int} {n : Nat} {p : Int} {P0 : AP} : ∀ {c : Nat} {Q : AP} {l r : BitVec 64}, wlp rec f n p P0 c = some (Q, l, r) → Ext Q R → wlp rec f n p R c = some (R, l, r)
  | 0, Q, l, r, h, _ => by
    unfold wlp at h
    injection h with h
    injection h with h1 h2
    injection h2 with h2 h3
    subst h2; subst h3
    rfl
  | c + 1, Q, l, r, h, e => by
    unfold wlp at h ⊢
    cases a : wlp rec f n p P0 c with
    | none => rw [a] at h; cases h
    | some z =>
      obtain ⟨P, l1, r1⟩ := z
      rw [a] at h
      cases b : tgt f n c with
      | none =>
        simp only [b] at h
        injection h with h
        injection h with h1 h2
        injection h2 with h2 h3
        subst h1; subst h2; subst h3
        rw [wlp_again hr hg a e]
      | some to =>
        simp only [b] at h
        cases d : rec (mvd f c to) (if f c = -1 then p + f to else p - f to) P with
        | none => simp only [d] at h; cases h
        | some y =>
          obtain ⟨Q1, k⟩ := y
          simp only [d] at h
          injection h with h
          injection h with h1 h2
          injection h2 with h2 h3
          subst h1; subst h2; subst h3
          rw [wlp_again hr hg a (Ext_t (hr _ _ _ _ _ d).1 e)]
          simp only [hg _ _ _ _ _ d e]
theorem pw_again (n : Nat) {R : AP} (g : GP R) : ∀ (N : Nat) (f : Nat → Int) (p : Int) (P Q : AP) (k : Nat), pw n N f p P = some (Q, k) → Ext Q R → pw n N f p R = some (R, k)
  | 0, f, p, P, Q, k, h, _ => by cases h
  | N + 1, f, p, P, Q, k, h, e => by
    have u : ∀ P, pw n (N + 1) f p P = match wlp (pw n N) f n p P n with
      | none => none
      | some (Q, l, r) => aaddc Q (nx l r (p - lay f n) (p + lay f n)) := fun _ => rfl
    rw [u] at h ⊢
    cases a : wlp (pw n N) f n p P n with
    | none => rw [a] at h; cases h
    | some z =>
      obtain ⟨P1, l1, r1⟩ := z
      rw [a] at h
      have x := aaddc_ext h
      rw [wlp_again (pw_ext n N) (fun f p P Q k => pw_again n g N f p P Q k) a (Ext_t x.1 e)]
      exact aaddc_again h g e
theorem tgt_s {f : Nat → Int} {n c to : Nat} (h : tgt f n c = some to) (hc : c < n) : to < n ∧ 0 ≤ f to ∧ ((f c = -1 ∧ to = c + 1) ∨ (f c = -2 ∧ c = to + 1)) := by
  unfold tgt at h
  split at h
  · next a => injection h with h; subst h; exact ⟨a.2.1, a.2.2, Or.inl ⟨a.1, rfl⟩⟩
  · split at h
    · next a => injection h with h; subst h; exact ⟨by omega, a.2.2, Or.inr ⟨a.1, by omega⟩⟩
    · cases h
theorem tgt_congr {f g : Nat → Int} {n : Nat} (h : ∀ j, j < n → f j = g j) {c : Nat} (hc : c < n) : tgt f n c = tgt g n c := by
  unfold tgt
  rw [h c hc]
  by_cases a : c + 1 < n
  · rw [h (c + 1) a]
    by_cases b : 1 ≤ c
    · rw [h (c - 1) (by omega)]
    · simp [b]
  · simp only [a, false_and, and_false, if_false]
    by_cases b : 1 ≤ c
    · rw [h (c - 1) (by omega)]
    · simp [b]
theorem mvd_congr {f g : Nat → Int} {n : Nat} (h : ∀ j, j < n → f j = g j) {c to : Nat} (hc : c < n) : ∀ j, j < n → mvd f c to j = mvd g c to j := fun j hj => by
  unfold mvd
  rw [h c hc, h j hj]
theorem lay_congr {f g : Nat → Int} : ∀ (n : Nat), (∀ j, j < n → f j = g j) → lay f n = lay g n
  | 0, _ => rfl
  | n + 1, h => by
    unfold lay
    rw [lay_congr n (fun j hj => h j (by omega)), h n (by omega)]
theorem wlp_congr {rec : RCW} {n : Nat} (hr : ∀ (f g : Nat → Int) p P, (∀ j, j < n → f j = g j) → rec f p P = rec g p P) {f g : Nat → Int} (h : ∀ j, j < n → f j = g j) (p : Int) (P0 : AP) : ∀ c, c ≤ n → wlp rec f n p P0 c = wlp rec g n p P0 c
  | 0, _ => rfl
  | c + 1, hc => by
    unfold wlp
    rw [wlp_congr hr h p P0 c (by omega), tgt_congr h (show c < n by omega), h c (by omega)]
    cases a : wlp rec g n p P0 c with
    | none => rfl
    | some z =>
      obtain ⟨P, l, r⟩ := z
      cases b : tgt g n c with
      | none => rfl
      | some to =>
        have ht := (tgt_s b (by omega)).1
        simp only [h to ht, hr _ _ _ P (mvd_congr h (c := c) (to := to) (by omega))]
theorem pw_congr (n : Nat) : ∀ (N : Nat) (f g : Nat → Int) (p : Int) (P : AP), (∀ j, j < n → f j = g j) → pw n N f p P = pw n N g p P
  | 0, _, _, _, _, _ => rfl
  | N + 1, f, g, p, P, h => by
    unfold pw
    rw [wlp_congr (fun f g p P => pw_congr n N f g p P) h p P n (Nat.le_refl _), lay_congr n h]
/-- what a pool's walk keeps -/
theorem wlp_keep {J : AP → Prop} {rec : RCW} {n : Nat} {I : (Nat → Int) → Int → Prop} (hr : ∀ f p P Q k, I f p → J P → rec f p P = some (Q, k) → J Q) (hi : ∀ f p c to, I f p → c < n → tgt f n c = some to → I (mvd f c to) (if f c = -1 then p + f to else p - f to)) {f : Nat → Int} {p : Int} {P0 : AP} (h0 : I f p) (hP : J P0) : ∀ {c : Nat} {Q : AP} {l r : BitVec 64}, c ≤ n → wlp rec f n p P0 c = some (Q, l, r) → J Q
  | 0, Q, l, r, _, h => by
    unfold wlp at h
    injection h with h
    injection h with h1 h2
    rw [← h1]; exact hP
  | c + 1, Q, l, r, hc, h => by
    unfold wlp at h
    cases a : wlp rec f n p P0 c with
    | none => rw [a] at h; cases h
    | some z =>
      obtain ⟨P, l1, r1⟩ := z
      have ih := wlp_keep hr hi h0 hP (by omega) a
      rw [a] at h
      cases b : tgt f n c with
      | none =>
        simp only [b] at h
        injection h with h
        injection h with h1 h2
        rw [← h1]; exact ih
      | some to =>
        simp only [b] at h
        cases d : rec (mvd f c to) (if f c = -1 then p + f to else p - f to) P with
        | none => simp only [d] at h; cases h
        | some y =>
          obtain ⟨Q1, k⟩ := y
          simp only [d] at h
          injection h with h
          injection h with h1 h2
          rw [← h1]
          exact hr _ _ _ _ _ (hi f p c to h0 (by omega) b) ih d
theorem pw_keep {J : AP → Prop} {n : Nat} {I : (Nat → Int) → Int → Prop} (ha : ∀ f p P l r Q k, I f p → J P → aaddc P (nx l r (p - lay f n) (p + lay f n)) = some (Q, k) → J Q) (hi : ∀ f p c to, I f p → c < n → tgt f n c = some to → I (mvd f c to) (if f c = -1 then p + f to else p - f to)) : ∀ (N : Nat) (f : Nat → Int) (p : Int) (P Q : AP) (k : Nat), I f p → J P → pw n N f p P = some (Q, k) → J Q
  | 0, f, p, P, Q, k, _, _, h => by cases h
  | N + 1, f, p, P, Q, k, h0, hP, h => by
    have e : pw n (N + 1) f p P = match wlp (pw n N) f n p P n with
      | none => none
      | some (Q, l, r) => aaddc Q (nx l r (p - lay f n) (p + lay f n)) := rfl
    rw [e] at h
    cases a : wlp (pw n N) f n p P n with
    | none => rw [a] at h; cases h
    | some z =>
      obtain ⟨P1, l1, r1⟩ := z
      rw [a] at h
      exact ha f p P1 l1 r1 Q k h0 (wlp_keep (fun f p P Q k => pw_keep ha hi N f p P Q k) hi h0 hP (Nat.le_refl _) a) h
theorem aaddc_GP {P Q : AP} {l r : BitVec 64} {a b : Int} {k : Nat} (g : GP P) (h : aaddc P (nx l r a b) = some (Q, k)) : GP Q := by
  have := GP_add g l r a b
  rw [aaddc_s h] at this
  exact this
theorem aaddc_60 {P Q : AP} {x : ND} {k : Nat} (g : P.1 ≤ 60) (h : aaddc P x = some (Q, k)) : Q.1 ≤ 60 := by
  have e := aaddc_s h
  unfold aaddc at h
  split at h
  · next c =>
    rcases c with c | c
    · have := (aadd_le (P := P) x).2.1
      rw [e] at this
      have t : Q.1 ≤ P.1 + 1 := this
      omega
    · cases q : fnd P.2 x P.1 with
      | some j => rw [aadd_f q] at e; injection e with e1 e2; rw [← e1]; exact g
      | none => rw [q] at c; cases c
  · cases h
theorem lay_mv {f : Nat → Int} {c to : Nat} (hf : f c < 0) (ht : 0 ≤ f to) : ∀ n, to < n → lay (mvd f c to) n = lay f n - f to := by
  have ne : c ≠ to := fun e => by rw [e] at hf; omega
  have low : ∀ n, n ≤ to → lay (mvd f c to) n = lay f n := fun n => by
    induction n with
    | zero => intro _; rfl
    | succ n ih =>
      intro h
      unfold lay
      rw [ih (by omega)]
      by_cases a : n = c
      · rw [a, mvd_i ne, if_pos hf, if_neg (by omega)]
      · rw [mvd_o (by omega) a]
  intro n hn
  induction n with
  | zero => omega
  | succ n ih =>
    unfold lay
    by_cases b : n = to
    · rw [b, low to (Nat.le_refl _), mvd_t, if_pos hf, if_neg (by omega)]; omega
    · rw [ih (by omega)]
      by_cases a : n = c
      · rw [a, mvd_i ne, if_pos hf, if_neg (by omega)]; omega
      · rw [mvd_o b a]; omega
/-- points within what lies there -/
def NBP72 (n : Nat) (f : Nat → Int) (p : Int) : Prop := -72 ≤ p - lay f n ∧ p + lay f n ≤ 72
theorem lay_nn (f : Nat → Int) : ∀ n, 0 ≤ lay f n
  | 0 => Int.le_refl _
  | n + 1 => by
    have := lay_nn f n
    unfold lay
    split <;> omega
theorem NBP72_s {n : Nat} (f : Nat → Int) (p : Int) (c to : Nat) (h : NBP72 n f p) (hc : c < n) (ht : tgt f n c = some to) : NBP72 n (mvd f c to) (if f c = -1 then p + f to else p - f to) := by
  have q := tgt_s ht hc
  unfold NBP72 at h ⊢
  rw [lay_mv (show f c < 0 by omega) q.2.1 n q.1]
  split <;> omega
def B72 (P : AP) : Prop := ∀ k, k < P.1 → (-72 ≤ (P.2 k).2.2.1 ∧ (P.2 k).2.2.1 ≤ 72) ∧ -72 ≤ (P.2 k).2.2.2 ∧ (P.2 k).2.2.2 ≤ 72
theorem aaddc_72 {P Q : AP} {l r : BitVec 64} {a b : Int} {k : Nat} (g : B72 P) (ha : -72 ≤ a ∧ a ≤ 72) (hb : -72 ≤ b ∧ b ≤ 72) (h : aaddc P (nx l r a b) = some (Q, k)) : B72 Q := by
  have e := aaddc_s h
  intro j hj
  have x := aaddc_ext h
  by_cases c : j < P.1
  · rw [x.1.2 j c]; exact g j c
  · have t : Q.2 j = nx l r a b := by
      cases q : fnd P.2 (nx l r a b) P.1 with
      | some i => rw [aadd_f q] at e; injection e with e1 e2; rw [← e1] at hj; exact absurd hj c
      | none =>
        rw [aadd_n q] at e
        injection e with e1 e2
        have e3 : P.1 + 1 = Q.1 := by rw [← e1]
        have : j = k := by omega
        rw [this]; exact x.2.2
    rw [t]
    unfold nx nrm
    constructor
    · show -72 ≤ (if l = 0#64 then a else 0) ∧ (if l = 0#64 then a else 0) ≤ 72
      split <;> omega
    · show -72 ≤ (if r = 0#64 then b else 0) ∧ (if r = 0#64 then b else 0) ≤ 72
      split <;> omega
theorem pw_all {n N : Nat} {f : Nat → Int} {p : Int} {P Q : AP} {k : Nat} (hI : NBP72 n f p) (g : GP P) (g60 : P.1 ≤ 60) (g72 : B72 P) (h : pw n N f p P = some (Q, k)) : GP Q ∧ Q.1 ≤ 60 ∧ B72 Q :=
  pw_keep (J := fun P => GP P ∧ P.1 ≤ 60 ∧ B72 P) (I := NBP72 n) (fun f p P l r Q k hI hJ h => by
    have := lay_nn f n
    unfold NBP72 at hI
    exact ⟨aaddc_GP hJ.1 h, aaddc_60 hJ.2.1 h, aaddc_72 hJ.2.2 (by omega) (by omega) h⟩) NBP72_s N f p P Q k hI ⟨g, g60, g72⟩ h
/-! a node more, with the bound of 60 -/
theorem aaddc_f {P : AP} {x : ND} {k : Nat} (h : fnd P.2 x P.1 = some k) : aaddc P x = some (P, k) := by
  unfold aaddc
  rw [h, if_pos (show P.1 < 60 ∨ (some k).isSome = true from Or.inr rfl), aadd_f h]
theorem aaddc_n {P : AP} {x : ND} (h : fnd P.2 x P.1 = none) (hn : P.1 < 60) : aaddc P x = some (aadd P x) := by
  unfold aaddc
  rw [if_pos (Or.inl hn)]
theorem aaddc_full {P : AP} {x : ND} (h : fnd P.2 x P.1 = none) (hn : ¬ P.1 < 60) : aaddc P x = none := by
  unfold aaddc
  rw [h, if_neg (show ¬ (P.1 < 60 ∨ (none : Option Nat).isSome = true) from fun q => q.elim hn (fun z => by cases z))]
theorem CV_addc {s t : gH} {P : AP} {l r : BitVec 64} {a b res : Int} (h : CV s P) (g : GP P) (m : ADX s t l r a b res) (hn : P.1 ≤ 60) : (∃ Q k, aaddc P (nx l r a b) = some (Q, k) ∧ CV t Q ∧ res = (k : Nat)) ∨ (aaddc P (nx l r a b) = none ∧ res = -1) := by
  have e6 := h.1
  by_cases c : P.1 < 60
  · have q := CV_add h g m c
    exact Or.inl ⟨_, _, if_pos (Or.inl c), q.1, q.2⟩
  · obtain ⟨kp, m⟩ := m
    cases q : fnd P.2 (nx l r a b) P.1 with
    | some k0 =>
      have q2 := fnd_some q
      refine Or.inl ⟨P, k0, aaddc_f q, ?_⟩
      rcases m with ⟨k, k1, k2, k3, k4⟩ | ⟨n, m⟩
      · have := g.1 k k0 (by omega) q2.1 (((CV_same h (by omega) l r a b).mp k3).trans q2.2.symm)
        refine ⟨⟨k4.trans e6, fun j hj => ?_⟩, by omega⟩
        have w := kp j (by omega)
        rw [w.1, w.2.1, w.2.2.1, w.2.2.2]; exact h.2 j hj
      · exact absurd ((CV_same h q2.1 l r a b).mpr q2.2) (n k0 (by omega))
    | none =>
      have q2 := fnd_none q
      refine Or.inr ⟨aaddc_full q c, ?_⟩
      rcases m with ⟨k, k1, k2, k3, k4⟩ | ⟨n, ⟨m1, m2, m3, m4⟩ | ⟨m1, m2, m3⟩⟩
      · exact absurd ((CV_same h (by omega) l r a b).mp k3) (q2 k (by omega))
      · omega
      · exact m2
theorem RV_addc {s t : gH} {P : AP} {l r : BitVec 64} {a b res : Int} (h : RVm s P) (g : GP P) (m : MDX s t l r a b res) (hn : P.1 ≤ 60) : (∃ Q k, aaddc P (nx l r a b) = some (Q, k) ∧ RVm t Q ∧ res = (k : Nat)) ∨ (aaddc P (nx l r a b) = none ∧ gp_I s 81 20 = 60 ∧ ∀ k : Nat, (k : Int) < 60 → ¬ sameAt s k l r a b) := by
  have e6 := h.1
  by_cases c : P.1 < 60
  · have q := RV_add h g m c
    exact Or.inl ⟨_, _, if_pos (Or.inl c), q.1, q.2⟩
  · cases q : fnd P.2 (nx l r a b) P.1 with
    | some k0 =>
      have q2 := fnd_some q
      refine Or.inl ⟨P, k0, aaddc_f q, ?_⟩
      rcases m with ⟨k, k1, k2, k3, k4⟩ | ⟨n, m⟩
      · have := g.1 k k0 (by omega) q2.1 (((RV_same h g (by omega) l r a b).mp k3).trans q2.2.symm)
        refine ⟨⟨k4.2.trans e6, fun j hj => ?_⟩, by omega⟩
        have w := k4.1 j
        rw [w.1, w.2.1, w.2.2.1, w.2.2.2.1]; exact h.2 j hj
      · exact absurd ((RV_same h g q2.1 l r a b).mpr q2.2) (n k0 (by omega))
    | none =>
      have q2 := fnd_none q
      refine Or.inr ⟨aaddc_full q c, by omega, fun k hk z => ?_⟩
      exact q2 k (by omega) ((RV_same h g (by omega) l r a b).mp z)
def NOS (s : gH) (l r : BitVec 64) (a b : Int) : Prop := ∀ k : Nat, (k : Int) < gp_I s 81 20 → ¬ sameAt s k l r a b
theorem NOS_old {s : gH} {l r : BitVec 64} {a b v : Int} (h0 : 0 ≤ v) (h1 : v < gp_I s 81 20) (hl : gp_L s 76 (Int.toNat (1280 + v)) = l) (hr : gp_L s 77 (Int.toNat (1280 + v)) = r) (ha : l = 0#64 → gp_I s 78 (Int.toNat (1280 + v)) = a) (hb : r = 0#64 → gp_I s 79 (Int.toNat (1280 + v)) = b) : ¬ NOS s l r a b := fun h => by
  rw [ix20m h0] at hl hr ha hb
  exact h v.toNat (by omega) ⟨hl, hr, ha, hb⟩
set_option maxRecDepth 100000 in
/-- GatheredPointsModel.made -/
theorem vm_madeY  {L d : Nat} {K : Option gV → gH → Prop} {s : gH}  (p0 : BitVec 64) (p1 : BitVec 64) (p2 : Int) (p3 : Int) (hs : MI s)  (q0 : MDi s) (q1 : bd p0 (gp_I s 81 20)) (q2 : bd p1 (gp_I s 81 20)) (k : ∀ (r : Int), ∀ (t : gH), MI t → gF [76, 77, 78, 79, 80, 81] [15] s t → (0 ≤ r ∧ r ≤ 63) → (MDi t) → (r < gp_I t 81 20) → (gp_I s 81 20 ≤ gp_I t 81 20) → (gp_I t 81 20 ≤ gp_I s 81 20 + 1) → (mOut s t) → (gp_I s 81 20 < 60 → gp_I t 74 15 = gp_I s 74 15) → (MDX s t p0 p1 p2 p3 r) → (gp_I t 74 15 = gp_I s 74 15 ∨ (gp_I t 74 15 = 1 ∧ gp_I s 81 20 = 60 ∧ NOS s p0 p1 p2 p3)) → (gp_I s 81 20 = 60 → NOS s p0 p1 p2 p3 → gp_I t 74 15 = 1) → K (some (gp_i r)) t) : gs_C L (d + 3) 3088 9 [gp_r (some 74), gp_l p0, gp_l p1, gp_i p2, gp_i p3] s K := by
  have f_1 := mr81 hs 20
  have f_2 := mr74_15 hs
  refine s_3088_e _ _ _ _ ?_
  have lp_3 : ∀ (n_3 : Nat) (v7_3 : Int) (v8_3 : gV), (0 ≤ v7_3 ∧ v7_3 ≤ 60) → (∀ f : Int, 0 ≤ f → f < v7_3 → ¬ (gp_L s 76 (Int.toNat (1280 + f)) = p0 ∧ gp_L s 77 (Int.toNat (1280 + f)) = p1 ∧ (p0 = 0#64 → gp_I s 78 (Int.toNat (1280 + f)) = p2) ∧ (p1 = 0#64 → gp_I s 79 (Int.toNat (1280 + f)) = p3))) → (61 - v7_3).toNat < n_3 → gs_E L (d + 3) 3088 3 [gp_r (some 74), gp_l p0, gp_n, gp_l p1, gp_n, gp_i p2, gp_i p3, gp_i v7_3, v8_3] [] s K := by
    intro n_3
    induction n_3 with
    | zero => intro v7_3 v8_3 hv7_3 iv0_3 hm_3; exact absurd hm_3 (Nat.not_lt_zero _)
    | succ n_3 ih_3 =>
      intro v7_3 v8_3 hv7_3 iv0_3 hm_3
      refine s_3088_3 _ _ _ _ _ _ ?_
      have f_4 := mr81 hs 20
      have f_5 := mr81m hs
      refine ⟨fun h_6 => ?_, fun h_6 => ?_⟩
      · try rw [show gp_wr (1280 + v7_3) = 1280 + v7_3 from gp_wr_id (by omega) (by omega)]
        refine ⟨by omega, ?_⟩
        have b_7 := mr76m hs v7_3 (by omega)
        have w_8 := gz_cmp (gp_L s 76 (Int.toNat (1280 + v7_3))) p0
        refine ⟨fun h_9 => ?_, fun h_9 => ?_⟩
        · have hz_10 : gp_L s 76 (Int.toNat (1280 + v7_3)) = p0 := (gm_cmp0 _ _).mp h_9
          refine ⟨by omega, ?_⟩
          have b_11 := mr77m hs v7_3 (by omega)
          have w_12 := gz_cmp (gp_L s 77 (Int.toNat (1280 + v7_3))) p1
          refine ⟨fun h_13 => ?_, fun h_13 => ?_⟩
          · have hz_14 : gp_L s 77 (Int.toNat (1280 + v7_3)) = p1 := (gm_cmp0 _ _).mp h_13
            refine ⟨fun h_15 => ?_, fun h_15 => ?_⟩
            · have hz_16 : p0 = 0#64 := (gm_cmp0 _ _).mp h_15
              refine ⟨by omega, ?_⟩
              refine ⟨fun h_17 => ?_, fun h_17 => ?_⟩
              · refine s_3088_65 _ _ _ _ _ _ ?_
                refine ⟨fun h_18 => ?_, fun h_18 => ?_⟩
                · have hz_19 : p1 = 0#64 := (gm_cmp0 _ _).mp h_18
                  refine ⟨by omega, ?_⟩
                  refine ⟨fun h_20 => ?_, fun h_20 => ?_⟩
                  · refine s_3088_83 _ _ _ _ _ _ ?_
                    exact k _ s hs (gF.refl _ _ _) (by omega) (by assumption) (by first | omega | assumption) (by first | omega | assumption) (by first | omega | assumption) (mOut.refl _) (by first | omega | assumption) (MDX_old (by omega) (by omega) (by assumption) (by assumption) (by first | exact fun _ => by assumption | exact fun h => absurd h (by assumption)) (by first | exact fun _ => by assumption | exact fun h => absurd h (by assumption))) (Or.inl (by omega)) (fun _ h9 => absurd h9 (NOS_old (v := v7_3) (by omega) (by omega) (by assumption) (by assumption) (by first | exact fun _ => by assumption | exact fun h => absurd h (by assumption)) (by first | exact fun _ => by assumption | exact fun h => absurd h (by assumption))))
                  · refine s_3088_86 _ _ _ _ _ _ ?_
                    try rw [show gp_wr (v7_3 + 1) = v7_3 + 1 from gp_wr_id (by omega) (by omega)]
                    exact ih_3 _ _ (by omega) (nf_step iv0_3 (fun q => by first | (refine absurd q.1 ?_; assumption) | (refine absurd q.2.1 ?_; assumption) | (refine absurd (q.2.2.1 ?_) ?_ <;> assumption) | (refine absurd (q.2.2.2 ?_) ?_ <;> assumption))) (by omega)
                · have hz_21 : ¬ p1 = 0#64 := fun q => h_18 ((gm_cmp0 _ _).mpr q)
                  refine s_3088_83 _ _ _ _ _ _ ?_
                  exact k _ s hs (gF.refl _ _ _) (by omega) (by assumption) (by first | omega | assumption) (by first | omega | assumption) (by first | omega | assumption) (mOut.refl _) (by first | omega | assumption) (MDX_old (by omega) (by omega) (by assumption) (by assumption) (by first | exact fun _ => by assumption | exact fun h => absurd h (by assumption)) (by first | exact fun _ => by assumption | exact fun h => absurd h (by assumption))) (Or.inl (by omega)) (fun _ h9 => absurd h9 (NOS_old (v := v7_3) (by omega) (by omega) (by assumption) (by assumption) (by first | exact fun _ => by assumption | exact fun h => absurd h (by assumption)) (by first | exact fun _ => by assumption | exact fun h => absurd h (by assumption))))
              · refine s_3088_86 _ _ _ _ _ _ ?_
                try rw [show gp_wr (v7_3 + 1) = v7_3 + 1 from gp_wr_id (by omega) (by omega)]
                exact ih_3 _ _ (by omega) (nf_step iv0_3 (fun q => by first | (refine absurd q.1 ?_; assumption) | (refine absurd q.2.1 ?_; assumption) | (refine absurd (q.2.2.1 ?_) ?_ <;> assumption) | (refine absurd (q.2.2.2 ?_) ?_ <;> assumption))) (by omega)
            · have hz_22 : ¬ p0 = 0#64 := fun q => h_15 ((gm_cmp0 _ _).mpr q)
              refine s_3088_65 _ _ _ _ _ _ ?_
              refine ⟨fun h_23 => ?_, fun h_23 => ?_⟩
              · have hz_24 : p1 = 0#64 := (gm_cmp0 _ _).mp h_23
                refine ⟨by omega, ?_⟩
                refine ⟨fun h_25 => ?_, fun h_25 => ?_⟩
                · refine s_3088_83 _ _ _ _ _ _ ?_
                  exact k _ s hs (gF.refl _ _ _) (by omega) (by assumption) (by first | omega | assumption) (by first | omega | assumption) (by first | omega | assumption) (mOut.refl _) (by first | omega | assumption) (MDX_old (by omega) (by omega) (by assumption) (by assumption) (by first | exact fun _ => by assumption | exact fun h => absurd h (by assumption)) (by first | exact fun _ => by assumption | exact fun h => absurd h (by assumption))) (Or.inl (by omega)) (fun _ h9 => absurd h9 (NOS_old (v := v7_3) (by omega) (by omega) (by assumption) (by assumption) (by first | exact fun _ => by assumption | exact fun h => absurd h (by assumption)) (by first | exact fun _ => by assumption | exact fun h => absurd h (by assumption))))
                · refine s_3088_86 _ _ _ _ _ _ ?_
                  try rw [show gp_wr (v7_3 + 1) = v7_3 + 1 from gp_wr_id (by omega) (by omega)]
                  exact ih_3 _ _ (by omega) (nf_step iv0_3 (fun q => by first | (refine absurd q.1 ?_; assumption) | (refine absurd q.2.1 ?_; assumption) | (refine absurd (q.2.2.1 ?_) ?_ <;> assumption) | (refine absurd (q.2.2.2 ?_) ?_ <;> assumption))) (by omega)
              · have hz_26 : ¬ p1 = 0#64 := fun q => h_23 ((gm_cmp0 _ _).mpr q)
                refine s_3088_83 _ _ _ _ _ _ ?_
                exact k _ s hs (gF.refl _ _ _) (by omega) (by assumption) (by first | omega | assumption) (by first | omega | assumption) (by first | omega | assumption) (mOut.refl _) (by first | omega | assumption) (MDX_old (by omega) (by omega) (by assumption) (by assumption) (by first | exact fun _ => by assumption | exact fun h => absurd h (by assumption)) (by first | exact fun _ => by assumption | exact fun h => absurd h (by assumption))) (Or.inl (by omega)) (fun _ h9 => absurd h9 (NOS_old (v := v7_3) (by omega) (by omega) (by assumption) (by assumption) (by first | exact fun _ => by assumption | exact fun h => absurd h (by assumption)) (by first | exact fun _ => by assumption | exact fun h => absurd h (by assumption))))
          · have hz_27 : ¬ (gp_L s 77 (Int.toNat (1280 + v7_3))) = p1 := fun q => h_13 ((gm_cmp0 _ _).mpr q)
            refine s_3088_86 _ _ _ _ _ _ ?_
            try rw [show gp_wr (v7_3 + 1) = v7_3 + 1 from gp_wr_id (by omega) (by omega)]
            exact ih_3 _ _ (by omega) (nf_step iv0_3 (fun q => by first | (refine absurd q.1 ?_; assumption) | (refine absurd q.2.1 ?_; assumption) | (refine absurd (q.2.2.1 ?_) ?_ <;> assumption) | (refine absurd (q.2.2.2 ?_) ?_ <;> assumption))) (by omega)
        · have hz_28 : ¬ (gp_L s 76 (Int.toNat (1280 + v7_3))) = p0 := fun q => h_9 ((gm_cmp0 _ _).mpr q)
          refine s_3088_86 _ _ _ _ _ _ ?_
          try rw [show gp_wr (v7_3 + 1) = v7_3 + 1 from gp_wr_id (by omega) (by omega)]
          exact ih_3 _ _ (by omega) (nf_step iv0_3 (fun q => by first | (refine absurd q.1 ?_; assumption) | (refine absurd q.2.1 ?_; assumption) | (refine absurd (q.2.2.1 ?_) ?_ <;> assumption) | (refine absurd (q.2.2.2 ?_) ?_ <;> assumption))) (by omega)
      · have f_29 := mr81 hs 20
        have f_30 := mr81m hs
        refine ⟨fun h_31 => ?_, fun h_31 => ?_⟩
        · intro s_32 e_33
          have hs_34 : MI s_32 := by rw [e_33]; exact mw74_15 hs _ (by omega)
          have hf_35 : gF [76, 77, 78, 79, 80, 81] [15] s s_32 := by rw [e_33]; exact gF.wI (gF.refl _ _ _) (Or.inr ⟨rfl, rfl⟩)
          have q_36 : gp_I s_32 81 20 = gp_I s 81 20 := by rw [e_33] <;> rfl
          have q_37 : gp_I s_32 74 15 = 1 := by rw [e_33]; exact (gz_rw _ _ _ _ _).1 rfl
          exact k _ s_32 hs_34 hf_35 (by omega) (by subst_vars; exact q0) (by first | omega | assumption) (by first | omega | assumption) (by first | omega | assumption) (by subst_vars; exact mOut_wI (mOut.refl _) (by decide)) (by first | omega | assumption) (MDX_full (MDX_no (by omega) iv0_3) (by omega) (by assumption)) (by first | exact Or.inr ⟨by omega, by omega, MDX_no (by omega) iv0_3⟩ | exact Or.inr ⟨(by assumption), by omega, MDX_no (by omega) iv0_3⟩) (fun _ _ => by omega)
        · have f_38 := mr81 hs 20
          have f_39 := mr81m hs
          refine vm_lays _ _ _ _ _ hs (by omega) (by first | assumption | exact bd_le (by assumption) (by omega) | exact bd_0 _) (by first | assumption | exact bd_le (by assumption) (by omega) | exact bd_0 _) (fun s_40 hs_41 hf_42 p_43 p_44 => ⟨rfl, ?_⟩)
          have hf_45 : gF [76, 77, 78, 79, 80, 81] [15] s s_40 := gF.sub hf_42 rfl rfl
          have q_46 := (hf_42.2 81 20 rfl (fun h => absurd h (by decide))).1
          have q_47 := (hf_42.2 74 15 rfl (fun _ => rfl)).1
          have f_48 := mr81 hs_41 20
          have f_49 := mr81m hs_41
          try rw [show gp_wr ((gp_I s_40 81 20) + 1) = (gp_I s_40 81 20) + 1 from gp_wr_id (by omega) (by omega)]
          intro s_50 e_51
          have hs_52 : MI s_50 := by rw [e_51]; exact mw81 hs_41 _ _ (by omega)
          have hf_53 : gF [76, 77, 78, 79, 80, 81] [15] s s_50 := by rw [e_51]; exact gF.wI hf_45 (Or.inl rfl)
          have q_54 : gp_I s_50 81 20 = (gp_I s_40 81 20) + 1 := by rw [e_51]; exact (gz_rw _ _ _ _ _).1 rfl
          have q_55 : gp_I s_50 74 15 = gp_I s_40 74 15 := by rw [e_51] <;> rfl
          have f_56 := mr81 hs_52 20
          have f_57 := mr81m hs_52
          try rw [show gp_wr ((gp_I s_50 81 20) - 1) = (gp_I s_50 81 20) - 1 from gp_wr_id (by omega) (by omega)]
          exact k _ s_50 hs_52 hf_53 (by omega) (by subst_vars; exact MDi_new q0 hs (by omega) (by assumption) (by assumption) q1 q2 (fun f a b => iv0_3 f a (by omega)) (by omega)) (by first | omega | assumption) (by first | omega | assumption) (by first | omega | assumption) (by subst_vars; exact mOut_81 (by assumption)) (by first | omega | assumption) (by rw [show ((gp_I s_50 81 20) - 1) = gp_I s 81 20 by omega]; exact MDX_new (MDX_no (by omega) iv0_3) (by omega) (by assumption) (by assumption) (by omega)) (Or.inl (by omega)) (fun _ _ => by omega)
  exact lp_3 _ _ _ (by omega) (fun f h0 h1 => absurd h1 (by omega)) (Nat.lt_succ_self _)
