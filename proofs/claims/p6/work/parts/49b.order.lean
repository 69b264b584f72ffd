/-! the order of sets, and of nodes -/
noncomputable def gop (o : Nat → Nat → Int) (A : BitVec 64) (i : Nat) : Nat := Classical.epsilon (isop o A i)
theorem gop_spec {o : Nat → Nat → Int} {n : Nat} (h : TO o n) {A : BitVec 64} (hA : bd A n) {i : Nat} (hi : i < gm_cnt A 64) : isop o A i (gop o A i) := Classical.epsilon_spec (isop_ex h hA hi)
theorem gop_lt {o : Nat → Nat → Int} {n : Nat} (h : TO o n) {A : BitVec 64} (hA : bd A n) {i : Nat} (hi : i < gm_cnt A 64) : gop o A i < n := by
  have := hA _ (gop_spec h hA hi).1; omega
theorem rkb_cnt {o : Nat → Nat → Int} {n : Nat} (h : TO o n) {A : BitVec 64} (hA : bd A n) {x : Nat} (xA : A.getLsbD x = true) : rkb o A 64 x < gm_cnt A 64 := by
  have xn : x < n := by have := hA x xA; omega
  rw [cnt_cntp]
  unfold rkb
  refine cntp_lt (BitVec.lt_of_getLsbD xA) (fun y _ q => ?_) ?_ xA
  · rw [Bool.and_eq_true] at q; exact q.1
  · rw [(h x x xn xn).2.1.mpr rfl]; simp
theorem TO_le {o : Nat → Nat → Int} {n : Nat} (h : TO o n) {f e g : Nat} (hf : f < n) (he : e < n) (hg : g < n) (h1 : o f e ≤ 0) (h2 : o e g ≤ 0) : o f g ≤ 0 ∧ (o f g = 0 → o f e = 0 ∧ o e g = 0) := by
  have a := h f e hf he
  have b := h e g he hg
  rcases (by omega : o f e = 0 ∨ o f e < 0) with q | q
  · have := a.2.1.mp q
    subst this
    exact ⟨h2, fun z => ⟨q, z⟩⟩
  · rcases (by omega : o e g = 0 ∨ o e g < 0) with r | r
    · have := b.2.1.mp r
      subst this
      exact ⟨h1, fun z => ⟨z, r⟩⟩
    · have := a.2.2.2 g hg q r
      exact ⟨by omega, fun z => by omega⟩
noncomputable def lx (o : Nat → Nat → Int) (A B : BitVec 64) : Nat → Int
  | 0 => 0
  | i + 1 => if lx o A B i = 0 then o (gop o A i) (gop o B i) else lx o A B i
theorem lx_rng {o : Nat → Nat → Int} {n : Nat} (h : TO o n) {A B : BitVec 64} (hA : bd A n) (hB : bd B n) : ∀ i, i ≤ gm_cnt A 64 → i ≤ gm_cnt B 64 → (-1 ≤ lx o A B i ∧ lx o A B i ≤ 1) ∧ lx o B A i = - lx o A B i
  | 0, _, _ => by unfold lx; omega
  | i + 1, h1, h2 => by
    have ih := lx_rng h hA hB i (by omega) (by omega)
    have a := h _ _ (gop_lt h hA (i := i) (by omega)) (gop_lt h hB (i := i) (by omega))
    unfold lx
    by_cases z : lx o A B i = 0
    · rw [if_pos z, if_pos (by omega)]; exact ⟨a.1, a.2.2.1⟩
    · rw [if_neg z, if_neg (by omega)]; exact ih
theorem lx_zero {o : Nat → Nat → Int} {n : Nat} (h : TO o n) {A B : BitVec 64} (hA : bd A n) (hB : bd B n) : ∀ i, i ≤ gm_cnt A 64 → i ≤ gm_cnt B 64 → lx o A B i = 0 → ∀ j, j < i → gop o A j = gop o B j
  | 0, _, _, _, j, hj => absurd hj (Nat.not_lt_zero _)
  | i + 1, h1, h2, z, j, hj => by
    unfold lx at z
    by_cases q : lx o A B i = 0
    · rw [if_pos q] at z
      by_cases e : j = i
      · subst e
        exact (h _ _ (gop_lt h hA (by omega)) (gop_lt h hB (by omega))).2.1.mp z
      · exact lx_zero h hA hB i (by omega) (by omega) q j (by omega)
    · rw [if_neg q] at z; exact absurd z q
theorem lx_trans {o : Nat → Nat → Int} {n : Nat} (h : TO o n) {A B C : BitVec 64} (hA : bd A n) (hB : bd B n) (hC : bd C n) : ∀ i, i ≤ gm_cnt A 64 → i ≤ gm_cnt B 64 → i ≤ gm_cnt C 64 → lx o A B i ≤ 0 → lx o B C i ≤ 0 → lx o A C i ≤ 0 ∧ (lx o A C i = 0 → lx o A B i = 0 ∧ lx o B C i = 0)
  | 0, _, _, _, _, _ => by unfold lx; omega
  | i + 1, h1, h2, h3, k1, k2 => by
    have a1 := gop_lt h hA (i := i) (by omega)
    have a2 := gop_lt h hB (i := i) (by omega)
    have a3 := gop_lt h hC (i := i) (by omega)
    unfold lx at k1 k2 ⊢
    have ih := lx_trans h hA hB hC i (by omega) (by omega) (by omega) (by split at k1 <;> omega) (by split at k2 <;> omega)
    by_cases z : lx o A C i = 0
    · have zz := ih.2 z
      rw [if_pos zz.1] at k1 ⊢; rw [if_pos zz.2] at k2 ⊢; rw [if_pos z]
      exact TO_le h a1 a2 a3 k1 k2
    · rw [if_neg z]; exact ⟨ih.1, fun q => absurd q z⟩
theorem set_eq {o : Nat → Nat → Int} {n : Nat} (h : TO o n) {A B : BitVec 64} (hA : bd A n) (hB : bd B n) (hc : gm_cnt A 64 = gm_cnt B 64) (e : ∀ j, j < gm_cnt A 64 → gop o A j = gop o B j) : A = B := by
  apply BitVec.eq_of_getLsbD_eq
  intro x _
  have key : ∀ {A B : BitVec 64}, bd A n → bd B n → gm_cnt A 64 = gm_cnt B 64 → (∀ j, j < gm_cnt A 64 → gop o A j = gop o B j) → A.getLsbD x = true → B.getLsbD x = true := by
    intro A B hA hB hc e xA
    have r := rkb_cnt h hA xA
    have := isop_un h hA (gop_spec h hA r) ⟨xA, rfl⟩
    rw [← this, e _ r]
    exact (gop_spec h hB (by omega)).1
  cases q : A.getLsbD x
  · cases r : B.getLsbD x
    · rfl
    · have := key hB hA hc.symm (fun j hj => (e j (by omega)).symm) r
      rw [q] at this; cases this
  · exact (key hA hB hc e q).symm
theorem cnt_0 {A : BitVec 64} : ∀ {n : Nat}, gm_cnt A n = 0 → ∀ i, i < n → A.getLsbD i = false
  | 0, _, i, hi => absurd hi (Nat.not_lt_zero _)
  | n + 1, h, i, hi => by
    unfold gm_cnt at h
    by_cases e : i = n
    · subst e
      cases q : A.getLsbD i
      · rfl
      · rw [q] at h; simp at h
    · exact cnt_0 (n := n) (by omega) i (by omega)
theorem cnt_00 (A : BitVec 64) : gm_cnt A 64 = 0 ↔ A = 0#64 := by
  constructor
  · intro h
    apply BitVec.eq_of_getLsbD_eq
    intro i hi
    rw [cnt_0 h i hi]; simp
  · intro h; subst h
    have : ∀ n, gm_cnt 0#64 n = 0 := by
      intro n
      induction n with
      | zero => rfl
      | succ n ih => unfold gm_cnt; rw [ih]; simp
    exact this 64
noncomputable def cs (o : Nat → Nat → Int) (A : BitVec 64) (a : Int) (B : BitVec 64) (b : Int) : Int :=
  if gm_cnt A 64 < gm_cnt B 64 then -1 else if gm_cnt B 64 < gm_cnt A 64 then 1 else if gm_cnt A 64 = 0 then (if a < b then -1 else if b < a then 1 else 0) else lx o A B (gm_cnt A 64)
theorem cs_rng {o : Nat → Nat → Int} {n : Nat} (h : TO o n) {A B : BitVec 64} (hA : bd A n) (hB : bd B n) (a b : Int) : (-1 ≤ cs o A a B b ∧ cs o A a B b ≤ 1) ∧ cs o B b A a = - cs o A a B b := by
  unfold cs
  rcases Nat.lt_trichotomy (gm_cnt A 64) (gm_cnt B 64) with q | q | q
  · rw [if_pos q, if_neg (by omega), if_pos q]; omega
  · have x1 : ¬ gm_cnt A 64 < gm_cnt B 64 := by omega
    have x2 : ¬ gm_cnt B 64 < gm_cnt A 64 := by omega
    simp only [if_neg x1, if_neg x2]
    by_cases z : gm_cnt A 64 = 0
    · rw [if_pos z, if_pos (by omega : gm_cnt B 64 = 0)]
      rcases Int.lt_trichotomy a b with w | w | w
      · have w' : ¬ b < a := by omega
        simp only [if_pos w, if_neg w']; decide
      · subst w
        have w' : ¬ a < a := by omega
        simp only [if_neg w']; decide
      · have w' : ¬ a < b := by omega
        simp only [if_pos w, if_neg w']; decide
    · rw [if_neg z, if_neg (by omega), ← q]
      exact lx_rng h hA hB _ (Nat.le_refl _) (by omega)
  · rw [if_neg (by omega), if_pos q, if_pos q]; omega
theorem cs_zero {o : Nat → Nat → Int} {n : Nat} (h : TO o n) {A B : BitVec 64} (hA : bd A n) (hB : bd B n) {a b : Int} (z : cs o A a B b = 0) : A = B ∧ (A = 0#64 → a = b) := by
  unfold cs at z
  rcases Nat.lt_trichotomy (gm_cnt A 64) (gm_cnt B 64) with q | q | q
  · rw [if_pos q] at z; omega
  · rw [if_neg (by omega), if_neg (by omega)] at z
    by_cases y : gm_cnt A 64 = 0
    · rw [if_pos y] at z
      have e1 := (cnt_00 A).mp y
      have e2 := (cnt_00 B).mp (by omega)
      refine ⟨by rw [e1, e2], fun _ => ?_⟩
      split at z
      · omega
      · split at z <;> omega
    · rw [if_neg y] at z
      refine ⟨set_eq h hA hB q (lx_zero h hA hB _ (Nat.le_refl _) (by omega) z), fun e => absurd ((cnt_00 A).mpr e) y⟩
  · rw [if_neg (by omega), if_pos q] at z; omega
theorem cs_trans {o : Nat → Nat → Int} {n : Nat} (h : TO o n) {A B C : BitVec 64} (hA : bd A n) (hB : bd B n) (hC : bd C n) {a b c : Int} (k1 : cs o A a B b ≤ 0) (k2 : cs o B b C c ≤ 0) : cs o A a C c ≤ 0 ∧ (cs o A a C c = 0 → cs o A a B b = 0 ∧ cs o B b C c = 0) := by
  unfold cs at k1 k2 ⊢
  have e1 : gm_cnt A 64 ≤ gm_cnt B 64 := by
    apply Classical.byContradiction; intro q
    rw [if_neg (by omega), if_pos (by omega)] at k1; omega
  have e2 : gm_cnt B 64 ≤ gm_cnt C 64 := by
    apply Classical.byContradiction; intro q
    rw [if_neg (by omega), if_pos (by omega)] at k2; omega
  by_cases q : gm_cnt A 64 < gm_cnt C 64
  · rw [if_pos q]; omega
  · have f1 : gm_cnt A 64 = gm_cnt B 64 := by omega
    have f2 : gm_cnt B 64 = gm_cnt C 64 := by omega
    rw [if_neg (by omega), if_neg (by omega)] at k1 k2 ⊢
    rw [if_neg (by omega : ¬ gm_cnt A 64 < gm_cnt B 64), if_neg (by omega : ¬ gm_cnt B 64 < gm_cnt A 64), if_neg (by omega : ¬ gm_cnt B 64 < gm_cnt C 64), if_neg (by omega : ¬ gm_cnt C 64 < gm_cnt B 64)]
    by_cases z : gm_cnt A 64 = 0
    · rw [if_pos z] at k1 ⊢; rw [if_pos (by omega)] at k2
      rw [if_pos z, if_pos (by omega : gm_cnt B 64 = 0)]
      by_cases x1 : a < b
      · by_cases x2 : b < c
        · rw [if_pos (by omega : a < c)]; omega
        · rw [if_neg x2] at k2
          have : ¬ c < b := by intro w; rw [if_pos w] at k2; omega
          rw [if_pos (by omega : a < c)]; omega
      · rw [if_neg x1] at k1
        have : ¬ b < a := by intro w; rw [if_pos w] at k1; omega
        have ab : a = b := by omega
        subst ab
        rw [if_neg x1, if_neg x1]
        exact ⟨k2, fun w => ⟨rfl, w⟩⟩
    · rw [if_neg z] at k1 ⊢; rw [if_neg (by omega), ← f1] at k2
      rw [if_neg z, if_neg (by omega : ¬ gm_cnt B 64 = 0), ← f1]
      exact lx_trans h hA hB hC _ (Nat.le_refl _) (by omega) (by omega) k1 k2
theorem cs_congr {o o' : Nat → Nat → Int} {n : Nat} (h : ∀ f e, f < n → e < n → o f e = o' f e) {A B : BitVec 64} (hA : bd A n) (hB : bd B n) (a b : Int) (to : TO o n) : cs o A a B b = cs o' A a B b := by
  have hi : ∀ {A : BitVec 64}, bd A n → ∀ i, gop o A i = gop o' A i := by
    intro A hA i
    unfold gop
    congr 1
    funext x
    apply propext
    unfold isop
    constructor
    · intro q
      refine ⟨q.1, ?_⟩
      rw [← q.2]; unfold rkb
      refine cntp_congr (fun y _ => ?_)
      by_cases yA : A.getLsbD y = true
      · rw [h y x (by have := hA y yA; omega) (by have := hA x q.1; omega)]
      · simp [yA]
    · intro q
      refine ⟨q.1, ?_⟩
      rw [← q.2]; unfold rkb
      refine cntp_congr (fun y _ => ?_)
      by_cases yA : A.getLsbD y = true
      · rw [h y x (by have := hA y yA; omega) (by have := hA x q.1; omega)]
      · simp [yA]
  have hl : ∀ i, i ≤ gm_cnt A 64 → i ≤ gm_cnt B 64 → lx o A B i = lx o' A B i := by
    intro i
    induction i with
    | zero => intros; rfl
    | succ i ih =>
      intro h1 h2
      unfold lx
      rw [ih (by omega) (by omega), ← hi hA, ← hi hB, h _ _ (gop_lt to hA (by omega)) (gop_lt to hB (by omega))]
  unfold cs
  by_cases q : gm_cnt A 64 < gm_cnt B 64
  · simp only [if_pos q]
  · by_cases r : gm_cnt B 64 < gm_cnt A 64
    · simp only [if_neg q, if_pos r]
    · simp only [if_neg q, if_neg r]
      rw [hl _ (Nat.le_refl _) (by omega)]
/-- how two nodes stand, by their data and an order of lesser ones -/
noncomputable def ck (o : Nat → Nat → Int) (l r : Nat → BitVec 64) (a b dp : Nat → Int) (f e : Nat) : Int :=
  if dp f < dp e then -1 else if dp e < dp f then 1 else if cs o (l f) (a f) (l e) (a e) = 0 then cs o (r f) (b f) (r e) (b e) else cs o (l f) (a f) (l e) (a e)
theorem ck_rng {o : Nat → Nat → Int} {n : Nat} (h : TO o n) {l r : Nat → BitVec 64} (a b dp : Nat → Int) {f e : Nat} (f1 : bd (l f) n) (f2 : bd (r f) n) (e1 : bd (l e) n) (e2 : bd (r e) n) : (-1 ≤ ck o l r a b dp f e ∧ ck o l r a b dp f e ≤ 1) ∧ ck o l r a b dp e f = - ck o l r a b dp f e := by
  have x := cs_rng h f1 e1 (a f) (a e)
  have y := cs_rng h f2 e2 (b f) (b e)
  unfold ck
  by_cases q : dp f < dp e
  · have q' : ¬ dp e < dp f := by omega
    rw [if_pos q, if_neg q', if_pos q]; decide
  · by_cases q' : dp e < dp f
    · rw [if_neg q, if_pos q', if_pos q']; decide
    · simp only [if_neg q, if_neg q']
      by_cases z : cs o (l f) (a f) (l e) (a e) = 0
      · rw [if_pos z, if_pos (by omega)]; exact y
      · rw [if_neg z, if_neg (by omega)]; exact x
theorem ck_zero {o : Nat → Nat → Int} {n : Nat} (h : TO o n) {l r : Nat → BitVec 64} {a b dp : Nat → Int} {f e : Nat} (f1 : bd (l f) n) (f2 : bd (r f) n) (e1 : bd (l e) n) (e2 : bd (r e) n) (z : ck o l r a b dp f e = 0) : dp f = dp e ∧ l f = l e ∧ r f = r e ∧ (l f = 0#64 → a f = a e) ∧ (r f = 0#64 → b f = b e) := by
  unfold ck at z
  by_cases q : dp f < dp e
  · rw [if_pos q] at z; omega
  · by_cases q' : dp e < dp f
    · rw [if_neg q, if_pos q'] at z; omega
    · rw [if_neg q, if_neg q'] at z
      by_cases y : cs o (l f) (a f) (l e) (a e) = 0
      · rw [if_pos y] at z
        have u := cs_zero h f1 e1 y
        have v := cs_zero h f2 e2 z
        exact ⟨by omega, u.1, v.1, u.2, v.2⟩
      · rw [if_neg y] at z; exact absurd z y
theorem ck_trans {o : Nat → Nat → Int} {n : Nat} (h : TO o n) {l r : Nat → BitVec 64} {a b dp : Nat → Int} {f e g : Nat} (f1 : bd (l f) n) (f2 : bd (r f) n) (e1 : bd (l e) n) (e2 : bd (r e) n) (g1 : bd (l g) n) (g2 : bd (r g) n) (k1 : ck o l r a b dp f e < 0) (k2 : ck o l r a b dp e g < 0) : ck o l r a b dp f g < 0 := by
  have a1 := cs_rng h f1 e1 (a f) (a e)
  have a2 := cs_rng h e1 g1 (a e) (a g)
  unfold ck at k1 k2 ⊢
  have d1 : dp f ≤ dp e := by
    apply Classical.byContradiction; intro q
    rw [if_neg (by omega), if_pos (by omega)] at k1; omega
  have d2 : dp e ≤ dp g := by
    apply Classical.byContradiction; intro q
    rw [if_neg (by omega), if_pos (by omega)] at k2; omega
  by_cases q : dp f < dp g
  · rw [if_pos q]; omega
  · have i1 : ¬ dp f < dp e := by omega
    have i2 : ¬ dp e < dp f := by omega
    have i3 : ¬ dp e < dp g := by omega
    have i4 : ¬ dp g < dp e := by omega
    have i5 : ¬ dp g < dp f := by omega
    rw [if_neg i1, if_neg i2] at k1; rw [if_neg i3, if_neg i4] at k2; rw [if_neg q, if_neg i5]
    have m1 : cs o (l f) (a f) (l e) (a e) ≤ 0 := by split at k1 <;> omega
    have m2 : cs o (l e) (a e) (l g) (a g) ≤ 0 := by split at k2 <;> omega
    have t := cs_trans h f1 e1 g1 m1 m2
    by_cases z : cs o (l f) (a f) (l g) (a g) = 0
    · have zz := t.2 z
      rw [if_pos z]; rw [if_pos zz.1] at k1; rw [if_pos zz.2] at k2
      have u := cs_trans h f2 e2 g2 (a := b f) (b := b e) (c := b g) (by omega) (by omega)
      apply Classical.byContradiction; intro w
      have := u.2 (by omega)
      omega
    · rw [if_neg z]; omega
/-- one node more -/
noncomputable def onew (o : Nat → Nat → Int) (n : Nat) (l r : Nat → BitVec 64) (a b dp : Nat → Int) (f e : Nat) : Int := if f < n ∧ e < n then o f e else ck o l r a b dp f e
theorem TO_new {o : Nat → Nat → Int} {n : Nat} (h : TO o n) {l r : Nat → BitVec 64} {a b dp : Nat → Int} (hl : ∀ f, f ≤ n → bd (l f) n ∧ bd (r f) n) (hk : ∀ f e, f < n → e < n → o f e = ck o l r a b dp f e) (nw : ∀ f, f < n → ¬ (l f = l n ∧ r f = r n ∧ (l n = 0#64 → a f = a n) ∧ (r n = 0#64 → b f = b n))) : TO (onew o n l r a b dp) (n + 1) ∧ ∀ f e, f < n + 1 → e < n + 1 → onew o n l r a b dp f e = ck (onew o n l r a b dp) l r a b dp f e := by
  have A : ∀ f e, f < n + 1 → e < n + 1 → onew o n l r a b dp f e = ck o l r a b dp f e := by
    intro f e hf he
    unfold onew
    by_cases q : f < n ∧ e < n
    · rw [if_pos q]; exact hk f e q.1 q.2
    · rw [if_neg q]
  have sel : ∀ f, f < n + 1 → ck o l r a b dp f f = 0 := by
    intro f hf
    have := ck_rng h a b dp (hl f (by omega)).1 (hl f (by omega)).2 (hl f (by omega)).1 (hl f (by omega)).2
    omega
  refine ⟨fun f e hf he => ?_, fun f e hf he => ?_⟩
  · have L1 := hl f (by omega)
    have L2 := hl e (by omega)
    rw [A f e hf he, A e f he hf]
    have x := ck_rng h a b dp L1.1 L1.2 L2.1 L2.2
    refine ⟨x.1, ⟨fun z => ?_, fun z => ?_⟩, x.2, fun g hg k1 k2 => ?_⟩
    · apply Classical.byContradiction
      intro ne
      have y := ck_zero h L1.1 L1.2 L2.1 L2.2 z
      rcases (by omega : (f < n ∧ e < n) ∨ (f < n ∧ e = n) ∨ (f = n ∧ e < n)) with q | q | q
      · rw [← hk f e q.1 q.2] at z
        exact ne ((h f e q.1 q.2).2.1.mp z)
      · have := nw f q.1
        rw [← q.2] at this
        exact this ⟨y.2.1, y.2.2.1, fun w => y.2.2.2.1 (by rw [y.2.1]; exact w), fun w => y.2.2.2.2 (by rw [y.2.2.1]; exact w)⟩
      · have := nw e q.2
        rw [← q.1] at this
        exact this ⟨y.2.1.symm, y.2.2.1.symm, fun w => (y.2.2.2.1 w).symm, fun w => (y.2.2.2.2 w).symm⟩
    · subst z; exact sel f hf
    · have L3 := hl g (by omega)
      rw [A e g he hg] at k2
      rw [A f g hf hg]
      exact ck_trans h L1.1 L1.2 L2.1 L2.2 L3.1 L3.2 k1 k2
  · rw [A f e hf he]
    have L1 := hl f (by omega)
    have L2 := hl e (by omega)
    have c : ∀ x y, x < n → y < n → o x y = onew o n l r a b dp x y := fun x y hx hy => by unfold onew; rw [if_pos ⟨hx, hy⟩]
    unfold ck
    rw [cs_congr c L1.1 L2.1 _ _ h, cs_congr c L1.2 L2.2 _ _ h]
