theorem OM_all : ∀ m, OM m
  | 0 => fun L D K s n o p1 p3 hD hs h1 h3 h4 h5 h6 h7 h8 h9 k => absurd h8 (by omega)
  | m + 1 => vm_order_m m (vm_sides_m m (OM_all m) (vm_option_m m (OM_all m)))
theorem PM_all (m : Nat) : PM m := vm_option_m m (OM_all m)
/-- what is being made is sound -/
def MDi (s : gH) : Prop := ∃ o, MS s (gp_I s 81 20).toNat o ∧ MC s (gp_I s 81 20).toNat o
theorem vm_option20 {L d : Nat} {K : Option gV → gH → Prop} {s : gH} (n : Nat) (o : Nat → Nat → Int) (p1 : BitVec 64) (p2 : Int) (hs : MI s) (h_p2 : 0 ≤ p2 ∧ p2 ≤ 63) (q0 : MS s n o) (q1 : MC s n o) (q2 : (n : Int) ≤ 60) (q3 : bd p1 n) (q4 : p2 < (gm_cnt p1 64 : Nat)) (k : ∀ (r : Int), ∀ (t : gH), MI t → gF [86] [] s t → (0 ≤ r ∧ r ≤ 63) → (MS t n o) → (MC t n o) → (isop o p1 p2.toNat r.toNat) → K (some (gp_i r)) t) : gs_C L (d + 183) 3092 8 [gp_r (some 74), gp_i 20, gp_l p1, gp_i p2] s K :=
  PM_all n _ _ _ _ n o _ _ (by omega) hs h_p2 q0 q1 (by omega) q2 q3 q4 k
theorem vm_optioni {L d : Nat} {K : Option gV → gH → Prop} {s : gH} (p1 : BitVec 64) (p2 : Int) (hs : MI s) (h_p2 : 0 ≤ p2 ∧ p2 ≤ 63) (q0 : MDi s) (q3 : bd p1 (gp_I s 81 20)) (q4 : p2 < (gm_cnt p1 64 : Nat)) (k : ∀ (r : Int), ∀ (t : gH), MI t → gF [86] [] s t → (0 ≤ r ∧ r ≤ 63) → (MDi t) → (p1.getLsbD r.toNat = true) → K (some (gp_i r)) t) : gs_C L (d + 183) 3092 8 [gp_r (some 74), gp_i 20, gp_l p1, gp_i p2] s K := by
  obtain ⟨o, h1, h2⟩ := q0
  have h3 := mr81m hs
  have h4 := mr81 hs 20
  refine vm_option20 _ o p1 p2 hs h_p2 h1 h2 (by omega) (bd_le q3 (by omega)) q4 (fun r t a b c d1 d2 d3 => k r t a b c ?_ d3.1)
  have e := (b.2 81 20 rfl (fun h => absurd h (by decide))).1
  refine ⟨o, ?_, ?_⟩ <;> rw [e] <;> assumption
theorem MDi_fr {m g : List Nat} {s t : gH} (h : MDi s) (hf : gF m g s t) (e1 : m.contains 76 = false) (e2 : m.contains 77 = false) (e3 : m.contains 78 = false) (e4 : m.contains 79 = false) (e5 : m.contains 80 = false) (e6 : m.contains 81 = false) (e7 : m.contains 86 = false) : MDi t := by
  obtain ⟨o, h1, h2⟩ := h
  have e := (hf.2 81 20 e6 (fun h => absurd h (by decide))).1
  refine ⟨o, ?_, ?_⟩ <;> rw [e]
  · exact MS_fr h1 hf e1 e2 e3 e4 e5
  · exact MC_fr h2 hf e7
theorem MC_z {s : gH} {n : Nat} {o : Nat → Nat → Int} (h : ∀ k : Nat, (k : Int) < 4096 → gp_I s 86 k = 0) : MC s n o := fun f e h1 h2 => Or.inl (h _ (by omega))
theorem MDi_0 {s : gH} (h : ∀ k : Nat, (k : Int) < 4096 → gp_I s 86 k = 0) (h0 : gp_I s 81 20 = 0) : MDi s := by
  refine ⟨fun _ _ => 0, ?_, MC_z h⟩
  rw [h0]
  exact ⟨fun f e hf => absurd hf (Nat.not_lt_zero _), fun f e hf => absurd hf (Nat.not_lt_zero _), fun f e hf => absurd hf (Nat.not_lt_zero _)⟩
/-- a node is laid -/
def LayP (s t : gH) (node : Nat) (l r : BitVec 64) (a b : Int) : Prop := (mL t node = l ∧ mR t node = r ∧ (l = 0#64 → mA t node = a) ∧ (r = 0#64 → mB t node = b) ∧ (¬ l = 0#64 → mA t node = 0) ∧ (¬ r = 0#64 → mB t node = 0) ∧ (∀ k, l.getLsbD k = true ∨ r.getLsbD k = true → mD s k < mD t node)) ∧ ∀ f, f ≠ node → mL t f = mL s f ∧ mR t f = mR s f ∧ mA t f = mA s f ∧ mB t f = mB s f ∧ mD t f = mD s f
theorem ix20m {f : Int} (h : 0 ≤ f) : Int.toNat (1280 + f) = 1280 + f.toNat := by omega
theorem lay_fin {s : gH} {p0 x a' b' a b : Int} {l r : BitVec 64} (h0 : 0 ≤ p0) (ha : (l = 0#64 → a' = a) ∧ (¬ l = 0#64 → a' = 0)) (hb : (r = 0#64 → b' = b) ∧ (¬ r = 0#64 → b' = 0)) (bl : bd l p0) (br : bd r p0)
    (hd : ∀ w : Nat, (l ||| r).getLsbD w = true → gp_I (gp_wI (gp_wI (gp_wL (gp_wL s 76 (Int.toNat (1280 + p0)) l) 77 (Int.toNat (1280 + p0)) r) 78 (Int.toNat (1280 + p0)) a') 79 (Int.toNat (1280 + p0)) b') 80 (Int.toNat (64 * 20 + w)) < x) :
    LayP s (gp_wI (gp_wI (gp_wI (gp_wL (gp_wL s 76 (Int.toNat (1280 + p0)) l) 77 (Int.toNat (1280 + p0)) r) 78 (Int.toNat (1280 + p0)) a') 79 (Int.toNat (1280 + p0)) b') 80 (Int.toNat (1280 + p0)) x) p0.toNat l r a b := by
  rw [ix20m h0] at *
  refine ⟨⟨(gz_rwL _ _ _ _ _).1 rfl, (gz_rwL _ _ _ _ _).1 rfl, fun h => ?_, fun h => ?_, fun h => ?_, fun h => ?_, fun k hk => ?_⟩, fun f hf => ⟨?_, ?_, ?_, ?_, ?_⟩⟩
  · exact ((gz_rw _ 78 _ _ _).1 rfl).trans (ha.1 h)
  · exact ((gz_rw _ 79 _ _ _).1 rfl).trans (hb.1 h)
  · exact ((gz_rw _ 78 _ _ _).1 rfl).trans (ha.2 h)
  · exact ((gz_rw _ 79 _ _ _).1 rfl).trans (hb.2 h)
  · have e : mD (gp_wI (gp_wI (gp_wI (gp_wL (gp_wL s 76 (1280 + p0.toNat) l) 77 (1280 + p0.toNat) r) 78 (1280 + p0.toNat) a') 79 (1280 + p0.toNat) b') 80 (1280 + p0.toNat) x) p0.toNat = x := (gz_rw _ 80 _ _ _).1 rfl
    rw [e]
    have := hd k (by rw [BitVec.getLsbD_or, Bool.or_eq_true]; exact hk)
    rw [ix20 (by omega)] at this
    exact this
  · exact (gz_rwL _ 76 _ _ _).2 (by omega)
  · exact (gz_rwL _ 77 _ _ _).2 (by omega)
  · exact (gz_rw _ 78 _ _ _).2 (by omega)
  · exact (gz_rw _ 79 _ _ _).2 (by omega)
  · exact (gz_rw _ 80 _ _ _).2 (by omega)
/-- a new node, laid behind the others, that is none of them -/
theorem MS_new {s t : gH} {n : Nat} {o : Nat → Nat → Int} {l r : BitVec 64} {a b : Int} (h : MS s n o) (hi : MI s) (n60 : n < 64) (hl : LayP s t n l r a b) (bl : bd l n) (br : bd r n) (nw : ∀ f, f < n → ¬ (mL s f = l ∧ mR s f = r ∧ (l = 0#64 → mA s f = a) ∧ (r = 0#64 → mB s f = b))) : ∃ o', MS t (n + 1) o' ∧ ∀ f e, f < n → e < n → o' f e = o f e := by
  have hb : ∀ f, f ≤ n → bd (mL t f) n ∧ bd (mR t f) n := by
    intro f hf
    by_cases c : f = n
    · subst c; rw [hl.1.1, hl.1.2.1]; exact ⟨bl, br⟩
    · have q := hl.2 f c
      rw [q.1, q.2.1]
      have x := mr76 hi 20 (f : Int) (by omega) (by omega)
      have y := mr77 hi 20 (f : Int) (by omega) (by omega)
      rw [ix20 (by omega), show ((f : Nat) : Int).toNat = f from rfl] at x y
      exact ⟨bd_le x (by omega), bd_le y (by omega)⟩
  have ek : ∀ f e, f < n → e < n → o f e = ck o (mL t) (mR t) (mA t) (mB t) (mD t) f e := by
    intro f e hf he
    rw [h.2.1 f e hf he]
    have q1 := hl.2 f (by omega)
    have q2 := hl.2 e (by omega)
    unfold ck
    rw [q1.1, q1.2.1, q1.2.2.1, q1.2.2.2.1, q1.2.2.2.2, q2.1, q2.2.1, q2.2.2.1, q2.2.2.2.1, q2.2.2.2.2]
  have nn : ∀ f, f < n → ¬ (mL t f = mL t n ∧ mR t f = mR t n ∧ (mL t n = 0#64 → mA t f = mA t n) ∧ (mR t n = 0#64 → mB t f = mB t n)) := by
    intro f hf q
    have q1 := hl.2 f (by omega)
    rw [q1.1, q1.2.1, q1.2.2.1, q1.2.2.2.1, hl.1.1, hl.1.2.1] at q
    exact nw f hf ⟨q.1, q.2.1, fun w => by rw [q.2.2.1 w]; exact hl.1.2.2.1 w, fun w => by rw [q.2.2.2 w]; exact hl.1.2.2.2.1 w⟩
  have T := TO_new h.1 hb ek nn
  refine ⟨onew o n (mL t) (mR t) (mA t) (mB t) (mD t), ⟨T.1, T.2, ?_⟩, fun f e hf he => by unfold onew; rw [if_pos ⟨hf, he⟩]⟩
  intro f k hf hk
  have kn : k < n := by
    have := hb f (by omega)
    rcases hk with hk | hk
    · have := this.1 k hk; omega
    · have := this.2 k hk; omega
  rw [(hl.2 k (by omega)).2.2.2.2]
  by_cases c : f = n
  · subst c
    rw [hl.1.1, hl.1.2.1] at hk
    exact hl.1.2.2.2.2.2.2 k hk
  · have q := hl.2 f c
    rw [q.2.2.2.2]
    rw [q.1, q.2.1] at hk
    exact h.2.2 f k (by omega) hk
theorem MC_up {s t : gH} {n n' : Nat} {o o' : Nat → Nat → Int} (h : MC s n o) (e : ∀ k, gp_I t 86 k = gp_I s 86 k) (hn : n ≤ n') (ho : ∀ f e, f < n → e < n → o' f e = o f e) : MC t n' o' := fun f g h1 h2 => by
  rw [e]
  rcases h f g h1 h2 with q | q
  · exact Or.inl q
  · exact Or.inr ⟨by omega, by omega, by rw [ho f g q.1 q.2.1]; exact q.2.2⟩
theorem MDi_new {s s1 : gH} {l r : BitVec 64} {a b v : Int} (h : MDi s) (hs : MI s) (hn : gp_I s 81 20 < 60) (hl : LayP s s1 (gp_I s 81 20).toNat l r a b) (hf : gF [76, 77, 78, 79, 80] [] s s1) (bl : bd l (gp_I s 81 20)) (br : bd r (gp_I s 81 20)) (nf : ∀ f : Int, 0 ≤ f → f < gp_I s 81 20 → ¬ (gp_L s 76 (Int.toNat (1280 + f)) = l ∧ gp_L s 77 (Int.toNat (1280 + f)) = r ∧ (l = 0#64 → gp_I s 78 (Int.toNat (1280 + f)) = a) ∧ (r = 0#64 → gp_I s 79 (Int.toNat (1280 + f)) = b))) (hv : v = gp_I s 81 20 + 1) : MDi (gp_wI s1 81 20 v) := by
  obtain ⟨o, h1, h2⟩ := h
  have p := mr81 hs 20
  obtain ⟨o', k1, k2⟩ := MS_new h1 hs (by omega) hl (bd_le bl (by omega)) (bd_le br (by omega)) (fun f hf q => by
    refine nf f (by omega) (by omega) ?_
    rw [ix20m (by omega), show ((f : Nat) : Int).toNat = f from rfl]; exact q)
  have e : gp_I (gp_wI s1 81 20 v) 81 20 = v := (gz_rw _ _ _ _ _).1 rfl
  refine ⟨o', ?_, ?_⟩
  · rw [e, show v.toNat = (gp_I s 81 20).toNat + 1 by omega]; exact k1
  · rw [e]
    exact MC_up h2 (fun k => (hf.2 86 k rfl (fun h => absurd h (by decide))).1) (by omega) k2
/-! the closure of a node -/
theorem one_self {x : Int} (h : 0 ≤ x) (h2 : x < 64) : (1#64 <<< (x % 64).toNat).getLsbD x.toNat = true := by
  rw [BitVec.getLsbD_shiftLeft, show (x % 64).toNat = x.toNat by omega]
  simp; omega
theorem cl_2 {S : BitVec 64} {s : gH} {k : Int} (hk : 0 ≤ k) (hl : bd (gp_L s 76 (Int.toNat (1280 + k))) k) (hr : bd (gp_L s 77 (Int.toNat (1280 + k))) k) (Sk : S.getLsbD k.toNat = true) (h : ∀ i j : Nat, k < i → S.getLsbD i = true → ((mL s i).getLsbD j = true ∨ (mR s i).getLsbD j = true) → S.getLsbD j = true) : ∀ i j : Nat, k + (-1) < i → (S ||| (gp_L s 76 (Int.toNat (1280 + k)) ||| gp_L s 77 (Int.toNat (1280 + k)))).getLsbD i = true → ((mL s i).getLsbD j = true ∨ (mR s i).getLsbD j = true) → (S ||| (gp_L s 76 (Int.toNat (1280 + k)) ||| gp_L s 77 (Int.toNat (1280 + k)))).getLsbD j = true := by
  intro i j hi hm ho
  rw [BitVec.getLsbD_or, BitVec.getLsbD_or, Bool.or_eq_true, Bool.or_eq_true] at hm ⊢
  have Si : S.getLsbD i = true := by
    rcases hm with q | q | q
    · exact q
    · have := hl i q; omega
    · have := hr i q; omega
  by_cases c : (i : Int) = k
  · have e : i = k.toNat := by omega
    subst e
    rw [ix20m hk]
    rcases ho with q | q
    · exact Or.inr (Or.inl q)
    · exact Or.inr (Or.inr q)
  · exact Or.inl (h i j (by omega) Si ho)
theorem cl_3 {S : BitVec 64} {s : gH} {k : Int} (hk : 0 ≤ k) (Sk : S.getLsbD k.toNat = false) (h : ∀ i j : Nat, k < i → S.getLsbD i = true → ((mL s i).getLsbD j = true ∨ (mR s i).getLsbD j = true) → S.getLsbD j = true) : ∀ i j : Nat, k + (-1) < i → (S ||| 0#64).getLsbD i = true → ((mL s i).getLsbD j = true ∨ (mR s i).getLsbD j = true) → (S ||| 0#64).getLsbD j = true := by
  intro i j hi hm ho
  rw [BitVec.or_zero] at hm ⊢
  by_cases c : (i : Int) = k
  · have e : i = k.toNat := by omega
    subst e
    rw [Sk] at hm; cases hm
  · exact h i j (by omega) hm ho
theorem or_bit {S X : BitVec 64} {i : Nat} (h : S.getLsbD i = true) : (S ||| X).getLsbD i = true := by rw [BitVec.getLsbD_or, h]; rfl
theorem cnt_pos {S : BitVec 64} {i : Nat} (h : S.getLsbD i = true) : 1 ≤ gm_cnt S 64 := by
  have h6 := BitVec.lt_of_getLsbD h
  have := gm_cnt_mono S (show i + 1 ≤ 64 by omega)
  rw [gm_cnt_s h] at this; omega
theorem cnt_bd {S : BitVec 64} {n : Int} (h : bd S n) (h0 : 0 ≤ n) : (gm_cnt S 64 : Int) ≤ n := by
  have key : ∀ k, (gm_cnt S k : Int) ≤ n ∧ gm_cnt S k ≤ k := by
    intro k
    induction k with
    | zero => exact ⟨h0, Nat.le_refl _⟩
    | succ k ih =>
      cases q : S.getLsbD k
      · rw [gm_cnt_z q]; omega
      · have := h k q
        rw [gm_cnt_s q]; omega
  exact (key 64).1
/-- rows of the followers so far -/
def RowP (s : gH) (o : Nat → Nat → Int) (S : BitVec 64) (i : Int) : Prop := ∀ j : Nat, (j : Int) < i → isop o S j (gp_I s 87 j).toNat ∧ gp_I s 88 (gp_I s 87 j).toNat = j
theorem RowP_fr {m g : List Nat} {s t : gH} {o : Nat → Nat → Int} {S : BitVec 64} {i : Int} (h : RowP s o S i) (hf : gF m g s t) (e1 : m.contains 87 = false) (e2 : m.contains 88 = false) : RowP t o S i := fun j hj => by
  have x : ∀ a k, a ≠ 74 → m.contains a = false → gp_I t a k = gp_I s a k := fun a k h1 h2 => (hf.2 a k h2 (fun h => absurd h h1)).1
  rw [x 87 _ (by decide) e1, x 88 _ (by decide) e2]; exact h j hj
theorem RowP_s {s : gH} {o : Nat → Nat → Int} {S : BitVec 64} {i r v : Int} (h : RowP s o S i) (hi : 0 ≤ i) (hr : isop o S i.toNat r.toNat) (hv : v = r) : RowP (gp_wI (gp_wI s 87 i.toNat r) 88 v.toNat i) o S (i + 1) := by
  subst hv
  intro j hj
  have q7 : ∀ k, gp_I (gp_wI (gp_wI s 87 i.toNat v) 88 v.toNat i) 87 k = gp_I (gp_wI s 87 i.toNat v) 87 k := fun k => rfl
  have a7 := gz_rw s 87 i.toNat j v
  by_cases c : i.toNat = j
  · rw [q7, a7.1 c]
    have a8 := gz_rw (gp_wI s 87 i.toNat v) 88 v.toNat v.toNat i
    rw [a8.1 rfl]
    exact ⟨by rw [← c]; exact hr, by omega⟩
  · rw [q7, a7.2 c]
    have hj' := h j (by omega)
    have a8 := gz_rw (gp_wI s 87 i.toNat v) 88 v.toNat (gp_I s 87 j).toNat i
    have ne : v.toNat ≠ (gp_I s 87 j).toNat := by
      intro e
      rw [← e] at hj'
      have := hj'.1.2.symm.trans hr.2
      omega
    rw [a8.2 ne]
    exact ⟨hj'.1, hj'.2⟩
/-- a follower's options have their places ahead of it -/
theorem place_lt {s : gH} {n : Nat} {o : Nat → Nat → Int} {S : BitVec 64} {c i : Int} (hm : MS s n o) (hS : bd S n) (hc : c = (gm_cnt S 64 : Nat)) (hr : RowP s o S c) (hi : 0 ≤ i ∧ i < c) (hcl : ∀ i j : Nat, S.getLsbD i = true → ((mL s i).getLsbD j = true ∨ (mR s i).getLsbD j = true) → S.getLsbD j = true) {w : Nat} (hw : (mL s (gp_I s 87 i.toNat).toNat).getLsbD w = true ∨ (mR s (gp_I s 87 i.toNat).toNat).getLsbD w = true) : gp_I s 88 w < i := by
  have x := (hr i.toNat (by omega)).1
  have xn : (gp_I s 87 i.toNat).toNat < n := by have := hS _ x.1; omega
  have wS := hcl _ _ x.1 hw
  have wn : w < n := by have := hS _ wS; omega
  have dl := hm.2.2 _ _ xn hw
  have ol : o w (gp_I s 87 i.toNat).toNat < 0 := by
    rw [hm.2.1 _ _ wn xn]; unfold ck; rw [if_pos dl]; omega
  have rk := rkb_lt hm.1 hS (BitVec.lt_of_getLsbD wS) wS xn ol
  rw [x.2] at rk
  have rc := rkb_cnt hm.1 hS wS
  have y := hr (rkb o S 64 w) (by omega)
  have e := isop_un hm.1 hS y.1 ⟨wS, rfl⟩
  rw [e] at y
  rw [y.2]; omega
theorem MS_out {s t : gH} {n : Nat} {o : Nat → Nat → Int} (h : MS s n o) (e : ∀ a k, 1280 ≤ k → gp_I t a k = gp_I s a k ∧ gp_L t a k = gp_L s a k) : MS t n o := by
  have hL : mL t = mL s := funext fun k => (e 76 _ (by omega)).2
  have hR : mR t = mR s := funext fun k => (e 77 _ (by omega)).2
  have hA : mA t = mA s := funext fun k => (e 78 _ (by omega)).1
  have hB : mB t = mB s := funext fun k => (e 79 _ (by omega)).1
  have hD : mD t = mD s := funext fun k => (e 80 _ (by omega)).1
  unfold MS
  rw [hL, hR, hA, hB, hD]
  exact h
theorem MS_5 {s : gH} {n : Nat} {o : Nat → Nat → Int} {i : Nat} {v1 v2 : BitVec 64} {v3 v4 v5 : Int} (h : MS s n o) (hi : i < 1280) : MS (gp_wI (gp_wI (gp_wI (gp_wL (gp_wL s 76 i v1) 77 i v2) 78 i v3) 79 i v4) 80 i v5) n o := by
  refine MS_out h (fun a k hk => ⟨?_, ?_⟩)
  · show gp_u2 (gp_u2 (gp_u2 _ _ _ _) _ _ _) _ _ _ _ _ = _
    rw [gm_u2, if_neg (by omega), gm_u2, if_neg (by omega), gm_u2, if_neg (by omega)]
  · show gp_u2 (gp_u2 _ _ _ _) _ _ _ _ _ = _
    rw [gm_u2, if_neg (by omega), gm_u2, if_neg (by omega)]
theorem nf_step {s : gH} {l r : BitVec 64} {a b x : Int} (h : ∀ f : Int, 0 ≤ f → f < x → ¬ (gp_L s 76 (Int.toNat (1280 + f)) = l ∧ gp_L s 77 (Int.toNat (1280 + f)) = r ∧ (l = 0#64 → gp_I s 78 (Int.toNat (1280 + f)) = a) ∧ (r = 0#64 → gp_I s 79 (Int.toNat (1280 + f)) = b))) (q : ¬ (gp_L s 76 (Int.toNat (1280 + x)) = l ∧ gp_L s 77 (Int.toNat (1280 + x)) = r ∧ (l = 0#64 → gp_I s 78 (Int.toNat (1280 + x)) = a) ∧ (r = 0#64 → gp_I s 79 (Int.toNat (1280 + x)) = b))) : ∀ f : Int, 0 ≤ f → f < x + 1 → ¬ (gp_L s 76 (Int.toNat (1280 + f)) = l ∧ gp_L s 77 (Int.toNat (1280 + f)) = r ∧ (l = 0#64 → gp_I s 78 (Int.toNat (1280 + f)) = a) ∧ (r = 0#64 → gp_I s 79 (Int.toNat (1280 + f)) = b)) := by
  intro f h0 h1
  by_cases c : f < x
  · exact h f h0 c
  · rw [show f = x by omega]; exact q
theorem dp_step {s : gH} {A : BitVec 64} {g x m v : Int} (hx : 0 ≤ x) (h : ∀ w : Nat, (w : Int) < x → A.getLsbD w = true → gp_I s 80 (Int.toNat (64 * g + w)) ≤ m) (hm : m ≤ v) (q : A.getLsbD x.toNat = true → gp_I s 80 (Int.toNat (64 * g + x)) ≤ v) : ∀ w : Nat, (w : Int) < x + 1 → A.getLsbD w = true → gp_I s 80 (Int.toNat (64 * g + w)) ≤ v := by
  intro w hw ha
  by_cases c : (w : Int) < x
  · have := h w c ha; omega
  · have e : (w : Int) = x := by omega
    rw [e]; exact q (by rw [← e]; exact ha)
/-- a set with all options of its members -/
def ClP (s : gH) (S : BitVec 64) : Prop := ∀ i j : Nat, S.getLsbD i = true → ((mL s i).getLsbD j = true ∨ (mR s i).getLsbD j = true) → S.getLsbD j = true
theorem ClP_fr {m g : List Nat} {s t : gH} {S : BitVec 64} (h : ClP s S) (hf : gF m g s t) (e1 : m.contains 76 = false) (e2 : m.contains 77 = false) : ClP t S := fun i j hi ho => by
  have x : ∀ a k, a ≠ 74 → m.contains a = false → gp_L t a k = gp_L s a k := fun a k h1 h2 => (hf.2 a k h2 (fun h => absurd h h1)).2
  refine h i j hi ?_
  rw [show mL s i = mL t i from (x 76 _ (by decide) e1).symm, show mR s i = mR t i from (x 77 _ (by decide) e2).symm]
  exact ho
theorem ClP_5 {s : gH} {S : BitVec 64} {i : Nat} {v1 v2 : BitVec 64} {v3 v4 v5 : Int} (h : ClP s S) (hi : i < 1280) : ClP (gp_wI (gp_wI (gp_wI (gp_wL (gp_wL s 76 i v1) 77 i v2) 78 i v3) 79 i v4) 80 i v5) S := fun a b ha ho => by
  refine h a b ha ?_
  have e1 : mL (gp_wI (gp_wI (gp_wI (gp_wL (gp_wL s 76 i v1) 77 i v2) 78 i v3) 79 i v4) 80 i v5) a = mL s a := (gz_rwL s 76 i (1280 + a) v1).2 (by omega)
  have e2 : mR (gp_wI (gp_wI (gp_wI (gp_wL (gp_wL s 76 i v1) 77 i v2) 78 i v3) 79 i v4) 80 i v5) a = mR s a := (gz_rwL (gp_wL s 76 i v1) 77 i (1280 + a) v2).2 (by omega)
  rw [← e1, ← e2]; exact ho
/-- alike but for what is being made -/
def mOut (s t : gH) : Prop := (∀ k, k ≠ 20 → gp_I t 81 k = gp_I s 81 k) ∧ (∀ a k, a = 78 ∨ a = 79 ∨ a = 80 → k < 1280 ∨ 1344 ≤ k → gp_I t a k = gp_I s a k) ∧ (∀ a k, a = 76 ∨ a = 77 → k < 1280 ∨ 1344 ≤ k → gp_L t a k = gp_L s a k)
theorem mOut.refl (s : gH) : mOut s s := ⟨fun _ _ => rfl, fun _ _ _ _ => rfl, fun _ _ _ _ => rfl⟩
theorem mOut.trans {s t u : gH} (h : mOut s t) (g : mOut t u) : mOut s u := ⟨fun k q => (g.1 k q).trans (h.1 k q), fun a k q r => (g.2.1 a k q r).trans (h.2.1 a k q r), fun a k q r => (g.2.2 a k q r).trans (h.2.2 a k q r)⟩
theorem mOut_fr {m g : List Nat} {s t u : gH} (h : mOut s t) (hf : gF m g t u) (e0 : m.contains 76 = false) (e1 : m.contains 77 = false) (e2 : m.contains 78 = false) (e3 : m.contains 79 = false) (e4 : m.contains 80 = false) (e5 : m.contains 81 = false) : mOut s u := by
  have x : ∀ a k, a ≠ 74 → m.contains a = false → gp_I u a k = gp_I t a k ∧ gp_L u a k = gp_L t a k := fun a k h1 h2 => hf.2 a k h2 (fun h => absurd h h1)
  refine mOut.trans h ⟨fun k _ => (x 81 k (by decide) e5).1, fun a k q _ => ?_, fun a k q _ => ?_⟩
  · rcases q with q | q | q <;> subst q
    · exact (x 78 k (by decide) e2).1
    · exact (x 79 k (by decide) e3).1
    · exact (x 80 k (by decide) e4).1
  · rcases q with q | q <;> subst q
    · exact (x 76 k (by decide) e0).2
    · exact (x 77 k (by decide) e1).2
theorem mOut_wI {s t : gH} {a k : Nat} {v : Int} (h : mOut s t) (ha : a ≠ 78 ∧ a ≠ 79 ∧ a ≠ 80 ∧ a ≠ 81) : mOut s (gp_wI t a k v) := by
  refine mOut.trans h ⟨fun k' _ => ?_, fun a' k' q _ => ?_, fun a' k' q _ => rfl⟩
  · show gp_u2 _ _ _ _ _ _ = _; rw [gm_u2, if_neg (by omega)]
  · show gp_u2 _ _ _ _ _ _ = _; rw [gm_u2, if_neg (by omega)]
theorem mOut_wL {s t : gH} {a k : Nat} {v : BitVec 64} (h : mOut s t) (ha : a ≠ 76 ∧ a ≠ 77) : mOut s (gp_wL t a k v) := by
  refine mOut.trans h ⟨fun k' _ => rfl, fun a' k' q _ => rfl, fun a' k' q _ => ?_⟩
  show gp_u2 _ _ _ _ _ _ = _; rw [gm_u2, if_neg (by omega)]
theorem mOut_81 {s t : gH} {v : Int} (h : mOut s t) : mOut s (gp_wI t 81 20 v) := by
  refine mOut.trans h ⟨fun k' q => ?_, fun a' k' q _ => ?_, fun a' k' q _ => rfl⟩
  · show gp_u2 _ _ _ _ _ _ = _; rw [gm_u2, if_neg (by omega)]
  · show gp_u2 _ _ _ _ _ _ = _; rw [gm_u2, if_neg (by omega)]
theorem mOut_5 {s : gH} {i : Nat} {v1 v2 : BitVec 64} {v3 v4 v5 : Int} (hi : 1280 ≤ i ∧ i < 1344) : mOut s (gp_wI (gp_wI (gp_wI (gp_wL (gp_wL s 76 i v1) 77 i v2) 78 i v3) 79 i v4) 80 i v5) := by
  refine ⟨fun k' q => rfl, fun a' k' q r => ?_, fun a' k' q r => ?_⟩
  · show gp_u2 (gp_u2 (gp_u2 _ _ _ _) _ _ _) _ _ _ _ _ = _
    rw [gm_u2, if_neg (by omega), gm_u2, if_neg (by omega), gm_u2, if_neg (by omega)]
  · show gp_u2 (gp_u2 _ _ _ _) _ _ _ _ _ = _
    rw [gm_u2, if_neg (by omega), gm_u2, if_neg (by omega)]
/-- nodes of a game's followers so far -/
theorem nd_step {m g : List Nat} {s s1 : gH} {x r : Int} (hx : 0 ≤ x) (h : ∀ k : Nat, (k : Int) < x → gp_I s 89 k < gp_I s 81 20) (hf : gF m g s s1) (e : m.contains 89 = false) (hm : gp_I s 81 20 ≤ gp_I s1 81 20) (hr : r < gp_I s1 81 20) : ∀ k : Nat, (k : Int) < x + 1 → gp_I (gp_wI s1 89 x.toNat r) 89 k < gp_I (gp_wI s1 89 x.toNat r) 81 20 := by
  intro k hk
  have q := gz_rw s1 89 x.toNat k r
  have e2 : gp_I (gp_wI s1 89 x.toNat r) 81 20 = gp_I s1 81 20 := rfl
  rw [e2]
  by_cases c : x.toNat = k
  · rw [q.1 c]; exact hr
  · rw [q.2 c, (hf.2 89 k e (fun h => absurd h (by decide))).1]
    have := h k (by omega); omega
def SumP (s : gH) : Prop := (∀ k : Nat, k < 4096 → gp_I s 105 k ≤ gp_I s 81 20) ∧ (gp_I s 74 15 ≠ 0 → 1 ≤ gp_I s 81 20)
theorem SumP_fr {m g : List Nat} {s t : gH} (h : SumP s) (hf : gF m g s t) (e1 : m.contains 74 = false) (e2 : m.contains 81 = false) (e3 : m.contains 105 = false) (e4 : g.contains 15 = false) : SumP t := by
  have a := (hf.2 81 20 e2 (fun h => absurd h (by decide))).1
  have b := (hf.2 74 15 e1 (fun _ => e4)).1
  unfold SumP; rw [a, b]
  exact ⟨fun k hk => by rw [(hf.2 105 k e3 (fun h => absurd h (by decide))).1]; exact h.1 k hk, h.2⟩
theorem SumP_up {m g : List Nat} {s t : gH} (h : SumP s) (hf : gF m g s t) (e3 : m.contains 105 = false) (hm : gp_I s 81 20 ≤ gp_I t 81 20) (h1 : 1 ≤ gp_I t 81 20) : SumP t := ⟨fun k hk => by rw [(hf.2 105 k e3 (fun h => absurd h (by decide))).1]; have := h.1 k hk; omega, fun _ => h1⟩
theorem SumP_w {s : gH} {i : Nat} {v : Int} (h : SumP s) (hv : v ≤ gp_I s 81 20) : SumP (gp_wI s 105 i v) := by
  refine ⟨fun k hk => ?_, h.2⟩
  have q := gz_rw s 105 i k v
  have e2 : gp_I (gp_wI s 105 i v) 81 20 = gp_I s 81 20 := rfl
  rw [e2]
  by_cases c : i = k
  · rw [q.1 c]; exact hv
  · rw [q.2 c]; exact h.1 k hk
theorem SumP_0 {s : gH} (h : ∀ k : Nat, (k : Int) < 4096 → gp_I s 105 k = 0) (h0 : gp_I s 81 20 = 0) (h1 : gp_I s 74 15 = 0) : SumP s := ⟨fun k hk => by rw [h k (by omega), h0]; omega, fun q => absurd h1 q⟩
theorem mK_o {s t : gH} (h : mOut s t) : mK s t := fun k a b c => h.1 k (by omega)
