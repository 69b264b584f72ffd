theorem OG_all : ∀ m, OG m
  | 0 => fun L D K s p0 p1 p2 p3 hD hs h0 h1 h2 h3 h4 h5 k => absurd h4 (by omega)
  | m + 1 => vm_order_g m (vm_sides_g m (OG_all m))
theorem vm_order4 {L d : Nat} {K : Option gV → gH → Prop} {s : gH} (p0 p1 p2 p3 : Int) (hs : MI s) (h_p0 : 0 ≤ p0 ∧ p0 ≤ 19) (h_p1 : 0 ≤ p1 ∧ p1 ≤ 63) (h_p2 : 0 ≤ p2 ∧ p2 ≤ 19) (h_p3 : 0 ≤ p3 ∧ p3 ≤ 63) (k : ∀ (r : Int), ∀ (t : gH), MI t → gF [86] [] s t → ((-1) ≤ r ∧ r ≤ 1) → K (some (gp_i r)) t) : gs_C L (d + 194) 3090 9 [gp_r (some 74), gp_i p0, gp_i p1, gp_i p2, gp_i p3] s K :=
  OG_all 64 _ _ _ _ _ _ _ _ (by omega) hs h_p0 h_p1 h_p2 h_p3 (by omega) (by omega) k
/-! what is being made: its nodes, their order, the orders that are known -/
abbrev mL (s : gH) (f : Nat) : BitVec 64 := gp_L s 76 (1280 + f)
abbrev mR (s : gH) (f : Nat) : BitVec 64 := gp_L s 77 (1280 + f)
abbrev mA (s : gH) (f : Nat) : Int := gp_I s 78 (1280 + f)
abbrev mB (s : gH) (f : Nat) : Int := gp_I s 79 (1280 + f)
abbrev mD (s : gH) (f : Nat) : Int := gp_I s 80 (1280 + f)
def MS (s : gH) (n : Nat) (o : Nat → Nat → Int) : Prop := TO o n ∧ (∀ f e, f < n → e < n → o f e = ck o (mL s) (mR s) (mA s) (mB s) (mD s) f e) ∧ (∀ f k, f < n → ((mL s f).getLsbD k = true ∨ (mR s f).getLsbD k = true) → mD s k < mD s f)
def MC (s : gH) (n : Nat) (o : Nat → Nat → Int) : Prop := ∀ f e, f < 64 → e < 64 → gp_I s 86 (64 * f + e) = 0 ∨ (f < n ∧ e < n ∧ gp_I s 86 (64 * f + e) = 2 + o f e)
theorem MS_fr {m g : List Nat} {s t : gH} {n : Nat} {o : Nat → Nat → Int} (h : MS s n o) (hf : gF m g s t) (e1 : m.contains 76 = false) (e2 : m.contains 77 = false) (e3 : m.contains 78 = false) (e4 : m.contains 79 = false) (e5 : m.contains 80 = false) : MS t n o := by
  have x : ∀ a k, a ≠ 74 → m.contains a = false → gp_I t a k = gp_I s a k ∧ gp_L t a k = gp_L s a k := fun a k h1 h2 => hf.2 a k h2 (fun h => absurd h h1)
  have hL : mL t = mL s := funext fun k => (x 76 _ (by decide) e1).2
  have hR : mR t = mR s := funext fun k => (x 77 _ (by decide) e2).2
  have hA : mA t = mA s := funext fun k => (x 78 _ (by decide) e3).1
  have hB : mB t = mB s := funext fun k => (x 79 _ (by decide) e4).1
  have hD : mD t = mD s := funext fun k => (x 80 _ (by decide) e5).1
  unfold MS
  rw [hL, hR, hA, hB, hD]
  exact h
theorem MC_fr {m g : List Nat} {s t : gH} {n : Nat} {o : Nat → Nat → Int} (h : MC s n o) (hf : gF m g s t) (e1 : m.contains 86 = false) : MC t n o := fun f e h1 h2 => by
  rw [(hf.2 86 (64 * f + e) e1 (fun h => absurd h (by decide))).1]; exact h f e h1 h2
theorem MC_w {s : gH} {n : Nat} {o : Nat → Nat → Int} (h : MC s n o) {f e : Int} {v : Int} (hf : 0 ≤ f ∧ f < n) (he : 0 ≤ e ∧ e < n) (hn : (n : Int) ≤ 64) (hv : v = 2 + o f.toNat e.toNat) : MC (gp_wI s 86 (Int.toNat (64 * f + e)) v) n o := fun f' e' h1 h2 => by
  have q := gz_rw s 86 (Int.toNat (64 * f + e)) (64 * f' + e') v
  by_cases c : Int.toNat (64 * f + e) = 64 * f' + e'
  · have c1 : f' = f.toNat := by omega
    have c2 : e' = e.toNat := by omega
    rw [q.1 c, hv, c1, c2]
    exact Or.inr ⟨by omega, by omega, rfl⟩
  · rw [q.2 c]; exact h f' e' h1 h2
theorem MC_r {s : gH} {n : Nat} {o : Nat → Nat → Int} (h : MC s n o) {f e : Int} (hf : 0 ≤ f ∧ f < 64) (he : 0 ≤ e ∧ e < 64) : gp_I s 86 (Int.toNat (64 * f + e)) = 0 ∨ gp_I s 86 (Int.toNat (64 * f + e)) = 2 + o f.toNat e.toNat := by
  have q := h f.toNat e.toNat (by omega) (by omega)
  rw [show 64 * f.toNat + e.toNat = Int.toNat (64 * f + e) by omega] at q
  rcases q with q | q
  · exact Or.inl q
  · exact Or.inr q.2.2
theorem ix20 {f : Int} (h : 0 ≤ f) : Int.toNat (64 * 20 + f) = 1280 + f.toNat := by omega
/-- the two orders' stages -/
noncomputable def ckp (o : Nat → Nat → Int) (s : gH) (f e : Nat) : Nat → Int
  | 0 => if mD s f < mD s e then -1 else if mD s e < mD s f then 1 else 0
  | 1 => if (if mD s f < mD s e then -1 else if mD s e < mD s f then 1 else 0) = (0 : Int) then cs o (mL s f) (mA s f) (mL s e) (mA s e) else (if mD s f < mD s e then -1 else if mD s e < mD s f then 1 else 0)
  | _ => ck o (mL s) (mR s) (mA s) (mB s) (mD s) f e
theorem ckp_stay {o : Nat → Nat → Int} {s : gH} {f e : Nat} {k : Nat} (h : ckp o s f e k ≠ 0) : ckp o s f e k = ck o (mL s) (mR s) (mA s) (mB s) (mD s) f e := by
  unfold ckp at h ⊢
  unfold ck
  match k, h with
  | 0, h =>
    simp only at h ⊢
    by_cases q : mD s f < mD s e
    · rw [if_pos q, if_pos q]
    · by_cases q' : mD s e < mD s f
      · rw [if_neg q, if_pos q', if_neg q, if_pos q']
      · rw [if_neg q, if_neg q'] at h; exact absurd rfl h
  | 1, h =>
    simp only at h ⊢
    by_cases q : mD s f < mD s e
    · simp only [if_pos q] at h ⊢; rw [if_neg (by decide)]
    · by_cases q' : mD s e < mD s f
      · simp only [if_neg q, if_pos q'] at h ⊢; rw [if_neg (by decide)]
      · simp only [if_neg q, if_neg q'] at h ⊢
        rw [if_pos trivial] at h ⊢
        rw [if_neg h]
  | k + 2, h => rfl
theorem ckp_1 {o : Nat → Nat → Int} {s : gH} {f e : Nat} (h : ckp o s f e 0 = 0) : ckp o s f e 1 = cs o (mL s f) (mA s f) (mL s e) (mA s e) := by
  unfold ckp at h ⊢
  simp only at h ⊢
  rw [if_pos h]
theorem ckp_2 {o : Nat → Nat → Int} {s : gH} {f e : Nat} (h : ckp o s f e 1 = 0) (h0 : ckp o s f e 0 = 0) : ckp o s f e 2 = cs o (mR s f) (mB s f) (mR s e) (mB s e) := by
  rw [ckp_1 h0] at h
  unfold ckp at h0 ⊢
  simp only at h0 ⊢
  unfold ck
  by_cases q : mD s f < mD s e
  · rw [if_pos q] at h0; exact absurd h0 (by decide)
  · by_cases q' : mD s e < mD s f
    · rw [if_neg q, if_pos q'] at h0; exact absurd h0 (by decide)
    · rw [if_neg q, if_neg q', if_pos h]
theorem ckp_s0 {o : Nat → Nat → Int} {s : gH} {f e : Nat} (h : ckp o s f e 1 = 0) : ckp o s f e 0 = 0 := by
  apply Classical.byContradiction
  intro q
  have a := ckp_stay q
  unfold ckp at h q
  simp only at h q
  rw [if_neg q] at h
  exact q h
theorem rk_c0 {o : Nat → Nat → Int} {A : BitVec 64} {a x y : Int} (hy : 0 ≤ y) (h : a = (rkb o A y.toNat x.toNat : Nat)) (q : A.getLsbD y.toNat = false) : a + 0 = (rkb o A (Int.toNat (y + 1)) x.toNat : Nat) := by
  rw [show Int.toNat (y + 1) = y.toNat + 1 by omega, rkb_s, if_neg (fun c => by rw [q] at c; cases c.1), h]; simp
theorem rk_c1 {o : Nat → Nat → Int} {A : BitVec 64} {a x y : Int} (hy : 0 ≤ y) (h : a = (rkb o A y.toNat x.toNat : Nat)) (q : ¬ o y.toNat x.toNat < 0) : a + 0 = (rkb o A (Int.toNat (y + 1)) x.toNat : Nat) := by
  rw [show Int.toNat (y + 1) = y.toNat + 1 by omega, rkb_s, if_neg (fun c => by omega), h]; simp
theorem rk_c2 {o : Nat → Nat → Int} {n : Nat} (to : TO o n) {A : BitVec 64} {a x y : Int} (hy : 0 ≤ y) (hx : x < n) (h : a = (rkb o A y.toNat x.toNat : Nat)) (q : y = x) : a + 0 = (rkb o A (Int.toNat (y + 1)) x.toNat : Nat) := by
  subst q
  have := (to y.toNat y.toNat (by omega) (by omega)).2.1.mpr rfl
  rw [show Int.toNat (y + 1) = y.toNat + 1 by omega, rkb_s, if_neg (fun c => by omega), h]; simp
theorem rk_c3 {o : Nat → Nat → Int} {A : BitVec 64} {a x y : Int} (hy : 0 ≤ y) (h : a = (rkb o A y.toNat x.toNat : Nat)) (q : A.getLsbD y.toNat = true) (q2 : o y.toNat x.toNat < 0) : a + 1 = (rkb o A (Int.toNat (y + 1)) x.toNat : Nat) := by
  rw [show Int.toNat (y + 1) = y.toNat + 1 by omega, rkb_s, if_pos ⟨q, by omega⟩, h]; simp
theorem ckp_step {o : Nat → Nat → Int} {m g : List Nat} {s s' : gH} (hf : gF m g s s') (e1 : m.contains 76 = false) (e2 : m.contains 77 = false) (e3 : m.contains 78 = false) (e4 : m.contains 79 = false) {p1 p3 sd x4 x8 : Int} {m2 m6 : BitVec 64} (h1 : sd = 0 → m2 = gp_L s' 76 (Int.toNat (64 * 20 + p1))) (h2 : sd ≠ 0 → m2 = gp_L s' 77 (Int.toNat (64 * 20 + p1))) (h3 : sd = 0 → x4 = gp_I s' 78 (Int.toNat (64 * 20 + p1))) (h4 : sd ≠ 0 → x4 = gp_I s' 79 (Int.toNat (64 * 20 + p1))) (h5 : sd = 0 → m6 = gp_L s' 76 (Int.toNat (64 * 20 + p3))) (h6 : sd ≠ 0 → m6 = gp_L s' 77 (Int.toNat (64 * 20 + p3))) (h7 : sd = 0 → x8 = gp_I s' 78 (Int.toNat (64 * 20 + p3))) (h8 : sd ≠ 0 → x8 = gp_I s' 79 (Int.toNat (64 * 20 + p3))) (k1 : 0 ≤ p1) (k3 : 0 ≤ p3) (ks : 0 ≤ sd ∧ sd ≤ 1) (hz : ckp o s p1.toNat p3.toNat sd.toNat = 0) : cs o m2 x4 m6 x8 = ckp o s p1.toNat p3.toNat (Int.toNat (sd + 1)) := by
  have x : ∀ a k, a ≠ 74 → m.contains a = false → gp_I s' a k = gp_I s a k ∧ gp_L s' a k = gp_L s a k := fun a k h1 h2 => hf.2 a k h2 (fun h => absurd h h1)
  rw [ix20 k1] at h1 h2 h3 h4
  rw [ix20 k3] at h5 h6 h7 h8
  rcases (by omega : sd = 0 ∨ sd = 1) with q | q
  · subst q
    rw [h1 rfl, h3 rfl, h5 rfl, h7 rfl, (x 76 _ (by decide) e1).2, (x 76 _ (by decide) e1).2, (x 78 _ (by decide) e3).1, (x 78 _ (by decide) e3).1]
    exact (ckp_1 hz).symm
  · subst q
    rw [h2 (by decide), h4 (by decide), h6 (by decide), h8 (by decide), (x 77 _ (by decide) e2).2, (x 77 _ (by decide) e2).2, (x 79 _ (by decide) e4).1, (x 79 _ (by decide) e4).1]
    exact (ckp_2 hz (ckp_s0 hz)).symm
theorem ord_fin {o : Nat → Nat → Int} {s : gH} {n : Nat} (h : MS s n o) {p1 p3 v7 v8 : Int} (k1 : 0 ≤ p1 ∧ p1 < n) (k3 : 0 ≤ p3 ∧ p3 < n) (e : v7 = ckp o s p1.toNat p3.toNat v8.toNat) (c : v8 = 2 ∨ ¬ v7 = 0) : v7 = o p1.toNat p3.toNat := by
  rw [h.2.1 _ _ (by omega) (by omega)]
  rcases c with c | c
  · subst c; exact e
  · rw [e] at c ⊢; exact ckp_stay c
theorem cs_cnt (o : Nat → Nat → Int) (A : BitVec 64) (a : Int) (B : BitVec 64) (b : Int) : (gm_cnt A 64 < gm_cnt B 64 → cs o A a B b = -1) ∧ (gm_cnt B 64 < gm_cnt A 64 → cs o A a B b = 1) := by
  unfold cs
  constructor
  · intro h; rw [if_pos h]
  · intro h; rw [if_neg (by omega), if_pos h]
theorem cs_00 (o : Nat → Nat → Int) {A B : BitVec 64} (a b : Int) (h1 : A = 0#64) (h2 : B = 0#64) : (a < b → cs o A a B b = -1) ∧ (b < a → cs o A a B b = 1) ∧ (a = b → cs o A a B b = 0) := by
  have c1 := (cnt_00 A).mpr h1
  have c2 := (cnt_00 B).mpr h2
  unfold cs
  rw [if_neg (by omega), if_neg (by omega), if_pos c1]
  refine ⟨fun h => if_pos h, fun h => ?_, fun h => ?_⟩
  · rw [if_neg (by omega), if_pos h]
  · rw [if_neg (by omega), if_neg (by omega)]
theorem lx_stay {o : Nat → Nat → Int} {A B : BitVec 64} {i : Nat} (h : lx o A B i ≠ 0) : ∀ j, i ≤ j → lx o A B j = lx o A B i := by
  intro j hj
  induction hj with
  | refl => rfl
  | step _ ih => show (if lx o A B _ = 0 then _ else _) = _; rw [if_neg (by rw [ih]; exact h), ih]
theorem lx_step {o : Nat → Nat → Int} {n : Nat} (to : TO o n) {A B : BitVec 64} (hA : bd A n) (hB : bd B n) {i a b x : Int} (hi : 0 ≤ i) (ha : isop o A i.toNat a.toNat) (hb : isop o B i.toNat b.toNat) (hz : lx o A B i.toNat = 0) (e : x = o a.toNat b.toNat) : x = lx o A B (Int.toNat (i + 1)) := by
  rw [show Int.toNat (i + 1) = i.toNat + 1 by omega]
  unfold lx
  have r1 : i.toNat < gm_cnt A 64 := by rw [← ha.2]; exact rkb_cnt to hA ha.1
  have r2 : i.toNat < gm_cnt B 64 := by rw [← hb.2]; exact rkb_cnt to hB hb.1
  rw [if_pos hz, e, isop_un to hA ha (gop_spec to hA r1), isop_un to hB hb (gop_spec to hB r2)]
theorem sides_fin {o : Nat → Nat → Int} {A B : BitVec 64} {a b v9 v11 v12 : Int} (ne : ¬ (A = 0#64 ∧ B = 0#64)) (c1 : v9 = (gm_cnt A 64 : Nat)) (c2 : v9 = (gm_cnt B 64 : Nat)) (hi : 0 ≤ v12) (hle : v12 ≤ v9) (e : v11 = lx o A B v12.toNat) (c : ¬ v12 < v9 ∨ ¬ v11 = 0) : v11 = cs o A a B b := by
  have nz : gm_cnt A 64 ≠ 0 := by
    intro z
    exact ne ⟨(cnt_00 A).mp z, (cnt_00 B).mp (by omega)⟩
  unfold cs
  rw [if_neg (by omega), if_neg (by omega), if_neg nz]
  rcases c with c | c
  · rw [show gm_cnt A 64 = v12.toNat by omega]; exact e
  · rw [e] at c ⊢; exact (lx_stay c _ (by omega)).symm
theorem rkb_k (o : Nat → Nat → Int) (A : BitVec 64) (k x : Nat) : rkb o A k x ≤ k := cntp_le _ k
theorem nx_step {o : Nat → Nat → Int} {A : BitVec 64} {x p2 : Int} (hx : 0 ≤ x) (h : ∀ w : Nat, (w : Int) < x → A.getLsbD w = true → (rkb o A 64 w : Nat) ≠ p2.toNat) (q : A.getLsbD x.toNat = false ∨ rkb o A 64 x.toNat ≠ p2.toNat) : ∀ w : Nat, (w : Int) < x + 1 → A.getLsbD w = true → (rkb o A 64 w : Nat) ≠ p2.toNat := by
  intro w hw hm
  by_cases c : (w : Int) < x
  · exact h w c hm
  · have : w = x.toNat := by omega
    subst this
    rcases q with q | q
    · rw [q] at hm; cases hm
    · exact q
