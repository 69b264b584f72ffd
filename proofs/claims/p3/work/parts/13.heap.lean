/-! heaps: the small machine's against the real one's -/
section GpHeap
def gp_ek (k : Nat) : Nat := match k with
  | 101 => 1
  | 103 => 2
  | 104 => 2
  | _ => 0
def gp_et (k : Nat) : FieldType := match k with
  | 101 => .long
  | 102 => .byte
  | 103 => .object "GatheredPoints$Table"
  | 104 => .array .int
  | _ => .int
/-- a place's value by its kind -/
def gp_fv (h : gH) (k a f : Nat) : gV := match k with
  | 1 => gp_l (gp_L h a f)
  | 2 => gp_r (gp_R h a f)
  | _ => gp_i (gp_I h a f)
/-- int[][] has its class -/
def gp_AA (U : State) : Prop := (Cond.arrayOver (.array .int)).before #[] U = true
theorem gp_AA.moved {u U : State} (hvm : u.vm.Alike U.vm) (h : gp_AA u) : gp_AA U := by
  obtain ⟨comp, c, k, h1, h2, h3, h4, h5⟩ := arrayOverA_spec h
  obtain ⟨k', hk', he⟩ := hvm.2.2 _ _ h3
  have q1 := va_idx_bare U.vm comp
  have q2 := va_idx_bare u.vm comp
  have q3 : U.vm.bare = u.vm.bare := by first | exact hvm.bare_eq | exact hvm.bare_eq.symm
  rw [q3] at q1
  have hi : (U.vm.classes.findIdx? fun (x : Class) => match x.kind with | .array component _ => component == comp | _ => false) = some c := q1.symm.trans (q2.trans h2)
  have hkind : k'.kind = .array comp (.array .int) := by rw [he]; exact h4
  have f1 : U.vm.findClass (FieldType.array FieldType.int).toString = some comp := by rw [hvm.findClass]; exact h1
  have f2 : U.vm.findClass ("[" ++ (FieldType.array FieldType.int).toString) = some c := by rw [hvm.findClass]; exact h5
  unfold gp_AA Cond.before Cond.holds
  simp only [Cond.value]
  rw [f1, Option.bind_some]
  refine (congrArg (fun o : Option Nat => (o.bind (fun c => (U.vm.classes[c]?).map fun (k : Class) => match k.kind with | .array _ ty => decide (ty = FieldType.array FieldType.int) && decide (U.vm.findClass ("[" ++ (FieldType.array FieldType.int).toString) = some c) | _ => false) == some true)) hi).trans ?_
  simp [hk', hkind, f2]
def gp_K (D : va_G) (U : State) : Prop := (∀ c, c < 13 → u_Kn U (gp_cn c) (gp_T c) (gp_N c) (D.1 c) (D.2 c)) ∧ (∀ w ∈ gp_nw, va_Nw w U) ∧ va_AO "GatheredPoints$Table" U ∧ gp_AA U
def gp_cO (D : va_G) (b b0 : Nat) (H : Heap) (h : gH) (a c : Nat) : Prop := ∃ cell : Cell, H[gp_ad b b0 a]? = some cell ∧ cell.cls = D.1 c ∧ cell.vm = .none ∧ ∀ k, k < gp_N c → ∃ v, cell.slots[D.2 c k]? = some v ∧ gp_vr b b0 v (gp_fv h (gp_fk (gp_ty c k)) a k)
def gp_cA (b b0 : Nat) (U : State) (H : Heap) (h : gH) (a k : Nat) : Prop := ∃ (cA : ClassId) (z : Nat → Value), ArrOfT U cA (gp_et k) ∧ va_RA U cA (gp_et k) ∧ H[gp_ad b b0 a]? = some (arrV cA (gp_sh h a).2 z) ∧ ∀ j, j < (gp_sh h a).2 → gp_vr b b0 (z j) (gp_fv h (gp_ek k) a j)
def gp_cS (b b0 : Nat) (U : State) (H : Heap) (h : gH) (a : Nat) : Prop := ∃ cell : Cell, H[gp_ad b b0 a]? = some cell ∧ U.isArrayOf cell .int ∧ cell.vm ≠ .unknown ∧ cell.slots.size = (gp_sh h a).2 ∧ ∀ j, j < (gp_sh h a).2 → ∃ v, cell.slots[j]? = some v ∧ gp_vr b b0 v (gp_i (gp_I h a j))
def gp_rh (D : va_G) (b b0 : Nat) (U : State) (H : Heap) (h : gH) : Prop := b < b0 ∧ 1 ≤ gp_sz h ∧ H.size + 1 = b0 + gp_sz h ∧
  (∀ a c, c < 13 → (gp_sh h a).1 = c → 1 ≤ a ∧ gp_cO D b b0 H h a c) ∧ (∀ a k, 100 ≤ k → k ≤ 104 → (gp_sh h a).1 = k → 1 ≤ a ∧ gp_cA b b0 U H h a k) ∧ ∀ a, (gp_sh h a).1 = 105 → gp_cS b b0 U H h a
theorem gp_ad_ge {b b0 a : Nat} (h : 1 ≤ a) : b0 ≤ gp_ad b b0 a := by
  cases a with
  | zero => omega
  | succ a => exact Nat.le_add_right _ _
theorem gp_cO.kept {D : va_G} {b b0 : Nat} {H H' : Heap} {h h' : gH} {a c : Nat} (q : gp_cO D b b0 H h a c) (e : H'[gp_ad b b0 a]? = H[gp_ad b b0 a]?) (f : ∀ k j, gp_fv h' k a j = gp_fv h k a j) : gp_cO D b b0 H' h' a c := by
  obtain ⟨cell, q1, q2, q3, q4⟩ := q
  exact ⟨cell, by rw [e]; exact q1, q2, q3, fun k hk => by rw [f]; exact q4 k hk⟩
theorem gp_cA.kept {b b0 : Nat} {U : State} {H H' : Heap} {h h' : gH} {a k : Nat} (q : gp_cA b b0 U H h a k) (e : H'[gp_ad b b0 a]? = H[gp_ad b b0 a]?) (f : ∀ k j, gp_fv h' k a j = gp_fv h k a j) (g : gp_sh h' a = gp_sh h a) : gp_cA b b0 U H' h' a k := by
  obtain ⟨cA, z, q1, q2, q3, q4⟩ := q
  exact ⟨cA, z, q1, q2, by rw [e, g]; exact q3, fun j hj => by rw [f]; exact q4 j (by rw [← g]; exact hj)⟩
theorem gp_cS.kept {b b0 : Nat} {U : State} {H H' : Heap} {h h' : gH} {a : Nat} (q : gp_cS b b0 U H h a) (e : H'[gp_ad b b0 a]? = H[gp_ad b b0 a]?) (f : ∀ k j, gp_fv h' k a j = gp_fv h k a j) (g : gp_sh h' a = gp_sh h a) : gp_cS b b0 U H' h' a := by
  obtain ⟨cell, q1, q2, q3, q4, q5⟩ := q
  refine ⟨cell, by rw [e]; exact q1, q2, q3, by rw [g]; exact q4, fun j hj => ?_⟩
  have := f 0 j
  unfold gp_fv at this
  simp only at this
  rw [this]
  exact q5 j (by rw [← g]; exact hj)
theorem gp_rh.moved {D : va_G} {b b0 : Nat} {U U' : State} {H : Heap} {h : gH} (q : gp_rh D b b0 U H h) (hv : U.vm.Alike U'.vm) : gp_rh D b b0 U' H h := by
  obtain ⟨q1, q2, q3, q4, q5, q6⟩ := q
  refine ⟨q1, q2, q3, q4, fun a k h1 h2 h3 => ?_, fun a h3 => ?_⟩
  · obtain ⟨p1, cA, z, p2, p3, p4⟩ := q5 a k h1 h2 h3
    exact ⟨p1, cA, z, arrOfT_moved hv p2, p3.moved hv, p4⟩
  · obtain ⟨cell, p1, p2, p3⟩ := q6 a h3
    exact ⟨cell, p1, State.isArrayOf_alike hv p2, p3⟩
theorem gp_nw_mem {w : Cond} (h : w ∈ gp_nw) : ∃ a i x g, w = .methodLinkNest a i x g := by
  obtain ⟨-, h2⟩ := List.mem_filter.mp h
  unfold gp_isN at h2
  split at h2
  · exact ⟨_, _, _, _, rfl⟩
  · cases h2
theorem gp_K.moved {D : va_G} {s U : State} (q : gp_K D s) (hW : s.WarmedH U.vm) : gp_K D U := by
  refine ⟨fun c hc => u_Kn_moved hW.alike (q.1 c hc), fun w hw => ?_, q.2.2.1.moved hW.alike, q.2.2.2.moved hW.alike⟩
  obtain ⟨a, i, x, g, rfl⟩ := gp_nw_mem hw
  exact va_Nw.warmM hW (q.2.1 _ hw)
theorem gp_K.same {D : va_G} {s U : State} (q : gp_K D s) (hv : s.vm = U.vm) : gp_K D U := by
  have ha : s.vm.Alike U.vm := by rw [hv]; exact Vm.Alike.refl _
  refine ⟨fun c hc => u_Kn_moved ha (q.1 c hc), fun w hw => ?_, q.2.2.1.moved ha, q.2.2.2.moved ha⟩
  obtain ⟨a, i, x, g, rfl⟩ := gp_nw_mem hw
  exact va_Nw.same rfl hv (q.2.1 _ hw)
/-- a place anew, by its kind -/
def gp_w (h : gH) (k a f : Nat) (w : gV) : gH := match w with
  | .inl x => gp_wI h a f x
  | .inr (.inl x) => gp_wL h a f x
  | .inr (.inr (some x)) => gp_wR h a f x
  | .inr (.inr none) => h
theorem gp_u2_self {α : Type} (f : Nat → Nat → α) (a i : Nat) (v : α) : gp_u2 f a i v a i = v := by simp [gp_u2]
theorem gp_u2_ne {α : Type} (f : Nat → Nat → α) {a i a' i' : Nat} (v : α) (h : ¬ (a' = a ∧ i' = i)) : gp_u2 f a i v a' i' = f a' i' := by
  unfold gp_u2
  cases e : (Nat.beq a' a && Nat.beq i' i)
  · rfl
  · rw [Bool.and_eq_true] at e
    exact absurd ⟨Nat.eq_of_beq_eq_true e.1, Nat.eq_of_beq_eq_true e.2⟩ h
theorem gp_u1_self {α : Type} (f : Nat → α) (a : Nat) (v : α) : gp_u1 f a v a = v := by simp [gp_u1]
theorem gp_u1_ne {α : Type} (f : Nat → α) {a a' : Nat} (v : α) (h : ¬ a' = a) : gp_u1 f a v a' = f a' := by
  unfold gp_u1
  cases e : Nat.beq a' a
  · rfl
  · exact absurd (Nat.eq_of_beq_eq_true e) h
theorem gp_ur_self {α : Type} (f : Nat → Nat → α) (a : Nat) (g : Nat → α) (i : Nat) : gp_ur f a g a i = g i := by simp [gp_ur]
theorem gp_ur_ne {α : Type} (f : Nat → Nat → α) {a a' : Nat} (g : Nat → α) (h : ¬ a' = a) (i : Nat) : gp_ur f a g a' i = f a' i := by
  unfold gp_ur
  cases e : Nat.beq a' a
  · rfl
  · exact absurd (Nat.eq_of_beq_eq_true e) h
theorem gp_fv_ne (h : gH) (k a f : Nat) (w : gV) (k' a' f' : Nat) (hn : ¬ (a' = a ∧ f' = f)) : gp_fv (gp_w h k a f w) k' a' f' = gp_fv h k' a' f' := by
  unfold gp_w gp_fv
  rcases w with x | x | _ | x <;> split <;> simp only [gp_I, gp_L, gp_R, gp_wI, gp_wL, gp_wR, gp_u2_ne _ _ hn]
/-- the value is of the kind -/
def gp_wk (k : Nat) (w : gV) : Prop := match w with
  | .inl _ => k ≠ 1 ∧ k ≠ 2
  | .inr (.inl _) => k = 1
  | .inr (.inr (some _)) => k = 2
  | .inr (.inr none) => False
theorem gp_fv_self (h : gH) (k a f : Nat) (w : gV) (hk : gp_wk k w) : gp_fv (gp_w h k a f w) k a f = w := by
  unfold gp_w gp_fv
  rcases w with x | x | _ | x
  · obtain ⟨h1, h2⟩ := hk
    split <;> first | (exact absurd rfl h1) | (exact absurd rfl h2) | skip
    simp only [gp_I, gp_wI, gp_u2_self]
  · cases hk; simp only [gp_L, gp_wL, gp_u2_self]
  · exact hk.elim
  · cases hk; simp only [gp_R, gp_wR, gp_u2_self]
theorem gp_w_sh (h : gH) (k a f : Nat) (w : gV) : gp_sh (gp_w h k a f w) = gp_sh h ∧ gp_sz (gp_w h k a f w) = gp_sz h ∧ gp_us (gp_w h k a f w) = gp_us h := by
  unfold gp_w
  rcases w with x | x | _ | x <;> exact ⟨rfl, rfl, rfl⟩
/-- a cell is written: the others stay -/
theorem gp_rh.put {D : va_G} {b b0 : Nat} {U : State} {H H' : Heap} {h : gH} (q : gp_rh D b b0 U H h) {k a f : Nat} {w : gV} (hs : H'.size = H.size) (ho : ∀ x, x ≠ gp_ad b b0 a → H'[x]? = H[x]?)
    (hO : ∀ c, c < 13 → (gp_sh h a).1 = c → gp_cO D b b0 H' (gp_w h k a f w) a c) (hA : ∀ c, 100 ≤ c → c ≤ 104 → (gp_sh h a).1 = c → gp_cA b b0 U H' (gp_w h k a f w) a c) (hS : (gp_sh h a).1 ≠ 105) : gp_rh D b b0 U H' (gp_w h k a f w) := by
  obtain ⟨q1, q2, q3, q4, q5, q6⟩ := q
  obtain ⟨w1, w2, w3⟩ := gp_w_sh h k a f w
  have other : ∀ a', a' ≠ a → H'[gp_ad b b0 a']? = H[gp_ad b b0 a']? ∧ ∀ k' j, gp_fv (gp_w h k a f w) k' a' j = gp_fv h k' a' j := fun a' n => ⟨ho _ (fun e => n (gp_ad_inj q1 e)), fun k' j => gp_fv_ne h k a f w k' a' j (fun e => n e.1)⟩
  refine ⟨q1, by rw [w2]; exact q2, by rw [hs, w2]; exact q3, fun a' c h1 h2 => ?_, fun a' c h1 h2 h3 => ?_, fun a' h1 => ?_⟩
  · rw [w1] at h2
    by_cases e : a' = a
    · subst e; exact ⟨(q4 a' c h1 h2).1, hO c h1 h2⟩
    · exact ⟨(q4 a' c h1 h2).1, (q4 a' c h1 h2).2.kept (other a' e).1 (other a' e).2⟩
  · rw [w1] at h3
    by_cases e : a' = a
    · subst e; exact ⟨(q5 a' c h1 h2 h3).1, hA c h1 h2 h3⟩
    · exact ⟨(q5 a' c h1 h2 h3).1, (q5 a' c h1 h2 h3).2.kept (other a' e).1 (other a' e).2 (by rw [w1])⟩
  · rw [w1] at h1
    by_cases e : a' = a
    · subst e; exact absurd h1 hS
    · exact (q6 a' h1).kept (other a' e).1 (other a' e).2 (by rw [w1])
theorem gp_rh.lt {D : va_G} {b b0 : Nat} {U : State} {H : Heap} {h : gH} (q : gp_rh D b b0 U H h) : gp_ad b b0 (gp_sz h) = H.size := by
  obtain ⟨q1, q2, q3, -⟩ := q
  cases e : gp_sz h with
  | zero => omega
  | succ n => show b0 + n = _; omega
theorem gp_fv_new (h : gH) (k n k' a' f' : Nat) (hn : ¬ a' = h.1) : gp_fv (gp_new h k n) k' a' f' = gp_fv h k' a' f' := by
  unfold gp_fv
  split <;> simp only [gp_I, gp_L, gp_R, gp_ur_ne _ _ hn]
/-- a new cell comes -/
theorem gp_rh.born {D : va_G} {b b0 : Nat} {U : State} {H H' : Heap} {h : gH} (q : gp_rh D b b0 U H h) {k n : Nat} (hk : k < 13 ∨ 100 ≤ k ∧ k ≤ 104) (hs : H'.size = H.size + 1) (ho : ∀ x, x < H.size → H'[x]? = H[x]?)
    (hO : k < 13 → gp_cO D b b0 H' (gp_new h k n) h.1 k) (hA : 100 ≤ k → k ≤ 104 → gp_cA b b0 U H' (gp_new h k n) h.1 k) : gp_rh D b b0 U H' (gp_new h k n) := by
  have hlt := q.lt
  obtain ⟨q1, q2, q3, q4, q5, q6⟩ := q
  have other : ∀ {a' : Nat} {cell : Cell}, H[gp_ad b b0 a']? = some cell → H'[gp_ad b b0 a']? = H[gp_ad b b0 a']? := fun e => ho _ (Array.getElem?_eq_some_iff.mp e).1
  have shN : ∀ a', ¬ a' = h.1 → gp_sh (gp_new h k n) a' = gp_sh h a' := fun a' e => gp_u1_ne _ _ e
  have shS : gp_sh (gp_new h k n) h.1 = (k, n) := gp_u1_self _ _ _
  have h1 : 1 ≤ h.1 := q2
  refine ⟨q1, Nat.le_add_left _ _, by show _ = b0 + (h.1 + 1); have : gp_sz h = h.1 := rfl; omega, fun a' c g1 g2 => ?_, fun a' c g1 g2 g3 => ?_, fun a' g1 => ?_⟩
  · by_cases e : a' = h.1
    · subst e
      rw [shS] at g2
      have g2 : k = c := g2
      subst g2
      exact ⟨h1, hO g1⟩
    · rw [shN a' e] at g2
      obtain ⟨p1, cell, p2⟩ := q4 a' c g1 g2
      exact ⟨p1, gp_cO.kept ⟨cell, p2⟩ (other p2.1) (fun k' j => gp_fv_new h k n k' a' j e)⟩
  · by_cases e : a' = h.1
    · subst e
      rw [shS] at g3
      have g3 : k = c := g3
      subst g3
      exact ⟨h1, hA g1 g2⟩
    · rw [shN a' e] at g3
      obtain ⟨p1, cA, z, p2⟩ := q5 a' c g1 g2 g3
      exact ⟨p1, gp_cA.kept ⟨cA, z, p2⟩ (other p2.2.2.1) (fun k' j => gp_fv_new h k n k' a' j e) (shN a' e)⟩
  · by_cases e : a' = h.1
    · subst e
      rw [shS] at g1
      have g1 : k = 105 := g1
      omega
    · rw [shN a' e] at g1
      obtain ⟨cell, p2⟩ := q6 a' g1
      exact gp_cS.kept ⟨cell, p2⟩ (other p2.1) (fun k' j => gp_fv_new h k n k' a' j e) (shN a' e)
end GpHeap
