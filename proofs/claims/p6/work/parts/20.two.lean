/-! one step of the small machine, walked -/
section GpTwo
variable {p : Program} {l : Launch} {e : Env} {R : Room} {s : State} {m : MethodId} {args : Array Value} {below : List Frame} {meth : Method} {c : Code} {Q : State → Prop} {D : va_G} {b b0 nL : Nat} {h0 : gH} {pc : Nat} {ls st : List gV} {h : gH}
/-- what holds all the way through a method's body -/
def gp_Cx (p : Program) (R : Room) (s : State) (m : MethodId) (args : Array Value) (meth : Method) (c : Code) (D : va_G) (y : Nat) : Prop :=
  p.tables.exec = Jvm.exec ∧ c.code = gp_by y ∧ c.maxLocals = gp_ml y ∧ s.vm.findClass (gp_cn (y / 256)) = some m.cls ∧ (∀ w ∈ gp_tt, w.before args s = true) ∧ gp_K D s ∧ ((gp_mn y).name = "<init>" → meth.name = "<init>") ∧ 1 ≤ R.frames ∧ 100 ≤ R.locals
theorem gp_lkF_spec {y i : Nat} {x : Nat × Nat × Nat} (q : gp_lkF (y / 256) i = some x) : x.2.1 < 13 ∧ x.2.2 < gp_N x.2.1 ∧ x.1 = gp_fk (gp_ty x.2.1 x.2.2) ∧ Cond.fieldLink (gp_cn (y / 256)) i (gp_cn x.2.1) (gp_T x.2.1 x.2.2).2.1 (gp_T x.2.1 x.2.2).2.2.1 ∈ gp_tt := by
  unfold gp_lkF at q
  obtain ⟨q1, q2⟩ := gp_cond_none q
  rw [Bool.and_eq_true] at q1
  have hi := Nat.blt_eq.mp q1.2
  have ck := gp_okF q2
  unfold gp_ckF at ck
  simp only [Bool.and_eq_true, decide_eq_true_eq] at ck
  rw [show (y / 256 * 1024 + i) / 1024 = y / 256 by omega, show (y / 256 * 1024 + i) % 1024 = i by omega] at ck
  exact ⟨Nat.blt_eq.mp ck.1.1.1, Nat.blt_eq.mp ck.1.1.2, ck.1.2, gp_has_in ck.2⟩
theorem gp_lkK_spec {y i : Nat} {v : Int} (q : gp_lkK (y / 256) i = some v) : -2147483648 ≤ v ∧ v < 2147483648 ∧ Cond.constant (gp_cn (y / 256)) i (Int32.ofInt v) ∈ gp_tt := by
  unfold gp_lkK at q
  obtain ⟨q1, q2⟩ := gp_cond_none q
  rw [Bool.and_eq_true] at q1
  have hi := Nat.blt_eq.mp q1.2
  have ck := gp_okK q2
  unfold gp_ckK at ck
  simp only [Bool.and_eq_true, decide_eq_true_eq] at ck
  rw [show (y / 256 * 1024 + i) / 1024 = y / 256 by omega, show (y / 256 * 1024 + i) % 1024 = i by omega] at ck
  exact ⟨ck.1.1, ck.1.2, gp_has_in ck.2⟩
theorem gp_lkJ_spec {y i : Nat} {v : Int} (q : gp_lkJ (y / 256) i = some v) : Cond.constantLong (gp_cn (y / 256)) i (Int64.ofInt v) ∈ gp_tt := by
  unfold gp_lkJ at q
  obtain ⟨q1, q2⟩ := gp_cond_none q
  rw [Bool.and_eq_true] at q1
  have hi := Nat.blt_eq.mp q1.2
  have ck := gp_okJ q2
  unfold gp_ckJ at ck
  rw [show (y / 256 * 1024 + i) / 1024 = y / 256 by omega, show (y / 256 * 1024 + i) % 1024 = i by omega] at ck
  exact gp_has_in ck
theorem gp_lkC_spec {y i : Nat} {x : Nat × Nat} (q : gp_lkC (y / 256) i = some x) : x.1 < 13 ∧ x.2 = gp_N x.1 ∧ Cond.classLink (gp_cn (y / 256)) i (gp_cn x.1) ∈ gp_tt ∧ Cond.instantiable (gp_cn x.1) (gp_N x.1) ∈ gp_tt ∧ Cond.initialized (gp_cn x.1) ∈ gp_tt := by
  unfold gp_lkC at q
  obtain ⟨q1, q2⟩ := gp_cond_none q
  rw [Bool.and_eq_true] at q1
  have hi := Nat.blt_eq.mp q1.2
  have ck := gp_okC q2
  unfold gp_ckC at ck
  simp only [Bool.and_eq_true, decide_eq_true_eq] at ck
  rw [show (y / 256 * 1024 + i) / 1024 = y / 256 by omega, show (y / 256 * 1024 + i) % 1024 = i by omega] at ck
  exact ⟨Nat.blt_eq.mp ck.1.1.1.1, ck.1.1.1.2, gp_has_in ck.1.1.2, gp_has_in ck.1.2, gp_has_in ck.2⟩
theorem gp_lkM_spec {y i : Nat} {x : Nat × Nat × Nat × Nat} (q : gp_lkM (y / 256) i = some x) : gp_ckM (y / 256 * 1024 + i) x = true ∧ (y / 256 * 1024 + i) / 1024 = y / 256 ∧ (y / 256 * 1024 + i) % 1024 = i := by
  unfold gp_lkM at q
  obtain ⟨q1, q2⟩ := gp_cond_none q
  rw [Bool.and_eq_true] at q1
  have hi := Nat.blt_eq.mp q1.2
  exact ⟨gp_okM q2, by omega, by omega⟩
theorem gp_ic_true {k : ClassFile.Cond} {x y : Int} (h : gp_ic k x y = true) : (match k with | .eq => x = y | .ne => ¬ x = y | .lt => x < y | .ge => ¬ x < y | .gt => y < x | .le => ¬ y < x) := by
  unfold gp_ic at h
  cases k <;> simpa using h
theorem gp_ic_false {k : ClassFile.Cond} {x y : Int} (h : gp_ic k x y = false) : (match k with | .eq => ¬ x = y | .ne => x = y | .lt => ¬ x < y | .ge => x < y | .gt => ¬ y < x | .le => y < x) := by
  unfold gp_ic at h
  cases k <;> simpa using h
theorem gp_mth_inv {f : Int → Int → Int} {pc' : Nat} {ls' st' : List gV} {h' : gH} (q : gp_mth f pc ls st h = some (.inl (pc', ls', st', h'))) : ∃ x y r, st = gp_i y :: gp_i x :: r ∧ gp_cat r ≤ 8 ∧ pc' = pc + 3 ∧ ls' = ls ∧ st' = gp_i (f x y) :: r ∧ h' = h := by
  unfold gp_mth at q
  split at q
  · obtain ⟨h1, q⟩ := gp_if_none q
    obtain ⟨rfl, rfl, rfl, rfl⟩ := gp_next_inj q
    exact ⟨_, _, _, rfl, h1, rfl, rfl, rfl, rfl⟩
  · cases q
/-- Math.max, Math.min -/
theorem gp_sMth {f : Int → Int → Int} {F : Int32 → Int32 → Int32} {x y : Int} {r : List gV} (hr : gp_cat r ≤ 8) (row : ∀ {H : Heap} {locs : List Loc} {cells slots : Nat} {lsR : Array Slot} {x y : Int32} {rest : List Value}, c.maxLocals = lsR.size → (rest.map fun v => v.category).sum + 13 ≤ R.locals → cells ≤ R.cells → slots ≤ R.slots → W p l e R s m args below meth c H locs cells slots Q (F0 m (pc + 3) lsR (.int (F x y) :: rest)) → W p l e R s m args below meth c H locs cells slots Q (F0 m pc lsR (.int y :: .int x :: rest)))
    (hml : c.maxLocals = nL) (hlo : 100 ≤ R.locals) (hR : gp_sz h ≤ R.cells + gp_sz h0 ∧ gp_us h ≤ R.slots + gp_us h0) (hf : ∀ x y : Int32, (F x y).toInt = f x.toInt y.toInt) (k : gp_WW p l e R s m args below meth c Q D b b0 nL h0 (pc + 3) ls (gp_i (f x y) :: r) h) : gp_WW p l e R s m args below meth c Q D b b0 nL h0 pc ls (gp_i y :: gp_i x :: r) h := by
  intro H locs cells slots lsR stR a1 a2 a3 a4 a5 a6
  match stR, a3 with
  | _ :: _ :: stR, ⟨⟨y2, hy1, hy2⟩, ⟨x2, hx1, hx2⟩, a3⟩ =>
    subst hy1 hx1
    have := gp_sr_cat a3
    exact row (by rw [hml, a2.2.1]) (by omega) (by omega) (by omega) (k _ _ _ _ _ _ a1 a2 ⟨⟨_, rfl, by rw [hf, hx2, hy2]⟩, a3⟩ a4 a5 a6)
  | [_], ⟨_, a3⟩ => exact a3.elim
theorem gp_mxI (x y : Int32) : (if x < y then y else x).toInt = gp_mx x.toInt y.toInt := by
  unfold gp_mx
  by_cases h : x < y
  · rw [if_pos h, if_pos (Int32.lt_iff_toInt_lt.mp h)]
  · rw [if_neg h, if_neg (fun z => h (Int32.lt_iff_toInt_lt.mpr z))]
theorem gp_miI (x y : Int32) : (if y < x then y else x).toInt = gp_mi x.toInt y.toInt := by
  unfold gp_mi
  by_cases h : y < x
  · rw [if_pos h, if_pos (Int32.lt_iff_toInt_lt.mp h)]
  · rw [if_neg h, if_neg (fun z => h (Int32.lt_iff_toInt_lt.mpr z))]
theorem gp_abI (x : Int32) : (if 0 ≤ x then x else 0 - x).toInt = gp_ab x.toInt := by
  unfold gp_ab
  have z0 : (0 : Int32).toInt = 0 := rfl
  by_cases h : 0 ≤ x
  · rw [if_pos h, if_pos (by have := Int32.le_iff_toInt_le.mp h; omega)]
  · rw [if_neg h, if_neg (fun z => h (Int32.le_iff_toInt_le.mpr (by omega))), gp_subI, z0]
    congr 1; omega
theorem gp_sBr {k1 k2 : Prop} {x : Int} {r : List gV} {tgt : Nat} (row : ∀ {H : Heap} {locs : List Loc} {cells slots : Nat} {lsR : Array Slot} {x' : Int32} {rest : List Value}, x'.toInt = x → (k1 → W p l e R s m args below meth c H locs cells slots Q (F0 m tgt lsR rest)) → (k2 → W p l e R s m args below meth c H locs cells slots Q (F0 m (pc + 3) lsR rest)) → W p l e R s m args below meth c H locs cells slots Q (F0 m pc lsR (.int x' :: rest)))
    (kt : k1 → gp_WW p l e R s m args below meth c Q D b b0 nL h0 tgt ls r h) (kf : k2 → gp_WW p l e R s m args below meth c Q D b b0 nL h0 (pc + 3) ls r h) : gp_WW p l e R s m args below meth c Q D b b0 nL h0 pc ls (gp_i x :: r) h := by
  intro H locs cells slots lsR stR a1 a2 a3 a4 a5 a6
  match stR, a3 with
  | _ :: stR, ⟨⟨y2, hy1, hy2⟩, a3⟩ =>
    subst hy1
    exact row hy2 (fun q => kt q _ _ _ _ _ _ a1 a2 a3 a4 a5 a6) (fun q => kf q _ _ _ _ _ _ a1 a2 a3 a4 a5 a6)
theorem gp_sBr2 {k1 k2 : Prop} {x y : Int} {r : List gV} {tgt : Nat} (row : ∀ {H : Heap} {locs : List Loc} {cells slots : Nat} {lsR : Array Slot} {x' y' : Int32} {rest : List Value}, x'.toInt = x → y'.toInt = y → (k1 → W p l e R s m args below meth c H locs cells slots Q (F0 m tgt lsR rest)) → (k2 → W p l e R s m args below meth c H locs cells slots Q (F0 m (pc + 3) lsR rest)) → W p l e R s m args below meth c H locs cells slots Q (F0 m pc lsR (.int y' :: .int x' :: rest)))
    (kt : k1 → gp_WW p l e R s m args below meth c Q D b b0 nL h0 tgt ls r h) (kf : k2 → gp_WW p l e R s m args below meth c Q D b b0 nL h0 (pc + 3) ls r h) : gp_WW p l e R s m args below meth c Q D b b0 nL h0 pc ls (gp_i y :: gp_i x :: r) h := by
  intro H locs cells slots lsR stR a1 a2 a3 a4 a5 a6
  match stR, a3 with
  | _ :: _ :: stR, ⟨⟨y2, hy1, hy2⟩, ⟨x2, hx1, hx2⟩, a3⟩ =>
    subst hy1 hx1
    exact row hx2 hy2 (fun q => kt q _ _ _ _ _ _ a1 a2 a3 a4 a5 a6) (fun q => kf q _ _ _ _ _ _ a1 a2 a3 a4 a5 a6)
  | [_], ⟨_, a3⟩ => exact a3.elim
theorem gp_e0 {x' : Int32} {x : Int} (h : x'.toInt = x) : (x' = 0 ↔ x = 0) ∧ (x' < 0 ↔ x < 0) ∧ (0 < x' ↔ 0 < x) ∧ (0 ≤ x' ↔ ¬ x < 0) ∧ (x' ≤ 0 ↔ ¬ 0 < x) := by
  have z0 : (0 : Int32).toInt = 0 := rfl
  subst h
  refine ⟨by rw [← Int32.toInt_inj, z0], by rw [Int32.lt_iff_toInt_lt, z0], by rw [Int32.lt_iff_toInt_lt, z0], by rw [Int32.le_iff_toInt_le, z0]; omega, by rw [Int32.le_iff_toInt_le, z0]; omega⟩
theorem gp_e2 {x' y' : Int32} {x y : Int} (h : x'.toInt = x) (g : y'.toInt = y) : (x' = y' ↔ x = y) ∧ (x' < y' ↔ x < y) ∧ (y' < x' ↔ y < x) ∧ (y' ≤ x' ↔ ¬ x < y) ∧ (x' ≤ y' ↔ ¬ y < x) := by
  subst h g
  refine ⟨by rw [← Int32.toInt_inj], by rw [Int32.lt_iff_toInt_lt], by rw [Int32.lt_iff_toInt_lt], by rw [Int32.le_iff_toInt_le]; omega, by rw [Int32.le_iff_toInt_le]; omega⟩
end GpTwo
