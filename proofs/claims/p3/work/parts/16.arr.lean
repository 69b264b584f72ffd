section GpArr
variable {p : Program} {l : Launch} {e : Env} {R : Room} {s : State} {m : MethodId} {args : Array Value} {below : List Frame} {meth : Method} {c : Code} {Q : State → Prop} {D : va_G} {b b0 nL : Nat} {h0 : gH} {cc : ByteArray} {pc : Nat} {ls st : List gV} {h : gH}
theorem gp_idx {j : Int32} {n : Nat} (h0 : 0 ≤ j.toInt) (h1 : j.toInt < (n : Int)) : ¬ (j < 0 ∨ n ≤ j.toNatClampNeg) ∧ j.toNatClampNeg = j.toInt.toNat ∧ j.toInt.toNat < n := by
  have e : j.toNatClampNeg = j.toInt.toNat := rfl
  refine ⟨?_, e, by omega⟩
  rintro (z | z)
  · rw [Int32.lt_iff_toInt_lt] at z
    have : (0 : Int32).toInt = 0 := rfl
    omega
  · omega
/-- what a row of kind k gives -/
theorem gp_row {H : Heap} (a1 : gp_rh D b b0 s H h) {k o : Nat} {i : Int} (h1 : 100 ≤ k) (h2 : k ≤ 104) (hin : gp_in h k o i) {j : Int32} (hj : j.toInt = i) : ∃ (cA : ClassId) (z : Nat → Value), ArrOfT s cA (gp_et k) ∧ va_RA s cA (gp_et k) ∧ H[gp_ad b b0 o]? = some (arrV cA (gp_sh h o).2 z) ∧
    ¬ (j < 0 ∨ (arrV cA (gp_sh h o).2 z).slots.size ≤ j.toNatClampNeg) ∧ (arrV cA (gp_sh h o).2 z).slots[j.toNatClampNeg]? = some (z i.toNat) ∧ gp_vr b b0 (z i.toNat) (gp_fv h (gp_ek k) o i.toNat) ∧ 1 ≤ o ∧ (∀ x, x < (gp_sh h o).2 → gp_vr b b0 (z x) (gp_fv h (gp_ek k) o x)) ∧ j.toNatClampNeg = i.toNat ∧ i.toNat < (gp_sh h o).2 := by
  obtain ⟨e1, e2, e3⟩ := hin
  obtain ⟨o1, cA, z, z1, z2, z3, z4⟩ := a1.2.2.2.2.1 o k h1 h2 e1
  subst hj
  obtain ⟨i1, i2, i3⟩ := gp_idx e2 e3
  refine ⟨cA, z, z1, z2, z3, by rw [arrV_size]; exact i1, ?_, z4 _ i3, o1, z4, i2, i3⟩
  rw [i2, arrV_read _ _ i3]
theorem gp_sAld {k o : Nat} {i : Int} {r : List gV} (h1 : 100 ≤ k) (h2 : k ≤ 104) (hin : gp_in h k o i)
    (row : ∀ {H : Heap} {locs : List Loc} {cells slots : Nat} {lsR : Array Slot} {rest : List Value} {a : Nat} {cell : Cell} {j : Int32} {v : Value}, H[a]? = some cell → s.isArrayOf cell (gp_et k) → cell.vm ≠ .unknown → ¬ (j < 0 ∨ cell.slots.size ≤ j.toNatClampNeg) → cell.slots[j.toNatClampNeg]? = some v → W p l e R s m args below meth c H locs cells slots Q (F0 m (pc + 1) lsR (v :: rest)) → W p l e R s m args below meth c H locs cells slots Q (F0 m pc lsR (.int j :: .ref a :: rest)))
    (kk : gp_WW p l e R s m args below meth c Q D b b0 nL h0 (pc + 1) ls (gp_fv h (gp_ek k) o i.toNat :: r) h) : gp_WW p l e R s m args below meth c Q D b b0 nL h0 pc ls (gp_i i :: gp_r (some o) :: r) h := by
  intro H locs cells slots lsR stR a1 a2 a3 a4 a5 a6
  match stR, a3 with
  | v :: v' :: stR, ⟨⟨j, hj1, hj⟩, h2', a3⟩ =>
    cases h2'
    subst hj1
    obtain ⟨cA, z, z1, z2, z3, z4, z5, z6, -⟩ := gp_row a1 h1 h2 hin hj
    exact row z3 (z1 _ _) (by intro q; cases q) z4 z5 (kk _ _ _ _ _ _ a1 a2 ⟨z6, a3⟩ a4 a5 a6)
  | [_], ⟨_, a3⟩ => exact a3.elim
theorem gp_sAldS (hx : p.tables.exec = Jvm.exec) (hb : c.code = cc) (hd : decode cc pc = .ok (.iaload, 1)) {o : Nat} {i : Int} {r : List gV} (hin : gp_in h 105 o i) (kk : gp_WW p l e R s m args below meth c Q D b b0 nL h0 (pc + 1) ls (gp_i (gp_I h o i.toNat) :: r) h) : gp_WW p l e R s m args below meth c Q D b b0 nL h0 pc ls (gp_i i :: gp_r (some o) :: r) h := by
  intro H locs cells slots lsR stR a1 a2 a3 a4 a5 a6
  match stR, a3 with
  | v :: v' :: stR, ⟨⟨j, hj1, hj⟩, h2', a7⟩ =>
    cases h2'
    subst hj1
    obtain ⟨e1, e2, e3⟩ := hin
    obtain ⟨cell, z1, z2, z3, z4, z5⟩ := a1.2.2.2.2.2 o e1
    subst hj
    obtain ⟨i1, i2, i3⟩ := gp_idx e2 e3
    obtain ⟨v, v1, v2⟩ := z5 _ i3
    exact W.iald hx hb z1 z2 z3 (by rw [z4]; exact i1) (by rw [i2]; exact v1) rfl rfl hd (kk _ _ _ _ _ _ a1 a2 ⟨v2, a7⟩ a4 a5 a6)
  | [_], ⟨_, a7⟩ => exact a7.elim
/-- a store into a row: vS is what is stored of v -/
theorem gp_sAst {k o : Nat} {i : Int} {r : List gV} {w w2 : gV} (h1 : 100 ≤ k) (h2 : k ≤ 104) (hin : gp_in h k o i) (hw : gp_wk (gp_ek k) w2) (vS : Value → Value) (hvS : ∀ v, gp_vr b b0 v w → gp_vr b b0 (vS v) w2)
    (row : ∀ {H : Heap} {locs : List Loc} {cells slots : Nat} {lsR : Array Slot} {rest : List Value} {a : Nat} {cell : Cell} {j : Int32} {v : Value}, gp_rh D b b0 s H h → gp_vr b b0 v w → H[a]? = some cell → s.isArrayOf cell (gp_et k) → va_RA s cell.cls (gp_et k) → cell.vm = .none → ¬ (j < 0 ∨ cell.slots.size ≤ j.toNatClampNeg) →
      (∀ H' : Heap, H'[a]? = some (cell.setSlot j.toNatClampNeg (vS v)) → H'.size = H.size → (∀ q, q ≠ a → H'[q]? = H[q]?) → W p l e R s m args below meth c H' (locs ++ [⟨a, j.toNatClampNeg⟩]) cells slots Q (F0 m (pc + 1) lsR rest)) → W p l e R s m args below meth c H locs cells slots Q (F0 m pc lsR (v :: .int j :: .ref a :: rest)))
    (kk : gp_WW p l e R s m args below meth c Q D b b0 nL h0 (pc + 1) ls r (gp_w h (gp_ek k) o i.toNat w2)) : gp_WW p l e R s m args below meth c Q D b b0 nL h0 pc ls (w :: gp_i i :: gp_r (some o) :: r) h := by
  intro H locs cells slots lsR stR a1 a2 a3 a4 a5 a6
  match stR, a3 with
  | v :: v' :: v'' :: stR, ⟨hv, ⟨j, hj1, hj⟩, h2', a3⟩ =>
    cases h2'
    subst hj1
    obtain ⟨cA, z, z1, z2, z3, z4, z5, z6, z7, z8, z9, z10⟩ := gp_row a1 h1 h2 hin hj
    refine row a1 hv z3 (z1 _ _) z2 rfl z4 (fun H' e1 e2 e3 => ?_)
    obtain ⟨w1, w2', w3⟩ := gp_w_sh h (gp_ek k) o i.toNat w2
    refine kk _ _ _ _ _ _ (a1.put e2 e3 (fun c' h1' h2' => ?_) (fun c' h1' h2' h3' => ?_) ?_) a2 a3 (fun q' hq' => ?_) (by rw [w2']; exact a5) (by rw [w3]; exact a6)
    · have := hin.1; omega
    · have e : k = c' := hin.1.symm.trans h3'
      subst e
      refine ⟨cA, updV z j.toNatClampNeg (vS v), z1, z2, by rw [w1, e1, arrV_store], fun x hx => ?_⟩
      rw [w1] at hx
      unfold updV
      rw [z9]
      by_cases e : x = i.toNat
      · subst e; rw [if_pos rfl, gp_fv_self _ _ _ _ _ hw]; exact hvS v hv
      · rw [if_neg e, gp_fv_ne _ _ _ _ _ _ _ _ (fun z => e z.2)]; exact z8 x hx
    · have := hin.1; omega
    · rcases List.mem_append.mp hq' with z | z
      · exact a4 q' z
      · rw [List.mem_singleton] at z; subst z; exact gp_ad_ge z7
  | [_], ⟨_, a3⟩ => exact a3.elim
  | [_, _], ⟨_, _, a3⟩ => exact a3.elim
theorem gp_sLen (hx : p.tables.exec = Jvm.exec) (hb : c.code = cc) (hd : decode cc pc = .ok (.arraylength, 1)) {o : Nat} {r : List gV} (ho : 100 ≤ (gp_sh h o).1) (ho2 : (gp_sh h o).1 ≤ 105) (hn : ((gp_sh h o).2 : Int) < 2147483648) (kk : gp_WW p l e R s m args below meth c Q D b b0 nL h0 (pc + 1) ls (gp_i ((gp_sh h o).2 : Int) :: r) h) : gp_WW p l e R s m args below meth c Q D b b0 nL h0 pc ls (gp_r (some o) :: r) h := by
  intro H locs cells slots lsR stR a1 a2 a3 a4 a5 a6
  have e : ∀ n : Nat, (n : Int) < 2147483648 → n.toInt32.toInt = (n : Int) := by
    intro n hn
    show (Int32.ofNat n).toInt = _
    exact Int32.toInt_ofNat_of_lt (by omega)
  match stR, a3 with
  | v :: stR, ⟨h1, a3⟩ =>
    cases h1
    by_cases h5 : (gp_sh h o).1 = 105
    · obtain ⟨cell, z1, z2, z3, z4, z5⟩ := a1.2.2.2.2.2 o h5
      exact W.alen hx hb z1 z2 rfl rfl rfl hd (kk _ _ _ _ _ _ a1 a2 ⟨⟨_, rfl, by rw [z4]; exact e _ hn⟩, a3⟩ a4 a5 a6)
    · obtain ⟨o1, cA, z, z1, z2, z3, z4⟩ := a1.2.2.2.2.1 o _ ho (by omega) rfl
      exact W.alen hx hb z3 (z1 _ _) rfl rfl rfl hd (kk _ _ _ _ _ _ a1 a2 ⟨⟨_, rfl, by rw [arrV_size]; exact e _ hn⟩, a3⟩ a4 a5 a6)
theorem gp_vr_new {ty : FieldType} (ht : gp_tyk ty = true) (h : gH) (q n j : Nat) : gp_vr b b0 (defaultValue ty) (gp_fv (gp_new h q n) (gp_fk ty) h.1 j) := by
  have e1 : gp_I (gp_new h q n) h.1 j = 0 := gp_ur_self (gp_I h) h.1 (fun _ => (0 : Int)) j
  have e2 : gp_L (gp_new h q n) h.1 j = 0#64 := gp_ur_self (gp_L h) h.1 (fun _ => 0#64) j
  have e3 : gp_R (gp_new h q n) h.1 j = none := gp_ur_self (gp_R h) h.1 (fun _ => none) j
  cases ty with
  | int => exact ⟨0, rfl, by rw [e1]; rfl⟩
  | boolean => exact ⟨0, rfl, by rw [e1]; rfl⟩
  | long => exact ⟨0, rfl, by rw [e2]; rfl⟩
  | object _ => show gp_vr b b0 .null (gp_r (gp_R (gp_new h q n) h.1 j)); rw [e3]; rfl
  | array _ => show gp_vr b b0 .null (gp_r (gp_R (gp_new h q n) h.1 j)); rw [e3]; rfl
  | _ => cases ht
theorem gp_sNew (hx : p.tables.exec = Jvm.exec) (hb : c.code = cc) (hts : ∀ w ∈ gp_tt, w.before args s = true) (hK : gp_K D s) {own : String} {i q : Nat} (hown : s.vm.findClass own = some m.cls) (hq : q < 13) (hlink : (Cond.classLink own i (gp_cn q)).before args s = true) (hins : (Cond.instantiable (gp_cn q) (gp_N q)).before args s = true) (hini : (Cond.initialized (gp_cn q)).before args s = true)
    (hd : decode cc pc = .ok (.new i, 3)) (hR : gp_sz h + 1 ≤ R.cells + gp_sz h0 ∧ gp_us h + gp_N q ≤ R.slots + gp_us h0) (kk : gp_WW p l e R s m args below meth c Q D b b0 nL h0 (pc + 3) ls (gp_r (some h.1) :: st) (gp_new h q (gp_N q))) : gp_WW p l e R s m args below meth c Q D b b0 nL h0 pc ls st h := by
  intro H locs cells slots lsR stR a1 a2 a3 a4 a5 a6
  obtain ⟨hS, hfc, -⟩ := hK.1 q hq
  have hlt := a1.lt
  refine W.newcK hx hb hown hlink hins hini rfl hd (by omega) (by omega) hfc rfl (fun H' kC g1 g2 g3 g4 => ?_)
  have hob := u_born (gp_ty q) hts (gp_lays_in hq) (hK.1 q hq) g1 g2 (gp_F2 q hq)
  refine kk _ _ _ _ _ _ (a1.born (Or.inl hq) g3 g4 (fun _ => ?_) (fun z _ => by omega)) a2 ⟨?_, a3⟩ a4 ?_ ?_
  · obtain ⟨cell, o1, o2, o3, o4⟩ := hob
    refine ⟨cell, by rw [show gp_ad b b0 h.1 = H.size from hlt]; exact o1, o2, o3, fun k hk => ⟨_, o4 k hk, ?_⟩⟩
    exact gp_vr_new (gp_F5 q hq k hk) h q _ k
  · show Value.ref H.size = .ref (gp_ad b b0 h.1)
    rw [show gp_ad b b0 h.1 = H.size from hlt]
  · show _ = h.1 + 1
    have : gp_sz h = h.1 := rfl
    omega
  · show _ = h.2.1 + gp_N q
    have : gp_us h = h.2.1 := rfl
    omega
theorem gp_sNewa (hx : p.tables.exec = Jvm.exec) (hb : c.code = cc) {t : ArrayType} {k : Nat} (harr : (Cond.arrayClass (newarray.typeOf t)).before args s = true) (hk : 100 ≤ k ∧ k ≤ 102) (hty : newarray.typeOf t = gp_et k)
    (hd : decode cc pc = .ok (.newarray t, 2)) {n : Int} {r : List gV} (hn : 0 ≤ n ∧ n ≤ 1000000) (hR : gp_sz h + 1 ≤ R.cells + gp_sz h0 ∧ gp_us h + n.toNat ≤ R.slots + gp_us h0) (kk : gp_WW p l e R s m args below meth c Q D b b0 nL h0 (pc + 2) ls (gp_r (some h.1) :: r) (gp_new h k n.toNat)) : gp_WW p l e R s m args below meth c Q D b b0 nL h0 pc ls (gp_i n :: r) h := by
  intro H locs cells slots lsR stR a1 a2 a3 a4 a5 a6
  match stR, a3 with
  | v :: stR, ⟨⟨j, hj1, hj⟩, a7⟩ =>
    subst hj1
    subst hj
    have hlt := a1.lt
    have e : j.toNatClampNeg = j.toInt.toNat := rfl
    have hcb : componentBytes (newarray.typeOf t) ≤ 8 := by cases t <;> decide
    have hmul : j.toInt.toNat * componentBytes (newarray.typeOf t) ≤ 1000000 * 8 := Nat.mul_le_mul (by omega) hcb
    refine va_newaK hx hb harr rfl hd rfl (by rw [Int32.lt_iff_toInt_lt]; have : (0 : Int32).toInt = 0 := rfl; omega) e (by omega) (by omega) (by omega) rfl (fun H' cA g1 g2 g3 g4 g5 => ?_)
    refine kk _ _ _ _ _ _ (a1.born (k := k) (n := j.toInt.toNat) (Or.inr ⟨hk.1, by omega⟩) g2 g3 (fun z => by omega) (fun z1 z2 => ?_)) a2 ⟨?_, a7⟩ a4 ?_ ?_
    · have hs : gp_sh (gp_new h k j.toInt.toNat) h.1 = (k, j.toInt.toNat) := gp_u1_self _ _ _
      refine ⟨cA, (fun _ => defaultValue (newarray.typeOf t)), by rw [← hty]; exact g4, ?_, by rw [hs, show gp_ad b b0 h.1 = H.size from hlt]; exact g1, fun x _ => ?_⟩
      · rw [← hty]
        unfold va_RA
        cases t <;> exact g5
      · rw [hty]
        rcases (show k = 100 ∨ k = 101 ∨ k = 102 by omega) with rfl | rfl | rfl <;> simp only [gp_et, gp_ek, gp_fv, defaultValue, gp_I, gp_L, gp_ur_self] <;> exact ⟨_, rfl, rfl⟩
    · show Value.ref H.size = .ref (gp_ad b b0 h.1)
      rw [show gp_ad b b0 h.1 = H.size from hlt]
    · show _ = h.1 + 1
      have : gp_sz h = h.1 := rfl
      omega
    · show _ = h.2.1 + j.toInt.toNat
      have : gp_us h = h.2.1 := rfl
      omega
theorem gp_sANew (hx : p.tables.exec = Jvm.exec) (hb : c.code = cc) {own : String} {i : Nat} (hown : s.vm.findClass own = some m.cls) (hlink : (Cond.classLink own i "GatheredPoints$Table").before args s = true) (hover : (Cond.arrayOver (.object "GatheredPoints$Table")).before args s = true)
    (hd : decode cc pc = .ok (.anewarray i, 3)) {n : Int} {r : List gV} (hn : 0 ≤ n ∧ n ≤ 1000000) (hR : gp_sz h + 1 ≤ R.cells + gp_sz h0 ∧ gp_us h + n.toNat ≤ R.slots + gp_us h0) (kk : gp_WW p l e R s m args below meth c Q D b b0 nL h0 (pc + 3) ls (gp_r (some h.1) :: r) (gp_new h 103 n.toNat)) : gp_WW p l e R s m args below meth c Q D b b0 nL h0 pc ls (gp_i n :: r) h := by
  intro H locs cells slots lsR stR a1 a2 a3 a4 a5 a6
  match stR, a3 with
  | v :: stR, ⟨⟨j, hj1, hj⟩, a7⟩ =>
    subst hj1
    subst hj
    have hlt := a1.lt
    have e : j.toNatClampNeg = j.toInt.toNat := rfl
    refine W.anew hx hb hown hlink hover rfl hd rfl (by rw [Int32.lt_iff_toInt_lt]; have : (0 : Int32).toInt = 0 := rfl; omega) (by omega) (by omega) (by omega) (fun cA kA comp g1 g2 g3 g4 => ?_)
    rw [arrV_new]
    refine kk _ _ _ _ _ _ (a1.born (k := 103) (n := j.toInt.toNat) (Or.inr ⟨by omega, by omega⟩) (by simp) (fun x hx => by rw [Array.getElem?_push, if_neg (Nat.ne_of_lt hx)]) (fun z => by omega) (fun z1 z2 => ?_)) a2 ⟨?_, a7⟩ a4 ?_ ?_
    · have hs : gp_sh (gp_new h 103 j.toInt.toNat) h.1 = (103, j.toInt.toNat) := gp_u1_self _ _ _
      refine ⟨cA, (fun _ => .null), fun n z => ⟨(by intro k q; cases q), kA, g2, comp, g3⟩, ⟨kA, comp, g2, g3, g4, g1⟩, ?_, fun x _ => ?_⟩
      · rw [hs, show gp_ad b b0 h.1 = H.size from hlt, Array.getElem?_push, if_pos rfl]; rfl
      · simp only [gp_ek, gp_fv, gp_R, gp_ur_self]; rfl
    · show Value.ref H.size = .ref (gp_ad b b0 h.1)
      rw [show gp_ad b b0 h.1 = H.size from hlt]
    · show _ = h.1 + 1
      have : gp_sz h = h.1 := rfl
      omega
    · show _ = h.2.1 + j.toInt.toNat
      have : gp_us h = h.2.1 := rfl
      omega
end GpArr
