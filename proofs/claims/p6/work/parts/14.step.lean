/-! one instruction: the small machine's step, walked by the real one -/
section GpStep
variable {p : Program} {l : Launch} {e : Env} {R : Room} {s : State} {m : MethodId} {args : Array Value} {below : List Frame} {meth : Method} {c : Code} {Q : State → Prop} {D : va_G} {b b0 nL : Nat} {h0 : gH} {cc : ByteArray} {pc : Nat} {ls st : List gV} {h : gH}
def gp_WW (p : Program) (l : Launch) (e : Env) (R : Room) (s : State) (m : MethodId) (args : Array Value) (below : List Frame) (meth : Method) (c : Code) (Q : State → Prop) (D : va_G) (b b0 nL : Nat) (h0 : gH) (pc : Nat) (ls st : List gV) (h : gH) : Prop :=
  ∀ (H : Heap) (locs : List Loc) (cells slots : Nat) (lsR : Array Slot) (stR : List Value), gp_rh D b b0 s H h → gp_lr b b0 nL lsR ls → gp_sr b b0 stR st → (∀ q ∈ locs, b0 ≤ q.base) → cells + gp_sz h0 = gp_sz h → slots + gp_us h0 = gp_us h → W p l e R s m args below meth c H locs cells slots Q (F0 m pc lsR stR)
theorem gp_next_inj {pc pc' : Nat} {ls ls' st st' : List gV} {h h' : gH} (q : gp_next pc ls st h = some (.inl (pc', ls', st', h'))) : pc = pc' ∧ ls = ls' ∧ st = st' ∧ h = h' := by
  cases q; exact ⟨rfl, rfl, rfl, rfl⟩
theorem gp_if_none {α : Type} {C : Prop} [Decidable C] {x : Option α} {y : α} (q : (if C then x else none) = some y) : C ∧ x = some y := by
  by_cases hc : C
  · rw [if_pos hc] at q; exact ⟨hc, q⟩
  · rw [if_neg hc] at q; cases q
section
variable {pc' : Nat} {ls' st' : List gV} {h' : gH}
theorem gp_sLoadI {i n : Nat} (row : ∀ {H : Heap} {locs : List Loc} {cells slots : Nat} {lsR : Array Slot} {x : Int32} {rest : List Value}, lsR[i]? = some (.val (.int x)) → W p l e R s m args below meth c H locs cells slots Q (F0 m (pc + n) lsR (.int x :: rest)) → W p l e R s m args below meth c H locs cells slots Q (F0 m pc lsR rest))
    (q : gp_loadI i n pc ls st h = some (.inl (pc', ls', st', h'))) (k : gp_WW p l e R s m args below meth c Q D b b0 nL h0 pc' ls' st' h') : gp_WW p l e R s m args below meth c Q D b b0 nL h0 pc ls st h := by
  unfold gp_loadI at q
  split at q
  · rename_i v hv
    obtain ⟨rfl, rfl, rfl, rfl⟩ := gp_next_inj q
    intro H locs cells slots lsR stR a1 a2 a3 a4 a5 a6
    obtain ⟨w, w1, x, rfl, w2⟩ := gp_lr_load a2 hv (by intro z; cases z)
    exact row w1 (k _ _ _ _ _ _ a1 a2 ⟨⟨x, rfl, w2⟩, a3⟩ a4 a5 a6)
  · cases q
theorem gp_sLoadL {i n : Nat} (row : ∀ {H : Heap} {locs : List Loc} {cells slots : Nat} {lsR : Array Slot} {x : Int64} {rest : List Value}, lsR[i]? = some (.val (.long x)) → W p l e R s m args below meth c H locs cells slots Q (F0 m (pc + n) lsR (.long x :: rest)) → W p l e R s m args below meth c H locs cells slots Q (F0 m pc lsR rest))
    (q : gp_loadL i n pc ls st h = some (.inl (pc', ls', st', h'))) (k : gp_WW p l e R s m args below meth c Q D b b0 nL h0 pc' ls' st' h') : gp_WW p l e R s m args below meth c Q D b b0 nL h0 pc ls st h := by
  unfold gp_loadL at q
  split at q
  · rename_i v hv
    obtain ⟨rfl, rfl, rfl, rfl⟩ := gp_next_inj q
    intro H locs cells slots lsR stR a1 a2 a3 a4 a5 a6
    obtain ⟨w, w1, x, rfl, w2⟩ := gp_lr_load a2 hv (by intro z; cases z)
    exact row w1 (k _ _ _ _ _ _ a1 a2 ⟨⟨x, rfl, w2⟩, a3⟩ a4 a5 a6)
  · cases q
theorem gp_sLoadA {i n : Nat} (row : ∀ {H : Heap} {locs : List Loc} {cells slots : Nat} {lsR : Array Slot} {x : Nat} {rest : List Value}, lsR[i]? = some (.val (.ref x)) → W p l e R s m args below meth c H locs cells slots Q (F0 m (pc + n) lsR (.ref x :: rest)) → W p l e R s m args below meth c H locs cells slots Q (F0 m pc lsR rest))
    (rowN : ∀ {H : Heap} {locs : List Loc} {cells slots : Nat} {lsR : Array Slot} {rest : List Value}, lsR[i]? = some (.val .null) → W p l e R s m args below meth c H locs cells slots Q (F0 m (pc + n) lsR (.null :: rest)) → W p l e R s m args below meth c H locs cells slots Q (F0 m pc lsR rest))
    (q : gp_loadA i n pc ls st h = some (.inl (pc', ls', st', h'))) (k : gp_WW p l e R s m args below meth c Q D b b0 nL h0 pc' ls' st' h') : gp_WW p l e R s m args below meth c Q D b b0 nL h0 pc ls st h := by
  unfold gp_loadA at q
  split at q
  · rename_i v hv
    obtain ⟨rfl, rfl, rfl, rfl⟩ := gp_next_inj q
    intro H locs cells slots lsR stR a1 a2 a3 a4 a5 a6
    obtain ⟨w, w1, w2⟩ := gp_lr_load a2 hv (by intro z; cases z)
    cases v with
    | none =>
      have w2 : w = .null := w2
      subst w2
      exact rowN w1 (k _ _ _ _ _ _ a1 a2 ⟨rfl, a3⟩ a4 a5 a6)
    | some a =>
      have w2 : w = .ref (gp_ad b b0 a) := w2
      subst w2
      exact row w1 (k _ _ _ _ _ _ a1 a2 ⟨rfl, a3⟩ a4 a5 a6)
  · cases q
/-- a store of one slot: the row gives locals that hold it -/
theorem gp_sStoreI {i n : Nat} (row : ∀ {H : Heap} {locs : List Loc} {cells slots : Nat} {lsR : Array Slot} {x : Int32} {rest : List Value} {lv : List (Nat × Value)}, lv_has lsR lsR.size lv → i < lsR.size → (∀ ls2 : Array Slot, lv_has ls2 lsR.size ((i, Value.int x) :: lv.filter (fun q => !(q.1 == i) && !(q.1 + 1 == i && q.2.category == 2))) → W p l e R s m args below meth c H locs cells slots Q (F0 m (pc + n) ls2 rest)) → W p l e R s m args below meth c H locs cells slots Q (F0 m pc lsR (.int x :: rest)))
    (q : gp_storeI i n pc ls st h = some (.inl (pc', ls', st', h'))) (k : gp_WW p l e R s m args below meth c Q D b b0 nL h0 pc' ls' st' h') : gp_WW p l e R s m args below meth c Q D b b0 nL h0 pc ls st h := by
  unfold gp_storeI at q
  split at q
  · obtain ⟨ho, q⟩ := gp_cond_none q
    obtain ⟨rfl, rfl, rfl, rfl⟩ := gp_next_inj q
    intro H locs cells slots lsR stR a1 a2 a3 a4 a5 a6
    match stR, a3 with
    | _ :: stR, ⟨⟨x, rfl, hx⟩, a3⟩ =>
      refine row (gp_lv_has a2.2.2.1) (by rw [a2.2.1, ← a2.1]; exact (gp_oks_spec ho).1) (fun ls2 hl2 => ?_)
      exact k _ _ _ _ _ _ a1 (gp_lr_set1 a2 ho ⟨x, rfl, hx⟩ hl2) a3 a4 a5 a6
  · cases q
theorem gp_sStoreL {i n : Nat} (row : ∀ {H : Heap} {locs : List Loc} {cells slots : Nat} {lsR : Array Slot} {x : Int64} {rest : List Value} {lv : List (Nat × Value)}, lv_has lsR lsR.size lv → i + 1 < lsR.size → (∀ ls2 : Array Slot, lv_has ls2 lsR.size ((i, Value.long x) :: lv.filter (fun q => !(q.1 == i) && (!(q.1 == i + 1) && !(q.1 + 1 == i && q.2.category == 2)))) → W p l e R s m args below meth c H locs cells slots Q (F0 m (pc + n) ls2 rest)) → W p l e R s m args below meth c H locs cells slots Q (F0 m pc lsR (.long x :: rest)))
    (q : gp_storeL i n pc ls st h = some (.inl (pc', ls', st', h'))) (k : gp_WW p l e R s m args below meth c Q D b b0 nL h0 pc' ls' st' h') : gp_WW p l e R s m args below meth c Q D b b0 nL h0 pc ls st h := by
  unfold gp_storeL at q
  split at q
  · obtain ⟨ho, q⟩ := gp_cond_none q
    rw [Bool.and_eq_true] at ho
    obtain ⟨rfl, rfl, rfl, rfl⟩ := gp_next_inj q
    intro H locs cells slots lsR stR a1 a2 a3 a4 a5 a6
    match stR, a3 with
    | _ :: stR, ⟨⟨x, rfl, hx⟩, a3⟩ =>
      refine row (gp_lv_has a2.2.2.1) (by rw [a2.2.1, ← a2.1]; exact Nat.blt_eq.mp ho.2) (fun ls2 hl2 => ?_)
      exact k _ _ _ _ _ _ a1 (gp_lr_set2 a2 ho.1 ⟨x, rfl, hx⟩ hl2) a3 a4 a5 a6
  · cases q
theorem gp_sStoreA {i n : Nat} (row : ∀ {H : Heap} {locs : List Loc} {cells slots : Nat} {lsR : Array Slot} {x : Nat} {rest : List Value} {lv : List (Nat × Value)}, lv_has lsR lsR.size lv → i < lsR.size → (∀ ls2 : Array Slot, lv_has ls2 lsR.size ((i, Value.ref x) :: lv.filter (fun q => !(q.1 == i) && !(q.1 + 1 == i && q.2.category == 2))) → W p l e R s m args below meth c H locs cells slots Q (F0 m (pc + n) ls2 rest)) → W p l e R s m args below meth c H locs cells slots Q (F0 m pc lsR (.ref x :: rest)))
    (rowN : ∀ {H : Heap} {locs : List Loc} {cells slots : Nat} {lsR : Array Slot} {rest : List Value} {lv : List (Nat × Value)}, lv_has lsR lsR.size lv → i < lsR.size → (∀ ls2 : Array Slot, lv_has ls2 lsR.size ((i, Value.null) :: lv.filter (fun q => !(q.1 == i) && !(q.1 + 1 == i && q.2.category == 2))) → W p l e R s m args below meth c H locs cells slots Q (F0 m (pc + n) ls2 rest)) → W p l e R s m args below meth c H locs cells slots Q (F0 m pc lsR (.null :: rest)))
    (q : gp_storeA i n pc ls st h = some (.inl (pc', ls', st', h'))) (k : gp_WW p l e R s m args below meth c Q D b b0 nL h0 pc' ls' st' h') : gp_WW p l e R s m args below meth c Q D b b0 nL h0 pc ls st h := by
  unfold gp_storeA at q
  split at q
  · rename_i v r
    obtain ⟨ho, q⟩ := gp_cond_none q
    obtain ⟨rfl, rfl, rfl, rfl⟩ := gp_next_inj q
    intro H locs cells slots lsR stR a1 a2 a3 a4 a5 a6
    have hi : i < lsR.size := by rw [a2.2.1, ← a2.1]; exact (gp_oks_spec ho).1
    cases v with
    | none =>
      match stR, a3 with
      | _ :: stR, ⟨h1, a3⟩ =>
        cases h1
        exact rowN (gp_lv_has a2.2.2.1) hi (fun ls2 hl2 => k _ _ _ _ _ _ a1 (gp_lr_set1 a2 ho (w := gp_r none) rfl hl2) a3 a4 a5 a6)
    | some a =>
      match stR, a3 with
      | _ :: stR, ⟨h1, a3⟩ =>
        cases h1
        exact row (gp_lv_has a2.2.2.1) hi (fun ls2 hl2 => k _ _ _ _ _ _ a1 (gp_lr_set1 a2 ho (w := gp_r (some a)) rfl hl2) a3 a4 a5 a6)
  · cases q
theorem gp_sIinc {i : Nat} {n : Int} (hx : p.tables.exec = Jvm.exec) (hb : c.code = cc) (hd : decode cc pc = .ok (.iinc i n, 3)) (hn : -2147483648 ≤ n ∧ n < 2147483648) {v : Int} (hv : ls.getD i gp_n = .inl v) (ho : gp_oks ls i = true) (k : gp_WW p l e R s m args below meth c Q D b b0 nL h0 (pc + 3) (ls.set i (gp_i (gp_wr (v + n)))) st h) : gp_WW p l e R s m args below meth c Q D b b0 nL h0 pc ls st h := by
  intro H locs cells slots lsR stR a1 a2 a3 a4 a5 a6
  obtain ⟨w, w1, x, rfl, w2⟩ := gp_lr_load a2 hv (by intro z; cases z)
  obtain ⟨k0, hk0⟩ := List.mem_iff_getElem?.mp (gp_lv_mem.mpr w1)
  refine lv_iinc hx hb hd (gp_lv_has a2.2.2.1) hk0 rfl (by rw [a2.2.1, ← a2.1]; exact (gp_oks_spec ho).1) rfl (fun ls2 hl2 => ?_)
  refine k _ _ _ _ _ _ a1 (gp_lr_set1 a2 ho ⟨_, rfl, ?_⟩ hl2) a3 a4 a5 a6
  rw [gp_addI, gp_ofI, gp_wr_id hn.1 hn.2, w2]
theorem gp_sPush {v : Value} {w : gV} {n : Nat} (row : ∀ {H : Heap} {locs : List Loc} {cells slots : Nat} {lsR : Array Slot} {rest : List Value}, W p l e R s m args below meth c H locs cells slots Q (F0 m (pc + n) lsR (v :: rest)) → W p l e R s m args below meth c H locs cells slots Q (F0 m pc lsR rest)) (hv : gp_vr b b0 v w) (k : gp_WW p l e R s m args below meth c Q D b b0 nL h0 (pc + n) ls (w :: st) h) : gp_WW p l e R s m args below meth c Q D b b0 nL h0 pc ls st h := by
  intro H locs cells slots lsR stR a1 a2 a3 a4 a5 a6
  exact row (k _ _ _ _ _ _ a1 a2 ⟨hv, a3⟩ a4 a5 a6)
theorem gp_sBin {f : Int → Int → Int} {F : Int32 → Int32 → Int32} (row : ∀ {H : Heap} {locs : List Loc} {cells slots : Nat} {lsR : Array Slot} {x y : Int32} {rest : List Value}, W p l e R s m args below meth c H locs cells slots Q (F0 m (pc + 1) lsR (.int (F x y) :: rest)) → W p l e R s m args below meth c H locs cells slots Q (F0 m pc lsR (.int y :: .int x :: rest))) (hf : ∀ x y : Int32, (F x y).toInt = f x.toInt y.toInt)
    (q : gp_bin f pc ls st h = some (.inl (pc', ls', st', h'))) (k : gp_WW p l e R s m args below meth c Q D b b0 nL h0 pc' ls' st' h') : gp_WW p l e R s m args below meth c Q D b b0 nL h0 pc ls st h := by
  unfold gp_bin at q
  split at q
  · obtain ⟨rfl, rfl, rfl, rfl⟩ := gp_next_inj q
    intro H locs cells slots lsR stR a1 a2 a3 a4 a5 a6
    match stR, a3 with
    | _ :: _ :: stR, ⟨⟨y, rfl, hy⟩, ⟨x, rfl, hx⟩, a3⟩ => exact row (k _ _ _ _ _ _ a1 a2 ⟨⟨_, rfl, by rw [hf, hx, hy]⟩, a3⟩ a4 a5 a6)
    | [_], ⟨_, a3⟩ => exact a3.elim
  · cases q
theorem gp_sBinL {f : BitVec 64 → BitVec 64 → BitVec 64} {F : Int64 → Int64 → Int64} (row : ∀ {H : Heap} {locs : List Loc} {cells slots : Nat} {lsR : Array Slot} {x y : Int64} {rest : List Value}, W p l e R s m args below meth c H locs cells slots Q (F0 m (pc + 1) lsR (.long (F x y) :: rest)) → W p l e R s m args below meth c H locs cells slots Q (F0 m pc lsR (.long y :: .long x :: rest))) (hf : ∀ x y : Int64, (F x y).toBitVec = f x.toBitVec y.toBitVec)
    (q : gp_binL f pc ls st h = some (.inl (pc', ls', st', h'))) (k : gp_WW p l e R s m args below meth c Q D b b0 nL h0 pc' ls' st' h') : gp_WW p l e R s m args below meth c Q D b b0 nL h0 pc ls st h := by
  unfold gp_binL at q
  split at q
  · obtain ⟨rfl, rfl, rfl, rfl⟩ := gp_next_inj q
    intro H locs cells slots lsR stR a1 a2 a3 a4 a5 a6
    match stR, a3 with
    | _ :: _ :: stR, ⟨⟨y, rfl, hy⟩, ⟨x, rfl, hx⟩, a3⟩ => exact row (k _ _ _ _ _ _ a1 a2 ⟨⟨_, rfl, by rw [hf, hx, hy]⟩, a3⟩ a4 a5 a6)
    | [_], ⟨_, a3⟩ => exact a3.elim
  · cases q
theorem gp_sShf {f : BitVec 64 → Nat → BitVec 64} {F : Int64 → Int32 → Int64} (row : ∀ {H : Heap} {locs : List Loc} {cells slots : Nat} {lsR : Array Slot} {x : Int64} {y : Int32} {rest : List Value}, W p l e R s m args below meth c H locs cells slots Q (F0 m (pc + 1) lsR (.long (F x y) :: rest)) → W p l e R s m args below meth c H locs cells slots Q (F0 m pc lsR (.int y :: .long x :: rest))) (hf : ∀ (x : Int64) (y : Int32), (F x y).toBitVec = f x.toBitVec (y.toInt % 64).toNat)
    (q : gp_shf f pc ls st h = some (.inl (pc', ls', st', h'))) (k : gp_WW p l e R s m args below meth c Q D b b0 nL h0 pc' ls' st' h') : gp_WW p l e R s m args below meth c Q D b b0 nL h0 pc ls st h := by
  unfold gp_shf at q
  split at q
  · obtain ⟨rfl, rfl, rfl, rfl⟩ := gp_next_inj q
    intro H locs cells slots lsR stR a1 a2 a3 a4 a5 a6
    match stR, a3 with
    | _ :: _ :: stR, ⟨⟨y, rfl, hy⟩, ⟨x, rfl, hx⟩, a3⟩ => exact row (k _ _ _ _ _ _ a1 a2 ⟨⟨_, rfl, by rw [hf, hx, hy]⟩, a3⟩ a4 a5 a6)
    | [_], ⟨_, a3⟩ => exact a3.elim
  · cases q
theorem gp_sUn {f : Int → Int} {F : Int32 → Int32} (row : ∀ {H : Heap} {locs : List Loc} {cells slots : Nat} {lsR : Array Slot} {x : Int32} {rest : List Value}, W p l e R s m args below meth c H locs cells slots Q (F0 m (pc + 1) lsR (.int (F x) :: rest)) → W p l e R s m args below meth c H locs cells slots Q (F0 m pc lsR (.int x :: rest))) (hf : ∀ x : Int32, (F x).toInt = f x.toInt)
    (q : gp_un f pc ls st h = some (.inl (pc', ls', st', h'))) (k : gp_WW p l e R s m args below meth c Q D b b0 nL h0 pc' ls' st' h') : gp_WW p l e R s m args below meth c Q D b b0 nL h0 pc ls st h := by
  unfold gp_un at q
  split at q
  · obtain ⟨rfl, rfl, rfl, rfl⟩ := gp_next_inj q
    intro H locs cells slots lsR stR a1 a2 a3 a4 a5 a6
    match stR, a3 with
    | _ :: stR, ⟨⟨x, rfl, hx⟩, a3⟩ => exact row (k _ _ _ _ _ _ a1 a2 ⟨⟨_, rfl, by rw [hf, hx]⟩, a3⟩ a4 a5 a6)
  · cases q
/-- the top by any row -/
theorem gp_sTop {w w2 : gV} {r : List gV} {n : Nat} (row : ∀ {v : Value}, gp_vr b b0 v w → ∃ v2, gp_vr b b0 v2 w2 ∧ ∀ {H : Heap} {locs : List Loc} {cells slots : Nat} {lsR : Array Slot} {rest : List Value}, W p l e R s m args below meth c H locs cells slots Q (F0 m (pc + n) lsR (v2 :: rest)) → W p l e R s m args below meth c H locs cells slots Q (F0 m pc lsR (v :: rest))) (k : gp_WW p l e R s m args below meth c Q D b b0 nL h0 (pc + n) ls (w2 :: r) h) : gp_WW p l e R s m args below meth c Q D b b0 nL h0 pc ls (w :: r) h := by
  intro H locs cells slots lsR stR a1 a2 a3 a4 a5 a6
  match stR, a3 with
  | v :: stR, ⟨h1, a3⟩ =>
    obtain ⟨v2, hv2, row⟩ := row h1
    exact row (k _ _ _ _ _ _ a1 a2 ⟨hv2, a3⟩ a4 a5 a6)
theorem gp_sTop2 {w wb w2 : gV} {r : List gV} {n : Nat} (row : ∀ {v vb : Value}, gp_vr b b0 v w → gp_vr b b0 vb wb → ∃ v2, gp_vr b b0 v2 w2 ∧ ∀ {H : Heap} {locs : List Loc} {cells slots : Nat} {lsR : Array Slot} {rest : List Value}, W p l e R s m args below meth c H locs cells slots Q (F0 m (pc + n) lsR (v2 :: rest)) → W p l e R s m args below meth c H locs cells slots Q (F0 m pc lsR (v :: vb :: rest))) (k : gp_WW p l e R s m args below meth c Q D b b0 nL h0 (pc + n) ls (w2 :: r) h) : gp_WW p l e R s m args below meth c Q D b b0 nL h0 pc ls (w :: wb :: r) h := by
  intro H locs cells slots lsR stR a1 a2 a3 a4 a5 a6
  match stR, a3 with
  | v :: vb :: stR, ⟨h1, h2, a3⟩ =>
    obtain ⟨v2, hv2, row⟩ := row h1 h2
    exact row (k _ _ _ _ _ _ a1 a2 ⟨hv2, a3⟩ a4 a5 a6)
  | [_], ⟨_, a3⟩ => exact a3.elim
end
end GpStep
