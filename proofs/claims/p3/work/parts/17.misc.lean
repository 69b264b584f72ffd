/-- (out of claim/NAMES.whole.lean.txt) -/
theorem gp_outer (c : ClassId) (N h0 : Nat) : ∀ i : Nat, Jvm.Free.Multi.outerC c N h0 i = arrV c N (fun j => va_rf (if j < i then some (h0 + 1 + j) else none))
  | 0 => by
    show ({ cls := c, slots := Array.replicate N .null, vm := .none } : Cell) = _
    rw [arrV_new]
    refine congrArg (arrV c N) (funext fun j => ?_)
    simp [va_rf]
  | i + 1 => by
    show (Jvm.Free.Multi.outerC c N h0 i).setSlot i (.ref (h0 + 1 + i)) = _
    rw [gp_outer c N h0 i, arrV_store]
    refine congrArg (arrV c N) (funext fun j => ?_)
    by_cases e : j = i
    · subst e
      simp [updV, va_rf]
    · by_cases h : j < i
      · simp [updV, e, h, Nat.lt_succ_of_lt h]
      · simp [updV, e, h, show ¬ j < i + 1 by omega]
section GpMisc
variable {p : Program} {l : Launch} {e : Env} {R : Room} {s : State} {m : MethodId} {args : Array Value} {below : List Frame} {meth : Method} {c : Code} {Q : State → Prop} {D : va_G} {b b0 nL : Nat} {h0 : gH} {cc : ByteArray} {pc : Nat} {ls st : List gV} {h : gH}
theorem gp_mna_sh (h : gH) (n k a : Nat) : gp_sh (gp_mna h n k) a = if a = h.1 then (104, n) else if h.1 < a ∧ a ≤ h.1 + n then (100, k) else gp_sh h a := by
  show cond (Nat.beq a h.1) (104, n) (cond (Nat.blt h.1 a && Nat.ble a (h.1 + n)) (100, k) (h.2.2.1 a)) = _
  by_cases e : a = h.1
  · subst e; simp
  · rw [if_neg e]
    have e1 : Nat.beq a h.1 = false := by cases q : Nat.beq a h.1 with
      | false => rfl
      | true => exact absurd (Nat.eq_of_beq_eq_true q) e
    rw [e1]
    by_cases f : h.1 < a ∧ a ≤ h.1 + n
    · rw [if_pos f]
      have f1 : Nat.blt h.1 a = true := Nat.blt_eq.mpr f.1
      have f2 : Nat.ble a (h.1 + n) = true := Nat.ble_eq.mpr f.2
      rw [f1, f2]; rfl
    · rw [if_neg f]
      have f1 : (Nat.blt h.1 a && Nat.ble a (h.1 + n)) = false := by
        cases q : (Nat.blt h.1 a && Nat.ble a (h.1 + n)) with
        | false => rfl
        | true => rw [Bool.and_eq_true] at q; exact absurd ⟨Nat.blt_eq.mp q.1, Nat.ble_eq.mp q.2⟩ f
      rw [f1]; rfl
theorem gp_mna_fv (h : gH) (n k k' a f : Nat) (ha : ¬ (h.1 ≤ a ∧ a ≤ h.1 + n)) : gp_fv (gp_mna h n k) k' a f = gp_fv h k' a f := by
  have e0 : (Nat.ble h.1 a && Nat.ble a (h.1 + n)) = false := by
    cases q : (Nat.ble h.1 a && Nat.ble a (h.1 + n)) with
    | false => rfl
    | true => rw [Bool.and_eq_true] at q; exact absurd ⟨Nat.ble_eq.mp q.1, Nat.ble_eq.mp q.2⟩ ha
  have e1 : Nat.beq a h.1 = false := by
    cases q : Nat.beq a h.1 with
    | false => rfl
    | true => exact absurd (Nat.eq_of_beq_eq_true q) (fun z => ha ⟨by omega, by omega⟩)
  have e2 : (Nat.blt h.1 a && Nat.ble a (h.1 + n)) = false := by
    cases q : (Nat.blt h.1 a && Nat.ble a (h.1 + n)) with
    | false => rfl
    | true => rw [Bool.and_eq_true] at q; exact absurd ⟨by have := Nat.blt_eq.mp q.1; omega, Nat.ble_eq.mp q.2⟩ ha
  unfold gp_fv
  split
  · show gp_l (cond (Nat.ble h.1 a && Nat.ble a (h.1 + n)) 0#64 (h.2.2.2.2.1 a f)) = _
    rw [e0]; rfl
  · show gp_r (cond (Nat.beq a h.1) (cond (Nat.blt f n) (some (h.1 + 1 + f)) none) (cond (Nat.blt h.1 a && Nat.ble a (h.1 + n)) none (h.2.2.2.2.2 a f))) = _
    rw [e1, e2]; rfl
  · show gp_i (cond (Nat.ble h.1 a && Nat.ble a (h.1 + n)) 0 (h.2.2.2.1 a f)) = _
    rw [e0]; rfl
theorem gp_sMna (hx : p.tables.exec = Jvm.exec) (hb : c.code = cc) {own : String} {i : Nat} (hown : s.vm.findClass own = some m.cls) (hlink : (Cond.classLink own i "[[I").before args s = true) (hover : (Cond.arrayOver (.array .int)).before args s = true) (harr : (Cond.arrayClass .int).before args s = true)
    (hd : decode cc pc = .ok (.multianewarray i 2, 4)) {n k : Int} {r : List gV} (hn : 0 ≤ n ∧ n ≤ 1000) (hk : 0 ≤ k ∧ k ≤ 1000) (hR : gp_sz h + (1 + n.toNat) ≤ R.cells + gp_sz h0 ∧ gp_us h + (n.toNat + n.toNat * k.toNat) ≤ R.slots + gp_us h0) (kk : gp_WW p l e R s m args below meth c Q D b b0 nL h0 (pc + 4) ls (gp_r (some h.1) :: r) (gp_mna h n.toNat k.toNat)) : gp_WW p l e R s m args below meth c Q D b b0 nL h0 pc ls (gp_i k :: gp_i n :: r) h := by
  intro H locs cells slots lsR stR a1 a2 a3 a4 a5 a6
  match stR, a3 with
  | v :: v' :: stR, ⟨⟨k2, hk1, hk2⟩, ⟨n2, hn1, hn2⟩, a7⟩ =>
    subst hk1
    subst hn1
    subst hk2
    subst hn2
    have hlt : gp_ad b b0 h.1 = H.size := a1.lt
    have en : n2.toNatClampNeg = n2.toInt.toNat := rfl
    have ek : k2.toNatClampNeg = k2.toInt.toNat := rfl
    have z0 : (0 : Int32).toInt = 0 := rfl
    have hcb : componentBytes .int = 4 := by decide
    intro T hT X
    obtain ⟨vm₁, cA, comp, -, fA, fC, hO, hI, X', step⟩ := X.multianewarray2F hx hown (ty := .int) hlink hover harr (g := F0 m pc lsR (.int k2 :: .int n2 :: stR)) rfl (by rw [hb]; exact hd) rfl (by rw [Int32.lt_iff_toInt_lt]; omega) (by rw [Int32.lt_iff_toInt_lt]; omega) (by omega) (by rw [hcb]; omega) (by omega) rfl rfl (by rw [en]; omega) (by rw [en, ek]; omega)
    have hTh : (T.setVm vm₁).heap = H := hT
    obtain ⟨f1, f2, -, -⟩ := Jvm.Free.Multi.fill_facts (T.setVm vm₁) cA comp n2.toNatClampNeg k2.toNatClampNeg (defaultValue .int) n2.toNatClampNeg
    have hold := fun x hx => Jvm.Free.Multi.fill_old (T.setVm vm₁) cA comp n2.toNatClampNeg k2.toNatClampNeg (defaultValue .int) (a := x) hx n2.toNatClampNeg
    have hrow := fun j hj => Jvm.Free.Multi.fill_inner (T.setVm vm₁) cA comp n2.toNatClampNeg k2.toNatClampNeg (defaultValue .int) n2.toNatClampNeg j hj
    generalize Jvm.Free.Multi.fill (T.setVm vm₁) cA comp n2.toNatClampNeg k2.toNatClampNeg (defaultValue .int) n2.toNatClampNeg = F at X' step f1 f2 hold hrow
    rw [hTh] at f1 f2 hold hrow
    rw [gp_outer] at f2
    have other : ∀ {a' : Nat} {cell : Cell}, H[gp_ad b b0 a']? = some cell → F.heap[gp_ad b b0 a']? = H[gp_ad b b0 a']? ∧ ¬ (h.1 ≤ a' ∧ a' ≤ h.1 + n2.toInt.toNat) := fun {a' cell} z => by
      have z1 := (Array.getElem?_eq_some_iff.mp z).1
      refine ⟨hold _ z1, fun z2 => ?_⟩
      rw [← hlt] at z1
      revert z1
      unfold gp_ad
      have := a1.2.1
      have q : gp_sz h = h.1 := rfl
      split <;> split <;> omega
    have hsz : gp_sz (gp_mna h n2.toInt.toNat k2.toInt.toNat) = h.1 + (1 + n2.toInt.toNat) := rfl
    have q1 : gp_sz h = h.1 := rfl
    have q2 : gp_us h = h.2.1 := rfl
    have hrel : gp_rh D b b0 s F.heap (gp_mna h n2.toInt.toNat k2.toInt.toNat) := by
      have a1' := a1
      obtain ⟨r1, r2, r3, r4, r5, r6⟩ := a1'
      refine ⟨r1, by rw [hsz]; omega, by rw [hsz]; omega, fun a' c' g1 g2 => ?_, fun a' c' g1 g2 g3 => ?_, fun a' g1 => ?_⟩
      · rw [gp_mna_sh] at g2
        split at g2
        · simp at g2; omega
        · split at g2
          · simp at g2; omega
          · obtain ⟨p1, cell, p2⟩ := r4 a' c' g1 g2
            exact ⟨p1, gp_cO.kept ⟨cell, p2⟩ (other p2.1).1 (fun k' j => gp_mna_fv h _ _ k' a' j (other p2.1).2)⟩
      · have g3' := g3
        rw [gp_mna_sh] at g3
        split at g3
        · rename_i ea
          subst ea
          have : c' = 104 := by simpa using g3.symm
          subst this
          have hs : gp_sh (gp_mna h n2.toInt.toNat k2.toInt.toNat) h.1 = (104, n2.toInt.toNat) := by rw [gp_mna_sh, if_pos rfl]
          refine ⟨by omega, cA, _, fun n z => ⟨(by intro k q; cases q), ((hO 0 0 0).1).2⟩, fA, by rw [hs, hlt]; exact f2, fun j hj => ?_⟩
          rw [hs] at hj
          have hj : j < n2.toInt.toNat := hj
          have er : gp_fv (gp_mna h n2.toInt.toNat k2.toInt.toNat) (gp_ek 104) h.1 j = gp_r (some (h.1 + 1 + j)) := by
            show gp_r (cond (Nat.beq h.1 h.1) (cond (Nat.blt j n2.toInt.toNat) (some (h.1 + 1 + j)) none) _) = _
            rw [Nat.beq_refl, Nat.blt_eq.mpr hj]; rfl
          rw [er, en, if_pos hj]
          show Value.ref (H.size + 1 + j) = .ref (gp_ad b b0 (h.1 + 1 + j))
          rw [← hlt]
          obtain ⟨w, hw⟩ : ∃ w, h.1 = w + 1 := ⟨h.1 - 1, by omega⟩
          rw [hw]
          show Value.ref (b0 + w + 1 + j) = .ref (gp_ad b b0 (w + 1 + 1 + j))
          rw [show w + 1 + 1 + j = (w + 1 + j) + 1 by omega]
          show Value.ref (b0 + w + 1 + j) = .ref (b0 + (w + 1 + j))
          rw [show b0 + w + 1 + j = b0 + (w + 1 + j) by omega]
        · rename_i ea
          split at g3
          · rename_i eb
            have : c' = 100 := by simpa using g3.symm
            subst this
            have hs : gp_sh (gp_mna h n2.toInt.toNat k2.toInt.toNat) a' = (100, k2.toInt.toNat) := by rw [gp_mna_sh, if_neg ea, if_pos eb]
            have hr2 := hrow (a' - h.1 - 1) (by omega)
            have ead : H.size + 1 + (a' - h.1 - 1) = gp_ad b b0 a' := by
              rw [← hlt]
              obtain ⟨w, hw⟩ : ∃ w, h.1 = w + 1 := ⟨h.1 - 1, by omega⟩
              obtain ⟨u, hu⟩ : ∃ u, a' = u + 1 := ⟨a' - 1, by omega⟩
              rw [hw, hu]
              show b0 + w + 1 + _ = b0 + u
              omega
            rw [ead] at hr2
            refine ⟨by omega, comp, (fun _ => defaultValue .int), fun n z => ⟨(by intro k q; cases q), ((hI 0 .null).1).2⟩, fC, by rw [hs, hr2]; exact congrArg some (arrV_new _ _ _), fun j hj => ?_⟩
            have er : gp_fv (gp_mna h n2.toInt.toNat k2.toInt.toNat) (gp_ek 100) a' j = gp_i 0 := by
              show gp_i (cond (Nat.ble h.1 a' && Nat.ble a' (h.1 + n2.toInt.toNat)) 0 _) = _
              rw [Nat.ble_eq.mpr (Nat.le_of_lt eb.1), Nat.ble_eq.mpr eb.2]; rfl
            rw [er]
            exact ⟨0, rfl, rfl⟩
          · obtain ⟨p1, cA', z, p2⟩ := r5 a' c' g1 g2 g3
            exact ⟨p1, gp_cA.kept ⟨cA', z, p2⟩ (other p2.2.2.1).1 (fun k' j => gp_mna_fv h _ _ k' a' j (other p2.2.2.1).2) (by rw [gp_mna_sh, if_neg ea, if_neg (by assumption)])⟩
      · rw [gp_mna_sh] at g1
        split at g1
        · simp at g1
        · split at g1
          · simp at g1
          · obtain ⟨cell, p2⟩ := r6 a' g1
            exact gp_cS.kept ⟨cell, p2⟩ (other p2.1).1 (fun k' j => gp_mna_fv h _ _ k' a' j (other p2.1).2) (by rw [gp_mna_sh, if_neg (by assumption), if_neg (by assumption)])
    obtain ⟨t, t1, t2⟩ := kk F.heap locs (cells + 1 + n2.toNatClampNeg) (slots + n2.toNatClampNeg + n2.toNatClampNeg * k2.toNatClampNeg) lsR (.ref (gp_ad b b0 h.1) :: stR) hrel a2 ⟨rfl, a7⟩ a4 (by rw [hsz, en]; omega) (by show _ = h.2.1 + (n2.toInt.toNat + n2.toInt.toNat * k2.toInt.toNat); rw [en, ek]; omega) F rfl X'
    exact ⟨t, step t (by rw [hT, ← hlt]; exact t1), t2⟩
  | [_], ⟨_, a3⟩ => exact a3.elim
end GpMisc
