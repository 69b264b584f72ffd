section GpAcp
variable {p : Program} {l : Launch} {e : Env} {R : Room} {s : State} {m : MethodId} {args : Array Value} {below : List Frame} {meth : Method} {c : Code} {Q : State → Prop} {D : va_G} {b b0 nL : Nat} {h0 : gH} {cc : ByteArray} {pc : Nat} {ls st : List gV} {h : gH}
theorem gp_fv_ur (h : gH) (a : Nat) (g : Nat → Int) (k' a' f' : Nat) (hn : ¬ a' = a) : gp_fv (h.1, h.2.1, h.2.2.1, gp_ur h.2.2.2.1 a g, h.2.2.2.2.1, h.2.2.2.2.2) k' a' f' = gp_fv h k' a' f' := by
  unfold gp_fv
  split <;> simp only [gp_I, gp_L, gp_R, gp_ur_ne _ _ hn]
theorem gp_sAcp (hx : p.tables.exec = Jvm.exec) (hb : c.code = cc) (hml : c.maxLocals = nL) {own : String} {i : Nat} (hown : s.vm.findClass own = some m.cls) (hlink : (Cond.methodLink own i arraycopyName).before args s = true) (hnat : (Cond.native arraycopyName).before args s = true) (hstat : (Cond.static arraycopyName).before args s = true) (hini : (Cond.initialized "java/lang/System").before args s = true)
    (hd : decode cc pc = .ok (.invokestatic i, 3)) (hfr : 1 ≤ R.frames) (hlo : 8 + (nativeFrameWords "java/lang/System" "arraycopy" 5 + 11) ≤ R.locals) {n q pp : Int} {d o : Nat} {r : List gV} (hr : gp_cat r ≤ 8)
    (hc : (gp_sh h o).1 = 100 ∧ (gp_sh h d).1 = 100 ∧ 0 ≤ n ∧ 0 ≤ pp ∧ 0 ≤ q ∧ pp + n ≤ ((gp_sh h o).2 : Int) ∧ q + n ≤ ((gp_sh h d).2 : Int))
    (kk : gp_WW p l e R s m args below meth c Q D b b0 nL h0 (pc + 3) ls r (h.1, h.2.1, h.2.2.1, gp_ur h.2.2.2.1 d (gp_cp h.2.2.2.1 o pp.toNat d q.toNat n.toNat), h.2.2.2.2.1, h.2.2.2.2.2)) : gp_WW p l e R s m args below meth c Q D b b0 nL h0 pc ls (gp_i n :: gp_i q :: gp_r (some d) :: gp_i pp :: gp_r (some o) :: r) h := by
  intro H locs cells slots lsR stR a1 a2 a3 a4 a5 a6
  match stR, a3 with
  | _ :: _ :: _ :: _ :: _ :: stR, ⟨⟨n2, n3, n4⟩, ⟨q2, q3, q4⟩, d2, ⟨p2, p3, p4⟩, o2, a7⟩ =>
    cases d2; cases o2
    subst n3 q3 p3
    obtain ⟨c1, c2, c3, c4, c5, c6, c7⟩ := hc
    obtain ⟨o1, cO, zO, zO1, zO2, zO3, zO4⟩ := a1.2.2.2.2.1 o 100 (by omega) (by omega) c1
    obtain ⟨d1, cD, zD, zD1, zD2, zD3, zD4⟩ := a1.2.2.2.2.1 d 100 (by omega) (by omega) c2
    subst n4 q4 p4
    have z0 : (0 : Int32).toInt = 0 := rfl
    have en : n2.toNatClampNeg = n2.toInt.toNat := rfl
    have eq2 : q2.toNatClampNeg = q2.toInt.toNat := rfl
    have ep : p2.toNatClampNeg = p2.toInt.toNat := rfl
    intro T hT X
    obtain ⟨-, k0, hk0, cm0, hkk0⟩ := zO1 (gp_sh h o).2 zO
    obtain ⟨-, k1, hk1, cm1, hkk1⟩ := zD1 (gp_sh h d).2 zD
    obtain ⟨vm', X', step⟩ := X.arraycopy hx hown hlink hnat hstat hini (src := gp_ad b b0 o) (dst := gp_ad b b0 d) (cs := arrV cO (gp_sh h o).2 zO) (cd := arrV cD (gp_sh h d).2 zD) (srcPos := p2) (destPos := q2) (n := n2) (by rw [hT]; exact zO3) (by rw [hT]; exact zD3)
      (fun _ h => by cases h) (fun _ h => by cases h) (fun h => by cases h) (fun h => by cases h) hk0 hk1 hkk0 hkk1 (by simp [gp_et, refKind]) (by rw [Int32.lt_iff_toInt_lt]; omega) (by rw [Int32.lt_iff_toInt_lt]; omega) (by rw [Int32.lt_iff_toInt_lt]; omega)
      (by rw [arrV_size]; omega) (by rw [arrV_size]; omega)
      (fun vm₁ _ x hx => by
        have hlt : p2.toNatClampNeg + x < (gp_sh h o).2 := by omega
        have ev : (arrV cO (gp_sh h o).2 zO).slots.getD (p2.toNatClampNeg + x) .null = zO (p2.toNatClampNeg + x) := by
          rw [Array.getD_eq_getD_getElem?, arrV_read _ _ hlt]; rfl
        obtain ⟨y, y1, -⟩ := zO4 _ hlt
        rw [ev, y1]
        exact ⟨rfl, trivial⟩)
      (g := F0 m pc lsR (.int n2 :: .int q2 :: .ref (gp_ad b b0 d) :: .int p2 :: .ref (gp_ad b b0 o) :: stR)) rfl (by rw [hml]; exact a2.2.1) (rest := stR) rfl (by rw [hb]; exact hd) hfr (by have := gp_sr_cat a7; show 2 * 0 + _ + _ ≤ _; omega)
    have e1 : copied (arrV cO (gp_sh h o).2 zO) (arrV cD (gp_sh h d).2 zD) p2 q2 n2 = arrV cD (gp_sh h d).2 (va_cpy zO zD p2.toNatClampNeg q2.toNatClampNeg n2.toNatClampNeg) := va_copied (fun z => z) cO cD zO zD (by omega)
    rw [e1] at X' step
    have hlt : gp_ad b b0 d < H.size := (Array.getElem?_eq_some_iff.mp zD3).1
    have hheap : ((T.setVm vm').setCell (gp_ad b b0 d) (arrV cD (gp_sh h d).2 (va_cpy zO zD p2.toNatClampNeg q2.toNatClampNeg n2.toNatClampNeg))).heap = H.setIfInBounds (gp_ad b b0 d) (arrV cD (gp_sh h d).2 (va_cpy zO zD p2.toNatClampNeg q2.toNatClampNeg n2.toNatClampNeg)) := by rw [← hT]; rfl
    have hrel : gp_rh D b b0 s (H.setIfInBounds (gp_ad b b0 d) (arrV cD (gp_sh h d).2 (va_cpy zO zD p2.toNatClampNeg q2.toNatClampNeg n2.toNatClampNeg))) (h.1, h.2.1, h.2.2.1, gp_ur h.2.2.2.1 d (gp_cp h.2.2.2.1 o p2.toInt.toNat d q2.toInt.toNat n2.toInt.toNat), h.2.2.2.2.1, h.2.2.2.2.2) := by
      obtain ⟨r1, r2, r3, r4, r5, r6⟩ := a1
      have oq : ∀ a', a' ≠ d → (H.setIfInBounds (gp_ad b b0 d) (arrV cD (gp_sh h d).2 (va_cpy zO zD p2.toNatClampNeg q2.toNatClampNeg n2.toNatClampNeg)))[gp_ad b b0 a']? = H[gp_ad b b0 a']? := fun a' hn => by
        have : gp_ad b b0 d ≠ gp_ad b b0 a' := fun z => hn (gp_ad_inj r1 z).symm
        simp [Array.getElem?_setIfInBounds, this]
      refine ⟨r1, r2, by simpa using r3, fun a' c' g1 g2 => ?_, fun a' c' g1 g2 g3 => ?_, fun a' g1 => ?_⟩
      · have hn : a' ≠ d := fun z => by subst z; have : (gp_sh h a').1 = c' := g2; omega
        obtain ⟨p1, pq⟩ := r4 a' c' g1 g2
        exact ⟨p1, pq.kept (oq a' hn) (fun k' j => gp_fv_ur h d _ k' a' j hn)⟩
      · by_cases hn : a' = d
        · subst hn
          have e2 : c' = 100 := g3.symm.trans c2
          subst e2
          refine ⟨d1, cD, va_cpy zO zD p2.toNatClampNeg q2.toNatClampNeg n2.toNatClampNeg, zD1, zD2, (show (H.setIfInBounds (gp_ad b b0 a') (arrV cD (gp_sh h a').2 (va_cpy zO zD p2.toNatClampNeg q2.toNatClampNeg n2.toNatClampNeg)))[gp_ad b b0 a']? = some (arrV cD (gp_sh h a').2 (va_cpy zO zD p2.toNatClampNeg q2.toNatClampNeg n2.toNatClampNeg)) by rw [Array.getElem?_setIfInBounds, if_pos rfl, if_pos hlt]), fun j hj => ?_⟩
          have hj : j < (gp_sh h a').2 := hj
          show gp_vr b b0 (va_cpy zO zD p2.toNatClampNeg q2.toNatClampNeg n2.toNatClampNeg j) (gp_i (gp_ur h.2.2.2.1 a' (gp_cp h.2.2.2.1 o p2.toInt.toNat a' q2.toInt.toNat n2.toInt.toNat) a' j))
          rw [gp_ur_self]
          unfold va_cpy gp_cp
          rw [en, eq2, ep]
          by_cases hr : q2.toInt.toNat ≤ j ∧ j < q2.toInt.toNat + n2.toInt.toNat
          · rw [if_pos hr, Nat.ble_eq.mpr hr.1, Nat.blt_eq.mpr hr.2]
            exact zO4 _ (by omega)
          · rw [if_neg hr]
            have : (Nat.ble q2.toInt.toNat j && Nat.blt j (q2.toInt.toNat + n2.toInt.toNat)) = false := by
              cases z : (Nat.ble q2.toInt.toNat j && Nat.blt j (q2.toInt.toNat + n2.toInt.toNat)) with
              | false => rfl
              | true => rw [Bool.and_eq_true] at z; exact absurd ⟨Nat.ble_eq.mp z.1, Nat.blt_eq.mp z.2⟩ hr
            rw [this]
            exact zD4 _ hj
        · obtain ⟨p1, pq⟩ := r5 a' c' g1 g2 g3
          exact ⟨p1, pq.kept (oq a' hn) (fun k' j => gp_fv_ur h d _ k' a' j hn) rfl⟩
      · have hn : a' ≠ d := fun z => by subst z; have : (gp_sh h a').1 = 105 := g1; omega
        exact (r6 a' g1).kept (oq a' hn) (fun k' j => gp_fv_ur h d _ k' a' j hn) rfl
    have hlocs : ∀ x ∈ locs ++ ((arrV cO (gp_sh h o).2 zO).stretch p2.toNatClampNeg n2.toNatClampNeg).zipIdx.map (fun q => (⟨gp_ad b b0 d, q2.toNatClampNeg + q.2⟩ : Loc)), b0 ≤ x.base := by
      intro x hx
      rcases List.mem_append.mp hx with z | z
      · exact a4 x z
      · obtain ⟨u, -, hu⟩ := List.mem_map.mp z
        rw [← hu]
        exact gp_ad_ge d1
    obtain ⟨t, t1, t2⟩ := kk _ _ cells slots lsR stR hrel a2 a7 hlocs a5 a6 _ hheap X'
    exact ⟨t, step t t1, t2⟩
  | [_], ⟨_, a3⟩ => exact a3.elim
  | [_, _], ⟨_, _, a3⟩ => exact a3.elim
  | [_, _, _], ⟨_, _, _, a3⟩ => exact a3.elim
  | [_, _, _, _], ⟨_, _, _, _, a3⟩ => exact a3.elim
/-- a jump -/
theorem gp_sJmp {off : Int} {pc' : Nat} {ls' st' : List gV} {h' : gH} (q : gp_jmp pc off ls st h = some (.inl (pc', ls', st', h'))) : (pc : Int) + off = (pc' : Int) ∧ ls' = ls ∧ st' = st ∧ h' = h := by
  unfold gp_jmp at q
  obtain ⟨h1, q⟩ := gp_cond_none q
  obtain ⟨rfl, rfl, rfl, rfl⟩ := gp_next_inj q
  refine ⟨?_, rfl, rfl, rfl⟩
  rw [decide_eq_true_eq] at h1
  unfold gp_to
  omega
end GpAcp
