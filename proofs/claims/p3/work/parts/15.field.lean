section GpField
variable {p : Program} {l : Launch} {e : Env} {R : Room} {s : State} {m : MethodId} {args : Array Value} {below : List Frame} {meth : Method} {c : Code} {Q : State → Prop} {D : va_G} {b b0 nL : Nat} {h0 : gH} {cc : ByteArray} {pc : Nat} {ls st : List gV} {h : gH}
theorem gp_lays_in {q : Nat} (hq : q < 13) : ∀ w ∈ u_ws (gp_cn q) (gp_T q) (gp_N q), w ∈ gp_tt := by
  intro w hw
  obtain ⟨k, hk, rfl⟩ := List.mem_map.mp hw
  exact gp_has_in (gp_F1 q hq k (List.mem_range.mp hk))
theorem gp_fld (hts : ∀ w ∈ gp_tt, w.before args s = true) (hK : gp_K D s) {q f : Nat} (hq : q < 13) (hf : f < gp_N q) : ∃ (cf : Nat) (kf : Class) (fi : Nat) (fd : Field), s.fieldFound? (gp_cn q) (gp_T q f).2.1 (gp_T q f).2.2.1 = some (cf, kf, fi, fd) ∧ fd.isStatic = false ∧ fd.slot = D.2 q f ∧
    ((gp_T q f).2.2.2 = false → hasFlag fd.accessFlags Acc.final = false) ∧ ((gp_T q f).2.2.2 = true → s.vm.findClass (gp_cn q) = some m.cls → m.cls = cf) ∧ ∀ v, narrow (gp_ty q f) v = v → fits (gp_ty q f) v = true → narrow fd.type v = v ∧ s.fitsSlot (D.1 q) .none fd.slot v = true := by
  obtain ⟨hS, hfc, kC, hkC, hkind⟩ := hK.1 q hq
  obtain ⟨cf, kf, fi, fd, hi, hsl⟩ := hS f hf
  have hown := gp_F4 q hq f hf
  have hl := u_lays hts (gp_lays_in hq) hf
  have hlay := hts _ (gp_lays_in hq _ (u_in_lay hf))
  rw [hown] at hi hl
  have h2 := gp_F2 q hq f hf
  refine ⟨cf, kf, fi, fd, hi, (u_facts hfc hkC hl hi).1, hsl, fun hfin => ?_, fun hfin hm => ?_, fun v hn hv => u_fits hfc hkC hkind hl hi h2 hn hv⟩
  · unfold u_lay at hlay
    rw [if_neg (by rw [hfin]; decide), hown] at hlay
    have hz : ∃ v, narrow (gp_ty q f) v = v ∧ fits (gp_ty q f) v = true := ⟨defaultValue (gp_ty q f), by cases (gp_ty q f) <;> rfl, by cases (gp_ty q f) <;> rfl⟩
    obtain ⟨v, z1, z2⟩ := hz
    exact (u_store hfc hkC hkind hlay hi h2 z1 z2).1
  · unfold u_lay at hlay
    rw [if_pos hfin, hown] at hlay
    exact laid_decl hm hlay hi
theorem gp_apart (hts : ∀ w ∈ gp_tt, w.before args s = true) (hK : gp_K D s) {q : Nat} (hq : q < 13) : ∀ x y, x < gp_N q → y < gp_N q → x ≠ y → D.2 q x ≠ D.2 q y :=
  va_apart (own := gp_cn q) (D := (fun _ => D.1 q, fun _ => D.2 q)) (cl := [(gp_cn q, gp_T q, gp_N q)]) (ci := 0) (tys := []) hts (gp_lays_in hq) (gp_ty q) (gp_F2 q hq) (gp_F3 q hq) ⟨fun c r hr => by
    cases c with
    | zero => cases hr; exact hK.1 q hq
    | succ c => simp at hr, fun k r hr => by simp at hr⟩ rfl
theorem gp_sGet (hx : p.tables.exec = Jvm.exec) (hb : c.code = cc) (hts : ∀ w ∈ gp_tt, w.before args s = true) (hK : gp_K D s) {own : String} {i q f o : Nat} (hown : s.vm.findClass own = some m.cls) (hq : q < 13) (hf : f < gp_N q) (hlink : (Cond.fieldLink own i (gp_cn q) (gp_T q f).2.1 (gp_T q f).2.2.1).before args s = true)
    (hd : decode cc pc = .ok (.getfield i, 3)) (ho : (gp_sh h o).1 = q) {r : List gV} (k : gp_WW p l e R s m args below meth c Q D b b0 nL h0 (pc + 3) ls (gp_fv h (gp_fk (gp_ty q f)) o f :: r) h) : gp_WW p l e R s m args below meth c Q D b b0 nL h0 pc ls (gp_r (some o) :: r) h := by
  intro H locs cells slots lsR stR a1 a2 a3 a4 a5 a6
  match stR, a3 with
  | v :: stR, ⟨h1, a3⟩ =>
    cases h1
    obtain ⟨cf, kf, fi, fd, g1, g2, g3, -⟩ := gp_fld (m := m) hts hK hq hf
    obtain ⟨-, cell, c1, c2, c3, c4⟩ := a1.2.2.2.1 o q hq ho
    obtain ⟨v, v1, v2⟩ := c4 f hf
    exact W.getf hx hb hown hlink g1 g2 c1 (by rw [c3]; intro z; cases z) (v := v) (by rw [g3]; exact v1) rfl rfl hd (k _ _ _ _ _ _ a1 a2 ⟨v2, a3⟩ a4 a5 a6)
theorem gp_sPut (hx : p.tables.exec = Jvm.exec) (hb : c.code = cc) (hts : ∀ w ∈ gp_tt, w.before args s = true) (hK : gp_K D s) {own : String} {i q f o : Nat} (hown : s.vm.findClass own = some m.cls) (hq : q < 13) (hf : f < gp_N q) (hlink : (Cond.fieldLink own i (gp_cn q) (gp_T q f).2.1 (gp_T q f).2.2.1).before args s = true)
    (hfin : (gp_T q f).2.2.2 = true → own = gp_cn q ∧ meth.name = "<init>") (hd : decode cc pc = .ok (.putfield i, 3)) (ho : (gp_sh h o).1 = q) {r : List gV} {w : gV} (hw : gp_wk (gp_fk (gp_ty q f)) w) (hfit : ∀ v, gp_vr b b0 v w → narrow (gp_ty q f) v = v ∧ fits (gp_ty q f) v = true)
    (k : gp_WW p l e R s m args below meth c Q D b b0 nL h0 (pc + 3) ls r (gp_w h (gp_fk (gp_ty q f)) o f w)) : gp_WW p l e R s m args below meth c Q D b b0 nL h0 pc ls (w :: gp_r (some o) :: r) h := by
  intro H locs cells slots lsR stR a1 a2 a3 a4 a5 a6
  match stR, a3 with
  | v :: v' :: stR, ⟨h1, h2, a3⟩ =>
    cases h2
    obtain ⟨cf, kf, fi, fd, g1, g2, g3, g4, g5, g6⟩ := gp_fld (m := m) hts hK hq hf
    obtain ⟨o1, cell, c1, c2, c3, c4⟩ := a1.2.2.2.1 o q hq ho
    obtain ⟨v0, v1, -⟩ := c4 f hf
    obtain ⟨n1, n2⟩ := hfit v h1
    obtain ⟨n3, n4⟩ := g6 v n1 n2
    have hlt := (Array.getElem?_eq_some_iff.mp c1).1
    refine W.putf hx hb hown hlink g1 g2 ?_ c1 (by rw [c3]; intro z; cases z) (by rw [g3]; exact k2_hasslot v1) n3 (by rw [c2, c3]; exact n4) rfl rfl hd ?_
    · cases hfb : (gp_T q f).2.2.2 with
      | false => exact Or.inl (g4 hfb)
      | true => obtain ⟨e1, e2⟩ := hfin hfb; rw [e1] at hown; exact Or.inr ⟨g5 hfb hown, e2⟩
    · obtain ⟨w1, w2, w3⟩ := gp_w_sh h (gp_fk (gp_ty q f)) o f w
      refine k _ _ _ _ _ _ (a1.put (by simp) (fun x hx => by simp [Array.getElem?_setIfInBounds, Ne.symm hx]) (fun c' h1' h2' => ?_) (fun c' h1' h2' h3' => ?_) ?_) a2 a3 (fun q' hq' => ?_) (by rw [w2]; exact a5) (by rw [w3]; exact a6)
      · have e : q = c' := ho.symm.trans h2'
        subst e
        refine ⟨cell.setSlot fd.slot v, by simp [Array.getElem?_setIfInBounds, hlt], c2, c3, fun j hj => ?_⟩
        rw [g3]
        by_cases e : j = f
        · subst e
          refine ⟨v, ?_, by rw [gp_fv_self _ _ _ _ _ hw]; exact h1⟩
          simp [Cell.setSlot, k2_hasslot v1]
        · obtain ⟨v2, v3, v4⟩ := c4 j hj
          refine ⟨v2, ?_, by rw [gp_fv_ne _ _ _ _ _ _ _ _ (fun z => e z.2)]; exact v4⟩
          have hne := gp_apart hts hK hq j f hj hf e
          simp [Cell.setSlot, Array.getElem?_setIfInBounds, Ne.symm hne, v3]
      · omega
      · omega
      · rcases List.mem_append.mp hq' with z | z
        · exact a4 q' z
        · rw [List.mem_singleton] at z; subst z; exact gp_ad_ge o1
  | [_], ⟨_, a3⟩ => exact a3.elim
end GpField
