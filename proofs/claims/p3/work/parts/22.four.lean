/-! A RUN of the small machine is a run of the real one -/
section GpFour
variable {p : Program} {l : Launch} {e : Env} {R : Room} {s : State} {m : MethodId} {args : Array Value} {below : List Frame} {meth : Method} {c : Code} {Q : State → Prop} {D : va_G} {b b0 : Nat} {h0 : gH} {y pc : Nat} {ls st : List gV} {h : gH}
def gp_ws (y : Nat) : List Cond := Cond.code (gp_mn y) (gp_by y) (gp_ml y) (gp_rt y) :: gp_tt
def gp_rr (b b0 : Nat) (v : Option Value) (r : Option gV) : Prop := match v, r with
  | none, none => True
  | some v, some w => gp_vr b b0 v w
  | _, _ => False
def gp_Pre (D : va_G) (b b0 : Nat) (ws : List gV) (h : gH) : Array Value → State → Prop := fun a U => (∃ vs : List Value, a = vs.toArray ∧ gp_sr b b0 vs ws) ∧ gp_rh D b b0 U U.heap h ∧ gp_K D U
def gp_Post (D : va_G) (b b0 : Nat) (r : Option gV) (h' : gH) : Array Value → State → Outcome → State → Prop := fun _ _ o t => (∃ v, o = .returned v ∧ gp_rr b b0 v r) ∧ gp_rh D b b0 t t.heap h'
abbrev gp_room (d mc ms : Nat) : Room := { frames := d + 1, cells := mc, slots := ms, locals := (d + 1) * 100 }
theorem gp_blind {ws : List gV} {h : gH} : FrameBlind (gp_Pre D b b0 ws h) := by
  intro a U g mk q
  obtain ⟨q1, q2, q3⟩ := q
  exact ⟨q1, q2.moved (U' := U.calling g mk a) (Vm.Alike.refl U.vm), q3.same rfl⟩
theorem gp_sRet {ins : Instr} {len : Nat} (Cx : gp_Cx p R s m args meth c D y) (hrt : meth.sig.returnType = gp_rt y) (hlk : meth.locks = false) (hP : gp_Pc y pc (ins, len)) {r : Option gV} (q : gp_exec (y / 256) (gp_z y) ins len pc ls st h = some (.inr (.inr r))) :
    gp_WW p l e R s m args below meth c (MQ below (gp_Post D b b0 r h) args s (gp_sz h - gp_sz h0) (gp_us h - gp_us h0) (fun q => b0 ≤ q)) D b b0 (gp_ml y) h0 pc ls st h := by
  by_cases hc : gp_isc ins = false
  · have := gp_exec_nx (y / 256) (gp_z y) ins len pc ls st h hc
    rw [q] at this
    exact this.elim
  obtain ⟨hx, hb, hml, hown, hts, hK, hnm, hfr, hlo⟩ := Cx
  obtain ⟨hd, hi⟩ := hP
  cases ins
  all_goals (try (exact absurd rfl hc))
  case invokespecial i => exact absurd (gp_exec_nr (y / 256) (gp_z y) (.invokespecial i) len pc ls st h rfl) (by rw [q]; exact fun z => z)
  case invokestatic i => exact absurd (gp_exec_nr (y / 256) (gp_z y) (.invokestatic i) len pc ls st h rfl) (by rw [q]; exact fun z => z)
  case invokevirtual i => exact absurd (gp_exec_nr (y / 256) (gp_z y) (.invokevirtual i) len pc ls st h rfl) (by rw [q]; exact fun z => z)
  case areturn =>
    obtain rfl := gp_len hi (k := 1) rfl (by decide)
    simp only [gp_exec] at q
    split at q
    · rename_i v
      cases q
      unfold gp_oki at hi
      rw [Bool.and_eq_true] at hi
      have h2 := hi.2
      simp only at h2
      split at h2
      · rename_i nm hnm2
        intro H locs cells slots lsR stR a1 a2 a3 a4 a5 a6
        match stR, a3 with
        | [v2], ⟨h1, _⟩ =>
          have e1 : cells = gp_sz h - gp_sz h0 := by omega
          have e2 : slots = gp_us h - gp_us h0 := by omega
          rw [← e1, ← e2]
          refine W.aret hx hb (hrt.trans hnm2) (Or.inl ⟨nm, rfl⟩) ?_ (fun t ht hW => ⟨⟨_, rfl, h1⟩, by rw [ht]; exact a1.moved hW.alike⟩) a4 hd hlk
          cases v with
          | none => exact Or.inl h1
          | some a => exact Or.inr ⟨_, h1⟩
        | _ :: _ :: _, ⟨_, z⟩ => exact z.elim
      · cases h2
    · cases q
  case ireturn =>
    obtain rfl := gp_len hi (k := 1) rfl (by decide)
    simp only [gp_exec] at q
    unfold gp_oki at hi
    rw [Bool.and_eq_true] at hi
    have h2 := hi.2
    simp only [decide_eq_true_eq] at h2
    split at q
    · rename_i v
      cases hz : gp_z y with
      | false =>
        rw [hz] at q h2
        cases q
        intro H locs cells slots lsR stR a1 a2 a3 a4 a5 a6
        match stR, a3 with
        | [v2], ⟨h1, _⟩ =>
          have e1 : cells = gp_sz h - gp_sz h0 := by omega
          have e2 : slots = gp_us h - gp_us h0 := by omega
          rw [← e1, ← e2]
          have h1' := h1
          obtain ⟨x, rfl, -⟩ := h1'
          exact W.iret hx hb (hrt.trans h2) (fun t ht hW => ⟨⟨_, rfl, h1⟩, by rw [ht]; exact a1.moved hW.alike⟩) a4 hd hlk
        | _ :: _ :: _, ⟨_, z⟩ => exact z.elim
      | true =>
        rw [hz] at q h2
        obtain ⟨hg, q⟩ := gp_if_none q
        cases q
        intro H locs cells slots lsR stR a1 a2 a3 a4 a5 a6
        match stR, a3 with
        | [v2], ⟨h1, _⟩ =>
          have e1 : cells = gp_sz h - gp_sz h0 := by omega
          have e2 : slots = gp_us h - gp_us h0 := by omega
          rw [← e1, ← e2]
          have h1' := h1
          obtain ⟨x, rfl, hx2⟩ := h1'
          refine W.zret hx hb (hrt.trans h2) ?_ (fun t ht hW => ⟨⟨_, rfl, h1⟩, by rw [ht]; exact a1.moved hW.alike⟩) a4 hd hlk
          rcases hg with hg | hg
          · have : x = 0 := Int32.toInt_inj.mp (by rw [hx2, hg]; rfl)
            subst this; rfl
          · have : x = 1 := Int32.toInt_inj.mp (by rw [hx2, hg]; rfl)
            subst this; rfl
        | _ :: _ :: _, ⟨_, z⟩ => exact z.elim
    · cases q
  case lreturn =>
    obtain rfl := gp_len hi (k := 1) rfl (by decide)
    simp only [gp_exec] at q
    unfold gp_oki at hi
    rw [Bool.and_eq_true] at hi
    have h2 := hi.2
    simp only [decide_eq_true_eq] at h2
    split at q
    · rename_i v
      cases q
      intro H locs cells slots lsR stR a1 a2 a3 a4 a5 a6
      match stR, a3 with
      | [v2], ⟨h1, _⟩ =>
        have e1 : cells = gp_sz h - gp_sz h0 := by omega
        have e2 : slots = gp_us h - gp_us h0 := by omega
        rw [← e1, ← e2]
        have h1' := h1
        obtain ⟨x, rfl, -⟩ := h1'
        exact W.lret hx hb (hrt.trans h2) (fun t ht hW => ⟨⟨_, rfl, h1⟩, by rw [ht]; exact a1.moved hW.alike⟩) a4 hd hlk
      | _ :: _ :: _, ⟨_, z⟩ => exact z.elim
    · cases q
  case return_ =>
    obtain rfl := gp_len hi (k := 1) rfl (by decide)
    simp only [gp_exec] at q
    unfold gp_oki at hi
    rw [Bool.and_eq_true] at hi
    have h2 := hi.2
    simp only [decide_eq_true_eq] at h2
    split at q
    · cases q
      intro H locs cells slots lsR stR a1 a2 a3 a4 a5 a6
      match stR, a3 with
      | [], _ =>
        have e1 : cells = gp_sz h - gp_sz h0 := by omega
        have e2 : slots = gp_us h - gp_us h0 := by omega
        rw [← e1, ← e2]
        exact W.vret hx hb (hrt.trans h2) (fun t ht hW => ⟨⟨_, rfl, trivial⟩, by rw [ht]; exact a1.moved hW.alike⟩) a4 hd hlk
      | _ :: _, z => exact z.elim
    · cases q
/-- a method that the small machine runs is met -/
theorem gp_met (l : Launch) (hb0 : b < b0) {n d y : Nat} {ws : List gV} {h : gH} {r : Option gV} {h' : gH} (hlay : (gp_lay ws).length ≤ gp_ml y) (hyc : (gp_mn y).cls = gp_cn (y / 256)) (hpl : plainName (gp_mn y).cls = true)
    (ih : ∀ (p : Program) (e : Env) (R : Room) (s : State) (m : MethodId) (args : Array Value) (below : List Frame) (meth : Method) (c : Code), gp_Cx p R s m args meth c D y → meth.sig.returnType = gp_rt y → meth.locks = false → d + 1 ≤ R.frames → (d + 1) * 100 ≤ R.locals → gp_sz h' ≤ R.cells + gp_sz h → gp_us h' ≤ R.slots + gp_us h →
      gp_WW p l e R s m args below meth c (MQ below (gp_Post D b b0 r h') args s (gp_sz h' - gp_sz h) (gp_us h' - gp_us h) (fun q => b0 ≤ q)) D b b0 (gp_ml y) h 0 (gp_loc (gp_ml y) ws) [] h) :
    Met l (gp_mn y) (gp_ws y) (gp_room d (gp_sz h' - gp_sz h) (gp_us h' - gp_us h)) (gp_Pre D b b0 ws h) (gp_Post D b b0 r h') (gp_sz h' - gp_sz h) (gp_us h' - gp_us h) (fun q => b0 ≤ q) := by
  refine Met.ofW (cc := gp_by y) (maxL := gp_ml y) (ret := gp_rt y) hpl rfl ?_
  intro p e s m args below meth c s₁ B hml hv
  obtain ⟨⟨vs, rfl, hvs⟩, hrel, hK⟩ := hv
  have hts : ∀ w ∈ gp_tt, w.before vs.toArray s = true := fun w hw => atoms_spec (ws := gp_ws y) B.pre w (List.mem_cons_of_mem _ hw)
  have hown : s.vm.findClass (gp_cn (y / 256)) = some m.cls := by rw [← hyc]; exact findClass_of_methodNamed B.named
  rw [lg_entry_eq]
  refine ih p e _ s m _ below meth c ⟨B.exec, B.bytes, hml, hown, hts, hK, (fun z => (name_of_methodNamed B.named B.method).1.trans z), ?_, ?_⟩ B.returns B.notSynchronized (Nat.le_refl _) (Nat.le_refl _) ?_ ?_ s.heap [] 0 0 _ [] hrel (gp_lr_entry hvs hlay) trivial (fun q hq => by cases hq) (by omega) (by omega)
  · exact Nat.le_add_left 1 d
  · show 100 ≤ (d + 1) * 100; omega
  · show gp_sz h' ≤ gp_sz h' - gp_sz h + gp_sz h; omega
  · show gp_us h' ≤ gp_us h' - gp_us h + gp_us h; omega
theorem gp_cont {H : Heap} {locs : List Loc} {cells slots mc ms : Nat} {lsR : Array Slot} {stR rest : List Value} {a : Array Value} {r1 : Option gV} {h1 : gH} (hr : va_Run p l e R s m args below meth c H locs cells slots mc ms (F0 m pc lsR stR) rest (gp_Post D b b0 r1 h1 a) (fun q => b0 ≤ q)) (hl : ∀ q ∈ locs, b0 ≤ q.base)
    (kk : ∀ (H1 : Heap) (locs1 : List Loc) (v : Option Value), gp_rr b b0 v r1 → gp_rh D b b0 s H1 h1 → (∀ q ∈ locs1, b0 ≤ q.base) → W p l e R s m args below meth c H1 locs1 (cells + mc) (slots + ms) Q (F0 m (pc + 3) lsR (v.toList ++ rest))) : W p l e R s m args below meth c H locs cells slots Q (F0 m pc lsR stR) := by
  intro T hT X
  obtain ⟨v, st₀, t, T', L, h0', X', hL, e1, e2, ⟨⟨v', hv, ho⟩, hrel⟩, st⟩ := hr T hT X
  cases hv
  have hal : t.vm.Alike s.vm := by rw [← e2]; exact X'.warmed.alike.symm
  obtain ⟨t2, a1, b1⟩ := kk T'.heap (locs ++ L) v ho (by rw [e1]; exact hrel.moved hal) (fun q hq => by
    rcases List.mem_append.mp hq with z | z
    · exact hl q z
    · exact hL q z) T' rfl X'
  exact ⟨t2, st t2 a1, b1⟩
end GpFour
