section GpSeven
theorem gp_W_mono {p : Program} {l : Launch} {e : Env} {R : Room} {s : State} {m : MethodId} {args : Array Value} {below : List Frame} {meth : Method} {c : Code} {H : Heap} {locs : List Loc} {cells slots : Nat} {Q Q' : State → Prop} {g : JFrame} (h : W p l e R s m args below meth c H locs cells slots Q g) (hq : ∀ t, Q t → Q' t) : W p l e R s m args below meth c H locs cells slots Q' g := by
  intro T hT X
  obtain ⟨t, a, b⟩ := h T hT X
  exact ⟨t, a, hq t b⟩
theorem gp_ins : ∀ c, c < 13 → gp_has (.instantiable (gp_cn c) (gp_N c)) (gp_pIns c) = true := by decide +kernel
theorem gp_lawN : gp_ml 4352 = 4 ∧ gp_rt 4352 = some .boolean ∧ gp_cn (4352 / 256) = "GatheredPointsLaw" := by decide +kernel
theorem gp_lawI : ¬ (gp_mn 4352).name = "<init>" := by decide +kernel
theorem gp_Kstart {A : Array Value} {s : State} (hts : ∀ w ∈ lw_tbl, w.before A s = true) : ∃ D : va_G, gp_K D s := by
  have htt : ∀ w ∈ gp_tt, w.before A s = true := fun w hw => hts w (List.mem_filter.mp hw).1
  have hk : ∀ c, c < 13 → ∃ (cC : ClassId) (iS : Nat → Nat), u_Kn s (gp_cn c) (gp_T c) (gp_N c) cC iS := fun c hc => u_known htt (gp_lays_in hc) (htt _ (gp_has_in (gp_ins c hc)))
  have hk2 : ∀ c, ∃ (cC : ClassId) (iS : Nat → Nat), c < 13 → u_Kn s (gp_cn c) (gp_T c) (gp_N c) cC iS := fun c => by
    by_cases hc : c < 13
    · obtain ⟨cC, iS, h⟩ := hk c hc
      exact ⟨cC, iS, fun _ => h⟩
    · obtain ⟨cC, iS, -⟩ := hk 0 (by decide)
      exact ⟨cC, iS, fun z => absurd z hc⟩
  refine ⟨(fun c => (hk2 c).choose, fun c => (hk2 c).choose_spec.choose), fun c hc => (hk2 c).choose_spec.choose_spec hc, fun w hw => ?_, va_AO.of (hts _ (List.mem_append_right _ gp_oW9)), ?_⟩
  · have hm := (List.mem_filter.mp hw).1
    obtain ⟨a, i, x, g, rfl⟩ := gp_nw_mem hw
    exact va_Nw.of rfl (hts _ (List.mem_append_right _ hm))
  · exact hts _ (List.mem_append_right _ gp_oW10)
/-- THE LAW'S WALK out of a run of the small machine -/
theorem gp_law (N : Nat) (hrun : ∀ (L : Nat) (xs : Nat → Int32), L ≤ N → ∃ (n : Nat) (h' : gH), gp_run n 800 4352 0 [gp_r (some 0), gp_n, gp_n, gp_n] [] (gp_start L xs) = some (some (gp_i 1), h') ∧ gp_sz h' ≤ 600001 ∧ gp_us h' ≤ 7302250)
    {p : Program} {e : Env} {s : State} {m : MethodId} {below : List Frame} {meth : Method} {c : Code} (l : Launch) {b L : Nat} {xs : Nat → Int32} (hL : L ≤ N) (hx : p.tables.exec = Jvm.exec) (hb : c.code = code) (hr : meth.sig.returnType = ret) (hml : c.maxLocals = 4) (hown : s.vm.findClass "GatheredPointsLaw" = some m.cls) (hts : ∀ w ∈ lw_tbl, w.before #[Value.ref b] s = true) (hX : va_X b L xs s s.heap) (hbl : b < s.heap.size) (hlocks : meth.locks = false) :
    W p l e room_1 s m #[Value.ref b] below meth c s.heap [] 0 0 (fun t => ∃ o, t.status = .running ∧ Ended t below o ∧ o = .returned (some (.int 1)) ∧ Framed s o t [] 600000 7302250) (entryFrame m ([Value.ref b] : List Value).toArray 4) := by
  obtain ⟨D, hK⟩ := gp_Kstart hts
  have htt : ∀ w ∈ gp_tt, w.before #[Value.ref b] s = true := fun w hw => hts w (List.mem_filter.mp hw).1
  obtain ⟨n, h', hn, z1, z2⟩ := hrun L xs hL
  obtain ⟨n1, n2, n3⟩ := gp_lawN
  have hrel : gp_rh D b s.heap.size s s.heap (gp_start L xs) := by
    have sh0 : ∀ a, gp_sh (gp_start L xs) a = if a = 0 then (105, L) else (999, 0) := by
      intro a
      show cond (Nat.beq a 0) (105, L) (999, 0) = _
      cases a with
      | zero => rfl
      | succ a => rfl
    refine ⟨hbl, Nat.le_refl 1, rfl, fun a c' g1 g2 => ?_, fun a k g1 g2 g3 => ?_, fun a g1 => ?_⟩
    · rw [sh0] at g2
      split at g2
      · have : 105 = c' := g2; omega
      · have : 999 = c' := g2; omega
    · rw [sh0] at g3
      split at g3
      · have : 105 = k := g3; omega
      · have : 999 = k := g3; omega
    · rw [sh0] at g1
      split at g1
      · rename_i ea
        subst ea
        obtain ⟨scr, s1, s2, s3, s4, s5⟩ := hX
        have e0 : (gp_sh (gp_start L xs) 0).2 = L := rfl
        refine ⟨scr, s1, s2, s3, by rw [e0]; exact s4, fun j hj => ⟨_, s5 j (by rw [e0] at hj; exact hj), ⟨xs j, rfl, rfl⟩⟩⟩
      · cases g1
  have hS := gp_sound l D hbl n 800 4352 0 _ _ _ _ _ hn p e room_1 s m #[Value.ref b] below meth c (gp_start L xs) ⟨hx, hb, by rw [n1]; exact hml, by rw [n3]; exact hown, htt, hK, fun z => absurd z gp_lawI, Nat.le_of_ble_eq_true rfl, Nat.le_of_ble_eq_true rfl⟩ (by rw [n2]; exact hr) hlocks (Nat.le_of_ble_eq_true rfl) (Nat.le_of_ble_eq_true rfl) z1 (Nat.le_trans z2 (Nat.le_add_right _ _))
  have hlr : gp_lr b s.heap.size 4 ((lg_sl [Value.ref b] ++ List.replicate (4 - (lg_sl [Value.ref b]).length) Slot.unset).toArray) (gp_loc 4 [gp_r (some 0)]) := gp_lr_entry (vs := [Value.ref b]) (ws := [gp_r (some 0)]) ⟨rfl, trivial⟩ (by decide)
  have hW := hS s.heap [] 0 0 _ [] hrel (by rw [n1]; exact hlr) trivial (fun q hq => by cases hq) (Nat.zero_add _) (Nat.zero_add _)
  rw [lg_entry_eq]
  refine gp_W_mono hW (fun t ht => ?_)
  obtain ⟨o, t1, t2, ⟨⟨v, v1, v2⟩, -⟩, LL, ⟨f1, f2, f3⟩, f4⟩ := ht
  refine ⟨o, t1, t2, ?_, f1, f2, ?_⟩
  · rw [v1]
    cases v with
    | none => exact v2.elim
    | some w =>
      obtain ⟨y, rfl, hy⟩ := v2
      have : y = 1 := Int32.toInt_inj.mp (by rw [hy]; rfl)
      rw [this]
  · refine f3.weaken (fun x hx hlt => ?_) ?_ ?_
    · exact absurd hlt (Nat.not_lt.mpr (f4 x hx))
    · have : gp_sz (gp_start L xs) = 1 := rfl
      omega
    · omega
end GpSeven
