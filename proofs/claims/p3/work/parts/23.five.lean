section GpFive
variable {p : Program} {l : Launch} {e : Env} {R : Room} {s : State} {m : MethodId} {args : Array Value} {below : List Frame} {meth : Method} {c : Code} {Q : State → Prop} {D : va_G} {b b0 : Nat} {h0 : gH} {y pc : Nat} {ls st : List gV} {h : gH}
/-- what a checked link to an own method gives: the words, whichever kind of call -/
theorem gp_prep (hts : ∀ w ∈ gp_tt, w.before args s = true) {i : Nat} {x : Nat × Nat × Nat × Nat} (hlk : gp_lkM (y / 256) i = some x) (hq : x.2.2.2 < 95) :
    x.1 % 256 < gp_nm (x.1 / 256) ∧ x.1 / 256 < 15 ∧ x.2.2.1 = gp_ml x.1 ∧ (∀ sig, parseMethodDescriptor (gp_mn x.1).desc = some sig → sig.parameters.length + (cond (gp_st x.1) 0 1) = x.2.1) ∧
    ((Cond.methodLink (gp_cn (y / 256)) i (gp_mn x.1)).before args s = true ∨ Cond.methodLinkNest (gp_cn (y / 256)) i (gp_mn x.1) "GatheredPoints" ∈ gp_nw) ∧ (gp_st x.1 = true → x.2.2.2 = 0) ∧ (gp_st x.1 = false → x.2.2.2 = 0 ∧ (gp_mn x.1).name = "<init>" ∨ x.2.2.2 = x.1 / 256 + 1) := by
  obtain ⟨ck, e1, e2⟩ := gp_lkM_spec hlk
  unfold gp_ckM at ck
  rw [e1, e2] at ck
  have n98 : Nat.beq x.2.2.2 98 = false := by cases z : Nat.beq x.2.2.2 98 with
    | false => rfl
    | true => have := Nat.eq_of_beq_eq_true z; omega
  have n99 : Nat.beq x.2.2.2 99 = false := by cases z : Nat.beq x.2.2.2 99 with
    | false => rfl
    | true => have := Nat.eq_of_beq_eq_true z; omega
  have n95 : Nat.beq x.2.2.2 95 = false := by cases z : Nat.beq x.2.2.2 95 with
    | false => rfl
    | true => have := Nat.eq_of_beq_eq_true z; omega
  have n96 : Nat.beq x.2.2.2 96 = false := by cases z : Nat.beq x.2.2.2 96 with
    | false => rfl
    | true => have := Nat.eq_of_beq_eq_true z; omega
  have n97 : Nat.beq x.2.2.2 97 = false := by cases z : Nat.beq x.2.2.2 97 with
    | false => rfl
    | true => have := Nat.eq_of_beq_eq_true z; omega
  rw [n98, n99, n95, n96, n97] at ck
  simp only [cond_false, Bool.and_eq_true, decide_eq_true_eq, Bool.or_eq_true] at ck
  obtain ⟨⟨⟨⟨⟨c1, c2⟩, c3⟩, c4⟩, c5⟩, c6⟩ := ck
  refine ⟨Nat.blt_eq.mp c1, Nat.blt_eq.mp c2, Nat.eq_of_beq_eq_true c3, fun sig hs => ?_, ?_, fun z => ?_, fun z => ?_⟩
  · rw [hs] at c4
    exact Option.some.inj c4
  · rcases c5 with c5 | c5
    · exact Or.inl (hts _ (gp_has_in c5))
    · exact Or.inr (List.mem_filter.mpr ⟨List.mem_of_getElem? c5, rfl⟩)
  · rw [z] at c6
    exact Nat.eq_of_beq_eq_true c6
  · rw [z] at c6
    simp only [cond_false, Bool.or_eq_true, Bool.and_eq_true, decide_eq_true_eq] at c6
    rcases c6 with ⟨z1, z2⟩ | z1
    · exact Or.inl ⟨Nat.eq_of_beq_eq_true z1, z2⟩
    · exact Or.inr (Nat.eq_of_beq_eq_true z1)
theorem gp_ckY_spec {y : Nat} (h1 : y % 256 < gp_nm (y / 256)) (h2 : y / 256 < 15) : Cond.code (gp_mn y) (gp_by y) (gp_ml y) (gp_rt y) ∈ gp_tt ∧ Cond.initialized (gp_mn y).cls ∈ gp_tt ∧ (gp_mn y).cls = gp_cn (y / 256) ∧ gp_ml y ≤ 40 ∧ plainName (gp_mn y).cls = true ∧ ((gp_mn y).cls ≠ "java/lang/invoke/MethodHandle" ∧ (gp_mn y).cls ≠ "java/lang/invoke/VarHandle") ∧
    (gp_st y = true → Cond.static (gp_mn y) ∈ gp_tt) ∧ (gp_st y = false → Cond.instanceMethod (gp_mn y) ∈ gp_tt ∧ ((gp_mn y).name = "<init>" ∨ Cond.selects (gp_mn y).cls (gp_mn y) (gp_mn y) ∈ gp_tt)) := by
  have ck := gp_okY h1 h2
  unfold gp_ckY at ck
  simp only [Bool.and_eq_true, decide_eq_true_eq] at ck
  obtain ⟨⟨⟨⟨⟨⟨⟨c1, c2⟩, c3⟩, c4⟩, c5⟩, c6⟩, c7⟩, c8⟩ := ck
  refine ⟨gp_has_in c1, gp_has_in c2, c3, Nat.ble_eq.mp c4, c5, ⟨c6, c7⟩, fun z => ?_, fun z => ?_⟩
  · rw [z] at c8
    exact gp_has_in c8
  · rw [z] at c8
    simp only [cond_false, Bool.and_eq_true, Bool.or_eq_true, decide_eq_true_eq] at c8
    refine ⟨gp_has_in c8.1, ?_⟩
    rcases c8.2 with w | w
    · exact Or.inl w
    · refine Or.inr ?_
      cases hq : Nat.beq (gp_pSe y % 2) 0 with
      | true => rw [hq] at w; exact gp_has_in w
      | false => rw [hq] at w; exact gp_hasP_in w
theorem gp_rr_sr {v : Option Value} {r : Option gV} {rest : List Value} {ws : List gV} (h1 : gp_rr b b0 v r) (h2 : gp_sr b b0 rest ws) : gp_sr b b0 (v.toList ++ rest) (r.toList ++ ws) := by
  cases v <;> cases r
  · exact h2
  · exact h1.elim
  · exact h1.elim
  · exact ⟨h1, h2⟩
theorem gp_pay {yy : Nat} (hts : ∀ w ∈ gp_tt, w.before args s = true) (hc : Cond.code (gp_mn yy) (gp_by yy) (gp_ml yy) (gp_rt yy) ∈ gp_tt) : ∀ w ∈ gp_ws yy, ∀ (a' : Array Value) (U : State), s.WarmedH U.vm → w.before a' U = true :=
  pay_in hts (fun w hw => by
    rcases List.mem_cons.mp hw with z | z
    · rw [z]; exact gp_tt_good _ hc
    · exact gp_tt_good _ z)
theorem gp_noinit {i : Nat} {yy n mm qq : Nat} (hlk : gp_lkM (y / 256) i = some (yy, n, mm, qq)) (h0 : qq ≠ 0) (h95 : qq < 95) : ¬ (gp_mn yy).name = "<init>" := by
  unfold gp_lkM at hlk
  have hv := gp_tV (gp_cond_none hlk).2
  unfold gp_vq at hv
  simp only [Bool.or_eq_true, Bool.not_eq_true', decide_eq_false_iff_not] at hv
  rcases hv with (z | z) | z
  · exact absurd (Nat.eq_of_beq_eq_true z) h0
  · exact absurd (Nat.ble_eq.mp z) (by omega)
  · exact z
set_option maxHeartbeats 1000000 in
/-- A CALL -/
theorem gp_sCall (hb0 : b < b0) (Cx : gp_Cx p R s m args meth c D y) {ins : Instr} {len : Nat} (hP : gp_Pc y pc (ins, len)) {y' : Nat} {l0 st' : List gV} (q : gp_exec (y / 256) (gp_z y) ins len pc ls st h = some (.inr (.inl (y', l0, st')))) {d : Nat} (hfr2 : d + 2 ≤ R.frames) (hlo2 : (d + 2) * 100 ≤ R.locals) {r1 : Option gV} {h1 : gH} (hle : gp_le h h1) (hR : gp_sz h1 ≤ R.cells + gp_sz h0 ∧ gp_us h1 ≤ R.slots + gp_us h0)
    (ih : ∀ ws, l0 = gp_loc (gp_ml y') ws → (gp_lay ws).length ≤ gp_ml y' → (gp_mn y').cls = gp_cn (y' / 256) → plainName (gp_mn y').cls = true → Met l (gp_mn y') (gp_ws y') (gp_room d (gp_sz h1 - gp_sz h) (gp_us h1 - gp_us h)) (gp_Pre D b b0 ws h) (gp_Post D b b0 r1 h1) (gp_sz h1 - gp_sz h) (gp_us h1 - gp_us h) (fun q => b0 ≤ q))
    (kk : gp_WW p l e R s m args below meth c Q D b b0 (gp_ml y) h0 (pc + 3) ls (r1.toList ++ st') h1) : gp_WW p l e R s m args below meth c Q D b b0 (gp_ml y) h0 pc ls st h := by
  by_cases hc : gp_isc ins = false
  · have := gp_exec_nx (y / 256) (gp_z y) ins len pc ls st h hc
    rw [q] at this
    exact this.elim
  obtain ⟨hx, hb, hml, hown, hts, hK, hnm, hfr, hlo⟩ := Cx
  obtain ⟨hd, hi⟩ := hP
  have hle1 := hle.1
  have hle2 := hle.2
  have hz1 : gp_sz h = h.1 := rfl
  have hz2 : gp_us h = h.2.1 := rfl
  have hz3 : gp_sz h1 = h1.1 := rfl
  have hz4 : gp_us h1 = h1.2.1 := rfl
  cases ins
  all_goals (try (exact absurd rfl hc))
  case areturn => simp only [gp_exec] at q; split at q <;> cases q
  case lreturn => simp only [gp_exec] at q; split at q <;> cases q
  case return_ => simp only [gp_exec] at q; split at q <;> cases q
  case ireturn =>
    simp only [gp_exec] at q
    split at q
    · revert q; cases gp_z y <;> intro q
      · cases q
      · obtain ⟨-, q⟩ := gp_if_none q; cases q
    · cases q
  case invokestatic i =>
    obtain rfl := gp_len hi (k := 3) rfl (by decide)
    unfold gp_oki at hi
    rw [Bool.and_eq_true] at hi
    have hi2 := hi.2
    simp only [gp_exec] at q
    split at q
    · rename_i yy n mm qq hlk
      simp only [hlk, Bool.or_eq_true] at hi2
      split at q
      · unfold gp_acp at q
        split at q
        · obtain ⟨-, q⟩ := gp_if_none q; cases q
        · cases q
      · unfold gp_mth at q
        split at q
        · obtain ⟨-, q⟩ := gp_if_none q; cases q
        · cases q
      · unfold gp_mth at q
        split at q
        · obtain ⟨-, q⟩ := gp_if_none q; cases q
        · cases q
      · split at q
        · obtain ⟨-, q⟩ := gp_if_none q; cases q
        · cases q
      · obtain ⟨g1, g2, g3, g4, -⟩ := gp_call_inv q
        cases g1
        obtain ⟨k1, k2, k3, k4, k5, k6, k7⟩ := gp_prep hts hlk (show (0 : Nat) < 95 by decide)
        dsimp only at k1 k2 k3 k4 k5 k6 k7
        subst k3
        obtain ⟨w1, w2, w3, w4, w5, w6, w7, w8⟩ := gp_ckY_spec k1 k2
        have hst : gp_st y' = true := by
          rcases hi2 with z | z
          · exact absurd (Nat.ble_eq.mp z) (by decide)
          · exact z
        have hM := ih _ rfl g3 w3 w5
        intro H locs cells slots lsR stR a1 a2 a3 a4 a5 a6
        obtain ⟨s1, s2⟩ := gp_sr_split n a3
        have hlen : (stR.take n).reverse.length = n := by rw [List.length_reverse, List.length_take, gp_sr_len a3]; omega
        have hstk : stR = (stR.take n).reverse.reverse ++ stR.drop n := by rw [List.reverse_reverse, List.take_append_drop]
        have hcat := gp_sr_cat s2
        have hpre : PreS s H (gp_Pre D b b0 (st.take n).reverse h) (stR.take n).reverse := ⟨gp_blind, fun U hU hW => ⟨⟨_, rfl, gp_sr_rev s1⟩, by rw [hU]; exact a1.moved hW.alike, hK.moved hW⟩⟩
        have hpar : ∀ sig, parseMethodDescriptor (gp_mn y').desc = some sig → n = sig.parameters.length := fun sig hs => by have := k4 sig hs; rw [hst] at this; simpa using this.symm
        have hfin := fun (hr : va_Run p l e R s m args below meth c H locs cells slots (gp_sz h1 - gp_sz h) (gp_us h1 - gp_us h) (F0 m pc lsR stR) (stR.drop n) (gp_Post D b b0 r1 h1 (stR.take n).reverse.toArray) (fun q => b0 ≤ q)) =>
          gp_cont (Q := Q) hr a4 (fun H1 locs1 v ho hrel hl => kk _ _ _ _ _ _ hrel a2 (gp_rr_sr ho s2) hl (by omega) (by omega))
        rcases k5 with k5 | k5
        · exact hfin (va_runS (Ts := gp_tt) ⟨hx, hb, hml, hown, hts⟩ hM ⟨⟨rfl, rfl, by show d + 1 + 1 ≤ _; omega, by show 8 + (gp_ml y' + 11) + (d + 1) * 100 ≤ _; omega, gp_pay hts w1, List.mem_cons_self, hts _ w1, hts _ w2, w6, hpar, k5⟩, hts _ (w7 hst)⟩ hpre rfl hlen a2.2.1 hstk (lv_room (by omega)) hd ⟨by omega, by omega⟩)
        · exact hfin (va_runSN (Ts := gp_tt) ⟨hx, hb, hml, hown, hts⟩ hM ⟨⟨⟨rfl, rfl, by show d + 1 + 1 ≤ _; omega, by show 8 + (gp_ml y' + 11) + (d + 1) * 100 ≤ _; omega, gp_pay hts w1, List.mem_cons_self⟩, hts _ w1, hts _ w2, w6, hpar, (hK.2.1 _ k5).use rfl⟩, hts _ (w7 hst), trivial⟩ hpre rfl hlen a2.2.1 hstk (lv_room (by omega)) hd ⟨by omega, by omega⟩)
      · cases q
    · cases q
  case invokespecial i =>
    obtain rfl := gp_len hi (k := 3) rfl (by decide)
    unfold gp_oki at hi
    rw [Bool.and_eq_true] at hi
    have hi2 := hi.2
    simp only [gp_exec] at q
    split at q
    · rename_i y' n mm qq hlk
      simp only [hlk, Bool.or_eq_true, Bool.not_eq_true'] at hi2
      split at q
      · split at q
        · obtain ⟨-, q⟩ := gp_if_none q; cases q
        · cases q
      · split at q
        · rename_i o r he
          obtain ⟨g1, g2, g3, g4, -⟩ := gp_call_inv q
          cases g1
          obtain ⟨k1, k2, k3, k4, k5, k6, k7⟩ := gp_prep hts hlk (show (0 : Nat) < 95 by decide)
          dsimp only at k1 k2 k3 k4 k5 k6 k7
          subst k3
          obtain ⟨w1, w2, w3, w4, w5, w6, w7, w8⟩ := gp_ckY_spec k1 k2
          have hst : gp_st y' = false := by
            rcases hi2 with z | z
            · exact absurd (Nat.ble_eq.mp z) (by decide)
            · exact z
          have hinit : (gp_mn y').name = "<init>" := by
            rcases k7 hst with z | z
            · exact z.2
            · omega
          have hrt0 : gp_rt y' = none := gp_rt_init k1 k2 hinit
          have w1' : Cond.code (gp_mn y') (gp_by y') (gp_ml y') none ∈ gp_tt := by rw [← hrt0]; exact w1
          have w1'' : Cond.code (gp_mn y') (gp_by y') (gp_ml y') none ∈ gp_ws y' := by rw [← hrt0]; exact List.mem_cons_self
          have hM := ih _ rfl g3 w3 w5
          intro H locs cells slots lsR stR a1 a2 a3 a4 a5 a6
          obtain ⟨s1, s2⟩ := gp_sr_split n a3
          have hlen : (stR.take n).reverse.length = n := by rw [List.length_reverse, List.length_take, gp_sr_len a3]; omega
          have hcat := gp_sr_cat s2
          have s1' := gp_sr_rev s1
          have hpre : PreS s H (gp_Pre D b b0 (st.take n).reverse h) (stR.take n).reverse := ⟨gp_blind, fun U hU hW => ⟨⟨_, rfl, gp_sr_rev s1⟩, by rw [hU]; exact a1.moved hW.alike, hK.moved hW⟩⟩
          obtain ⟨As, hAs⟩ : ∃ As, (stR.take n).reverse = .ref (gp_ad b b0 o) :: As := by
            rw [he] at s1'
            match hq : (stR.take n).reverse, s1' with
            | v :: As, ⟨z1, _⟩ => cases z1; exact ⟨As, rfl⟩
          rw [hAs] at hlen hpre
          have hlen2 : As.length + 1 = n := by simpa using hlen
          have hstk : stR = As.reverse ++ .ref (gp_ad b b0 o) :: stR.drop n := by
            have z := congrArg List.reverse hAs
            rw [List.reverse_reverse, List.reverse_cons] at z
            have z2 := (List.take_append_drop n stR).symm
            rw [z, List.append_assoc] at z2
            exact z2
          have hpar : ∀ sig, parseMethodDescriptor (gp_mn y').desc = some sig → As.length = sig.parameters.length := fun sig hs => by
            have := k4 sig hs
            rw [hst] at this
            simp only [cond_false] at this
            omega
          have hfin := fun (hr : va_Run p l e R s m args below meth c H locs cells slots (gp_sz h1 - gp_sz h) (gp_us h1 - gp_us h) (F0 m pc lsR stR) (stR.drop n) (gp_Post D b b0 r1 h1 (Value.ref (gp_ad b b0 o) :: As).toArray) (fun q => b0 ≤ q)) =>
            gp_cont (Q := Q) hr a4 (fun H1 locs1 v ho hrel hl => kk _ _ _ _ _ _ hrel a2 (gp_rr_sr ho s2) hl (by omega) (by omega))
          rcases k5 with k5 | k5
          · exact hfin (va_runI (Ts := gp_tt) ⟨hx, hb, hml, hown, hts⟩ hM ⟨⟨rfl, rfl, by show d + 1 + 1 ≤ _; omega, by show 8 + (gp_ml y' + 11) + (d + 1) * 100 ≤ _; omega, gp_pay hts w1, w1'', hts _ w1', hts _ w2, w6, hpar, k5⟩, hinit, hts _ (w8 hst).1⟩ hpre rfl rfl a2.2.1 hstk (lv_room (by omega)) hd ⟨by omega, by omega⟩)
          · exact hfin (va_runIN (Ts := gp_tt) ⟨hx, hb, hml, hown, hts⟩ hM ⟨⟨⟨rfl, rfl, by show d + 1 + 1 ≤ _; omega, by show 8 + (gp_ml y' + 11) + (d + 1) * 100 ≤ _; omega, gp_pay hts w1, w1''⟩, hts _ w1', hts _ w2, w6, hpar, (hK.2.1 _ k5).use rfl⟩, hinit, hts _ (w8 hst).1⟩ hpre rfl rfl a2.2.1 hstk (lv_room (by omega)) hd ⟨by omega, by omega⟩)
        · cases q
      · cases q
    · cases q
  case invokevirtual i =>
    obtain rfl := gp_len hi (k := 3) rfl (by decide)
    unfold gp_oki at hi
    rw [Bool.and_eq_true] at hi
    have hi2 := hi.2
    simp only [gp_exec] at q
    split at q
    · rename_i y' n mm qq hlk
      simp only [hlk, Bool.and_eq_true, Bool.not_eq_true'] at hi2
      have hq95 : qq < 95 := Nat.blt_eq.mp hi2.2
      have hq0 : qq ≠ 0 := fun z => by subst z; have := hi2.1; cases this
      obtain ⟨g1, g2, g3, g4, g5⟩ := gp_call_inv q
      obtain ⟨o, r, he, ho⟩ := g5 hq0
      cases g1
      obtain ⟨k1, k2, k3, k4, k5, k6, k7⟩ := gp_prep hts hlk hq95
      dsimp only at k1 k2 k3 k4 k5 k6 k7
      subst k3
      obtain ⟨w1, w2, w3, w4, w5, w6, w7, w8⟩ := gp_ckY_spec k1 k2
      have hst : gp_st y' = false := by
        cases z : gp_st y' with
        | false => rfl
        | true => exact absurd (k6 z) hq0
      have hqc : qq = y' / 256 + 1 := by
        rcases k7 hst with z | z
        · exact absurd z.1 hq0
        · exact z
      have hoc : (gp_sh h o).1 = y' / 256 := by rw [ho, hqc]; rfl
      have hyc : y' / 256 < 13 := gp_cls13 k1 k2 hst
      have hsel : Cond.selects (gp_mn y').cls (gp_mn y') (gp_mn y') ∈ gp_tt := by
        rcases (w8 hst).2 with z | z
        · exact absurd z (gp_noinit hlk hq0 hq95)
        · exact z
      have hM := ih _ rfl g3 w3 w5
      intro H locs cells slots lsR stR a1 a2 a3 a4 a5 a6
      obtain ⟨s1, s2⟩ := gp_sr_split n a3
      have hlen : (stR.take n).reverse.length = n := by rw [List.length_reverse, List.length_take, gp_sr_len a3]; omega
      have hcat := gp_sr_cat s2
      have s1' := gp_sr_rev s1
      have hpre : PreS s H (gp_Pre D b b0 (st.take n).reverse h) (stR.take n).reverse := ⟨gp_blind, fun U hU hW => ⟨⟨_, rfl, gp_sr_rev s1⟩, by rw [hU]; exact a1.moved hW.alike, hK.moved hW⟩⟩
      obtain ⟨As, hAs⟩ : ∃ As, (stR.take n).reverse = .ref (gp_ad b b0 o) :: As := by
        rw [he] at s1'
        match hq : (stR.take n).reverse, s1' with
        | v :: As, ⟨z1, _⟩ => cases z1; exact ⟨As, rfl⟩
      rw [hAs] at hlen hpre
      have hlen2 : As.length + 1 = n := by simpa using hlen
      have hstk : stR = As.reverse ++ .ref (gp_ad b b0 o) :: stR.drop n := by
        have z := congrArg List.reverse hAs
        rw [List.reverse_reverse, List.reverse_cons] at z
        have z2 := (List.take_append_drop n stR).symm
        rw [z, List.append_assoc] at z2
        exact z2
      have hpar : ∀ sig, parseMethodDescriptor (gp_mn y').desc = some sig → As.length = sig.parameters.length := fun sig hs => by
        have := k4 sig hs
        rw [hst] at this
        simp only [cond_false] at this
        omega
      have hfin := fun (hr : va_Run p l e R s m args below meth c H locs cells slots (gp_sz h1 - gp_sz h) (gp_us h1 - gp_us h) (F0 m pc lsR stR) (stR.drop n) (gp_Post D b b0 r1 h1 (Value.ref (gp_ad b b0 o) :: As).toArray) (fun q => b0 ≤ q)) =>
        gp_cont (Q := Q) hr a4 (fun H1 locs1 v ho hrel hl => kk _ _ _ _ _ _ hrel a2 (gp_rr_sr ho s2) hl (by omega) (by omega))
      have hcell : ∃ cellB : Cell, H[gp_ad b b0 o]? = some cellB ∧ cellB.vm.isStatics = false ∧ s.vm.findClass (gp_mn y').cls = some cellB.cls := by
        obtain ⟨-, cell, c1, c2, c3, -⟩ := a1.2.2.2.1 o (y' / 256) hyc hoc
        refine ⟨cell, c1, by rw [c3]; rfl, ?_⟩
        rw [w3, c2]
        exact (hK.1 (y' / 256) hyc).2.1
      have hpv : PreV s H (gp_mn y').cls (gp_ad b b0 o) (gp_Pre D b b0 (st.take n).reverse h) As := ⟨hpre.1, hcell, hpre.2⟩
      rcases k5 with k5 | k5
      · exact hfin (va_runV (Ts := gp_tt) (C := (gp_mn y').cls) ⟨hx, hb, hml, hown, hts⟩ hM ⟨⟨rfl, rfl, by show d + 1 + 1 ≤ _; omega, by show 8 + (gp_ml y' + 11) + (d + 1) * 100 ≤ _; omega, gp_pay hts w1, List.mem_cons_self, hts _ w1, hts _ w2, w6, hpar, k5⟩, hts _ (w8 hst).1, hts _ hsel⟩ hpv rfl rfl a2.2.1 hstk (lv_room (by omega)) hd ⟨by omega, by omega⟩)
      · exact hfin (va_runVN (Ts := gp_tt) (C := (gp_mn y').cls) ⟨hx, hb, hml, hown, hts⟩ hM ⟨⟨⟨rfl, rfl, by show d + 1 + 1 ≤ _; omega, by show 8 + (gp_ml y' + 11) + (d + 1) * 100 ≤ _; omega, gp_pay hts w1, List.mem_cons_self⟩, hts _ w1, hts _ w2, w6, hpar, (hK.2.1 _ k5).use rfl⟩, hts _ (w8 hst).1, hts _ hsel⟩ hpv rfl rfl a2.2.1 hstk (lv_room (by omega)) hd ⟨by omega, by omega⟩)
    · cases q
end GpFive
