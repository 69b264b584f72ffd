section GpThree
variable {p : Program} {l : Launch} {e : Env} {R : Room} {s : State} {m : MethodId} {args : Array Value} {below : List Frame} {meth : Method} {c : Code} {Q : State → Prop} {D : va_G} {b b0 : Nat} {h0 : gH} {y pc : Nat} {ls st : List gV} {h : gH}
theorem gp_br_inv {off : Int} {bb : Bool} {pc' : Nat} {ls' st' r : List gV} {h' : gH} (q : gp_br pc off bb ls r h = some (.inl (pc', ls', st', h'))) : (pc : Int) + off = (gp_to pc off : Int) ∧ ls' = ls ∧ st' = r ∧ h' = h ∧ (bb = true ∧ pc' = gp_to pc off ∨ bb = false ∧ pc' = pc + 3) := by
  unfold gp_br at q
  obtain ⟨h1, q⟩ := gp_cond_none q
  rw [decide_eq_true_eq] at h1
  have ht : (pc : Int) + off = (gp_to pc off : Int) := by unfold gp_to; omega
  cases bb with
  | true =>
    obtain ⟨rfl, rfl, rfl, rfl⟩ := gp_next_inj q
    exact ⟨ht, rfl, rfl, rfl, Or.inl ⟨rfl, rfl⟩⟩
  | false =>
    obtain ⟨rfl, rfl, rfl, rfl⟩ := gp_next_inj q
    exact ⟨ht, rfl, rfl, rfl, Or.inr ⟨rfl, rfl⟩⟩
theorem gp_sIf {k : ClassFile.Cond} {off : Int} {x : Int} {r : List gV} {pc' : Nat} {ls' st' : List gV} {h' : gH} {nL : Nat} {cc : ByteArray} (hx : p.tables.exec = Jvm.exec) (hb : c.code = cc) (hd : decode cc pc = .ok (.ifCond k off, 3)) (q : gp_br pc off (gp_ic k x 0) ls r h = some (.inl (pc', ls', st', h'))) (kk : gp_WW p l e R s m args below meth c Q D b b0 nL h0 pc' ls' st' h') : gp_WW p l e R s m args below meth c Q D b b0 nL h0 pc ls (gp_i x :: r) h := by
  obtain ⟨ht, rfl, rfl, rfl, hq⟩ := gp_br_inv q
  rcases hq with ⟨h1, rfl⟩ | ⟨h1, rfl⟩
  · have h2 := gp_ic_true h1
    refine gp_sBr (k1 := True) (k2 := False) (tgt := gp_to pc off) (fun {H locs cells slots lsR x' rest} hx' kt _ => ?_) (fun _ => kk) (fun z => z.elim)
    have e0 := gp_e0 hx'
    cases k with
    | eq => exact lv_if_eq hx hb hd ht (fun _ => kt trivial) (fun z => absurd (e0.1.mpr h2) z)
    | ne => exact lv_if_ne hx hb hd ht (fun _ => kt trivial) (fun z => absurd (e0.1.mp z) h2)
    | lt => exact lv_if_lt hx hb hd ht (fun _ => kt trivial) (fun z => absurd (e0.2.1.mpr h2) z)
    | ge => exact lv_if_ge hx hb hd ht (fun _ => kt trivial) (fun z => absurd (e0.2.2.2.1.mpr h2) z)
    | gt => exact lv_if_gt hx hb hd ht (fun _ => kt trivial) (fun z => absurd (e0.2.2.1.mpr h2) z)
    | le => exact lv_if_le hx hb hd ht (fun _ => kt trivial) (fun z => absurd (e0.2.2.2.2.mpr h2) z)
  · have h2 := gp_ic_false h1
    refine gp_sBr (k1 := False) (k2 := True) (tgt := gp_to pc off) (fun {H locs cells slots lsR x' rest} hx' _ kf => ?_) (fun z => z.elim) (fun _ => kk)
    have e0 := gp_e0 hx'
    cases k with
    | eq => exact lv_if_eq hx hb hd ht (fun z => absurd (e0.1.mp z) h2) (fun _ => kf trivial)
    | ne => exact lv_if_ne hx hb hd ht (fun z => absurd (e0.1.mpr h2) z) (fun _ => kf trivial)
    | lt => exact lv_if_lt hx hb hd ht (fun z => absurd (e0.2.1.mp z) h2) (fun _ => kf trivial)
    | ge => exact lv_if_ge hx hb hd ht (fun z => absurd h2 (e0.2.2.2.1.mp z)) (fun _ => kf trivial)
    | gt => exact lv_if_gt hx hb hd ht (fun z => absurd (e0.2.2.1.mp z) h2) (fun _ => kf trivial)
    | le => exact lv_if_le hx hb hd ht (fun z => absurd h2 (e0.2.2.2.2.mp z)) (fun _ => kf trivial)
theorem gp_sIc {k : ClassFile.Cond} {off : Int} {x w : Int} {r : List gV} {pc' : Nat} {ls' st' : List gV} {h' : gH} {nL : Nat} {cc : ByteArray} (hx : p.tables.exec = Jvm.exec) (hb : c.code = cc) (hd : decode cc pc = .ok (.if_icmp k off, 3)) (q : gp_br pc off (gp_ic k x w) ls r h = some (.inl (pc', ls', st', h'))) (kk : gp_WW p l e R s m args below meth c Q D b b0 nL h0 pc' ls' st' h') : gp_WW p l e R s m args below meth c Q D b b0 nL h0 pc ls (gp_i w :: gp_i x :: r) h := by
  obtain ⟨ht, rfl, rfl, rfl, hq⟩ := gp_br_inv q
  rcases hq with ⟨h1, rfl⟩ | ⟨h1, rfl⟩
  · have h2 := gp_ic_true h1
    refine gp_sBr2 (k1 := True) (k2 := False) (tgt := gp_to pc off) (fun {H locs cells slots lsR x' y' rest} hx' hy' kt _ => ?_) (fun _ => kk) (fun z => z.elim)
    have e0 := gp_e2 hx' hy'
    cases k with
    | eq => exact lv_icmp_eq hx hb hd ht (fun _ => kt trivial) (fun z => absurd (e0.1.mpr h2) z)
    | ne => exact lv_icmp_ne hx hb hd ht (fun _ => kt trivial) (fun z => absurd (e0.1.mp z) h2)
    | lt => exact lv_icmp_lt hx hb hd ht (fun _ => kt trivial) (fun z => absurd (e0.2.1.mpr h2) z)
    | ge => exact lv_icmp_ge hx hb hd ht (fun _ => kt trivial) (fun z => absurd (e0.2.2.2.1.mpr h2) z)
    | gt => exact lv_icmp_gt hx hb hd ht (fun _ => kt trivial) (fun z => absurd (e0.2.2.1.mpr h2) z)
    | le => exact lv_icmp_le hx hb hd ht (fun _ => kt trivial) (fun z => absurd (e0.2.2.2.2.mpr h2) z)
  · have h2 := gp_ic_false h1
    refine gp_sBr2 (k1 := False) (k2 := True) (tgt := gp_to pc off) (fun {H locs cells slots lsR x' y' rest} hx' hy' _ kf => ?_) (fun z => z.elim) (fun _ => kk)
    have e0 := gp_e2 hx' hy'
    cases k with
    | eq => exact lv_icmp_eq hx hb hd ht (fun z => absurd (e0.1.mp z) h2) (fun _ => kf trivial)
    | ne => exact lv_icmp_ne hx hb hd ht (fun z => absurd (e0.1.mpr h2) z) (fun _ => kf trivial)
    | lt => exact lv_icmp_lt hx hb hd ht (fun z => absurd (e0.2.1.mp z) h2) (fun _ => kf trivial)
    | ge => exact lv_icmp_ge hx hb hd ht (fun z => absurd h2 (e0.2.2.2.1.mp z)) (fun _ => kf trivial)
    | gt => exact lv_icmp_gt hx hb hd ht (fun z => absurd (e0.2.2.1.mp z) h2) (fun _ => kf trivial)
    | le => exact lv_icmp_le hx hb hd ht (fun z => absurd h2 (e0.2.2.2.2.mp z)) (fun _ => kf trivial)
theorem gp_sPop2 {P : gV → gV → Prop} {nL n : Nat} {w wb : gV} {r : List gV} (row : ∀ {v vb : Value}, gp_vr b b0 v w → gp_vr b b0 vb wb → ∀ {H : Heap} {locs : List Loc} {cells slots : Nat} {lsR : Array Slot} {rest : List Value}, W p l e R s m args below meth c H locs cells slots Q (F0 m n lsR rest) → W p l e R s m args below meth c H locs cells slots Q (F0 m pc lsR (v :: vb :: rest))) (k : gp_WW p l e R s m args below meth c Q D b b0 nL h0 n ls r h) : gp_WW p l e R s m args below meth c Q D b b0 nL h0 pc ls (w :: wb :: r) h := by
  intro H locs cells slots lsR stR a1 a2 a3 a4 a5 a6
  match stR, a3 with
  | v :: vb :: stR, ⟨h1, h2, a3⟩ => exact row h1 h2 (k _ _ _ _ _ _ a1 a2 a3 a4 a5 a6)
  | [_], ⟨_, a3⟩ => exact a3.elim
theorem gp_sPop1 {nL n : Nat} {w : gV} {r : List gV} (row : ∀ {v : Value}, gp_vr b b0 v w → ∀ {H : Heap} {locs : List Loc} {cells slots : Nat} {lsR : Array Slot} {rest : List Value}, lsR.size = nL → (rest.map fun v => v.category).sum = gp_cat r → W p l e R s m args below meth c H locs cells slots Q (F0 m n lsR rest) → W p l e R s m args below meth c H locs cells slots Q (F0 m pc lsR (v :: rest))) (k : gp_WW p l e R s m args below meth c Q D b b0 nL h0 n ls r h) : gp_WW p l e R s m args below meth c Q D b b0 nL h0 pc ls (w :: r) h := by
  intro H locs cells slots lsR stR a1 a2 a3 a4 a5 a6
  match stR, a3 with
  | v :: stR, ⟨h1, a3⟩ => exact row h1 a2.2.1 (gp_sr_cat a3) (k _ _ _ _ _ _ a1 a2 a3 a4 a5 a6)
theorem gp_vr_rf {v : Value} {x : Option Nat} (h : gp_vr b b0 v (gp_r x)) : v = va_rf (x.map (gp_ad b b0)) := by
  cases x with
  | none => exact h
  | some a => exact h
theorem gp_map_inj (hb : b < b0) {x x2 : Option Nat} (h : x.map (gp_ad b b0) = x2.map (gp_ad b b0)) : x = x2 := by
  cases x <;> cases x2 <;> simp at h ⊢
  exact gp_ad_inj hb h
set_option maxHeartbeats 4000000 in
/-- ONE STEP within a method -/
theorem gp_one (hb0 : b < b0) (Cx : gp_Cx p R s m args meth c D y) {ins : Instr} {len : Nat} (hP : gp_Pc y pc (ins, len)) {pc' : Nat} {ls' st' : List gV} {h' : gH} (q : gp_exec (y / 256) (gp_z y) ins len pc ls st h = some (.inl (pc', ls', st', h'))) (hR : gp_sz h' ≤ R.cells + gp_sz h0 ∧ gp_us h' ≤ R.slots + gp_us h0)
    (kk : gp_WW p l e R s m args below meth c Q D b b0 (gp_ml y) h0 pc' ls' st' h') : gp_WW p l e R s m args below meth c Q D b b0 (gp_ml y) h0 pc ls st h := by
  obtain ⟨hx, hb, hml, hown, hts, hK, hnm, hfr, hlo⟩ := Cx
  obtain ⟨hd, hi⟩ := hP
  unfold gp_exec at q
  split at q
  · obtain rfl := gp_len hi (k := 1) rfl (by decide); exact gp_sLoadA (fun hl kk => lv_aload_n hx hb hd rfl hl kk) (fun hl kk => lv_aload_nN hx hb hd rfl hl kk) q kk
  · obtain rfl := gp_len hi (k := 1) rfl (by decide); exact gp_sLoadI (fun hl kk => lv_iload_n hx hb hd rfl hl kk) q kk
  · obtain rfl := gp_len hi (k := 1) rfl (by decide); exact gp_sLoadL (fun hl kk => lv_lload_n hx hb hd rfl hl kk) q kk
  · obtain rfl := gp_len hi (k := 2) rfl (by decide); exact gp_sLoadA (fun hl kk => lv_aload hx hb hd hl kk) (fun hl kk => lv_aloadN hx hb hd hl kk) q kk
  · obtain rfl := gp_len hi (k := 2) rfl (by decide); exact gp_sLoadI (fun hl kk => lv_iload hx hb hd hl kk) q kk
  · obtain rfl := gp_len hi (k := 2) rfl (by decide); exact gp_sLoadL (fun hl kk => lv_lload hx hb hd hl kk) q kk
  · obtain rfl := gp_len hi (k := 1) rfl (by decide); exact gp_sStoreA (fun hl hn kk => lv_astore_n hx hb hd rfl hl hn rfl kk) (fun hl hn kk => lv_astore_nN hx hb hd rfl hl hn rfl kk) q kk
  · obtain rfl := gp_len hi (k := 1) rfl (by decide); exact gp_sStoreI (fun hl hn kk => lv_istore_n hx hb hd rfl hl hn rfl kk) q kk
  · obtain rfl := gp_len hi (k := 1) rfl (by decide); exact gp_sStoreL (fun hl hn kk => lv_lstore_n hx hb hd rfl hl hn rfl kk) q kk
  · obtain rfl := gp_len hi (k := 2) rfl (by decide); exact gp_sStoreA (fun hl hn kk => lv_astore hx hb hd hl hn rfl kk) (fun hl hn kk => lv_astoreN hx hb hd hl hn rfl kk) q kk
  · obtain rfl := gp_len hi (k := 2) rfl (by decide); exact gp_sStoreI (fun hl hn kk => lv_istore hx hb hd hl hn rfl kk) q kk
  · obtain rfl := gp_len hi (k := 2) rfl (by decide); exact gp_sStoreL (fun hl hn kk => lv_lstore hx hb hd hl hn rfl kk) q kk
  · obtain rfl := gp_len hi (k := 3) rfl (by decide)
    split at q
    · rename_i v hv
      obtain ⟨ho, q⟩ := gp_cond_none q
      obtain ⟨rfl, rfl, rfl, rfl⟩ := gp_next_inj q
      refine gp_sIinc hx hb hd ?_ hv ho kk
      unfold gp_oki at hi
      simp only [Bool.and_eq_true, decide_eq_true_eq] at hi
      exact ⟨hi.2.1, hi.2.2⟩
    · cases q
  · obtain rfl := gp_len hi (k := 1) rfl (by decide)
    obtain ⟨hg, q⟩ := gp_cond_none q
    obtain ⟨rfl, rfl, rfl, rfl⟩ := gp_next_inj q
    rw [Bool.and_eq_true, decide_eq_true_eq, decide_eq_true_eq] at hg
    exact gp_sPush (w := gp_i _) (fun kk => lv_iconst hx hb hd rfl kk) ⟨_, rfl, by rw [gp_ofI, gp_wr_id (by omega) (by omega)]⟩ kk
  · obtain rfl := gp_len hi (k := 2) rfl (by decide)
    obtain ⟨hg, q⟩ := gp_cond_none q
    obtain ⟨rfl, rfl, rfl, rfl⟩ := gp_next_inj q
    rw [Bool.and_eq_true, decide_eq_true_eq, decide_eq_true_eq] at hg
    exact gp_sPush (w := gp_i _) (fun kk => lv_bipush hx hb hd rfl kk) ⟨_, rfl, gp_bip hg.1 hg.2⟩ kk
  · obtain rfl := gp_len hi (k := 3) rfl (by decide)
    obtain ⟨hg, q⟩ := gp_cond_none q
    obtain ⟨rfl, rfl, rfl, rfl⟩ := gp_next_inj q
    rw [Bool.and_eq_true, decide_eq_true_eq, decide_eq_true_eq] at hg
    exact gp_sPush (w := gp_i _) (fun kk => lv_sipush hx hb hd rfl kk) ⟨_, rfl, gp_sip hg.1 hg.2⟩ kk
  · obtain rfl := gp_len hi (k := 1) rfl (by decide)
    obtain ⟨rfl, rfl, rfl, rfl⟩ := gp_next_inj q
    exact gp_sPush (w := gp_l _) (fun kk => lv_lconst hx hb hd rfl kk) ⟨_, rfl, rfl⟩ kk
  · obtain rfl := gp_len hi (k := 1) rfl (by decide)
    obtain ⟨rfl, rfl, rfl, rfl⟩ := gp_next_inj q
    exact gp_sPush (v := .null) (w := gp_r none) (fun kk => lv_null hx hb hd kk) rfl kk
  · obtain rfl := gp_len hi (k := 2) rfl (by decide)
    split at q
    · rename_i v hv
      obtain ⟨k1, k2, k3⟩ := gp_lkK_spec hv
      obtain ⟨rfl, rfl, rfl, rfl⟩ := gp_next_inj q
      exact gp_sPush (w := gp_i _) (fun kk => lv_ldc hx hb hown (hts _ k3) hd kk) ⟨_, rfl, by rw [gp_ofI, gp_wr_id k1 k2]⟩ kk
    · cases q
  · obtain rfl := gp_len hi (k := 3) rfl (by decide)
    split at q
    · rename_i v hv
      obtain ⟨k1, k2, k3⟩ := gp_lkK_spec hv
      obtain ⟨rfl, rfl, rfl, rfl⟩ := gp_next_inj q
      exact gp_sPush (w := gp_i _) (fun kk => lv_ldcw hx hb hown (hts _ k3) hd kk) ⟨_, rfl, by rw [gp_ofI, gp_wr_id k1 k2]⟩ kk
    · cases q
  · obtain rfl := gp_len hi (k := 3) rfl (by decide)
    split at q
    · rename_i v hv
      have k3 := gp_lkJ_spec hv
      obtain ⟨rfl, rfl, rfl, rfl⟩ := gp_next_inj q
      exact gp_sPush (w := gp_l _) (fun kk => lv_ldc2 hx hb hown (hts _ k3) hd kk) ⟨_, rfl, rfl⟩ kk
    · cases q
  · obtain rfl := gp_len hi (k := 1) rfl (by decide); exact gp_sBin (fun kk => lv_iadd hx hb hd kk) gp_addI q kk
  · obtain rfl := gp_len hi (k := 1) rfl (by decide); exact gp_sBin (fun kk => lv_isub hx hb hd kk) gp_subI q kk
  · obtain rfl := gp_len hi (k := 1) rfl (by decide); exact gp_sBin (fun kk => lv_imul hx hb hd kk) gp_mulI q kk
  · obtain rfl := gp_len hi (k := 1) rfl (by decide); exact gp_sBin (fun kk => lv_iand hx hb hd kk) gp_andI q kk
  · obtain rfl := gp_len hi (k := 1) rfl (by decide); exact gp_sBin (fun kk => lv_ior hx hb hd kk) gp_orI q kk
  · obtain rfl := gp_len hi (k := 1) rfl (by decide); exact gp_sBin (fun kk => lv_ixor hx hb hd kk) gp_xorI q kk
  · obtain rfl := gp_len hi (k := 1) rfl (by decide); exact gp_sBin (fun kk => lv_ishl hx hb hd kk) gp_shlI q kk
  · obtain rfl := gp_len hi (k := 1) rfl (by decide); exact gp_sBin (fun kk => lv_ishr hx hb hd kk) gp_shrI q kk
  · obtain rfl := gp_len hi (k := 1) rfl (by decide); exact gp_sBin (F := fun x y => (x.toUInt32 >>> (y.toUInt32 &&& Int32.toUInt32 31)).toInt32) (fun kk => lv_iushr hx hb hd rfl kk) gp_ushrI q kk
  · obtain rfl := gp_len hi (k := 1) rfl (by decide)
    split at q
    · obtain ⟨hg, q⟩ := gp_if_none q
      obtain ⟨rfl, rfl, rfl, rfl⟩ := gp_next_inj q
      refine gp_sTop2 (n := 1) (fun {v vb} h1 h2 => ?_) kk
      obtain ⟨y2, rfl, hy⟩ := h1
      obtain ⟨x2, rfl, hx2⟩ := h2
      exact ⟨.int (x2 / y2), ⟨_, rfl, by rw [gp_divI, hy, hx2]⟩, fun kk => lv_idiv hx hb hd (gp_ne0 (by rw [hy]; exact hg)) kk⟩
    · cases q
  · obtain rfl := gp_len hi (k := 1) rfl (by decide)
    split at q
    · obtain ⟨hg, q⟩ := gp_if_none q
      obtain ⟨rfl, rfl, rfl, rfl⟩ := gp_next_inj q
      refine gp_sTop2 (n := 1) (fun {v vb} h1 h2 => ?_) kk
      obtain ⟨y2, rfl, hy⟩ := h1
      obtain ⟨x2, rfl, hx2⟩ := h2
      have hne : ¬ y2 = 0 := gp_ne0 (by rw [hy]; exact hg)
      exact ⟨.int (x2 - x2 / y2 * y2), ⟨_, rfl, by rw [gp_remI _ _ hne, hy, hx2]⟩, fun kk => lv_irem hx hb hd hne kk⟩
    · cases q
  · obtain rfl := gp_len hi (k := 1) rfl (by decide); exact gp_sUn (fun kk => lv_ineg hx hb hd kk) gp_negI q kk
  · obtain rfl := gp_len hi (k := 1) rfl (by decide); exact gp_sUn (F := fun x => x.toInt8.toInt32) (fun kk => lv_i2b hx hb hd rfl kk) gp_bI q kk
  · obtain rfl := gp_len hi (k := 1) rfl (by decide); exact gp_sUn (F := fun x => x.toInt16.toInt32) (fun kk => lv_i2s hx hb hd rfl kk) gp_sI q kk
  · obtain rfl := gp_len hi (k := 1) rfl (by decide)
    split at q
    · obtain ⟨rfl, rfl, rfl, rfl⟩ := gp_next_inj q
      refine gp_sTop (n := 1) (fun {v} h1 => ?_) kk
      obtain ⟨x2, rfl, hx2⟩ := h1
      exact ⟨.long x2.toInt64, ⟨_, rfl, by rw [gp_i2lI, hx2]⟩, fun kk => lv_i2l hx hb hd rfl kk⟩
    · cases q
  · obtain rfl := gp_len hi (k := 1) rfl (by decide)
    split at q
    · obtain ⟨rfl, rfl, rfl, rfl⟩ := gp_next_inj q
      refine gp_sTop (n := 1) (fun {v} h1 => ?_) kk
      obtain ⟨x2, rfl, hx2⟩ := h1
      exact ⟨.int x2.toInt32, ⟨_, rfl, by rw [gp_l2iI, hx2]⟩, fun kk => lv_l2i hx hb hd rfl kk⟩
    · cases q
  · obtain rfl := gp_len hi (k := 1) rfl (by decide); exact gp_sBinL (fun kk => lv_ladd hx hb hd kk) (fun _ _ => rfl) q kk
  · obtain rfl := gp_len hi (k := 1) rfl (by decide); exact gp_sBinL (fun kk => lv_lsub hx hb hd kk) (fun _ _ => rfl) q kk
  · obtain rfl := gp_len hi (k := 1) rfl (by decide); exact gp_sBinL (fun kk => lv_land hx hb hd kk) (fun _ _ => rfl) q kk
  · obtain rfl := gp_len hi (k := 1) rfl (by decide); exact gp_sBinL (fun kk => lv_lor hx hb hd kk) (fun _ _ => rfl) q kk
  · obtain rfl := gp_len hi (k := 1) rfl (by decide); exact gp_sBinL (fun kk => lv_lxor hx hb hd kk) (fun _ _ => rfl) q kk
  · obtain rfl := gp_len hi (k := 1) rfl (by decide)
    split at q
    · obtain ⟨rfl, rfl, rfl, rfl⟩ := gp_next_inj q
      refine gp_sTop (n := 1) (fun {v} h1 => ?_) kk
      obtain ⟨x2, rfl, hx2⟩ := h1
      exact ⟨.long (-x2), ⟨_, rfl, by rw [← hx2]; rfl⟩, fun kk => lv_lneg hx hb hd kk⟩
    · cases q
  · obtain rfl := gp_len hi (k := 1) rfl (by decide); exact gp_sShf (F := fun x y => x <<< (y.toInt64 &&& 63)) (fun kk => lv_lshl hx hb hd rfl kk) gp_lshlI q kk
  · obtain rfl := gp_len hi (k := 1) rfl (by decide); exact gp_sShf (F := fun x y => x >>> (y.toInt64 &&& 63)) (fun kk => lv_lshr hx hb hd rfl kk) gp_lshrI q kk
  · obtain rfl := gp_len hi (k := 1) rfl (by decide); exact gp_sShf (F := fun x y => (x.toUInt64 >>> (y.toInt64.toUInt64 &&& Int64.toUInt64 63)).toInt64) (fun kk => lv_lushr hx hb hd rfl kk) gp_lushrI q kk
  · obtain rfl := gp_len hi (k := 1) rfl (by decide)
    split at q
    · obtain ⟨rfl, rfl, rfl, rfl⟩ := gp_next_inj q
      refine gp_sTop2 (n := 1) (fun {v vb} h1 h2 => ?_) kk
      obtain ⟨y2, rfl, hy⟩ := h1
      obtain ⟨x2, rfl, hx2⟩ := h2
      exact ⟨.int (lg_cmp x2 y2), ⟨_, rfl, by rw [gp_lcI, hy, hx2]⟩, fun kk => W.lcmp hx hb hd kk⟩
    · cases q
  · obtain rfl := gp_len hi (k := 1) rfl (by decide)
    split at q
    · obtain ⟨rfl, rfl, rfl, rfl⟩ := gp_next_inj q
      intro H locs cells slots lsR stR a1 a2 a3 a4 a5 a6
      match stR, a3 with
      | v :: stR, ⟨h1, a3⟩ => exact lv_dup hx hb hd (by rw [gp_vr_cat h1]; rfl) (kk _ _ _ _ _ _ a1 a2 ⟨h1, h1, a3⟩ a4 a5 a6)
    · obtain ⟨rfl, rfl, rfl, rfl⟩ := gp_next_inj q
      intro H locs cells slots lsR stR a1 a2 a3 a4 a5 a6
      match stR, a3 with
      | v :: stR, ⟨h1, a3⟩ => exact lv_dup hx hb hd (by rw [gp_vr_cat h1]; rfl) (kk _ _ _ _ _ _ a1 a2 ⟨h1, h1, a3⟩ a4 a5 a6)
    · cases q
  · obtain rfl := gp_len hi (k := 1) rfl (by decide)
    split at q
    · obtain ⟨rfl, rfl, rfl, rfl⟩ := gp_next_inj q
      intro H locs cells slots lsR stR a1 a2 a3 a4 a5 a6
      match stR, a3 with
      | v :: vb :: stR, ⟨h1, h2, a3⟩ => exact lv_dup2_11 hx hb hd (by rw [gp_vr_cat h1]; rfl) (by rw [gp_vr_cat h2]; rfl) (kk _ _ _ _ _ _ a1 a2 ⟨h1, h2, h1, h2, a3⟩ a4 a5 a6)
      | [_], ⟨_, a3⟩ => exact a3.elim
    · obtain ⟨rfl, rfl, rfl, rfl⟩ := gp_next_inj q
      intro H locs cells slots lsR stR a1 a2 a3 a4 a5 a6
      match stR, a3 with
      | v :: stR, ⟨h1, a3⟩ => exact lv_dup2_2 hx hb hd (by rw [gp_vr_cat h1]; rfl) (kk _ _ _ _ _ _ a1 a2 ⟨h1, h1, a3⟩ a4 a5 a6)
    · cases q
  · obtain rfl := gp_len hi (k := 1) rfl (by decide)
    split at q
    · obtain ⟨rfl, rfl, rfl, rfl⟩ := gp_next_inj q
      exact gp_sPop1 (fun {v} h1 H locs cells slots lsR rest _ _ kk => lv_pop hx hb hd (by rw [gp_vr_cat h1]; rfl) kk) kk
    · obtain ⟨rfl, rfl, rfl, rfl⟩ := gp_next_inj q
      exact gp_sPop1 (fun {v} h1 H locs cells slots lsR rest _ _ kk => lv_pop hx hb hd (by rw [gp_vr_cat h1]; rfl) kk) kk
    · cases q
  · obtain rfl := gp_len hi (k := 3) rfl (by decide)
    obtain ⟨ht, rfl, rfl, rfl⟩ := gp_sJmp q
    intro H locs cells slots lsR stR a1 a2 a3 a4 a5 a6
    exact lv_goto hx hb hd ht (kk _ _ _ _ _ _ a1 a2 a3 a4 a5 a6)
  · obtain rfl := gp_len hi (k := 3) rfl (by decide)
    split at q
    · exact gp_sIf hx hb hd q kk
    · cases q
  · obtain rfl := gp_len hi (k := 3) rfl (by decide)
    split at q
    · exact gp_sIc hx hb hd q kk
    · cases q
  · obtain rfl := gp_len hi (k := 3) rfl (by decide)
    split at q
    · rename_i w2 w1 r
      split at q
      · obtain ⟨ht, rfl, rfl, rfl, hq⟩ := gp_br_inv q
        refine gp_sPop2 (P := fun _ _ => True) (fun {v vb} h1 h2 H locs cells slots lsR rest kk => ?_) kk
        rw [gp_vr_rf h1, gp_vr_rf h2]
        rcases hq with ⟨h3, rfl⟩ | ⟨h3, rfl⟩
        · rw [decide_eq_true_eq] at h3
          exact lv_acmp_eq hx hb hd ht (fun _ => kk) (fun z => absurd (by rw [h3]) z)
        · rw [decide_eq_false_iff_not] at h3
          exact lv_acmp_eq hx hb hd ht (fun z => absurd (gp_map_inj hb0 z) h3) (fun _ => kk)
      · obtain ⟨ht, rfl, rfl, rfl, hq⟩ := gp_br_inv q
        refine gp_sPop2 (P := fun _ _ => True) (fun {v vb} h1 h2 H locs cells slots lsR rest kk => ?_) kk
        rw [gp_vr_rf h1, gp_vr_rf h2]
        rcases hq with ⟨h3, rfl⟩ | ⟨h3, rfl⟩
        · simp only [Bool.not_eq_true', decide_eq_false_iff_not] at h3
          exact lv_acmp_ne hx hb hd ht (fun _ => kk) (fun z => absurd (gp_map_inj hb0 z) h3)
        · simp only [Bool.not_eq_false', decide_eq_true_eq] at h3
          exact lv_acmp_ne hx hb hd ht (fun z => absurd (by rw [h3]) z) (fun _ => kk)
    · cases q
  · obtain rfl := gp_len hi (k := 3) rfl (by decide)
    split at q
    · split at q
      · obtain ⟨rfl, rfl, rfl, rfl⟩ := gp_next_inj q
        exact gp_sPop1 (fun {v} h1 H locs cells slots lsR rest _ _ kk => by cases h1; exact lv_ifnonnullN hx hb hd kk) kk
      · obtain ⟨ht, rfl, rfl, rfl⟩ := gp_sJmp q
        exact gp_sPop1 (fun {v} h1 H locs cells slots lsR rest _ _ kk => by cases h1; exact lv_ifnonnull hx hb hd ht kk) kk
    · cases q
  · split at q
    · split at q
      · rename_i hg
        obtain ⟨ht, rfl, rfl, rfl⟩ := gp_sJmp q
        exact gp_sPop1 (fun {v} h1 H locs cells slots lsR rest _ _ kk => by obtain ⟨x2, rfl, hx2⟩ := h1; exact lv_tableOut hx hb hd (by rw [hx2]; exact hg) ht kk) kk
      · rename_i hg
        split at q
        · rename_i o ho
          obtain ⟨ht, rfl, rfl, rfl⟩ := gp_sJmp q
          exact gp_sPop1 (fun {v} h1 H locs cells slots lsR rest _ _ kk => by obtain ⟨x2, rfl, hx2⟩ := h1; exact lv_tableIn hx hb hd (by rw [hx2]; exact fun z => hg (Or.inl z)) (by rw [hx2]; exact fun z => hg (Or.inr z)) (by rw [hx2]; exact ho) ht kk) kk
        · cases q
    · cases q
  · obtain rfl := gp_len hi (k := 1) rfl (by decide)
    split at q
    · obtain ⟨⟨g1, g2⟩, q⟩ := gp_if_none q
      obtain ⟨rfl, rfl, rfl, rfl⟩ := gp_next_inj q
      exact gp_sLen hx hb hd g1.1 g1.2 g2 kk
    · cases q
  · obtain rfl := gp_len hi (k := 1) rfl (by decide)
    split at q
    · obtain ⟨hg, q⟩ := gp_if_none q
      obtain ⟨rfl, rfl, rfl, rfl⟩ := gp_next_inj q
      rcases hg with hg | hg
      · exact gp_sAld (k := 100) (by decide) (by decide) hg (fun z1 z2 z3 z4 z5 kk => W.iald hx hb z1 z2 z3 z4 z5 rfl rfl hd kk) kk
      · exact gp_sAldS hx hb hd hg kk
    · cases q
  · obtain rfl := gp_len hi (k := 1) rfl (by decide)
    split at q
    · obtain ⟨hg, q⟩ := gp_if_none q
      obtain ⟨rfl, rfl, rfl, rfl⟩ := gp_next_inj q
      exact gp_sAld (k := 102) (by decide) (by decide) hg (fun z1 z2 z3 z4 z5 kk => W.bald hx hb z1 z2 z3 z4 z5 rfl rfl hd kk) kk
    · cases q
  · obtain rfl := gp_len hi (k := 1) rfl (by decide)
    split at q
    · obtain ⟨hg, q⟩ := gp_if_none q
      obtain ⟨rfl, rfl, rfl, rfl⟩ := gp_next_inj q
      exact gp_sAld (k := 101) (by decide) (by decide) hg (fun z1 z2 z3 z4 z5 kk => W.lald hx hb z1 z2 z3 z4 z5 rfl rfl hd kk) kk
    · cases q
  · obtain rfl := gp_len hi (k := 1) rfl (by decide)
    split at q
    · obtain ⟨hg, q⟩ := gp_if_none q
      obtain ⟨rfl, rfl, rfl, rfl⟩ := gp_next_inj q
      rcases hg with hg | hg
      · exact gp_sAld (k := 103) (by decide) (by decide) hg (fun z1 z2 z3 z4 z5 kk => W.aald hx hb z1 z2 rfl z3 z4 z5 rfl rfl hd kk) kk
      · exact gp_sAld (k := 104) (by decide) (by decide) hg (fun z1 z2 z3 z4 z5 kk => W.aald hx hb z1 z2 rfl z3 z4 z5 rfl rfl hd kk) kk
    · cases q
  · obtain rfl := gp_len hi (k := 1) rfl (by decide)
    split at q
    · obtain ⟨hg, q⟩ := gp_if_none q
      obtain ⟨rfl, rfl, rfl, rfl⟩ := gp_next_inj q
      exact gp_sAst (k := 100) (w2 := gp_i _) (by decide) (by decide) hg ⟨by decide, by decide⟩ (fun v => v) (fun _ z => z) (fun _ hv z1 z2 z3 z4 z5 kk => by obtain ⟨x, rfl, -⟩ := hv; exact W.iast hx hb z1 z2 (by rw [z4]; intro q; cases q) z5 rfl rfl hd kk) kk
    · cases q
  · obtain rfl := gp_len hi (k := 1) rfl (by decide)
    split at q
    · obtain ⟨hg, q⟩ := gp_if_none q
      obtain ⟨rfl, rfl, rfl, rfl⟩ := gp_next_inj q
      exact gp_sAst (k := 102) (w2 := gp_i (gp_b _)) (by decide) (by decide) hg ⟨by decide, by decide⟩ (fun v => narrow .byte v) (fun v z => by obtain ⟨x, rfl, hx2⟩ := z; exact ⟨x.toInt8.toInt32, rfl, by rw [gp_bI, hx2]⟩) (fun _ hv z1 z2 z3 z4 z5 kk => by obtain ⟨x, rfl, -⟩ := hv; exact W.bast hx hb z1 z2 (by rw [z4]; intro q; cases q) z5 rfl rfl hd kk) kk
    · cases q
  · obtain rfl := gp_len hi (k := 1) rfl (by decide)
    split at q
    · obtain ⟨hg, q⟩ := gp_if_none q
      obtain ⟨rfl, rfl, rfl, rfl⟩ := gp_next_inj q
      exact gp_sAst (k := 101) (w2 := gp_l _) (by decide) (by decide) hg rfl (fun v => v) (fun _ z => z) (fun _ hv z1 z2 z3 z4 z5 kk => by obtain ⟨x, rfl, -⟩ := hv; exact W.last hx hb z1 z2 (by rw [z4]; intro q; cases q) z5 rfl rfl hd kk) kk
    · cases q
  · obtain rfl := gp_len hi (k := 1) rfl (by decide)
    split at q
    · obtain ⟨⟨hg, hv9⟩, q⟩ := gp_if_none q
      obtain ⟨rfl, rfl, rfl, rfl⟩ := gp_next_inj q
      refine gp_sAst (k := 103) (w2 := gp_r (some _)) (by decide) (by decide) hg rfl (fun v => v) (fun _ z => z) (fun {H locs cells slots lsR rest a cell j v} a1 hv z1 z2 z3 z4 z5 kk => ?_) kk
      cases hv
      obtain ⟨kA, comp, k1, k2, k3, -⟩ := z3
      obtain ⟨-, cv, v1, v2, v3, -⟩ := a1.2.2.2.1 _ 9 (by decide) hv9
      have hcls := (hK.1 9 (by decide)).2
      have hcomp : comp = D.1 9 := Option.some.inj (k3.symm.trans hcls.1)
      subst hcomp
      obtain ⟨kC, hkC, -⟩ := hcls.2
      exact W.aast hx hb z1 (fun q z => by rw [z4] at z; cases z) (fun z => by rw [z4] at z; cases z) k1 k2 rfl hkC ⟨fun z => z5 (Or.inl z), Nat.not_le.mp fun z => z5 (Or.inr z)⟩ v1 (fun q z => by rw [v3] at z; cases z) (by rw [v2]; exact hkC) (by rw [v2]; exact va_assign hcls) rfl rfl hd kk
    · cases q
  · obtain rfl := gp_len hi (k := 3) rfl (by decide)
    split at q
    · rename_i k qq f hlk
      obtain ⟨f1, f2, f3, f4⟩ := gp_lkF_spec hlk
      have f3 : k = gp_fk (gp_ty qq f) := f3
      subst f3
      unfold gp_getf at q
      split at q
      · rename_i o r
        obtain ⟨hg, q⟩ := gp_if_none q
        refine gp_sGet hx hb hts hK hown f1 f2 (hts _ f4) hd hg ?_
        have e : gp_next (pc + 3) ls (gp_fv h (gp_fk (gp_ty qq f)) o f :: r) h = some (.inl (pc', ls', st', h')) := by
          rw [← q]
          generalize gp_fk (gp_ty qq f) = k0
          match k0 with
          | 0 => rfl
          | 1 => rfl
          | 2 => rfl
          | _ + 3 => rfl
        obtain ⟨rfl, rfl, rfl, rfl⟩ := gp_next_inj e
        exact kk
      · cases q
    · cases q
  · obtain rfl := gp_len hi (k := 3) rfl (by decide)
    split at q
    · rename_i k qq f hlk
      obtain ⟨f1, f2, f3, f4⟩ := gp_lkF_spec hlk
      have f3 : k = gp_fk (gp_ty qq f) := f3
      subst f3
      have hfin : (gp_T qq f).2.2.2 = true → gp_cn (y / 256) = gp_cn qq ∧ meth.name = "<init>" := by
        intro hf
        unfold gp_oki at hi
        rw [Bool.and_eq_true] at hi
        have h2 := hi.2
        simp only [hlk, hf, Bool.not_true, Bool.false_or, Bool.and_eq_true, decide_eq_true_eq] at h2
        exact ⟨by rw [Nat.eq_of_beq_eq_true h2.1], hnm h2.2⟩
      have hk5 := gp_F5 qq f1 f f2
      unfold gp_putf at q
      split at q
      · obtain ⟨⟨hg, hk⟩, q⟩ := gp_if_none q
        obtain ⟨rfl, rfl, rfl, rfl⟩ := gp_next_inj q
        refine gp_sPut (w := gp_i _) hx hb hts hK hown f1 f2 (hts _ f4) hfin hd hg ?_ ?_ kk
        · rcases hk with hk | ⟨hk, -⟩ <;> rw [hk] <;> exact ⟨by decide, by decide⟩
        · intro v hv
          obtain ⟨x, rfl, hx2⟩ := hv
          cases hty : gp_ty qq f with
          | int => exact ⟨rfl, rfl⟩
          | boolean =>
            rcases hk with hk | ⟨-, hk⟩
            · rw [hty] at hk; cases hk
            · rcases hk with hk | hk
              · have : x = 0 := Int32.toInt_inj.mp (by rw [hx2, hk]; rfl)
                subst this; exact ⟨rfl, rfl⟩
              · have : x = 1 := Int32.toInt_inj.mp (by rw [hx2, hk]; rfl)
                subst this; exact ⟨rfl, rfl⟩
          | long => rcases hk with hk | ⟨hk, -⟩ <;> rw [hty] at hk <;> cases hk
          | object _ => rcases hk with hk | ⟨hk, -⟩ <;> rw [hty] at hk <;> cases hk
          | array _ => rcases hk with hk | ⟨hk, -⟩ <;> rw [hty] at hk <;> cases hk
          | _ => rw [hty] at hk5; cases hk5
      · obtain ⟨⟨hg, hk⟩, q⟩ := gp_if_none q
        obtain ⟨rfl, rfl, rfl, rfl⟩ := gp_next_inj q
        refine gp_sPut (w := gp_l _) hx hb hts hK hown f1 f2 (hts _ f4) hfin hd hg hk ?_ kk
        intro v hv
        obtain ⟨x, rfl, hx2⟩ := hv
        cases hty : gp_ty qq f with
        | long => exact ⟨rfl, rfl⟩
        | int => rw [hty] at hk; cases hk
        | boolean => rw [hty] at hk; cases hk
        | object _ => rw [hty] at hk; cases hk
        | array _ => rw [hty] at hk; cases hk
        | _ => rw [hty] at hk5; cases hk5
      · rename_i v o r
        obtain ⟨⟨hg, hk⟩, q⟩ := gp_if_none q
        obtain ⟨rfl, rfl, rfl, rfl⟩ := gp_next_inj q
        refine gp_sPut (w := gp_r v) hx hb hts hK hown f1 f2 (hts _ f4) hfin hd hg hk ?_ kk
        intro v2 hv
        cases hty : gp_ty qq f with
        | object _ => cases v <;> cases hv <;> exact ⟨rfl, rfl⟩
        | array _ => cases v <;> cases hv <;> exact ⟨rfl, rfl⟩
        | int => rw [hty] at hk; cases hk
        | boolean => rw [hty] at hk; cases hk
        | long => rw [hty] at hk; cases hk
        | _ => rw [hty] at hk5; cases hk5
      · cases q
    · cases q
  · obtain rfl := gp_len hi (k := 3) rfl (by decide)
    split at q
    · rename_i qq n hlk
      obtain ⟨f1, f2, f3, f4, f5⟩ := gp_lkC_spec hlk
      have f2 : n = gp_N qq := f2
      subst f2
      obtain ⟨rfl, rfl, rfl, rfl⟩ := gp_next_inj q
      exact gp_sNew hx hb hts hK hown f1 (hts _ f3) (hts _ f4) (hts _ f5) hd hR kk
    · cases q
  · obtain rfl := gp_len hi (k := 2) rfl (by decide)
    split at q
    · obtain ⟨hg, q⟩ := gp_if_none q
      split at q
      · obtain ⟨rfl, rfl, rfl, rfl⟩ := gp_next_inj q
        exact gp_sNewa (t := .int) (k := 100) hx hb (hts _ (gp_has_in gp_oW6)) (by decide) rfl hd hg hR kk
      · obtain ⟨rfl, rfl, rfl, rfl⟩ := gp_next_inj q
        exact gp_sNewa (t := .long) (k := 101) hx hb (hts _ (gp_has_in gp_oW7)) (by decide) rfl hd hg hR kk
      · obtain ⟨rfl, rfl, rfl, rfl⟩ := gp_next_inj q
        exact gp_sNewa (t := .byte) (k := 102) hx hb (hts _ (gp_has_in gp_oW8)) (by decide) rfl hd hg hR kk
      · cases q
    · cases q
  · obtain rfl := gp_len hi (k := 3) rfl (by decide)
    split at q
    · rename_i qq n hlk
      obtain ⟨f1, f2, f3, f4, f5⟩ := gp_lkC_spec hlk
      split at q
      · obtain ⟨⟨g1, g2, g3⟩, q9⟩ := gp_if_none q
        obtain ⟨rfl, rfl, rfl, rfl⟩ := gp_next_inj q9
        have g3 : qq = 9 := g3
        subst g3
        exact gp_sANew hx hb hown (hts _ f3) hK.2.2.1.use hd ⟨g1, g2⟩ hR kk
      · cases q
    · cases q
  · obtain rfl := gp_len hi (k := 4) rfl (by decide)
    split at q
    · obtain ⟨⟨g1, g2, g3, g4⟩, q⟩ := gp_if_none q
      obtain ⟨rfl, rfl, rfl, rfl⟩ := gp_next_inj q
      refine gp_sMna hx hb hown ?_ (show (Cond.arrayOver (.array .int)).before args s = true from hK.2.2.2) (hts _ (gp_has_in gp_oW6)) hd ⟨g1, g2⟩ ⟨g3, g4⟩ hR kk
      unfold gp_oki at hi
      rw [Bool.and_eq_true] at hi
      exact hts _ (gp_has_in hi.2)
    · cases q
  · split at q
    · obtain ⟨h1, -⟩ := gp_call_inv q
      cases h1
    · cases q
  · obtain rfl := gp_len hi (k := 3) rfl (by decide)
    split at q
    · rename_i yy n mm qq hlk
      obtain ⟨ck, e1, e2⟩ := gp_lkM_spec hlk
      unfold gp_ckM at ck
      rw [e1, e2] at ck
      split at q
      · unfold gp_acp at q
        split at q
        · obtain ⟨hg, q⟩ := gp_if_none q
          obtain ⟨rfl, rfl, rfl, rfl⟩ := gp_next_inj q
          have hnf : nativeFrameWords "java/lang/System" "arraycopy" 5 ≤ 60 := by decide
          exact gp_sAcp hx hb hml hown (hts _ (gp_has_in ck)) (hts _ (gp_has_in gp_oW3)) (hts _ (gp_has_in gp_oW4)) (hts _ (gp_has_in gp_oW5)) hd hfr (by omega) hg.1 hg.2 kk
        · cases q
      · obtain ⟨x, w, r, rfl, g1, rfl, rfl, rfl, rfl⟩ := gp_mth_inv q
        exact gp_sMth g1 (fun z1 z2 z3 z4 kk => va_mmax hx hb z1 hown (hts _ (gp_has_in ck)) (hts _ (gp_has_in gp_mS_max)) (hts _ (gp_has_in gp_mW1)) (hts _ (gp_has_in gp_mC_max)) hfr z2 z3 z4 hd kk) hml hlo hR gp_mxI kk
      · obtain ⟨x, w, r, rfl, g1, rfl, rfl, rfl, rfl⟩ := gp_mth_inv q
        exact gp_sMth g1 (fun z1 z2 z3 z4 kk => va_mmin hx hb z1 hown (hts _ (gp_has_in ck)) (hts _ (gp_has_in gp_mS_min)) (hts _ (gp_has_in gp_mW1)) (hts _ (gp_has_in gp_mC_min)) hfr z2 z3 z4 hd kk) hml hlo hR gp_miI kk
      · split at q
        · obtain ⟨g1, q⟩ := gp_if_none q
          obtain ⟨rfl, rfl, rfl, rfl⟩ := gp_next_inj q
          intro H locs cells slots lsR stR a1 a2 a3 a4 a5 a6
          match stR, a3 with
          | _ :: stR, ⟨⟨y2, hy1, hy2⟩, a3⟩ =>
            subst hy1
            have := gp_sr_cat a3
            exact va_mabs hx hb (by rw [hml, a2.2.1]) hown (hts _ (gp_has_in ck)) (hts _ (gp_has_in gp_mS_abs)) (hts _ (gp_has_in gp_mW1)) (hts _ (gp_has_in gp_mC_abs)) hfr (by omega) (by omega) (by omega) hd (kk _ _ _ _ _ _ a1 a2 ⟨⟨_, rfl, by rw [gp_abI, hy2]⟩, a3⟩ a4 a5 a6)
        · cases q
      · obtain ⟨h1, -⟩ := gp_call_inv q
        cases h1
      · cases q
    · cases q
  · obtain rfl := gp_len hi (k := 3) rfl (by decide)
    split at q
    · rename_i yy n mm qq hlk
      obtain ⟨ck, e1, e2⟩ := gp_lkM_spec hlk
      unfold gp_ckM at ck
      rw [e1, e2] at ck
      split at q
      · split at q
        · obtain ⟨g0, q⟩ := gp_if_none q
          obtain ⟨rfl, rfl, rfl, rfl⟩ := gp_next_inj q
          refine gp_sPop1 (fun {v} h1 H locs cells slots lsR rest z1 z2 kk => ?_) kk
          cases h1
          exact W.objInit hx hb hown (hts _ (gp_has_in ck)) (hts _ (gp_has_in gp_oW1)) (hts _ (gp_has_in gp_oW2)) rfl (by rw [hml]; exact z1) rfl hd hfr (by show 2 * 0 + _ + 12 ≤ _; omega) kk
        · cases q
      · split at q
        · obtain ⟨h1, -⟩ := gp_call_inv q
          cases h1
        · cases q
      · cases q
    · cases q
  · split at q
    · revert q; cases gp_z y <;> intro q
      · cases q
      · obtain ⟨-, q⟩ := gp_if_none q; cases q
    · cases q
  · split at q <;> cases q
  · split at q <;> cases q
  · split at q <;> cases q
  · cases q
end GpThree
