/-! the reference's sets, by numbers -/
theorem TOI_core {f g : Nat → ND} {at_ pl : Nat → Nat} {w : BitVec 64} {r nxt n node : Nat} (h : TOI f at_ w r nxt pl g) (hb : BDP f n) (hd : DIS f n) (hnode : node < n) (h64 : node < 64) (hw : w = clo (mskf f) node (1#64 <<< node)) (rng : ∀ q, q < r → w.getLsbD (at_ q) = true → at_ q < n) (all : ∀ k, w.getLsbD k = true → ∃ q, q < r ∧ at_ q = k) (root : ∃ q0, q0 < r ∧ at_ q0 = node ∧ pl (at_ q0) = nxt - 1) : TBL g nxt ∧ val g (nxt - 1) = val f node ∧ ∀ i, i < nxt → ∃ k, k < n ∧ val f k = val g i := by
  have rw_ : ∀ k, w.getLsbD k = true ↔ ∃ m, rch f m node k := fun k => by rw [hw]; exact clo_rch (fun i hi => hb i (by omega)) h64 k
  have wn : w.getLsbD node = true := (rw_ node).mpr ⟨0, rfl⟩
  have bk : ∃ b : Nat → Nat, ∀ i, i < nxt → b i < r ∧ w.getLsbD (at_ (b i)) = true ∧ pl (at_ (b i)) = i := by
    refine ⟨fun i => if c : ∃ q, q < r ∧ w.getLsbD (at_ q) = true ∧ pl (at_ q) = i then Classical.choose c else 0, fun i hi => ?_⟩
    have c := h.2.1 i hi
    simp only [dif_pos c]
    exact Classical.choose_spec c
  obtain ⟨b, hb2⟩ := bk
  obtain ⟨q0, q01, q02, root⟩ := root
  have z0 := h.1 q0 q01 (by rw [q02]; exact wn)
  have vr : val g (nxt - 1) = val f node := by rw [← root, z0.2, q02]
  have ginj : ∀ i j, i < nxt → j < nxt → val g i = val g j → i = j := fun i j hi hj q => by
    have a1 := hb2 i hi
    have a2 := hb2 j hj
    have v1 := h.1 _ a1.1 a1.2.1
    have v2 := h.1 _ a2.1 a2.2.1
    rw [a1.2.2] at v1
    rw [a2.2.2] at v2
    have := val_inj hb hd n (Nat.le_refl _) (at_ (b i)) (at_ (b j)) (rng _ a1.1 a1.2.1) (rng _ a2.1 a2.2.1) (by rw [← v1.2, ← v2.2, q])
    rw [← a1.2.2, ← a2.2.2, this]
  refine ⟨⟨by omega, h.2.2, fun i j hi hj q => ginj i j hi hj ?_, fun i hi => ?_⟩, vr, fun i hi => ?_⟩
  · rw [val_e, val_e, q]
    have u : ∀ x : BitVec 64, (∀ k : Nat, x.getLsbD k = true → k < i ∧ k < j) → cset x (val g) i = cset x (val g) j := fun x hx => by
      rw [← cset_ub (n := i + j) (fun k hk => (hx k hk).1) (by omega), ← cset_ub (n := i + j) (fun k hk => (hx k hk).2) (by omega)]
    rw [u _ (fun k hk => ⟨h.2.2 i hi k (Or.inl (by rw [q]; exact hk)), h.2.2 j hj k (Or.inl hk)⟩), u _ (fun k hk => ⟨h.2.2 i hi k (Or.inr (by rw [q]; exact hk)), h.2.2 j hj k (Or.inr hk)⟩)]
  · have a1 := hb2 i hi
    obtain ⟨m, hm⟩ := (rw_ _).mp a1.2.1
    obtain ⟨k', c1, c2⟩ := rch_val m node (nxt - 1) _ vr.symm hm
    have v1 := h.1 _ a1.1 a1.2.1
    rw [a1.2.2] at v1
    have le2 := rch_le _ _ _ c1
    have : k' = i := ginj k' i (by omega) hi (c2.trans v1.2.symm)
    rw [← this]; exact ⟨m, c1⟩
  · have a1 := hb2 i hi
    have v1 := h.1 _ a1.1 a1.2.1
    rw [a1.2.2] at v1
    exact ⟨_, rng _ a1.1 a1.2.1, v1.2.symm⟩
def TM (s : gH) (g : Nat) : Nat → ND := fun k => (gp_L s 76 (64 * g + k), gp_L s 77 (64 * g + k), gp_I s 78 (64 * g + k), gp_I s 79 (64 * g + k))
def MP (s : gH) : AP := ((gp_I s 81 20).toNat, fun k => (mL s k, mR s k, mA s k, mB s k))
def GVM (s : gH) : Prop := GV (MP s)
theorem MP_RV {s : gH} (h : 0 ≤ gp_I s 81 20) : RVm s (MP s) := ⟨by show gp_I s 81 20 = ((gp_I s 81 20).toNat : Nat); omega, fun _ _ => rfl⟩
theorem MP_ag {s : gH} {P : AP} (h : RVm s P) : (MP s).1 = P.1 ∧ ∀ k, k < P.1 → (MP s).2 k = P.2 k := ⟨by have := h.1; show (gp_I s 81 20).toNat = _; omega, fun k hk => h.2 k hk⟩
theorem GVM_0 {s : gH} (h : gp_I s 81 20 = 0) : GVM s := GV_ag GV_0 (by show (gp_I s 81 20).toNat = 0; omega) (fun k hk => absurd hk (Nat.not_lt_zero _))
theorem PS_m0 {s : gH} (h : gp_I s 81 20 = 0) (y : Nat) : ¬ PS (MP s) y := fun ⟨k, hk, _⟩ => by
  have : k < (gp_I s 81 20).toNat := hk
  omega
theorem MP_fr {m f : List Nat} {s t : gH} (h : gF m f s t) (e0 : m.contains 76 = false) (e1 : m.contains 77 = false) (e2 : m.contains 78 = false) (e3 : m.contains 79 = false) (e : gp_I t 81 20 = gp_I s 81 20) : MP t = MP s := by
  have x : ∀ a k, a ≠ 74 → m.contains a = false → gp_I t a k = gp_I s a k ∧ gp_L t a k = gp_L s a k := fun a k h1 h2 => h.2 a k h2 (fun h => absurd h h1)
  unfold MP
  rw [e]
  refine Prod.ext rfl (funext fun k => ?_)
  show (gp_L t 76 _, gp_L t 77 _, gp_I t 78 _, gp_I t 79 _) = (gp_L s 76 _, gp_L s 77 _, gp_I s 78 _, gp_I s 79 _)
  rw [(x 76 _ (by decide) e0).2, (x 77 _ (by decide) e1).2, (x 78 _ (by decide) e2).1, (x 79 _ (by decide) e3).1]
def AVM (s t : gH) (l r : BitVec 64) (a b res : Int) : Prop := GVM t ∧ ((∃ k : Nat, res = k ∧ Ext (MP s) (MP t) ∧ k < (MP t).1 ∧ val (MP t).2 k = VOF (val (MP s).2) (MP s).1 (nx l r a b) ∧ (∀ y, PS (MP t) y ↔ PS (MP s) y ∨ y = VOF (val (MP s).2) (MP s).1 (nx l r a b)) ∧ gp_I t 74 15 = gp_I s 74 15) ∨ (gp_I t 74 15 = 1 ∧ ¬ C60 (fun y => PS (MP s) y ∨ y = VOF (val (MP s).2) (MP s).1 (nx l r a b))))
theorem AVM_of {s t : gH} {l r : BitVec 64} {a b res : Int} (n0 : 0 ≤ gp_I s 81 20) (g : GVM s) (m : MDX s t l r a b res) (hl : bd l (gp_I s 81 20)) (hr : bd r (gp_I s 81 20)) (m1 : gp_I t 74 15 = gp_I s 74 15 ∨ (gp_I t 74 15 = 1 ∧ gp_I s 81 20 = 60 ∧ NOS s l r a b)) (m2 : gp_I s 81 20 = 60 → NOS s l r a b → gp_I t 74 15 = 1) : AVM s t l r a b res := by
  have cv := MP_RV n0
  have bl : ∀ k : Nat, l.getLsbD k = true → k < (MP s).1 := fun k hk => by
    have := hl k hk
    show k < (gp_I s 81 20).toNat
    omega
  have br : ∀ k : Nat, r.getLsbD k = true → k < (MP s).1 := fun k hk => by
    have := hr k hk
    show k < (gp_I s 81 20).toNat
    omega
  have av := addV (P := MP s) g (a := a) (b := b) bl br
  rcases RV_addc cv g.1 m g.2.2 with ⟨Q, k, x1, x2, x3⟩ | ⟨x1, x2, x3⟩
  · obtain ⟨a1, a2, a3, a4, a5⟩ := av.1 Q k x1
    have ag := MP_ag x2
    have gt : GVM t := GV_ag a1 ag.1 ag.2
    have e15 : gp_I t 74 15 = gp_I s 74 15 := by
      rcases m1 with q | ⟨q1, q2, q3⟩
      · exact q
      · have n1 : (MP s).1 = 60 := by show (gp_I s 81 20).toNat = 60; omega
        rw [aaddc_full (RV_nos cv g.1 q3) (by omega)] at x1
        cases x1
    refine ⟨gt, Or.inl ⟨k, x3, ⟨by rw [ag.1]; exact a2.1, fun j hj => (ag.2 j (by have := a2.1; omega)).trans (a2.2 j hj)⟩, by rw [ag.1]; exact a3, ?_, fun y => (PS_ag ag.1 ag.2 y).trans (a5 y), e15⟩⟩
    rw [← a4]
    exact val_congr (k + 1) k (Nat.lt_succ_self _) (fun j hj => ag.2 j (by omega))
  · have f15 := m2 x2 (fun k hk => x3 k (by omega))
    refine ⟨?_, Or.inr ⟨f15, av.2 x1⟩⟩
    have km : KM s t := by
      rcases m with ⟨j, j1, j2, j3, j4⟩ | ⟨_, ⟨j1, j2, j3, j4⟩ | ⟨j1, j2, j3⟩⟩
      · exact j4
      · omega
      · exact j3
    exact GV_ag (P := MP s) g (by show (gp_I t 81 20).toNat = (gp_I s 81 20).toNat; rw [km.2]) (fun j _ => by
      have q := km.1 j
      show (mL t j, mR t j, mA t j, mB t j) = (mL s j, mR s j, mA s j, mB s j)
      rw [q.1, q.2.1, q.2.2.1, q.2.2.2.1])
/-! a set out of the reference's pool -/
def PCI (pl : Nat → Nat) (m : BitVec 64) (v : Int) (x : BitVec 64) : Prop := ∀ b : Nat, x.getLsbD b = true ↔ ∃ j : Nat, (j : Int) < v ∧ m.getLsbD j = true ∧ pl j = b
theorem PCI_0 {pl : Nat → Nat} {m : BitVec 64} : PCI pl m 0 0#64 := fun b => ⟨fun h => by simp at h, fun ⟨j, h, _⟩ => by omega⟩
theorem PCI_n {pl : Nat → Nat} {m x : BitVec 64} {v : Int} (h : PCI pl m v x) (h0 : 0 ≤ v) (hb : m.getLsbD v.toNat = false) : PCI pl m (v + 1) (x ||| 0#64) := fun b => by
  rw [show x ||| 0#64 = x by simp, h b]
  constructor
  · rintro ⟨j, j1, j2, j3⟩; exact ⟨j, by omega, j2, j3⟩
  · rintro ⟨j, j1, j2, j3⟩
    by_cases c : j = v.toNat
    · rw [c, hb] at j2; cases j2
    · exact ⟨j, by omega, j2, j3⟩
theorem PCI_y {pl : Nat → Nat} {m x : BitVec 64} {v z : Int} (h : PCI pl m v x) (h0 : 0 ≤ v) (hb : m.getLsbD v.toNat = true) (hz : z = (pl v.toNat : Nat)) (h64 : pl v.toNat < 64) : PCI pl m (v + 1) (x ||| 1#64 <<< Int.toNat (z % 64)) := fun b => by
  rw [BitVec.getLsbD_or, Bool.or_eq_true, show Int.toNat (z % 64) = pl v.toNat by omega, one_bit h64, h b]
  constructor
  · rintro (⟨j, j1, j2, j3⟩ | q)
    · exact ⟨j, by omega, j2, j3⟩
    · exact ⟨v.toNat, by omega, hb, q.symm⟩
  · rintro ⟨j, j1, j2, j3⟩
    by_cases c : j = v.toNat
    · rw [c] at j3; exact Or.inr j3.symm
    · exact Or.inl ⟨j, by omega, j2, j3⟩
theorem PCI_e {pl : Nat → Nat} {m x : BitVec 64} {v : Int} (h : PCI pl m v x) (hv : 64 ≤ v) : CAR m x pl := fun b => by
  rw [h b]
  constructor
  · rintro ⟨j, _, j2, j3⟩; exact ⟨j, j2, j3⟩
  · rintro ⟨j, j2, j3⟩; exact ⟨j, by have := BitVec.lt_of_getLsbD j2; omega, j2, j3⟩
def TOR (s u : gH) (w : BitVec 64) (v : Int) : Prop := TOI (MP s).2 (fun q => (gp_I u 87 q).toNat) w v.toNat v.toNat (fun j => (gp_I u 88 j).toNat) (TM u 19) ∧ NRM (TM u 19) v.toNat
theorem TOR_0 {s u : gH} {w : BitVec 64} : TOR s u w 0 := ⟨TOI_0, fun k hk => absurd hk (Nat.not_lt_zero _)⟩
theorem RowP_at {u : gH} {n : Nat} {o : Nat → Nat → Int} {w : BitVec 64} {c : Int} (hm : TO o n) (hS : bd w n) (hc : c = (gm_cnt w 64 : Nat)) (rp : RowP u o w c) {k : Nat} (hk : w.getLsbD k = true) : ∃ q : Nat, (q : Int) < c ∧ (gp_I u 87 q).toNat = k ∧ gp_I u 88 k = q := by
  have rc := rkb_cnt hm hS hk
  have y := rp (rkb o w 64 k) (by omega)
  have e := isop_un hm hS y.1 ⟨hk, rfl⟩
  refine ⟨rkb o w 64 k, by omega, e, ?_⟩
  rw [e] at y; exact y.2
theorem TOR_s {s u t : gH} {w x y : BitVec 64} {a b d v c : Int} {n N : Nat} {o : Nat → Nat → Int} (h : TOR s u w v) (hk : KMs s u) (gv : GVM s) (ms : MS u N o) (hS : bd w N) (hN : (MP s).1 = N) (hc : c = (gm_cnt w 64 : Nat)) (rp : RowP u o w c) (cl : ClP u w) (h0 : 0 ≤ v ∧ v < c ∧ v ≤ 59) (i : Nat) (hi : i = Int.toNat (64 * 19 + v)) (et : t = gp_wI (gp_wI (gp_wI (gp_wL (gp_wL u 76 i x) 77 i y) 78 i a) 79 i b) 80 i d) (hn : n = (gp_I u 87 v.toNat).toNat) (ca : CAR (mL u n) x (fun j => (gp_I u 88 j).toNat)) (cb : CAR (mR u n) y (fun j => (gp_I u 88 j).toNat)) (ha : a = mA u n) (hb : b = mB u n) : TOR s t w (v + 1) := by
  obtain ⟨t1, t2⟩ := h
  have ei : i = 64 * 19 + v.toNat := by omega
  have rv := rp v.toNat (by omega)
  have nN : n < N := by have := hS _ rv.1.1; omega
  have nP : n < (MP s).1 := by omega
  have fn : (MP s).2 n = (mL u n, mR u n, mA u n, mB u n) := by
    have q := hk n
    show (mL s n, mR s n, mA s n, mB s n) = _
    rw [q.1, q.2.1, q.2.2.1, q.2.2.2]
  have L76 : ∀ k, gp_L t 76 k = if k = i then x else gp_L u 76 k := fun k => by rw [et]; exact gz_rwLi u 76 i x k
  have L77 : ∀ k, gp_L t 77 k = if k = i then y else gp_L u 77 k := fun k => by rw [et]; exact gz_rwLi (gp_wL u 76 i x) 77 i y k
  have I78 : ∀ k, gp_I t 78 k = if k = i then a else gp_I u 78 k := fun k => by rw [et]; exact gz_rwi (gp_wL (gp_wL u 76 i x) 77 i y) 78 i a k
  have I79 : ∀ k, gp_I t 79 k = if k = i then b else gp_I u 79 k := fun k => by rw [et]; exact gz_rwi (gp_wI (gp_wL (gp_wL u 76 i x) 77 i y) 78 i a) 79 i b k
  have I87 : ∀ k, gp_I t 87 k = gp_I u 87 k := fun k => by rw [et]; rfl
  have I88 : ∀ k, gp_I t 88 k = gp_I u 88 k := fun k => by rw [et]; rfl
  have hT : ∀ k, TM t 19 k = if k = v.toNat then (x, y, a, b) else TM u 19 k := fun k => by
    unfold TM
    rw [L76, L77, I78, I79]
    by_cases c : k = v.toNat
    · rw [if_pos (by omega), if_pos (by omega), if_pos (by omega), if_pos (by omega), if_pos c]
    · rw [if_neg (by omega), if_neg (by omega), if_neg (by omega), if_neg (by omega), if_neg c]
  have nl : TM t 19 v.toNat = (x, y, a, b) := by rw [hT, if_pos rfl]
  have e87 : (fun q => (gp_I t 87 q).toNat) = fun q => (gp_I u 87 q).toNat := funext fun q => by rw [I87]
  have e88 : (fun q => (gp_I t 88 q).toNat) = fun q => (gp_I u 88 q).toNat := funext fun q => by rw [I88]
  unfold TOR
  rw [e87, e88, show (v + 1).toNat = v.toNat + 1 by omega]
  have at_v : (gp_I u 87 v.toNat).toNat = n := hn.symm
  have inj : ∀ q, q < v.toNat → (gp_I u 87 q).toNat ≠ (gp_I u 87 v.toNat).toNat := fun q hq e => by
    have a1 := (rp q (by omega)).2
    have a2 := rv.2
    rw [e] at a1
    omega
  refine ⟨TOI_y t1 (pl' := fun j => (gp_I u 88 j).toNat) rv.1.1 inj (fun j hj => ?_) (fun j => ?_) (fun k hk2 => by rw [hT, if_neg (by omega)]) ?_ ?_ ?_ ?_, fun k hk2 => ?_⟩
  · rw [at_v, fn] at hj
    have jn : j < n := gv.2.1 n nP j (by rw [fn]; exact hj)
    have wj := cl n j (by rw [← at_v]; exact rv.1.1) hj
    obtain ⟨q, q1, q2, q3⟩ := RowP_at ms.1 hS hc rp wj
    have pl := place_lt ms hS hc rp ⟨h0.1, h0.2.1⟩ cl (w := j) (by rw [at_v]; exact hj)
    refine ⟨by rw [at_v]; exact jn, wj, q, by omega, q2⟩
  · by_cases c2 : j = (gp_I u 87 v.toNat).toNat
    · rw [if_pos c2, c2, rv.2]
      omega
    · rw [if_neg c2]
  · rw [nl, at_v, fn]; exact ca
  · rw [nl, at_v, fn]; exact cb
  · rw [nl, at_v, fn, ha]
  · rw [nl, at_v, fn, hb]
  · by_cases c2 : k = v.toNat
    · rw [c2, nl]
      have z := gv.1.2 n nP
      rw [fn] at z
      exact ⟨fun q => by rw [ha]; exact z.1 (fun p => q ((CAR_0 ca).mpr p)), fun q => by rw [hb]; exact z.2 (fun p => q ((CAR_0 cb).mpr p))⟩
    · rw [hT, if_neg c2]; exact t2 k (by omega)
theorem rch_m {s u : gH} {N : Nat} {o : Nat → Nat → Int} (ms : MS u N o) (hk : KMs s u) (gv : GVM s) (hN : (MP s).1 = N) : ∀ m i k, i < N → rch (MP s).2 m i k → k = i ∨ mD u k < mD u i
  | 0, i, k, _, h => Or.inl (by have h' : i = k := h; exact h'.symm)
  | m + 1, i, k, hi, h => by
    obtain ⟨j, j1, j2, j3⟩ := h
    have q := hk i
    have j2' : (mL s i).getLsbD j = true ∨ (mR s i).getLsbD j = true := j2
    have d := ms.2.2 i j hi (by rw [q.1, q.2.1]; exact j2')
    rcases rch_m ms hk gv hN m j k (by omega) j3 with z | z
    · rw [z]; exact Or.inr d
    · exact Or.inr (by omega)
/-- the set of a node: a full one, with the node's number -/
def ENV (s t : gH) (p : Int) : Prop := TBL (TM t 19) (gp_I t 81 19).toNat ∧ NRM (TM t 19) (gp_I t 81 19).toNat ∧ val (TM t 19) ((gp_I t 81 19).toNat - 1) = val (MP s).2 p.toNat ∧ ∀ i, i < (gp_I t 81 19).toNat → PS (MP s) (val (TM t 19) i)
theorem TOR_e {s u : gH} {w : BitVec 64} {v c p : Int} {N : Nat} {o : Nat → Nat → Int} (h : TOR s u w v) (hk : KMs s u) (gv : GVM s) (ms : MS u N o) (hS : bd w N) (hN : (MP s).1 = N) (hc : c = (gm_cnt w 64 : Nat)) (rp : RowP u o w c) (hv : v = c) (hw : w = CLM s p) (hp : 0 ≤ p ∧ p < N) (c19 : gp_I u 81 19 = c) (n60 : N ≤ 60) : ENV s u p := by
  obtain ⟨t1, t2⟩ := h
  have hw2 : w = clo (mskf (MP s).2) p.toNat (1#64 <<< p.toNat) := by
    rw [hw]
    unfold CLM
    rw [show Int.toNat (p % 64) = p.toNat by omega]
    rfl
  have rw_ : ∀ k, w.getLsbD k = true ↔ ∃ m, rch (MP s).2 m p.toNat k := fun k => by rw [hw2]; exact clo_rch (fun i hi => gv.2.1 i (by omega)) (by omega) k
  have wn : w.getLsbD p.toNat = true := (rw_ _).mpr ⟨0, rfl⟩
  obtain ⟨q0, q1, q2, q3⟩ := RowP_at ms.1 hS hc rp wn
  have last : q0 = v.toNat - 1 := by
    have lst := rp (v.toNat - 1) (by omega)
    by_cases e : (gp_I u 87 ((v.toNat - 1 : Nat))).toNat = p.toNat
    · rw [e] at lst
      have := lst.2
      omega
    · have wl := lst.1.1
      obtain ⟨m, hm⟩ := (rw_ _).mp wl
      rcases rch_m ms hk gv hN m _ _ (by omega) hm with z | z
      · exact absurd z e
      · have xN : (gp_I u 87 ((v.toNat - 1 : Nat))).toNat < N := by have := hS _ wl; omega
        have ol : o (gp_I u 87 ((v.toNat - 1 : Nat))).toNat p.toNat < 0 := by
          rw [ms.2.1 _ _ xN (by omega)]; unfold ck; rw [if_pos z]; omega
        have rk := rkb_lt ms.1 hS (BitVec.lt_of_getLsbD wl) wl (show p.toNat < N by omega) ol
        rw [lst.1.2] at rk
        have rc := rkb_cnt ms.1 hS wn
        omega
  have z := TOI_core t1 gv.2.1 gv.1.1 (node := p.toNat) (by omega) (by omega) hw2 (fun q hq hb => by have := hS _ hb; omega) (fun k hk2 => by
    obtain ⟨q, a1, a2, a3⟩ := RowP_at ms.1 hS hc rp hk2
    exact ⟨q, by omega, a2⟩) ⟨q0, by omega, q2, by
      show (gp_I u 88 (gp_I u 87 q0).toNat).toNat = _
      rw [q2, q3]; omega⟩
  unfold ENV
  rw [c19, show c.toNat = v.toNat by omega]
  exact ⟨z.1, t2, z.2.1, z.2.2⟩
theorem PCI_n2 {pl : Nat → Nat} {m x x' : BitVec 64} {v : Int} (h : PCI pl m v x) (h0 : 0 ≤ v) (hb : m.getLsbD v.toNat = false) (e : x' = x ||| 0#64) : PCI pl m (v + 1) x' := by
  subst e; exact PCI_n h h0 hb
theorem PCI_y2 {pl : Nat → Nat} {m x x' : BitVec 64} {v z : Int} (h : PCI pl m v x) (h0 : 0 ≤ v) (hb : m.getLsbD v.toNat = true) (e : x' = x ||| 1#64 <<< Int.toNat (z % 64)) (hz : z = (pl v.toNat : Nat)) (h64 : pl v.toNat < 64) : PCI pl m (v + 1) x' := by
  subst e; exact PCI_y h h0 hb hz h64
/-! sets on the pile -/
def CK (s t : gH) : Prop := ∀ k, 1344 ≤ k → gp_L t 76 k = gp_L s 76 k ∧ gp_L t 77 k = gp_L s 77 k ∧ gp_I t 78 k = gp_I s 78 k ∧ gp_I t 79 k = gp_I s 79 k
theorem CK_r (s : gH) : CK s s := fun _ _ => ⟨rfl, rfl, rfl, rfl⟩
theorem CK_t {s u t : gH} (h : CK s u) (g : CK u t) : CK s t := fun k hk => ⟨(g k hk).1.trans (h k hk).1, (g k hk).2.1.trans (h k hk).2.1, (g k hk).2.2.1.trans (h k hk).2.2.1, (g k hk).2.2.2.trans (h k hk).2.2.2⟩
theorem CK_fr {m f : List Nat} {s u t : gH} (h : CK s u) (g : gF m f u t) (e1 : m.contains 76 = false) (e2 : m.contains 77 = false) (e3 : m.contains 78 = false) (e4 : m.contains 79 = false) : CK s t := CK_t h (fun k _ => by
  have n : ∀ a, a ≠ 74 → a = 74 → f.contains k = false := fun a h1 h2 => absurd h2 h1
  exact ⟨(g.2 76 _ e1 (n 76 (by decide))).2, (g.2 77 _ e2 (n 77 (by decide))).2, (g.2 78 _ e3 (n 78 (by decide))).1, (g.2 79 _ e4 (n 79 (by decide))).1⟩)
theorem CK_o {s t : gH} (h : mOut s t) : CK s t := fun k hk => ⟨h.2.2 76 k (Or.inl rfl) (Or.inr hk), h.2.2 77 k (Or.inr rfl) (Or.inr hk), h.2.1 78 k (Or.inl rfl) (Or.inr hk), h.2.1 79 k (Or.inr (Or.inl rfl)) (Or.inr hk)⟩
theorem CK_5 {s u t : gH} {x y : BitVec 64} {a b d : Int} {i : Nat} (h : CK s u) (et : t = gp_wI (gp_wI (gp_wI (gp_wL (gp_wL u 76 i x) 77 i y) 78 i a) 79 i b) 80 i d) (hi : i < 1344) : CK s t := CK_t h (fun k hk => by
  rw [et]
  refine ⟨?_, ?_, ?_, ?_⟩
  · exact (gz_rwLi u 76 i x k).trans (if_neg (by omega))
  · exact (gz_rwLi (gp_wL u 76 i x) 77 i y k).trans (if_neg (by omega))
  · exact (gz_rwi (gp_wL (gp_wL u 76 i x) 77 i y) 78 i a k).trans (if_neg (by omega))
  · exact (gz_rwi (gp_wI (gp_wL (gp_wL u 76 i x) 77 i y) 78 i a) 79 i b k).trans (if_neg (by omega)))
/-- the same nodes: the same game -/
theorem rch_congr {f g : Nat → ND} {n : Nat} (e : ∀ k, k < n → f k = g k) : ∀ m i k, i < n → rch f m i k → rch g m i k
  | 0, _, _, _, h => h
  | m + 1, i, k, hi, h => by
    obtain ⟨j, j1, j2, j3⟩ := h
    exact ⟨j, j1, by rw [← e i hi]; exact j2, rch_congr e m j k (by omega) j3⟩
theorem TBL_congr {f g : Nat → ND} {n : Nat} (e : ∀ k, k < n → f k = g k) (h : TBL f n) : TBL g n := by
  obtain ⟨h1, h2, h3, h4⟩ := h
  refine ⟨h1, fun i hi k hk => h2 i hi k (by rw [e i hi]; exact hk), fun i j hi hj q => h3 i j hi hj (by rw [e i hi, e j hj]; exact q), fun k hk => ?_⟩
  obtain ⟨m, hm⟩ := h4 k hk
  exact ⟨m, rch_congr e m _ _ (by omega) hm⟩
theorem TBG_congr {f g : Nat → ND} {n : Nat} (e : ∀ k, k < n → f k = g k) (h : TBG f n) : TBG g n := ⟨TBL_congr e h.1, fun k hk => by rw [← e k hk]; exact h.2.1 k hk, fun k hk => by rw [← e k hk]; exact h.2.2 k hk⟩
/-- set g holds the game of this number -/
def GTM (s : gH) (g x : Nat) : Prop := TBG (TM s g) (gp_I s 81 g).toNat ∧ (gp_I s 81 g).toNat ≤ 60 ∧ val (TM s g) ((gp_I s 81 g).toNat - 1) = x
theorem GTM_e {s t : gH} {g g' x : Nat} (h : GTM s g x) (e : gp_I t 81 g' = gp_I s 81 g) (q : ∀ k, k < 60 → TM t g' k = TM s g k) : GTM t g' x := by
  obtain ⟨h1, h2, h3⟩ := h
  unfold GTM
  rw [e]
  have n0 := h1.1.1
  exact ⟨TBG_congr (fun k hk => (q k (by omega)).symm) h1, h2, by rw [← h3]; exact val_congr ((gp_I s 81 g).toNat) _ (by omega) (fun j hj => q j (by omega))⟩
theorem GTM_fr {s t : gH} {g x : Nat} (h : GTM s g x) (c : CK s t) (hg : 21 ≤ g) (e : gp_I t 81 g = gp_I s 81 g) : GTM t g x := GTM_e h e (fun k _ => by
  have q := c (64 * g + k) (by omega)
  unfold TM
  rw [q.1, q.2.1, q.2.2.1, q.2.2.2])
theorem GTM_f {s : gH} {g x y : Nat} (a : GTM s g x) (b : GTM s g y) : x = y := a.2.2.symm.trans b.2.2
