/-! the class's pool, by numbers -/
def CP (s : gH) : AP := ((gp_I s 6 4).toNat, fun k => (gp_L s 8 k, gp_L s 9 k, gp_I s 10 k, gp_I s 11 k))
def GVC (s : gH) : Prop := GV (CP s)
theorem CP_CV {s : gH} (h : 0 ≤ gp_I s 6 4) : CV s (CP s) := ⟨by show gp_I s 6 4 = ((gp_I s 6 4).toNat : Nat); omega, fun _ _ => rfl⟩
theorem CP_ag {s : gH} {P : AP} (h : CV s P) : (CP s).1 = P.1 ∧ ∀ k, k < P.1 → (CP s).2 k = P.2 k := ⟨by have := h.1; show (gp_I s 6 4).toNat = _; omega, fun k hk => h.2 k hk⟩
theorem GV_ag {P Q : AP} (g : GV P) (h1 : Q.1 = P.1) (h : ∀ k, k < P.1 → Q.2 k = P.2 k) : GV Q := by
  obtain ⟨⟨a, b⟩, c, d⟩ := g
  refine ⟨⟨fun i j hi hj e => ?_, fun k hk => ?_⟩, fun i hi k hk => ?_, by omega⟩
  · rw [h i (by omega), h j (by omega)] at e; exact a i j (by omega) (by omega) e
  · rw [h k (by omega)]; exact b k (by omega)
  · rw [h i (by omega)] at hk; exact c i (by omega) k hk
theorem PS_ag {P Q : AP} (h1 : Q.1 = P.1) (h : ∀ k, k < P.1 → Q.2 k = P.2 k) (y : Nat) : PS Q y ↔ PS P y := by
  have v : ∀ k, k < P.1 → val Q.2 k = val P.2 k := fun k hk => val_congr (k + 1) k (Nat.lt_succ_self _) (fun j hj => h j (by omega))
  constructor
  · rintro ⟨k, k1, k2⟩
    exact ⟨k, by omega, (v k (by omega)).symm.trans k2⟩
  · rintro ⟨k, k1, k2⟩
    exact ⟨k, by omega, (v k k1).trans k2⟩
theorem GVC_fr {L : Nat} {al : Bool} {m : List Nat} {s t : gH} (h : GVC s) (g : gX L al m s t) (e6 : m.contains 1196 = false) (e8 : m.contains 8 = false) (e9 : m.contains 9 = false) (e10 : m.contains 10 = false) (e11 : m.contains 11 = false) : GVC t := by
  refine GV_ag (P := CP s) h ?_ (fun k _ => ?_)
  · show (gp_I t 6 4).toNat = (gp_I s 6 4).toNat
    rw [(g.2.2.1 6 4 (by decide) (by decide) e6).1]
  · show (gp_L t 8 k, gp_L t 9 k, gp_I t 10 k, gp_I t 11 k) = (gp_L s 8 k, gp_L s 9 k, gp_I s 10 k, gp_I s 11 k)
    rw [(g.2.2.1 8 k (by decide) (by decide) e8).2.1, (g.2.2.1 9 k (by decide) (by decide) e9).2.1, (g.2.2.1 10 k (by decide) (by decide) e10).1, (g.2.2.1 11 k (by decide) (by decide) e11).1]
theorem GVC_wL {s : gH} {c k : Nat} {v : BitVec 64} (h : GVC s) (hc : 10 ≤ c) : GVC (gp_wL s c k v) := by
  refine GV_ag (P := CP s) h rfl (fun j _ => ?_)
  show (gp_L (gp_wL s c k v) 8 j, gp_L (gp_wL s c k v) 9 j, gp_I s 10 j, gp_I s 11 j) = (gp_L s 8 j, gp_L s 9 j, gp_I s 10 j, gp_I s 11 j)
  rw [L_ne (show 8 ≠ c by omega), L_ne (show 9 ≠ c by omega)]
theorem CP_fr {L : Nat} {al : Bool} {m : List Nat} {s t : gH} (g : gX L al m s t) (e6 : m.contains 1196 = false) (e8 : m.contains 8 = false) (e9 : m.contains 9 = false) (e10 : m.contains 10 = false) (e11 : m.contains 11 = false) : CP t = CP s := by
  unfold CP
  rw [(g.2.2.1 6 4 (by decide) (by decide) e6).1]
  refine Prod.ext rfl (funext fun k => ?_)
  show (gp_L t 8 k, gp_L t 9 k, gp_I t 10 k, gp_I t 11 k) = (gp_L s 8 k, gp_L s 9 k, gp_I s 10 k, gp_I s 11 k)
  rw [(g.2.2.1 8 k (by decide) (by decide) e8).2.1, (g.2.2.1 9 k (by decide) (by decide) e9).2.1, (g.2.2.1 10 k (by decide) (by decide) e10).1, (g.2.2.1 11 k (by decide) (by decide) e11).1]
theorem GVC_0 {s : gH} (h : gp_I s 6 4 = 0) : GVC s := GV_ag GV_0 (by show (gp_I s 6 4).toNat = 0; omega) (fun k hk => absurd hk (Nat.not_lt_zero _))
theorem PS_c0 {s : gH} (h : gp_I s 6 4 = 0) (y : Nat) : ¬ PS (CP s) y := fun ⟨k, hk, _⟩ => by
  have : k < (gp_I s 6 4).toNat := hk
  omega
def AV (s t : gH) (l r : BitVec 64) (a b res : Int) : Prop := GVC t ∧ ((∃ k : Nat, res = k ∧ Ext (CP s) (CP t) ∧ k < (CP t).1 ∧ val (CP t).2 k = VOF (val (CP s).2) (CP s).1 (nx l r a b) ∧ ∀ y, PS (CP t) y ↔ PS (CP s) y ∨ y = VOF (val (CP s).2) (CP s).1 (nx l r a b)) ∨ (res = -1 ∧ ¬ C60 (fun y => PS (CP s) y ∨ y = VOF (val (CP s).2) (CP s).1 (nx l r a b))))
theorem AV_of {L : Nat} {s t : gH} {l r : BitVec 64} {a b res : Int} (hs : XI L 0 s) (ht : XI L 0 t) (g : GVC s) (m : ADX s t l r a b res) (hl : bd l (gp_I s 6 4)) (hr : bd r (gp_I s 6 4)) : AV s t l r a b res := by
  have n0 := (xr6_4 hs).1
  have cv := CP_CV n0
  have bl : ∀ k : Nat, l.getLsbD k = true → k < (CP s).1 := fun k hk => by
    have := hl k hk
    show k < (gp_I s 6 4).toNat
    omega
  have br : ∀ k : Nat, r.getLsbD k = true → k < (CP s).1 := fun k hk => by
    have := hr k hk
    show k < (gp_I s 6 4).toNat
    omega
  have av := addV (P := CP s) g (a := a) (b := b) bl br
  rcases CV_addc cv g.1 m g.2.2 with ⟨Q, k, x1, x2, x3⟩ | ⟨x1, x2⟩
  · obtain ⟨a1, a2, a3, a4, a5⟩ := av.1 Q k x1
    have ag := CP_ag x2
    have gt : GVC t := GV_ag a1 ag.1 ag.2
    refine ⟨gt, Or.inl ⟨k, x3, ⟨by rw [ag.1]; exact a2.1, fun j hj => (ag.2 j (by have := a2.1; omega)).trans (a2.2 j hj)⟩, by rw [ag.1]; exact a3, ?_, fun y => (PS_ag ag.1 ag.2 y).trans (a5 y)⟩⟩
    rw [← a4]
    exact val_congr (k + 1) k (Nat.lt_succ_self _) (fun j hj => ag.2 j (by omega))
  · have kp := m.1
    have e6 : gp_I t 6 4 = gp_I s 6 4 := by
      rcases m.2 with ⟨j, j1, j2, j3, j4⟩ | ⟨_, ⟨j1, j2, j3, j4⟩ | ⟨j1, j2, j3⟩⟩
      · exact j4
      · omega
      · exact j3
    have gt : GVC t := GV_ag (P := CP s) g (by show (gp_I t 6 4).toNat = (gp_I s 6 4).toNat; rw [e6]) (fun j hj => by
      have hj2 : j < (gp_I s 6 4).toNat := hj
      have q := kp j (by omega)
      show (gp_L t 8 j, gp_L t 9 j, gp_I t 10 j, gp_I t 11 j) = (gp_L s 8 j, gp_L s 9 j, gp_I s 10 j, gp_I s 11 j)
      rw [q.1, q.2.1, q.2.2.1, q.2.2.2])
    exact ⟨gt, Or.inr ⟨x2, av.2 x1⟩⟩
/-! masks carried -/
def CRI (pl : Nat → Nat) (m rest v : BitVec 64) : Prop := ∀ b : Nat, v.getLsbD b = true ↔ ∃ j, m.getLsbD j = true ∧ ¬ rest.getLsbD j = true ∧ pl j = b
theorem CRI_0 {pl : Nat → Nat} {m : BitVec 64} : CRI pl m m 0#64 := fun b => ⟨fun h => by simp at h, fun ⟨j, j1, j2, _⟩ => absurd j1 j2⟩
theorem rest_b {x : BitVec 64} (h : ¬ x = 0#64) (j : Nat) : (x &&& (x - 1#64)).getLsbD j = true ↔ x.getLsbD j = true ∧ j ≠ lob x := by
  rw [(lob_s h).2.2.2.1 j]
  simp
theorem CRI_s {pl : Nat → Nat} {m rest v : BitVec 64} {z x : Int} (h : CRI pl m rest v) (hs : sub rest m) (h0 : ¬ rest = 0#64) (hz : z = (lob rest : Nat)) (hx : x = (pl z.toNat : Nat)) (h64 : pl z.toNat < 64) : CRI pl m (rest &&& (rest - 1#64)) (v ||| 1#64 <<< Int.toNat (x % 64)) := fun b => by
  have lo := (lob_s h0).2.1
  have ez : z.toNat = lob rest := by omega
  have ex : Int.toNat (x % 64) = pl (lob rest) := by rw [← ez]; omega
  rw [BitVec.getLsbD_or, Bool.or_eq_true, ex, one_bit (by rw [← ez]; exact h64), h b]
  constructor
  · rintro (⟨j, j1, j2, j3⟩ | q)
    · exact ⟨j, j1, fun q => j2 ((rest_b h0 j).mp q).1, j3⟩
    · exact ⟨lob rest, hs _ lo, fun q => ((rest_b h0 _).mp q).2 rfl, q.symm⟩
  · rintro ⟨j, j1, j2, j3⟩
    by_cases c : j = lob rest
    · subst c; exact Or.inr j3.symm
    · exact Or.inl ⟨j, j1, fun q => j2 ((rest_b h0 j).mpr ⟨q, c⟩), j3⟩
theorem CRI_e {pl : Nat → Nat} {m rest v : BitVec 64} (h : CRI pl m rest v) (h0 : rest = 0#64) : CAR m v pl := fun b => by
  rw [h b, h0]
  constructor
  · rintro ⟨j, j1, _, j3⟩; exact ⟨j, j1, j3⟩
  · rintro ⟨j, j1, j3⟩; exact ⟨j, j1, by simp, j3⟩
theorem CAR_cg {m r : BitVec 64} {pl pl' : Nat → Nat} (h : CAR m r pl) (e : ∀ j, m.getLsbD j = true → pl' j = pl j) : CAR m r pl' := fun b => by
  rw [h b]
  constructor
  · rintro ⟨j, j1, j2⟩; exact ⟨j, j1, (e j j1).trans j2⟩
  · rintro ⟨j, j1, j2⟩; exact ⟨j, j1, (e j j1).symm.trans j2⟩
/-- a pair's mask, half way -/
def PMI (pr : Nat → Nat) (x rest y resty : BitVec 64) (i j : Nat) (v : BitVec 64) : Prop := ∀ b : Nat, v.getLsbD b = true ↔ (∃ k, x.getLsbD k = true ∧ ¬ rest.getLsbD k = true ∧ pr (k * 60 + j) = b) ∨ ∃ k, y.getLsbD k = true ∧ ¬ resty.getLsbD k = true ∧ pr (i * 60 + k) = b
theorem PMI_0 {pr : Nat → Nat} {x y : BitVec 64} {i j : Nat} : PMI pr x x y y i j 0#64 := fun b => ⟨fun h => by simp at h, fun h => by
  rcases h with ⟨k, k1, k2, _⟩ | ⟨k, k1, k2, _⟩ <;> exact absurd k1 k2⟩
theorem PMI_x {pr : Nat → Nat} {x rest y ry v : BitVec 64} {i j : Nat} {z w : Int} (h : PMI pr x rest y ry i j v) (hs : sub rest x) (h0 : ¬ rest = 0#64) (hz : z = (lob rest : Nat)) (hx : w = (pr (z.toNat * 60 + j) : Nat)) (h64 : pr (z.toNat * 60 + j) < 64) : PMI pr x (rest &&& (rest - 1#64)) y ry i j (v ||| 1#64 <<< Int.toNat (w % 64)) := fun b => by
  have lo := (lob_s h0).2.1
  have ez : z.toNat = lob rest := by omega
  rw [ez] at hx h64
  have ex : Int.toNat (w % 64) = pr (lob rest * 60 + j) := by omega
  rw [BitVec.getLsbD_or, Bool.or_eq_true, ex, one_bit h64, h b]
  constructor
  · rintro ((⟨k, k1, k2, k3⟩ | q) | q)
    · exact Or.inl ⟨k, k1, fun q => k2 ((rest_b h0 k).mp q).1, k3⟩
    · exact Or.inr q
    · exact Or.inl ⟨lob rest, hs _ lo, fun q => ((rest_b h0 _).mp q).2 rfl, q.symm⟩
  · rintro (⟨k, k1, k2, k3⟩ | q)
    · by_cases c : k = lob rest
      · subst c; exact Or.inr k3.symm
      · exact Or.inl (Or.inl ⟨k, k1, fun q => k2 ((rest_b h0 k).mpr ⟨q, c⟩), k3⟩)
    · exact Or.inl (Or.inr q)
theorem PMI_y {pr : Nat → Nat} {x rx y rest v : BitVec 64} {i j : Nat} {z w : Int} (h : PMI pr x rx y rest i j v) (hs : sub rest y) (h0 : ¬ rest = 0#64) (hz : z = (lob rest : Nat)) (hx : w = (pr (i * 60 + z.toNat) : Nat)) (h64 : pr (i * 60 + z.toNat) < 64) : PMI pr x rx y (rest &&& (rest - 1#64)) i j (v ||| 1#64 <<< Int.toNat (w % 64)) := fun b => by
  have lo := (lob_s h0).2.1
  have ez : z.toNat = lob rest := by omega
  rw [ez] at hx h64
  have ex : Int.toNat (w % 64) = pr (i * 60 + lob rest) := by omega
  rw [BitVec.getLsbD_or, Bool.or_eq_true, ex, one_bit h64, h b]
  constructor
  · rintro ((q | ⟨k, k1, k2, k3⟩) | q)
    · exact Or.inl q
    · exact Or.inr ⟨k, k1, fun q => k2 ((rest_b h0 k).mp q).1, k3⟩
    · exact Or.inr ⟨lob rest, hs _ lo, fun q => ((rest_b h0 _).mp q).2 rfl, q.symm⟩
  · rintro (q | ⟨k, k1, k2, k3⟩)
    · exact Or.inl (Or.inl q)
    · by_cases c : k = lob rest
      · subst c; exact Or.inr k3.symm
      · exact Or.inl (Or.inr ⟨k, k1, fun q => k2 ((rest_b h0 k).mpr ⟨q, c⟩), k3⟩)
theorem PMI_e {pr : Nat → Nat} {x rx y ry v : BitVec 64} {i j : Nat} (h : PMI pr x rx y ry i j v) (h1 : rx = 0#64) (h2 : ry = 0#64) : PMK x y pr i j v := fun b => by
  rw [h b, h1, h2]
  constructor
  · rintro (⟨k, k1, _, k3⟩ | ⟨k, k1, _, k3⟩)
    · exact Or.inl ⟨k, k1, k3⟩
    · exact Or.inr ⟨k, k1, k3⟩
  · rintro (⟨k, k1, k3⟩ | ⟨k, k1, k3⟩)
    · exact Or.inl ⟨k, k1, by simp, k3⟩
    · exact Or.inr ⟨k, k1, by simp, k3⟩
