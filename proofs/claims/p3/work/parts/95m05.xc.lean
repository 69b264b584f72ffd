/-! tables into the pool; negatives; sums: the class -/
theorem BDP_TF {L : Nat} {s : gH} {a n : Nat} (k : kT L s a n) (hs : XI L 0 s) : BDP (TF s a) n := fun i _ j hj => by
  have h := ((k.tt hs).1.2.2.2.2.2 i).1
  rcases hj with q | q
  · have := h.1 j q; omega
  · have := h.2 j q; omega
def AVX (s t : gH) (x : Nat) (res : Int) : Prop := GVC t ∧ ((∃ k : Nat, res = k ∧ Ext (CP s) (CP t) ∧ k < (CP t).1 ∧ val (CP t).2 k = x ∧ ∀ y, PS (CP t) y ↔ PS (CP s) y ∨ y = x) ∨ (res = -1 ∧ ¬ C60 (fun y => PS (CP s) y ∨ y = x)))
theorem AV_x {s t : gH} {l r : BitVec 64} {a b res : Int} {x : Nat} (h : AV s t l r a b res) (e : VOF (val (CP s).2) (CP s).1 (nx l r a b) = x) : AVX s t x res := by
  subst e; exact h
theorem CLT_TF {s : gH} {a : Nat} {p : Int} (h : 0 ≤ p ∧ p < 64) : CLT s a p = clo (mskf (TF s a)) p.toNat (1#64 <<< p.toNat) := by
  unfold CLT
  rw [show Int.toNat (p % 64) = p.toNat by omega]
  rfl
def TKS (s u : gH) (f : Nat → ND) (w : BitVec 64) (i : Int) : Prop := TKI f w (CP s) (CP u) (fun j => (gp_I u 15 j).toNat) i.toNat
theorem TKS_0 {s : gH} {f : Nat → ND} {w : BitVec 64} : TKS s s f w 0 := TKI_0
theorem TKS_n {s u : gH} {f : Nat → ND} {w : BitVec 64} {i : Int} (h : TKS s u f w i) (h0 : 0 ≤ i) (hw : w.getLsbD i.toNat = false) : TKS s u f w (i + 1) := by
  unfold TKS
  rw [show (i + 1).toNat = i.toNat + 1 by omega]
  exact TKI_n h (by rw [hw]; exact Bool.false_ne_true)
theorem TKS_v {s u t : gH} {f : Nat → ND} {w c1 c2 : BitVec 64} {i res a1 a2 : Int} {a n : Nat} (h : TKS s u f w i) (hf : TF u a = f) (hb : BDP f n) (nr : NRM f n) (h0 : 0 ≤ i ∧ i < n) (hw : w.getLsbD i.toNat = true) (fc : FC (fun k => (f k).1) (fun k => (f k).2.1) w) (ca1 : CAR (gp_L u (a + 1) i.toNat) c1 (fun j => (gp_I u 15 j).toNat)) (ca2 : CAR (gp_L u (a + 2) i.toNat) c2 (fun j => (gp_I u 15 j).toNat)) (av : AV u t c1 c2 a1 a2 res) (e1 : a1 = gp_I u (a + 3) i.toNat) (e2 : a2 = gp_I u (a + 4) i.toNat) : AVX u t (val f i.toNat) res := by
  have fi : f i.toNat = (gp_L u (a + 1) i.toNat, gp_L u (a + 2) i.toNat, gp_I u (a + 3) i.toNat, gp_I u (a + 4) i.toNat) := by rw [← hf]; rfl
  have z := TKI_v (l := c1) (r := c2) (a := a1) (b := a2) h (fun k hk => ⟨hb i.toNat (by omega) k hk, fc i.toNat k hw hk⟩) (nr i.toNat (by omega)) (by rw [fi]; exact ca1) (by rw [fi]; exact ca2) (by rw [fi, e1]) (by rw [fi, e2])
  exact AV_x av z.2.2
theorem TKS_y {s u t t2 : gH} {f : Nat → ND} {w : BitVec 64} {i res : Int} (h : TKS s u f w i) (h0 : 0 ≤ i) (hw : w.getLsbD i.toNat = true) (av : AVX u t (val f i.toNat) res) (r15 : ∀ k, gp_I t 15 k = gp_I u 15 k) (e : t2 = gp_wI t 15 i.toNat res) (hres : 0 ≤ res) : TKS s t2 f w (i + 1) := by
  rcases av.2 with ⟨k, k1, k2, k3, k4, k5⟩ | ⟨k1, _⟩
  · unfold TKS
    rw [show (i + 1).toNat = i.toNat + 1 by omega]
    have ec : CP t2 = CP t := by rw [e]; rfl
    rw [ec]
    refine TKI_s h hw k2 k3 k4 k5 (fun j => ?_)
    show (gp_I t2 15 j).toNat = if j = i.toNat then k else (gp_I u 15 j).toNat
    rw [e, gz_rwi]
    by_cases c : j = i.toNat
    · rw [if_pos c, if_pos c]; omega
    · rw [if_neg c, if_neg c, r15]
  · omega
def TKP (s t : gH) (f : Nat → ND) (node : Nat) (r : Int) : Prop := (∃ k : Nat, r = k ∧ Ext (CP s) (CP t) ∧ k < (CP t).1 ∧ val (CP t).2 k = val f node ∧ ∀ y, PS (CP t) y ↔ PS (CP s) y ∨ FOL f node y) ∨ (r = -1 ∧ ¬ C60 (fun y => PS (CP s) y ∨ FOL f node y))
theorem TKS_f {s u t t2 : gH} {f : Nat → ND} {w : BitVec 64} {i node res r : Int} {n : Nat} (h : TKS s u f w i) (hb : BDP f n) (h0 : 0 ≤ i ∧ i ≤ node ∧ node < n ∧ node < 64) (hw : w.getLsbD i.toNat = true) (hc : w = clo (mskf f) node.toNat (1#64 <<< node.toNat)) (av : AVX u t (val f i.toNat) res) (hres : res < 0) (hr : r = -1) : TKP s t2 f node.toNat r := by
  rcases av.2 with ⟨k, k1, _⟩ | ⟨k1, k2⟩
  · omega
  · exact Or.inr ⟨hr, TKI_full h (node := node.toNat) (fun j hj => hb j (by omega)) (by omega) hc (by omega) hw k2⟩
theorem TKS_e {s u : gH} {f : Nat → ND} {w : BitVec 64} {i node r : Int} {n : Nat} (h : TKS s u f w i) (hb : BDP f n) (h0 : i = node + 1 ∧ 0 ≤ node ∧ node < n ∧ node < 64) (hc : w = clo (mskf f) node.toNat (1#64 <<< node.toNat)) (hr : r = gp_I u 15 node.toNat) (hr0 : 0 ≤ r) : TKP s u f node.toNat r := by
  unfold TKS at h
  rw [show i.toNat = node.toNat + 1 by omega] at h
  have z := TKI_end h (fun j hj => hb j (by omega)) (by omega) hc
  refine Or.inl ⟨(gp_I u 15 node.toNat).toNat, by omega, z.1, z.2.1, z.2.2.1, z.2.2.2⟩
/-! negatives -/
def B99 (f : Nat → ND) (n : Nat) : Prop := ∀ k, k < n → -99999 ≤ (f k).2.2.1 ∧ (f k).2.2.1 ≤ 99999 ∧ -99999 ≤ (f k).2.2.2 ∧ (f k).2.2.2 ≤ 99999
def TBG (f : Nat → ND) (n : Nat) : Prop := TBL f n ∧ NRM f n ∧ B99 f n
def NGS (s u : gH) (f : Nat → ND) (i : Int) : Prop := NGI f (CP u) (fun j => (gp_I u 21 j).toNat) i.toNat
theorem NGS_0 {s u : gH} {f : Nat → ND} (h : gp_I u 6 4 = 0) : NGS s u f 0 := ⟨fun k hk => absurd hk (Nat.not_lt_zero _), fun y hy => absurd hy (PS_c0 h y)⟩
theorem NGS_s {s u t t2 : gH} {f : Nat → ND} {c1 c2 : BitVec 64} {i res a1 a2 : Int} {a n : Nat} (h : NGS s u f i) (hf : TF u a = f) (hb : BDP f n) (nr : NRM f n) (b9 : B99 f n) (n60 : n ≤ 60) (h0 : 0 ≤ i ∧ i < n) (ca1 : CAR (gp_L u (a + 2) i.toNat) c1 (fun j => (gp_I u 21 j).toNat)) (ca2 : CAR (gp_L u (a + 1) i.toNat) c2 (fun j => (gp_I u 21 j).toNat)) (av : AV u t c1 c2 a1 a2 res) (e1 : a1 = gp_wr (-(gp_I u (a + 4) i.toNat))) (e2 : a2 = gp_wr (-(gp_I u (a + 3) i.toNat))) (r21 : ∀ k, gp_I t 21 k = gp_I u 21 k) (e : t2 = gp_wI t 21 i.toNat res) : NGS s t2 f (i + 1) := by
  have fi : f i.toNat = (gp_L u (a + 1) i.toNat, gp_L u (a + 2) i.toNat, gp_I u (a + 3) i.toNat, gp_I u (a + 4) i.toNat) := by rw [← hf]; rfl
  have b0 := b9 i.toNat (by omega)
  rw [fi] at b0
  have b : -99999 ≤ gp_I u (a + 3) i.toNat ∧ gp_I u (a + 3) i.toNat ≤ 99999 ∧ -99999 ≤ gp_I u (a + 4) i.toNat ∧ gp_I u (a + 4) i.toNat ≤ 99999 := b0
  have d1 : a1 = -(f i.toNat).2.2.2 := by rw [e1, fi]; exact gp_wr_id (by omega) (by omega)
  have d2 : a2 = -(f i.toNat).2.2.1 := by rw [e2, fi]; exact gp_wr_id (by omega) (by omega)
  have z := NGI_v (l := c1) (r := c2) (a := a1) (b := a2) h (fun k hk => hb i.toNat (by omega) k hk) (nr i.toNat (by omega)) (by rw [fi]; exact ca1) (by rw [fi]; exact ca2) d1 d2
  have av2 := AV_x av z.2.2
  rcases av2.2 with ⟨k, k1, k2, k3, k4, k5⟩ | ⟨_, k2⟩
  · unfold NGS
    rw [show (i + 1).toNat = i.toNat + 1 by omega]
    have ec : CP t2 = CP t := by rw [e]; rfl
    rw [ec]
    refine NGI_s h k2 k3 k4 k5 (fun j => ?_)
    show (gp_I t2 21 j).toNat = if j = i.toNat then k else (gp_I u 21 j).toNat
    rw [e, gz_rwi]
    by_cases c : j = i.toNat
    · rw [if_pos c, if_pos c]; omega
    · rw [if_neg c, if_neg c, r21]
  · exact absurd (NGI_60 h (show i.toNat < n by omega) n60) k2
theorem NGS_e {s u : gH} {f : Nat → ND} {i r : Int} {n : Nat} (h : NGS s u f i) (h0 : i = n ∧ 0 < n) (hr : r = gp_I u 21 (n - 1)) : val (CP u).2 r.toNat = negv f (n - 1) := by
  have := (h.1 (n - 1) (by omega)).2
  rw [hr]; exact this
/-! sums -/
def SMS2 (s u : gH) (f g : Nat → ND) (m : Nat) (i j : Int) : Prop := SMI f g m (CP u) (fun q => (gp_I u 22 q).toNat) i.toNat j.toNat
theorem SMS2_0 {s u : gH} {f g : Nat → ND} {m : Nat} (h : gp_I u 6 4 = 0) : SMS2 s u f g m 0 0 := ⟨fun i' j' _ q => by unfold bef at q; exfalso; have : (0 : Int).toNat = 0 := rfl; omega, fun y hy => absurd hy (PS_c0 h y)⟩
theorem SMS2_r {s u : gH} {f g : Nat → ND} {m : Nat} {i j : Int} (h : SMS2 s u f g m i j) (h0 : 0 ≤ i) (hj : j = m) : SMS2 s u f g m (i + 1) 0 := by
  unfold SMS2
  rw [show (i + 1).toNat = i.toNat + 1 by omega]
  exact SMI_r h (by omega)
theorem SMS2_v {s u t : gH} {f g : Nat → ND} {c1 c2 : BitVec 64} {i j res a1 a2 : Int} {a b n m : Nat} (h : SMS2 s u f g m i j) (hf : TF u a = f) (hg : TF u b = g) (bf : BDP f n) (bg : BDP g m) (b9 : B99 f n) (c9 : B99 g m) (h0 : 0 ≤ i ∧ i < n) (h1 : 0 ≤ j ∧ j < m) (ca1 : PMK (gp_L u (a + 1) i.toNat) (gp_L u (b + 1) j.toNat) (fun q => (gp_I u 22 q).toNat) i.toNat j.toNat c1) (ca2 : PMK (gp_L u (a + 2) i.toNat) (gp_L u (b + 2) j.toNat) (fun q => (gp_I u 22 q).toNat) i.toNat j.toNat c2) (av : AV u t c1 c2 a1 a2 res) (e1 : a1 = gp_wr (gp_I u (a + 3) i.toNat + gp_I u (b + 3) j.toNat)) (e2 : a2 = gp_wr (gp_I u (a + 4) i.toNat + gp_I u (b + 4) j.toNat)) : AVX u t (sm f g i.toNat j.toNat) res := by
  have fi : f i.toNat = (gp_L u (a + 1) i.toNat, gp_L u (a + 2) i.toNat, gp_I u (a + 3) i.toNat, gp_I u (a + 4) i.toNat) := by rw [← hf]; rfl
  have gj : g j.toNat = (gp_L u (b + 1) j.toNat, gp_L u (b + 2) j.toNat, gp_I u (b + 3) j.toNat, gp_I u (b + 4) j.toNat) := by rw [← hg]; rfl
  have x := b9 i.toNat (by omega)
  have y := c9 j.toNat (by omega)
  rw [fi] at x
  rw [gj] at y
  have x1 : -99999 ≤ gp_I u (a + 3) i.toNat ∧ gp_I u (a + 3) i.toNat ≤ 99999 ∧ -99999 ≤ gp_I u (a + 4) i.toNat ∧ gp_I u (a + 4) i.toNat ≤ 99999 := x
  have y1 : -99999 ≤ gp_I u (b + 3) j.toNat ∧ gp_I u (b + 3) j.toNat ≤ 99999 ∧ -99999 ≤ gp_I u (b + 4) j.toNat ∧ gp_I u (b + 4) j.toNat ≤ 99999 := y
  have d1 : a1 = (f i.toNat).2.2.1 + (g j.toNat).2.2.1 := by rw [e1, fi, gj]; exact gp_wr_id (by omega) (by omega)
  have d2 : a2 = (f i.toNat).2.2.2 + (g j.toNat).2.2.2 := by rw [e2, fi, gj]; exact gp_wr_id (by omega) (by omega)
  have z := SMI_v (l := c1) (r := c2) (a := a1) (b := a2) h (by omega) (fun k hk => bf i.toNat (by omega) k hk) (fun k hk => bg j.toNat (by omega) k hk) (by rw [fi, gj]; exact ca1) (by rw [fi, gj]; exact ca2) d1 d2
  exact AV_x av z.2.2
theorem SMS2_s {s u t t2 : gH} {f g : Nat → ND} {i j res : Int} {m p : Nat} (h : SMS2 s u f g m i j) (hm : m ≤ 60) (h0 : 0 ≤ i) (h1 : 0 ≤ j ∧ j < m) (av : AVX u t (sm f g i.toNat j.toNat) res) (r22 : ∀ k, gp_I t 22 k = gp_I u 22 k) (e : t2 = gp_wI t 22 p res) (hp : p = i.toNat * 60 + j.toNat) (hres : 0 ≤ res) : SMS2 s t2 f g m i (j + 1) := by
  rcases av.2 with ⟨k, k1, k2, k3, k4, k5⟩ | ⟨k1, _⟩
  · unfold SMS2
    rw [show (j + 1).toNat = j.toNat + 1 by omega]
    have ec : CP t2 = CP t := by rw [e]; rfl
    rw [ec]
    refine SMI_s h hm (by omega) k2 k3 k4 k5 (fun q => ?_)
    show (gp_I t2 22 q).toNat = if q = i.toNat * 60 + j.toNat then k else (gp_I u 22 q).toNat
    rw [e, gz_rwi, hp]
    by_cases c : q = i.toNat * 60 + j.toNat
    · rw [if_pos c, if_pos c]; omega
    · rw [if_neg c, if_neg c, r22]
  · omega
theorem SMS2_f {s u t : gH} {f g : Nat → ND} {i j res : Int} {n m : Nat} (h : SMS2 s u f g m i j) (tf : TBL f n) (tg : TBL g m) (h0 : 0 ≤ i ∧ i < n) (h1 : 0 ≤ j ∧ j < m) (av : AVX u t (sm f g i.toNat j.toNat) res) (hres : res < 0) : ¬ C60 (SMS f g (n - 1) (m - 1)) := by
  rcases av.2 with ⟨k, k1, _⟩ | ⟨_, k2⟩
  · omega
  · exact SMI_full h tf tg (by omega) (by omega) k2
theorem SMS2_e {s u : gH} {f g : Nat → ND} {i r : Int} {n m p : Nat} (h : SMS2 s u f g m i 0) (gv : GVC u) (hi : i = n) (hn : 0 < n) (hm : 0 < m) (hp : p = (n - 1) * 60 + (m - 1)) (hr : r = gp_I u 22 p) : val (CP u).2 r.toNat = sm f g (n - 1) (m - 1) ∧ C60 (SMS f g (n - 1) (m - 1)) := by
  have h' : SMI f g m (CP u) (fun q => (gp_I u 22 q).toNat) n 0 := by
    have := h
    unfold SMS2 at this
    rw [show i.toNat = n by omega] at this
    exact this
  refine ⟨?_, SMI_room h' gv.2.2 hn hm⟩
  have := (h'.1 (n - 1) (m - 1) (by omega) (Or.inl (by omega))).2
  rw [hr, hp]; exact this
set_option maxRecDepth 100000 in
/-- Pool.take -/
theorem xm_takeV  {L d : Nat} {K : Option gV → gH → Prop} {s : gH} (n_p0 : Nat) (p0 : Nat) (p1 : Int) (hs : XI L 0 s) (h_p1 : 0 ≤ p1 ∧ p1 ≤ 59) (q0 : kT L s p0 n_p0) (q1 : n_p0 ≤ 60) (q2 : p1 < n_p0) (q3 : PO s) (q4 : S2P s) (q5 : DSA s) (q6 : GVC s) (q7 : NRM (TF s p0) n_p0) (q8 : 117 ≤ p0) (k : ∀ (r : Int), ∀ (t : gH), XI L 0 t → gX L false [8, 9, 10, 11, 12, 13, 14, 15, 1196] s t → ((-1) ≤ r ∧ r ≤ 60) → (PO t) → ((r = -1 ∧ 60 ≤ gp_I s 6 4 + p1) ∨ (0 ≤ r ∧ r < gp_I t 6 4)) → (gp_I s 6 4 ≤ gp_I t 6 4 ∧ gp_I t 6 4 ≤ gp_I s 6 4 + p1 + 1) → (S2P t) → (DSA t) → (GVC t) → (IK s t) → (TKP s t (TF s p0) (Int.toNat p1) r) → K (some (gp_i r)) t) : gs_C L (d + 4) 1031 6 [gp_r (some 6), gp_r (some p0), gp_i p1] s K := by
  have hn_p0 := q0.n hs
  have f_1 := xr6_4 hs
  refine s_1031_e _ _ ?_
  have hBD := BDP_TF q0 hs
  have hk5 := q0.1
  refine ⟨p0, rfl, ?_⟩
  refine ⟨q0.2.1, ?_⟩
  refine xm_followersX n_p0 _ _ hs (by omega) (by first | assumption | exact kT7 hs.1.1 | exact kT25 hs.1.1) (by first | omega | assumption) (fun m_2 p_3 p_4 p_5 p_6 => ⟨_, rfl, ?_⟩)
  have hcw : m_2 = clo (mskf (TF s p0)) (Int.toNat p1) (1#64 <<< Int.toNat p1) := p_6.trans (CLT_TF (by omega))
  have hFC2 : FC (fun k => (TF s p0 k).1) (fun k => (TF s p0 k).2.1) m_2 := p_5
  have lp_8 : ∀ (n_8 : Nat) (v5_8 : Int) (s_8 : gH), (XI L 0 s_8) → (gX L false [8, 9, 10, 11, 12, 13, 14, 15, 1196] s s_8) → (PO s_8) → (S2P s_8) → (DSA s_8) → (IK s s_8) → (GVC s_8) → (kT L s_8 p0 n_p0) → (0 ≤ v5_8 ∧ v5_8 ≤ 60) → (∀ k : Nat, (k : Int) < v5_8 → (m_2).getLsbD k = true → 0 ≤ gp_I s_8 15 k ∧ gp_I s_8 15 k < gp_I s_8 6 4) → (gp_I s 6 4 ≤ gp_I s_8 6 4) → (gp_I s_8 6 4 ≤ gp_I s 6 4 + v5_8) → (v5_8 ≤ p1 + 1) → (TKS s s_8 (TF s p0) m_2 v5_8) → (61 - v5_8).toNat < n_8 → gs_E L (d + 4) 1031 9 [gp_r (some 6), gp_r (some p0), gp_i p1, gp_l m_2, gp_n, gp_i v5_8] [] s_8 K := by
    intro n_8
    induction n_8 with
    | zero => intro v5_8 s_8 hs_s_8 hf_s_8 PO_s_8 S2P_s_8 DSA_s_8 IK_s_s_8 GVC_s_8 kt_p0_s_8 hv5_8 iv0_8 iv1_8 iv2_8 iv3_8 iv4_8 hm_8; exact absurd hm_8 (Nat.not_lt_zero _)
    | succ n_8 ih_8 =>
      intro v5_8 s_8 hs_s_8 hf_s_8 PO_s_8 S2P_s_8 DSA_s_8 IK_s_s_8 GVC_s_8 kt_p0_s_8 hv5_8 iv0_8 iv1_8 iv2_8 iv3_8 iv4_8 hm_8
      refine s_1031_9 _ _ _ _ ?_
      refine ⟨fun h_9 => ?_, fun h_9 => ?_⟩
      · refine ⟨by omega, ?_⟩
        have f_10 := xr15 hs_s_8 (Int.toNat p1)
        have hrt := iv0_8 (Int.toNat p1) (by omega) (by assumption)
        exact k _ s_8 hs_s_8 hf_s_8 (by omega) (PO_s_8) (by first | omega | assumption) (by first | omega | assumption) (S2P_s_8) (DSA_s_8) (GVC_s_8) (IK_s_s_8) (TKS_e iv4_8 hBD ⟨by omega, by omega, by omega, by omega⟩ hcw rfl (by omega))
      · refine xm_has _ _ (by omega) (fun x_11 p_12 p_13 => ⟨_, rfl, ?_⟩)
        refine ⟨fun h_14 => ?_, fun h_14 => ?_⟩
        · have hb_15 := hasF p_13 h_14
          refine s_1031_93 _ _ _ _ ?_
          try rw [show gp_wr (v5_8 + 1) = v5_8 + 1 from gp_wr_id (by omega) (by omega)]
          exact ih_8 _ _ hs_s_8 hf_s_8 PO_s_8 S2P_s_8 DSA_s_8 IK_s_s_8 GVC_s_8 kt_p0_s_8 (by omega) (by first | exact tk_no (by omega) iv0_8 (by assumption) | exact tk_step (by omega) iv0_8 hcf1 hcf2 rfl rfl (by assumption) (by omega) (by omega) (by omega)) (by first | omega | assumption) (by first | omega | assumption) (by first | omega | assumption) (by first | exact TKS_n iv4_8 (by omega) (by assumption) | exact TKS_y iv4_8 (by omega) (by assumption) hAVX hr15 (by assumption) (by omega)) (by omega)
        · have hb_18 := hasT p_13 h_14
          have hN60 := xr6_4 hs_s_8
          have htk := tk_pre q0 hs (by omega) hf_s_8 rfl rfl (by omega) ‹FC _ _ m_2› (by assumption) iv0_8
          have hTF9 : TF s_8 p0 = TF s p0 := TF_fr hf_s_8 IK_s_s_8 (by omega) (by omega)
          refine ⟨p0, rfl, ?_⟩
          refine ⟨kt_p0_s_8.2.1, ?_⟩
          refine ⟨(p0 + 1), (kt_p0_s_8.tt hs_s_8).1.2.2.2.1.1, ?_⟩
          refine ⟨gin ((kt_p0_s_8.tt hs_s_8).1.2.2.2.2.1.1) (by omega), ?_⟩
          have b_19 : bd (gp_L s_8 (p0 + 1) (Int.toNat v5_8)) v5_8 := bd_le ((kt_p0_s_8.tt hs_s_8).1.2.2.2.2.2 (Int.toNat v5_8)).1.1 (by omega)
          refine xm_carried15X (gp_I s_8 6 4) v5_8 _ hs_s_8 (by first | assumption | exact bd_le (by assumption) (by omega) | exact bd_0 _) (by first | omega | assumption) (by first | omega | assumption) (htk.1) (fun m_20 p_21 p_22 => ⟨_, rfl, ?_⟩)
          have hca1 := p_22
          have hcb1 := p_21
          refine ⟨kt_p0_s_8.2.1, ?_⟩
          refine ⟨(p0 + 2), (kt_p0_s_8.tt hs_s_8).1.2.2.2.1.2.1, ?_⟩
          refine ⟨gin ((kt_p0_s_8.tt hs_s_8).1.2.2.2.2.1.2.1) (by omega), ?_⟩
          have b_23 : bd (gp_L s_8 (p0 + 2) (Int.toNat v5_8)) v5_8 := bd_le ((kt_p0_s_8.tt hs_s_8).1.2.2.2.2.2 (Int.toNat v5_8)).1.2 (by omega)
          refine xm_carried15X (gp_I s_8 6 4) v5_8 _ hs_s_8 (by first | assumption | exact bd_le (by assumption) (by omega) | exact bd_0 _) (by first | omega | assumption) (by first | omega | assumption) (htk.2) (fun m_24 p_25 p_26 => ⟨_, rfl, ?_⟩)
          have hca2 := p_26
          have hcb2 := p_25
          have hGV9 := GVC_s_8
          refine ⟨kt_p0_s_8.2.1, ?_⟩
          refine ⟨(p0 + 3), (kt_p0_s_8.tt hs_s_8).1.2.2.2.1.2.2.1, ?_⟩
          refine ⟨gin ((kt_p0_s_8.tt hs_s_8).1.2.2.2.2.1.2.2.1) (by omega), ?_⟩
          refine ⟨kt_p0_s_8.2.1, ?_⟩
          refine ⟨(p0 + 4), (kt_p0_s_8.tt hs_s_8).1.2.2.2.1.2.2.2.1, ?_⟩
          refine ⟨gin ((kt_p0_s_8.tt hs_s_8).1.2.2.2.2.1.2.2.2.1) (by omega), ?_⟩
          refine xm_sketchI _ _ _ _ hs_s_8 (PO_s_8) (by first | assumption | exact bd_le (by assumption) (by omega) | exact bd_0 _) (by first | assumption | exact bd_le (by assumption) (by omega) | exact bd_0 _) (S2P_s_8) (DSA_s_8) (fun s_27 hs_28 hf_29 p_30 p_31 p_32 p_33 p_34 p_35 => ⟨rfl, ?_⟩)
          have hf_36 : gX L false [8, 9, 10, 11, 12, 13, 14, 15, 1196] s s_27 := gX.trans hf_s_8 hf_29 rfl rfl
          have kt_37 : kT L s_27 p0 n_p0 := kt_p0_s_8.fr hf_29.1
          have q_38 : gp_I s_27 6 4 = gp_I s_8 6 4 := (hf_29.2.2.1 6 4 (by decide) (by decide) rfl).1
          have pd_39 : IK s s_27 := IK_t IK_s_s_8 p_35 ((hf_s_8).1.1)
          have hcf1 := hf_29
          have hSKX := p_32
          have hsu := hs_28
          have hDS9 := p_34
          refine xm_settleI hs_28 (p_30) (p_31) (p_33) (fun x_40 s_41 hs_42 hf_43 p_44 p_45 p_46 p_47 p_48 p_49 => ⟨_, rfl, ?_⟩)
          have hf_50 : gX L false [8, 9, 10, 11, 12, 13, 14, 15, 1196] s s_41 := gX.trans hf_36 hf_43 rfl rfl
          have kt_51 : kT L s_41 p0 n_p0 := kt_37.fr hf_43.1
          have pd_52 : IK s s_41 := IK_t pd_39 p_49 ((hf_36).1.1)
          have hcf2 := hf_43
          obtain ⟨y9, hy9⟩ : ∃ y, y = x_40 := ⟨_, rfl⟩
          have hAD := ADX_of hsu hSKX hDS9 (by omega) (by omega) p_48 hf_43
          have hAV := AV_of hs_s_8 hs_42 hGV9 hAD.1 hcb1 hcb2
          have hr15 : ∀ k : Nat, gp_I s_41 15 k = gp_I s_8 15 k := fun k => (hcf2.2.2.1 15 k (by decide) (by decide) rfl).1.trans (hcf1.2.2.1 15 k (by decide) (by decide) rfl).1
          have hAVX := TKS_v iv4_8 hTF9 hBD q7 ⟨by omega, by omega⟩ (by assumption) hFC2 hca1 hca2 hAV rfl rfl
          have hD2 : DSA s_41 := hAD.2
          have hGV2 : GVC s_41 := hAVX.1
          refine ⟨by omega, ?_⟩
          intro s_53 e_54
          have hs_55 : XI L 0 s_53 := by rw [e_54]; exact xw15 hs_42 _ _ (by omega)
          have hf_56 : gX L false [8, 9, 10, 11, 12, 13, 14, 15, 1196] s s_53 := by rw [e_54]; exact gX.wI hf_50 (Or.inl rfl)
          have kt_57 : kT L s_53 p0 n_p0 := by rw [e_54]; exact kt_51
          have q_58 : gp_I s_53 6 4 = gp_I s_41 6 4 := by rw [e_54] <;> first | rfl | exact I_ne (by omega)
          have pd_59 : PO s_53 := by rw [e_54]; exact PO_fr p_45 (gX.wI (gX.refl L true [15] _) (Or.inl rfl)) rfl rfl rfl rfl rfl rfl
          have pd_60 : S2P s_53 := by rw [e_54]; exact S2P_fr p_47 (gX.wI (gX.refl L true [15] _) (Or.inl rfl)) rfl rfl rfl rfl rfl rfl rfl rfl
          have pd_61 : DSA s_53 := by rw [e_54]; exact DSA_fr hD2 (gX.wI (gX.refl L true [15] _) (Or.inl rfl)) rfl rfl rfl rfl
          have pd_62 : IK s s_53 := by rw [e_54]; exact IK_wI pd_52 (Or.inl (by decide))
          have pd_63 : GVC s_53 := by rw [e_54]; exact GVC_fr hGV2 (gX.wI (gX.refl L true [15] _) (Or.inl rfl)) rfl rfl rfl rfl rfl
          refine ⟨by omega, ?_⟩
          have f_64 := xr15 hs_55 (Int.toNat v5_8)
          have hpl : gp_I s_53 15 (Int.toNat v5_8) = y9 := by rw [hy9, ‹s_53 = gp_wI _ 15 _ _›]; exact (gz_rw _ _ _ _ _).1 rfl
          refine ⟨fun h_65 => ?_, fun h_65 => ?_⟩
          · exact k _ s_53 hs_55 hf_56 (by omega) (pd_59) (by first | omega | assumption) (by first | omega | assumption) (pd_60) (pd_61) (pd_63) (pd_62) (TKS_f iv4_8 hBD ⟨by omega, by omega, by omega, by omega⟩ (by assumption) hcw hAVX (by omega) rfl)
          · refine s_1031_93 _ _ _ _ ?_
            try rw [show gp_wr (v5_8 + 1) = v5_8 + 1 from gp_wr_id (by omega) (by omega)]
            exact ih_8 _ _ hs_55 hf_56 pd_59 pd_60 pd_61 pd_62 pd_63 kt_57 (by omega) (by first | exact tk_no (by omega) iv0_8 (by assumption) | exact tk_step (by omega) iv0_8 hcf1 hcf2 rfl rfl (by assumption) (by omega) (by omega) (by omega)) (by first | omega | assumption) (by first | omega | assumption) (by first | omega | assumption) (by first | exact TKS_n iv4_8 (by omega) (by assumption) | exact TKS_y iv4_8 (by omega) (by assumption) hAVX hr15 (by assumption) (by omega)) (by omega)
  exact lp_8 _ _ _ hs (gX.refl _ _ _ _) q3 q4 q5 (IK_r s) q6 q0 (by omega) (fun k hk => by omega) (by first | omega | assumption) (by first | omega | assumption) (by first | omega | assumption) (TKS_0) (Nat.lt_succ_self _)
