/-! what is made, by numbers -/
theorem B99_of {f g : Nat → ND} {i j : Nat} (h : val f i = val g j) (b : -99999 ≤ (g j).2.2.1 ∧ (g j).2.2.1 ≤ 99999 ∧ -99999 ≤ (g j).2.2.2 ∧ (g j).2.2.2 ≤ 99999) : -99999 ≤ (f i).2.2.1 ∧ (f i).2.2.1 ≤ 99999 ∧ -99999 ≤ (f i).2.2.2 ∧ (f i).2.2.2 ≤ 99999 := by
  have a := val_m h
  rw [a.2.2.1, a.2.2.2]; exact b
theorem NGS_b {s u : gH} {f g : Nat → ND} {i : Int} {n m : Nat} (h : NGS s u f i) (h0 : i ≤ n) (b9 : B99 f n) (ps : ∀ j, j < m → PS (CP u) (val g j)) : B99 g m := fun j hj => by
  obtain ⟨k, k1, k2⟩ := h.2 _ (ps j hj)
  rw [val_e, negv_e] at k2
  obtain ⟨_, _, c, d⟩ := cod4_inj k2
  have b := b9 k (by omega)
  rw [c, d]
  omega
theorem NEG_ret {L : Nat} {s u t : gH} {p0 a n n0 : Nat} {i r : Int} (kt : kT L t a n) (hn : n ≤ 60 ∧ 117 ≤ a ∧ TBL (TF t a) n ∧ NRM (TF t a) n ∧ val (TF t a) (n - 1) = val (CP u).2 r.toNat ∧ ∀ i, i < n → PS (CP u) (val (TF t a) i)) (h : 117 ≤ p0 ∧ TBG (TF s p0) n0 → NGS s u (TF s p0) i) (h0 : i = n0 ∧ 0 < n0) (hr : r = gp_I u 21 (n0 - 1)) : ∃ a' n', some a = some a' ∧ kT L t a' n' ∧ n' ≤ 60 ∧ 117 ≤ a' ∧ (117 ≤ p0 ∧ TBG (TF s p0) n0 → TBG (TF t a') n' ∧ val (TF t a') (n' - 1) = negv (TF s p0) (n0 - 1)) :=
  ⟨a, n, rfl, kt, hn.1, hn.2.1, fun g => ⟨⟨hn.2.2.1, hn.2.2.2.1, NGS_b (h g) (by omega) g.2.2.2 hn.2.2.2.2.2⟩, hn.2.2.2.2.1.trans (NGS_e (h g) h0 hr)⟩⟩
def B2S (f : Nat → ND) (n : Nat) : Prop := ∀ k, k < n → -199998 ≤ (f k).2.2.1 ∧ (f k).2.2.1 ≤ 199998 ∧ -199998 ≤ (f k).2.2.2 ∧ (f k).2.2.2 ≤ 199998
theorem SMS2_b {s u : gH} {f g h : Nat → ND} {i : Int} {n m q : Nat} (x : SMS2 s u f g m i 0) (h0 : 0 ≤ i ∧ i ≤ n) (b9 : B99 f n) (c9 : B99 g m) (ps : ∀ j, j < q → PS (CP u) (val h j)) : B2S h q := fun j hj => by
  obtain ⟨i', j', k1, k2, k3⟩ := x.2 _ (ps j hj)
  rw [val_e, sm_e] at k3
  obtain ⟨_, _, c, d⟩ := cod4_inj k3
  unfold bef at k2
  have z : (0 : Int).toNat = 0 := rfl
  have b := b9 i' (by omega)
  have e := c9 j' (by omega)
  rw [c, d]
  constructor
  · split <;> omega
  · refine ⟨?_, ?_, ?_⟩ <;> split <;> omega
def JNP (s : gH) (p0 p1 n0 n1 : Nat) : Prop := (117 ≤ p0 ∧ TBG (TF s p0) n0) ∧ 117 ≤ p1 ∧ TBG (TF s p1) n1
def JNR (L : Nat) (s t : gH) (p0 p1 n0 n1 : Nat) (r : Option Nat) : Prop := JNP s p0 p1 n0 n1 → (r = none ∧ ¬ C60 (SMS (TF s p0) (TF s p1) (n0 - 1) (n1 - 1))) ∨ ∃ a n, r = some a ∧ kT L t a n ∧ 117 ≤ a ∧ TBL (TF t a) n ∧ NRM (TF t a) n ∧ val (TF t a) (n - 1) = sm (TF s p0) (TF s p1) (n0 - 1) (n1 - 1) ∧ C60 (SMS (TF s p0) (TF s p1) (n0 - 1) (n1 - 1)) ∧ n ≤ 60 ∧ B2S (TF t a) n
theorem JN_ret {L : Nat} {s u t : gH} {p0 p1 a n n0 n1 p : Nat} {i r : Int} (kt : kT L t a n) (hn : n ≤ 60 ∧ 117 ≤ a ∧ TBL (TF t a) n ∧ NRM (TF t a) n ∧ val (TF t a) (n - 1) = val (CP u).2 r.toNat ∧ ∀ i, i < n → PS (CP u) (val (TF t a) i)) (h : JNP s p0 p1 n0 n1 → SMS2 s u (TF s p0) (TF s p1) n1 i 0) (gv : GVC u) (h0 : i = n0 ∧ 0 < n0 ∧ 0 < n1) (hp : p = (n0 - 1) * 60 + (n1 - 1)) (hr : r = gp_I u 22 p) : JNR L s t p0 p1 n0 n1 (some a) := fun g => by
  have e := SMS2_e (h g) gv h0.1 h0.2.1 h0.2.2 hp hr
  exact Or.inr ⟨a, n, rfl, kt, hn.2.1, hn.2.2.1, hn.2.2.2.1, hn.2.2.2.2.1.trans e.1, e.2, hn.1, SMS2_b (h g) (by omega) g.1.2.2.2 g.2.2.2.2 hn.2.2.2.2.2⟩
/-! plain numbers, waits -/
theorem TBL_1 {f : Nat → ND} (h1 : (f 0).1 = 0#64) (h2 : (f 0).2.1 = 0#64) : TBL f 1 := ⟨by decide, fun i hi k hk => by
    rw [show i = 0 by omega, h1, h2] at hk
    rcases hk with q | q <;> simp at q, fun i j hi hj _ => by omega, fun k hk => ⟨0, by show 1 - 1 = k; omega⟩⟩
theorem val_0 {f : Nat → ND} {a b : Int} (h : f 0 = (0#64, 0#64, a, b)) : val f 0 = cod4 0 0 a b := by
  rw [val_e, h]; rfl
theorem TF_pl {u : gH} {a : Nat} {x y : Int} (z : ZRO u a) : TF (gp_wI (gp_wI u (a + 3) 0 x) (a + 4) 0 y) a 0 = (0#64, 0#64, x, y) := by
  unfold TF
  have e1 : gp_L (gp_wI (gp_wI u (a + 3) 0 x) (a + 4) 0 y) (a + 1) 0 = gp_L u (a + 1) 0 := rfl
  have e2 : gp_L (gp_wI (gp_wI u (a + 3) 0 x) (a + 4) 0 y) (a + 2) 0 = gp_L u (a + 2) 0 := rfl
  have e3 : gp_I (gp_wI (gp_wI u (a + 3) 0 x) (a + 4) 0 y) (a + 3) 0 = x := (I_ne (show a + 3 ≠ a + 4 by omega)).trans ((gz_rw u (a + 3) 0 0 x).1 rfl)
  have e4 : gp_I (gp_wI (gp_wI u (a + 3) 0 x) (a + 4) 0 y) (a + 4) 0 = y := (gz_rw (gp_wI u (a + 3) 0 x) (a + 4) 0 0 y).1 rfl
  rw [e1, e2, e3, e4, (z 0).1, (z 0).2.1]
theorem PL_ret {L : Nat} {t u : gH} {a n : Nat} {x : Int} (kt : kT L t a n) (hn : n = 1) (ha : 117 ≤ a) (z : ZRO u a) (e : t = gp_wI (gp_wI u (a + 3) 0 x) (a + 4) 0 x) (hx : 0 ≤ x ∧ x ≤ 999) : ∃ a' n', some a = some a' ∧ kT L t a' n' ∧ n' ≤ 60 ∧ 117 ≤ a' ∧ TBG (TF t a') n' ∧ val (TF t a') (n' - 1) = cod4 0 0 x x := by
  subst hn
  have f0 : TF t a 0 = (0#64, 0#64, x, x) := by rw [e]; exact TF_pl z
  refine ⟨a, 1, rfl, kt, by decide, ha, ⟨TBL_1 (by rw [f0]) (by rw [f0]), fun k hk => ?_, fun k hk => ?_⟩, val_0 f0⟩
  · rw [show k = 0 by omega, f0]
    exact ⟨fun q => absurd rfl q, fun q => absurd rfl q⟩
  · rw [show k = 0 by omega, f0]
    show -99999 ≤ x ∧ x ≤ 99999 ∧ -99999 ≤ x ∧ x ≤ 99999
    omega
def wtv : Nat → Nat
  | 0 => cod4 0 0 0 0
  | n + 1 => cod4 (2 ^ wtv n) 0 0 0
def WTI (u : gH) (a : Nat) (k : Int) : Prop := ∀ j : Nat, TF u a j = if 1 ≤ j ∧ (j : Int) < k then (1#64 <<< (j - 1), 0#64, 0, 0) else (0#64, 0#64, 0, 0)
theorem WTI_0 {u : gH} {a : Nat} (z : ZRO u a) : WTI u a 1 := fun j => by
  rw [if_neg (by omega)]
  unfold TF
  rw [(z j).1, (z j).2.1, (z j).2.2.1, (z j).2.2.2]
theorem WTI_s {u t v : gH} {a : Nat} {k x : Int} {m : BitVec 64} (h : WTI u a k) (h1 : 1 ≤ k ∧ k ≤ 60) (hm : m = 1#64 <<< Int.toNat ((k - 1) % 64)) (e1 : t = gp_wL u (a + 1) k.toNat m) (e2 : v = gp_wI t (a + 5) k.toNat x) : WTI v a (k + 1) := fun j => by
  have e : TF v a j = if j = k.toNat then (m, (TF u a j).2) else TF u a j := by
    rw [e2, e1]
    unfold TF
    have a1 : gp_L (gp_wI (gp_wL u (a + 1) k.toNat m) (a + 5) k.toNat x) (a + 1) j = if j = k.toNat then m else gp_L u (a + 1) j := gz_rwLi u (a + 1) k.toNat m j
    have a2 : gp_L (gp_wI (gp_wL u (a + 1) k.toNat m) (a + 5) k.toNat x) (a + 2) j = gp_L u (a + 2) j := L_ne (show a + 2 ≠ a + 1 by omega)
    have a3 : gp_I (gp_wI (gp_wL u (a + 1) k.toNat m) (a + 5) k.toNat x) (a + 3) j = gp_I u (a + 3) j := I_ne (show a + 3 ≠ a + 5 by omega)
    have a4 : gp_I (gp_wI (gp_wL u (a + 1) k.toNat m) (a + 5) k.toNat x) (a + 4) j = gp_I u (a + 4) j := I_ne (show a + 4 ≠ a + 5 by omega)
    rw [a1, a2, a3, a4]
    by_cases c : j = k.toNat
    · rw [if_pos c, if_pos c]
    · rw [if_neg c, if_neg c]
  rw [e, h j]
  by_cases c : j = k.toNat
  · rw [if_pos c, if_neg (by omega), if_pos (by omega), hm, show Int.toNat ((k - 1) % 64) = j - 1 by omega]
  · rw [if_neg c]
    by_cases d : 1 ≤ j ∧ (j : Int) < k
    · rw [if_pos d, if_pos (by omega)]
    · rw [if_neg d, if_neg (by omega)]
theorem WT_val {f : Nat → ND} {n : Nat} (h : ∀ j, j < n → f j = if 1 ≤ j then (1#64 <<< (j - 1), 0#64, 0, 0) else (0#64, 0#64, 0, 0)) (h60 : n ≤ 60) : ∀ j, j < n → val f j = wtv j
  | 0, hj => by rw [val_e, h 0 hj]; rfl
  | j + 1, hj => by
    have e := h (j + 1) hj
    rw [if_pos (by omega), show j + 1 - 1 = j by omega] at e
    rw [val_e, e]
    show cod4 (cset (1#64 <<< j) (val f) (j + 1)) (cset 0#64 (val f) (j + 1)) 0 0 = cod4 (2 ^ wtv j) 0 0 0
    have c1 : cset (1#64 <<< j) (val f) (j + 1) = 2 ^ val f j := by
      have := cset_or (x := 0#64) (v := val f) (w := val f) (n := 0) (m := j + 1) (k := j) (fun q hq => by simp at hq) (by omega) (fun q hq => rfl) (by omega) (by omega)
      rw [show (0#64 ||| 1#64 <<< j) = 1#64 <<< j by simp] at this
      rw [this]
      show 0 ||| 2 ^ val f j = _
      rw [Nat.zero_or]
    rw [c1, cset_z, WT_val h h60 j (by omega)]
theorem WT_ret {L : Nat} {t : gH} {a n : Nat} {k : Int} (kt : kT L t a n) (ha : 117 ≤ a) (h : WTI t a k) (hk : k = n) (h0 : 0 < n ∧ n ≤ 60) (p0 : Int) (hp : p0 = n - 1) : ∃ a' n', some a = some a' ∧ kT L t a' n' ∧ n' ≤ 60 ∧ 117 ≤ a' ∧ TBG (TF t a') n' ∧ val (TF t a') (n' - 1) = wtv p0.toNat := by
  have f : ∀ j, j < n → TF t a j = if 1 ≤ j then (1#64 <<< (j - 1), 0#64, 0, 0) else (0#64, 0#64, 0, 0) := fun j hj => by
    rw [h j]
    by_cases c : 1 ≤ j
    · rw [if_pos ⟨c, by omega⟩, if_pos c]
    · rw [if_neg (fun q => c q.1), if_neg c]
  have v := WT_val f h0.2
  have bd : BDP (TF t a) n := fun i hi q hq => by
    rw [f i hi] at hq
    by_cases c : 1 ≤ i
    · rw [if_pos c] at hq
      rcases hq with z | z
      · have := (one_bit (show i - 1 < 64 by omega)).mp z; omega
      · simp at z
    · rw [if_neg c] at hq
      rcases hq with z | z <;> simp at z
  refine ⟨a, n, rfl, kt, h0.2, ha, ⟨⟨h0.1, bd, fun i j hi hj e => ?_, fun q hq => ?_⟩, fun q hq => ?_, fun q hq => ?_⟩, by rw [v (n - 1) (by omega), show p0.toNat = n - 1 by omega]⟩
  · rw [f i hi, f j hj] at e
    by_cases c : 1 ≤ i <;> by_cases d : 1 ≤ j
    · rw [if_pos c, if_pos d] at e
      injection e with e1 _
      have z := (one_bit (n := i - 1) (k := i - 1) (by omega)).mpr rfl
      rw [e1] at z
      have := (one_bit (by omega)).mp z
      omega
    · rw [if_pos c, if_neg d] at e
      injection e with e1 _
      have z := (one_bit (n := i - 1) (k := i - 1) (by omega)).mpr rfl
      rw [e1] at z; simp at z
    · rw [if_neg c, if_pos d] at e
      injection e with e1 _
      have z := (one_bit (n := j - 1) (k := j - 1) (by omega)).mpr rfl
      rw [← e1] at z; simp at z
    · omega
  · have key : ∀ m q : Nat, q + m < n → rch (TF t a) m (q + m) q := by
      intro m
      induction m with
      | zero => intro q _; rfl
      | succ m ih =>
        intro q hq
        refine ⟨q + m, by omega, ?_, ih q (by omega)⟩
        rw [f (q + (m + 1)) hq, if_pos (by omega)]
        exact Or.inl ((one_bit (by omega)).mpr (by omega))
    have := key (n - 1 - q) q (by omega)
    rw [show q + (n - 1 - q) = n - 1 by omega] at this
    exact ⟨_, this⟩
  · rw [f q hq]
    by_cases c : 1 ≤ q
    · rw [if_pos c]; exact ⟨fun _ => rfl, fun _ => rfl⟩
    · rw [if_neg c]; exact ⟨fun _ => rfl, fun _ => rfl⟩
  · rw [f q hq]
    by_cases c : 1 ≤ q
    · rw [if_pos c]; show -99999 ≤ (0 : Int) ∧ (0 : Int) ≤ 99999 ∧ -99999 ≤ (0 : Int) ∧ (0 : Int) ≤ 99999; decide
    · rw [if_neg c]; show -99999 ≤ (0 : Int) ∧ (0 : Int) ≤ 99999 ∧ -99999 ≤ (0 : Int) ∧ (0 : Int) ≤ 99999; decide
set_option maxRecDepth 100000 in
/-- Maker.negated -/
theorem xm_negatedV  {L d : Nat} {K : Option gV → gH → Prop} {s : gH} (n_p0 : Nat) (p0 : Nat) (hs : XI L 0 s)  (q0 : kT L s p0 n_p0) (q1 : n_p0 ≤ 60) (k : ∀ (r : Option Nat), ∀ (t : gH), XI L 0 t → gX L true [8, 9, 10, 11, 12, 13, 14, 15, 21, 1196] s t → (∃ a n, r = some a ∧ kT L t a n ∧ n ≤ 60 ∧ 117 ≤ a ∧ (117 ≤ p0 ∧ TBG (TF s p0) n_p0 → TBG (TF t a) n ∧ val (TF t a) (n - 1) = negv (TF s p0) (n_p0 - 1))) → (gp_sz t ≤ gp_sz s + 6) → (gp_us t ≤ gp_us s + 310) → (IK s t) → K (some (gp_r r)) t) : gs_C L (d + 5) 260 3 [gp_r (some 20), gp_r (some p0)] s K := by
  have hn_p0 := q0.n hs
  have f_1 := xr6_4 hs
  refine s_260_e _ ?_
  have hBD := BDP_TF q0 hs
  have hk5 := q0.1
  refine xm_emptyI hs (fun s_2 hs_3 hf_4 p_5 p_6 p_7 => ⟨rfl, ?_⟩)
  have hf_8 : gX L true [8, 9, 10, 11, 12, 13, 14, 15, 21, 1196] s s_2 := gX.sub hf_4 rfl rfl
  have kt_9 : kT L s_2 p0 n_p0 := q0.fr hf_4.1
  have z_10 : gp_sz s_2 = gp_sz s ∧ gp_us s_2 = gp_us s := hf_4.2.1 rfl
  have pd_11 : IK s s_2 := IK_t (IK_r s) p_7 ((gX.refl L true [] s).1.1)
  have hS0 : S2P s_2 := S2P_0 (by omega)
  have hD0 : DSA s_2 := DSA_0 (by omega)
  have hG0 : GVC s_2 := GVC_0 (by omega)
  have lp_13 : ∀ (n_13 : Nat) (v2_13 : Int) (s_13 : gH), (XI L 0 s_13) → (gX L true [8, 9, 10, 11, 12, 13, 14, 15, 21, 1196] s s_13) → (PO s_13) → (S2P s_13) → (DSA s_13) → (IK s s_13) → (GVC s_13) → (kT L s_13 p0 n_p0) → (gp_sz s_13 ≤ gp_sz s + 0 ∧ gp_us s_13 ≤ gp_us s + 0) → (0 ≤ v2_13 ∧ v2_13 ≤ 60) → (∀ k : Nat, (k : Int) < v2_13 → 0 ≤ gp_I s_13 21 k ∧ gp_I s_13 21 k < gp_I s_13 6 4) → (gp_I s_13 6 4 ≤ v2_13) → (117 ≤ p0 ∧ TBG (TF s p0) n_p0 → NGS s s_13 (TF s p0) v2_13) → (v2_13 ≤ n_p0) → (61 - v2_13).toNat < n_13 → gs_E L (d + 5) 260 9 [gp_r (some 20), gp_r (some p0), gp_i v2_13] [] s_13 K := by
    intro n_13
    induction n_13 with
    | zero => intro v2_13 s_13 hs_s_13 hf_s_13 PO_s_13 S2P_s_13 DSA_s_13 IK_s_s_13 GVC_s_13 kt_p0_s_13 rm_s_13 hv2_13 iv0_13 iv1_13 iv2_13 iv3_13 hm_13; exact absurd hm_13 (Nat.not_lt_zero _)
    | succ n_13 ih_13 =>
      intro v2_13 s_13 hs_s_13 hf_s_13 PO_s_13 S2P_s_13 DSA_s_13 IK_s_s_13 GVC_s_13 kt_p0_s_13 rm_s_13 hv2_13 iv0_13 iv1_13 iv2_13 iv3_13 hm_13
      refine s_260_9 _ _ ?_
      refine ⟨p0, rfl, ?_⟩
      refine ⟨kt_p0_s_13.2.1, ?_⟩
      have f_14 := (kt_p0_s_13.tt hs_s_13).1.2.2.1
      have f_15 := kt_p0_s_13.n hs_s_13
      refine ⟨fun h_16 => ?_, fun h_16 => ?_⟩
      · have hN60 := xr6_4 hs_s_13
        have hTF9 := fun h117 : 117 ≤ p0 => TF_fr hf_s_13 IK_s_s_13 h117 hk5
        refine ⟨kt_p0_s_13.2.1, ?_⟩
        refine ⟨(p0 + 2), (kt_p0_s_13.tt hs_s_13).1.2.2.2.1.2.1, ?_⟩
        refine ⟨gin ((kt_p0_s_13.tt hs_s_13).1.2.2.2.2.1.2.1) (by omega), ?_⟩
        have b_17 : bd (gp_L s_13 (p0 + 2) (Int.toNat v2_13)) v2_13 := bd_le ((kt_p0_s_13.tt hs_s_13).1.2.2.2.2.2 (Int.toNat v2_13)).1.2 (by omega)
        refine xm_carried21X (gp_I s_13 6 4) v2_13 _ hs_s_13 (by first | assumption | exact bd_le (by assumption) (by omega) | exact bd_0 _) (by first | omega | assumption) (by first | omega | assumption) (fun k hk => iv0_13 k (by have h9 := (‹bd (gp_L s_13 (p0 + 2) (Int.toNat v2_13)) v2_13›) k hk; omega)) (fun m_18 p_19 p_20 => ⟨_, rfl, ?_⟩)
        have hca1 := p_20
        refine ⟨kt_p0_s_13.2.1, ?_⟩
        refine ⟨(p0 + 1), (kt_p0_s_13.tt hs_s_13).1.2.2.2.1.1, ?_⟩
        refine ⟨gin ((kt_p0_s_13.tt hs_s_13).1.2.2.2.2.1.1) (by omega), ?_⟩
        have b_21 : bd (gp_L s_13 (p0 + 1) (Int.toNat v2_13)) v2_13 := bd_le ((kt_p0_s_13.tt hs_s_13).1.2.2.2.2.2 (Int.toNat v2_13)).1.1 (by omega)
        refine xm_carried21X (gp_I s_13 6 4) v2_13 _ hs_s_13 (by first | assumption | exact bd_le (by assumption) (by omega) | exact bd_0 _) (by first | omega | assumption) (by first | omega | assumption) (fun k hk => iv0_13 k (by have h9 := (‹bd (gp_L s_13 (p0 + 1) (Int.toNat v2_13)) v2_13›) k hk; omega)) (fun m_22 p_23 p_24 => ⟨_, rfl, ?_⟩)
        have hca2 := p_24
        refine ⟨kt_p0_s_13.2.1, ?_⟩
        refine ⟨(p0 + 4), (kt_p0_s_13.tt hs_s_13).1.2.2.2.1.2.2.2.1, ?_⟩
        refine ⟨gin ((kt_p0_s_13.tt hs_s_13).1.2.2.2.2.1.2.2.2.1) (by omega), ?_⟩
        have w_25 := wr_rng (-(gp_I s_13 (p0 + 4) (Int.toNat v2_13)))
        refine ⟨kt_p0_s_13.2.1, ?_⟩
        refine ⟨(p0 + 3), (kt_p0_s_13.tt hs_s_13).1.2.2.2.1.2.2.1, ?_⟩
        refine ⟨gin ((kt_p0_s_13.tt hs_s_13).1.2.2.2.2.1.2.2.1) (by omega), ?_⟩
        have w_26 := wr_rng (-(gp_I s_13 (p0 + 3) (Int.toNat v2_13)))
        refine xm_addI _ _ _ _ hs_s_13 (PO_s_13) (by first | assumption | exact bd_le (by assumption) (by omega) | exact bd_0 _) (by first | assumption | exact bd_le (by assumption) (by omega) | exact bd_0 _) (S2P_s_13) (DSA_s_13) (GVC_s_13) (fun x_27 s_28 hs_29 hf_30 p_31 p_32 p_33 p_34 p_35 p_36 p_37 p_38 => ⟨_, rfl, ?_⟩)
        have hf_39 : gX L true [8, 9, 10, 11, 12, 13, 14, 15, 21, 1196] s s_28 := gX.trans hf_s_13 hf_30 rfl rfl
        have kt_40 : kT L s_28 p0 n_p0 := kt_p0_s_13.fr hf_30.1
        have z_41 : gp_sz s_28 = gp_sz s_13 ∧ gp_us s_28 = gp_us s_13 := hf_30.2.1 rfl
        have pd_42 : IK s s_28 := IK_t IK_s_s_13 p_37 ((hf_s_13).1.1)
        have hcf1 := hf_30
        have hAV := p_38
        have hGV2 : GVC s_28 := hAV.1
        have hr21 : ∀ k : Nat, gp_I s_28 21 k = gp_I s_13 21 k := fun k => (hf_30.2.2.1 21 k (by decide) (by decide) rfl).1
        refine ⟨by omega, ?_⟩
        intro s_43 e_44
        have hs_45 : XI L 0 s_43 := by rw [e_44]; exact xw21 hs_29 _ _ (by omega)
        have hf_46 : gX L true [8, 9, 10, 11, 12, 13, 14, 15, 21, 1196] s s_43 := by rw [e_44]; exact gX.wI hf_39 (Or.inl rfl)
        have kt_47 : kT L s_43 p0 n_p0 := by rw [e_44]; exact kt_40
        have z_48 : gp_sz s_43 = gp_sz s_28 ∧ gp_us s_43 = gp_us s_28 := by rw [e_44]; exact ⟨rfl, rfl⟩
        have q_49 : gp_I s_43 6 4 = gp_I s_28 6 4 := by rw [e_44] <;> first | rfl | exact I_ne (by omega)
        have pd_50 : PO s_43 := by rw [e_44]; exact PO_fr p_32 (gX.wI (gX.refl L true [21] _) (Or.inl rfl)) rfl rfl rfl rfl rfl rfl
        have pd_51 : S2P s_43 := by rw [e_44]; exact S2P_fr p_34 (gX.wI (gX.refl L true [21] _) (Or.inl rfl)) rfl rfl rfl rfl rfl rfl rfl rfl
        have pd_52 : DSA s_43 := by rw [e_44]; exact DSA_fr p_36 (gX.wI (gX.refl L true [21] _) (Or.inl rfl)) rfl rfl rfl rfl
        have pd_53 : IK s s_43 := by rw [e_44]; exact IK_wI pd_42 (Or.inl (by decide))
        have pd_54 : GVC s_43 := by rw [e_44]; exact GVC_fr hGV2 (gX.wI (gX.refl L true [21] _) (Or.inl rfl)) rfl rfl rfl rfl rfl
        try rw [show gp_wr (v2_13 + 1) = v2_13 + 1 from gp_wr_id (by omega) (by omega)]
        exact ih_13 _ _ hs_45 hf_46 pd_50 pd_51 pd_52 pd_53 pd_54 kt_47 (by omega) (by omega) (ng_step (by decide) (by omega) iv0_13 hcf1 (fun _ => rfl) (by assumption) (by omega) (by omega) (by omega)) (by first | omega | assumption) (fun hg => NGS_s (iv2_13 hg) (hTF9 hg.1) hBD hg.2.2.1 hg.2.2.2 (by omega) ⟨by omega, by omega⟩ hca1 hca2 hAV rfl rfl hr21 (by assumption)) (by first | omega | assumption) (by omega)
      · refine ⟨kt_p0_s_13.2.1, ?_⟩
        refine xm_root n_p0 _ hs_s_13 (by first | assumption | exact kT7 hs_s_13.1.1 | exact kT25 hs_s_13.1.1) (fun x_56 p_57 p_58 => ⟨_, rfl, ?_⟩)
        have hrt := iv0_13 (Int.toNat x_56) (by omega)
        have hgl := GVC_s_13
        obtain ⟨i9, hi9⟩ : ∃ i, i = Int.toNat x_56 := ⟨_, rfl⟩
        refine ⟨by omega, ?_⟩
        have f_59 := xr21 hs_s_13 (Int.toNat x_56)
        refine xm_tableOfV _ hs_s_13 (by omega) (PO_s_13) (by first | omega | assumption) (GVC_s_13) (fun o_60 s_61 hs_62 hf_63 p_64 p_65 p_66 p_67 => ⟨_, rfl, ?_⟩)
        have hf_68 : gX L true [8, 9, 10, 11, 12, 13, 14, 15, 21, 1196] s s_61 := gX.trans hf_s_13 hf_63 rfl rfl
        have kt_69 : kT L s_61 p0 n_p0 := kt_p0_s_13.fr hf_63.1
        have pd_70 : PO s_61 := PO_fr PO_s_13 hf_63 rfl rfl rfl rfl rfl rfl
        have pd_71 : S2P s_61 := S2P_fr S2P_s_13 hf_63 rfl rfl rfl rfl rfl rfl rfl rfl
        have pd_72 : DSA s_61 := DSA_fr DSA_s_13 hf_63 rfl rfl rfl rfl
        have pd_73 : GVC s_61 := GVC_fr GVC_s_13 hf_63 rfl rfl rfl rfl rfl
        have q_74 : gp_I s_61 6 4 = gp_I s_13 6 4 := (hf_63.2.2.1 6 4 (by decide) (by decide) rfl).1
        have pd_75 : IK s s_61 := IK_t IK_s_s_13 p_67 ((hf_s_13).1.1)
        obtain ⟨a_76, n_77, rfl, kt_78, hn_79⟩ := p_64
        have hn_a_76 := kt_78.n hs_62
        exact k _ s_61 hs_62 hf_68 (NEG_ret kt_78 hn_79 iv2_13 ⟨by omega, by omega⟩ (by congr 1; omega)) (by first | omega | assumption) (by first | omega | assumption) (pd_75)
  exact lp_13 _ _ _ hs_3 hf_8 p_6 hS0 hD0 pd_11 hG0 kt_9 (by omega) (by omega) (fun k hk => by omega) (by first | omega | assumption) (fun _ => NGS_0 (by omega)) (by first | omega | assumption) (Nat.lt_succ_self _)
set_option maxRecDepth 100000 in
/-- Maker.joined -/
theorem xm_joinedV  {L d : Nat} {K : Option gV → gH → Prop} {s : gH} (n_p0 n_p1 : Nat) (p0 : Nat) (p1 : Nat) (hs : XI L 0 s)  (q0 : kT L s p0 n_p0) (q1 : n_p0 ≤ 60) (q2 : kT L s p1 n_p1) (q3 : n_p1 ≤ 60) (k : ∀ (r : Option Nat), ∀ (t : gH), XI L 0 t → gX L true [8, 9, 10, 11, 12, 13, 14, 15, 22, 1196] s t → (r = none ∨ ∃ a n, r = some a ∧ kT L t a n ∧ n ≤ 60) → (gp_sz t ≤ gp_sz s + 6) → (gp_us t ≤ gp_us s + 310) → (IK s t) → (JNR L s t p0 p1 n_p0 n_p1 r) → K (some (gp_r r)) t) : gs_C L (d + 4) 262 6 [gp_r (some 20), gp_r (some p0), gp_r (some p1)] s K := by
  have hn_p0 := q0.n hs
  have hn_p1 := q2.n hs
  have f_1 := xr6_4 hs
  refine s_262_e _ _ ?_
  have hBD := BDP_TF q0 hs
  have hk5 := q0.1
  have hBE := BDP_TF q2 hs
  have hk6 := q2.1
  refine xm_emptyI hs (fun s_2 hs_3 hf_4 p_5 p_6 p_7 => ⟨rfl, ?_⟩)
  have hf_8 : gX L true [8, 9, 10, 11, 12, 13, 14, 15, 22, 1196] s s_2 := gX.sub hf_4 rfl rfl
  have kt_9 : kT L s_2 p0 n_p0 := q0.fr hf_4.1
  have kt_10 : kT L s_2 p1 n_p1 := q2.fr hf_4.1
  have z_11 : gp_sz s_2 = gp_sz s ∧ gp_us s_2 = gp_us s := hf_4.2.1 rfl
  have pd_12 : IK s s_2 := IK_t (IK_r s) p_7 ((gX.refl L true [] s).1.1)
  have hS0 : S2P s_2 := S2P_0 (by omega)
  have hD0 : DSA s_2 := DSA_0 (by omega)
  have hG0 : GVC s_2 := GVC_0 (by omega)
  have lp_15 : ∀ (n_15 : Nat) (v3_15 : Int) (v4_15 : gV) (v5_15 : gV) (s_15 : gH), (XI L 0 s_15) → (gX L true [8, 9, 10, 11, 12, 13, 14, 15, 22, 1196] s s_15) → (PO s_15) → (S2P s_15) → (DSA s_15) → (IK s s_15) → (GVC s_15) → (kT L s_15 p0 n_p0) → (kT L s_15 p1 n_p1) → (gp_sz s_15 ≤ gp_sz s + 0 ∧ gp_us s_15 ≤ gp_us s + 0) → (0 ≤ v3_15 ∧ v3_15 ≤ 60) → (∀ a b : Nat, (a : Int) < v3_15 → (b : Int) < n_p1 → 0 ≤ gp_I s_15 22 (a * 60 + b) ∧ gp_I s_15 22 (a * 60 + b) < gp_I s_15 6 4) → (JNP s p0 p1 n_p0 n_p1 → SMS2 s s_15 (TF s p0) (TF s p1) n_p1 v3_15 0) → (v3_15 ≤ n_p0) → (61 - v3_15).toNat < n_15 → gs_E L (d + 4) 262 9 [gp_r (some 20), gp_r (some p0), gp_r (some p1), gp_i v3_15, v4_15, v5_15] [] s_15 K := by
    intro n_15
    induction n_15 with
    | zero => intro v3_15 v4_15 v5_15 s_15 hs_s_15 hf_s_15 PO_s_15 S2P_s_15 DSA_s_15 IK_s_s_15 GVC_s_15 kt_p0_s_15 kt_p1_s_15 rm_s_15 hv3_15 iv0_15 iv1_15 iv2_15 hm_15; exact absurd hm_15 (Nat.not_lt_zero _)
    | succ n_15 ih_15 =>
      intro v3_15 v4_15 v5_15 s_15 hs_s_15 hf_s_15 PO_s_15 S2P_s_15 DSA_s_15 IK_s_s_15 GVC_s_15 kt_p0_s_15 kt_p1_s_15 rm_s_15 hv3_15 iv0_15 iv1_15 iv2_15 hm_15
      refine s_262_9 _ _ _ _ _ ?_
      refine ⟨p0, rfl, ?_⟩
      refine ⟨kt_p0_s_15.2.1, ?_⟩
      have f_16 := (kt_p0_s_15.tt hs_s_15).1.2.2.1
      have f_17 := kt_p0_s_15.n hs_s_15
      refine ⟨fun h_18 => ?_, fun h_18 => ?_⟩
      · have lp_21 : ∀ (n_21 : Nat) (v4_21 : Int) (v5_21 : gV) (s_21 : gH), (XI L 0 s_21) → (gX L true [8, 9, 10, 11, 12, 13, 14, 15, 22, 1196] s s_21) → (PO s_21) → (S2P s_21) → (DSA s_21) → (IK s s_21) → (GVC s_21) → (kT L s_21 p0 n_p0) → (kT L s_21 p1 n_p1) → (gp_sz s_21 ≤ gp_sz s + 0 ∧ gp_us s_21 ≤ gp_us s + 0) → (0 ≤ v4_21 ∧ v4_21 ≤ 60) → (∀ a b : Nat, (a : Int) < v3_15 → (b : Int) < n_p1 → 0 ≤ gp_I s_21 22 (a * 60 + b) ∧ gp_I s_21 22 (a * 60 + b) < gp_I s_21 6 4) → (∀ b : Nat, (b : Int) < v4_21 → 0 ≤ gp_I s_21 22 (Int.toNat v3_15 * 60 + b) ∧ gp_I s_21 22 (Int.toNat v3_15 * 60 + b) < gp_I s_21 6 4) → (JNP s p0 p1 n_p0 n_p1 → SMS2 s s_21 (TF s p0) (TF s p1) n_p1 v3_15 v4_21) → (v4_21 ≤ n_p1) → (61 - v4_21).toNat < n_21 → gs_E L (d + 4) 262 20 [gp_r (some 20), gp_r (some p0), gp_r (some p1), gp_i v3_15, gp_i v4_21, v5_21] [] s_21 K := by
          intro n_21
          induction n_21 with
          | zero => intro v4_21 v5_21 s_21 hs_s_21 hf_s_21 PO_s_21 S2P_s_21 DSA_s_21 IK_s_s_21 GVC_s_21 kt_p0_s_21 kt_p1_s_21 rm_s_21 hv4_21 iv0_21 iv1_21 iv2_21 iv3_21 hm_21; exact absurd hm_21 (Nat.not_lt_zero _)
          | succ n_21 ih_21 =>
            intro v4_21 v5_21 s_21 hs_s_21 hf_s_21 PO_s_21 S2P_s_21 DSA_s_21 IK_s_s_21 GVC_s_21 kt_p0_s_21 kt_p1_s_21 rm_s_21 hv4_21 iv0_21 iv1_21 iv2_21 iv3_21 hm_21
            refine s_262_20 _ _ _ _ _ ?_
            refine ⟨p1, rfl, ?_⟩
            refine ⟨kt_p1_s_21.2.1, ?_⟩
            have f_22 := (kt_p1_s_21.tt hs_s_21).1.2.2.1
            have f_23 := kt_p1_s_21.n hs_s_21
            refine ⟨fun h_24 => ?_, fun h_24 => ?_⟩
            · have hN60 := xr6_4 hs_s_21
              have hTF9 := fun h117 : 117 ≤ p0 => TF_fr hf_s_21 IK_s_s_21 h117 hk5
              have hTG9 := fun h117 : 117 ≤ p1 => TF_fr hf_s_21 IK_s_s_21 h117 hk6
              refine ⟨p0, rfl, ?_⟩
              refine ⟨kt_p0_s_21.2.1, ?_⟩
              refine ⟨(p0 + 1), (kt_p0_s_21.tt hs_s_21).1.2.2.2.1.1, ?_⟩
              refine ⟨gin ((kt_p0_s_21.tt hs_s_21).1.2.2.2.2.1.1) (by omega), ?_⟩
              have b_25 : bd (gp_L s_21 (p0 + 1) (Int.toNat v3_15)) v3_15 := bd_le ((kt_p0_s_21.tt hs_s_21).1.2.2.2.2.2 (Int.toNat v3_15)).1.1 (by omega)
              refine ⟨kt_p1_s_21.2.1, ?_⟩
              refine ⟨(p1 + 1), (kt_p1_s_21.tt hs_s_21).1.2.2.2.1.1, ?_⟩
              refine ⟨gin ((kt_p1_s_21.tt hs_s_21).1.2.2.2.2.1.1) (by omega), ?_⟩
              have b_26 : bd (gp_L s_21 (p1 + 1) (Int.toNat v4_21)) v4_21 := bd_le ((kt_p1_s_21.tt hs_s_21).1.2.2.2.2.2 (Int.toNat v4_21)).1.1 (by omega)
              refine xm_pairMaskX (gp_I s_21 6 4) _ _ _ _ hs_s_21 (by omega) (by omega) (by first | assumption | exact bd_le (by assumption) (by omega) | exact bd_0 _) (by first | assumption | exact bd_le (by assumption) (by omega) | exact bd_0 _) (by first | omega | assumption) (fun a ha => iv0_21 a (Int.toNat v4_21) (by have h9 := (‹bd (gp_L s_21 (p0 + 1) (Int.toNat v3_15)) v3_15›) a ha; omega) (by omega)) (fun b hb => iv1_21 b (by have h9 := (‹bd (gp_L s_21 (p1 + 1) (Int.toNat v4_21)) v4_21›) b hb; omega)) (fun m_27 p_28 p_29 => ⟨_, rfl, ?_⟩)
              have hca1 := p_29
              have hcb1 := p_28
              refine ⟨kt_p0_s_21.2.1, ?_⟩
              refine ⟨(p0 + 2), (kt_p0_s_21.tt hs_s_21).1.2.2.2.1.2.1, ?_⟩
              refine ⟨gin ((kt_p0_s_21.tt hs_s_21).1.2.2.2.2.1.2.1) (by omega), ?_⟩
              have b_30 : bd (gp_L s_21 (p0 + 2) (Int.toNat v3_15)) v3_15 := bd_le ((kt_p0_s_21.tt hs_s_21).1.2.2.2.2.2 (Int.toNat v3_15)).1.2 (by omega)
              refine ⟨kt_p1_s_21.2.1, ?_⟩
              refine ⟨(p1 + 2), (kt_p1_s_21.tt hs_s_21).1.2.2.2.1.2.1, ?_⟩
              refine ⟨gin ((kt_p1_s_21.tt hs_s_21).1.2.2.2.2.1.2.1) (by omega), ?_⟩
              have b_31 : bd (gp_L s_21 (p1 + 2) (Int.toNat v4_21)) v4_21 := bd_le ((kt_p1_s_21.tt hs_s_21).1.2.2.2.2.2 (Int.toNat v4_21)).1.2 (by omega)
              refine xm_pairMaskX (gp_I s_21 6 4) _ _ _ _ hs_s_21 (by omega) (by omega) (by first | assumption | exact bd_le (by assumption) (by omega) | exact bd_0 _) (by first | assumption | exact bd_le (by assumption) (by omega) | exact bd_0 _) (by first | omega | assumption) (fun a ha => iv0_21 a (Int.toNat v4_21) (by have h9 := (‹bd (gp_L s_21 (p0 + 2) (Int.toNat v3_15)) v3_15›) a ha; omega) (by omega)) (fun b hb => iv1_21 b (by have h9 := (‹bd (gp_L s_21 (p1 + 2) (Int.toNat v4_21)) v4_21›) b hb; omega)) (fun m_32 p_33 p_34 => ⟨_, rfl, ?_⟩)
              have hca2 := p_34
              have hcb2 := p_33
              have hGV9 := GVC_s_21
              refine ⟨kt_p0_s_21.2.1, ?_⟩
              refine ⟨(p0 + 3), (kt_p0_s_21.tt hs_s_21).1.2.2.2.1.2.2.1, ?_⟩
              refine ⟨gin ((kt_p0_s_21.tt hs_s_21).1.2.2.2.2.1.2.2.1) (by omega), ?_⟩
              refine ⟨kt_p1_s_21.2.1, ?_⟩
              refine ⟨(p1 + 3), (kt_p1_s_21.tt hs_s_21).1.2.2.2.1.2.2.1, ?_⟩
              refine ⟨gin ((kt_p1_s_21.tt hs_s_21).1.2.2.2.2.1.2.2.1) (by omega), ?_⟩
              have w_35 := wr_rng ((gp_I s_21 (p0 + 3) (Int.toNat v3_15)) + (gp_I s_21 (p1 + 3) (Int.toNat v4_21)))
              refine ⟨kt_p0_s_21.2.1, ?_⟩
              refine ⟨(p0 + 4), (kt_p0_s_21.tt hs_s_21).1.2.2.2.1.2.2.2.1, ?_⟩
              refine ⟨gin ((kt_p0_s_21.tt hs_s_21).1.2.2.2.2.1.2.2.2.1) (by omega), ?_⟩
              refine ⟨kt_p1_s_21.2.1, ?_⟩
              refine ⟨(p1 + 4), (kt_p1_s_21.tt hs_s_21).1.2.2.2.1.2.2.2.1, ?_⟩
              refine ⟨gin ((kt_p1_s_21.tt hs_s_21).1.2.2.2.2.1.2.2.2.1) (by omega), ?_⟩
              have w_36 := wr_rng ((gp_I s_21 (p0 + 4) (Int.toNat v3_15)) + (gp_I s_21 (p1 + 4) (Int.toNat v4_21)))
              refine xm_sketchI _ _ _ _ hs_s_21 (PO_s_21) (by first | assumption | exact bd_le (by assumption) (by omega) | exact bd_0 _) (by first | assumption | exact bd_le (by assumption) (by omega) | exact bd_0 _) (S2P_s_21) (DSA_s_21) (fun s_37 hs_38 hf_39 p_40 p_41 p_42 p_43 p_44 p_45 => ⟨rfl, ?_⟩)
              have hf_46 : gX L true [8, 9, 10, 11, 12, 13, 14, 15, 22, 1196] s s_37 := gX.trans hf_s_21 hf_39 rfl rfl
              have kt_47 : kT L s_37 p0 n_p0 := kt_p0_s_21.fr hf_39.1
              have kt_48 : kT L s_37 p1 n_p1 := kt_p1_s_21.fr hf_39.1
              have q_49 : gp_I s_37 6 4 = gp_I s_21 6 4 := (hf_39.2.2.1 6 4 (by decide) (by decide) rfl).1
              have z_50 : gp_sz s_37 = gp_sz s_21 ∧ gp_us s_37 = gp_us s_21 := hf_39.2.1 rfl
              have pd_51 : IK s s_37 := IK_t IK_s_s_21 p_45 ((hf_s_21).1.1)
              have hcf1 := hf_39
              have hSKX := p_42
              have hsu := hs_38
              have hDS9 := p_44
              refine xm_settleI hs_38 (p_40) (p_41) (p_43) (fun x_52 s_53 hs_54 hf_55 p_56 p_57 p_58 p_59 p_60 p_61 => ⟨_, rfl, ?_⟩)
              have hf_62 : gX L true [8, 9, 10, 11, 12, 13, 14, 15, 22, 1196] s s_53 := gX.trans hf_46 hf_55 rfl rfl
              have kt_63 : kT L s_53 p0 n_p0 := kt_47.fr hf_55.1
              have kt_64 : kT L s_53 p1 n_p1 := kt_48.fr hf_55.1
              have z_65 : gp_sz s_53 = gp_sz s_37 ∧ gp_us s_53 = gp_us s_37 := hf_55.2.1 rfl
              have pd_66 : IK s s_53 := IK_t pd_51 p_61 ((hf_46).1.1)
              have hcf2 := hf_55
              have hAD := ADX_of hsu hSKX hDS9 (by omega) (by omega) p_60 hf_55
              have hAV := AV_of hs_s_21 hs_54 hGV9 hAD.1 hcb1 hcb2
              have hr22 : ∀ k : Nat, gp_I s_53 22 k = gp_I s_21 22 k := fun k => (hcf2.2.2.1 22 k (by decide) (by decide) rfl).1.trans (hcf1.2.2.1 22 k (by decide) (by decide) rfl).1
              have hD2 : DSA s_53 := hAD.2
              have hGV2 : GVC s_53 := hAV.1
              have hAVX := fun hg : JNP s p0 p1 n_p0 n_p1 => SMS2_v (iv2_21 hg) (hTF9 hg.1.1) (hTG9 hg.2.1) hBD hBE hg.1.2.2.2 hg.2.2.2.2 ⟨by omega, by omega⟩ ⟨by omega, by omega⟩ hca1 hca2 hAV rfl rfl
              refine ⟨fun h_67 => ?_, fun h_67 => ?_⟩
              · exact k _ s_53 hs_54 hf_62 (Or.inl rfl) (by first | omega | assumption) (by first | omega | assumption) (pd_66) (fun hg => Or.inl ⟨rfl, SMS2_f (iv2_21 hg) hg.1.2.1 hg.2.2.1 ⟨by omega, by omega⟩ ⟨by omega, by omega⟩ (hAVX hg) (by omega)⟩)
              · try rw [show gp_wr (v3_15 * 60) = v3_15 * 60 from gp_wr_id (by omega) (by omega)]
                try rw [show gp_wr ((v3_15 * 60) + v4_21) = (v3_15 * 60) + v4_21 from gp_wr_id (by omega) (by omega)]
                refine ⟨by omega, ?_⟩
                intro s_68 e_69
                have hs_70 : XI L 0 s_68 := by rw [e_69]; exact xw22 hs_54 _ _ (by omega)
                have hf_71 : gX L true [8, 9, 10, 11, 12, 13, 14, 15, 22, 1196] s s_68 := by rw [e_69]; exact gX.wI hf_62 (Or.inl rfl)
                have kt_72 : kT L s_68 p0 n_p0 := by rw [e_69]; exact kt_63
                have kt_73 : kT L s_68 p1 n_p1 := by rw [e_69]; exact kt_64
                have z_74 : gp_sz s_68 = gp_sz s_53 ∧ gp_us s_68 = gp_us s_53 := by rw [e_69]; exact ⟨rfl, rfl⟩
                have q_75 : gp_I s_68 6 4 = gp_I s_53 6 4 := by rw [e_69] <;> first | rfl | exact I_ne (by omega)
                have pd_76 : PO s_68 := by rw [e_69]; exact PO_fr p_57 (gX.wI (gX.refl L true [22] _) (Or.inl rfl)) rfl rfl rfl rfl rfl rfl
                have pd_77 : S2P s_68 := by rw [e_69]; exact S2P_fr p_59 (gX.wI (gX.refl L true [22] _) (Or.inl rfl)) rfl rfl rfl rfl rfl rfl rfl rfl
                have pd_78 : DSA s_68 := by rw [e_69]; exact DSA_fr hD2 (gX.wI (gX.refl L true [22] _) (Or.inl rfl)) rfl rfl rfl rfl
                have pd_79 : IK s s_68 := by rw [e_69]; exact IK_wI pd_66 (Or.inl (by decide))
                have pd_80 : GVC s_68 := by rw [e_69]; exact GVC_fr hGV2 (gX.wI (gX.refl L true [22] _) (Or.inl rfl)) rfl rfl rfl rfl rfl
                have hpr := pr_in (i := v3_15) (j := v4_21) (n1 := n_p1) (by omega) (by omega) (by omega) iv0_21 iv1_21 hcf1 hcf2 rfl rfl (by assumption) (show _ ≤ gp_I s_68 6 4 by omega) (by omega) (by omega)
                try rw [show gp_wr (v4_21 + 1) = v4_21 + 1 from gp_wr_id (by omega) (by omega)]
                exact ih_21 _ _ _ hs_70 hf_71 pd_76 pd_77 pd_78 pd_79 pd_80 kt_72 kt_73 (by omega) (by omega) (hpr.1) (hpr.2) (fun hg => SMS2_s (iv2_21 hg) (by omega) (by omega) ⟨by omega, by omega⟩ (hAVX hg) hr22 (by assumption) (by omega) (by omega)) (by first | omega | assumption) (by omega)
            · try rw [show gp_wr (v3_15 + 1) = v3_15 + 1 from gp_wr_id (by omega) (by omega)]
              exact ih_15 _ _ _ _ hs_s_21 hf_s_21 PO_s_21 S2P_s_21 DSA_s_21 IK_s_s_21 GVC_s_21 kt_p0_s_21 kt_p1_s_21 (by omega) (by omega) (pr_out (by omega) (by omega) iv0_21 iv1_21) (fun hg => SMS2_r (iv2_21 hg) (by omega) (by omega)) (by first | omega | assumption) (by omega)
        exact lp_21 _ _ _ _ hs_s_15 hf_s_15 PO_s_15 S2P_s_15 DSA_s_15 IK_s_s_15 GVC_s_15 kt_p0_s_15 kt_p1_s_15 (by omega) (by omega) (iv0_15) (fun b hb => by omega) (fun hg => iv1_15 hg) (by first | omega | assumption) (Nat.lt_succ_self _)
      · refine ⟨kt_p0_s_15.2.1, ?_⟩
        refine xm_root n_p0 _ hs_s_15 (by first | assumption | exact kT7 hs_s_15.1.1 | exact kT25 hs_s_15.1.1) (fun x_85 p_86 p_87 => ⟨_, rfl, ?_⟩)
        try rw [show gp_wr (x_85 * 60) = x_85 * 60 from gp_wr_id (by omega) (by omega)]
        refine ⟨p1, rfl, ?_⟩
        refine ⟨kt_p1_s_15.2.1, ?_⟩
        refine xm_root n_p1 _ hs_s_15 (by first | assumption | exact kT7 hs_s_15.1.1 | exact kT25 hs_s_15.1.1) (fun x_88 p_89 p_90 => ⟨_, rfl, ?_⟩)
        try rw [show gp_wr ((x_85 * 60) + x_88) = (x_85 * 60) + x_88 from gp_wr_id (by omega) (by omega)]
        have hrt := iv0_15 (n_p0 - 1) (n_p1 - 1) (by omega) (by omega)
        rw [show (n_p0 - 1) * 60 + (n_p1 - 1) = Int.toNat ((x_85 * 60) + x_88) by omega] at hrt
        have hgl := GVC_s_15
        refine ⟨by omega, ?_⟩
        have f_91 := xr22 hs_s_15 (Int.toNat ((x_85 * 60) + x_88))
        refine xm_tableOfV _ hs_s_15 (by omega) (PO_s_15) (by first | omega | assumption) (GVC_s_15) (fun o_92 s_93 hs_94 hf_95 p_96 p_97 p_98 p_99 => ⟨_, rfl, ?_⟩)
        have hf_100 : gX L true [8, 9, 10, 11, 12, 13, 14, 15, 22, 1196] s s_93 := gX.trans hf_s_15 hf_95 rfl rfl
        have kt_101 : kT L s_93 p0 n_p0 := kt_p0_s_15.fr hf_95.1
        have kt_102 : kT L s_93 p1 n_p1 := kt_p1_s_15.fr hf_95.1
        have pd_103 : PO s_93 := PO_fr PO_s_15 hf_95 rfl rfl rfl rfl rfl rfl
        have pd_104 : S2P s_93 := S2P_fr S2P_s_15 hf_95 rfl rfl rfl rfl rfl rfl rfl rfl
        have pd_105 : DSA s_93 := DSA_fr DSA_s_15 hf_95 rfl rfl rfl rfl
        have pd_106 : GVC s_93 := GVC_fr GVC_s_15 hf_95 rfl rfl rfl rfl rfl
        have q_107 : gp_I s_93 6 4 = gp_I s_15 6 4 := (hf_95.2.2.1 6 4 (by decide) (by decide) rfl).1
        have pd_108 : IK s s_93 := IK_t IK_s_s_15 p_99 ((hf_s_15).1.1)
        obtain ⟨a_109, n_110, rfl, kt_111, hn_112⟩ := p_96
        have hn_a_109 := kt_111.n hs_94
        exact k _ s_93 hs_94 hf_100 (Or.inr ⟨_, _, rfl, by assumption, by omega⟩) (by first | omega | assumption) (by first | omega | assumption) (pd_108) (JN_ret kt_111 hn_112 iv1_15 hgl ⟨by omega, by omega, by omega⟩ rfl (by congr 1; omega))
  exact lp_15 _ _ _ _ _ hs_3 hf_8 p_6 hS0 hD0 pd_12 hG0 kt_9 kt_10 (by omega) (by omega) (fun a b h1 h2 => by omega) (fun _ => SMS2_0 (by omega)) (by first | omega | assumption) (Nat.lt_succ_self _)
