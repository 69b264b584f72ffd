/-! the reference's waits on a fresh object: a chain of followers -/
def wm (j : Nat) : BitVec 64 := if j = 0 then 0#64 else 1#64 <<< (j - 1)
theorem wm_inj : ∀ j m : Fin 22, j.val < m.val → wm j.val ≠ wm m.val := by decide +kernel
theorem wm_s (m : Nat) (h : 1 ≤ m) : wm m = 1#64 <<< (m - 1) := by unfold wm; rw [if_neg (by omega)]
theorem w_bit (j n : Nat) (hn : n < 64) : (1#64 <<< j).getLsbD n = true ↔ n = j := by
  rw [BitVec.getLsbD_shiftLeft]
  simp only [BitVec.getLsbD_one, Bool.and_eq_true, decide_eq_true_eq, Bool.not_eq_true', decide_eq_false_iff_not]
  omega
theorem w_dp (f : Nat → Int) (j : Nat) (h0 : 0 ≤ f j) : ∀ n, n ≤ 64 → gm_dp f (1#64 <<< j) n = if j < n then f j else -1
  | 0, _ => by unfold gm_dp; rw [if_neg (by omega)]
  | n + 1, h => by
    have ih := w_dp f j h0 n (by omega)
    unfold gm_dp
    rw [ih]
    by_cases hb : n = j
    · rw [if_pos ((w_bit j n (by omega)).mpr hb), hb, if_neg (Nat.lt_irrefl j), if_pos (by omega), if_pos (by omega)]
    · rw [if_neg (fun z => hb ((w_bit j n (by omega)).mp z))]
      by_cases hj : j < n
      · rw [if_pos hj, if_pos (by omega)]
      · rw [if_neg hj, if_neg (by omega)]
theorem w_dp0 (f : Nat → Int) : ∀ n, gm_dp f 0#64 n = -1
  | 0 => rfl
  | n + 1 => by
    unfold gm_dp
    rw [if_neg (by simp)]
    exact w_dp0 f n
theorem gz_I (s : gH) (a i : Nat) (v : Int) (b j : Nat) : gp_I (gp_wI s a i v) b j = if b = a ∧ j = i then v else gp_I s b j := gm_u2 _ _ _ _ _ _
theorem gz_IL (s : gH) (a i : Nat) (v : BitVec 64) (b j : Nat) : gp_I (gp_wL s a i v) b j = gp_I s b j := rfl
theorem gz_L (s : gH) (a i : Nat) (v : BitVec 64) (b j : Nat) : gp_L (gp_wL s a i v) b j = if b = a ∧ j = i then v else gp_L s b j := gm_u2 _ _ _ _ _ _
theorem gz_LI (s : gH) (a i : Nat) (v : Int) (b j : Nat) : gp_L (gp_wI s a i v) b j = gp_L s b j := rfl
theorem gz_z86 (s : gH) (n a k : Nat) : gp_I (gm_z86 s n) a k = if a = 86 ∧ k < n then 0 else gp_I s a k := rfl
/-- m followers of the chain are made -/
def wB (z s : gH) (m : Nat) : Prop := (gp_sz s = gp_sz z ∧ gp_us s = gp_us z) ∧ gp_I s 81 20 = (m : Int) ∧ (∀ i, i < 64 → 0 ≤ gp_I s 80 (1280 + i) ∧ gp_I s 80 (1280 + i) ≤ 63) ∧ (∀ k, 0 ≤ gp_I s 87 k ∧ gp_I s 87 k ≤ 63) ∧ (∀ j, j < m → gp_L s 76 (1280 + j) = wm j ∧ gp_L s 77 (1280 + j) = 0#64 ∧ gp_I s 80 (1280 + j) = (j : Int))
theorem wB_lay {z s : gH} {m : Nat} (h : wB z s m) (hm : m ≤ 20) (l : BitVec 64) (hl : l = wm m) (dp : Int) (hd : dp = (m : Int)) : wB z (gp_wI (gm_lay s m l 0#64 0 0 dp) 81 20 ((m : Int) + 1)) (m + 1) := by
  obtain ⟨h1, h2, h3, h4, h5⟩ := h
  have e80 : ∀ k, gp_I (gp_wI (gm_lay s m l 0#64 0 0 dp) 81 20 ((m : Int) + 1)) 80 k = if k = 1280 + m then dp else gp_I s 80 k := by
    intro k
    unfold gm_lay
    rw [gz_I, gz_I, gz_I, gz_I, gz_IL, gz_IL]
    simp
  have e76 : ∀ k, gp_L (gp_wI (gm_lay s m l 0#64 0 0 dp) 81 20 ((m : Int) + 1)) 76 k = if k = 1280 + m then l else gp_L s 76 k := by
    intro k
    unfold gm_lay
    rw [gz_LI, gz_LI, gz_LI, gz_LI, gz_L, gz_L]
    simp
  have e77 : ∀ k, gp_L (gp_wI (gm_lay s m l 0#64 0 0 dp) 81 20 ((m : Int) + 1)) 77 k = if k = 1280 + m then 0#64 else gp_L s 77 k := by
    intro k
    unfold gm_lay
    rw [gz_LI, gz_LI, gz_LI, gz_LI, gz_L, gz_L]
    simp
  refine ⟨h1, rfl, fun i hi => ?_, fun k => h4 k, fun j hj => ?_⟩
  · rw [e80]
    have := h3 i hi
    split <;> omega
  · rw [e80, e76, e77]
    by_cases hjm : j = m
    · subst hjm
      rw [if_pos rfl, if_pos rfl, if_pos rfl]
      exact ⟨hl, rfl, hd⟩
    · rw [if_neg (by omega), if_neg (by omega), if_neg (by omega)]
      exact h5 j (by omega)
theorem w_made0 {z : gH} {L d : Nat} {K : Option gV → gH → Prop} {s : gH} (h : wB z s 0) (k : ∀ t, wB z t 1 → K (some (gp_i 0)) t) : gs_C L (d + 3) 3088 9 [gp_r (some 74), gp_l (0#64), gp_l (0#64), gp_i 0, gp_i 0] s K := by
  refine cm_mades 0 (by omega) h.2.1 _ _ _ _ (fun i => gp_I s 80 (1280 + i)) (fun _ _ => rfl) (fun i hi => ?_) (fun i hi => absurd hi (Nat.not_lt_zero _)) (fun _ hz => absurd hz (by decide)) (fun _ _ => ?_)
  · have := h.2.2.1 i hi; exact ⟨by omega, by omega⟩
  · refine k _ (wB_lay h (by omega) _ rfl _ ?_)
    rw [show (0#64 ||| 0#64) = 0#64 by decide, w_dp0]; rfl
theorem w_made {z : gH} {L d : Nat} {K : Option gV → gH → Prop} {s : gH} (m : Nat) (h1 : 1 ≤ m) (h2 : m ≤ 20) (h : wB z s m) (k : ∀ t, wB z t (m + 1) → K (some (gp_i (m : Int))) t) : gs_C L (d + 3) 3088 9 [gp_r (some 74), gp_l ((1#64) <<< (((m - 1 : Nat) : Int) % 64).toNat), gp_l (0#64), gp_i 0, gp_i 0] s K := by
  rw [show (((m - 1 : Nat) : Int) % 64).toNat = m - 1 by omega]
  refine cm_mades m (by omega) h.2.1 _ _ _ _ (fun i => gp_I s 80 (1280 + i)) (fun _ _ => rfl) (fun i hi => ?_) (fun i hi hs => ?_) (fun _ hz => absurd hz (by omega)) (fun _ _ => ?_)
  · have := h.2.2.1 i hi; exact ⟨by omega, by omega⟩
  · have e := hs.1
    rw [(h.2.2.2.2 i hi).1, ← wm_s m h1] at e
    exact absurd e (wm_inj ⟨i, by omega⟩ ⟨m, by omega⟩ hi)
  · have hd := (h.2.2.2.2 (m - 1) (by omega)).2.2
    refine k _ (wB_lay h (by omega) _ (wm_s m h1).symm _ ?_)
    rw [show ((1#64 <<< (m - 1)) ||| 0#64) = 1#64 <<< (m - 1) by simp, w_dp _ _ (by show 0 ≤ gp_I s 80 _; omega) 64 (by omega), if_pos (by omega)]
    show gp_I s 80 (1280 + (m - 1)) + 1 = _
    omega
/-- the chain's followers 0 .. N, and what is kept of their order -/
def wE (z s : gH) (N : Nat) : Prop := (gp_sz s = gp_sz z ∧ gp_us s = gp_us z) ∧ (∀ k, 0 ≤ gp_I s 87 k ∧ gp_I s 87 k ≤ 63) ∧ (∀ j, j ≤ N → gp_L s 76 (1280 + j) = wm j ∧ gp_L s 77 (1280 + j) = 0#64 ∧ gp_I s 80 (1280 + j) = (j : Int)) ∧ (∀ f e, f < 64 → e < 64 → gp_I s 86 (64 * f + e) = 0 ∨ (f < e ∧ gp_I s 86 (64 * f + e) = 1) ∨ (e < f ∧ gp_I s 86 (64 * f + e) = 3))
theorem w_ix {f e : Nat} (hf : f < 85) (he : e < 64) : gp_wr ((gp_wr (64 * (f : Int))) + (e : Int)) = ((64 * f + e : Nat) : Int) := gm_ix hf he
theorem w_order {z : gH} {L d : Nat} {K : Option gV → gH → Prop} {s : gH} (N y x : Nat) (hN : N < 60) (hy : y ≤ N) (hx : x ≤ N) (hne : y ≠ x) (h : wE z s N) (k : ∀ (r : Int) (t : gH), wE z t N → (y < x → r < 0) → (x < y → ¬ r < 0) → K (some (gp_i r)) t) : gs_C L (d + 1) 3090 9 [gp_r (some 74), gp_i 20, gp_i (y : Int), gp_i 20, gp_i (x : Int)] s K := by
  have i1 := w_ix (f := y) (e := x) (by omega) (by omega)
  have i2 := w_ix (f := 20) (e := y) (by omega) (by omega)
  have i3 := w_ix (f := 20) (e := x) (by omega) (by omega)
  have dy := (h.2.2.1 y hy).2.2
  have dx := (h.2.2.1 x hx).2.2
  have last : ∀ (t : gH) (v5 v6 v7 v8 : gV), wE z t N → (gp_I t 86 (64 * y + x) = if y < x then 1 else 3) → gs_E L (d + 1) 3090 145 [gp_r (some 74), gp_i 20, gp_i (y : Int), gp_i 20, gp_i (x : Int), v5, v6, v7, v8] [] t K := by
    intro t v5 v6 v7 v8 ht hv
    refine s_3090_145 _ _ _ _ _ _ _ _ ?_
    rw [i1, Int.toNat_natCast]
    refine ⟨by omega, k _ t ht (fun q => ?_) (fun q => ?_)⟩
    · rw [hv, if_pos q]; decide
    · rw [hv, if_neg (by omega)]; decide
  have wrt : ∀ (v5 v6 v7 : Int), (v7 = if y < x then -1 else 1) → gs_E L (d + 1) 3090 65 [gp_r (some 74), gp_i 20, gp_i (y : Int), gp_i 20, gp_i (x : Int), gp_i v5, gp_i v6, gp_n, gp_n] [gp_i v7] s K := by
    intro v5 v6 v7 hv
    have hv0 : ¬ v7 = 0 := by rw [hv]; split <;> decide
    refine s_3090_65 _ _ _ _ _ _ _ _ _ (s_3090_70 _ _ _ _ _ _ _ _ ⟨fun _ => ⟨fun q => absurd q hv0, fun _ => ?_⟩, fun q => absurd (by decide) q⟩)
    refine s_3090_129 _ _ _ _ _ _ _ _ ?_
    rw [i1, Int.toNat_natCast]
    refine ⟨by omega, fun s1 e1 => last s1 _ _ _ _ ⟨?_, ?_, ?_, ?_⟩ ?_⟩
    · rw [e1]; exact h.1
    · rw [e1]; exact h.2.1
    · rw [e1]; exact h.2.2.1
    · intro f e hf he
      rw [e1]
      show gp_u2 _ _ _ _ _ _ = _ ∨ _ ∧ gp_u2 _ _ _ _ _ _ = _ ∨ _ ∧ gp_u2 _ _ _ _ _ _ = _
      rw [gm_u2]
      by_cases q : 64 * f + e = 64 * y + x
      · have qf : f = y := by omega
        have qe : e = x := by omega
        subst qf; subst qe
        rw [if_pos ⟨rfl, rfl⟩, hv]
        by_cases q2 : f < e
        · rw [if_pos q2]; exact Or.inr (Or.inl ⟨q2, by decide⟩)
        · rw [if_neg q2]; exact Or.inr (Or.inr ⟨by omega, by decide⟩)
      · rw [if_neg (fun z => q z.2)]
        exact h.2.2.2 f e hf he
    · rw [e1]
      show gp_u2 _ _ _ _ _ _ = _
      rw [gm_u2, if_pos ⟨rfl, rfl⟩, hv]
      split <;> decide
  refine s_3090_e _ _ _ _ ?_
  rw [i1, show (20 : Int) = ((20 : Nat) : Int) from rfl, i2, i3, Int.toNat_natCast, Int.toNat_natCast, Int.toNat_natCast]
  rw [show 64 * 20 + y = 1280 + y by omega, show 64 * 20 + x = 1280 + x by omega, dy, dx]
  refine ⟨by omega, fun _ => ⟨by omega, by omega, fun q => wrt _ _ _ (by rw [if_pos (by omega)]), fun q => ⟨fun q2 => wrt _ _ _ (by rw [if_neg (by omega)]), fun q2 => absurd q2 (by omega)⟩⟩, fun q => ?_⟩
  rcases h.2.2.2 y x (by omega) (by omega) with e | ⟨e1, e2⟩ | ⟨e1, e2⟩
  · exact absurd e q
  · exact last s _ _ _ _ h (by rw [e2, if_pos e1])
  · exact last s _ _ _ _ h (by rw [e2, if_neg (by omega)])
def wS (b : BitVec 64) (N : Nat) : Prop := ∀ i, i < 64 → (b.getLsbD i = true ↔ i ≤ N)
theorem w_has {L d : Nat} {K : Option gV → gH → Prop} {s : gH} (b : BitVec 64) (i : Nat) (hi : i < 64) (k1 : b.getLsbD i = true → K (some (gp_i 1)) s) (k0 : ¬ b.getLsbD i = true → K (some (gp_i 0)) s) : gs_C L d 3078 3 [gp_l b, gp_i (i : Int)] s K := by
  refine cm_has b i hi ?_
  unfold gm_h
  by_cases h : b.getLsbD i = true
  · rw [if_pos h]; exact k1 h
  · rw [if_neg h]; exact k0 h
theorem w_inc (i : Nat) (h : i < 1000) : gp_wr ((i : Int) + 1) = ((i + 1 : Nat) : Int) := by rw [gp_wr_id (by omega) (by omega)]; simp
theorem w_opt_in {z : gH} {L d : Nat} {K : Option gV → gH → Prop} (N : Nat) (hN : N < 60) (b : BitVec 64) (hb : wS b N) (p2 x : Nat) (hx : x ≤ N)
    (kp : ∀ t, wE z t N → x = p2 → K (some (gp_i (x : Int))) t)
    (kn : ∀ (t : gH) (v6 v7 : gV), wE z t N → x ≠ p2 → gs_E L (d + 2) 3092 105 [gp_r (some 74), gp_i 20, gp_l b, gp_n, gp_i (p2 : Int), gp_i (x : Int), v6, v7] [] t K) :
    ∀ (n y : Nat) (s : gH), y + n = 64 → wE z s N → gs_E L (d + 2) 3092 41 [gp_r (some 74), gp_i 20, gp_l b, gp_n, gp_i (p2 : Int), gp_i (x : Int), gp_i ((min y x : Nat) : Int), gp_i (y : Int)] [] s K
  | 0, y, s, h, hs => by
    have : y = 64 := by omega
    subst this
    refine s_3092_41 _ _ _ _ _ _ ⟨fun q => absurd q (by decide), fun _ => ⟨fun q => kp s hs (by omega), fun q => kn s _ _ hs (by omega)⟩⟩
  | n + 1, y, s, h, hs => by
    have go : ∀ t, wE z t N → (¬ y < x) → gs_E L (d + 2) 3092 85 [gp_r (some 74), gp_i 20, gp_l b, gp_n, gp_i (p2 : Int), gp_i (x : Int), gp_i ((min y x : Nat) : Int), gp_i (y : Int)] [gp_i ((min y x : Nat) : Int)] t K := by
      intro t ht hyx
      refine s_3092_85 _ _ _ _ _ _ _ (s_3092_86 _ _ _ _ _ _ _ _ ?_)
      rw [w_inc y (by omega), gp_wr_id (by omega) (by omega), show ((min y x : Nat) : Int) + 0 = ((min (y + 1) x : Nat) : Int) by omega]
      exact w_opt_in N hN b hb p2 x hx kp kn n (y + 1) t (by omega) ht
    refine s_3092_41 _ _ _ _ _ _ ⟨fun _ => ?_, fun q => absurd (by omega) q⟩
    refine w_has b y (by omega) (fun q => ⟨_, rfl, fun z => absurd z (by decide), fun _ => ⟨fun e => go s hs (by omega), fun e => ?_⟩⟩) (fun q => ⟨_, rfl, fun _ => go s hs ?_, fun z => absurd rfl z⟩)
    · have hyN := (hb y (by omega)).mp q
      refine w_order N y x hN hyN hx (by omega) hs (fun r t ht r1 r2 => ⟨_, rfl, fun hr => ?_, fun hr => go t ht ?_⟩)
      · have hyx : y < x := by
          apply Classical.byContradiction
          intro z; exact r2 (by omega) hr
        refine s_3092_86 _ _ _ _ _ _ _ _ ?_
        rw [w_inc y (by omega), gp_wr_id (by omega) (by omega), show ((min y x : Nat) : Int) + 1 = ((min (y + 1) x : Nat) : Int) by omega]
        exact w_opt_in N hN b hb p2 x hx kp kn n (y + 1) t (by omega) ht
      · intro z; exact hr (r1 z)
    · intro z; exact q ((hb y (by omega)).mpr (by omega))
theorem w_opt_at {z : gH} {L d : Nat} {K : Option gV → gH → Prop} (N : Nat) (hN : N < 60) (b : BitVec 64) (hb : wS b N) (p2 : Nat) (hp : p2 ≤ N) (k : ∀ t, wE z t N → K (some (gp_i (p2 : Int))) t) :
    ∀ (n x : Nat) (v6 v7 : gV) (s : gH), x + n = p2 → wE z s N → gs_E L (d + 2) 3092 16 [gp_r (some 74), gp_i 20, gp_l b, gp_n, gp_i (p2 : Int), gp_i (x : Int), v6, v7] [] s K
  | 0, x, v6, v7, s, h, hs => by
    have e : x = p2 := by omega
    subst e
    refine s_3092_16 _ _ _ _ _ _ ⟨fun _ => w_has b x (by omega) (fun q => ⟨_, rfl, fun z => absurd z (by decide), fun _ => ?_⟩) (fun q => absurd ((hb x (by omega)).mpr hp) q), fun q => absurd (by omega) q⟩
    have := w_opt_in (z := z) (L := L) (d := d) (K := K) N hN b hb x x hp (fun t ht _ => k t ht) (fun t _ _ _ q => absurd rfl q) 64 0 s rfl hs
    rw [show min 0 x = 0 by omega] at this
    exact this
  | n + 1, x, v6, v7, s, h, hs => by
    refine s_3092_16 _ _ _ _ _ _ ⟨fun _ => w_has b x (by omega) (fun q => ⟨_, rfl, fun z => absurd z (by decide), fun _ => ?_⟩) (fun q => absurd ((hb x (by omega)).mpr (by omega)) q), fun q => absurd (by omega) q⟩
    have := w_opt_in (z := z) (L := L) (d := d) (K := K) N hN b hb p2 x (by omega) (fun t ht q => absurd q (by omega)) (fun t v6 v7 ht _ => by
      refine s_3092_105 _ _ _ _ _ _ ?_
      rw [w_inc x (by omega)]
      exact w_opt_at N hN b hb p2 hp k n (x + 1) v6 v7 t (by omega) ht) 64 0 s rfl hs
    rw [show min 0 x = 0 by omega] at this
    exact this
theorem w_option {z : gH} {L d : Nat} {K : Option gV → gH → Prop} {s : gH} (N : Nat) (hN : N < 60) (b : BitVec 64) (hb : wS b N) (p2 : Nat) (hp : p2 ≤ N) (hs : wE z s N) (k : ∀ t, wE z t N → K (some (gp_i (p2 : Int))) t) : gs_C L (d + 2) 3092 8 [gp_r (some 74), gp_i 20, gp_l b, gp_i (p2 : Int)] s K :=
  s_3092_e _ _ _ ⟨fun _ => w_opt_at N hN b hb p2 hp k p2 0 _ _ s (by omega) hs, fun q => absurd rfl q⟩
theorem w_placed_at {L d : Nat} {K : Option gV → gH → Prop} {s : gH} (b : BitVec 64) (k : ∀ m, K (some (gp_l m)) s) : ∀ (n i : Nat) (m : BitVec 64), i + n = 64 → gs_E L (d + 1) 3094 5 [gp_r (some 74), gp_l b, gp_n, gp_l m, gp_n, gp_i (i : Int)] [] s K
  | 0, i, m, h => by
    have : i = 64 := by omega
    subst this
    exact s_3094_5 _ _ _ ⟨fun q => absurd q (by decide), fun _ => k _⟩
  | n + 1, i, m, h => by
    have go : ∀ w, gs_E L (d + 1) 3094 35 [gp_r (some 74), gp_l b, gp_n, gp_l m, gp_n, gp_i (i : Int)] [gp_l w, gp_l m] s K := fun w => by
      refine s_3094_35 _ _ _ _ _ ?_
      rw [w_inc i (by omega)]
      exact w_placed_at b k n (i + 1) _ (by omega)
    exact s_3094_5 _ _ _ ⟨fun _ => w_has b i (by omega) (fun _ => ⟨_, rfl, fun z => absurd z (by decide), fun _ => ⟨by omega, go _⟩⟩) (fun _ => ⟨_, rfl, fun _ => go _, fun z => absurd rfl z⟩), fun q => absurd (by omega) q⟩
theorem w_placed {L d : Nat} {K : Option gV → gH → Prop} {s : gH} (b : BitVec 64) (k : ∀ m, K (some (gp_l m)) s) : gs_C L (d + 1) 3094 6 [gp_r (some 74), gp_l b] s K := s_3094_e _ (w_placed_at b k 64 0 _ rfl)
theorem w_cnt (b : BitVec 64) (N : Nat) (hb : wS b N) : ∀ n, n ≤ 64 → gm_cnt b n = min n (N + 1)
  | 0, _ => by unfold gm_cnt; omega
  | n + 1, h => by
    have ih := w_cnt b N hb n (by omega)
    have := hb n (by omega)
    unfold gm_cnt
    by_cases q : b.getLsbD n = true
    · rw [if_pos q, ih]; have := this.mp q; omega
    · rw [if_neg q, ih]; have : ¬ n ≤ N := fun z => q (this.mpr z); omega
/-- from the last loop on -/
def wF (z s : gH) (N : Nat) : Prop := (gp_sz s = gp_sz z ∧ gp_us s = gp_us z) ∧ (∀ k, 0 ≤ gp_I s 87 k ∧ gp_I s 87 k ≤ 63) ∧ gp_I s 81 19 = (N : Int) + 1
theorem w_ends3 {z : gH} {L d : Nat} {K : Option gV → gH → Prop} (N : Nat) (hN : N < 60) (b : BitVec 64) (p0 : Int) (k : ∀ t, wF z t N → K none t) : ∀ (n i : Nat) (v7 v8 : gV) (s : gH), i + n = N + 1 → wF z s N → gs_E L (d + 3) 3093 124 [gp_r (some 74), gp_i p0, gp_i 19, gp_l b, gp_n, gp_i ((N : Int) + 1), gp_i (i : Int), v7, v8] [] s K
  | 0, i, v7, v8, s, h, hs => by
    refine s_3093_124 _ _ _ _ _ _ _ ⟨fun q => absurd q (by omega), fun _ => k s hs⟩
  | n + 1, i, v7, v8, s, h, hs => by
    have r := hs.2.1 i
    have w1 := gz_w (1280 + gp_I s 87 i)
    have w2 : gp_wr (64 * 19) = 1216 := by decide
    have w3 := gz_w (1216 + (i : Int))
    refine s_3093_124 _ _ _ _ _ _ _ ⟨fun _ => ?_, fun q => absurd (by omega) q⟩
    rw [Int.toNat_natCast, w2]
    refine ⟨by omega, by omega, w_placed _ (fun m2 => ⟨_, rfl, by omega, fun s3 e3 => ⟨by omega, w_placed _ (fun m5 => ⟨_, rfl, by omega, fun s6 e6 => ⟨by omega, by omega, fun s7 e7 => ⟨by omega, by omega, fun s8 e8 => ⟨by omega, by omega, fun s9 e9 => ?_⟩⟩⟩⟩)⟩⟩)⟩
    rw [w_inc i (by omega)]
    refine w_ends3 N hN b p0 k n (i + 1) _ _ s9 (by omega) ⟨?_, ?_, ?_⟩
    · rw [e9, e8, e7, e6, e3]; exact hs.1
    · rw [e9, e8, e7, e6, e3]; exact hs.2.1
    · rw [e9, e8, e7, e6, e3]; exact hs.2.2
theorem w_ends2 {z : gH} {L d : Nat} {K : Option gV → gH → Prop} (N : Nat) (hN : N < 60) (b : BitVec 64) (hb : wS b N) (p0 : Int) (k : ∀ t, wF z t N → K none t) : ∀ (n i : Nat) (v7 v8 : gV) (s : gH), i + n = N + 1 → wE z s N → gs_E L (d + 3) 3093 70 [gp_r (some 74), gp_i p0, gp_i 19, gp_l b, gp_n, gp_i ((N : Int) + 1), gp_i (i : Int), v7, v8] [] s K
  | 0, i, v7, v8, s, h, hs => by
    refine s_3093_70 _ _ _ _ _ _ _ ⟨fun q => absurd q (by omega), fun _ => ⟨by omega, fun s1 e1 => ?_⟩⟩
    refine w_ends3 N hN b p0 k (N + 1) 0 _ _ s1 (by omega) ⟨?_, ?_, ?_⟩
    · rw [e1]; exact hs.1
    · rw [e1]; exact hs.2.1
    · rw [e1]; rfl
  | n + 1, i, v7, v8, s, h, hs => by
    refine s_3093_70 _ _ _ _ _ _ _ ⟨fun _ => ?_, fun q => absurd (by omega) q⟩
    refine w_option N hN b hb i (by omega) hs (fun t ht => ⟨_, rfl, by omega, fun s4 e4 => ?_⟩)
    have r4 : gp_I s4 87 (i : Int).toNat = (i : Int) := by
      rw [e4]; show gp_u2 _ _ _ _ _ _ = _
      rw [gm_u2, if_pos ⟨rfl, rfl⟩]
    rw [r4]
    refine ⟨by omega, by omega, fun s5 e5 => ?_⟩
    rw [w_inc i (by omega)]
    refine w_ends2 N hN b hb p0 k n (i + 1) _ _ s5 (by omega) ⟨?_, ?_, ?_, ?_⟩
    · rw [e5, e4]; exact ht.1
    · intro q
      rw [e5, e4, gz_I, gz_I, if_neg (by omega)]
      have := ht.2.1 q
      split
      · omega
      · exact this
    · rw [e5, e4]; exact ht.2.2.1
    · rw [e5, e4]; exact ht.2.2.2
theorem w_ends1 {z : gH} {L d : Nat} {K : Option gV → gH → Prop} (N : Nat) (hN : N < 60) (k : ∀ t, wF z t N → K none t) {s : gH} (hs : wE z s N) : ∀ (n : Nat) (b : BitVec 64) (v6 v7 v8 : gV), n ≤ N + 1 → (∀ i, i < 64 → (b.getLsbD i = true ↔ (n - 1 ≤ i ∧ i ≤ N))) → gs_E L (d + 3) 3093 11 [gp_r (some 74), gp_i (N : Int), gp_i 19, gp_l b, gp_n, gp_i ((n : Int) - 1), v6, v7, v8] [] s K
  | 0, b, v6, v7, v8, h, hb => by
    have hS : wS b N := fun i hi => by rw [hb i hi]; omega
    refine s_3093_11 _ _ _ _ _ _ _ ⟨fun _ => cm_size b ⟨_, rfl, ?_⟩, fun q => absurd (by omega) q⟩
    rw [w_cnt b N hS 64 (by omega), show (((min 64 (N + 1) : Nat)) : Int) = (N : Int) + 1 by omega]
    exact w_ends2 N hN b hS _ k (N + 1) 0 _ _ s (by omega) hs
  | n + 1, b, v6, v7, v8, h, hb => by
    have c := hs.2.2.1 n (by omega)
    rw [show ((n + 1 : Nat) : Int) - 1 = (n : Int) by omega]
    have w1 : gp_wr (1280 + (n : Int)) = ((1280 + n : Nat) : Int) := by rw [gp_wr_id (by omega) (by omega)]; omega
    refine s_3093_11 _ _ _ _ _ _ _ ⟨fun q => absurd q (by omega), fun _ => w_has b n (by omega) (fun q => ⟨_, rfl, fun z => absurd z (by decide), fun _ => ?_⟩) (fun q => absurd ((hb n (by omega)).mpr (by omega)) q)⟩
    rw [w1, Int.toNat_natCast, c.1, c.2.1]
    refine ⟨by omega, by omega, s_3093_53 _ _ _ _ _ _ _ _ _ ?_⟩
    rw [gp_wr_id (by omega) (by omega), show (n : Int) + (-1) = (n : Int) - 1 by omega]
    refine w_ends1 N hN k hs n _ _ _ _ (by omega) (fun i hi => ?_)
    rw [BitVec.getLsbD_or, BitVec.getLsbD_or, Bool.or_eq_true, Bool.or_eq_true, hb i hi]
    by_cases h0 : n = 0
    · subst h0
      simp [wm]
    · rw [wm_s n (by omega), w_bit (n - 1) i hi]
      simp
      omega
theorem w_ends {z : gH} {L d : Nat} {K : Option gV → gH → Prop} {s : gH} (N : Nat) (hN : N < 60) (hs : wB z s (N + 1)) (k : ∀ t, wF z t N → K none t) : gs_C L (d + 3) 3093 9 [gp_r (some 74), gp_i (N : Int), gp_i 19] s K := by
  refine s_3093_e _ _ (cm_forgets ⟨rfl, ?_⟩)
  have hE : wE z (gm_z86 s 4096) N := by
    refine ⟨hs.1, fun q => ?_, fun j hj => ?_, fun f e hf he => Or.inl ?_⟩
    · exact hs.2.2.2.1 q
    · exact hs.2.2.2.2 j (by omega)
    · show (if _ then _ else _) = _
      rw [if_pos ⟨rfl, by omega⟩]
  rw [show ((N : Int) % 64).toNat = N by omega]
  have := w_ends1 (L := L) (d := d) N hN k hE (N + 1) (1#64 <<< N) gp_n gp_n gp_n (Nat.le_refl _) (fun i hi => by rw [w_bit N i hi]; omega)
  rw [show ((N + 1 : Nat) : Int) - 1 = (N : Int) by omega] at this
  exact this
theorem w_isIn {L d : Nat} {K : Option gV → gH → Prop} {s : gH} (a b c : BitVec 64) (h1 : ¬ gp_cmp a b < 0) (h2 : ¬ 0 < gp_cmp a c) (k : K (some (gp_i 1)) s) : gs_C L d 3073 6 [gp_l a, gp_l b, gp_l c] s K :=
  s_3073_e _ _ _ ⟨fun q => absurd q h1, fun _ => ⟨fun q => absurd q h2, fun _ => s_3073_18 _ _ _ _ ⟨Or.inr rfl, k⟩⟩⟩
theorem w_waits_at {z : gH} {L d : Nat} {K : Option gV → gH → Prop} (N : Nat) (hN : N ≤ 20) (k : ∀ t, wF z t N → K none t) : ∀ (n m : Nat) (s : gH), m + n = N → wB z s (m + 1) → gs_E L (d + 4) 3122 15 [gp_r (some 74), gp_i (N : Int), gp_i (m : Int), gp_i (m : Int)] [] s K
  | 0, m, s, h, hs => by
    have e : m = N := by omega
    subst e
    exact s_3122_15 _ _ _ ⟨fun q => absurd q (by omega), fun _ => w_ends m (by omega) hs (fun t ht => ⟨rfl, k t ht⟩)⟩
  | n + 1, m, s, h, hs => by
    refine s_3122_15 _ _ _ ⟨fun _ => ?_, fun q => absurd (by omega) q⟩
    refine w_made (m + 1) (by omega) (by omega) hs (fun t ht => ⟨_, rfl, ?_⟩)
    rw [w_inc m (by omega)]
    exact w_waits_at N hN k n (m + 1) t (by omega) ht
theorem w_waitsOf {z : gH} {L d : Nat} {K : Option gV → gH → Prop} {s : gH} (N : Nat) (hN : N ≤ 20) (hs : zM z s) (h87 : ∀ k, gp_I s 87 k = 0) (k : ∀ t, wF s t N → K none t) : gs_C L (d + 4) 3122 4 [gp_r (some 74), gp_i (N : Int)] s K := by
  refine s_3122_e _ (cm_begins ⟨rfl, ?_⟩)
  have hB : wB s (gm_bg s) 0 := by
    refine ⟨⟨rfl, rfl⟩, ?_, fun i hi => ?_, fun q => ?_, fun j hj => absurd hj (Nat.not_lt_zero _)⟩
    · unfold gm_bg
      rw [gz_z86, if_neg (by omega)]; rfl
    · have e : gp_I (gm_bg s) 80 (1280 + i) = gp_I s 80 (1280 + i) := by
        unfold gm_bg
        rw [gz_z86, if_neg (by omega)]; rfl
      rw [e, zr80 hs]; omega
    · have e : gp_I (gm_bg s) 87 q = gp_I s 87 q := by
        unfold gm_bg
        rw [gz_z86, if_neg (by omega)]; rfl
      rw [e, h87]; omega
  refine w_made0 hB (fun t ht => ⟨_, rfl, ?_⟩)
  exact w_waits_at N hN k N 0 t (by omega) ht
theorem zm_waits {z : gH} {L d : Nat} {K : Option gV → gH → Prop} {s : gH} (p0 : Int) (N : Nat) (hs : zM z s) (h_p0 : (0 ≤ p0 ∧ p0 ≤ 7) ∧ N ≤ 20) (k : ∀ t, gp_sz t = gp_sz s → gp_us t = gp_us s → K (some (gp_i ((N : Int) + 1))) t) : gs_C L (d + 5) 3145 3 [gp_r (some 74), gp_i p0, gp_i (N : Int)] s K := by
  obtain ⟨h1, h2⟩ := h_p0
  refine s_3145_e _ _ (cm_isSlot _ ⟨_, rfl, fun q => ?_, fun _ => ?_⟩)
  · rw [if_pos (by omega)] at q; exact absurd q (by decide)
  · have w := gz_oi (N : Int) (by omega)
    have c1 := gz_cmp (BitVec.ofInt 64 (N : Int)) (0#64)
    have c2 := gz_cmp (BitVec.ofInt 64 (N : Int)) (BitVec.ofInt 64 20)
    have t1 : (0#64).toInt = 0 := by decide
    have t2 : (BitVec.ofInt 64 20).toInt = 20 := by decide
    refine w_isIn _ _ _ (by omega) (by omega) ⟨_, rfl, fun q => absurd q (by decide), fun _ => ?_⟩
    refine w_waitsOf N h2 hs (zr87 hs) (fun t ht => ⟨rfl, ?_⟩)
    obtain ⟨n0, rfl⟩ : ∃ n0 : Nat, p0 = (n0 : Int) := ⟨p0.toNat, by omega⟩
    refine s_3123_e _ (cm_copies 19 n0 (N + 1) (by omega) (by omega) (by omega) (by rw [ht.2.2]; omega) ⟨rfl, by omega, ⟨_, rfl, ?_⟩⟩)
    have e : gp_I (gm_cp (gp_wI t 81 n0 ((N + 1 : Nat) : Int)) 19 n0 (N + 1)) 81 (n0 : Int).toNat = (N : Int) + 1 := by
      rw [gm_cp_o _ _ _ _ _ _ (by decide)]
      show gp_u2 _ _ _ _ _ _ = _
      rw [gm_u2, if_pos ⟨rfl, rfl⟩]; omega
    rw [e]
    exact k _ ht.1.1 ht.1.2
