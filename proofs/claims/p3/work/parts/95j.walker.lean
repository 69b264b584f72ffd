/-! strips at the class -/
def mks (f : Nat → Int) : Nat → Nat
  | 0 => 0
  | c + 1 => mks f c + (if f c < 0 then 2 ^ c else 0)
theorem mks_s (f : Nat → Int) (c : Nat) : mks f (c + 1) = mks f c + (if f c < 0 then 2 ^ c else 0) := rfl
theorem mks_lt (f : Nat → Int) : ∀ c, mks f c < 2 ^ c
  | 0 => by show 0 < 1; decide
  | c + 1 => by
    have := mks_lt f c
    rw [mks_s, Nat.pow_succ]
    split <;> omega
theorem mks_eq {f g : Nat → Int} : ∀ c, mks f c = mks g c → ∀ j, j < c → (f j < 0 ↔ g j < 0)
  | 0, _, j, hj => absurd hj (Nat.not_lt_zero _)
  | c + 1, h, j, hj => by
    have a := mks_lt f c
    have b := mks_lt g c
    rw [mks_s, mks_s] at h
    have key : mks f c = mks g c ∧ (f c < 0 ↔ g c < 0) := by
      by_cases p : f c < 0 <;> by_cases q : g c < 0
      · rw [if_pos p, if_pos q] at h; exact ⟨by omega, fun _ => q, fun _ => p⟩
      · rw [if_pos p, if_neg q] at h; omega
      · rw [if_neg p, if_pos q] at h; omega
      · rw [if_neg p, if_neg q] at h; exact ⟨by omega, fun z => absurd z p, fun z => absurd z q⟩
    by_cases d : j = c
    · rw [d]; exact key.2
    · exact mks_eq c key.1 j (by omega)
theorem mks_congr {f g : Nat → Int} : ∀ c, (∀ j, j < c → f j = g j) → mks f c = mks g c
  | 0, _ => rfl
  | c + 1, h => by rw [mks_s, mks_s, mks_congr c (fun j hj => h j (by omega)), h c (by omega)]
theorem mks_or {a m : Nat} (h : a < 2 ^ m) (hm : m ≤ 7) : gp_or (a : Int) (gp_shl 1 (m : Int)) = ((a + 2 ^ m : Nat) : Int) := by
  have hp : 2 ^ (m + 1) ≤ 2 ^ 8 := Nat.pow_le_pow_right (by decide) (by omega)
  have hs : 2 ^ (m + 1) = 2 ^ m * 2 := Nat.pow_succ 2 m
  rw [shl1 m hm]
  have o : 2 ^ m + a = 2 ^ m ||| a := by
    have z := Nat.two_pow_add_eq_or_of_lt h 1
    rw [Nat.mul_one] at z; exact z
  have e : a ||| 2 ^ m = a + 2 ^ m := by rw [Nat.or_comm]; omega
  unfold gp_or
  have t : (BitVec.ofInt 32 (a : Int) ||| BitVec.ofInt 32 ((2 ^ m : Nat) : Int)).toNat = a + 2 ^ m := by
    rw [BitVec.toNat_or, BitVec.ofInt_natCast, BitVec.ofInt_natCast, BitVec.toNat_ofNat, BitVec.toNat_ofNat, Nat.mod_eq_of_lt (by omega), Nat.mod_eq_of_lt (by omega), e]
  rw [BitVec.toInt_eq_toNat_of_lt (by omega), t]
/-- the mask so far -/
def MKI (g : Nat → Int) (c v : Int) : Prop := v = (mks g c.toNat : Nat)
theorem MKI_0 {g : Nat → Int} : MKI g 0 0 := rfl
theorem MKI_y {g : Nat → Int} {c v : Int} (h : MKI g c v) (h0 : 0 ≤ c) (h7 : c ≤ 7) (hc : g c.toNat < 0) : MKI g (c + 1) (gp_or v (gp_shl 1 c)) := by
  unfold MKI at h ⊢
  rw [show (c + 1).toNat = c.toNat + 1 by omega, mks_s, if_pos hc, h]
  have := mks_or (mks_lt g c.toNat) (show c.toNat ≤ 7 by omega)
  rw [show ((c.toNat : Nat) : Int) = c by omega] at this
  exact this
theorem MKI_n {g : Nat → Int} {c v : Int} (h : MKI g c v) (h0 : 0 ≤ c) (hc : 0 ≤ g c.toNat) : MKI g (c + 1) v := by
  unfold MKI at h ⊢
  rw [show (c + 1).toNat = c.toNat + 1 by omega, mks_s, if_neg (by omega), h]; rfl
/-- what lies there so far -/
def LYI (g : Nat → Int) (c v : Int) : Prop := (∀ j : Nat, (j : Int) < c → okc (g j)) → v = lay g c.toNat
theorem LYI_0 {g : Nat → Int} : LYI g 0 0 := fun _ => rfl
theorem lay_9 {g : Nat → Int} : ∀ n, (∀ j, j < n → okc (g j)) → lay g n ≤ 9 * n
  | 0, _ => by show (0 : Int) ≤ _; omega
  | n + 1, h => by
    have a := lay_9 n (fun j hj => h j (by omega))
    have b := h n (by omega)
    have e : lay g (n + 1) = lay g n + (if g n < 0 then 0 else g n) := rfl
    rw [e]
    unfold okc at b
    split <;> omega
theorem LYI_y {g : Nat → Int} {c v : Int} (h : LYI g c v) (h0 : 0 ≤ c) (hc : g c.toNat < 0) : LYI g (c + 1) v := fun ho => by
  have e : lay g (c.toNat + 1) = lay g c.toNat + (if g c.toNat < 0 then 0 else g c.toNat) := rfl
  rw [show (c + 1).toNat = c.toNat + 1 by omega, e, if_pos hc, h (fun j hj => ho j (by omega))]
  omega
theorem LYI_n {g : Nat → Int} {c v : Int} (h : LYI g c v) (h0 : 0 ≤ c) (h7 : c ≤ 7) (hc : 0 ≤ g c.toNat) : LYI g (c + 1) (gp_wr (v + g c.toNat)) := fun ho => by
  have e : lay g (c.toNat + 1) = lay g c.toNat + (if g c.toNat < 0 then 0 else g c.toNat) := rfl
  have nn := lay_nn g c.toNat
  have l9 := lay_9 (g := g) c.toNat (fun j hj => ho j (by omega))
  have b := ho c.toNat (by omega)
  unfold okc at b
  rw [show (c + 1).toNat = c.toNat + 1 by omega, e, if_neg (by omega), h (fun j hj => ho j (by omega))]
  exact gp_wr_id (by omega) (by omega)
/-- what is known is what the walk gives -/
def KNX (s : gH) (f0 T : Nat → Int) (n : Nat) (P : AP) : Prop := ∀ m : Nat, m < 256 → gp_I s 50 m = -1 ∨ ∃ k : Nat, gp_I s 50 m = k ∧ ∀ f p, SIV f0 T n f p → mks f n = m → pw n ((far f n n).toNat + 1) f p P = some (P, k)
theorem KNX_ext {s t : gH} {f0 T : Nat → Int} {n : Nat} {P Q : AP} (h : KNX s f0 T n P) (e : Ext P Q) (g : GP Q) (r : ∀ k, gp_I t 50 k = gp_I s 50 k) : KNX t f0 T n Q := fun m hm => by
  rw [r m]
  rcases h m hm with q | ⟨k, q1, q2⟩
  · exact Or.inl q
  · exact Or.inr ⟨k, q1, fun f p hs hk => pw_again n g _ f p P P k (q2 f p hs hk) e⟩
theorem KNX_r {s t : gH} {f0 T : Nat → Int} {n : Nat} {P : AP} (h : KNX s f0 T n P) (r : ∀ k, gp_I t 50 k = gp_I s 50 k) : KNX t f0 T n P := fun m hm => by
  rw [r m]; exact h m hm
theorem far_same {f g : Nat → Int} {n : Nat} (h : ∀ j, j < n → f j = g j) : far f n n = far g n n :=
  far_eq (stn_eq n (fun j hj => by rw [h j hj])) n (fun i hi => h i hi) (fun i hi => stn_eq i (fun j hj => by rw [h j (by omega)]))
theorem KNX_w {s t : gH} {f0 T f : Nat → Int} {p v : Int} {n N m k : Nat} {P Q : AP} (h : KNX s f0 T n Q) (hs : SIV f0 T n f p) (hw : pw n (N + 1) f p P = some (Q, k)) (hN : (N : Int) = far f n n) (g : GP Q) (hm : m = mks f n) (hv : v = (k : Nat)) (et : ∀ j, gp_I t 50 j = if j = m then v else gp_I s 50 j) : KNX t f0 T n Q := fun j hj => by
  rw [et j]
  by_cases c : j = m
  · rw [if_pos c]
    refine Or.inr ⟨k, hv, fun f2 p2 hs2 hm2 => ?_⟩
    have d := SIV_det hs2 hs (mks_eq n (by omega))
    have fa := far_same d.1
    rw [fa, show (far f n n).toNat = N by omega, pw_congr n (N + 1) f2 f p2 Q d.1, d.2]
    exact pw_again n g (N + 1) f p P Q k hw (Ext_r _)
  · rw [if_neg c]; exact h j hj
theorem KNX_0 {s : gH} {f0 T : Nat → Int} {n : Nat} {P : AP} (h : ∀ k : Nat, (k : Int) < 256 → gp_I s 50 k = -1) : KNX s f0 T n P := fun m hm => Or.inl (h m (by omega))
theorem CV_fr {s t : gH} {P : AP} (h : CV s P) (r6 : gp_I t 6 4 = gp_I s 6 4) (r : ∀ k, gp_L t 8 k = gp_L s 8 k ∧ gp_L t 9 k = gp_L s 9 k ∧ gp_I t 10 k = gp_I s 10 k ∧ gp_I t 11 k = gp_I s 11 k) : CV t P := ⟨r6.trans h.1, fun k hk => by rw [(r k).1, (r k).2.1, (r k).2.2.1, (r k).2.2.2]; exact h.2 k hk⟩
def WSP (s : gH) (p deep : Int) (n : Nat) (f f0 T : Nat → Int) (P : AP) (N : Nat) : Prop := (n : Int) = gp_I s 48 2 ∧ n ≤ 8 ∧ (∀ j : Nat, j < n → okc (f j) ∧ gp_I s 49 j = f j) ∧ SIV f0 T n f p ∧ CV s P ∧ GP P ∧ P.1 ≤ 60 ∧ NBP72 n f p ∧ (N : Int) = far f n n ∧ far f n n + deep ≤ 16 ∧ KNX s f0 T n P
def WSX (s t : gH) (p deep r : Int) : Prop := ∀ n f f0 T P N, WSP s p deep n f f0 T P N → (∃ Q k, pw n (N + 1) f p P = some (Q, k) ∧ CV t Q ∧ r = (k : Nat) ∧ KNX t f0 T n Q) ∨ (pw n (N + 1) f p P = none ∧ r = -1)
def WPX (u t : gH) (a b p deep r : Int) : Prop := ∀ n f f0 T P N, WSP u p deep n f f0 T P (N + 1) → 0 ≤ a → a < n → tgt f n a.toNat = some b.toNat → (∃ Q k, pw n (N + 1) (mvd f a.toNat b.toNat) (if f a.toNat = -1 then p + f b.toNat else p - f b.toNat) P = some (Q, k) ∧ CV t Q ∧ r = (k : Nat) ∧ KNX t f0 T n Q) ∨ (pw n (N + 1) (mvd f a.toNat b.toNat) (if f a.toNat = -1 then p + f b.toNat else p - f b.toNat) P = none ∧ r = -1)
def WLI (s u : gH) (p deep c : Int) (l r : BitVec 64) : Prop := ∀ n f f0 T P N, WSP s p deep n f f0 T P N → ∃ Q, wlp (pw n N) f n p P c.toNat = some (Q, l, r) ∧ CV u Q ∧ KNX u f0 T n Q
theorem WLI_0 {s : gH} {p deep : Int} : WLI s s p deep 0 0#64 0#64 := fun n f f0 T P N h => ⟨P, rfl, h.2.2.2.2.1, h.2.2.2.2.2.2.2.2.2.2⟩
theorem WSX_kn {s : gH} {p deep v r : Int} (h : MKI (fun j => gp_I s 49 j) (gp_I s 48 2) v) (hr : r = gp_I s 50 v.toNat) (hc : 0 ≤ r ∨ 20 < deep) : WSX s s p deep r := fun n f f0 T P N hp => by
  obtain ⟨a1, a2, a3, a4, a5, a6, a7, a8, a9, a10, a11⟩ := hp
  have nn := far_nn f n n (Nat.le_refl _)
  have e : v.toNat = mks f n := by
    unfold MKI at h
    rw [← a1, Int.toNat_natCast] at h
    rw [h, Int.toNat_natCast]
    exact mks_congr n (fun j hj => (a3 j hj).2)
  have lt := mks_lt f n
  have hp : 2 ^ n ≤ 2 ^ 8 := Nat.pow_le_pow_right (by decide) a2
  rcases a11 v.toNat (by omega) with q | ⟨k, q1, q2⟩
  · omega
  · have := q2 f p a4 e.symm
    rw [show (far f n n).toNat = N by omega] at this
    exact Or.inl ⟨P, k, this, a5, by omega, a11⟩
theorem WLI_a {s u : gH} {p deep c : Int} {l r : BitVec 64} (h : WLI s u p deep c l r) (h0 : 0 ≤ c) (hc : c < gp_I s 48 2) (m1 : gp_I s 49 c.toNat = -1 → c + 1 < gp_I s 48 2 → gp_I s 49 (c + 1).toNat < 0) (m2 : gp_I s 49 c.toNat = -2 → 1 ≤ c → gp_I s 49 (c - 1).toNat < 0) : WLI s u p deep (c + 1) l r := fun n f f0 T P N hp => by
  obtain ⟨Q, w, h1, h2⟩ := h n f f0 T P N hp
  obtain ⟨a1, a2, a3, a4, a5, a6, a7, a8, a9, a10, a11⟩ := hp
  rw [show (c + 1).toNat = c.toNat + 1 by omega] at m1 ⊢
  rw [show (c - 1).toNat = c.toNat - 1 by omega] at m2
  have ht : tgt f n c.toNat = none := by
    rw [(a3 c.toNat (by omega)).2] at m1 m2
    unfold tgt
    rw [if_neg, if_neg]
    · rintro ⟨b1, b2, b3⟩
      have z := m2 b1 (by omega)
      rw [(a3 (c.toNat - 1) (by omega)).2] at z
      omega
    · rintro ⟨b1, b2, b3⟩
      have z := m1 b1 (by omega)
      rw [(a3 (c.toNat + 1) b2).2] at z
      omega
  exact ⟨Q, (wlp_no ht).trans w, h1, h2⟩
theorem WPS {s u : gH} {p deep c to : Int} {l r : BitVec 64} (h : WLI s u p deep c l r) (h0 : 0 ≤ c) (hc : c < gp_I s 48 2) (h48 : gp_I u 48 2 = gp_I s 48 2) (h49 : ∀ k, gp_I u 49 k = gp_I s 49 k) (hmv : (gp_I s 49 c.toNat = -1 ∧ to = c + 1) ∨ (gp_I s 49 c.toNat = -2 ∧ to = c - 1)) (hto : 0 ≤ to ∧ to < gp_I s 48 2) (h9 : 0 ≤ gp_I s 49 to.toNat) {n : Nat} {f f0 T : Nat → Int} {P : AP} {N : Nat} (hp : WSP s p deep n f f0 T P N) : ∃ N1 Q, N = N1 + 1 ∧ wlp (pw n N) f n p P c.toNat = some (Q, l, r) ∧ WSP u p deep n f f0 T Q (N1 + 1) ∧ c < n ∧ tgt f n c.toNat = some to.toNat ∧ (f c.toNat = -1 ↔ gp_I s 49 c.toNat = -1) ∧ (f c.toNat = -2 ↔ gp_I s 49 c.toNat = -2) := by
  obtain ⟨Q, w, h1, h2⟩ := h n f f0 T P N hp
  obtain ⟨a1, a2, a3, a4, a5, a6, a7, a8, a9, a10, a11⟩ := hp
  have ec := (a3 c.toNat (by omega)).2
  have et := (a3 to.toNat (by omega)).2
  rw [ec] at hmv ⊢
  rw [et] at h9
  have ht : tgt f n c.toNat = some to.toNat := by
    unfold tgt
    rcases hmv with ⟨m1, m2⟩ | ⟨m1, m2⟩
    · have e3 : to.toNat = c.toNat + 1 := by omega
      rw [e3] at h9
      rw [if_pos ⟨m1, by omega, h9⟩, e3]
    · have e3 : to.toNat = c.toNat - 1 := by omega
      rw [e3] at h9
      rw [if_neg (fun q => by have := q.1; omega), if_pos ⟨m1, by omega, h9⟩, e3]
  have fr := far_t (show c.toNat < n by omega) ht
  have fn := far_nn (mvd f c.toNat to.toNat) n n (Nat.le_refl _)
  obtain ⟨N1, rfl⟩ : ∃ N1, N = N1 + 1 := ⟨N - 1, by omega⟩
  have g := wlp_all a8 a6 a7 (show c.toNat ≤ n by omega) w
  exact ⟨N1, Q, rfl, w, ⟨a1.trans h48.symm, a2, fun j hj => ⟨(a3 j hj).1, (h49 j).trans (a3 j hj).2⟩, a4, h1, g.1, g.2, a8, a9, a10, h2⟩, by omega, ht, Iff.rfl, Iff.rfl⟩
theorem WLI_b {s u t : gH} {p deep c to res : Int} {l r l2 r2 : BitVec 64} (h : WLI s u p deep c l r) (h0 : 0 ≤ c) (hc : c < gp_I s 48 2) (h48 : gp_I u 48 2 = gp_I s 48 2) (h49 : ∀ k, gp_I u 49 k = gp_I s 49 k) (hmv : (gp_I s 49 c.toNat = -1 ∧ to = c + 1) ∨ (gp_I s 49 c.toNat = -2 ∧ to = c - 1)) (hto : 0 ≤ to ∧ to < gp_I s 48 2) (h9 : 0 ≤ gp_I s 49 to.toNat) (hP : WPX u t c to p deep res) (hres : 0 ≤ res) (hL : l2 = if gp_I s 49 c.toNat = -1 then l ||| 1#64 <<< Int.toNat (res % 64) else l) (hR : r2 = if gp_I s 49 c.toNat = -2 then r ||| 1#64 <<< Int.toNat (res % 64) else r) : WLI s t p deep (c + 1) l2 r2 := fun n f f0 T P N hp => by
  obtain ⟨N1, Q, rfl, w, wp, cn, ht, k1, k2⟩ := WPS h h0 hc h48 h49 hmv hto h9 hp
  obtain ⟨a1, a2, a3, a4, a5, a6, a7, a8, a9, a10, a11⟩ := wp
  rw [show (c + 1).toNat = c.toNat + 1 by omega]
  rcases hP n f f0 T Q N1 ⟨a1, a2, a3, a4, a5, a6, a7, a8, a9, a10, a11⟩ h0 cn ht with ⟨Q2, k, x1, x2, x3, x4⟩ | ⟨x1, x2⟩
  · have kk := (pw_ext n _ _ _ _ _ _ x1).2
    have k60 := (pw_keep (J := fun P => GP P ∧ P.1 ≤ 60) (I := NBP72 n) (fun f p P l r Q k hI hJ h => ⟨aaddc_GP hJ.1 h, aaddc_60 hJ.2 h⟩) NBP72_s _ _ _ _ _ _ (NBP72_s f p c.toNat to.toNat a8 (by omega) ht) ⟨a6, a7⟩ x1).2
    have rk : Int.toNat (res % 64) = k := by omega
    rw [rk] at hL hR
    refine ⟨Q2, ?_, x2, x4⟩
    rw [wlp_yes w ht x1, hL, hR]
    rcases hmv with ⟨m1, m2⟩ | ⟨m1, m2⟩
    · rw [if_pos (k1.mpr m1), if_pos (k1.mpr m1), if_pos m1, if_neg (by omega)]
    · have := k2.mpr m1
      rw [if_neg (by omega), if_neg (by omega), if_neg (by omega), if_pos m1]
  · omega
theorem WSX_f {s u t : gH} {p deep c to res : Int} {l r : BitVec 64} (h : WLI s u p deep c l r) (h0 : 0 ≤ c) (hc : c < gp_I s 48 2) (h48 : gp_I u 48 2 = gp_I s 48 2) (h49 : ∀ k, gp_I u 49 k = gp_I s 49 k) (hmv : (gp_I s 49 c.toNat = -1 ∧ to = c + 1) ∨ (gp_I s 49 c.toNat = -2 ∧ to = c - 1)) (hto : 0 ≤ to ∧ to < gp_I s 48 2) (h9 : 0 ≤ gp_I s 49 to.toNat) (hP : WPX u t c to p deep res) (hres : res < 0) : WSX s t p deep (-1) := fun n f f0 T P N hp => by
  obtain ⟨N1, Q, rfl, w, wp, cn, ht, k1, k2⟩ := WPS h h0 hc h48 h49 hmv hto h9 hp
  rcases hP n f f0 T Q N1 wp h0 cn ht with ⟨Q2, k, x1, x2, x3, x4⟩ | ⟨x1, x2⟩
  · omega
  · have y := wlp_fail w ht x1
    have up : ∀ d, wlp (pw n (N1 + 1)) f n p P (c.toNat + 1 + d) = none := fun d => by
      induction d with
      | zero => exact y
      | succ d ih => exact wlp_n ih
    have z := up (n - (c.toNat + 1))
    rw [show c.toNat + 1 + (n - (c.toNat + 1)) = n by omega] at z
    exact Or.inr ⟨wlp_end z, rfl⟩
theorem WSX_m {s u t t2 : gH} {p deep c v ly a b res r2 : Int} {l r : BitVec 64} (h : WLI s u p deep c l r) (hc : c = gp_I s 48 2) (hv : MKI (fun j => gp_I s 49 j) (gp_I s 48 2) v) (hl : LYI (fun j => gp_I s 49 j) (gp_I s 48 2) ly) (ha : a = gp_wr (p - ly)) (hb : b = gp_wr (p + ly)) (m : ADX u t l r a b res) (h50 : ∀ k, gp_I t 50 k = gp_I u 50 k) (et : t2 = gp_wI t 50 v.toNat res) (er : r2 = gp_I t2 50 v.toNat) : WSX s t2 p deep r2 := fun n f f0 T P N hp => by
  obtain ⟨Q, w, h1, h2⟩ := h n f f0 T P N hp
  obtain ⟨a1, a2, a3, a4, a5, a6, a7, a8, a9, a10, a11⟩ := hp
  rw [show c.toNat = n by omega] at w
  have g := wlp_all a8 a6 a7 (Nat.le_refl n) w
  have nn := lay_nn f n
  have z := a8
  unfold NBP72 at z
  have e : v.toNat = mks f n := by
    unfold MKI at hv
    rw [← a1, Int.toNat_natCast] at hv
    rw [hv, Int.toNat_natCast]
    exact mks_congr n (fun j hj => (a3 j hj).2)
  have el : ly = lay f n := by
    have q := hl (fun j hj => by
      show okc (gp_I s 49 j)
      rw [(a3 j (by omega)).2]; exact (a3 j (by omega)).1)
    rw [q, show (gp_I s 48 2).toNat = n by omega]
    exact lay_congr n (fun j hj => (a3 j hj).2)
  have ea : a = p - lay f n := by rw [ha, el]; exact gp_wr_id (by omega) (by omega)
  have eb : b = p + lay f n := by rw [hb, el]; exact gp_wr_id (by omega) (by omega)
  have er2 : r2 = res := by rw [er, et, gz_rwi, if_pos rfl]
  subst ea; subst eb
  rw [er2, wlp_pw w]
  rcases CV_addc h1 g.1 m g.2 with ⟨Q2, k, x1, x2, x3⟩ | ⟨x1, x2⟩
  · have ax := aaddc_ext x1
    have g2 := aaddc_GP g.1 x1
    refine Or.inl ⟨Q2, k, x1, ?_, x3, ?_⟩
    · subst et
      exact CV_fr x2 rfl (fun k => ⟨rfl, rfl, rfl, rfl⟩)
    · refine KNX_w (m := v.toNat) (KNX_ext (t := t) h2 ax.1 g2 h50) a4 ((wlp_pw w).trans x1) a9 g2 e x3 (fun j => ?_)
      rw [et, gz_rwi]
  · exact Or.inr ⟨x1, x2⟩
theorem WPX_of {u u1 t1 t : gH} {a b p deep pts st ga res : Int} (h : WSX u1 t1 pts (deep + 1) res) (e1 : u1 = gp_wI (gp_wI u 49 b.toNat st) 49 a.toNat 0) (e2 : t = gp_wI (gp_wI t1 49 a.toNat st) 49 b.toNat ga) (hst : st = gp_I u 49 a.toNat) (hga : ga = gp_I u 49 b.toNat) (hpts : -1000 ≤ p ∧ p ≤ 1000 → 0 ≤ ga ∧ ga ≤ 9 → pts = if st = -1 then p + ga else p - ga) : WPX u t a b p deep res := fun n f f0 T P N hp an cn ht => by
  obtain ⟨a1, a2, a3, a4, a5, a6, a7, a8, a9, a10, a11⟩ := hp
  have q := tgt_s ht (show a.toNat < n by omega)
  have ec := (a3 a.toNat (by omega)).2
  have eb := a3 b.toNat q.1
  have ob := eb.1
  unfold okc at ob
  have nn := lay_nn f n
  have z := a8
  unfold NBP72 at z
  have fr := far_t (show a.toNat < n by omega) ht
  have ep : pts = if f a.toNat = -1 then p + f b.toNat else p - f b.toNat := by
    rw [hpts (by omega) (by rw [hga, eb.2]; omega), hst, hga, ec, eb.2]
  have hsv : SIV f0 T n (mvd f a.toNat b.toNat) (if f a.toNat = -1 then p + f b.toNat else p - f b.toNat) := by
    rcases q.2.2 with ⟨b1, b2⟩ | ⟨b1, b2⟩
    · rw [if_pos b1, b2]
      rw [b2] at q
      exact SIV_L a4 q.1 b1 q.2.1
    · rw [if_neg (by omega), b2]
      rw [b2] at b1
      exact SIV_R a4 (by omega) b1 q.2.1
  have ce : ∀ j : Nat, j < n → okc (mvd f a.toNat b.toNat j) ∧ gp_I u1 49 j = mvd f a.toNat b.toNat j := fun j hj => by
    have ne : a.toNat ≠ b.toNat := by omega
    rw [e1, gz_rwi, gz_rwi]
    by_cases c : j = b.toNat
    · rw [c, mvd_t, if_neg (fun h => ne h.symm), if_pos rfl, hst, ec]
      exact ⟨(a3 a.toNat (by omega)).1, rfl⟩
    · by_cases d : j = a.toNat
      · rw [d, mvd_i ne, if_pos rfl]
        exact ⟨Or.inr (Or.inr (by omega)), rfl⟩
      · rw [mvd_o c d, if_neg d, if_neg c]
        exact a3 j hj
  have x := h n (mvd f a.toNat b.toNat) f0 T P N ⟨by rw [e1]; exact a1, a2, ce, by rw [ep]; exact hsv, by rw [e1]; exact CV_fr a5 rfl (fun k => ⟨rfl, rfl, rfl, rfl⟩), a6, a7, by rw [ep]; exact NBP72_s f p a.toNat b.toNat a8 (by omega) ht, by omega, by omega, by rw [e1]; exact KNX_r a11 (fun k => rfl)⟩
  rw [ep] at x
  rcases x with ⟨Q, k, x1, x2, x3, x4⟩ | x
  · exact Or.inl ⟨Q, k, x1, by rw [e2]; exact CV_fr x2 rfl (fun k => ⟨rfl, rfl, rfl, rfl⟩), x3, by rw [e2]; exact KNX_r x4 (fun k => rfl)⟩
  · exact Or.inr x
/-! strips: what is answered -/
def FWQ (g : Nat → Int) (n q : Int) : Prop := 0 ≤ q ∧ q ≤ n ∧ q ≤ 8 ∧ (∀ k : Nat, (k : Int) < q → okb (g k)) ∧ (q = n ∨ q = 8 ∨ ¬ okb (g q.toNat))
theorem FWQ_eq {g h : Nat → Int} {n q r : Int} (e : ∀ k : Nat, (k : Int) < n → (okb (g k) ↔ okb (h k))) (a : FWQ g n q) (b : FWQ h n r) : q = r := by
  obtain ⟨a1, a2, a3, a4, a5⟩ := a
  obtain ⟨b1, b2, b3, b4, b5⟩ := b
  by_cases c : q < r
  · exfalso
    rcases a5 with z | z | z
    · omega
    · omega
    · exact z ((e q.toNat (by omega)).mpr (b4 q.toNat (by omega)))
  · by_cases d : r < q
    · exfalso
      rcases b5 with z | z | z
      · omega
      · omega
      · exact z ((e r.toNat (by omega)).mp (a4 r.toNat (by omega)))
    · omega
def dec (x : Int) : Int := if x = 108 then -1 else if x = 114 then -2 else x - 48
theorem dec_l {x : Int} (h : x = 108) : dec x = -1 := if_pos h
theorem dec_r {x : Int} (h : x = 114) : dec x = -2 := by unfold dec; rw [if_neg (by omega), if_pos h]
theorem dec_n {x : Int} (h : x ≠ 108) (k : x ≠ 114) : dec x = x - 48 := by unfold dec; rw [if_neg h, if_neg k]
theorem dec_ok {x : Int} (h : okb x) : okc (dec x) := by
  unfold okb at h
  unfold okc
  rcases h with q | q | q
  · rw [dec_l q]; omega
  · rw [dec_r q]; omega
  · rw [dec_n (by omega) (by omega)]; omega
/-- the walk from the start -/
def pw0 (g : Nat → Int) (n : Nat) : OA := pw n ((far (fun j => dec (g j)) n n).toNat + 1) (fun j => dec (g j)) 0 (0, fun _ => nx 0#64 0#64 0 0)
def WLQ (g : Nat → Int) (n : Nat) (v : Int) : Prop := (pw0 g n = none ∧ v = -1) ∨ ∃ Q k, pw0 g n = some (Q, k) ∧ v = (gm_cnt (clo (msk Q) k (1#64 <<< k)) 64 : Nat)
theorem WLQ_eq {g h : Nat → Int} {n : Nat} {v w : Int} (e : ∀ j, j < n → dec (g j) = dec (h j)) (a : WLQ g n v) (b : WLQ h n w) : v = w := by
  have k : pw0 g n = pw0 h n := by
    unfold pw0
    rw [far_same (f := fun j => dec (g j)) (g := fun j => dec (h j)) e]
    exact pw_congr n _ _ _ _ _ e
  unfold WLQ at a b
  rw [k] at a
  rcases a with ⟨a1, a2⟩ | ⟨Q, x, a1, a2⟩ <;> rcases b with ⟨b1, b2⟩ | ⟨R, y, b1, b2⟩
  · omega
  · rw [a1] at b1; cases b1
  · rw [a1] at b1; cases b1
  · rw [a1] at b1
    injection b1 with b1
    injection b1 with b1 b3
    subst b1; subst b3
    omega
def STP (g : Nat → Int) (n p0 r : Int) : Prop := (¬ (0 ≤ p0 ∧ p0 ≤ 7) ∧ r = -1000000001) ∨ ((0 ≤ p0 ∧ p0 ≤ 7) ∧ ∃ q, FWQ g n q ∧ ((¬ (q = n ∧ 1 ≤ n) ∧ r = -10 - q) ∨ (q = n ∧ 1 ≤ n ∧ ∃ v, WLQ g n.toNat v ∧ r = if v = -1 then -1000000004 else v)))
theorem STP_eq {g h : Nat → Int} {n p0 r r2 : Int} (e : ∀ k : Nat, (k : Int) < n → (okb (g k) ↔ okb (h k)) ∧ (okb (g k) → dec (g k) = dec (h k))) (a : STP g n p0 r) (b : STP h n p0 r2) : r = r2 := by
  rcases a with ⟨a1, a2⟩ | ⟨a1, q, a2, a3⟩ <;> rcases b with ⟨b1, b2⟩ | ⟨b1, q2, b2, b3⟩
  · omega
  · exact absurd b1 a1
  · exact absurd a1 b1
  · have eq := FWQ_eq (fun k hk => (e k hk).1) a2 b2
    subst eq
    rcases a3 with ⟨c1, c2⟩ | ⟨c1, c2, v, c3, c4⟩ <;> rcases b3 with ⟨d1, d2⟩ | ⟨d1, d2, w, d3, d4⟩
    · omega
    · exact absurd ⟨d1, d2⟩ c1
    · exact absurd ⟨c1, c2⟩ d1
    · have := WLQ_eq (fun j hj => (e j (by omega)).2 (a2.2.2.2.1 j (by omega))) c3 d3
      rw [c4, d4, this]
/-- a byte as either side keeps it -/
theorem byte_ok {x y : Int} (h : x = gp_b y) (hy : 0 ≤ y ∧ y ≤ 255) : (okb x ↔ okb y) ∧ (okb x → dec x = dec y) := by
  unfold gp_b at h
  have e : okb x ∨ okb y → x = y := by unfold okb; omega
  refine ⟨⟨fun q => by rw [← e (Or.inl q)]; exact q, fun q => by rw [e (Or.inr q)]; exact q⟩, fun q => by rw [e (Or.inl q)]⟩
theorem pw0_all {g : Nat → Int} {n : Nat} {Q : AP} {k : Nat} (h8 : n ≤ 8) (hg : ∀ j, j < n → okb (g j)) (h : pw0 g n = some (Q, k)) : GP Q ∧ Q.1 ≤ 60 ∧ B72 Q ∧ k < Q.1 := by
  have l9 := lay_9 (g := fun j => dec (g j)) n (fun j hj => dec_ok (hg j hj))
  have nn := lay_nn (fun j => dec (g j)) n
  have a := pw_all (n := n) (f := fun j => dec (g j)) (p := 0) (by unfold NBP72; omega) GP_0 (by show 0 ≤ 60; decide) (fun k hk => absurd hk (Nat.not_lt_zero _)) h
  exact ⟨a.1, a.2.1, a.2.2, (pw_ext n _ _ _ _ _ _ h).2⟩
/-- the class's walk begins -/
def WKU (u : gH) (g : Nat → Int) (n : Int) : Prop := gp_I u 48 2 = n ∧ 1 ≤ n ∧ n ≤ 8 ∧ (∀ j : Nat, (j : Int) < n → okb (g j) ∧ gp_I u 49 j = dec (g j)) ∧ gp_I u 6 4 = 0 ∧ ∀ k : Nat, (k : Int) < 256 → gp_I u 50 k = -1
theorem WKU_s {u t : gH} {g : Nat → Int} {n r : Int} (h : WKU u g n) (w : WSX u t 0 0 r) : (pw0 g n.toNat = none ∧ r = -1) ∨ ∃ Q k, pw0 g n.toNat = some (Q, k) ∧ CV t Q ∧ r = (k : Nat) ∧ k < Q.1 ∧ Q.1 ≤ 60 := by
  obtain ⟨h1, h2, h3, h4, h5, h6⟩ := h
  have l9 := lay_9 (g := fun j => dec (g j)) n.toNat (fun j hj => dec_ok (h4 j (by omega)).1)
  have nn := lay_nn (fun j => dec (g j)) n.toNat
  have f16 := far_16 (fun j => dec (g j)) (show n.toNat ≤ 8 by omega)
  have fn := far_nn (fun j => dec (g j)) n.toNat n.toNat (Nat.le_refl _)
  have x := w n.toNat (fun j => dec (g j)) (fun j => dec (g j)) (rowT (fun j => dec (g j)) n.toNat) (0, fun _ => nx 0#64 0#64 0 0) (far (fun j => dec (g j)) n.toNat n.toNat).toNat
    ⟨by omega, by omega, fun j hj => ⟨dec_ok (h4 j (by omega)).1, (h4 j (by omega)).2⟩, SIV_0 (fun j hj c => by
      have := dec_ok (h4 j (by omega)).1
      unfold okc at this
      show dec (g j) = -1 ∨ dec (g j) = -2
      have c2 : dec (g j) < 0 := c
      omega), CV_0 h5, GP_0, by show 0 ≤ 60; decide, by unfold NBP72; omega, by omega, by omega, KNX_0 h6⟩
  rcases x with ⟨Q, k, x1, x2, x3, _⟩ | x
  · have a := pw0_all (by omega) (fun j hj => (h4 j (by omega)).1) x1
    exact Or.inr ⟨Q, k, x1, x2, x3, a.2.2.2, a.2.1⟩
  · exact Or.inl x
theorem WKU_1 {u t : gH} {g : Nat → Int} {n r : Int} (h : WKU u g n) (w : WSX u t 0 0 r) (hr : r < 0) : WLQ g n.toNat (-1) := by
  rcases WKU_s h w with ⟨a, b⟩ | ⟨Q, k, a, b, c, d⟩
  · exact Or.inl ⟨a, rfl⟩
  · omega
theorem WKU_2 {u t : gH} {g : Nat → Int} {n r : Int} (h : WKU u g n) (w : WSX u t 0 0 r) (hr : 0 ≤ r) : WLQ g n.toNat (gm_cnt (CLT t 7 r) 64 : Nat) := by
  rcases WKU_s h w with ⟨a, b⟩ | ⟨Q, k, a, b, c, d, e⟩
  · omega
  · exact Or.inr ⟨Q, k, a, by rw [CLT_CV b c d (by omega)]⟩
theorem WKC_s {t : gH} {g : Nat → Int} {i x : Int} {s : gH} (iv : ∀ j : Nat, (j : Int) < i → gp_I s 49 j = dec (g j)) (h0 : 0 ≤ i) (et : t = gp_wI s 49 i.toNat x) (hx : x = dec (g i.toNat)) : ∀ j : Nat, (j : Int) < i + 1 → gp_I t 49 j = dec (g j) := fun j hj => by
  rw [et, gz_rwi]
  by_cases c : j = i.toNat
  · rw [if_pos c, c, hx]
  · rw [if_neg c]; exact iv j (by omega)
/-! strips at the reference: the bytes packed -/
def PKI (g : Nat → Int) (i : Int) (v : BitVec 64) : Prop := ∀ j : Nat, (j : Int) < i → okb (g j) ∧ cl v j = cod (dec (g j))
theorem PKI_0 {g : Nat → Int} {v : BitVec 64} : PKI g 0 v := fun j hj => by omega
theorem PKI_s {g : Nat → Int} {i x y : Int} {v w : BitVec 64} (h : PKI g i v) (h0 : 0 ≤ i) (h8 : i < 8) (hx : okb (g i.toNat)) (hy : y = if g i.toNat = 108 then 10 else if g i.toNat = 114 then 11 else g i.toNat - 48) (hw : w = wt v i y) : PKI g (i + 1) w := fun j hj => by
  have yr : 0 ≤ y ∧ y ≤ 15 ∧ y = cod (dec (g i.toNat)) := by
    unfold okb at hx
    rcases hx with q | q | q
    · rw [dec_l q, hy, if_pos q]; exact ⟨by omega, by omega, rfl⟩
    · rw [dec_r q, hy, if_neg (by omega), if_pos q]; exact ⟨by omega, by omega, rfl⟩
    · rw [dec_n (by omega) (by omega), hy, if_neg (by omega), if_neg (by omega)]
      refine ⟨by omega, by omega, ?_⟩
      unfold cod
      rw [if_neg (by omega), if_neg (by omega)]
  have q := cl_wt (x := v) (k := i) (v := y) (j := (j : Int)) (by omega) (by omega) (by omega)
  rw [hw]
  by_cases c : (j : Int) = i
  · rw [c, q.2, show j = i.toNat by omega]
    exact ⟨hx, yr.2.2⟩
  · rw [q.1 c]; exact h j (by omega)
def RWU (u : gH) (g : Nat → Int) (n : Int) (v : BitVec 64) : Prop := gp_I u 74 46 = n ∧ 1 ≤ n ∧ n ≤ 8 ∧ PKI g n v ∧ gp_I u 81 20 = 0 ∧ gp_I u 74 15 = 0
theorem RWU_s {u t : gH} {g : Nat → Int} {n r : Int} {v : BitVec 64} (h : RWU u g n v) (w : PLX u t v 0 r) : (pw0 g n.toNat = none ∧ gp_I t 74 15 = 1) ∨ ∃ Q k, pw0 g n.toNat = some (Q, k) ∧ RVm t Q ∧ r = (k : Nat) ∧ k < Q.1 ∧ Q.1 ≤ 60 ∧ B72 Q ∧ gp_I t 74 15 = 0 := by
  obtain ⟨h1, h2, h3, h4, h5, h6⟩ := h
  have l9 := lay_9 (g := fun j => dec (g j)) n.toNat (fun j hj => dec_ok (h4 j (by omega)).1)
  have nn := lay_nn (fun j => dec (g j)) n.toNat
  have fn := far_nn (fun j => dec (g j)) n.toNat n.toNat (Nat.le_refl _)
  have x := w n.toNat (fun j => dec (g j)) (0, fun _ => nx 0#64 0#64 0 0) (far (fun j => dec (g j)) n.toNat n.toNat).toNat
    ⟨by omega, by omega, fun j hj => ⟨dec_ok (h4 j (by omega)).1, (h4 j (by omega)).2⟩, ⟨h5, fun k hk => absurd hk (Nat.not_lt_zero _)⟩, GP_0, by show 0 ≤ 60; decide, by unfold NBP72; omega, h6, by omega⟩
  rcases x with ⟨Q, k, x1, x2, x3, x4⟩ | x
  · have a := pw0_all (by omega) (fun j hj => (h4 j (by omega)).1) x1
    exact Or.inr ⟨Q, k, x1, x2, x3, a.2.2.2, a.2.1, a.2.2.1, x4⟩
  · exact Or.inl x
theorem RWU_1 {u t : gH} {g : Nat → Int} {n r : Int} {v : BitVec 64} (h : RWU u g n v) (w : PLX u t v 0 r) (hr : gp_I t 74 15 ≠ 0) : WLQ g n.toNat (-1) := by
  rcases RWU_s h w with ⟨a, b⟩ | ⟨Q, k, a, b, c, d, e, f, z⟩
  · exact Or.inl ⟨a, rfl⟩
  · omega
theorem RWU_2 {u t : gH} {g : Nat → Int} {n r : Int} {v : BitVec 64} (h : RWU u g n v) (w : PLX u t v 0 r) (hr : gp_I t 74 15 = 0) : WLQ g n.toNat (gm_cnt (CLM t r) 64 : Nat) := by
  rcases RWU_s h w with ⟨a, b⟩ | ⟨Q, k, a, b, c, d, e, f, z⟩
  · omega
  · exact Or.inr ⟨Q, k, a, by rw [CLM_RV b c d (by omega)]⟩
theorem RWU_B {u t : gH} {g : Nat → Int} {n r : Int} {v : BitVec 64} (h : RWU u g n v) (w : PLX u t v 0 r) (hr : gp_I t 74 15 = 0) : BNM t := by
  rcases RWU_s h w with ⟨a, b⟩ | ⟨Q, k, a, b, c, d, e, f, z⟩
  · omega
  · intro i hi
    have q := b.2 i (by have := b.1; omega)
    have y := f i (by have := b.1; omega)
    rw [← q] at y
    show (-2147483648 ≤ mA t i ∧ mA t i ≤ 2147483647) ∧ -2147483648 ≤ mB t i ∧ mB t i ≤ 2147483647
    have y1 : -72 ≤ mA t i ∧ mA t i ≤ 72 := y.1
    have y2 : -72 ≤ mB t i ∧ mB t i ≤ 72 := y.2
    omega
/-! the tape on both sides -/
def bX (p : BitVec 64) (j : Int) : Int := gp_b (gp_b (gp_wr ((p >>> ((gp_wr (8 * j)) % 64).toNat)).toInt))
def bM (p : BitVec 64) (j : Int) : Int := gp_wr ((p.sshiftRight ((gp_wr (8 * j)) % 64).toNat) &&& (BitVec.ofInt 64 255)).toInt
theorem tI_mod (x : BitVec 64) : x.toInt % 256 = ((x.toNat % 256 : Nat) : Int) := by
  have h := x.isLt
  rw [BitVec.toInt_eq_toNat_cond]
  split <;> omega
theorem b_wr (x : Int) : gp_b (gp_b (gp_wr x)) = gp_b (x % 256) := by
  unfold gp_b gp_wr
  omega
theorem low8 (p : BitVec 64) (n : Nat) (h : n ≤ 56) : (p.sshiftRight n &&& BitVec.ofInt 64 255).toNat = (p >>> n).toNat % 256 := by
  have e : (p.sshiftRight n &&& BitVec.ofInt 64 255) = (p >>> n) &&& BitVec.ofNat 64 255 := by
    apply BitVec.eq_of_getLsbD_eq
    intro i hi
    have z : BitVec.ofInt 64 255 = BitVec.ofNat 64 255 := by decide
    rw [z, BitVec.getLsbD_and, BitVec.getLsbD_and, BitVec.getLsbD_sshiftRight, BitVec.getLsbD_ushiftRight]
    by_cases c : i < 8
    · rw [if_pos (show n + i < 64 by omega)]
      simp [hi, show ¬ 64 ≤ i by omega]
    · have q : (BitVec.ofNat 64 255).getLsbD i = false := by
        rw [BitVec.getLsbD_ofNat, Nat.testBit_lt_two_pow (Nat.lt_of_lt_of_le (show 255 < 2 ^ 8 by decide) (Nat.pow_le_pow_right (by decide) (by omega)))]
        simp
      rw [q, Bool.and_false, Bool.and_false]
  rw [e, BitVec.toNat_and]
  show (p >>> n).toNat &&& 255 = _
  exact Nat.and_two_pow_sub_one_eq_mod (p >>> n).toNat 8
theorem bX_bM (p : BitVec 64) {j : Int} (h0 : 0 ≤ j) (h7 : j ≤ 7) : bX p j = gp_b (bM p j) ∧ 0 ≤ bM p j ∧ bM p j ≤ 255 := by
  unfold bX bM
  have e : ((gp_wr (8 * j)) % 64).toNat = (8 * j).toNat := by rw [gp_wr_id (by omega) (by omega)]; omega
  rw [e]
  have l := low8 p (8 * j).toNat (by omega)
  have t := tI_mod (p >>> (8 * j).toNat)
  have u : (p.sshiftRight (8 * j).toNat &&& BitVec.ofInt 64 255).toInt = (((p >>> (8 * j).toNat).toNat % 256 : Nat) : Int) := by
    rw [BitVec.toInt_eq_toNat_of_lt (by omega), l]
  rw [u, b_wr, t]
  generalize (p >>> (8 * j).toNat).toNat = x
  rw [gp_wr_id (by omega) (by omega)]
  exact ⟨rfl, by omega, by omega⟩
theorem bX_8 (p : BitVec 64) {j : Int} (h0 : 0 ≤ j) (h7 : j ≤ 7) : bX p j = gp_b (gp_b (gp_wr ((p >>> ((8 * j) % 64).toNat)).toInt)) := by
  unfold bX
  rw [show gp_wr (8 * j) = 8 * j from gp_wr_id (by omega) (by omega)]
theorem bM_8 (p : BitVec 64) {j : Int} (h0 : 0 ≤ j) (h7 : j ≤ 7) : bM p j = gp_wr ((p.sshiftRight ((8 * j) % 64).toNat) &&& (BitVec.ofInt 64 255)).toInt := by
  unfold bM
  rw [show gp_wr (8 * j) = 8 * j from gp_wr_id (by omega) (by omega)]
def FDL (a : Nat) (b : BitVec 64 → Int → Int) (s t : gH) (n0 : Int) (p0 : BitVec 64) (v : Int) : Prop := ∀ k : Nat, gp_I t a k = if n0 ≤ (k : Int) ∧ (k : Int) < n0 + v then b p0 ((k : Int) - n0) else gp_I s a k
def FDX (a : Nat) (b : BitVec 64 → Int → Int) (s t : gH) (n0 : Int) (p0 : BitVec 64) (p1 : Int) : Prop := ((1 ≤ p1 ∧ p1 ≤ 8) ∧ n0 + p1 ≤ 100 → FDL a b s t n0 p0 p1) ∧ (¬ ((1 ≤ p1 ∧ p1 ≤ 8) ∧ n0 + p1 ≤ 100) → ∀ k : Nat, gp_I t a k = gp_I s a k)
theorem FDL_0 {a : Nat} {b : BitVec 64 → Int → Int} {s t : gH} {n0 : Int} {p0 : BitVec 64} (h : ∀ k : Nat, gp_I t a k = gp_I s a k) : FDL a b s t n0 p0 0 := fun k => by rw [h k, if_neg (by omega)]
theorem FDL_s {a : Nat} {b : BitVec 64 → Int → Int} {s t u : gH} {n0 v x : Int} {p0 : BitVec 64} {i : Nat} (h : FDL a b s t n0 p0 v) (h0 : 0 ≤ v) (hu : ∀ k : Nat, gp_I u a k = if k = i then x else gp_I t a k) (hx : x = b p0 v) (hi : (i : Int) = n0 + v) : FDL a b s u n0 p0 (v + 1) := fun k => by
  rw [hu k]
  by_cases c : k = i
  · rw [if_pos c, if_pos (by omega), hx]; congr 1; omega
  · rw [if_neg c, h k]
    by_cases d : n0 ≤ (k : Int) ∧ (k : Int) < n0 + v
    · rw [if_pos d, if_pos (by omega)]
    · rw [if_neg d, if_neg (by omega)]
theorem FDX_y {a : Nat} {b : BitVec 64 → Int → Int} {s t : gH} {n0 p1 : Int} {p0 : BitVec 64} (h : FDL a b s t n0 p0 p1) (c : (1 ≤ p1 ∧ p1 ≤ 8) ∧ n0 + p1 ≤ 100) : FDX a b s t n0 p0 p1 := ⟨fun _ => h, fun q => absurd c q⟩
theorem FDX_n {a : Nat} {b : BitVec 64 → Int → Int} {s t : gH} {n0 p1 : Int} {p0 : BitVec 64} (h : ∀ k : Nat, gp_I t a k = gp_I s a k) (c : ¬ ((1 ≤ p1 ∧ p1 ≤ 8) ∧ n0 + p1 ≤ 100)) : FDX a b s t n0 p0 p1 := ⟨fun q => absurd q c, fun _ => h⟩
/-- the tape of either side, byte for byte -/
def TPE (s : gH) : Prop := ∀ k : Nat, (k : Int) < gp_I s 1 2 → gp_I s 3 k = gp_b (gp_I s 82 k) ∧ 0 ≤ gp_I s 82 k ∧ gp_I s 82 k ≤ 255
theorem TPE_k {s t u : gH} (h : TPE s) (a : ∀ k : Nat, gp_I t 3 k = gp_I s 3 k) (hR : ∀ a k, 74 ≤ a → a < 117 → gp_I t a k = gp_I s a k) (b : ∀ k : Nat, gp_I u 82 k = gp_I t 82 k) (hX : ∀ a k, a < 74 → gp_I u a k = gp_I t a k) (hn : gp_I t 1 2 ≤ gp_I s 1 2 ∨ gp_I t 1 2 ≤ 0) : TPE u := fun k hk => by
  rw [hX 1 2 (by decide)] at hk
  rw [hX 3 k (by decide), a k, b k, hR 82 k (by decide) (by decide)]
  exact h k (by omega)
theorem TPE_feed {s t u : gH} {p0 : BitVec 64} {p1 : Int} (h : TPE s) (hl : gp_I s 1 2 = gp_I s 74 11) (h0 : 0 ≤ gp_I s 1 2) (a : FDX 3 bX s t (gp_I s 1 2) p0 p1) (hR : ∀ a k, 74 ≤ a → a < 117 → gp_I t a k = gp_I s a k) (b : FDX 82 bM t u (gp_I t 74 11) p0 p1) (hX : ∀ a k, a < 74 → gp_I u a k = gp_I t a k) (e1 : (1 ≤ p1 ∧ p1 ≤ 8) ∧ gp_I s 1 2 + p1 ≤ 100 → gp_I t 1 2 = gp_I s 1 2 + p1) (e2 : ¬ ((1 ≤ p1 ∧ p1 ≤ 8) ∧ gp_I s 1 2 + p1 ≤ 100) → gp_I t 1 2 = gp_I s 1 2) : TPE u := by
  have r11 := hR 74 11 (by decide) (by decide)
  by_cases c : (1 ≤ p1 ∧ p1 ≤ 8) ∧ gp_I s 1 2 + p1 ≤ 100
  · have x := a.1 c
    have y := b.1 (by omega)
    have e := e1 c
    intro k hk
    rw [hX 1 2 (by decide), e] at hk
    rw [hX 3 k (by decide), x k, y k, r11, ← hl, hR 82 k (by decide) (by decide)]
    by_cases d : gp_I s 1 2 ≤ (k : Int) ∧ (k : Int) < gp_I s 1 2 + p1
    · rw [if_pos d, if_pos d]
      exact bX_bM p0 (by omega) (by omega)
    · rw [if_neg d, if_neg d]
      exact h k (by omega)
  · exact TPE_k h (a.2 c) hR (b.2 (by omega)) hX (Or.inl (by have := e2 c; omega))
theorem STP_EQ {s t : gH} (h : TPE s) (hl : gp_I s 1 2 = gp_I s 74 11) (hR : ∀ a k, 74 ≤ a → a < 117 → gp_I t a k = gp_I s a k) {p0 r r2 : Int} (a : STP (fun k => gp_I s 3 k) (gp_I s 1 2) p0 r) (b : STP (fun k => gp_I t 82 k) (gp_I t 74 11) p0 r2) : r = r2 := by
  rw [hR 74 11 (by decide) (by decide), ← hl, show (fun k => gp_I t 82 k) = fun k => gp_I s 82 k from funext fun k => hR 82 k (by decide) (by decide)] at b
  exact STP_eq (fun k hk => byte_ok (h k hk).1 (h k hk).2) a b
theorem WLI_a2 {s u : gH} {p deep c : Int} {l r : BitVec 64} (h : WLI s u p deep c l r) (E : ∀ k : Nat, gp_I u 49 k = gp_I s 49 k) (e2 : gp_I u 48 2 = gp_I s 48 2) (h0 : 0 ≤ c) (hc : c < gp_I u 48 2) (m1 : gp_I u 49 c.toNat = -1 → c + 1 < gp_I u 48 2 → gp_I u 49 (c + 1).toNat < 0) (m2 : gp_I u 49 c.toNat = -2 → 1 ≤ c → gp_I u 49 (c - 1).toNat < 0) : WLI s u p deep (c + 1) l r :=
  WLI_a h h0 (by omega) (fun a b => by rw [← E]; exact m1 ((E _).trans a) (by omega)) (fun a b => by rw [← E]; exact m2 ((E _).trans a) b)
theorem WLI_b2 {s u t : gH} {p deep c to res : Int} {l r l2 r2 : BitVec 64} (h : WLI s u p deep c l r) (E : ∀ k : Nat, gp_I u 49 k = gp_I s 49 k) (e2 : gp_I u 48 2 = gp_I s 48 2) (E2 : ∀ k : Nat, gp_I t 49 k = gp_I u 49 k) (h0 : 0 ≤ c) (hc : c < gp_I u 48 2) (hmv : (gp_I u 49 c.toNat = -1 ∧ to = c + 1) ∨ (gp_I u 49 c.toNat = -2 ∧ to = c - 1)) (hto : 0 ≤ to ∧ to < gp_I u 48 2) (h9 : 0 ≤ gp_I u 49 to.toNat) (hP : WPX u t c to p deep res) (hres : 0 ≤ res) (hL : l2 = if gp_I t 49 c.toNat = -1 then l ||| 1#64 <<< Int.toNat (res % 64) else l) (hR : r2 = if gp_I t 49 c.toNat = -2 then r ||| 1#64 <<< Int.toNat (res % 64) else r) : WLI s t p deep (c + 1) l2 r2 := by
  have a := E c.toNat
  have b := E to.toNat
  have d := E2 c.toNat
  rw [d, a] at hL hR
  rw [a] at hmv
  rw [b] at h9
  exact WLI_b h h0 (by omega) e2 E hmv (by omega) h9 hP hres hL hR
theorem WSX_f2 {s u t : gH} {p deep c to res : Int} {l r : BitVec 64} (h : WLI s u p deep c l r) (E : ∀ k : Nat, gp_I u 49 k = gp_I s 49 k) (e2 : gp_I u 48 2 = gp_I s 48 2) (h0 : 0 ≤ c) (hc : c < gp_I u 48 2) (hmv : (gp_I u 49 c.toNat = -1 ∧ to = c + 1) ∨ (gp_I u 49 c.toNat = -2 ∧ to = c - 1)) (hto : 0 ≤ to ∧ to < gp_I u 48 2) (h9 : 0 ≤ gp_I u 49 to.toNat) (hP : WPX u t c to p deep res) (hres : res < 0) : WSX s t p deep (-1) := by
  have a := E c.toNat
  have b := E to.toNat
  rw [a] at hmv
  rw [b] at h9
  exact WSX_f h h0 (by omega) e2 E hmv (by omega) h9 hP hres
theorem CEQ_sp {s u1 t1 t : gH} {a b : Nat} {st ga : Int} (h : ∀ k : Nat, gp_I t1 49 k = gp_I u1 49 k) (e1 : u1 = gp_wI (gp_wI s 49 b st) 49 a 0) (e2 : t = gp_wI (gp_wI t1 49 a st) 49 b ga) (hst : st = gp_I s 49 a) (hga : ga = gp_I s 49 b) : ∀ k : Nat, gp_I t 49 k = gp_I s 49 k := fun k => by
  rw [e2, gz_rwi, gz_rwi]
  by_cases c : k = b
  · rw [if_pos c, c, hga]
  · rw [if_neg c]
    by_cases d : k = a
    · rw [if_pos d, d, hst]
    · rw [if_neg d, h k, e1, gz_rwi, gz_rwi, if_neg d, if_neg c]
theorem FWQ_s {f : Nat → Int} {v : Int} (h : ∀ k : Nat, (k : Int) < v → okb (f k)) (h0 : 0 ≤ v) (hx : okb (f v.toNat)) : ∀ k : Nat, (k : Int) < v + 1 → okb (f k) := fun k hk => by
  by_cases c : k = v.toNat
  · rw [c]; exact hx
  · exact h k (by omega)
theorem FWQ_o {f : Nat → Int} {n v : Int} (h : ∀ k : Nat, (k : Int) < v → okb (f k)) (h0 : 0 ≤ v) (h1 : v ≤ n) (h8 : v ≤ 8) (hx : v = n ∨ v = 8 ∨ ¬ (f v.toNat = 108 ∨ f v.toNat = 114 ∨ (48 ≤ f v.toNat ∧ f v.toNat ≤ 57))) : FWQ f n v := ⟨h0, h1, h8, h, hx⟩
theorem STP_bad {f : Nat → Int} {n p0 q r : Int} (h : FWQ f n q) (hp : 0 ≤ p0 ∧ p0 ≤ 7) (hq : ¬ (q = n ∧ 1 ≤ n)) (hr : r = -10 - q) : STP f n p0 r := Or.inr ⟨hp, q, h, Or.inl ⟨hq, hr⟩⟩
theorem STP_full {f : Nat → Int} {n p0 q r : Int} (h : FWQ f n q) (hp : 0 ≤ p0 ∧ p0 ≤ 7) (hq : q = n ∧ 1 ≤ n) (hw : WLQ f n.toNat (-1)) (hr : r = -1000000004) : STP f n p0 r := Or.inr ⟨hp, q, h, Or.inr ⟨hq.1, hq.2, -1, hw, by rw [if_pos rfl]; exact hr⟩⟩
theorem STP_held {f : Nat → Int} {n p0 q r v : Int} (h : FWQ f n q) (hp : 0 ≤ p0 ∧ p0 ≤ 7) (hq : q = n ∧ 1 ≤ n) (hw : WLQ f n.toNat v) (hv : 0 ≤ v) (hr : r = v) : STP f n p0 r := Or.inr ⟨hp, q, h, Or.inr ⟨hq.1, hq.2, v, hw, by rw [if_neg (by omega)]; exact hr⟩⟩
theorem FDX_e {a : Nat} {b : BitVec 64 → Int → Int} {s t u : gH} {n0 v p1 : Int} {p0 : BitVec 64} (h : FDL a b s t n0 p0 v) (hv : v = p1) (hu : ∀ k : Nat, gp_I u a k = gp_I t a k) (c : (1 ≤ p1 ∧ p1 ≤ 8) ∧ n0 + p1 ≤ 100) : FDX a b s u n0 p0 p1 := FDX_y (fun k => by rw [hu k, h k, hv]) c
theorem PKI_s2 {s u : gH} {i y : Int} {v w : BitVec 64} (h : PKI (fun j => gp_I s 82 j) i v) (E : ∀ k : Nat, gp_I u 82 k = gp_I s 82 k) (h0 : 0 ≤ i) (h8 : i < 8) (hw : w = wt v i y) (hy : (gp_I u 82 i.toNat = 108 ∧ y = 10) ∨ (gp_I u 82 i.toNat = 114 ∧ y = 11) ∨ (48 ≤ gp_I u 82 i.toNat ∧ gp_I u 82 i.toNat ≤ 57 ∧ y = gp_I u 82 i.toNat - 48)) : PKI (fun j => gp_I s 82 j) (i + 1) w := by
  rw [E] at hy
  refine PKI_s (x := 0) h h0 h8 ?_ ?_ hw
  · show okb (gp_I s 82 i.toNat)
    unfold okb; omega
  · show y = if gp_I s 82 i.toNat = 108 then 10 else if gp_I s 82 i.toNat = 114 then 11 else gp_I s 82 i.toNat - 48
    rcases hy with ⟨a, b⟩ | ⟨a, b⟩ | ⟨a, b, c⟩
    · rw [if_pos a, b]
    · rw [if_neg (by omega), if_pos a, b]
    · rw [if_neg (by omega), if_neg (by omega), c]
theorem FWQ_p {s u : gH} {n q : Int} {v : BitVec 64} (h : PKI (fun j => gp_I s 82 j) q v) (E : ∀ k : Nat, gp_I u 82 k = gp_I s 82 k) (h0 : 0 ≤ q) (h1 : q ≤ n) (h8 : q ≤ 8) (hx : q = n ∨ q = 8 ∨ ¬ (gp_I u 82 q.toNat = 108 ∨ gp_I u 82 q.toNat = 114 ∨ (48 ≤ gp_I u 82 q.toNat ∧ gp_I u 82 q.toNat ≤ 57))) : FWQ (fun j => gp_I s 82 j) n q := by
  rw [E] at hx
  exact ⟨h0, h1, h8, fun k hk => (h k hk).1, hx⟩
theorem RWU_F {u : gH} {g : Nat → Int} {n : Int} {v : BitVec 64} (h : RWU u g n v) : FWQ g n n := ⟨by have := h.2.1; omega, Int.le_refl _, h.2.2.1, fun k hk => (h.2.2.2.1 k hk).1, Or.inl rfl⟩
def WLZ (L : Nat) (t : gH) (f : Nat → Int) (n : Nat) (x : Option Nat) : Prop := ∃ v, WLQ f n v ∧ ((x = none ∧ v = -1) ∨ ∃ a m, x = some a ∧ kT L t a m ∧ v = (m : Nat))
theorem WLZ_n {L : Nat} {t : gH} {f : Nat → Int} {n : Nat} {x : Option Nat} {w : Int} (h : 0 ≤ w ∨ WLZ L t f n x) (hw : w < 0) (hx : x = none) : WLQ f n (-1) := by
  rcases h with q | ⟨v, a, b⟩
  · omega
  · rcases b with ⟨b1, b2⟩ | ⟨c, m, b1, b2, b3⟩
    · rw [b2] at a; exact a
    · rw [hx] at b1; cases b1
theorem WLZ_s {L : Nat} {t : gH} {f : Nat → Int} {n c m : Nat} {x : Option Nat} {w : Int} (h : 0 ≤ w ∨ WLZ L t f n x) (hw : w < 0) (hx : x = some c) (hk : kT L t c m) : WLQ f n (m : Nat) := by
  rcases h with q | ⟨v, a, b⟩
  · omega
  · rcases b with ⟨b1, b2⟩ | ⟨c2, m2, b1, b2, b3⟩
    · rw [hx] at b1; cases b1
    · rw [hx] at b1
      injection b1 with b1
      subst b1
      have : m2 = m := b2.2.2.symm.trans hk.2.2
      rw [b3, this] at a
      exact a
def WSB (m : Nat) : Prop := ∀ (L D : Nat) (K : Option gV → gH → Prop) (s : gH)  (p0 : Int) (p1 : Int), ((2 * m + 6 ≤ D)) → (XI L 0 s) → (0 ≤ p1 ∧ p1 ≤ 21) → (PO s) → (KN s) → (S2P s) → (DSA s) → (22 ≤ p1 + m) → (∀ (r : Int), ∀ (t : gH), XI L 0 t → gX L false [8, 9, 10, 11, 12, 13, 14, 49, 50, 1196] s t → ((-1) ≤ r ∧ r ≤ 59) → (PO t) → (KN t) → (gp_I s 6 4 ≤ gp_I t 6 4) → (r < gp_I t 6 4) → (S2P t) → (DSA t) → (∀ k : Nat, gp_I t 49 k = gp_I s 49 k) → (WSX s t p0 p1 r) → K (some (gp_i r)) t) → gs_C L D 2563 12 [gp_r (some 48), gp_i p0, gp_i p1] s K
def WPB (m : Nat) : Prop := ∀ (L D : Nat) (K : Option gV → gH → Prop) (s : gH)  (p0 : Int) (p1 : Int) (p2 : Int) (p3 : Int), ((2 * m + 7 ≤ D)) → (XI L 0 s) → (0 ≤ p0 ∧ p0 ≤ 7) → (0 ≤ p1 ∧ p1 ≤ 7) → (0 ≤ p3 ∧ p3 ≤ 20) → (PO s) → (KN s) → (S2P s) → (DSA s) → (21 ≤ p3 + m) → (∀ (r : Int), ∀ (t : gH), XI L 0 t → gX L false [8, 9, 10, 11, 12, 13, 14, 49, 50, 1196] s t → ((-1) ≤ r ∧ r ≤ 59) → (PO t) → (KN t) → (gp_I s 6 4 ≤ gp_I t 6 4) → (r < gp_I t 6 4) → (S2P t) → (DSA t) → (∀ k : Nat, gp_I t 49 k = gp_I s 49 k) → (WPX s t p0 p1 p2 p3 r) → K (some (gp_i r)) t) → gs_C L D 2564 8 [gp_r (some 48), gp_i p0, gp_i p1, gp_i p2, gp_i p3] s K
set_option maxRecDepth 100000 in
/-- Walker.stand -/
theorem xm_wstandX (m : Nat) (ihP : WPB m) : WSB (m + 1) := by
  intro L D K s p0 p1 hD hs h_p1 q0 q1 q2 q3 q4 k
  obtain ⟨d, rfl⟩ : ∃ d, D = d + 6 := ⟨D - 6, by omega⟩
  have f_1 := xr6_4 hs
  have f_2 := xr48_2 hs
  refine s_2563_e _ _ ?_
  have lp_3 : ∀ (n_3 : Nat) (v3_3 : Int) (v4_3 : Int) (v5_3 : Int) (v6_3 : gV) (v7_3 : gV) (v8_3 : gV) (v9_3 : gV) (v10_3 : gV) (v11_3 : gV), ((-2147483648) ≤ v3_3 ∧ v3_3 ≤ 2147483647) → ((-2147483648) ≤ v4_3 ∧ v4_3 ≤ 2147483647) → (0 ≤ v5_3 ∧ v5_3 ≤ 8) → (sbN v3_3 v5_3) → (MKI (fun j => gp_I s 49 j) v5_3 v3_3) → (LYI (fun j => gp_I s 49 j) v5_3 v4_3) → (v5_3 ≤ gp_I s 48 2) → (9 - v5_3).toNat < n_3 → gs_E L (d + 6) 2563 8 [gp_r (some 48), gp_i p0, gp_i p1, gp_i v3_3, gp_i v4_3, gp_i v5_3, v6_3, v7_3, v8_3, v9_3, v10_3, v11_3] [] s K := by
    intro n_3
    induction n_3 with
    | zero => intro v3_3 v4_3 v5_3 v6_3 v7_3 v8_3 v9_3 v10_3 v11_3 hv3_3 hv4_3 hv5_3 iv0_3 iv1_3 iv2_3 iv3_3 hm_3; exact absurd hm_3 (Nat.not_lt_zero _)
    | succ n_3 ih_3 =>
      intro v3_3 v4_3 v5_3 v6_3 v7_3 v8_3 v9_3 v10_3 v11_3 hv3_3 hv4_3 hv5_3 iv0_3 iv1_3 iv2_3 iv3_3 hm_3
      refine s_2563_8 _ _ _ _ _ _ _ _ _ _ _ ?_
      have f_4 := xr48_2 hs
      refine ⟨fun h_5 => ?_, fun h_5 => ?_⟩
      · refine ⟨by omega, ?_⟩
        have f_6 := xr49 hs (Int.toNat v5_3)
        refine ⟨fun h_7 => ?_, fun h_7 => ?_⟩
        · have w_8 := gz_shlx (1) (v5_3)
          have w_9 := gz_orx (v3_3) (gp_shl 1 v5_3)
          refine s_2563_49 _ _ _ _ _ _ _ _ _ _ _ ?_
          try rw [show gp_wr (v5_3 + 1) = v5_3 + 1 from gp_wr_id (by omega) (by omega)]
          exact ih_3 _ _ _ _ _ _ _ _ _ (by omega) (by omega) (by omega) (by first | exact sbN_y iv0_3 (by omega) (by omega) | exact sbN_n iv0_3 (by omega)) (by first | exact MKI_y iv1_3 (by omega) (by omega) (by assumption) | exact MKI_n iv1_3 (by omega) (by omega)) (by first | exact LYI_y iv2_3 (by omega) (by assumption) | exact LYI_n iv2_3 (by omega) (by omega) (by omega)) (by first | omega | assumption) (by omega)
        · refine ⟨by omega, ?_⟩
          have f_10 := xr49 hs (Int.toNat v5_3)
          have w_11 := wr_rng (v4_3 + (gp_I s 49 (Int.toNat v5_3)))
          refine s_2563_49 _ _ _ _ _ _ _ _ _ _ _ ?_
          try rw [show gp_wr (v5_3 + 1) = v5_3 + 1 from gp_wr_id (by omega) (by omega)]
          exact ih_3 _ _ _ _ _ _ _ _ _ (by omega) (by omega) (by omega) (by first | exact sbN_y iv0_3 (by omega) (by omega) | exact sbN_n iv0_3 (by omega)) (by first | exact MKI_y iv1_3 (by omega) (by omega) (by assumption) | exact MKI_n iv1_3 (by omega) (by omega)) (by first | exact LYI_y iv2_3 (by omega) (by assumption) | exact LYI_n iv2_3 (by omega) (by omega) (by omega)) (by first | omega | assumption) (by omega)
      · have hsb := sbN_i iv0_3 (by omega)
        have h5e : gp_I s 48 2 = v5_3 := by omega
        have hMK : MKI (fun j => gp_I s 49 j) (gp_I s 48 2) v3_3 := by rw [h5e]; exact iv1_3
        have hLY : LYI (fun j => gp_I s 49 j) (gp_I s 48 2) v4_3 := by rw [h5e]; exact iv2_3
        refine ⟨by omega, ?_⟩
        have f_12 := xr50 hs (Int.toNat v3_3)
        refine ⟨fun h_13 => ?_, fun h_13 => ?_⟩
        · refine ⟨fun h_14 => ?_, fun h_14 => ?_⟩
          · refine s_2563_70 _ _ _ _ _ _ _ _ _ _ _ ?_
            have hk9 := q1 (Int.toNat v3_3) (by omega)
            refine ⟨by omega, ?_⟩
            have f_15 := xr50 hs (Int.toNat v3_3)
            exact k _ s hs (gX.refl _ _ _ _) (by omega) (q0) (q1) (by first | omega | assumption) (by first | omega | assumption) (q2) (q3) (fun _ => rfl) (WSX_kn hMK rfl (by omega))
          · have lp_16 : ∀ (n_16 : Nat) (v5_16 : BitVec 64) (v7_16 : BitVec 64) (v9_16 : Int) (v10_16 : gV) (v11_16 : gV) (s_16 : gH), (XI L 0 s_16) → (gX L false [8, 9, 10, 11, 12, 13, 14, 49, 50, 1196] s s_16) → (PO s_16) → (KN s_16) → (S2P s_16) → (DSA s_16) → (0 ≤ v9_16 ∧ v9_16 ≤ 8) → (gp_I s_16 48 2 = gp_I s 48 2) → (bd v5_16 (gp_I s_16 6 4)) → (bd v7_16 (gp_I s_16 6 4)) → (gp_I s 6 4 ≤ gp_I s_16 6 4) → (WLI s s_16 p0 p1 v9_16 v5_16 v7_16) → (∀ k : Nat, gp_I s_16 49 k = gp_I s 49 k) → (gp_I s_16 48 2 = gp_I s 48 2) → (v9_16 ≤ gp_I s 48 2) → (9 - v9_16).toNat < n_16 → gs_E L (d + 6) 2563 86 [gp_r (some 48), gp_i p0, gp_i p1, gp_i v3_3, gp_i v4_3, gp_l v5_16, gp_n, gp_l v7_16, gp_n, gp_i v9_16, v10_16, v11_16] [] s_16 K := by
              intro n_16
              induction n_16 with
              | zero => intro v5_16 v7_16 v9_16 v10_16 v11_16 s_16 hs_s_16 hf_s_16 PO_s_16 KN_s_16 S2P_s_16 DSA_s_16 hv9_16 tk0_16 iv0_16 iv1_16 iv2_16 iv3_16 iv4_16 iv5_16 iv6_16 hm_16; exact absurd hm_16 (Nat.not_lt_zero _)
              | succ n_16 ih_16 =>
                intro v5_16 v7_16 v9_16 v10_16 v11_16 s_16 hs_s_16 hf_s_16 PO_s_16 KN_s_16 S2P_s_16 DSA_s_16 hv9_16 tk0_16 iv0_16 iv1_16 iv2_16 iv3_16 iv4_16 iv5_16 iv6_16 hm_16
                refine s_2563_86 _ _ _ _ _ _ _ _ _ ?_
                have f_17 := xr48_2 hs_s_16
                refine ⟨fun h_18 => ?_, fun h_18 => ?_⟩
                · refine ⟨by omega, ?_⟩
                  have f_19 := xr49 hs_s_16 (Int.toNat v9_16)
                  refine ⟨fun h_20 => ?_, fun h_20 => ?_⟩
                  · try rw [show gp_wr (v9_16 + 1) = v9_16 + 1 from gp_wr_id (by omega) (by omega)]
                    refine s_2563_133 _ _ _ _ _ _ _ _ _ _ ?_
                    refine ⟨fun h_21 => ?_, fun h_21 => ?_⟩
                    · exfalso; omega
                    · have f_22 := xr48_2 hs_s_16
                      refine ⟨fun h_23 => ?_, fun h_23 => ?_⟩
                      · refine ⟨by omega, ?_⟩
                        have f_24 := xr49 hs_s_16 (Int.toNat (v9_16 + 1))
                        refine ⟨fun h_25 => ?_, fun h_25 => ?_⟩
                        · refine s_2563_227 _ _ _ _ _ _ _ _ _ ?_
                          try rw [show gp_wr (v9_16 + 1) = v9_16 + 1 from gp_wr_id (by omega) (by omega)]
                          exact ih_16 _ _ _ _ _ _ hs_s_16 hf_s_16 PO_s_16 KN_s_16 S2P_s_16 DSA_s_16 (by omega) (by first | rfl | omega) (by first | exact bd_le iv0_16 (by omega) | (refine bd_or (bd_le iv0_16 ?_) (bd_sh ?_ ?_ ?_) <;> omega) | (refine bd_or (bd_le iv0_16 ?_) (bd_0 _); omega)) (by first | exact bd_le iv1_16 (by omega) | (refine bd_or (bd_le iv1_16 ?_) (bd_sh ?_ ?_ ?_) <;> omega) | (refine bd_or (bd_le iv1_16 ?_) (bd_0 _); omega)) (by first | omega | assumption) (by first | exact WLI_a2 iv3_16 iv4_16 iv5_16 (by omega) (by omega) (by omega) (by omega) | exact WLI_b2 iv3_16 iv4_16 iv5_16 hE2 (by omega) (by omega) (by omega) (by omega) (by omega) hP9 (by omega) (by first | (rw [if_pos (by omega)]; done) | (rw [if_neg (by omega)]; simp; done)) (by first | (rw [if_pos (by omega)]; done) | (rw [if_neg (by omega)]; simp; done))) (by first | exact iv4_16 | exact fun k => (hE2 k).trans (iv4_16 k)) (by first | omega | assumption) (by first | omega | assumption) (by omega)
                        · refine ihP _ _ _ _ _ _ _ _ (by omega) hs_s_16 (by omega) (by omega) (by omega) (PO_s_16) (KN_s_16) (S2P_s_16) (DSA_s_16) (by first | omega | assumption) (fun x_26 s_27 hs_28 hf_29 p_30 p_31 p_32 p_33 p_34 p_35 p_36 p_37 p_38 => ⟨_, rfl, ?_⟩)
                          have hf_39 : gX L false [8, 9, 10, 11, 12, 13, 14, 49, 50, 1196] s s_27 := gX.trans hf_s_16 hf_29 rfl rfl
                          have q_40 : gp_I s_27 48 2 = gp_I s_16 48 2 := (hf_29.2.2.1 48 2 (by decide) (by decide) rfl).1
                          have hE2 := p_37
                          have hP9 := p_38
                          refine ⟨fun h_41 => ?_, fun h_41 => ?_⟩
                          · exact k _ s_27 hs_28 hf_39 (by omega) (p_31) (p_32) (by first | omega | assumption) (by first | omega | assumption) (p_35) (p_36) (fun k => (hE2 k).trans (iv4_16 k)) (WSX_f2 iv3_16 iv4_16 iv5_16 (by omega) (by omega) (by omega) (by omega) (by omega) hP9 (by omega))
                          · refine ⟨by omega, ?_⟩
                            have f_42 := xr49 hs_28 (Int.toNat v9_16)
                            refine ⟨fun h_43 => ?_, fun h_43 => ?_⟩
                            · refine s_2563_199 _ _ _ _ _ _ _ _ _ _ _ ?_
                              refine ⟨by omega, ?_⟩
                              have f_44 := xr49 hs_28 (Int.toNat v9_16)
                              refine ⟨fun h_45 => ?_, fun h_45 => ?_⟩
                              · refine s_2563_224 _ _ _ _ _ _ _ _ _ _ _ ?_
                                refine s_2563_227 _ _ _ _ _ _ _ _ _ ?_
                                try rw [show gp_wr (v9_16 + 1) = v9_16 + 1 from gp_wr_id (by omega) (by omega)]
                                exact ih_16 _ _ _ _ _ _ hs_28 hf_39 p_31 p_32 p_35 p_36 (by omega) (by first | rfl | omega) (by first | exact bd_le iv0_16 (by omega) | (refine bd_or (bd_le iv0_16 ?_) (bd_sh ?_ ?_ ?_) <;> omega) | (refine bd_or (bd_le iv0_16 ?_) (bd_0 _); omega)) (by first | exact bd_le iv1_16 (by omega) | (refine bd_or (bd_le iv1_16 ?_) (bd_sh ?_ ?_ ?_) <;> omega) | (refine bd_or (bd_le iv1_16 ?_) (bd_0 _); omega)) (by first | omega | assumption) (by first | exact WLI_a2 iv3_16 iv4_16 iv5_16 (by omega) (by omega) (by omega) (by omega) | exact WLI_b2 iv3_16 iv4_16 iv5_16 hE2 (by omega) (by omega) (by omega) (by omega) (by omega) hP9 (by omega) (by first | (rw [if_pos (by omega)]; done) | (rw [if_neg (by omega)]; simp; done)) (by first | (rw [if_pos (by omega)]; done) | (rw [if_neg (by omega)]; simp; done))) (by first | exact iv4_16 | exact fun k => (hE2 k).trans (iv4_16 k)) (by first | omega | assumption) (by first | omega | assumption) (by omega)
                              · refine s_2563_224 _ _ _ _ _ _ _ _ _ _ _ ?_
                                refine s_2563_227 _ _ _ _ _ _ _ _ _ ?_
                                try rw [show gp_wr (v9_16 + 1) = v9_16 + 1 from gp_wr_id (by omega) (by omega)]
                                exact ih_16 _ _ _ _ _ _ hs_28 hf_39 p_31 p_32 p_35 p_36 (by omega) (by first | rfl | omega) (by first | exact bd_le iv0_16 (by omega) | (refine bd_or (bd_le iv0_16 ?_) (bd_sh ?_ ?_ ?_) <;> omega) | (refine bd_or (bd_le iv0_16 ?_) (bd_0 _); omega)) (by first | exact bd_le iv1_16 (by omega) | (refine bd_or (bd_le iv1_16 ?_) (bd_sh ?_ ?_ ?_) <;> omega) | (refine bd_or (bd_le iv1_16 ?_) (bd_0 _); omega)) (by first | omega | assumption) (by first | exact WLI_a2 iv3_16 iv4_16 iv5_16 (by omega) (by omega) (by omega) (by omega) | exact WLI_b2 iv3_16 iv4_16 iv5_16 hE2 (by omega) (by omega) (by omega) (by omega) (by omega) hP9 (by omega) (by first | (rw [if_pos (by omega)]; done) | (rw [if_neg (by omega)]; simp; done)) (by first | (rw [if_pos (by omega)]; done) | (rw [if_neg (by omega)]; simp; done))) (by first | exact iv4_16 | exact fun k => (hE2 k).trans (iv4_16 k)) (by first | omega | assumption) (by first | omega | assumption) (by omega)
                            · refine s_2563_199 _ _ _ _ _ _ _ _ _ _ _ ?_
                              refine ⟨by omega, ?_⟩
                              have f_46 := xr49 hs_28 (Int.toNat v9_16)
                              refine ⟨fun h_47 => ?_, fun h_47 => ?_⟩
                              · refine s_2563_224 _ _ _ _ _ _ _ _ _ _ _ ?_
                                refine s_2563_227 _ _ _ _ _ _ _ _ _ ?_
                                try rw [show gp_wr (v9_16 + 1) = v9_16 + 1 from gp_wr_id (by omega) (by omega)]
                                exact ih_16 _ _ _ _ _ _ hs_28 hf_39 p_31 p_32 p_35 p_36 (by omega) (by first | rfl | omega) (by first | exact bd_le iv0_16 (by omega) | (refine bd_or (bd_le iv0_16 ?_) (bd_sh ?_ ?_ ?_) <;> omega) | (refine bd_or (bd_le iv0_16 ?_) (bd_0 _); omega)) (by first | exact bd_le iv1_16 (by omega) | (refine bd_or (bd_le iv1_16 ?_) (bd_sh ?_ ?_ ?_) <;> omega) | (refine bd_or (bd_le iv1_16 ?_) (bd_0 _); omega)) (by first | omega | assumption) (by first | exact WLI_a2 iv3_16 iv4_16 iv5_16 (by omega) (by omega) (by omega) (by omega) | exact WLI_b2 iv3_16 iv4_16 iv5_16 hE2 (by omega) (by omega) (by omega) (by omega) (by omega) hP9 (by omega) (by first | (rw [if_pos (by omega)]; done) | (rw [if_neg (by omega)]; simp; done)) (by first | (rw [if_pos (by omega)]; done) | (rw [if_neg (by omega)]; simp; done))) (by first | exact iv4_16 | exact fun k => (hE2 k).trans (iv4_16 k)) (by first | omega | assumption) (by first | omega | assumption) (by omega)
                              · refine s_2563_224 _ _ _ _ _ _ _ _ _ _ _ ?_
                                refine s_2563_227 _ _ _ _ _ _ _ _ _ ?_
                                try rw [show gp_wr (v9_16 + 1) = v9_16 + 1 from gp_wr_id (by omega) (by omega)]
                                exact ih_16 _ _ _ _ _ _ hs_28 hf_39 p_31 p_32 p_35 p_36 (by omega) (by first | rfl | omega) (by first | exact bd_le iv0_16 (by omega) | (refine bd_or (bd_le iv0_16 ?_) (bd_sh ?_ ?_ ?_) <;> omega) | (refine bd_or (bd_le iv0_16 ?_) (bd_0 _); omega)) (by first | exact bd_le iv1_16 (by omega) | (refine bd_or (bd_le iv1_16 ?_) (bd_sh ?_ ?_ ?_) <;> omega) | (refine bd_or (bd_le iv1_16 ?_) (bd_0 _); omega)) (by first | omega | assumption) (by first | exact WLI_a2 iv3_16 iv4_16 iv5_16 (by omega) (by omega) (by omega) (by omega) | exact WLI_b2 iv3_16 iv4_16 iv5_16 hE2 (by omega) (by omega) (by omega) (by omega) (by omega) hP9 (by omega) (by first | (rw [if_pos (by omega)]; done) | (rw [if_neg (by omega)]; simp; done)) (by first | (rw [if_pos (by omega)]; done) | (rw [if_neg (by omega)]; simp; done))) (by first | exact iv4_16 | exact fun k => (hE2 k).trans (iv4_16 k)) (by first | omega | assumption) (by first | omega | assumption) (by omega)
                      · refine s_2563_227 _ _ _ _ _ _ _ _ _ ?_
                        try rw [show gp_wr (v9_16 + 1) = v9_16 + 1 from gp_wr_id (by omega) (by omega)]
                        exact ih_16 _ _ _ _ _ _ hs_s_16 hf_s_16 PO_s_16 KN_s_16 S2P_s_16 DSA_s_16 (by omega) (by first | rfl | omega) (by first | exact bd_le iv0_16 (by omega) | (refine bd_or (bd_le iv0_16 ?_) (bd_sh ?_ ?_ ?_) <;> omega) | (refine bd_or (bd_le iv0_16 ?_) (bd_0 _); omega)) (by first | exact bd_le iv1_16 (by omega) | (refine bd_or (bd_le iv1_16 ?_) (bd_sh ?_ ?_ ?_) <;> omega) | (refine bd_or (bd_le iv1_16 ?_) (bd_0 _); omega)) (by first | omega | assumption) (by first | exact WLI_a2 iv3_16 iv4_16 iv5_16 (by omega) (by omega) (by omega) (by omega) | exact WLI_b2 iv3_16 iv4_16 iv5_16 hE2 (by omega) (by omega) (by omega) (by omega) (by omega) hP9 (by omega) (by first | (rw [if_pos (by omega)]; done) | (rw [if_neg (by omega)]; simp; done)) (by first | (rw [if_pos (by omega)]; done) | (rw [if_neg (by omega)]; simp; done))) (by first | exact iv4_16 | exact fun k => (hE2 k).trans (iv4_16 k)) (by first | omega | assumption) (by first | omega | assumption) (by omega)
                  · refine ⟨by omega, ?_⟩
                    have f_48 := xr49 hs_s_16 (Int.toNat v9_16)
                    refine ⟨fun h_49 => ?_, fun h_49 => ?_⟩
                    · try rw [show gp_wr (v9_16 - 1) = v9_16 - 1 from gp_wr_id (by omega) (by omega)]
                      refine s_2563_133 _ _ _ _ _ _ _ _ _ _ ?_
                      refine ⟨fun h_50 => ?_, fun h_50 => ?_⟩
                      · refine s_2563_227 _ _ _ _ _ _ _ _ _ ?_
                        try rw [show gp_wr (v9_16 + 1) = v9_16 + 1 from gp_wr_id (by omega) (by omega)]
                        exact ih_16 _ _ _ _ _ _ hs_s_16 hf_s_16 PO_s_16 KN_s_16 S2P_s_16 DSA_s_16 (by omega) (by first | rfl | omega) (by first | exact bd_le iv0_16 (by omega) | (refine bd_or (bd_le iv0_16 ?_) (bd_sh ?_ ?_ ?_) <;> omega) | (refine bd_or (bd_le iv0_16 ?_) (bd_0 _); omega)) (by first | exact bd_le iv1_16 (by omega) | (refine bd_or (bd_le iv1_16 ?_) (bd_sh ?_ ?_ ?_) <;> omega) | (refine bd_or (bd_le iv1_16 ?_) (bd_0 _); omega)) (by first | omega | assumption) (by first | exact WLI_a2 iv3_16 iv4_16 iv5_16 (by omega) (by omega) (by omega) (by omega) | exact WLI_b2 iv3_16 iv4_16 iv5_16 hE2 (by omega) (by omega) (by omega) (by omega) (by omega) hP9 (by omega) (by first | (rw [if_pos (by omega)]; done) | (rw [if_neg (by omega)]; simp; done)) (by first | (rw [if_pos (by omega)]; done) | (rw [if_neg (by omega)]; simp; done))) (by first | exact iv4_16 | exact fun k => (hE2 k).trans (iv4_16 k)) (by first | omega | assumption) (by first | omega | assumption) (by omega)
                      · have f_51 := xr48_2 hs_s_16
                        refine ⟨fun h_52 => ?_, fun h_52 => ?_⟩
                        · refine ⟨by omega, ?_⟩
                          have f_53 := xr49 hs_s_16 (Int.toNat (v9_16 - 1))
                          refine ⟨fun h_54 => ?_, fun h_54 => ?_⟩
                          · refine s_2563_227 _ _ _ _ _ _ _ _ _ ?_
                            try rw [show gp_wr (v9_16 + 1) = v9_16 + 1 from gp_wr_id (by omega) (by omega)]
                            exact ih_16 _ _ _ _ _ _ hs_s_16 hf_s_16 PO_s_16 KN_s_16 S2P_s_16 DSA_s_16 (by omega) (by first | rfl | omega) (by first | exact bd_le iv0_16 (by omega) | (refine bd_or (bd_le iv0_16 ?_) (bd_sh ?_ ?_ ?_) <;> omega) | (refine bd_or (bd_le iv0_16 ?_) (bd_0 _); omega)) (by first | exact bd_le iv1_16 (by omega) | (refine bd_or (bd_le iv1_16 ?_) (bd_sh ?_ ?_ ?_) <;> omega) | (refine bd_or (bd_le iv1_16 ?_) (bd_0 _); omega)) (by first | omega | assumption) (by first | exact WLI_a2 iv3_16 iv4_16 iv5_16 (by omega) (by omega) (by omega) (by omega) | exact WLI_b2 iv3_16 iv4_16 iv5_16 hE2 (by omega) (by omega) (by omega) (by omega) (by omega) hP9 (by omega) (by first | (rw [if_pos (by omega)]; done) | (rw [if_neg (by omega)]; simp; done)) (by first | (rw [if_pos (by omega)]; done) | (rw [if_neg (by omega)]; simp; done))) (by first | exact iv4_16 | exact fun k => (hE2 k).trans (iv4_16 k)) (by first | omega | assumption) (by first | omega | assumption) (by omega)
                          · refine ihP _ _ _ _ _ _ _ _ (by omega) hs_s_16 (by omega) (by omega) (by omega) (PO_s_16) (KN_s_16) (S2P_s_16) (DSA_s_16) (by first | omega | assumption) (fun x_55 s_56 hs_57 hf_58 p_59 p_60 p_61 p_62 p_63 p_64 p_65 p_66 p_67 => ⟨_, rfl, ?_⟩)
                            have hf_68 : gX L false [8, 9, 10, 11, 12, 13, 14, 49, 50, 1196] s s_56 := gX.trans hf_s_16 hf_58 rfl rfl
                            have q_69 : gp_I s_56 48 2 = gp_I s_16 48 2 := (hf_58.2.2.1 48 2 (by decide) (by decide) rfl).1
                            have hE2 := p_66
                            have hP9 := p_67
                            refine ⟨fun h_70 => ?_, fun h_70 => ?_⟩
                            · exact k _ s_56 hs_57 hf_68 (by omega) (p_60) (p_61) (by first | omega | assumption) (by first | omega | assumption) (p_64) (p_65) (fun k => (hE2 k).trans (iv4_16 k)) (WSX_f2 iv3_16 iv4_16 iv5_16 (by omega) (by omega) (by omega) (by omega) (by omega) hP9 (by omega))
                            · refine ⟨by omega, ?_⟩
                              have f_71 := xr49 hs_57 (Int.toNat v9_16)
                              refine ⟨fun h_72 => ?_, fun h_72 => ?_⟩
                              · refine s_2563_199 _ _ _ _ _ _ _ _ _ _ _ ?_
                                refine ⟨by omega, ?_⟩
                                have f_73 := xr49 hs_57 (Int.toNat v9_16)
                                refine ⟨fun h_74 => ?_, fun h_74 => ?_⟩
                                · refine s_2563_224 _ _ _ _ _ _ _ _ _ _ _ ?_
                                  refine s_2563_227 _ _ _ _ _ _ _ _ _ ?_
                                  try rw [show gp_wr (v9_16 + 1) = v9_16 + 1 from gp_wr_id (by omega) (by omega)]
                                  exact ih_16 _ _ _ _ _ _ hs_57 hf_68 p_60 p_61 p_64 p_65 (by omega) (by first | rfl | omega) (by first | exact bd_le iv0_16 (by omega) | (refine bd_or (bd_le iv0_16 ?_) (bd_sh ?_ ?_ ?_) <;> omega) | (refine bd_or (bd_le iv0_16 ?_) (bd_0 _); omega)) (by first | exact bd_le iv1_16 (by omega) | (refine bd_or (bd_le iv1_16 ?_) (bd_sh ?_ ?_ ?_) <;> omega) | (refine bd_or (bd_le iv1_16 ?_) (bd_0 _); omega)) (by first | omega | assumption) (by first | exact WLI_a2 iv3_16 iv4_16 iv5_16 (by omega) (by omega) (by omega) (by omega) | exact WLI_b2 iv3_16 iv4_16 iv5_16 hE2 (by omega) (by omega) (by omega) (by omega) (by omega) hP9 (by omega) (by first | (rw [if_pos (by omega)]; done) | (rw [if_neg (by omega)]; simp; done)) (by first | (rw [if_pos (by omega)]; done) | (rw [if_neg (by omega)]; simp; done))) (by first | exact iv4_16 | exact fun k => (hE2 k).trans (iv4_16 k)) (by first | omega | assumption) (by first | omega | assumption) (by omega)
                                · refine s_2563_224 _ _ _ _ _ _ _ _ _ _ _ ?_
                                  refine s_2563_227 _ _ _ _ _ _ _ _ _ ?_
                                  try rw [show gp_wr (v9_16 + 1) = v9_16 + 1 from gp_wr_id (by omega) (by omega)]
                                  exact ih_16 _ _ _ _ _ _ hs_57 hf_68 p_60 p_61 p_64 p_65 (by omega) (by first | rfl | omega) (by first | exact bd_le iv0_16 (by omega) | (refine bd_or (bd_le iv0_16 ?_) (bd_sh ?_ ?_ ?_) <;> omega) | (refine bd_or (bd_le iv0_16 ?_) (bd_0 _); omega)) (by first | exact bd_le iv1_16 (by omega) | (refine bd_or (bd_le iv1_16 ?_) (bd_sh ?_ ?_ ?_) <;> omega) | (refine bd_or (bd_le iv1_16 ?_) (bd_0 _); omega)) (by first | omega | assumption) (by first | exact WLI_a2 iv3_16 iv4_16 iv5_16 (by omega) (by omega) (by omega) (by omega) | exact WLI_b2 iv3_16 iv4_16 iv5_16 hE2 (by omega) (by omega) (by omega) (by omega) (by omega) hP9 (by omega) (by first | (rw [if_pos (by omega)]; done) | (rw [if_neg (by omega)]; simp; done)) (by first | (rw [if_pos (by omega)]; done) | (rw [if_neg (by omega)]; simp; done))) (by first | exact iv4_16 | exact fun k => (hE2 k).trans (iv4_16 k)) (by first | omega | assumption) (by first | omega | assumption) (by omega)
                              · refine s_2563_199 _ _ _ _ _ _ _ _ _ _ _ ?_
                                refine ⟨by omega, ?_⟩
                                have f_75 := xr49 hs_57 (Int.toNat v9_16)
                                refine ⟨fun h_76 => ?_, fun h_76 => ?_⟩
                                · refine s_2563_224 _ _ _ _ _ _ _ _ _ _ _ ?_
                                  refine s_2563_227 _ _ _ _ _ _ _ _ _ ?_
                                  try rw [show gp_wr (v9_16 + 1) = v9_16 + 1 from gp_wr_id (by omega) (by omega)]
                                  exact ih_16 _ _ _ _ _ _ hs_57 hf_68 p_60 p_61 p_64 p_65 (by omega) (by first | rfl | omega) (by first | exact bd_le iv0_16 (by omega) | (refine bd_or (bd_le iv0_16 ?_) (bd_sh ?_ ?_ ?_) <;> omega) | (refine bd_or (bd_le iv0_16 ?_) (bd_0 _); omega)) (by first | exact bd_le iv1_16 (by omega) | (refine bd_or (bd_le iv1_16 ?_) (bd_sh ?_ ?_ ?_) <;> omega) | (refine bd_or (bd_le iv1_16 ?_) (bd_0 _); omega)) (by first | omega | assumption) (by first | exact WLI_a2 iv3_16 iv4_16 iv5_16 (by omega) (by omega) (by omega) (by omega) | exact WLI_b2 iv3_16 iv4_16 iv5_16 hE2 (by omega) (by omega) (by omega) (by omega) (by omega) hP9 (by omega) (by first | (rw [if_pos (by omega)]; done) | (rw [if_neg (by omega)]; simp; done)) (by first | (rw [if_pos (by omega)]; done) | (rw [if_neg (by omega)]; simp; done))) (by first | exact iv4_16 | exact fun k => (hE2 k).trans (iv4_16 k)) (by first | omega | assumption) (by first | omega | assumption) (by omega)
                                · refine s_2563_224 _ _ _ _ _ _ _ _ _ _ _ ?_
                                  refine s_2563_227 _ _ _ _ _ _ _ _ _ ?_
                                  try rw [show gp_wr (v9_16 + 1) = v9_16 + 1 from gp_wr_id (by omega) (by omega)]
                                  exact ih_16 _ _ _ _ _ _ hs_57 hf_68 p_60 p_61 p_64 p_65 (by omega) (by first | rfl | omega) (by first | exact bd_le iv0_16 (by omega) | (refine bd_or (bd_le iv0_16 ?_) (bd_sh ?_ ?_ ?_) <;> omega) | (refine bd_or (bd_le iv0_16 ?_) (bd_0 _); omega)) (by first | exact bd_le iv1_16 (by omega) | (refine bd_or (bd_le iv1_16 ?_) (bd_sh ?_ ?_ ?_) <;> omega) | (refine bd_or (bd_le iv1_16 ?_) (bd_0 _); omega)) (by first | omega | assumption) (by first | exact WLI_a2 iv3_16 iv4_16 iv5_16 (by omega) (by omega) (by omega) (by omega) | exact WLI_b2 iv3_16 iv4_16 iv5_16 hE2 (by omega) (by omega) (by omega) (by omega) (by omega) hP9 (by omega) (by first | (rw [if_pos (by omega)]; done) | (rw [if_neg (by omega)]; simp; done)) (by first | (rw [if_pos (by omega)]; done) | (rw [if_neg (by omega)]; simp; done))) (by first | exact iv4_16 | exact fun k => (hE2 k).trans (iv4_16 k)) (by first | omega | assumption) (by first | omega | assumption) (by omega)
                        · refine s_2563_227 _ _ _ _ _ _ _ _ _ ?_
                          try rw [show gp_wr (v9_16 + 1) = v9_16 + 1 from gp_wr_id (by omega) (by omega)]
                          exact ih_16 _ _ _ _ _ _ hs_s_16 hf_s_16 PO_s_16 KN_s_16 S2P_s_16 DSA_s_16 (by omega) (by first | rfl | omega) (by first | exact bd_le iv0_16 (by omega) | (refine bd_or (bd_le iv0_16 ?_) (bd_sh ?_ ?_ ?_) <;> omega) | (refine bd_or (bd_le iv0_16 ?_) (bd_0 _); omega)) (by first | exact bd_le iv1_16 (by omega) | (refine bd_or (bd_le iv1_16 ?_) (bd_sh ?_ ?_ ?_) <;> omega) | (refine bd_or (bd_le iv1_16 ?_) (bd_0 _); omega)) (by first | omega | assumption) (by first | exact WLI_a2 iv3_16 iv4_16 iv5_16 (by omega) (by omega) (by omega) (by omega) | exact WLI_b2 iv3_16 iv4_16 iv5_16 hE2 (by omega) (by omega) (by omega) (by omega) (by omega) hP9 (by omega) (by first | (rw [if_pos (by omega)]; done) | (rw [if_neg (by omega)]; simp; done)) (by first | (rw [if_pos (by omega)]; done) | (rw [if_neg (by omega)]; simp; done))) (by first | exact iv4_16 | exact fun k => (hE2 k).trans (iv4_16 k)) (by first | omega | assumption) (by first | omega | assumption) (by omega)
                    · refine s_2563_133 _ _ _ _ _ _ _ _ _ _ ?_
                      refine ⟨fun h_77 => ?_, fun h_77 => ?_⟩
                      · refine s_2563_227 _ _ _ _ _ _ _ _ _ ?_
                        try rw [show gp_wr (v9_16 + 1) = v9_16 + 1 from gp_wr_id (by omega) (by omega)]
                        exact ih_16 _ _ _ _ _ _ hs_s_16 hf_s_16 PO_s_16 KN_s_16 S2P_s_16 DSA_s_16 (by omega) (by first | rfl | omega) (by first | exact bd_le iv0_16 (by omega) | (refine bd_or (bd_le iv0_16 ?_) (bd_sh ?_ ?_ ?_) <;> omega) | (refine bd_or (bd_le iv0_16 ?_) (bd_0 _); omega)) (by first | exact bd_le iv1_16 (by omega) | (refine bd_or (bd_le iv1_16 ?_) (bd_sh ?_ ?_ ?_) <;> omega) | (refine bd_or (bd_le iv1_16 ?_) (bd_0 _); omega)) (by first | omega | assumption) (by first | exact WLI_a2 iv3_16 iv4_16 iv5_16 (by omega) (by omega) (by omega) (by omega) | exact WLI_b2 iv3_16 iv4_16 iv5_16 hE2 (by omega) (by omega) (by omega) (by omega) (by omega) hP9 (by omega) (by first | (rw [if_pos (by omega)]; done) | (rw [if_neg (by omega)]; simp; done)) (by first | (rw [if_pos (by omega)]; done) | (rw [if_neg (by omega)]; simp; done))) (by first | exact iv4_16 | exact fun k => (hE2 k).trans (iv4_16 k)) (by first | omega | assumption) (by first | omega | assumption) (by omega)
                      · exfalso; omega
                · have hKN9 := KN_s_16
                  have w_78 := wr_rng (p0 - v4_3)
                  have w_79 := wr_rng (p0 + v4_3)
                  refine xm_addX _ _ _ _ hs_s_16 (PO_s_16) (iv0_16) (iv1_16) (S2P_s_16) (DSA_s_16) (fun x_80 s_81 hs_82 hf_83 p_84 p_85 p_86 p_87 p_88 p_89 => ⟨_, rfl, ?_⟩)
                  have hf_90 : gX L false [8, 9, 10, 11, 12, 13, 14, 49, 50, 1196] s s_81 := gX.trans hf_s_16 hf_83 rfl rfl
                  have q_91 : gp_I s_81 48 2 = gp_I s_16 48 2 := (hf_83.2.2.1 48 2 (by decide) (by decide) rfl).1
                  have hKN8 : KN s_81 := KN_le hKN9 hf_83 rfl (by omega)
                  have hAD := p_88
                  have h50 := fun k : Nat => (hf_83.2.2.1 50 k (by decide) (by decide) rfl).1
                  have h49 := fun k : Nat => (hf_83.2.2.1 49 k (by decide) (by decide) rfl).1
                  refine ⟨by omega, ?_⟩
                  intro s_92 e_93
                  have hs_94 : XI L 0 s_92 := by rw [e_93]; exact xw50 hs_82 _ _ (by omega)
                  have hf_95 : gX L false [8, 9, 10, 11, 12, 13, 14, 49, 50, 1196] s s_92 := by rw [e_93]; exact gX.wI hf_90 (Or.inl rfl)
                  have q_96 : gp_I s_92 6 4 = gp_I s_81 6 4 := by rw [e_93] <;> first | rfl | exact I_ne (by omega)
                  have q_97 : gp_I s_92 48 2 = gp_I s_81 48 2 := by rw [e_93] <;> first | rfl | exact I_ne (by omega)
                  have pd_98 : PO s_92 := by rw [e_93]; exact PO_fr p_85 (gX.wI (gX.refl L true [50] _) (Or.inl rfl)) rfl rfl rfl rfl rfl rfl
                  have pd_99 : S2P s_92 := by rw [e_93]; exact S2P_fr p_87 (gX.wI (gX.refl L true [50] _) (Or.inl rfl)) rfl rfl rfl rfl rfl rfl rfl rfl
                  have pd_100 : DSA s_92 := by rw [e_93]; exact DSA_fr p_89 (gX.wI (gX.refl L true [50] _) (Or.inl rfl)) rfl rfl rfl rfl
                  have hKN7 : KN s_92 := by rw [‹s_92 = gp_wI _ 50 _ _›]; exact KN_w hKN8 (by omega)
                  have hk9 := hKN7 (Int.toNat v3_3) (by omega)
                  have h49b : ∀ k : Nat, gp_I s_92 49 k = gp_I s 49 k := fun k => (show _ = gp_I _ 49 k by rw [‹s_92 = gp_wI _ 50 _ _›]; rfl).trans ((h49 k).trans (iv4_16 k))
                  have hWM := WSX_m (s := s) iv3_16 (by omega) hMK hLY rfl rfl hAD h50 ‹s_92 = gp_wI _ 50 _ _› rfl
                  refine ⟨by omega, ?_⟩
                  have f_101 := xr50 hs_94 (Int.toNat v3_3)
                  exact k _ s_92 hs_94 hf_95 (by omega) (pd_98) (hKN7) (by first | omega | assumption) (by first | omega | assumption) (pd_99) (pd_100) (h49b) (hWM)
            exact lp_16 _ _ _ _ _ _ _ hs (gX.refl _ _ _ _) q0 q1 q2 q3 (by omega) (by first | rfl | omega) (bd_0 _) (bd_0 _) (by first | omega | assumption) (WLI_0) (fun _ => rfl) (by first | omega | assumption) (by first | omega | assumption) (Nat.lt_succ_self _)
        · refine s_2563_70 _ _ _ _ _ _ _ _ _ _ _ ?_
          have hk9 := q1 (Int.toNat v3_3) (by omega)
          refine ⟨by omega, ?_⟩
          have f_102 := xr50 hs (Int.toNat v3_3)
          exact k _ s hs (gX.refl _ _ _ _) (by omega) (q0) (q1) (by first | omega | assumption) (by first | omega | assumption) (q2) (q3) (fun _ => rfl) (WSX_kn hMK rfl (by omega))
  exact lp_3 _ _ _ _ _ _ _ _ _ _ (by omega) (by omega) (by omega) (sbN_0) (MKI_0) (LYI_0) (by first | omega | assumption) (Nat.lt_succ_self _)
set_option maxRecDepth 100000 in
/-- Walker.step -/
theorem xm_wstepX (m : Nat) (ihS : WSB m) : WPB m := by
  intro L D K s p0 p1 p2 p3 hD hs h_p0 h_p1 h_p3 q0 q1 q2 q3 q4 k
  obtain ⟨d, rfl⟩ : ∃ d, D = d + 6 := ⟨D - 6, by omega⟩
  have f_1 := xr6_4 hs
  refine s_2564_e _ _ _ _ ?_
  refine ⟨by omega, ?_⟩
  have f_2 := xr49 hs (Int.toNat p0)
  refine ⟨by omega, ?_⟩
  have f_3 := xr49 hs (Int.toNat p1)
  refine ⟨by omega, ?_⟩
  intro s_4 e_5
  have hs_6 : XI L 0 s_4 := by rw [e_5]; exact xw49 hs _ _ (by omega)
  have hf_7 : gX L false [8, 9, 10, 11, 12, 13, 14, 49, 50, 1196] s s_4 := by rw [e_5]; exact gX.wI (gX.refl _ _ _ _) (Or.inl rfl)
  have q_8 : gp_I s_4 6 4 = gp_I s 6 4 := by rw [e_5] <;> first | rfl | exact I_ne (by omega)
  have pd_9 : PO s_4 := by rw [e_5]; exact PO_fr q0 (gX.wI (gX.refl L true [49] _) (Or.inl rfl)) rfl rfl rfl rfl rfl rfl
  have pd_10 : KN s_4 := by rw [e_5]; exact KN_fr q1 (gX.wI (gX.refl L true [49] _) (Or.inl rfl)) rfl rfl
  have pd_11 : S2P s_4 := by rw [e_5]; exact S2P_fr q2 (gX.wI (gX.refl L true [49] _) (Or.inl rfl)) rfl rfl rfl rfl rfl rfl rfl rfl
  have pd_12 : DSA s_4 := by rw [e_5]; exact DSA_fr q3 (gX.wI (gX.refl L true [49] _) (Or.inl rfl)) rfl rfl rfl rfl
  refine ⟨by omega, ?_⟩
  intro s_13 e_14
  have hs_15 : XI L 0 s_13 := by rw [e_14]; exact xw49 hs_6 _ _ (by omega)
  have hf_16 : gX L false [8, 9, 10, 11, 12, 13, 14, 49, 50, 1196] s s_13 := by rw [e_14]; exact gX.wI hf_7 (Or.inl rfl)
  have q_17 : gp_I s_13 6 4 = gp_I s_4 6 4 := by rw [e_14] <;> first | rfl | exact I_ne (by omega)
  have pd_18 : PO s_13 := by rw [e_14]; exact PO_fr pd_9 (gX.wI (gX.refl L true [49] _) (Or.inl rfl)) rfl rfl rfl rfl rfl rfl
  have pd_19 : KN s_13 := by rw [e_14]; exact KN_fr pd_10 (gX.wI (gX.refl L true [49] _) (Or.inl rfl)) rfl rfl
  have pd_20 : S2P s_13 := by rw [e_14]; exact S2P_fr pd_11 (gX.wI (gX.refl L true [49] _) (Or.inl rfl)) rfl rfl rfl rfl rfl rfl rfl rfl
  have pd_21 : DSA s_13 := by rw [e_14]; exact DSA_fr pd_12 (gX.wI (gX.refl L true [49] _) (Or.inl rfl)) rfl rfl rfl rfl
  refine ⟨fun h_22 => ?_, fun h_22 => ?_⟩
  · have w_23 := wr_rng (p2 + (gp_I s 49 (Int.toNat p1)))
    refine s_2564_49 _ _ _ _ _ _ _ _ ?_
    try rw [show gp_wr (p3 + 1) = p3 + 1 from gp_wr_id (by omega) (by omega)]
    refine ihS _ _ _ _ _ _ (by omega) hs_15 (by omega) (pd_18) (pd_19) (pd_20) (pd_21) (by first | omega | assumption) (fun x_24 s_25 hs_26 hf_27 p_28 p_29 p_30 p_31 p_32 p_33 p_34 p_35 p_36 => ⟨_, rfl, ?_⟩)
    have hf_37 : gX L false [8, 9, 10, 11, 12, 13, 14, 49, 50, 1196] s s_25 := gX.trans hf_16 hf_27 rfl rfl
    have hE9 := p_35
    have hW9 := p_36
    refine ⟨by omega, ?_⟩
    intro s_38 e_39
    have hs_40 : XI L 0 s_38 := by rw [e_39]; exact xw49 hs_26 _ _ (by omega)
    have hf_41 : gX L false [8, 9, 10, 11, 12, 13, 14, 49, 50, 1196] s s_38 := by rw [e_39]; exact gX.wI hf_37 (Or.inl rfl)
    have q_42 : gp_I s_38 6 4 = gp_I s_25 6 4 := by rw [e_39] <;> first | rfl | exact I_ne (by omega)
    have pd_43 : PO s_38 := by rw [e_39]; exact PO_fr p_29 (gX.wI (gX.refl L true [49] _) (Or.inl rfl)) rfl rfl rfl rfl rfl rfl
    have pd_44 : KN s_38 := by rw [e_39]; exact KN_fr p_30 (gX.wI (gX.refl L true [49] _) (Or.inl rfl)) rfl rfl
    have pd_45 : S2P s_38 := by rw [e_39]; exact S2P_fr p_33 (gX.wI (gX.refl L true [49] _) (Or.inl rfl)) rfl rfl rfl rfl rfl rfl rfl rfl
    have pd_46 : DSA s_38 := by rw [e_39]; exact DSA_fr p_34 (gX.wI (gX.refl L true [49] _) (Or.inl rfl)) rfl rfl rfl rfl
    refine ⟨by omega, ?_⟩
    intro s_47 e_48
    have hs_49 : XI L 0 s_47 := by rw [e_48]; exact xw49 hs_40 _ _ (by omega)
    have hf_50 : gX L false [8, 9, 10, 11, 12, 13, 14, 49, 50, 1196] s s_47 := by rw [e_48]; exact gX.wI hf_41 (Or.inl rfl)
    have q_51 : gp_I s_47 6 4 = gp_I s_38 6 4 := by rw [e_48] <;> first | rfl | exact I_ne (by omega)
    have pd_52 : PO s_47 := by rw [e_48]; exact PO_fr pd_43 (gX.wI (gX.refl L true [49] _) (Or.inl rfl)) rfl rfl rfl rfl rfl rfl
    have pd_53 : KN s_47 := by rw [e_48]; exact KN_fr pd_44 (gX.wI (gX.refl L true [49] _) (Or.inl rfl)) rfl rfl
    have pd_54 : S2P s_47 := by rw [e_48]; exact S2P_fr pd_45 (gX.wI (gX.refl L true [49] _) (Or.inl rfl)) rfl rfl rfl rfl rfl rfl rfl rfl
    have pd_55 : DSA s_47 := by rw [e_48]; exact DSA_fr pd_46 (gX.wI (gX.refl L true [49] _) (Or.inl rfl)) rfl rfl rfl rfl
    exact k _ s_47 hs_49 hf_50 (by omega) (pd_52) (pd_53) (by first | omega | assumption) (by first | omega | assumption) (pd_54) (pd_55) (CEQ_sp hE9 (by subst_vars; rfl) (by subst_vars; rfl) rfl rfl) (WPX_of hW9 (by subst_vars; rfl) (by subst_vars; rfl) rfl rfl (fun h8 h9 => by first | (rw [if_pos (by assumption)]; exact gp_wr_id (by omega) (by omega)) | (rw [if_neg (by assumption)]; exact gp_wr_id (by omega) (by omega))))
  · have w_56 := wr_rng (p2 - (gp_I s 49 (Int.toNat p1)))
    refine s_2564_49 _ _ _ _ _ _ _ _ ?_
    try rw [show gp_wr (p3 + 1) = p3 + 1 from gp_wr_id (by omega) (by omega)]
    refine ihS _ _ _ _ _ _ (by omega) hs_15 (by omega) (pd_18) (pd_19) (pd_20) (pd_21) (by first | omega | assumption) (fun x_57 s_58 hs_59 hf_60 p_61 p_62 p_63 p_64 p_65 p_66 p_67 p_68 p_69 => ⟨_, rfl, ?_⟩)
    have hf_70 : gX L false [8, 9, 10, 11, 12, 13, 14, 49, 50, 1196] s s_58 := gX.trans hf_16 hf_60 rfl rfl
    have hE9 := p_68
    have hW9 := p_69
    refine ⟨by omega, ?_⟩
    intro s_71 e_72
    have hs_73 : XI L 0 s_71 := by rw [e_72]; exact xw49 hs_59 _ _ (by omega)
    have hf_74 : gX L false [8, 9, 10, 11, 12, 13, 14, 49, 50, 1196] s s_71 := by rw [e_72]; exact gX.wI hf_70 (Or.inl rfl)
    have q_75 : gp_I s_71 6 4 = gp_I s_58 6 4 := by rw [e_72] <;> first | rfl | exact I_ne (by omega)
    have pd_76 : PO s_71 := by rw [e_72]; exact PO_fr p_62 (gX.wI (gX.refl L true [49] _) (Or.inl rfl)) rfl rfl rfl rfl rfl rfl
    have pd_77 : KN s_71 := by rw [e_72]; exact KN_fr p_63 (gX.wI (gX.refl L true [49] _) (Or.inl rfl)) rfl rfl
    have pd_78 : S2P s_71 := by rw [e_72]; exact S2P_fr p_66 (gX.wI (gX.refl L true [49] _) (Or.inl rfl)) rfl rfl rfl rfl rfl rfl rfl rfl
    have pd_79 : DSA s_71 := by rw [e_72]; exact DSA_fr p_67 (gX.wI (gX.refl L true [49] _) (Or.inl rfl)) rfl rfl rfl rfl
    refine ⟨by omega, ?_⟩
    intro s_80 e_81
    have hs_82 : XI L 0 s_80 := by rw [e_81]; exact xw49 hs_73 _ _ (by omega)
    have hf_83 : gX L false [8, 9, 10, 11, 12, 13, 14, 49, 50, 1196] s s_80 := by rw [e_81]; exact gX.wI hf_74 (Or.inl rfl)
    have q_84 : gp_I s_80 6 4 = gp_I s_71 6 4 := by rw [e_81] <;> first | rfl | exact I_ne (by omega)
    have pd_85 : PO s_80 := by rw [e_81]; exact PO_fr pd_76 (gX.wI (gX.refl L true [49] _) (Or.inl rfl)) rfl rfl rfl rfl rfl rfl
    have pd_86 : KN s_80 := by rw [e_81]; exact KN_fr pd_77 (gX.wI (gX.refl L true [49] _) (Or.inl rfl)) rfl rfl
    have pd_87 : S2P s_80 := by rw [e_81]; exact S2P_fr pd_78 (gX.wI (gX.refl L true [49] _) (Or.inl rfl)) rfl rfl rfl rfl rfl rfl rfl rfl
    have pd_88 : DSA s_80 := by rw [e_81]; exact DSA_fr pd_79 (gX.wI (gX.refl L true [49] _) (Or.inl rfl)) rfl rfl rfl rfl
    exact k _ s_80 hs_82 hf_83 (by omega) (pd_85) (pd_86) (by first | omega | assumption) (by first | omega | assumption) (pd_87) (pd_88) (CEQ_sp hE9 (by subst_vars; rfl) (by subst_vars; rfl) rfl rfl) (WPX_of hW9 (by subst_vars; rfl) (by subst_vars; rfl) rfl rfl (fun h8 h9 => by first | (rw [if_pos (by assumption)]; exact gp_wr_id (by omega) (by omega)) | (rw [if_neg (by assumption)]; exact gp_wr_id (by omega) (by omega))))
theorem WSB_all : ∀ m, WSB m
  | 0 => by intro L D K s p0; intros; omega
  | m + 1 => xm_wstandX m (xm_wstepX m (WSB_all m))
theorem xm_wstand22X {L d : Nat} {K : Option gV → gH → Prop} {s : gH} (p0 : Int) (p1 : Int) (hs : XI L 0 s) (h_p1 : 0 ≤ p1 ∧ p1 ≤ 21) (q0 : PO s) (q1 : KN s) (q2 : S2P s) (q3 : DSA s) (k : ∀ (r : Int), ∀ (t : gH), XI L 0 t → gX L false [8, 9, 10, 11, 12, 13, 14, 49, 50, 1196] s t → (-1 ≤ r ∧ r ≤ 59) → (PO t) → (KN t) → (gp_I s 6 4 ≤ gp_I t 6 4) → (r < gp_I t 6 4) → (S2P t) → (DSA t) → (∀ k : Nat, gp_I t 49 k = gp_I s 49 k) → (WSX s t p0 p1 r) → K (some (gp_i r)) t) : gs_C L (d + 50) 2563 12 [gp_r (some 48), gp_i p0, gp_i p1] s K := xm_wstandX 21 (xm_wstepX 21 (WSB_all 21)) _ _ _ _ _ _ (by omega) hs h_p1 q0 q1 q2 q3 (by omega) k
set_option maxRecDepth 100000 in
/-- Walker.firstWrong -/
theorem xm_firstWrongX  {L d : Nat} {K : Option gV → gH → Prop} {s : gH}  (p1 : Int) (hs : XI L 0 s) (h_p1 : 0 ≤ p1 ∧ p1 ≤ 100)  (k : ∀ (r : Int), ((-1) ≤ r ∧ r ≤ 100) → (r = -1 → 1 ≤ p1 ∧ p1 ≤ 8 ∧ ∀ k : Nat, (k : Int) < p1 → okb (gp_I s 3 k)) → (∃ q, FWQ (fun j => gp_I s 3 j) p1 q ∧ ((q = p1 ∧ 1 ≤ p1 ∧ r = -1) ∨ (¬ (q = p1 ∧ 1 ≤ p1) ∧ r = q))) → K (some (gp_i r)) s) : gs_C L d 2561 6 [gp_r (some 48), gp_r (some 3), gp_i p1] s K := by
  refine s_2561_e _ _ ?_
  have lp_2 : ∀ (n_2 : Nat) (v3_2 : Int) (v4_2 : gV) (v5_2 : gV), (0 ≤ v3_2 ∧ v3_2 ≤ 8) → (∀ k : Nat, (k : Int) < v3_2 → okb (gp_I s 3 k)) → (v3_2 ≤ p1) → (9 - v3_2).toNat < n_2 → gs_E L d 2561 2 [gp_r (some 48), gp_r (some 3), gp_i p1, gp_i v3_2, v4_2, v5_2] [] s K := by
    intro n_2
    induction n_2 with
    | zero => intro v3_2 v4_2 v5_2 hv3_2 iv0_2 iv1_2 hm_2; exact absurd hm_2 (Nat.not_lt_zero _)
    | succ n_2 ih_2 =>
      intro v3_2 v4_2 v5_2 hv3_2 iv0_2 iv1_2 hm_2
      refine s_2561_2 _ _ _ _ _ ?_
      refine ⟨fun h_3 => ?_, fun h_3 => ?_⟩
      · refine ⟨3, rfl, ?_⟩
        refine ⟨⟨rfl, by show 0 ≤ v3_2 ∧ v3_2 < 100; omega⟩, ?_⟩
        have f_4 := xr3 hs (Int.toNat v3_2)
        refine ⟨fun h_5 => ?_, fun h_5 => ?_⟩
        · refine s_2561_40 _ _ _ _ _ ?_
          refine s_2561_45 _ _ _ _ _ _ ?_
          refine ⟨fun h_8 => ?_, fun h_8 => ?_⟩
          · exfalso; omega
          · refine ⟨fun h_9 => ?_, fun h_9 => ?_⟩
            · try rw [show gp_wr (v3_2 + 1) = v3_2 + 1 from gp_wr_id (by omega) (by omega)]
              exact ih_2 _ _ _ (by omega) (okb_s iv0_2 (by omega) (by unfold okb; omega)) (by first | omega | assumption) (by omega)
            · refine s_2561_58 _ _ _ _ _ ?_
              exact k _ (by omega) (by first | exact (fun h9 => by exfalso; omega) | exact (fun _ => ⟨by omega, by omega, fun k hk => iv0_2 k (by omega)⟩)) (⟨v3_2, FWQ_o iv0_2 (by omega) (by omega) (by omega) (by omega), by omega⟩)
        · refine ⟨fun h_12 => ?_, fun h_12 => ?_⟩
          · refine s_2561_40 _ _ _ _ _ ?_
            refine s_2561_45 _ _ _ _ _ _ ?_
            refine ⟨fun h_15 => ?_, fun h_15 => ?_⟩
            · exfalso; omega
            · refine ⟨fun h_16 => ?_, fun h_16 => ?_⟩
              · try rw [show gp_wr (v3_2 + 1) = v3_2 + 1 from gp_wr_id (by omega) (by omega)]
                exact ih_2 _ _ _ (by omega) (okb_s iv0_2 (by omega) (by unfold okb; omega)) (by first | omega | assumption) (by omega)
              · refine s_2561_58 _ _ _ _ _ ?_
                exact k _ (by omega) (by first | exact (fun h9 => by exfalso; omega) | exact (fun _ => ⟨by omega, by omega, fun k hk => iv0_2 k (by omega)⟩)) (⟨v3_2, FWQ_o iv0_2 (by omega) (by omega) (by omega) (by omega), by omega⟩)
          · refine ⟨fun h_19 => ?_, fun h_19 => ?_⟩
            · refine s_2561_44 _ _ _ _ _ ?_
              refine s_2561_45 _ _ _ _ _ _ ?_
              refine ⟨fun h_22 => ?_, fun h_22 => ?_⟩
              · refine s_2561_58 _ _ _ _ _ ?_
                exact k _ (by omega) (by first | exact (fun h9 => by exfalso; omega) | exact (fun _ => ⟨by omega, by omega, fun k hk => iv0_2 k (by omega)⟩)) (⟨v3_2, FWQ_o iv0_2 (by omega) (by omega) (by omega) (by omega), by omega⟩)
              · exfalso; omega
            · refine ⟨fun h_24 => ?_, fun h_24 => ?_⟩
              · refine s_2561_44 _ _ _ _ _ ?_
                refine s_2561_45 _ _ _ _ _ _ ?_
                refine ⟨fun h_27 => ?_, fun h_27 => ?_⟩
                · refine s_2561_58 _ _ _ _ _ ?_
                  exact k _ (by omega) (by first | exact (fun h9 => by exfalso; omega) | exact (fun _ => ⟨by omega, by omega, fun k hk => iv0_2 k (by omega)⟩)) (⟨v3_2, FWQ_o iv0_2 (by omega) (by omega) (by omega) (by omega), by omega⟩)
                · exfalso; omega
              · refine s_2561_40 _ _ _ _ _ ?_
                refine s_2561_45 _ _ _ _ _ _ ?_
                refine ⟨fun h_31 => ?_, fun h_31 => ?_⟩
                · exfalso; omega
                · refine ⟨fun h_32 => ?_, fun h_32 => ?_⟩
                  · try rw [show gp_wr (v3_2 + 1) = v3_2 + 1 from gp_wr_id (by omega) (by omega)]
                    exact ih_2 _ _ _ (by omega) (okb_s iv0_2 (by omega) (by unfold okb; omega)) (by first | omega | assumption) (by omega)
                  · refine s_2561_58 _ _ _ _ _ ?_
                    exact k _ (by omega) (by first | exact (fun h9 => by exfalso; omega) | exact (fun _ => ⟨by omega, by omega, fun k hk => iv0_2 k (by omega)⟩)) (⟨v3_2, FWQ_o iv0_2 (by omega) (by omega) (by omega) (by omega), by omega⟩)
      · refine ⟨fun h_35 => ?_, fun h_35 => ?_⟩
        · refine s_2561_75 _ _ _ _ _ _ ?_
          exact k _ (by omega) (by first | exact (fun h9 => by exfalso; omega) | exact (fun _ => ⟨by omega, by omega, fun k hk => iv0_2 k (by omega)⟩)) (⟨v3_2, FWQ_o iv0_2 (by omega) (by omega) (by omega) (by omega), by omega⟩)
        · refine s_2561_75 _ _ _ _ _ _ ?_
          exact k _ (by omega) (by first | exact (fun h9 => by exfalso; omega) | exact (fun _ => ⟨by omega, by omega, fun k hk => iv0_2 k (by omega)⟩)) (⟨v3_2, FWQ_o iv0_2 (by omega) (by omega) (by omega) (by omega), by omega⟩)
  exact lp_2 _ _ _ _ (by omega) (fun k hk => by omega) (by first | omega | assumption) (Nat.lt_succ_self _)
set_option maxRecDepth 100000 in
/-- Walker.walk -/
theorem xm_walkX  {L d : Nat} {K : Option gV → gH → Prop} {s : gH}  (p1 : Int) (hs : XI L 0 s) (h_p1 : 1 ≤ p1 ∧ p1 ≤ 8) (q0 : ∀ k : Nat, (k : Int) < p1 → okb (gp_I s 3 k)) (k : ∀ (r : Option Nat), ∀ (t : gH), XI L 0 t → gX L true [8, 9, 10, 11, 12, 13, 14, 15, 49, 50, 1196, 2538] s t → (r = none ∨ ∃ a n, r = some a ∧ kT L t a n ∧ n ≤ 60) → (gp_sz t ≤ gp_sz s + 6) → (gp_us t ≤ gp_us s + 310) → (WLZ L t (fun j => gp_I s 3 j) p1.toNat r) → K (some (gp_r r)) t) : gs_C L (d + 51) 2562 5 [gp_r (some 48), gp_r (some 3), gp_i p1] s K := by
  have f_1 := xr6_4 hs
  have f_2 := xr48_2 hs
  refine s_2562_e _ _ ?_
  intro s_3 e_4
  have hs_5 : XI L 0 s_3 := by rw [e_4]; exact xw48_2 hs _ (by omega)
  have hf_6 : gX L true [8, 9, 10, 11, 12, 13, 14, 15, 49, 50, 1196, 2538] s s_3 := by rw [e_4]; exact gX.wI (gX.refl _ _ _ _) (Or.inl rfl)
  have z_7 : gp_sz s_3 = gp_sz s ∧ gp_us s_3 = gp_us s := by rw [e_4]; exact ⟨rfl, rfl⟩
  have q_8 : gp_I s_3 6 4 = gp_I s 6 4 := by rw [e_4] <;> first | rfl | exact I_ne (by omega)
  have q_9 : gp_I s_3 48 2 = p1 := by rw [e_4]; exact (gz_rw _ _ _ _ _).1 rfl
  have lp_11 : ∀ (n_11 : Nat) (v3_11 : Int) (v4_11 : gV) (s_11 : gH), (XI L 0 s_11) → (gX L true [8, 9, 10, 11, 12, 13, 14, 15, 49, 50, 1196, 2538] s s_11) → (gp_sz s_11 ≤ gp_sz s + 0 ∧ gp_us s_11 ≤ gp_us s + 0) → (0 ≤ v3_11 ∧ v3_11 ≤ 8) → (gp_I s_11 6 4 = gp_I s_3 6 4) → (gp_I s_11 48 2 = gp_I s_3 48 2) → (v3_11 ≤ p1) → (∀ j : Nat, (j : Int) < v3_11 → gp_I s_11 49 j = dec (gp_I s 3 j)) → (gp_I s_11 48 2 = p1) → (9 - v3_11).toNat < n_11 → gs_E L (d + 51) 2562 7 [gp_r (some 48), gp_r (some 3), gp_i p1, gp_i v3_11, v4_11] [] s_11 K := by
    intro n_11
    induction n_11 with
    | zero => intro v3_11 v4_11 s_11 hs_s_11 hf_s_11 rm_s_11 hv3_11 tk0_11 tk1_11 iv0_11 iv1_11 iv2_11 hm_11; exact absurd hm_11 (Nat.not_lt_zero _)
    | succ n_11 ih_11 =>
      intro v3_11 v4_11 s_11 hs_s_11 hf_s_11 rm_s_11 hv3_11 tk0_11 tk1_11 iv0_11 iv1_11 iv2_11 hm_11
      refine s_2562_7 _ _ _ _ ?_
      refine ⟨fun h_12 => ?_, fun h_12 => ?_⟩
      · refine ⟨3, rfl, ?_⟩
        refine ⟨⟨rfl, by show 0 ≤ v3_11 ∧ v3_11 < 100; omega⟩, ?_⟩
        have f_13 := xr3 hs_s_11 (Int.toNat v3_11)
        have hok := q0 (Int.toNat v3_11) (by omega)
        have h3e := (hf_s_11.2.2.1 3 (Int.toNat v3_11) (by decide) (by decide) rfl).1
        rw [← h3e] at hok
        unfold okb at hok
        refine ⟨fun h_14 => ?_, fun h_14 => ?_⟩
        · refine s_2562_50 _ _ _ _ _ _ ?_
          refine ⟨by omega, ?_⟩
          intro s_16 e_17
          have hs_18 : XI L 0 s_16 := by rw [e_17]; exact xw49 hs_s_11 _ _ (by omega)
          have hf_19 : gX L true [8, 9, 10, 11, 12, 13, 14, 15, 49, 50, 1196, 2538] s s_16 := by rw [e_17]; exact gX.wI hf_s_11 (Or.inl rfl)
          have z_20 : gp_sz s_16 = gp_sz s_11 ∧ gp_us s_16 = gp_us s_11 := by rw [e_17]; exact ⟨rfl, rfl⟩
          have q_21 : gp_I s_16 6 4 = gp_I s_11 6 4 := by rw [e_17] <;> first | rfl | exact I_ne (by omega)
          have q_22 : gp_I s_16 48 2 = gp_I s_11 48 2 := by rw [e_17] <;> first | rfl | exact I_ne (by omega)
          try rw [show gp_wr (v3_11 + 1) = v3_11 + 1 from gp_wr_id (by omega) (by omega)]
          exact ih_11 _ _ _ hs_18 hf_19 (by omega) (by omega) (by first | rfl | omega) (by first | rfl | omega) (by first | omega | assumption) (WKC_s (g := fun j => gp_I s 3 j) iv1_11 (by omega) ‹_ = gp_wI _ 49 _ _› (by show _ = dec (gp_I s 3 _); rw [← h3e]; first | exact (dec_l (by omega)).symm | exact (dec_r (by omega)).symm | exact (dec_n (by omega) (by omega)).symm | exact (gp_wr_id (by omega) (by omega)).trans (dec_n (by omega) (by omega)).symm)) (by first | omega | assumption) (by omega)
        · refine ⟨fun h_24 => ?_, fun h_24 => ?_⟩
          · refine s_2562_50 _ _ _ _ _ _ ?_
            refine ⟨by omega, ?_⟩
            intro s_26 e_27
            have hs_28 : XI L 0 s_26 := by rw [e_27]; exact xw49 hs_s_11 _ _ (by omega)
            have hf_29 : gX L true [8, 9, 10, 11, 12, 13, 14, 15, 49, 50, 1196, 2538] s s_26 := by rw [e_27]; exact gX.wI hf_s_11 (Or.inl rfl)
            have z_30 : gp_sz s_26 = gp_sz s_11 ∧ gp_us s_26 = gp_us s_11 := by rw [e_27]; exact ⟨rfl, rfl⟩
            have q_31 : gp_I s_26 6 4 = gp_I s_11 6 4 := by rw [e_27] <;> first | rfl | exact I_ne (by omega)
            have q_32 : gp_I s_26 48 2 = gp_I s_11 48 2 := by rw [e_27] <;> first | rfl | exact I_ne (by omega)
            try rw [show gp_wr (v3_11 + 1) = v3_11 + 1 from gp_wr_id (by omega) (by omega)]
            exact ih_11 _ _ _ hs_28 hf_29 (by omega) (by omega) (by first | rfl | omega) (by first | rfl | omega) (by first | omega | assumption) (WKC_s (g := fun j => gp_I s 3 j) iv1_11 (by omega) ‹_ = gp_wI _ 49 _ _› (by show _ = dec (gp_I s 3 _); rw [← h3e]; first | exact (dec_l (by omega)).symm | exact (dec_r (by omega)).symm | exact (dec_n (by omega) (by omega)).symm | exact (gp_wr_id (by omega) (by omega)).trans (dec_n (by omega) (by omega)).symm)) (by first | omega | assumption) (by omega)
          · try rw [show gp_wr ((gp_I s_11 3 (Int.toNat v3_11)) - 48) = (gp_I s_11 3 (Int.toNat v3_11)) - 48 from gp_wr_id (by omega) (by omega)]
            refine s_2562_50 _ _ _ _ _ _ ?_
            refine ⟨by omega, ?_⟩
            intro s_35 e_36
            have hs_37 : XI L 0 s_35 := by rw [e_36]; exact xw49 hs_s_11 _ _ (by omega)
            have hf_38 : gX L true [8, 9, 10, 11, 12, 13, 14, 15, 49, 50, 1196, 2538] s s_35 := by rw [e_36]; exact gX.wI hf_s_11 (Or.inl rfl)
            have z_39 : gp_sz s_35 = gp_sz s_11 ∧ gp_us s_35 = gp_us s_11 := by rw [e_36]; exact ⟨rfl, rfl⟩
            have q_40 : gp_I s_35 6 4 = gp_I s_11 6 4 := by rw [e_36] <;> first | rfl | exact I_ne (by omega)
            have q_41 : gp_I s_35 48 2 = gp_I s_11 48 2 := by rw [e_36] <;> first | rfl | exact I_ne (by omega)
            try rw [show gp_wr (v3_11 + 1) = v3_11 + 1 from gp_wr_id (by omega) (by omega)]
            exact ih_11 _ _ _ hs_37 hf_38 (by omega) (by omega) (by first | rfl | omega) (by first | rfl | omega) (by first | omega | assumption) (WKC_s (g := fun j => gp_I s 3 j) iv1_11 (by omega) ‹_ = gp_wI _ 49 _ _› (by show _ = dec (gp_I s 3 _); rw [← h3e]; first | exact (dec_l (by omega)).symm | exact (dec_r (by omega)).symm | exact (dec_n (by omega) (by omega)).symm | exact (gp_wr_id (by omega) (by omega)).trans (dec_n (by omega) (by omega)).symm)) (by first | omega | assumption) (by omega)
      · have lp_44 : ∀ (n_44 : Nat) (v3_44 : Int) (v4_44 : gV) (s_44 : gH), (XI L 0 s_44) → (gX L true [8, 9, 10, 11, 12, 13, 14, 15, 49, 50, 1196, 2538] s s_44) → (gp_sz s_44 ≤ gp_sz s + 0 ∧ gp_us s_44 ≤ gp_us s + 0) → (0 ≤ v3_44 ∧ v3_44 ≤ 256) → (gp_I s_44 6 4 = gp_I s_11 6 4) → (gp_I s_44 48 2 = gp_I s_11 48 2) → (∀ k : Nat, (k : Int) < v3_44 → gp_I s_44 50 k = -1) → (∀ j : Nat, (j : Int) < p1 → gp_I s_44 49 j = dec (gp_I s 3 j)) → (gp_I s_44 48 2 = p1) → (257 - v3_44).toNat < n_44 → gs_E L (d + 51) 2562 59 [gp_r (some 48), gp_r (some 3), gp_i p1, gp_i v3_44, v4_44] [] s_44 K := by
          intro n_44
          induction n_44 with
          | zero => intro v3_44 v4_44 s_44 hs_s_44 hf_s_44 rm_s_44 hv3_44 tk0_44 tk1_44 iv0_44 iv1_44 iv2_44 hm_44; exact absurd hm_44 (Nat.not_lt_zero _)
          | succ n_44 ih_44 =>
            intro v3_44 v4_44 s_44 hs_s_44 hf_s_44 rm_s_44 hv3_44 tk0_44 tk1_44 iv0_44 iv1_44 iv2_44 hm_44
            refine s_2562_59 _ _ _ _ ?_
            refine ⟨fun h_45 => ?_, fun h_45 => ?_⟩
            · refine ⟨by omega, ?_⟩
              intro s_46 e_47
              have hs_48 : XI L 0 s_46 := by rw [e_47]; exact xw50 hs_s_44 _ _ (by omega)
              have hf_49 : gX L true [8, 9, 10, 11, 12, 13, 14, 15, 49, 50, 1196, 2538] s s_46 := by rw [e_47]; exact gX.wI hf_s_44 (Or.inl rfl)
              have z_50 : gp_sz s_46 = gp_sz s_44 ∧ gp_us s_46 = gp_us s_44 := by rw [e_47]; exact ⟨rfl, rfl⟩
              have q_51 : gp_I s_46 6 4 = gp_I s_44 6 4 := by rw [e_47] <;> first | rfl | exact I_ne (by omega)
              have q_52 : gp_I s_46 48 2 = gp_I s_44 48 2 := by rw [e_47] <;> first | rfl | exact I_ne (by omega)
              try rw [show gp_wr (v3_44 + 1) = v3_44 + 1 from gp_wr_id (by omega) (by omega)]
              exact ih_44 _ _ _ hs_48 hf_49 (by omega) (by omega) (by first | rfl | omega) (by first | rfl | omega) (KL_s iv0_44 (by omega) (by assumption)) (fun j hj => by rw [‹s_46 = gp_wI _ 50 _ _›]; exact iv1_44 j hj) (by first | omega | assumption) (by omega)
            · have hKL := iv0_44
              have hC9 := iv1_44
              have hN9 := iv2_44
              refine xm_empty hs_s_44 (fun s_54 hs_55 hf_56 p_57 p_58 => ⟨rfl, ?_⟩)
              have hf_59 : gX L true [8, 9, 10, 11, 12, 13, 14, 15, 49, 50, 1196, 2538] s s_54 := gX.trans hf_s_44 hf_56 rfl rfl
              have q_60 : gp_I s_54 48 2 = gp_I s_44 48 2 := (hf_56.2.2.1 48 2 (by decide) (by decide) rfl).1
              have z_61 : gp_sz s_54 = gp_sz s_44 ∧ gp_us s_54 = gp_us s_44 := hf_56.2.1 rfl
              have hKN8 : KN s_54 := KN_0 (fun k hk => hKL k (by omega)) hf_56 rfl (by omega)
              have hS0 : S2P s_54 := S2P_0 (by omega)
              have hD0 : DSA s_54 := DSA_0 (by omega)
              have hWK : WKU s_54 (fun j => gp_I s 3 j) p1 := ⟨by omega, by omega, by omega, fun j hj => ⟨q0 j hj, ((hf_56.2.2.1 49 j (by decide) (by decide) rfl).1).trans (hC9 j hj)⟩, by omega, fun k hk => ((hf_56.2.2.1 50 k (by decide) (by decide) rfl).1).trans (hKL k (by omega))⟩
              refine xm_wstand22X _ _ hs_55 (by omega) (p_58) (hKN8) (hS0) (hD0) (fun x_62 s_63 hs_64 hf_65 p_66 p_67 p_68 p_69 p_70 p_71 p_72 p_73 p_74 => ⟨_, rfl, ?_⟩)
              have hf_75 : gX L true [8, 9, 10, 11, 12, 13, 14, 15, 49, 50, 1196, 2538] s s_63 := gX.trans hf_59 hf_65 rfl rfl
              have q_76 : gp_I s_63 48 2 = gp_I s_54 48 2 := (hf_65.2.2.1 48 2 (by decide) (by decide) rfl).1
              have z_77 : gp_sz s_63 = gp_sz s_54 ∧ gp_us s_63 = gp_us s_54 := hf_65.2.1 rfl
              have hWS := p_74
              refine ⟨fun h_78 => ?_, fun h_78 => ?_⟩
              · refine s_2562_111 _ _ _ _ _ ?_
                exact k _ s_63 hs_64 hf_75 (by first | exact Or.inl rfl | exact Or.inr ⟨_, _, rfl, by assumption, by omega⟩) (by first | omega | assumption) (by first | omega | assumption) (by first | exact ⟨-1, WKU_1 hWK hWS (by omega), Or.inl ⟨rfl, rfl⟩⟩ | exact ⟨_, WKU_2 hWK hWS (by omega), Or.inr ⟨_, _, rfl, by assumption, by omega⟩⟩)
              · refine xm_tableOfX _ hs_64 (by omega) (p_67) (by first | omega | assumption) (fun o_81 s_82 hs_83 hf_84 p_85 p_86 p_87 => ⟨_, rfl, ?_⟩)
                have hf_88 : gX L true [8, 9, 10, 11, 12, 13, 14, 15, 49, 50, 1196, 2538] s s_82 := gX.trans hf_75 hf_84 rfl rfl
                have pd_89 : PO s_82 := PO_fr p_67 hf_84 rfl rfl rfl rfl rfl rfl
                have pd_90 : KN s_82 := KN_fr p_68 hf_84 rfl rfl
                have pd_91 : S2P s_82 := S2P_fr p_71 hf_84 rfl rfl rfl rfl rfl rfl rfl rfl
                have pd_92 : DSA s_82 := DSA_fr p_72 hf_84 rfl rfl rfl rfl
                have q_93 : gp_I s_82 6 4 = gp_I s_63 6 4 := (hf_84.2.2.1 6 4 (by decide) (by decide) rfl).1
                have q_94 : gp_I s_82 48 2 = gp_I s_63 48 2 := (hf_84.2.2.1 48 2 (by decide) (by decide) rfl).1
                obtain ⟨a_95, n_96, rfl, kt_97, hn_98⟩ := p_85
                have hn_a_95 := kt_97.n hs_83
                refine s_2562_111 _ _ _ _ _ ?_
                exact k _ s_82 hs_83 hf_88 (by first | exact Or.inl rfl | exact Or.inr ⟨_, _, rfl, by assumption, by omega⟩) (by first | omega | assumption) (by first | omega | assumption) (by first | exact ⟨-1, WKU_1 hWK hWS (by omega), Or.inl ⟨rfl, rfl⟩⟩ | exact ⟨_, WKU_2 hWK hWS (by omega), Or.inr ⟨_, _, rfl, by assumption, by omega⟩⟩)
        exact lp_44 _ _ _ _ hs_s_11 hf_s_11 (by omega) (by omega) (by first | rfl | omega) (by first | rfl | omega) (fun k hk => by omega) (fun j hj => iv1_11 j (by omega)) (by first | omega | assumption) (Nat.lt_succ_self _)
  exact lp_11 _ _ _ _ hs_5 hf_6 (by omega) (by omega) (by first | rfl | omega) (by first | rfl | omega) (by first | omega | assumption) (fun j hj => by omega) (by first | omega | assumption) (Nat.lt_succ_self _)
set_option maxRecDepth 100000 in
/-- GatheredPoints.strip -/
theorem xp_strip2  {L d : Nat} {K : Option gV → gH → Prop} {s : gH}  (p0 : Int) (hs : XI L 0 s) (h_p0 : (-2147483648) ≤ p0 ∧ p0 ≤ 2147483647) (q0 : XS L s) (k : ∀ (r : Int), ∀ (t : gH), XI L 0 t → gX L true [2, 4, 8, 9, 10, 11, 12, 13, 14, 15, 49, 50, 1034, 1196, 2538] s t → (XS L t) → (0 ≤ p0 ∧ p0 ≤ 7 → gp_I t 1 2 = 0) → (p0 < 0 ∨ 7 < p0 → gp_I t 1 2 = gp_I s 1 2) → (gp_sz t ≤ gp_sz s + 6) → (gp_us t ≤ gp_us s + 310) → (STP (fun k => gp_I s 3 k) (gp_I s 1 2) p0 r) → K (some (gp_i r)) t) : gs_C L (d + 52) 2819 4 [gp_r (some 1), gp_i p0] s K := by
  have f_1 := xr1_2 hs
  refine s_2819_e _ ?_
  refine xm_noSlot _ (by omega) (fun x_2 p_3 p_4 p_5 => ⟨_, rfl, ?_⟩)
  refine ⟨fun h_6 => ?_, fun h_6 => ?_⟩
  · have f_7 := xr1_2 hs
    refine xm_firstWrongX _ hs (by omega) (fun x_8 p_9 p_10 p_11 => ⟨_, rfl, ?_⟩)
    have hok := p_10
    obtain ⟨q9, hq9, hq8⟩ := p_11
    have hq0 := hq9.1
    refine ⟨fun h_12 => ?_, fun h_12 => ?_⟩
    · have f_13 := xr1_2 hs
      refine xm_walkX _ hs (by omega) ((hok (by omega)).2.2) (fun o_14 s_15 hs_16 hf_17 p_18 p_19 p_20 p_21 => ⟨_, rfl, ?_⟩)
      have hf_22 : gX L true [2, 4, 8, 9, 10, 11, 12, 13, 14, 15, 49, 50, 1034, 1196, 2538] s s_15 := gX.sub hf_17 rfl rfl
      have pd_23 : XS L s_15 := XS_fr q0 hf_17 rfl
      have q_24 : gp_I s_15 1 2 = gp_I s 1 2 := (hf_17.2.2.1 1 2 (by decide) (by decide) rfl).1
      have hrn0 := p_18
      have hwl := p_21
      refine s_2819_52 _ _ _ _ ?_
      intro s_26 e_27
      have hs_28 : XI L 0 s_26 := by rw [e_27]; exact xw1_2 hs_16 _ (by omega)
      have hf_29 : gX L true [2, 4, 8, 9, 10, 11, 12, 13, 14, 15, 49, 50, 1034, 1196, 2538] s s_26 := by rw [e_27]; exact gX.wI hf_22 (Or.inl rfl)
      have z_30 : gp_sz s_26 = gp_sz s_15 ∧ gp_us s_26 = gp_us s_15 := by rw [e_27]; exact ⟨rfl, rfl⟩
      have q_31 : gp_I s_26 1 2 = 0 := by rw [e_27]; exact (gz_rw _ _ _ _ _).1 rfl
      have pd_32 : XS L s_26 := by rw [e_27]; exact XS_fr pd_23 (gX.wI (gX.refl L true [1034] _) (Or.inl rfl)) rfl
      have hRN : (o_14 : Option Nat) = none ∨ ∃ a n, (o_14 : Option Nat) = some a ∧ kT L s_26 a n ∧ n ≤ 60 := by rw [‹s_26 = gp_wI _ 1 2 _›]; first | exact Or.inl rfl | exact hrn0
      have hwl2 : 0 ≤ x_8 ∨ WLZ L s_26 (fun k => gp_I s 3 k) (gp_I s 1 2).toNat o_14 := by rw [‹s_26 = gp_wI _ 1 2 _›]; first | exact Or.inl (by omega) | exact Or.inr hwl
      refine ⟨fun h_33 => ?_, fun h_33 => ?_⟩
      · refine ⟨fun hq_34 => ?_, fun q_35 hq_34 => ?_⟩
        · refine xp_refused _ hs_28 (by omega) (fun x_36 s_37 hs_38 hf_39 p_40 => ⟨_, rfl, ?_⟩)
          have hf_41 : gX L true [2, 4, 8, 9, 10, 11, 12, 13, 14, 15, 49, 50, 1034, 1196, 2538] s s_37 := gX.trans hf_29 hf_39 rfl rfl
          have pd_42 : XS L s_37 := XS_fr pd_32 hf_39 rfl
          have q_43 : gp_I s_37 1 2 = gp_I s_26 1 2 := (hf_39.2.2.1 1 2 (by decide) (by decide) rfl).1
          have z_44 : gp_sz s_37 = gp_sz s_26 ∧ gp_us s_37 = gp_us s_26 := hf_39.2.1 rfl
          exact k _ s_37 hs_38 hf_41 (pd_42) (by first | omega | assumption) (by first | omega | assumption) (by first | omega | assumption) (by first | omega | assumption) (by first | exact STP_full hq9 (by omega) (by omega) (WLZ_n hwl2 (by omega) (by first | assumption | rfl)) (by omega))
        · obtain ⟨n_45, kt_46, hn_47⟩ := nn_of hRN hq_34
          have hn_q_35 := kt_46.n hs_28
          refine xp_hold2 n_45 _ _ hs_28 (by omega) (by first | assumption | exact kT7 hs_28.1.1 | exact kT25 hs_28.1.1) (by first | omega | assumption) (pd_32) (fun x_48 s_49 hs_50 hf_51 p_52 p_53 p_54 => ⟨_, rfl, ?_⟩)
          have hf_55 : gX L true [2, 4, 8, 9, 10, 11, 12, 13, 14, 15, 49, 50, 1034, 1196, 2538] s s_49 := gX.trans hf_29 hf_51 rfl rfl
          have kt_56 : kT L s_49 q_35 n_45 := kt_46.fr hf_51.1
          have q_57 : gp_I s_49 1 2 = gp_I s_26 1 2 := (hf_51.2.2.1 1 2 (by decide) (by decide) rfl).1
          have z_58 : gp_sz s_49 = gp_sz s_26 ∧ gp_us s_49 = gp_us s_26 := hf_51.2.1 rfl
          exact k _ s_49 hs_50 hf_55 (p_53) (by first | omega | assumption) (by first | omega | assumption) (by first | omega | assumption) (by first | omega | assumption) (by first | exact STP_held hq9 (by omega) (by omega) (WLZ_s hwl2 (by omega) (by first | assumption | rfl) (by assumption)) (by omega) (by omega))
      · exfalso; omega
    · refine s_2819_52 _ _ _ _ ?_
      intro s_60 e_61
      have hs_62 : XI L 0 s_60 := by rw [e_61]; exact xw1_2 hs _ (by omega)
      have hf_63 : gX L true [2, 4, 8, 9, 10, 11, 12, 13, 14, 15, 49, 50, 1034, 1196, 2538] s s_60 := by rw [e_61]; exact gX.wI (gX.refl _ _ _ _) (Or.inl rfl)
      have z_64 : gp_sz s_60 = gp_sz s ∧ gp_us s_60 = gp_us s := by rw [e_61]; exact ⟨rfl, rfl⟩
      have q_65 : gp_I s_60 1 2 = 0 := by rw [e_61]; exact (gz_rw _ _ _ _ _).1 rfl
      have pd_66 : XS L s_60 := by rw [e_61]; exact XS_fr q0 (gX.wI (gX.refl L true [1034] _) (Or.inl rfl)) rfl
      have hRN : (none : Option Nat) = none ∨ ∃ a n, (none : Option Nat) = some a ∧ kT L s_60 a n ∧ n ≤ 60 := by rw [‹s_60 = gp_wI _ 1 2 _›]; first | exact Or.inl rfl | exact hrn0
      have hwl2 : 0 ≤ x_8 ∨ WLZ L s_60 (fun k => gp_I s 3 k) (gp_I s 1 2).toNat none := by rw [‹s_60 = gp_wI _ 1 2 _›]; first | exact Or.inl (by omega) | exact Or.inr hwl
      refine ⟨fun h_67 => ?_, fun h_67 => ?_⟩
      · exfalso; omega
      · try rw [show gp_wr ((-10) - x_8) = (-10) - x_8 from gp_wr_id (by omega) (by omega)]
        exact k _ s_60 hs_62 hf_63 (pd_66) (by first | omega | assumption) (by first | omega | assumption) (by first | omega | assumption) (by first | omega | assumption) (by first | exact STP_bad hq9 (by omega) (by omega) (by omega))
  · refine xp_refused _ hs (by omega) (fun x_68 s_69 hs_70 hf_71 p_72 => ⟨_, rfl, ?_⟩)
    have hf_73 : gX L true [2, 4, 8, 9, 10, 11, 12, 13, 14, 15, 49, 50, 1034, 1196, 2538] s s_69 := gX.sub hf_71 rfl rfl
    have pd_74 : XS L s_69 := XS_fr q0 hf_71 rfl
    have q_75 : gp_I s_69 1 2 = gp_I s 1 2 := (hf_71.2.2.1 1 2 (by decide) (by decide) rfl).1
    have z_76 : gp_sz s_69 = gp_sz s ∧ gp_us s_69 = gp_us s := hf_71.2.1 rfl
    exact k _ s_69 hs_70 hf_73 (pd_74) (by first | omega | assumption) (by first | omega | assumption) (by first | omega | assumption) (by first | omega | assumption) (Or.inl ⟨by omega, by omega⟩)
set_option maxRecDepth 100000 in
/-- GatheredPoints.feed -/
theorem xp_feed2  {L d : Nat} {K : Option gV → gH → Prop} {s : gH}  (p0 : BitVec 64) (p1 : Int) (hs : XI L 0 s) (h_p1 : (-2147483648) ≤ p1 ∧ p1 ≤ 2147483647)  (k : ∀ (r : Int), ∀ (t : gH), XI L 0 t → gX L false [2, 3, 1034] s t → (1 ≤ p1 ∧ p1 ≤ 8 ∧ gp_I s 1 2 + p1 ≤ 100 → r = gp_I s 1 2 + p1 ∧ gp_I t 1 2 = gp_I s 1 2 + p1) → (¬ (1 ≤ p1 ∧ p1 ≤ 8) → r = -1000000001 ∧ gp_I t 1 2 = gp_I s 1 2) → (1 ≤ p1 ∧ p1 ≤ 8 ∧ 100 < gp_I s 1 2 + p1 → r = -1000000004 ∧ gp_I t 1 2 = gp_I s 1 2) → (FDX 3 bX s t (gp_I s 1 2) p0 p1) → K (some (gp_i r)) t) : gs_C L (d + 1) 2817 5 [gp_r (some 1), gp_l p0, gp_i p1] s K := by
  have f_1 := xr1_2 hs
  refine s_2817_e _ _ ?_
  refine ⟨fun h_2 => ?_, fun h_2 => ?_⟩
  · refine s_2817_11 _ _ _ ?_
    refine xp_refused _ hs (by omega) (fun x_3 s_4 hs_5 hf_6 p_7 => ⟨_, rfl, ?_⟩)
    have hf_8 : gX L false [2, 3, 1034] s s_4 := gX.sub hf_6 rfl rfl
    have q_9 : gp_I s_4 1 2 = gp_I s 1 2 := (hf_6.2.2.1 1 2 (by decide) (by decide) rfl).1
    exact k _ s_4 hs_5 hf_8 (by first | omega | assumption) (by first | omega | assumption) (by first | omega | assumption) (FDX_n (fun k => (hf_6.2.2.1 3 k (by decide) (by decide) rfl).1) (by omega))
  · refine ⟨fun h_10 => ?_, fun h_10 => ?_⟩
    · refine s_2817_11 _ _ _ ?_
      refine xp_refused _ hs (by omega) (fun x_11 s_12 hs_13 hf_14 p_15 => ⟨_, rfl, ?_⟩)
      have hf_16 : gX L false [2, 3, 1034] s s_12 := gX.sub hf_14 rfl rfl
      have q_17 : gp_I s_12 1 2 = gp_I s 1 2 := (hf_14.2.2.1 1 2 (by decide) (by decide) rfl).1
      exact k _ s_12 hs_13 hf_16 (by first | omega | assumption) (by first | omega | assumption) (by first | omega | assumption) (FDX_n (fun k => (hf_14.2.2.1 3 k (by decide) (by decide) rfl).1) (by omega))
    · have f_18 := xr1_2 hs
      try rw [show gp_wr ((gp_I s 1 2) + p1) = (gp_I s 1 2) + p1 from gp_wr_id (by omega) (by omega)]
      refine ⟨fun h_19 => ?_, fun h_19 => ?_⟩
      · refine xp_refused _ hs (by omega) (fun x_20 s_21 hs_22 hf_23 p_24 => ⟨_, rfl, ?_⟩)
        have hf_25 : gX L false [2, 3, 1034] s s_21 := gX.sub hf_23 rfl rfl
        have q_26 : gp_I s_21 1 2 = gp_I s 1 2 := (hf_23.2.2.1 1 2 (by decide) (by decide) rfl).1
        exact k _ s_21 hs_22 hf_25 (by first | omega | assumption) (by first | omega | assumption) (by first | omega | assumption) (FDX_n (fun k => (hf_23.2.2.1 3 k (by decide) (by decide) rfl).1) (by omega))
      · have lp_27 : ∀ (n_27 : Nat) (v4_27 : Int) (s_27 : gH), (XI L 0 s_27) → (gX L false [2, 3, 1034] s s_27) → (0 ≤ v4_27 ∧ v4_27 ≤ 8) → (gp_I s_27 1 2 = gp_I s 1 2) → (gp_I s_27 1 2 = gp_I s 1 2) → (v4_27 ≤ p1) → (FDL 3 bX s s_27 (gp_I s 1 2) p0 v4_27) → (9 - v4_27).toNat < n_27 → gs_E L (d + 1) 2817 37 [gp_r (some 1), gp_l p0, gp_n, gp_i p1, gp_i v4_27] [] s_27 K := by
          intro n_27
          induction n_27 with
          | zero => intro v4_27 s_27 hs_s_27 hf_s_27 hv4_27 tk0_27 iv0_27 iv1_27 iv2_27 hm_27; exact absurd hm_27 (Nat.not_lt_zero _)
          | succ n_27 ih_27 =>
            intro v4_27 s_27 hs_s_27 hf_s_27 hv4_27 tk0_27 iv0_27 iv1_27 iv2_27 hm_27
            refine s_2817_37 _ _ _ ?_
            refine ⟨fun h_28 => ?_, fun h_28 => ?_⟩
            · have f_29 := xr1_2 hs_s_27
              try rw [show gp_wr ((gp_I s_27 1 2) + v4_27) = (gp_I s_27 1 2) + v4_27 from gp_wr_id (by omega) (by omega)]
              try rw [show gp_wr (8 * v4_27) = 8 * v4_27 from gp_wr_id (by omega) (by omega)]
              have w_30 := wr_rng ((p0 >>> (Int.toNat ((8 * v4_27) % 64))).toInt)
              have w_31 := gz_b (gp_wr (p0 >>> (Int.toNat ((8 * v4_27) % 64))).toInt)
              have hby : -128 ≤ gp_b ((gp_b (gp_wr (p0 >>> (Int.toNat ((8 * v4_27) % 64))).toInt))) ∧ gp_b ((gp_b (gp_wr (p0 >>> (Int.toNat ((8 * v4_27) % 64))).toInt))) ≤ 127 := by have h9 := gz_b ((gp_b (gp_wr (p0 >>> (Int.toNat ((8 * v4_27) % 64))).toInt))); omega
              refine ⟨by omega, ?_⟩
              intro s_32 e_33
              have hs_34 : XI L 0 s_32 := by rw [e_33]; exact xw3 hs_s_27 _ _ (by omega)
              have hf_35 : gX L false [2, 3, 1034] s s_32 := by rw [e_33]; exact gX.wI hf_s_27 (Or.inl rfl)
              have q_36 : gp_I s_32 1 2 = gp_I s_27 1 2 := by rw [e_33] <;> first | rfl | exact I_ne (by omega)
              try rw [show gp_wr (v4_27 + 1) = v4_27 + 1 from gp_wr_id (by omega) (by omega)]
              exact ih_27 _ _ hs_34 hf_35 (by omega) (by first | rfl | omega) (by first | omega | assumption) (by first | omega | assumption) (FDL_s iv2_27 (by omega) (fun k => by rw [‹s_32 = gp_wI _ 3 _ _›]; exact gz_rwi _ 3 _ _ k) (by first | exact (bX_8 p0 (by omega) (by omega)).symm | rfl) (by omega)) (by omega)
            · have f_37 := xr1_2 hs_s_27
              try rw [show gp_wr ((gp_I s_27 1 2) + p1) = (gp_I s_27 1 2) + p1 from gp_wr_id (by omega) (by omega)]
              intro s_38 e_39
              have hs_40 : XI L 0 s_38 := by rw [e_39]; exact xw1_2 hs_s_27 _ (by omega)
              have hf_41 : gX L false [2, 3, 1034] s s_38 := by rw [e_39]; exact gX.wI hf_s_27 (Or.inl rfl)
              have q_42 : gp_I s_38 1 2 = (gp_I s_27 1 2) + p1 := by rw [e_39]; exact (gz_rw _ _ _ _ _).1 rfl
              have f_43 := xr1_2 hs_40
              exact k _ s_38 hs_40 hf_41 (by first | omega | assumption) (by first | omega | assumption) (by first | omega | assumption) (FDX_e iv2_27 (by omega) (fun k => by rw [‹s_38 = gp_wI _ 1 2 _›]; rfl) (by omega))
        exact lp_27 _ _ _ hs (gX.refl _ _ _ _) (by omega) (by first | rfl | omega) (by first | omega | assumption) (by first | omega | assumption) (FDL_0 (fun _ => rfl)) (Nat.lt_succ_self _)
