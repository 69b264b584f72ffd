/-! both sides, from without: what each call keeps -/
/-- the class's world between calls -/
def XW (L A B : Nat) (s : gH) : Prop := XI L 0 s ∧ XS L s ∧ XK L s ∧ SVP L 52 s ∧ SVF L 52 51 s ∧ SVA L 51 A s ∧ SVP L 61 s ∧ SVF L 61 60 s ∧ SVA L 60 B s ∧ MFV L s
/-- the reference's world between calls -/
def MW (s : gH) : Prop := MI s ∧ mM s ∧ (gp_I s 74 9 ≠ 0 → ∀ k : Nat, 8 ≤ k → k < 16 → 1 ≤ gp_I s 81 k)
/-- a call of the class: its room, the script and the reference as they were -/
def XR (s t : gH) (A B A' B' : Nat) : Prop := ((gp_sz t : Int) + 6 * gp_I t 1 2 ≤ gp_sz s + 6 * gp_I s 1 2 + 100 ∧ (gp_us t : Int) + 310 * gp_I t 1 2 + 2 * (pot A' : Nat) + 2 * (pot B' : Nat) ≤ gp_us s + 310 * gp_I s 1 2 + 2 * (pot A : Nat) + 2 * (pot B : Nat) + 2500) ∧ ∀ a k, (a = 0 ∨ 74 ≤ a) → a < 117 → gp_I t a k = gp_I s a k ∧ gp_L t a k = gp_L s a k
theorem gX_ref {L : Nat} {al : Bool} {m : List Nat} {s t : gH} (g : gX L al m s t) (e : m.all (fun x => !(Nat.beq x 0) && (Nat.blt x 74 || (Nat.blt 116 x && Nat.blt x 3368))) = true) : ∀ a k, (a = 0 ∨ 74 ≤ a) → a < 117 → gp_I t a k = gp_I s a k ∧ gp_L t a k = gp_L s a k := fun a k h1 h2 => by
  have hc : m.contains (gcd a k) = false := by
    cases c : m.contains (gcd a k) with
    | false => rfl
    | true =>
      rw [List.all_eq_true] at e
      have h := e _ (List.contains_iff_mem.mp c)
      simp only [Bool.and_eq_true, Bool.or_eq_true, Bool.not_eq_true', Nat.blt_eq] at h
      have hg : gcd a k = 0 ∨ (74 ≤ gcd a k ∧ gcd a k < 117) ∨ 3368 ≤ gcd a k := by
        rcases h1 with q | q
        · subst q; exact Or.inl rfl
        · right
          unfold gcd
          cases q1 : Nat.blt a 117 with
          | false => exact Or.inl ⟨q, h2⟩
          | true =>
            cases q2 : Nat.blt (gp_ss a).1 13 with
            | false => exact Or.inl ⟨q, h2⟩
            | true => exact Or.inr (show 3368 ≤ 1000 + 32 * a + k by omega)
      obtain ⟨q1, q2⟩ := h
      have q3 : gcd a k ≠ 0 := fun q => by rw [q] at q1; cases q1
      omega
  have r := g.2.2.1 a k (Nat.zero_le _) h2 hc
  exact ⟨r.1, r.2.1⟩
theorem MW_XR {s t : gH} {A B A' B' : Nat} (h : MW s) (g : XR s t A B A' B') : MW t := by
  obtain ⟨h1, h2, h3⟩ := h
  have e : ∀ a k, 74 ≤ a → a < 117 → gp_I t a k = gp_I s a k := fun a k a1 a2 => (g.2 a k (Or.inr a1) a2).1
  refine ⟨fun a k a1 a2 => ?_, ?_, ?_⟩
  · rw [(g.2 a k (Or.inr a1) a2).1, (g.2 a k (Or.inr a1) a2).2]; exact h1 a k a1 a2
  · have mce : ∀ n k, mc t n k = mc s n k := fun n k => mc_eq n k (fun j _ => e 113 j (by decide) (by decide))
    intro h0
    obtain ⟨q1, q2, q3⟩ := h2 (by rw [← e 74 58 (by decide) (by decide)]; exact h0)
    unfold mMb
    rw [e 74 55 (by decide) (by decide), e 74 57 (by decide) (by decide)]
    refine ⟨q1, fun n hn => ?_, fun k hk => ?_⟩
    · rw [e 112 n (by decide) (by decide), e 81 _ (by decide) (by decide), mce]; exact q2 n hn
    · rw [e 113 k (by decide) (by decide), e 115 k (by decide) (by decide), e 81 _ (by decide) (by decide), mce]; exact q3 k hk
  · intro h9 k k1 k2
    rw [e 81 k (by decide) (by decide)]
    exact h3 (by rw [← e 74 9 (by decide) (by decide)]; exact h9) k k1 k2
def mx0 : List Nat := [75, 76, 77, 78, 79, 80, 81, 82, 83, 84, 85, 86, 87, 88, 89, 90, 91, 92, 93, 94, 95, 96, 97, 98, 99, 100, 101, 102, 103, 104, 105, 106, 107, 108, 109, 110, 111, 112, 113, 114, 115, 116, 3368, 3369, 3370, 3371, 3372, 3373, 3374, 3375, 3376, 3377, 3378, 3379, 3380, 3381, 3382, 3383, 3384, 3385, 3386, 3387, 3388, 3389, 3390, 3391, 3392, 3393, 3394, 3395, 3396, 3397, 3398, 3399, 3400, 3401, 3402, 3403, 3404, 3405, 3406, 3407, 3408, 3409, 3410, 3411, 3412, 3413, 3414, 3415, 3416, 3417, 3418, 3419, 3420, 3421, 3422, 3423, 3424, 3425, 3426, 3427, 3428, 3429, 3430]
/-- a call of the reference, seen from the class -/
theorem gF_sh {L : Nat} {m f : List Nat} {s t : gH} (h : gF m f s t) : gp_sh (gp_mk L t) = gp_sh (gp_mk L s) := congrArg (fun q : Nat → Nat × Nat => gp_sh (gp_mk L (t.1, t.2.1, q, t.2.2.2.1, t.2.2.2.2.1, t.2.2.2.2.2))) h.1.2.2.1
theorem gF_R {L : Nat} {m f : List Nat} {s t : gH} (h : gF m f s t) : gp_R (gp_mk L t) = gp_R (gp_mk L s) := congrArg (fun q : Nat → Nat → Option Nat => gp_R (gp_mk L (t.1, t.2.1, t.2.2.1, t.2.2.2.1, t.2.2.2.2.1, q))) h.1.2.2.2
theorem gF_lo {m f : List Nat} {s t : gH} (h : gF m f s t) (e : m.all (fun x => Nat.ble 75 x && Nat.blt x 117) = true) : ∀ a k, a < 74 ∨ 117 ≤ a → gp_I t a k = gp_I s a k ∧ gp_L t a k = gp_L s a k := fun a k ha => by
  refine h.2 a k ?_ (fun q => absurd q (by omega))
  cases c : m.contains a with
  | false => rfl
  | true =>
    rw [List.all_eq_true] at e
    have q := e _ (List.contains_iff_mem.mp c)
    simp only [Bool.and_eq_true, Nat.blt_eq, Nat.ble_eq] at q
    omega
theorem XI_gF {L : Nat} {m f : List Nat} {s t : gH} (x : XI L 0 s) (h : gF m f s t) (e : m.all (fun x => Nat.ble 75 x && Nat.blt x 117) = true) : XI L 0 t := by
  have lo := gF_lo h e
  have e1 := h.1.1
  have hn : ∀ b, NT L s b → NT L t b := fun b q a ha => q a (by rw [← gF_sh (L := L) h]; exact ha)
  have hb : ∀ a n f, BB L s a n f → BB L t a n f := fun a n f q => by
    obtain ⟨b, q1, q2, q3, q4, q5⟩ := q
    exact ⟨b, by rw [gF_R h]; exact q1, by rw [e1]; exact q2, by rw [gF_sh h]; exact q3, hn b q4, q5⟩
  refine ⟨⟨by rw [e1]; exact x.1.1, fun a ha he => ?_⟩, fun a k h1 => ?_⟩
  · obtain ⟨n, ⟨h1, h2, h3, h4, h5, h6⟩, h7⟩ := x.1.2 a (by rw [← gF_sh (L := L) h]; exact ha) he
    have ra : ∀ j, j ≤ 5 → a + j < 74 ∨ 117 ≤ a + j := fun j hj => by have := h1.2.2; omega
    refine ⟨n, ⟨by rw [e1]; exact h1, h2, by rw [(lo a 0 (ra 0 (by omega))).1]; exact h3, by rw [gF_R h]; exact h4, by rw [gF_sh h]; exact h5, fun i => by rw [(lo (a + 1) i (ra 1 (by omega))).2, (lo (a + 2) i (ra 2 (by omega))).2, (lo (a + 5) i (ra 5 (by omega))).1]; exact h6 i⟩, ?_⟩
    rcases h7 with q | q
    · exact Or.inl (by rw [gF_R h]; exact q)
    · exact Or.inr ⟨hb _ _ _ q.1, hb _ _ _ q.2.1, hb _ _ _ q.2.2.1, hb _ _ _ q.2.2.2⟩
  · rw [(lo a k (Or.inl h1)).1, (lo a k (Or.inl h1)).2]; exact x.2 a k h1
theorem gF_gX {L : Nat} {m f : List Nat} {s t : gH} (h : gF m f s t) (e : m.all (fun x => Nat.ble 75 x && Nat.blt x 117) = true) (e2 : m.all (fun x => mx0.contains x) = true) (e3 : f.all (fun x => mx0.contains (3368 + x)) = true) : gX L false mx0 s t := by
  refine ⟨⟨by rw [h.1.1]; exact Nat.le_refl _, fun a _ => by rw [gF_sh h], fun a b _ _ q => ⟨b, by rw [gF_R h]; exact q⟩⟩, fun _ => ⟨h.1.1, h.1.2.1⟩, fun a k _ h2 h3 => ?_, fun a k h1 _ => (gF_lo h e a k (Or.inr h1)).2⟩
  have q := h.2 a k (by
    cases c : m.contains a with
    | false => rfl
    | true =>
      have cm := List.contains_iff_mem.mp c
      rw [List.all_eq_true] at e e2
      have q1 := e _ cm
      have q2 := e2 _ cm
      simp only [Bool.and_eq_true, Nat.blt_eq, Nat.ble_eq] at q1
      have q3 : gcd a k = a := by
        have hc : a = 75 ∨ a = 76 ∨ a = 77 ∨ a = 78 ∨ a = 79 ∨ a = 80 ∨ a = 81 ∨ a = 82 ∨ a = 83 ∨ a = 84 ∨ a = 85 ∨ a = 86 ∨ a = 87 ∨ a = 88 ∨ a = 89 ∨ a = 90 ∨ a = 91 ∨ a = 92 ∨ a = 93 ∨ a = 94 ∨ a = 95 ∨ a = 96 ∨ a = 97 ∨ a = 98 ∨ a = 99 ∨ a = 100 ∨ a = 101 ∨ a = 102 ∨ a = 103 ∨ a = 104 ∨ a = 105 ∨ a = 106 ∨ a = 107 ∨ a = 108 ∨ a = 109 ∨ a = 110 ∨ a = 111 ∨ a = 112 ∨ a = 113 ∨ a = 114 ∨ a = 115 ∨ a = 116 := by omega
        rcases hc with hc | hc | hc | hc | hc | hc | hc | hc | hc | hc | hc | hc | hc | hc | hc | hc | hc | hc | hc | hc | hc | hc | hc | hc | hc | hc | hc | hc | hc | hc | hc | hc | hc | hc | hc | hc | hc | hc | hc | hc | hc | hc <;> subst hc <;> rfl
      rw [q3, q2] at h3; cases h3) (fun ea => by
    subst ea
    cases c : f.contains k with
    | false => rfl
    | true =>
      rw [List.all_eq_true] at e3
      have q1 := e3 _ (List.contains_iff_mem.mp c)
      have q3 : gcd 74 k = 3368 + k := rfl
      rw [q3, q1] at h3; cases h3)
  exact ⟨q.1, q.2, by rw [h.1.2.2.2]⟩
def MXX (L : Nat) (s t : gH) : Prop := (∀ A B, XW L A B s → XW L A B t) ∧ (gp_sz t = gp_sz s ∧ gp_us t = gp_us s) ∧ ∀ a k, a < 74 → gp_I t a k = gp_I s a k
theorem MXX_of {L : Nat} {m f : List Nat} {s t : gH} (h : gF m f s t) (e : m.all (fun x => Nat.ble 75 x && Nat.blt x 117) = true) (e2 : m.all (fun x => mx0.contains x) = true) (e3 : f.all (fun x => mx0.contains (3368 + x)) = true) : MXX L s t := by
  have g := gF_gX (L := L) h e e2 e3
  refine ⟨fun A B x => ?_, ⟨h.1.1, h.1.2.1⟩, fun a k ha => (gF_lo h e a k (Or.inl ha)).1⟩
  obtain ⟨x0, x1, x2, x3, x4, x5, x6, x7, x8, x9⟩ := x
  refine ⟨XI_gF x0 h e, XS_fr x1 g rfl, XK_fr x2 g rfl, SVP52_fr x3 g rfl rfl, SVF51_fr x4 g rfl rfl rfl, SVA51_fr x5 g rfl rfl, SVP61_fr x6 g rfl rfl, SVF60_fr x7 g rfl rfl rfl, SVA60_fr x8 g rfl rfl, MFV_le x9 g rfl rfl rfl (fun k => xr58 x0 k) ?_⟩
  rw [(gF_lo h e 57 3 (Or.inl (by decide))).1]
  exact Int.le_refl _
theorem xu_feed {L d A B : Nat} {K : Option gV → gH → Prop} {s : gH} (p0 : BitVec 64) (p1 : Int) (h : XW L A B s) (r_p1 : -2147483648 ≤ p1 ∧ p1 ≤ 2147483647) (k : ∀ (r : Int) (t : gH) (A1 B1 : Nat), XW L A1 B1 t → XR s t A B A1 B1 → (1 ≤ p1 ∧ p1 ≤ 8 ∧ gp_I s 1 2 + p1 ≤ 100 → r = gp_I s 1 2 + p1 ∧ gp_I t 1 2 = gp_I s 1 2 + p1) → (¬ (1 ≤ p1 ∧ p1 ≤ 8) → r = -1000000001 ∧ gp_I t 1 2 = gp_I s 1 2) → (1 ≤ p1 ∧ p1 ≤ 8 ∧ 100 < gp_I s 1 2 + p1 → r = -1000000004 ∧ gp_I t 1 2 = gp_I s 1 2) → (gp_I t 1 6 = gp_I s 1 6) → (KP 72 73 xV s t) → (FDX 3 bX s t (gp_I s 1 2) p0 p1) → K (some (gp_i r)) t) : gs_C L (d + 600) 2817 5 [gp_r (some 1), gp_l p0, gp_i p1] s K := by
  obtain ⟨hs, x1, x2, x3, x4, x5, x6, x7, x8, x9⟩ := h
  have htp := xr1_2 hs
  refine xp_feed2 (d := d + 599) p0 p1 hs r_p1  (fun r t hs9 hf z0 z1 z2 z3 => ?_)
  have htt := xr1_2 hs9
  have hz9 : gp_sz t = gp_sz s ∧ gp_us t = gp_us s := hf.2.1 rfl
  exact k r t A B ⟨hs9, (XS_fr x1 hf rfl), (XK_fr x2 hf rfl), (SVP52_fr x3 hf rfl rfl), (SVF51_fr x4 hf rfl rfl rfl), (SVA51_fr x5 hf rfl rfl), (SVP61_fr x6 hf rfl rfl), (SVF60_fr x7 hf rfl rfl rfl), (SVA60_fr x8 hf rfl rfl), (MFV_le x9 hf rfl rfl rfl (fun k => xr58 hs k) (by have h9 := (hf.2.2.1 57 3 (by decide) (by decide) rfl).1; omega))⟩ ⟨⟨by omega, by omega⟩, gX_ref hf rfl⟩ z0 z1 z2 (hf.2.2.1 1 6 (by decide) (by decide) rfl).1 (KP_x hf rfl rfl rfl rfl rfl rfl) z3
theorem xu_game {L d A B : Nat} {K : Option gV → gH → Prop} {s : gH} (p0 : Int) (h : XW L A B s) (r_p0 : -2147483648 ≤ p0 ∧ p0 ≤ 2147483647) (k : ∀ (r : Int) (t : gH) (A1 B1 : Nat), XW L A1 B1 t → XR s t A B A1 B1 → (0 ≤ p0 ∧ p0 ≤ 7 → gp_I t 1 2 = 0) → (p0 < 0 ∨ 7 < p0 → gp_I t 1 2 = gp_I s 1 2) → (gp_I t 1 6 = gp_I s 1 6) → (KP 72 73 xV s t) → (∀ k : Nat, gp_I t 3 k = gp_I s 3 k) → (GMP (fun k => gp_I s 3 k) (gp_I s 1 2) p0 r) → K (some (gp_i r)) t) : gs_C L (d + 600) 2818 3 [gp_r (some 1), gp_i p0] s K := by
  obtain ⟨hs, x1, x2, x3, x4, x5, x6, x7, x8, x9⟩ := h
  have htp := xr1_2 hs
  refine xp_game2 (d := d + 541) p0 hs r_p0 x1 (fun r t hs9 hf z0 z1 z2 z3 z4 z5 => ?_)
  have htt := xr1_2 hs9
  exact k r t A B ⟨hs9, z0, (XK_fr x2 hf rfl), (SVP52_fr x3 hf rfl rfl), (SVF51_fr x4 hf rfl rfl rfl), (SVA51_fr x5 hf rfl rfl), (SVP61_fr x6 hf rfl rfl), (SVF60_fr x7 hf rfl rfl rfl), (SVA60_fr x8 hf rfl rfl), (MFV_le x9 hf rfl rfl rfl (fun k => xr58 hs k) (by have h9 := (hf.2.2.1 57 3 (by decide) (by decide) rfl).1; omega))⟩ ⟨⟨by omega, by omega⟩, gX_ref hf rfl⟩ z1 z2 (hf.2.2.1 1 6 (by decide) (by decide) rfl).1 (KP_x hf rfl rfl rfl rfl rfl rfl) (fun k => (hf.2.2.1 3 k (by decide) (by decide) rfl).1) z5
theorem xu_strip {L d A B : Nat} {K : Option gV → gH → Prop} {s : gH} (p0 : Int) (h : XW L A B s) (r_p0 : -2147483648 ≤ p0 ∧ p0 ≤ 2147483647) (k : ∀ (r : Int) (t : gH) (A1 B1 : Nat), XW L A1 B1 t → XR s t A B A1 B1 → (0 ≤ p0 ∧ p0 ≤ 7 → gp_I t 1 2 = 0) → (p0 < 0 ∨ 7 < p0 → gp_I t 1 2 = gp_I s 1 2) → (gp_I t 1 6 = gp_I s 1 6) → (KP 72 73 xV s t) → (∀ k : Nat, gp_I t 3 k = gp_I s 3 k) → K (some (gp_i r)) t) : gs_C L (d + 600) 2819 4 [gp_r (some 1), gp_i p0] s K := by
  obtain ⟨hs, x1, x2, x3, x4, x5, x6, x7, x8, x9⟩ := h
  have htp := xr1_2 hs
  refine xp_strip (d := d + 548) p0 hs r_p0 x1 (fun r t hs9 hf z0 z1 z2 z3 z4 => ?_)
  have htt := xr1_2 hs9
  exact k r t A B ⟨hs9, z0, (XK_fr x2 hf rfl), (SVP52_fr x3 hf rfl rfl), (SVF51_fr x4 hf rfl rfl rfl), (SVA51_fr x5 hf rfl rfl), (SVP61_fr x6 hf rfl rfl), (SVF60_fr x7 hf rfl rfl rfl), (SVA60_fr x8 hf rfl rfl), (MFV_le x9 hf rfl rfl rfl (fun k => xr58 hs k) (by have h9 := (hf.2.2.1 57 3 (by decide) (by decide) rfl).1; omega))⟩ ⟨⟨by omega, by omega⟩, gX_ref hf rfl⟩ z1 z2 (hf.2.2.1 1 6 (by decide) (by decide) rfl).1 (KP_x hf rfl rfl rfl rfl rfl rfl) (fun k => (hf.2.2.1 3 k (by decide) (by decide) rfl).1)
theorem xu_ladder {L d A B : Nat} {K : Option gV → gH → Prop} {s : gH} (p0 : Int) (p1 : Int) (h : XW L A B s) (r_p0 : -2147483648 ≤ p0 ∧ p0 ≤ 2147483647) (r_p1 : -2147483648 ≤ p1 ∧ p1 ≤ 2147483647) (k : ∀ (r : Int) (t : gH) (A1 B1 : Nat), XW L A1 B1 t → XR s t A B A1 B1 → (gp_I t 1 2 = gp_I s 1 2) → (gp_I t 1 6 = gp_I s 1 6) → (KP 72 73 xV s t) → (∀ k : Nat, gp_I t 3 k = gp_I s 3 k) → K (some (gp_i r)) t) : gs_C L (d + 600) 2820 3 [gp_r (some 1), gp_i p0, gp_i p1] s K := by
  obtain ⟨hs, x1, x2, x3, x4, x5, x6, x7, x8, x9⟩ := h
  have htp := xr1_2 hs
  refine xp_ladder2 (d := d + 594) p0 p1 hs r_p0 r_p1 x1 (fun r t hs9 hf z0 z1 z2 z3 => ?_)
  have ht9 : gp_I t 1 2 = gp_I s 1 2 := (hf.2.2.1 1 2 (by decide) (by decide) rfl).1
  exact k r t A B ⟨hs9, z0, (XK_fr x2 hf rfl), (SVP52_fr x3 hf rfl rfl), (SVF51_fr x4 hf rfl rfl rfl), (SVA51_fr x5 hf rfl rfl), (SVP61_fr x6 hf rfl rfl), (SVF60_fr x7 hf rfl rfl rfl), (SVA60_fr x8 hf rfl rfl), (MFV_le x9 hf rfl rfl rfl (fun k => xr58 hs k) (by have h9 := (hf.2.2.1 57 3 (by decide) (by decide) rfl).1; omega))⟩ ⟨⟨by omega, by omega⟩, gX_ref hf rfl⟩ ht9 (hf.2.2.1 1 6 (by decide) (by decide) rfl).1 (KP_x hf rfl rfl rfl rfl rfl rfl) (fun k => (hf.2.2.1 3 k (by decide) (by decide) rfl).1)
theorem xu_waits {L d A B : Nat} {K : Option gV → gH → Prop} {s : gH} (p0 : Int) (p1 : Int) (h : XW L A B s) (r_p0 : -2147483648 ≤ p0 ∧ p0 ≤ 2147483647) (r_p1 : -2147483648 ≤ p1 ∧ p1 ≤ 2147483647) (k : ∀ (r : Int) (t : gH) (A1 B1 : Nat), XW L A1 B1 t → XR s t A B A1 B1 → (gp_I t 1 2 = gp_I s 1 2) → (gp_I t 1 6 = gp_I s 1 6) → (KP 72 73 xV s t) → (0 ≤ p0 ∧ p0 ≤ 7 ∧ 0 ≤ p1 ∧ p1 ≤ 20 → r = p1 + 1) → (¬ (0 ≤ p0 ∧ p0 ≤ 7 ∧ 0 ≤ p1 ∧ p1 ≤ 20) → r = -1000000001) → (∀ k : Nat, gp_I t 3 k = gp_I s 3 k) → K (some (gp_i r)) t) : gs_C L (d + 600) 2821 3 [gp_r (some 1), gp_i p0, gp_i p1] s K := by
  obtain ⟨hs, x1, x2, x3, x4, x5, x6, x7, x8, x9⟩ := h
  have htp := xr1_2 hs
  refine xp_waits2 (d := d + 598) p0 p1 hs r_p0 r_p1 x1 (fun r t hs9 hf z0 z1 z2 z3 z4 => ?_)
  have ht9 : gp_I t 1 2 = gp_I s 1 2 := (hf.2.2.1 1 2 (by decide) (by decide) rfl).1
  exact k r t A B ⟨hs9, z0, (XK_fr x2 hf rfl), (SVP52_fr x3 hf rfl rfl), (SVF51_fr x4 hf rfl rfl rfl), (SVA51_fr x5 hf rfl rfl), (SVP61_fr x6 hf rfl rfl), (SVF60_fr x7 hf rfl rfl rfl), (SVA60_fr x8 hf rfl rfl), (MFV_le x9 hf rfl rfl rfl (fun k => xr58 hs k) (by have h9 := (hf.2.2.1 57 3 (by decide) (by decide) rfl).1; omega))⟩ ⟨⟨by omega, by omega⟩, gX_ref hf rfl⟩ ht9 (hf.2.2.1 1 6 (by decide) (by decide) rfl).1 (KP_x hf rfl rfl rfl rfl rfl rfl) z3 z4 (fun k => (hf.2.2.1 3 k (by decide) (by decide) rfl).1)
theorem xu_join {L d A B : Nat} {K : Option gV → gH → Prop} {s : gH} (p0 : Int) (p1 : Int) (p2 : Int) (h : XW L A B s) (r_p0 : -2147483648 ≤ p0 ∧ p0 ≤ 2147483647) (r_p1 : -2147483648 ≤ p1 ∧ p1 ≤ 2147483647) (r_p2 : -2147483648 ≤ p2 ∧ p2 ≤ 2147483647) (k : ∀ (r : Int) (t : gH) (A1 B1 : Nat), XW L A1 B1 t → XR s t A B A1 B1 → (gp_I t 1 2 = gp_I s 1 2) → (gp_I t 1 6 = gp_I s 1 6) → (KP 72 73 xV s t) → (∀ k : Nat, gp_I t 3 k = gp_I s 3 k) → K (some (gp_i r)) t) : gs_C L (d + 600) 2822 5 [gp_r (some 1), gp_i p0, gp_i p1, gp_i p2] s K := by
  obtain ⟨hs, x1, x2, x3, x4, x5, x6, x7, x8, x9⟩ := h
  have htp := xr1_2 hs
  refine xp_join (d := d + 595) p0 p1 p2 hs r_p0 r_p1 r_p2 x1 (fun r t hs9 hf z0 z1 z2 => ?_)
  have ht9 : gp_I t 1 2 = gp_I s 1 2 := (hf.2.2.1 1 2 (by decide) (by decide) rfl).1
  exact k r t A B ⟨hs9, z0, (XK_fr x2 hf rfl), (SVP52_fr x3 hf rfl rfl), (SVF51_fr x4 hf rfl rfl rfl), (SVA51_fr x5 hf rfl rfl), (SVP61_fr x6 hf rfl rfl), (SVF60_fr x7 hf rfl rfl rfl), (SVA60_fr x8 hf rfl rfl), (MFV_le x9 hf rfl rfl rfl (fun k => xr58 hs k) (by have h9 := (hf.2.2.1 57 3 (by decide) (by decide) rfl).1; omega))⟩ ⟨⟨by omega, by omega⟩, gX_ref hf rfl⟩ ht9 (hf.2.2.1 1 6 (by decide) (by decide) rfl).1 (KP_x hf rfl rfl rfl rfl rfl rfl) (fun k => (hf.2.2.1 3 k (by decide) (by decide) rfl).1)
theorem xu_negate {L d A B : Nat} {K : Option gV → gH → Prop} {s : gH} (p0 : Int) (p1 : Int) (h : XW L A B s) (r_p0 : -2147483648 ≤ p0 ∧ p0 ≤ 2147483647) (r_p1 : -2147483648 ≤ p1 ∧ p1 ≤ 2147483647) (k : ∀ (r : Int) (t : gH) (A1 B1 : Nat), XW L A1 B1 t → XR s t A B A1 B1 → (gp_I t 1 2 = gp_I s 1 2) → (gp_I t 1 6 = gp_I s 1 6) → (KP 72 73 xV s t) → (∀ k : Nat, gp_I t 3 k = gp_I s 3 k) → K (some (gp_i r)) t) : gs_C L (d + 600) 2823 3 [gp_r (some 1), gp_i p0, gp_i p1] s K := by
  obtain ⟨hs, x1, x2, x3, x4, x5, x6, x7, x8, x9⟩ := h
  have htp := xr1_2 hs
  refine xp_negate (d := d + 594) p0 p1 hs r_p0 r_p1 x1 (fun r t hs9 hf z0 z1 z2 => ?_)
  have ht9 : gp_I t 1 2 = gp_I s 1 2 := (hf.2.2.1 1 2 (by decide) (by decide) rfl).1
  exact k r t A B ⟨hs9, z0, (XK_fr x2 hf rfl), (SVP52_fr x3 hf rfl rfl), (SVF51_fr x4 hf rfl rfl rfl), (SVA51_fr x5 hf rfl rfl), (SVP61_fr x6 hf rfl rfl), (SVF60_fr x7 hf rfl rfl rfl), (SVA60_fr x8 hf rfl rfl), (MFV_le x9 hf rfl rfl rfl (fun k => xr58 hs k) (by have h9 := (hf.2.2.1 57 3 (by decide) (by decide) rfl).1; omega))⟩ ⟨⟨by omega, by omega⟩, gX_ref hf rfl⟩ ht9 (hf.2.2.1 1 6 (by decide) (by decide) rfl).1 (KP_x hf rfl rfl rfl rfl rfl rfl) (fun k => (hf.2.2.1 3 k (by decide) (by decide) rfl).1)
theorem xu_option {L d A B : Nat} {K : Option gV → gH → Prop} {s : gH} (p0 : Int) (p1 : Int) (p2 : Int) (p3 : Int) (h : XW L A B s) (r_p0 : -2147483648 ≤ p0 ∧ p0 ≤ 2147483647) (r_p1 : -2147483648 ≤ p1 ∧ p1 ≤ 2147483647) (r_p2 : -2147483648 ≤ p2 ∧ p2 ≤ 2147483647) (r_p3 : -2147483648 ≤ p3 ∧ p3 ≤ 2147483647) (k : ∀ (r : Int) (t : gH) (A1 B1 : Nat), XW L A1 B1 t → XR s t A B A1 B1 → (gp_I t 1 2 = gp_I s 1 2) → (gp_I t 1 6 = gp_I s 1 6) → (KP 72 73 xV s t) → (∀ k : Nat, gp_I t 3 k = gp_I s 3 k) → K (some (gp_i r)) t) : gs_C L (d + 600) 2824 8 [gp_r (some 1), gp_i p0, gp_i p1, gp_i p2, gp_i p3] s K := by
  obtain ⟨hs, x1, x2, x3, x4, x5, x6, x7, x8, x9⟩ := h
  have htp := xr1_2 hs
  refine xp_option (d := d + 594) p0 p1 p2 p3 hs r_p0 r_p1 r_p2 r_p3 x1 (fun r t hs9 hf z0 z1 z2 => ?_)
  have ht9 : gp_I t 1 2 = gp_I s 1 2 := (hf.2.2.1 1 2 (by decide) (by decide) rfl).1
  exact k r t A B ⟨hs9, z0, (XK_fr x2 hf rfl), (SVP52_fr x3 hf rfl rfl), (SVF51_fr x4 hf rfl rfl rfl), (SVA51_fr x5 hf rfl rfl), (SVP61_fr x6 hf rfl rfl), (SVF60_fr x7 hf rfl rfl rfl), (SVA60_fr x8 hf rfl rfl), (MFV_le x9 hf rfl rfl rfl (fun k => xr58 hs k) (by have h9 := (hf.2.2.1 57 3 (by decide) (by decide) rfl).1; omega))⟩ ⟨⟨by omega, by omega⟩, gX_ref hf rfl⟩ ht9 (hf.2.2.1 1 6 (by decide) (by decide) rfl).1 (KP_x hf rfl rfl rfl rfl rfl rfl) (fun k => (hf.2.2.1 3 k (by decide) (by decide) rfl).1)
theorem xu_gameOf {L d A B : Nat} {K : Option gV → gH → Prop} {s : gH} (p0 : Int) (p1 : Int) (h : XW L A B s) (r_p0 : -2147483648 ≤ p0 ∧ p0 ≤ 2147483647) (r_p1 : -2147483648 ≤ p1 ∧ p1 ≤ 2147483647) (k : ∀ (r : Int) (t : gH) (A1 B1 : Nat), XW L A1 B1 t → XR s t A B A1 B1 → (gp_I t 1 2 = gp_I s 1 2) → (gp_I t 1 6 = gp_I s 1 6) → (KP 72 73 xV s t) → (∀ k : Nat, gp_I t 3 k = gp_I s 3 k) → K (some (gp_i r)) t) : gs_C L (d + 600) 2825 5 [gp_r (some 1), gp_i p0, gp_i p1] s K := by
  obtain ⟨hs, x1, x2, x3, x4, x5, x6, x7, x8, x9⟩ := h
  have htp := xr1_2 hs
  refine xp_gameOf (d := d + 593) p0 p1 hs r_p0 r_p1 x1 (fun r t hs9 hf z0 z1 => ?_)
  have ht9 : gp_I t 1 2 = gp_I s 1 2 := (hf.2.2.1 1 2 (by decide) (by decide) rfl).1
  exact k r t A B ⟨hs9, (XS_fr x1 hf rfl), (XK_fr x2 hf rfl), (SVP52_fr x3 hf rfl rfl), (SVF51_fr x4 hf rfl rfl rfl), (SVA51_fr x5 hf rfl rfl), (SVP61_fr x6 hf rfl rfl), (SVF60_fr x7 hf rfl rfl rfl), (SVA60_fr x8 hf rfl rfl), (MFV_le x9 hf rfl rfl rfl (fun k => xr58 hs k) (by have h9 := (hf.2.2.1 57 3 (by decide) (by decide) rfl).1; omega))⟩ ⟨⟨by omega, by omega⟩, gX_ref hf rfl⟩ ht9 (hf.2.2.1 1 6 (by decide) (by decide) rfl).1 (KP_x hf rfl rfl rfl rfl rfl rfl) (fun k => (hf.2.2.1 3 k (by decide) (by decide) rfl).1)
theorem xu_order {L d A B : Nat} {K : Option gV → gH → Prop} {s : gH} (p0 : Int) (p1 : Int) (h : XW L A B s) (r_p0 : -2147483648 ≤ p0 ∧ p0 ≤ 2147483647) (r_p1 : -2147483648 ≤ p1 ∧ p1 ≤ 2147483647) (k : ∀ (r : Int) (t : gH) (A1 B1 : Nat), XW L A1 B1 t → XR s t A B A1 B1 → (gp_I t 1 2 = gp_I s 1 2) → (gp_I t 1 6 = gp_I s 1 6) → (KP 72 73 xV s t) → (∀ k : Nat, gp_I t 3 k = gp_I s 3 k) → K (some (gp_i r)) t) : gs_C L (d + 600) 2827 3 [gp_r (some 1), gp_i p0, gp_i p1] s K := by
  obtain ⟨hs, x1, x2, x3, x4, x5, x6, x7, x8, x9⟩ := h
  have htp := xr1_2 hs
  refine xp_order (d := d + 595) p0 p1 hs r_p0 r_p1 x1 (fun r t hs9 hf  => ?_)
  have ht9 : gp_I t 1 2 = gp_I s 1 2 := (hf.2.2.1 1 2 (by decide) (by decide) rfl).1
  have hz9 : gp_sz t = gp_sz s ∧ gp_us t = gp_us s := hf.2.1 rfl
  exact k r t A B ⟨hs9, (XS_fr x1 hf rfl), (XK_fr x2 hf rfl), (SVP52_fr x3 hf rfl rfl), (SVF51_fr x4 hf rfl rfl rfl), (SVA51_fr x5 hf rfl rfl), (SVP61_fr x6 hf rfl rfl), (SVF60_fr x7 hf rfl rfl rfl), (SVA60_fr x8 hf rfl rfl), (MFV_le x9 hf rfl rfl rfl (fun k => xr58 hs k) (by have h9 := (hf.2.2.1 57 3 (by decide) (by decide) rfl).1; omega))⟩ ⟨⟨by omega, by omega⟩, gX_ref hf rfl⟩ ht9 (hf.2.2.1 1 6 (by decide) (by decide) rfl).1 (KP_x hf rfl rfl rfl rfl rfl rfl) (fun k => (hf.2.2.1 3 k (by decide) (by decide) rfl).1)
theorem xu_compare {L d A B : Nat} {K : Option gV → gH → Prop} {s : gH} (p0 : Int) (p1 : Int) (h : XW L A B s) (r_p0 : -2147483648 ≤ p0 ∧ p0 ≤ 2147483647) (r_p1 : -2147483648 ≤ p1 ∧ p1 ≤ 2147483647) (k : ∀ (r : Int) (t : gH) (A1 B1 : Nat), XW L A1 B1 t → XR s t A B A1 B1 → (gp_I t 1 2 = gp_I s 1 2) → (gp_I t 1 6 = gp_I s 1 6) → (KP 72 73 xV s t) → (∀ k : Nat, gp_I t 3 k = gp_I s 3 k) → K (some (gp_i r)) t) : gs_C L (d + 600) 2828 4 [gp_r (some 1), gp_i p0, gp_i p1] s K := by
  obtain ⟨hs, x1, x2, x3, x4, x5, x6, x7, x8, x9⟩ := h
  have htp := xr1_2 hs
  refine xp_compare (d := d + 593) p0 p1 hs r_p0 r_p1 x1 (fun r t hs9 hf z0 z1 => ?_)
  have ht9 : gp_I t 1 2 = gp_I s 1 2 := (hf.2.2.1 1 2 (by decide) (by decide) rfl).1
  exact k r t A B ⟨hs9, (XS_fr x1 hf rfl), (XK_fr x2 hf rfl), (SVP52_fr x3 hf rfl rfl), (SVF51_fr x4 hf rfl rfl rfl), (SVA51_fr x5 hf rfl rfl), (SVP61_fr x6 hf rfl rfl), (SVF60_fr x7 hf rfl rfl rfl), (SVA60_fr x8 hf rfl rfl), (MFV_le x9 hf rfl rfl rfl (fun k => xr58 hs k) (by have h9 := (hf.2.2.1 57 3 (by decide) (by decide) rfl).1; omega))⟩ ⟨⟨by omega, by omega⟩, gX_ref hf rfl⟩ ht9 (hf.2.2.1 1 6 (by decide) (by decide) rfl).1 (KP_x hf rfl rfl rfl rfl rfl rfl) (fun k => (hf.2.2.1 3 k (by decide) (by decide) rfl).1)
theorem xu_answer {L d A B : Nat} {K : Option gV → gH → Prop} {s : gH} (p0 : Int) (p1 : Int) (p2 : Int) (p3 : Int) (h : XW L A B s) (r_p0 : -2147483648 ≤ p0 ∧ p0 ≤ 2147483647) (r_p1 : -2147483648 ≤ p1 ∧ p1 ≤ 2147483647) (r_p2 : -2147483648 ≤ p2 ∧ p2 ≤ 2147483647) (r_p3 : -2147483648 ≤ p3 ∧ p3 ≤ 2147483647) (k : ∀ (r : Int) (t : gH) (A1 B1 : Nat), XW L A1 B1 t → XR s t A B A1 B1 → (gp_I t 1 2 = gp_I s 1 2) → (gp_I t 1 6 = gp_I s 1 6) → (KP 72 73 xV s t) → (∀ k : Nat, gp_I t 3 k = gp_I s 3 k) → K (some (gp_i r)) t) : gs_C L (d + 600) 2830 11 [gp_r (some 1), gp_i p0, gp_i p1, gp_i p2, gp_i p3] s K := by
  obtain ⟨hs, x1, x2, x3, x4, x5, x6, x7, x8, x9⟩ := h
  have htp := xr1_2 hs
  refine xp_answer (d := d + 593) p0 p1 p2 p3 hs r_p0 r_p1 r_p2 r_p3 x1 (fun r t hs9 hf z0 z1 => ?_)
  have ht9 : gp_I t 1 2 = gp_I s 1 2 := (hf.2.2.1 1 2 (by decide) (by decide) rfl).1
  exact k r t A B ⟨hs9, (XS_fr x1 hf rfl), (XK_fr x2 hf rfl), (SVP52_fr x3 hf rfl rfl), (SVF51_fr x4 hf rfl rfl rfl), (SVA51_fr x5 hf rfl rfl), (SVP61_fr x6 hf rfl rfl), (SVF60_fr x7 hf rfl rfl rfl), (SVA60_fr x8 hf rfl rfl), (MFV_le x9 hf rfl rfl rfl (fun k => xr58 hs k) (by have h9 := (hf.2.2.1 57 3 (by decide) (by decide) rfl).1; omega))⟩ ⟨⟨by omega, by omega⟩, gX_ref hf rfl⟩ ht9 (hf.2.2.1 1 6 (by decide) (by decide) rfl).1 (KP_x hf rfl rfl rfl rfl rfl rfl) (fun k => (hf.2.2.1 3 k (by decide) (by decide) rfl).1)
theorem xu_reduce {L d A B : Nat} {K : Option gV → gH → Prop} {s : gH} (p0 : Int) (p1 : Int) (h : XW L A B s) (r_p0 : -2147483648 ≤ p0 ∧ p0 ≤ 2147483647) (r_p1 : -2147483648 ≤ p1 ∧ p1 ≤ 2147483647) (k : ∀ (r : Int) (t : gH) (A1 B1 : Nat), XW L A1 B1 t → XR s t A B A1 B1 → (gp_I t 1 2 = gp_I s 1 2) → (gp_I t 1 6 = gp_I s 1 6) → (KP 72 73 xV s t) → (∀ k : Nat, gp_I t 3 k = gp_I s 3 k) → K (some (gp_i r)) t) : gs_C L (d + 600) 2831 3 [gp_r (some 1), gp_i p0, gp_i p1] s K := by
  obtain ⟨hs, x1, x2, x3, x4, x5, x6, x7, x8, x9⟩ := h
  have htp := xr1_2 hs
  refine xp_reduce (d := d + 594) p0 p1 hs r_p0 r_p1 x1 (fun r t hs9 hf z0 z1 z2 => ?_)
  have ht9 : gp_I t 1 2 = gp_I s 1 2 := (hf.2.2.1 1 2 (by decide) (by decide) rfl).1
  exact k r t A B ⟨hs9, z0, (XK_fr x2 hf rfl), (SVP52_fr x3 hf rfl rfl), (SVF51_fr x4 hf rfl rfl rfl), (SVA51_fr x5 hf rfl rfl), (SVP61_fr x6 hf rfl rfl), (SVF60_fr x7 hf rfl rfl rfl), (SVA60_fr x8 hf rfl rfl), (MFV_le x9 hf rfl rfl rfl (fun k => xr58 hs k) (by have h9 := (hf.2.2.1 57 3 (by decide) (by decide) rfl).1; omega))⟩ ⟨⟨by omega, by omega⟩, gX_ref hf rfl⟩ ht9 (hf.2.2.1 1 6 (by decide) (by decide) rfl).1 (KP_x hf rfl rfl rfl rfl rfl rfl) (fun k => (hf.2.2.1 3 k (by decide) (by decide) rfl).1)
theorem xu_score {L d A B : Nat} {K : Option gV → gH → Prop} {s : gH} (p0 : Int) (p1 : Int) (h : XW L A B s) (r_p0 : -2147483648 ≤ p0 ∧ p0 ≤ 2147483647) (r_p1 : -2147483648 ≤ p1 ∧ p1 ≤ 2147483647) (k : ∀ (r : Int) (t : gH) (A1 B1 : Nat), XW L A1 B1 t → XR s t A B A1 B1 → (gp_I t 1 2 = gp_I s 1 2) → (gp_I t 1 6 = gp_I s 1 6) → (KP 72 73 xV s t) → (∀ k : Nat, gp_I t 3 k = gp_I s 3 k) → K (some (gp_i r)) t) : gs_C L (d + 600) 2832 3 [gp_r (some 1), gp_i p0, gp_i p1] s K := by
  obtain ⟨hs, x1, x2, x3, x4, x5, x6, x7, x8, x9⟩ := h
  have htp := xr1_2 hs
  refine xp_score (d := d + 594) A p0 p1 hs r_p0 r_p1 x1 x3 x4 x5 (fun r t hs9 hf z0 z1 z2 => ?_)
  obtain ⟨Z, b1, b2, b3⟩ := z2
  have ht9 : gp_I t 1 2 = gp_I s 1 2 := (hf.2.2.1 1 2 (by decide) (by decide) rfl).1
  exact k r t Z B ⟨hs9, (XS_fr x1 hf rfl), (XK_fr x2 hf rfl), z0, z1, b1, (SVP61_fr x6 hf rfl rfl), (SVF60_fr x7 hf rfl rfl rfl), (SVA60_fr x8 hf rfl rfl), (MFV_le x9 hf rfl rfl rfl (fun k => xr58 hs k) (by have h9 := (hf.2.2.1 57 3 (by decide) (by decide) rfl).1; omega))⟩ ⟨⟨by omega, by omega⟩, gX_ref hf rfl⟩ ht9 (hf.2.2.1 1 6 (by decide) (by decide) rfl).1 (KP_x hf rfl rfl rfl rfl rfl rfl) (fun k => (hf.2.2.1 3 k (by decide) (by decide) rfl).1)
theorem xu_best {L d A B : Nat} {K : Option gV → gH → Prop} {s : gH} (p0 : Int) (p1 : Int) (h : XW L A B s) (r_p0 : -2147483648 ≤ p0 ∧ p0 ≤ 2147483647) (r_p1 : -2147483648 ≤ p1 ∧ p1 ≤ 2147483647) (k : ∀ (r : Int) (t : gH) (A1 B1 : Nat), XW L A1 B1 t → XR s t A B A1 B1 → (gp_I t 1 2 = gp_I s 1 2) → (gp_I t 1 6 = gp_I s 1 6) → (KP 72 73 xV s t) → (∀ k : Nat, gp_I t 3 k = gp_I s 3 k) → K (some (gp_i r)) t) : gs_C L (d + 600) 2833 4 [gp_r (some 1), gp_i p0, gp_i p1] s K := by
  obtain ⟨hs, x1, x2, x3, x4, x5, x6, x7, x8, x9⟩ := h
  have htp := xr1_2 hs
  refine xp_best (d := d + 594) A p0 p1 hs r_p0 r_p1 x1 x3 x4 x5 (fun r t hs9 hf z0 z1 z2 => ?_)
  obtain ⟨Z, b1, b2, b3⟩ := z2
  have ht9 : gp_I t 1 2 = gp_I s 1 2 := (hf.2.2.1 1 2 (by decide) (by decide) rfl).1
  exact k r t Z B ⟨hs9, (XS_fr x1 hf rfl), (XK_fr x2 hf rfl), z0, z1, b1, (SVP61_fr x6 hf rfl rfl), (SVF60_fr x7 hf rfl rfl rfl), (SVA60_fr x8 hf rfl rfl), (MFV_le x9 hf rfl rfl rfl (fun k => xr58 hs k) (by have h9 := (hf.2.2.1 57 3 (by decide) (by decide) rfl).1; omega))⟩ ⟨⟨by omega, by omega⟩, gX_ref hf rfl⟩ ht9 (hf.2.2.1 1 6 (by decide) (by decide) rfl).1 (KP_x hf rfl rfl rfl rfl rfl rfl) (fun k => (hf.2.2.1 3 k (by decide) (by decide) rfl).1)
theorem xu_begin {L d A B : Nat} {K : Option gV → gH → Prop} {s : gH} (p0 : Int) (p1 : Int) (h : XW L A B s) (r_p0 : -2147483648 ≤ p0 ∧ p0 ≤ 2147483647) (r_p1 : -2147483648 ≤ p1 ∧ p1 ≤ 2147483647) (k : ∀ (r : Int) (t : gH) (A1 B1 : Nat), XW L A1 B1 t → XR s t A B A1 B1 → (gp_I t 1 2 = gp_I s 1 2) → (gp_I t 1 6 = gp_I s 1 6) → (KP 72 73 xV s t) → (∀ k : Nat, gp_I t 3 k = gp_I s 3 k) → K (some (gp_i r)) t) : gs_C L (d + 600) 2834 3 [gp_r (some 1), gp_i p0, gp_i p1] s K := by
  obtain ⟨hs, x1, x2, x3, x4, x5, x6, x7, x8, x9⟩ := h
  have htp := xr1_2 hs
  refine xp_begin (d := d + 596) p0 p1 hs r_p0 r_p1 x1 x6 x7 x9 (fun r t hs9 hf z0 z1 z2 => ?_)
  have ht9 : gp_I t 1 2 = gp_I s 1 2 := (hf.2.2.1 1 2 (by decide) (by decide) rfl).1
  have hz9 : gp_sz t = gp_sz s ∧ gp_us t = gp_us s := hf.2.1 rfl
  exact k r t A B ⟨hs9, (XS_fr x1 hf rfl), (XK_fr x2 hf rfl), (SVP52_fr x3 hf rfl rfl), (SVF51_fr x4 hf rfl rfl rfl), (SVA51_fr x5 hf rfl rfl), z0, z1, (SVA60_fr x8 hf rfl rfl), z2⟩ ⟨⟨by omega, by omega⟩, gX_ref hf rfl⟩ ht9 (hf.2.2.1 1 6 (by decide) (by decide) rfl).1 (KP_x hf rfl rfl rfl rfl rfl rfl) (fun k => (hf.2.2.1 3 k (by decide) (by decide) rfl).1)
theorem xu_go {L d A B : Nat} {K : Option gV → gH → Prop} {s : gH} (p0 : Int) (p1 : Int) (h : XW L A B s) (r_p0 : -2147483648 ≤ p0 ∧ p0 ≤ 2147483647) (r_p1 : -2147483648 ≤ p1 ∧ p1 ≤ 2147483647) (k : ∀ (r : Int) (t : gH) (A1 B1 : Nat), XW L A1 B1 t → XR s t A B A1 B1 → (gp_I t 1 2 = gp_I s 1 2) → (gp_I t 1 6 = gp_I s 1 6) → (KP 72 73 xV s t) → (∀ k : Nat, gp_I t 3 k = gp_I s 3 k) → K (some (gp_i r)) t) : gs_C L (d + 600) 2835 4 [gp_r (some 1), gp_i p0, gp_i p1] s K := by
  obtain ⟨hs, x1, x2, x3, x4, x5, x6, x7, x8, x9⟩ := h
  have htp := xr1_2 hs
  refine xp_go (d := d + 596) p0 p1 hs r_p0 r_p1 x6 x9 (fun r t hs9 hf z0 z1 => ?_)
  have ht9 : gp_I t 1 2 = gp_I s 1 2 := (hf.2.2.1 1 2 (by decide) (by decide) rfl).1
  have hz9 : gp_sz t = gp_sz s ∧ gp_us t = gp_us s := hf.2.1 rfl
  exact k r t A B ⟨hs9, (XS_fr x1 hf rfl), (XK_fr x2 hf rfl), (SVP52_fr x3 hf rfl rfl), (SVF51_fr x4 hf rfl rfl rfl), (SVA51_fr x5 hf rfl rfl), z0, (SVF60_fr x7 hf rfl rfl rfl), (SVA60_fr x8 hf rfl rfl), z1⟩ ⟨⟨by omega, by omega⟩, gX_ref hf rfl⟩ ht9 (hf.2.2.1 1 6 (by decide) (by decide) rfl).1 (KP_x hf rfl rfl rfl rfl rfl rfl) (fun k => (hf.2.2.1 3 k (by decide) (by decide) rfl).1)
theorem xu_play {L d A B : Nat} {K : Option gV → gH → Prop} {s : gH} (p0 : Int) (h : XW L A B s) (r_p0 : -2147483648 ≤ p0 ∧ p0 ≤ 2147483647) (k : ∀ (r : Int) (t : gH) (A1 B1 : Nat), XW L A1 B1 t → XR s t A B A1 B1 → (gp_I t 1 2 = gp_I s 1 2) → (gp_I t 1 6 = gp_I s 1 6) → (KP 72 73 xV s t) → (∀ k : Nat, gp_I t 3 k = gp_I s 3 k) → K (some (gp_i r)) t) : gs_C L (d + 600) 2836 3 [gp_r (some 1), gp_i p0] s K := by
  obtain ⟨hs, x1, x2, x3, x4, x5, x6, x7, x8, x9⟩ := h
  have htp := xr1_2 hs
  refine xp_play (d := d + 594) B p0 hs r_p0 x6 x7 x8 x9 (fun r t hs9 hf z0 z1 z2 z3 => ?_)
  obtain ⟨Z, b1, b2, b3⟩ := z2
  have ht9 : gp_I t 1 2 = gp_I s 1 2 := (hf.2.2.1 1 2 (by decide) (by decide) rfl).1
  exact k r t A Z ⟨hs9, (XS_fr x1 hf rfl), (XK_fr x2 hf rfl), (SVP52_fr x3 hf rfl rfl), (SVF51_fr x4 hf rfl rfl rfl), (SVA51_fr x5 hf rfl rfl), z0, z1, b1, z3⟩ ⟨⟨by omega, by omega⟩, gX_ref hf rfl⟩ ht9 (hf.2.2.1 1 6 (by decide) (by decide) rfl).1 (KP_x hf rfl rfl rfl rfl rfl rfl) (fun k => (hf.2.2.1 3 k (by decide) (by decide) rfl).1)
theorem xu_loose {L d A B : Nat} {K : Option gV → gH → Prop} {s : gH} (p0 : Int) (h : XW L A B s) (r_p0 : -2147483648 ≤ p0 ∧ p0 ≤ 2147483647) (k : ∀ (r : Int) (t : gH) (A1 B1 : Nat), XW L A1 B1 t → XR s t A B A1 B1 → (gp_I t 1 2 = gp_I s 1 2) → (gp_I t 1 6 = gp_I s 1 6) → (KP 72 73 xV s t) → (∀ k : Nat, gp_I t 3 k = gp_I s 3 k) → K (some (gp_i r)) t) : gs_C L (d + 600) 2837 3 [gp_r (some 1), gp_i p0] s K := by
  obtain ⟨hs, x1, x2, x3, x4, x5, x6, x7, x8, x9⟩ := h
  have htp := xr1_2 hs
  refine xp_loose (d := d + 596) p0 hs r_p0 x6 x9 (fun r t hs9 hf z0 z1 => ?_)
  have ht9 : gp_I t 1 2 = gp_I s 1 2 := (hf.2.2.1 1 2 (by decide) (by decide) rfl).1
  have hz9 : gp_sz t = gp_sz s ∧ gp_us t = gp_us s := hf.2.1 rfl
  exact k r t A B ⟨hs9, (XS_fr x1 hf rfl), (XK_fr x2 hf rfl), (SVP52_fr x3 hf rfl rfl), (SVF51_fr x4 hf rfl rfl rfl), (SVA51_fr x5 hf rfl rfl), z0, (SVF60_fr x7 hf rfl rfl rfl), (SVA60_fr x8 hf rfl rfl), z1⟩ ⟨⟨by omega, by omega⟩, gX_ref hf rfl⟩ ht9 (hf.2.2.1 1 6 (by decide) (by decide) rfl).1 (KP_x hf rfl rfl rfl rfl rfl rfl) (fun k => (hf.2.2.1 3 k (by decide) (by decide) rfl).1)
theorem xu_back {L d A B : Nat} {K : Option gV → gH → Prop} {s : gH}  (h : XW L A B s)  (k : ∀ (r : Int) (t : gH) (A1 B1 : Nat), XW L A1 B1 t → XR s t A B A1 B1 → (gp_I t 1 2 = gp_I s 1 2) → (gp_I t 1 6 = gp_I s 1 6) → (KP 72 73 xV s t) → (∀ k : Nat, gp_I t 3 k = gp_I s 3 k) → K (some (gp_i r)) t) : gs_C L (d + 600) 2838 1 [gp_r (some 1)] s K := by
  obtain ⟨hs, x1, x2, x3, x4, x5, x6, x7, x8, x9⟩ := h
  have htp := xr1_2 hs
  refine xp_back (d := d + 599) hs  x6 x9 (fun r t hs9 hf z0 z1 => ?_)
  have ht9 : gp_I t 1 2 = gp_I s 1 2 := (hf.2.2.1 1 2 (by decide) (by decide) rfl).1
  have hz9 : gp_sz t = gp_sz s ∧ gp_us t = gp_us s := hf.2.1 rfl
  exact k r t A B ⟨hs9, (XS_fr x1 hf rfl), (XK_fr x2 hf rfl), (SVP52_fr x3 hf rfl rfl), (SVF51_fr x4 hf rfl rfl rfl), (SVA51_fr x5 hf rfl rfl), z0, (SVF60_fr x7 hf rfl rfl rfl), (SVA60_fr x8 hf rfl rfl), z1⟩ ⟨⟨by omega, by omega⟩, gX_ref hf rfl⟩ ht9 (hf.2.2.1 1 6 (by decide) (by decide) rfl).1 (KP_x hf rfl rfl rfl rfl rfl rfl) (fun k => (hf.2.2.1 3 k (by decide) (by decide) rfl).1)
theorem xu_matchOf {L d A B : Nat} {K : Option gV → gH → Prop} {s : gH} (p0 : Int) (h : XW L A B s) (r_p0 : -2147483648 ≤ p0 ∧ p0 ≤ 2147483647) (k : ∀ (r : Int) (t : gH) (A1 B1 : Nat), XW L A1 B1 t → XR s t A B A1 B1 → (gp_I t 1 2 = gp_I s 1 2) → (gp_I t 1 6 = gp_I s 1 6) → (KP 72 73 xV s t) → (∀ k : Nat, gp_I t 3 k = gp_I s 3 k) → K (some (gp_i r)) t) : gs_C L (d + 600) 2839 2 [gp_r (some 1), gp_i p0] s K := by
  obtain ⟨hs, x1, x2, x3, x4, x5, x6, x7, x8, x9⟩ := h
  have htp := xr1_2 hs
  refine xp_matchOf (d := d + 594) B p0 hs r_p0 x6 x7 x8 (fun r t hs9 hf z0 z1 z2 => ?_)
  obtain ⟨Z, b1, b2, b3⟩ := z2
  have ht9 : gp_I t 1 2 = gp_I s 1 2 := (hf.2.2.1 1 2 (by decide) (by decide) rfl).1
  exact k r t A Z ⟨hs9, (XS_fr x1 hf rfl), (XK_fr x2 hf rfl), (SVP52_fr x3 hf rfl rfl), (SVF51_fr x4 hf rfl rfl rfl), (SVA51_fr x5 hf rfl rfl), z0, z1, b1, (MFV_le x9 hf rfl rfl rfl (fun k => xr58 hs k) (by have h9 := (hf.2.2.1 57 3 (by decide) (by decide) rfl).1; omega))⟩ ⟨⟨by omega, by omega⟩, gX_ref hf rfl⟩ ht9 (hf.2.2.1 1 6 (by decide) (by decide) rfl).1 (KP_x hf rfl rfl rfl rfl rfl rfl) (fun k => (hf.2.2.1 3 k (by decide) (by decide) rfl).1)
theorem xu_moved {L d A B : Nat} {K : Option gV → gH → Prop} {s : gH} (p0 : Int) (h : XW L A B s) (r_p0 : -2147483648 ≤ p0 ∧ p0 ≤ 2147483647) (k : ∀ (r : Int) (t : gH) (A1 B1 : Nat), XW L A1 B1 t → XR s t A B A1 B1 → (gp_I t 1 2 = gp_I s 1 2) → (gp_I t 1 6 = gp_I s 1 6) → (KP 72 73 xV s t) → (∀ k : Nat, gp_I t 3 k = gp_I s 3 k) → K (some (gp_i r)) t) : gs_C L (d + 600) 2840 2 [gp_r (some 1), gp_i p0] s K := by
  obtain ⟨hs, x1, x2, x3, x4, x5, x6, x7, x8, x9⟩ := h
  have htp := xr1_2 hs
  refine xp_moved (d := d + 599) p0 hs r_p0  (fun r t hs9 hf  => ?_)
  have ht9 : gp_I t 1 2 = gp_I s 1 2 := (hf.2.2.1 1 2 (by decide) (by decide) rfl).1
  have hz9 : gp_sz t = gp_sz s ∧ gp_us t = gp_us s := hf.2.1 rfl
  exact k r t A B ⟨hs9, (XS_fr x1 hf rfl), (XK_fr x2 hf rfl), (SVP52_fr x3 hf rfl rfl), (SVF51_fr x4 hf rfl rfl rfl), (SVA51_fr x5 hf rfl rfl), (SVP61_fr x6 hf rfl rfl), (SVF60_fr x7 hf rfl rfl rfl), (SVA60_fr x8 hf rfl rfl), (MFV_le x9 hf rfl rfl rfl (fun k => xr58 hs k) (by have h9 := (hf.2.2.1 57 3 (by decide) (by decide) rfl).1; omega))⟩ ⟨⟨by omega, by omega⟩, gX_ref hf rfl⟩ ht9 (hf.2.2.1 1 6 (by decide) (by decide) rfl).1 (KP_x hf rfl rfl rfl rfl rfl rfl) (fun k => (hf.2.2.1 3 k (by decide) (by decide) rfl).1)
theorem xu_board {L d A B : Nat} {K : Option gV → gH → Prop} {s : gH} (p0 : Int) (p1 : Int) (h : XW L A B s) (r_p0 : -2147483648 ≤ p0 ∧ p0 ≤ 2147483647) (r_p1 : -2147483648 ≤ p1 ∧ p1 ≤ 2147483647) (k : ∀ (r : Int) (t : gH) (A1 B1 : Nat), XW L A1 B1 t → XR s t A B A1 B1 → (gp_I t 1 2 = gp_I s 1 2) → (gp_I t 1 6 = gp_I s 1 6) → (KP 72 73 xV s t) → (∀ k : Nat, gp_I t 3 k = gp_I s 3 k) → K (some (gp_i r)) t) : gs_C L (d + 600) 2841 4 [gp_r (some 1), gp_i p0, gp_i p1] s K := by
  obtain ⟨hs, x1, x2, x3, x4, x5, x6, x7, x8, x9⟩ := h
  have htp := xr1_2 hs
  refine xp_board (d := d + 594) p0 p1 hs r_p0 r_p1 x1 x6 (fun r t hs9 hf z0 z1 z2 => ?_)
  have ht9 : gp_I t 1 2 = gp_I s 1 2 := (hf.2.2.1 1 2 (by decide) (by decide) rfl).1
  exact k r t A B ⟨hs9, z0, (XK_fr x2 hf rfl), (SVP52_fr x3 hf rfl rfl), (SVF51_fr x4 hf rfl rfl rfl), (SVA51_fr x5 hf rfl rfl), (SVP61_fr x6 hf rfl rfl), (SVF60_fr x7 hf rfl rfl rfl), (SVA60_fr x8 hf rfl rfl), (MFV_le x9 hf rfl rfl rfl (fun k => xr58 hs k) (by have h9 := (hf.2.2.1 57 3 (by decide) (by decide) rfl).1; omega))⟩ ⟨⟨by omega, by omega⟩, gX_ref hf rfl⟩ ht9 (hf.2.2.1 1 6 (by decide) (by decide) rfl).1 (KP_x hf rfl rfl rfl rfl rfl rfl) (fun k => (hf.2.2.1 3 k (by decide) (by decide) rfl).1)
theorem xu_sheet {L d A B : Nat} {K : Option gV → gH → Prop} {s : gH} (p0 : Int) (p1 : Int) (p2 : Int) (h : XW L A B s) (r_p0 : -2147483648 ≤ p0 ∧ p0 ≤ 2147483647) (r_p1 : -2147483648 ≤ p1 ∧ p1 ≤ 2147483647) (r_p2 : -2147483648 ≤ p2 ∧ p2 ≤ 2147483647) (k : ∀ (r : Int) (t : gH) (A1 B1 : Nat), XW L A1 B1 t → XR s t A B A1 B1 → (gp_I t 1 2 = gp_I s 1 2) → (gp_I t 1 6 = gp_I s 1 6) → (SHP 72 73 xV s t p0 p1 p2 r) → (∀ k : Nat, gp_I t 3 k = gp_I s 3 k) → K (some (gp_i r)) t) : gs_C L (d + 600) 2842 4 [gp_r (some 1), gp_i p0, gp_i p1, gp_i p2] s K := by
  obtain ⟨hs, x1, x2, x3, x4, x5, x6, x7, x8, x9⟩ := h
  have htp := xr1_2 hs
  refine xp_sheet2 (d := d + 599) p0 p1 p2 hs r_p0 r_p1 r_p2  (fun r t hs9 hf z0 => ?_)
  have ht9 : gp_I t 1 2 = gp_I s 1 2 := (hf.2.2.1 1 2 (by decide) (by decide) rfl).1
  have hz9 : gp_sz t = gp_sz s ∧ gp_us t = gp_us s := hf.2.1 rfl
  exact k r t A B ⟨hs9, (XS_fr x1 hf rfl), (XK_fr x2 hf rfl), (SVP52_fr x3 hf rfl rfl), (SVF51_fr x4 hf rfl rfl rfl), (SVA51_fr x5 hf rfl rfl), (SVP61_fr x6 hf rfl rfl), (SVF60_fr x7 hf rfl rfl rfl), (SVA60_fr x8 hf rfl rfl), (MFV_le x9 hf rfl rfl rfl (fun k => xr58 hs k) (by have h9 := (hf.2.2.1 57 3 (by decide) (by decide) rfl).1; omega))⟩ ⟨⟨by omega, by omega⟩, gX_ref hf rfl⟩ ht9 (hf.2.2.1 1 6 (by decide) (by decide) rfl).1 z0 (fun k => (hf.2.2.1 3 k (by decide) (by decide) rfl).1)
theorem xu_put {L d A B : Nat} {K : Option gV → gH → Prop} {s : gH} (p0 : Int) (p1 : Int) (p2 : Int) (h : XW L A B s) (r_p0 : -2147483648 ≤ p0 ∧ p0 ≤ 2147483647) (r_p1 : -2147483648 ≤ p1 ∧ p1 ≤ 2147483647) (r_p2 : -2147483648 ≤ p2 ∧ p2 ≤ 2147483647) (k : ∀ (r : Int) (t : gH) (A1 B1 : Nat), XW L A1 B1 t → XR s t A B A1 B1 → (gp_I t 1 2 = gp_I s 1 2) → (gp_I t 1 6 = gp_I s 1 6) → (PTP 72 73 xV s t p0 p1 p2 r) → (∀ k : Nat, gp_I t 3 k = gp_I s 3 k) → K (some (gp_i r)) t) : gs_C L (d + 600) 2843 4 [gp_r (some 1), gp_i p0, gp_i p1, gp_i p2] s K := by
  obtain ⟨hs, x1, x2, x3, x4, x5, x6, x7, x8, x9⟩ := h
  have htp := xr1_2 hs
  refine xp_put2 (d := d + 599) p0 p1 p2 hs r_p0 r_p1 r_p2  (fun r t hs9 hf z0 => ?_)
  have ht9 : gp_I t 1 2 = gp_I s 1 2 := (hf.2.2.1 1 2 (by decide) (by decide) rfl).1
  have hz9 : gp_sz t = gp_sz s ∧ gp_us t = gp_us s := hf.2.1 rfl
  exact k r t A B ⟨hs9, (XS_fr x1 hf rfl), (XK_fr x2 hf rfl), (SVP52_fr x3 hf rfl rfl), (SVF51_fr x4 hf rfl rfl rfl), (SVA51_fr x5 hf rfl rfl), (SVP61_fr x6 hf rfl rfl), (SVF60_fr x7 hf rfl rfl rfl), (SVA60_fr x8 hf rfl rfl), (MFV_le x9 hf rfl rfl rfl (fun k => xr58 hs k) (by have h9 := (hf.2.2.1 57 3 (by decide) (by decide) rfl).1; omega))⟩ ⟨⟨by omega, by omega⟩, gX_ref hf rfl⟩ ht9 (hf.2.2.1 1 6 (by decide) (by decide) rfl).1 z0 (fun k => (hf.2.2.1 3 k (by decide) (by decide) rfl).1)
theorem xu_number {L d A B : Nat} {K : Option gV → gH → Prop} {s : gH} (p0 : Int) (p1 : Int) (h : XW L A B s) (r_p0 : -2147483648 ≤ p0 ∧ p0 ≤ 2147483647) (r_p1 : -2147483648 ≤ p1 ∧ p1 ≤ 2147483647) (k : ∀ (r : Int) (t : gH) (A1 B1 : Nat), XW L A1 B1 t → XR s t A B A1 B1 → (gp_I t 1 2 = gp_I s 1 2) → (gp_I t 1 6 = gp_I s 1 6) → (NBP 72 73 xV s t p0 p1 r) → (∀ k : Nat, gp_I t 3 k = gp_I s 3 k) → K (some (gp_i r)) t) : gs_C L (d + 600) 2844 3 [gp_r (some 1), gp_i p0, gp_i p1] s K := by
  obtain ⟨hs, x1, x2, x3, x4, x5, x6, x7, x8, x9⟩ := h
  have htp := xr1_2 hs
  refine xp_number2 (d := d + 599) p0 p1 hs r_p0 r_p1  (fun r t hs9 hf z0 => ?_)
  have ht9 : gp_I t 1 2 = gp_I s 1 2 := (hf.2.2.1 1 2 (by decide) (by decide) rfl).1
  have hz9 : gp_sz t = gp_sz s ∧ gp_us t = gp_us s := hf.2.1 rfl
  exact k r t A B ⟨hs9, (XS_fr x1 hf rfl), (XK_fr x2 hf rfl), (SVP52_fr x3 hf rfl rfl), (SVF51_fr x4 hf rfl rfl rfl), (SVA51_fr x5 hf rfl rfl), (SVP61_fr x6 hf rfl rfl), (SVF60_fr x7 hf rfl rfl rfl), (SVA60_fr x8 hf rfl rfl), (MFV_le x9 hf rfl rfl rfl (fun k => xr58 hs k) (by have h9 := (hf.2.2.1 57 3 (by decide) (by decide) rfl).1; omega))⟩ ⟨⟨by omega, by omega⟩, gX_ref hf rfl⟩ ht9 (hf.2.2.1 1 6 (by decide) (by decide) rfl).1 z0 (fun k => (hf.2.2.1 3 k (by decide) (by decide) rfl).1)
theorem xu_shift {L d A B : Nat} {K : Option gV → gH → Prop} {s : gH} (p0 : Int) (p1 : Int) (p2 : Int) (p3 : Int) (p4 : Int) (h : XW L A B s) (r_p0 : -2147483648 ≤ p0 ∧ p0 ≤ 2147483647) (r_p1 : -2147483648 ≤ p1 ∧ p1 ≤ 2147483647) (r_p2 : -2147483648 ≤ p2 ∧ p2 ≤ 2147483647) (r_p3 : -2147483648 ≤ p3 ∧ p3 ≤ 2147483647) (r_p4 : -2147483648 ≤ p4 ∧ p4 ≤ 2147483647) (k : ∀ (r : Int) (t : gH) (A1 B1 : Nat), XW L A1 B1 t → XR s t A B A1 B1 → (gp_I t 1 2 = gp_I s 1 2) → (gp_I t 1 6 = gp_I s 1 6) → (SFP 72 73 xV s t p0 p1 p2 p3 p4 r) → (∀ k : Nat, gp_I t 3 k = gp_I s 3 k) → K (some (gp_i r)) t) : gs_C L (d + 600) 2845 6 [gp_r (some 1), gp_i p0, gp_i p1, gp_i p2, gp_i p3, gp_i p4] s K := by
  obtain ⟨hs, x1, x2, x3, x4, x5, x6, x7, x8, x9⟩ := h
  have htp := xr1_2 hs
  refine xp_shift2 (d := d + 599) p0 p1 p2 p3 p4 hs r_p0 r_p1 r_p2 r_p3 r_p4  (fun r t hs9 hf z0 => ?_)
  have ht9 : gp_I t 1 2 = gp_I s 1 2 := (hf.2.2.1 1 2 (by decide) (by decide) rfl).1
  have hz9 : gp_sz t = gp_sz s ∧ gp_us t = gp_us s := hf.2.1 rfl
  exact k r t A B ⟨hs9, (XS_fr x1 hf rfl), (XK_fr x2 hf rfl), (SVP52_fr x3 hf rfl rfl), (SVF51_fr x4 hf rfl rfl rfl), (SVA51_fr x5 hf rfl rfl), (SVP61_fr x6 hf rfl rfl), (SVF60_fr x7 hf rfl rfl rfl), (SVA60_fr x8 hf rfl rfl), (MFV_le x9 hf rfl rfl rfl (fun k => xr58 hs k) (by have h9 := (hf.2.2.1 57 3 (by decide) (by decide) rfl).1; omega))⟩ ⟨⟨by omega, by omega⟩, gX_ref hf rfl⟩ ht9 (hf.2.2.1 1 6 (by decide) (by decide) rfl).1 z0 (fun k => (hf.2.2.1 3 k (by decide) (by decide) rfl).1)
theorem xu_judge {L d A B : Nat} {K : Option gV → gH → Prop} {s : gH} (p0 : Int) (p1 : Int) (h : XW L A B s) (r_p0 : -2147483648 ≤ p0 ∧ p0 ≤ 2147483647) (r_p1 : -2147483648 ≤ p1 ∧ p1 ≤ 2147483647) (k : ∀ (r : Int) (t : gH) (A1 B1 : Nat), XW L A1 B1 t → XR s t A B A1 B1 → (gp_I t 1 2 = gp_I s 1 2) → (gp_I t 1 6 = gp_I s 1 6) → (KP 72 73 xV s t) → (∀ k : Nat, gp_I t 3 k = gp_I s 3 k) → K (some (gp_i r)) t) : gs_C L (d + 600) 2846 4 [gp_r (some 1), gp_i p0, gp_i p1] s K := by
  obtain ⟨hs, x1, x2, x3, x4, x5, x6, x7, x8, x9⟩ := h
  have htp := xr1_2 hs
  refine xp_judge (d := d + 595) p0 p1 hs r_p0 r_p1 x1 (fun r t hs9 hf  => ?_)
  have ht9 : gp_I t 1 2 = gp_I s 1 2 := (hf.2.2.1 1 2 (by decide) (by decide) rfl).1
  have hz9 : gp_sz t = gp_sz s ∧ gp_us t = gp_us s := hf.2.1 rfl
  exact k r t A B ⟨hs9, (XS_fr x1 hf rfl), (XK_fr x2 hf rfl), (SVP52_fr x3 hf rfl rfl), (SVF51_fr x4 hf rfl rfl rfl), (SVA51_fr x5 hf rfl rfl), (SVP61_fr x6 hf rfl rfl), (SVF60_fr x7 hf rfl rfl rfl), (SVA60_fr x8 hf rfl rfl), (MFV_le x9 hf rfl rfl rfl (fun k => xr58 hs k) (by have h9 := (hf.2.2.1 57 3 (by decide) (by decide) rfl).1; omega))⟩ ⟨⟨by omega, by omega⟩, gX_ref hf rfl⟩ ht9 (hf.2.2.1 1 6 (by decide) (by decide) rfl).1 (KP_x hf rfl rfl rfl rfl rfl rfl) (fun k => (hf.2.2.1 3 k (by decide) (by decide) rfl).1)
theorem xu_seed {L d A B : Nat} {K : Option gV → gH → Prop} {s : gH} (p0 : Int) (h : XW L A B s) (r_p0 : -2147483648 ≤ p0 ∧ p0 ≤ 2147483647) (k : ∀ (r : Int) (t : gH) (A1 B1 : Nat), XW L A1 B1 t → XR s t A B A1 B1 → (gp_I t 1 2 = gp_I s 1 2) → (gp_I t 1 6 = gp_I s 1 6) → (KP 72 73 xV s t) → (∀ k : Nat, gp_I t 3 k = gp_I s 3 k) → K (some (gp_i r)) t) : gs_C L (d + 600) 2847 3 [gp_r (some 1), gp_i p0] s K := by
  obtain ⟨hs, x1, x2, x3, x4, x5, x6, x7, x8, x9⟩ := h
  have htp := xr1_2 hs
  refine xp_seed (d := d + 600) p0 hs r_p0  (fun r t hs9 hf  => ?_)
  have ht9 : gp_I t 1 2 = gp_I s 1 2 := (hf.2.2.1 1 2 (by decide) (by decide) rfl).1
  have hz9 : gp_sz t = gp_sz s ∧ gp_us t = gp_us s := hf.2.1 rfl
  exact k r t A B ⟨hs9, (XS_fr x1 hf rfl), (XK_fr x2 hf rfl), (SVP52_fr x3 hf rfl rfl), (SVF51_fr x4 hf rfl rfl rfl), (SVA51_fr x5 hf rfl rfl), (SVP61_fr x6 hf rfl rfl), (SVF60_fr x7 hf rfl rfl rfl), (SVA60_fr x8 hf rfl rfl), (MFV_le x9 hf rfl rfl rfl (fun k => xr58 hs k) (by have h9 := (hf.2.2.1 57 3 (by decide) (by decide) rfl).1; omega))⟩ ⟨⟨by omega, by omega⟩, gX_ref hf rfl⟩ ht9 (hf.2.2.1 1 6 (by decide) (by decide) rfl).1 (KP_x hf rfl rfl rfl rfl rfl rfl) (fun k => (hf.2.2.1 3 k (by decide) (by decide) rfl).1)
theorem xu_image {L d A B : Nat} {K : Option gV → gH → Prop} {s : gH}  (h : XW L A B s)  (k : ∀ (r : Int) (t : gH) (A1 B1 : Nat), XW L A1 B1 t → XR s t A B A1 B1 → (gp_I t 1 2 = gp_I s 1 2) → (r = gp_wr (gp_I s 1 6 + 1) ∧ gp_I t 1 6 = r) → (KP 72 73 xV s t) → (∀ k : Nat, gp_I t 3 k = gp_I s 3 k) → K (some (gp_i r)) t) : gs_C L (d + 600) 2848 2 [gp_r (some 1)] s K := by
  obtain ⟨hs, x1, x2, x3, x4, x5, x6, x7, x8, x9⟩ := h
  have htp := xr1_2 hs
  refine xp_image2 (d := d + 600) hs  x1 x2 (fun r t hs9 hf z0 z1 => ?_)
  have ht9 : gp_I t 1 2 = gp_I s 1 2 := (hf.2.2.1 1 2 (by decide) (by decide) rfl).1
  have hz9 : gp_sz t = gp_sz s ∧ gp_us t = gp_us s := hf.2.1 rfl
  exact k r t A B ⟨hs9, (XS_fr x1 hf rfl), z0, (SVP52_fr x3 hf rfl rfl), (SVF51_fr x4 hf rfl rfl rfl), (SVA51_fr x5 hf rfl rfl), (SVP61_fr x6 hf rfl rfl), (SVF60_fr x7 hf rfl rfl rfl), (SVA60_fr x8 hf rfl rfl), (MFV_le x9 hf rfl rfl rfl (fun k => xr58 hs k) (by have h9 := (hf.2.2.1 57 3 (by decide) (by decide) rfl).1; omega))⟩ ⟨⟨by omega, by omega⟩, gX_ref hf rfl⟩ ht9 z1 (KP_x hf rfl rfl rfl rfl rfl rfl) (fun k => (hf.2.2.1 3 k (by decide) (by decide) rfl).1)
theorem xu_restore {L d A B : Nat} {K : Option gV → gH → Prop} {s : gH}  (h : XW L A B s)  (k : ∀ (r : Int) (t : gH) (A1 B1 : Nat), XW L A1 B1 t → XR s t A B A1 B1 → (gp_I t 1 2 = gp_I s 1 2) → (gp_I t 1 6 = gp_I s 1 6) → (KP 72 73 xV s t) → (∀ k : Nat, gp_I t 3 k = gp_I s 3 k) → K (some (gp_i r)) t) : gs_C L (d + 600) 2849 2 [gp_r (some 1)] s K := by
  obtain ⟨hs, x1, x2, x3, x4, x5, x6, x7, x8, x9⟩ := h
  have htp := xr1_2 hs
  refine xp_restore (d := d + 599) hs  x1 x2 (fun r t hs9 hf z0 => ?_)
  have ht9 : gp_I t 1 2 = gp_I s 1 2 := (hf.2.2.1 1 2 (by decide) (by decide) rfl).1
  have hz9 : gp_sz t = gp_sz s ∧ gp_us t = gp_us s := hf.2.1 rfl
  exact k r t A B ⟨hs9, z0, (XK_fr x2 hf rfl), (SVP52_fr x3 hf rfl rfl), (SVF51_fr x4 hf rfl rfl rfl), (SVA51_fr x5 hf rfl rfl), (SVP61_fr x6 hf rfl rfl), (SVF60_fr x7 hf rfl rfl rfl), (SVA60_fr x8 hf rfl rfl), (MFV_le x9 hf rfl rfl rfl (fun k => xr58 hs k) (by have h9 := (hf.2.2.1 57 3 (by decide) (by decide) rfl).1; omega))⟩ ⟨⟨by omega, by omega⟩, gX_ref hf rfl⟩ ht9 (hf.2.2.1 1 6 (by decide) (by decide) rfl).1 (KP_x hf rfl rfl rfl rfl rfl rfl) (fun k => (hf.2.2.1 3 k (by decide) (by decide) rfl).1)
theorem xu_count {L d A B : Nat} {K : Option gV → gH → Prop} {s : gH} (p0 : Int) (h : XW L A B s) (r_p0 : -2147483648 ≤ p0 ∧ p0 ≤ 2147483647) (k : ∀ (r : Int) (t : gH) (A1 B1 : Nat), XW L A1 B1 t → XR s t A B A1 B1 → (gp_I t 1 2 = gp_I s 1 2) → (gp_I t 1 6 = gp_I s 1 6) → (KP 72 73 xV s t) → (∀ k : Nat, gp_I t 3 k = gp_I s 3 k) → K (some (gp_i r)) t) : gs_C L (d + 600) 2850 2 [gp_r (some 1), gp_i p0] s K := by
  obtain ⟨hs, x1, x2, x3, x4, x5, x6, x7, x8, x9⟩ := h
  have htp := xr1_2 hs
  refine xp_count (d := d + 595) p0 hs r_p0 x1 (fun r t hs9 hf  => ?_)
  have ht9 : gp_I t 1 2 = gp_I s 1 2 := (hf.2.2.1 1 2 (by decide) (by decide) rfl).1
  have hz9 : gp_sz t = gp_sz s ∧ gp_us t = gp_us s := hf.2.1 rfl
  exact k r t A B ⟨hs9, (XS_fr x1 hf rfl), (XK_fr x2 hf rfl), (SVP52_fr x3 hf rfl rfl), (SVF51_fr x4 hf rfl rfl rfl), (SVA51_fr x5 hf rfl rfl), (SVP61_fr x6 hf rfl rfl), (SVF60_fr x7 hf rfl rfl rfl), (SVA60_fr x8 hf rfl rfl), (MFV_le x9 hf rfl rfl rfl (fun k => xr58 hs k) (by have h9 := (hf.2.2.1 57 3 (by decide) (by decide) rfl).1; omega))⟩ ⟨⟨by omega, by omega⟩, gX_ref hf rfl⟩ ht9 (hf.2.2.1 1 6 (by decide) (by decide) rfl).1 (KP_x hf rfl rfl rfl rfl rfl rfl) (fun k => (hf.2.2.1 3 k (by decide) (by decide) rfl).1)
theorem xu_told {L d A B : Nat} {K : Option gV → gH → Prop} {s : gH} (p0 : Int) (h : XW L A B s) (r_p0 : -2147483648 ≤ p0 ∧ p0 ≤ 2147483647) (k : ∀ (r : Int) (t : gH) (A1 B1 : Nat), XW L A1 B1 t → XR s t A B A1 B1 → (gp_I t 1 2 = gp_I s 1 2) → (gp_I t 1 6 = gp_I s 1 6) → (KP 72 73 xV s t) → (∀ k : Nat, gp_I t 3 k = gp_I s 3 k) → K (some (gp_i r)) t) : gs_C L (d + 600) 2851 2 [gp_r (some 1), gp_i p0] s K := by
  obtain ⟨hs, x1, x2, x3, x4, x5, x6, x7, x8, x9⟩ := h
  have htp := xr1_2 hs
  refine xp_told (d := d + 599) p0 hs r_p0  (fun r t hs9 hf  => ?_)
  have ht9 : gp_I t 1 2 = gp_I s 1 2 := (hf.2.2.1 1 2 (by decide) (by decide) rfl).1
  have hz9 : gp_sz t = gp_sz s ∧ gp_us t = gp_us s := hf.2.1 rfl
  exact k r t A B ⟨hs9, (XS_fr x1 hf rfl), (XK_fr x2 hf rfl), (SVP52_fr x3 hf rfl rfl), (SVF51_fr x4 hf rfl rfl rfl), (SVA51_fr x5 hf rfl rfl), (SVP61_fr x6 hf rfl rfl), (SVF60_fr x7 hf rfl rfl rfl), (SVA60_fr x8 hf rfl rfl), (MFV_le x9 hf rfl rfl rfl (fun k => xr58 hs k) (by have h9 := (hf.2.2.1 57 3 (by decide) (by decide) rfl).1; omega))⟩ ⟨⟨by omega, by omega⟩, gX_ref hf rfl⟩ ht9 (hf.2.2.1 1 6 (by decide) (by decide) rfl).1 (KP_x hf rfl rfl rfl rfl rfl rfl) (fun k => (hf.2.2.1 3 k (by decide) (by decide) rfl).1)
theorem mu_feed {L d : Nat} {K : Option gV → gH → Prop} {s : gH} (p0 : BitVec 64) (p1 : Int) (h : MW s) (r_p1 : -2147483648 ≤ p1 ∧ p1 ≤ 2147483647) (k : ∀ (r : Int) (t : gH), MW t → MXX L s t → (1 ≤ p1 ∧ p1 ≤ 8 ∧ gp_I s 74 11 + p1 ≤ 100 → r = gp_I s 74 11 + p1 ∧ gp_I t 74 11 = gp_I s 74 11 + p1) → (¬ (1 ≤ p1 ∧ p1 ≤ 8) → r = -1000000001 ∧ gp_I t 74 11 = gp_I s 74 11) → (1 ≤ p1 ∧ p1 ≤ 8 ∧ 100 < gp_I s 74 11 + p1 → r = -1000000004 ∧ gp_I t 74 11 = gp_I s 74 11) → (gp_I t 74 9 = gp_I s 74 9) → (KP 84 85 mV s t) → (FDX 82 bM s t (gp_I s 74 11) p0 p1) → K (some (gp_i r)) t) : gs_C L (d + 600) 3124 5 [gp_r (some 74), gp_l p0, gp_i p1] s K := by
  obtain ⟨hs, m1, m2⟩ := h
  refine wp_feed2 (d := d + 599) p0 p1 hs r_p1  (fun r t hs9 hf z0 z1 z2 z3 => ?_)
  exact k r t ⟨hs9, (mM_fr m1 hf rfl rfl rfl rfl rfl rfl rfl), (fun q k a b => by rw [(hf.2 81 k rfl (fun h => absurd h (by decide))).1]; exact m2 (by have h9 := (hf.2 74 9 rfl (fun _ => rfl)).1; rw [← h9]; exact q) k a b)⟩ (MXX_of hf rfl rfl rfl) z0 z1 z2 (hf.2 74 9 rfl (fun _ => rfl)).1 (KP_m hf rfl rfl rfl) z3
theorem mu_game {L d : Nat} {K : Option gV → gH → Prop} {s : gH} (p0 : Int) (h : MW s) (r_p0 : -2147483648 ≤ p0 ∧ p0 ≤ 2147483647) (hb8 : 0 ≤ p0 ∧ p0 ≤ 7 → RDQ (fun k => gp_I s 82 k) (gp_I s 74 11)) (k : ∀ (r : Int) (t : gH), MW t → MXX L s t → (0 ≤ p0 ∧ p0 ≤ 7 → gp_I t 74 11 = 0) → (p0 < 0 ∨ 7 < p0 → gp_I t 74 11 = gp_I s 74 11) → (gp_I t 74 9 = gp_I s 74 9) → (KP 84 85 mV s t) → (∀ k : Nat, gp_I t 82 k = gp_I s 82 k) → (GMU (fun k => gp_I s 82 k) (gp_I s 74 11) p0 r) → K (some (gp_i r)) t) : gs_C L (d + 600) 3139 2 [gp_r (some 74), gp_i p0] s K := by
  obtain ⟨hs, m1, m2⟩ := h
  refine wp_game2 (d := d + 371) _ _ p0 hs r_p0 rfl rfl hb8 (fun r t hs9 hf z0 z1 z2 z3 => ?_)
  exact k r t ⟨hs9, (mM_frK m1 hs hf (fun k a b => z0 k (by omega) (by omega)) rfl rfl rfl rfl rfl rfl rfl), (fun q k a b => by rw [z0 k a (by omega)]; exact m2 (by have h9 := (hf.2 74 9 rfl (fun _ => rfl)).1; rw [← h9]; exact q) k a b)⟩ (MXX_of hf rfl rfl rfl) z1 z2 (hf.2 74 9 rfl (fun _ => rfl)).1 (KP_m hf rfl rfl rfl) (fun k => (hf.2 82 k rfl (fun h => absurd h (by decide))).1) z3
theorem mu_strip {L d : Nat} {K : Option gV → gH → Prop} {s : gH} (p0 : Int) (h : MW s) (r_p0 : -2147483648 ≤ p0 ∧ p0 ≤ 2147483647) (k : ∀ (r : Int) (t : gH), MW t → MXX L s t → (0 ≤ p0 ∧ p0 ≤ 7 → gp_I t 74 11 = 0) → (p0 < 0 ∨ 7 < p0 → gp_I t 74 11 = gp_I s 74 11) → (gp_I t 74 9 = gp_I s 74 9) → (KP 84 85 mV s t) → (∀ k : Nat, gp_I t 82 k = gp_I s 82 k) → K (some (gp_i r)) t) : gs_C L (d + 600) 3143 8 [gp_r (some 74), gp_i p0] s K := by
  obtain ⟨hs, m1, m2⟩ := h
  refine wp_strip (d := d + 414) p0 hs r_p0  (fun r t hs9 hf z0 z1 z2 => ?_)
  exact k r t ⟨hs9, (mM_frK m1 hs hf (fun k a b => z0 k (by omega) (by omega) (by omega)) rfl rfl rfl rfl rfl rfl rfl), (fun q k a b => by rw [z0 k a (by omega) (by omega)]; exact m2 (by have h9 := (hf.2 74 9 rfl (fun _ => rfl)).1; rw [← h9]; exact q) k a b)⟩ (MXX_of hf rfl rfl rfl) z1 z2 (hf.2 74 9 rfl (fun _ => rfl)).1 (KP_m hf rfl rfl rfl) (fun k => (hf.2 82 k rfl (fun h => absurd h (by decide))).1)
theorem mu_ladder {L d : Nat} {K : Option gV → gH → Prop} {s : gH} (p0 : Int) (p1 : Int) (h : MW s) (r_p0 : -2147483648 ≤ p0 ∧ p0 ≤ 2147483647) (r_p1 : -2147483648 ≤ p1 ∧ p1 ≤ 2147483647) (k : ∀ (r : Int) (t : gH), MW t → MXX L s t → (gp_I t 74 11 = gp_I s 74 11) → (gp_I t 74 9 = gp_I s 74 9) → (KP 84 85 mV s t) → (∀ k : Nat, gp_I t 82 k = gp_I s 82 k) → K (some (gp_i r)) t) : gs_C L (d + 600) 3144 9 [gp_r (some 74), gp_i p0, gp_i p1] s K := by
  obtain ⟨hs, m1, m2⟩ := h
  refine wp_ladder (d := d + 414) p0 p1 hs r_p0 r_p1  (fun r t hs9 hf z0 => ?_)
  exact k r t ⟨hs9, (mM_frK m1 hs hf (fun k a b => z0 k (by omega) (by omega) (by omega)) rfl rfl rfl rfl rfl rfl rfl), (fun q k a b => by rw [z0 k a (by omega) (by omega)]; exact m2 (by have h9 := (hf.2 74 9 rfl (fun _ => rfl)).1; rw [← h9]; exact q) k a b)⟩ (MXX_of hf rfl rfl rfl) (hf.2 74 11 rfl (fun _ => rfl)).1 (hf.2 74 9 rfl (fun _ => rfl)).1 (KP_m hf rfl rfl rfl) (fun k => (hf.2 82 k rfl (fun h => absurd h (by decide))).1)
theorem mu_waits {L d : Nat} {K : Option gV → gH → Prop} {s : gH} (p0 : Int) (p1 : Int) (h : MW s) (r_p0 : -2147483648 ≤ p0 ∧ p0 ≤ 2147483647) (r_p1 : -2147483648 ≤ p1 ∧ p1 ≤ 2147483647) (k : ∀ (r : Int) (t : gH), MW t → MXX L s t → (gp_I t 74 11 = gp_I s 74 11) → (gp_I t 74 9 = gp_I s 74 9) → (KP 84 85 mV s t) → (0 ≤ p0 ∧ p0 ≤ 7 ∧ 0 ≤ p1 ∧ p1 ≤ 20 → r = p1 + 1) → (¬ (0 ≤ p0 ∧ p0 ≤ 7 ∧ 0 ≤ p1 ∧ p1 ≤ 20) → r = -1000000001) → (∀ k : Nat, gp_I t 82 k = gp_I s 82 k) → K (some (gp_i r)) t) : gs_C L (d + 600) 3145 3 [gp_r (some 74), gp_i p0, gp_i p1] s K := by
  obtain ⟨hs, m1, m2⟩ := h
  refine wp_waits2 (d := d + 414) p0 p1 hs r_p0 r_p1  (fun r t hs9 hf z0 z1 z2 => ?_)
  exact k r t ⟨hs9, (mM_frK m1 hs hf (fun k a b => z0 k (by omega) (by omega) (by omega)) rfl rfl rfl rfl rfl rfl rfl), (fun q k a b => by rw [z0 k a (by omega) (by omega)]; exact m2 (by have h9 := (hf.2 74 9 rfl (fun _ => rfl)).1; rw [← h9]; exact q) k a b)⟩ (MXX_of hf rfl rfl rfl) (hf.2 74 11 rfl (fun _ => rfl)).1 (hf.2 74 9 rfl (fun _ => rfl)).1 (KP_m hf rfl rfl rfl) z1 z2 (fun k => (hf.2 82 k rfl (fun h => absurd h (by decide))).1)
theorem mu_join {L d : Nat} {K : Option gV → gH → Prop} {s : gH} (p0 : Int) (p1 : Int) (p2 : Int) (h : MW s) (r_p0 : -2147483648 ≤ p0 ∧ p0 ≤ 2147483647) (r_p1 : -2147483648 ≤ p1 ∧ p1 ≤ 2147483647) (r_p2 : -2147483648 ≤ p2 ∧ p2 ≤ 2147483647) (k : ∀ (r : Int) (t : gH), MW t → MXX L s t → (gp_I t 74 11 = gp_I s 74 11) → (gp_I t 74 9 = gp_I s 74 9) → (KP 84 85 mV s t) → (∀ k : Nat, gp_I t 82 k = gp_I s 82 k) → K (some (gp_i r)) t) : gs_C L (d + 600) 3146 5 [gp_r (some 74), gp_i p0, gp_i p1, gp_i p2] s K := by
  obtain ⟨hs, m1, m2⟩ := h
  refine wp_join (d := d + 413) p0 p1 p2 hs r_p0 r_p1 r_p2  (fun r t hs9 hf z0 => ?_)
  exact k r t ⟨hs9, (mM_frK m1 hs hf (fun k a b => z0 k (by omega) (by omega) (by omega)) rfl rfl rfl rfl rfl rfl rfl), (fun q k a b => by rw [z0 k a (by omega) (by omega)]; exact m2 (by have h9 := (hf.2 74 9 rfl (fun _ => rfl)).1; rw [← h9]; exact q) k a b)⟩ (MXX_of hf rfl rfl rfl) (hf.2 74 11 rfl (fun _ => rfl)).1 (hf.2 74 9 rfl (fun _ => rfl)).1 (KP_m hf rfl rfl rfl) (fun k => (hf.2 82 k rfl (fun h => absurd h (by decide))).1)
theorem mu_negate {L d : Nat} {K : Option gV → gH → Prop} {s : gH} (p0 : Int) (p1 : Int) (h : MW s) (r_p0 : -2147483648 ≤ p0 ∧ p0 ≤ 2147483647) (r_p1 : -2147483648 ≤ p1 ∧ p1 ≤ 2147483647) (k : ∀ (r : Int) (t : gH), MW t → MXX L s t → (gp_I t 74 11 = gp_I s 74 11) → (gp_I t 74 9 = gp_I s 74 9) → (KP 84 85 mV s t) → (∀ k : Nat, gp_I t 82 k = gp_I s 82 k) → K (some (gp_i r)) t) : gs_C L (d + 600) 3147 3 [gp_r (some 74), gp_i p0, gp_i p1] s K := by
  obtain ⟨hs, m1, m2⟩ := h
  refine wp_negate (d := d + 414) p0 p1 hs r_p0 r_p1  (fun r t hs9 hf z0 => ?_)
  exact k r t ⟨hs9, (mM_frK m1 hs hf (fun k a b => z0 k (by omega) (by omega) (by omega)) rfl rfl rfl rfl rfl rfl rfl), (fun q k a b => by rw [z0 k a (by omega) (by omega)]; exact m2 (by have h9 := (hf.2 74 9 rfl (fun _ => rfl)).1; rw [← h9]; exact q) k a b)⟩ (MXX_of hf rfl rfl rfl) (hf.2 74 11 rfl (fun _ => rfl)).1 (hf.2 74 9 rfl (fun _ => rfl)).1 (KP_m hf rfl rfl rfl) (fun k => (hf.2 82 k rfl (fun h => absurd h (by decide))).1)
theorem mu_option {L d : Nat} {K : Option gV → gH → Prop} {s : gH} (p0 : Int) (p1 : Int) (p2 : Int) (p3 : Int) (h : MW s) (r_p0 : -2147483648 ≤ p0 ∧ p0 ≤ 2147483647) (r_p1 : -2147483648 ≤ p1 ∧ p1 ≤ 2147483647) (r_p2 : -2147483648 ≤ p2 ∧ p2 ≤ 2147483647) (r_p3 : -2147483648 ≤ p3 ∧ p3 ≤ 2147483647) (k : ∀ (r : Int) (t : gH), MW t → MXX L s t → (gp_I t 74 11 = gp_I s 74 11) → (gp_I t 74 9 = gp_I s 74 9) → (KP 84 85 mV s t) → (∀ k : Nat, gp_I t 82 k = gp_I s 82 k) → K (some (gp_i r)) t) : gs_C L (d + 600) 3149 6 [gp_r (some 74), gp_i p0, gp_i p1, gp_i p2, gp_i p3] s K := by
  obtain ⟨hs, m1, m2⟩ := h
  refine wp_option (d := d + 414) p0 p1 p2 p3 hs r_p0 r_p1 r_p2 r_p3  (fun r t hs9 hf z0 => ?_)
  exact k r t ⟨hs9, (mM_frK m1 hs hf (fun k a b => z0 k (by omega) (by omega) (by omega)) rfl rfl rfl rfl rfl rfl rfl), (fun q k a b => by rw [z0 k a (by omega) (by omega)]; exact m2 (by have h9 := (hf.2 74 9 rfl (fun _ => rfl)).1; rw [← h9]; exact q) k a b)⟩ (MXX_of hf rfl rfl rfl) (hf.2 74 11 rfl (fun _ => rfl)).1 (hf.2 74 9 rfl (fun _ => rfl)).1 (KP_m hf rfl rfl rfl) (fun k => (hf.2 82 k rfl (fun h => absurd h (by decide))).1)
theorem mu_gameOf {L d : Nat} {K : Option gV → gH → Prop} {s : gH} (p0 : Int) (p1 : Int) (h : MW s) (r_p0 : -2147483648 ≤ p0 ∧ p0 ≤ 2147483647) (r_p1 : -2147483648 ≤ p1 ∧ p1 ≤ 2147483647) (k : ∀ (r : Int) (t : gH), MW t → MXX L s t → (gp_I t 74 11 = gp_I s 74 11) → (gp_I t 74 9 = gp_I s 74 9) → (KP 84 85 mV s t) → (∀ k : Nat, gp_I t 82 k = gp_I s 82 k) → K (some (gp_i r)) t) : gs_C L (d + 600) 3150 4 [gp_r (some 74), gp_i p0, gp_i p1] s K := by
  obtain ⟨hs, m1, m2⟩ := h
  refine wp_gameOf (d := d + 596) p0 p1 hs r_p0 r_p1  (fun r t hs9 hf  => ?_)
  exact k r t ⟨hs9, (mM_fr m1 hf rfl rfl rfl rfl rfl rfl rfl), (fun q k a b => by rw [(hf.2 81 k rfl (fun h => absurd h (by decide))).1]; exact m2 (by have h9 := (hf.2 74 9 rfl (fun _ => rfl)).1; rw [← h9]; exact q) k a b)⟩ (MXX_of hf rfl rfl rfl) (hf.2 74 11 rfl (fun _ => rfl)).1 (hf.2 74 9 rfl (fun _ => rfl)).1 (KP_m hf rfl rfl rfl) (fun k => (hf.2 82 k rfl (fun h => absurd h (by decide))).1)
theorem mu_order {L d : Nat} {K : Option gV → gH → Prop} {s : gH} (p0 : Int) (p1 : Int) (h : MW s) (r_p0 : -2147483648 ≤ p0 ∧ p0 ≤ 2147483647) (r_p1 : -2147483648 ≤ p1 ∧ p1 ≤ 2147483647) (k : ∀ (r : Int) (t : gH), MW t → MXX L s t → (gp_I t 74 11 = gp_I s 74 11) → (gp_I t 74 9 = gp_I s 74 9) → (KP 84 85 mV s t) → (∀ k : Nat, gp_I t 82 k = gp_I s 82 k) → K (some (gp_i r)) t) : gs_C L (d + 600) 3151 3 [gp_r (some 74), gp_i p0, gp_i p1] s K := by
  obtain ⟨hs, m1, m2⟩ := h
  refine wp_order (d := d + 405) p0 p1 hs r_p0 r_p1  (fun r t hs9 hf  => ?_)
  exact k r t ⟨hs9, (mM_fr m1 hf rfl rfl rfl rfl rfl rfl rfl), (fun q k a b => by rw [(hf.2 81 k rfl (fun h => absurd h (by decide))).1]; exact m2 (by have h9 := (hf.2 74 9 rfl (fun _ => rfl)).1; rw [← h9]; exact q) k a b)⟩ (MXX_of hf rfl rfl rfl) (hf.2 74 11 rfl (fun _ => rfl)).1 (hf.2 74 9 rfl (fun _ => rfl)).1 (KP_m hf rfl rfl rfl) (fun k => (hf.2 82 k rfl (fun h => absurd h (by decide))).1)
theorem mu_compare {L d : Nat} {K : Option gV → gH → Prop} {s : gH} (p0 : Int) (p1 : Int) (h : MW s) (r_p0 : -2147483648 ≤ p0 ∧ p0 ≤ 2147483647) (r_p1 : -2147483648 ≤ p1 ∧ p1 ≤ 2147483647) (k : ∀ (r : Int) (t : gH), MW t → MXX L s t → (gp_I t 74 11 = gp_I s 74 11) → (gp_I t 74 9 = gp_I s 74 9) → (KP 84 85 mV s t) → (∀ k : Nat, gp_I t 82 k = gp_I s 82 k) → K (some (gp_i r)) t) : gs_C L (d + 600) 3152 4 [gp_r (some 74), gp_i p0, gp_i p1] s K := by
  obtain ⟨hs, m1, m2⟩ := h
  refine wp_compare (d := d + 212) p0 p1 hs r_p0 r_p1  (fun r t hs9 hf  => ?_)
  exact k r t ⟨hs9, (mM_fr m1 hf rfl rfl rfl rfl rfl rfl rfl), (fun q k a b => by rw [(hf.2 81 k rfl (fun h => absurd h (by decide))).1]; exact m2 (by have h9 := (hf.2 74 9 rfl (fun _ => rfl)).1; rw [← h9]; exact q) k a b)⟩ (MXX_of hf rfl rfl rfl) (hf.2 74 11 rfl (fun _ => rfl)).1 (hf.2 74 9 rfl (fun _ => rfl)).1 (KP_m hf rfl rfl rfl) (fun k => (hf.2 82 k rfl (fun h => absurd h (by decide))).1)
theorem mu_answer {L d : Nat} {K : Option gV → gH → Prop} {s : gH} (p0 : Int) (p1 : Int) (p2 : Int) (p3 : Int) (h : MW s) (r_p0 : -2147483648 ≤ p0 ∧ p0 ≤ 2147483647) (r_p1 : -2147483648 ≤ p1 ∧ p1 ≤ 2147483647) (r_p2 : -2147483648 ≤ p2 ∧ p2 ≤ 2147483647) (r_p3 : -2147483648 ≤ p3 ∧ p3 ≤ 2147483647) (k : ∀ (r : Int) (t : gH), MW t → MXX L s t → (gp_I t 74 11 = gp_I s 74 11) → (gp_I t 74 9 = gp_I s 74 9) → (KP 84 85 mV s t) → (∀ k : Nat, gp_I t 82 k = gp_I s 82 k) → K (some (gp_i r)) t) : gs_C L (d + 600) 3153 8 [gp_r (some 74), gp_i p0, gp_i p1, gp_i p2, gp_i p3] s K := by
  obtain ⟨hs, m1, m2⟩ := h
  refine wp_answer (d := d + 211) p0 p1 p2 p3 hs r_p0 r_p1 r_p2 r_p3  (fun r t hs9 hf  => ?_)
  exact k r t ⟨hs9, (mM_fr m1 hf rfl rfl rfl rfl rfl rfl rfl), (fun q k a b => by rw [(hf.2 81 k rfl (fun h => absurd h (by decide))).1]; exact m2 (by have h9 := (hf.2 74 9 rfl (fun _ => rfl)).1; rw [← h9]; exact q) k a b)⟩ (MXX_of hf rfl rfl rfl) (hf.2 74 11 rfl (fun _ => rfl)).1 (hf.2 74 9 rfl (fun _ => rfl)).1 (KP_m hf rfl rfl rfl) (fun k => (hf.2 82 k rfl (fun h => absurd h (by decide))).1)
theorem mu_reduce {L d : Nat} {K : Option gV → gH → Prop} {s : gH} (p0 : Int) (p1 : Int) (h : MW s) (r_p0 : -2147483648 ≤ p0 ∧ p0 ≤ 2147483647) (r_p1 : -2147483648 ≤ p1 ∧ p1 ≤ 2147483647) (k : ∀ (r : Int) (t : gH), MW t → MXX L s t → (gp_I t 74 11 = gp_I s 74 11) → (gp_I t 74 9 = gp_I s 74 9) → (KP 84 85 mV s t) → (∀ k : Nat, gp_I t 82 k = gp_I s 82 k) → K (some (gp_i r)) t) : gs_C L (d + 600) 3154 3 [gp_r (some 74), gp_i p0, gp_i p1] s K := by
  obtain ⟨hs, m1, m2⟩ := h
  refine wp_reduce (d := d + 24) p0 p1 hs r_p0 r_p1  (fun r t hs9 hf z0 => ?_)
  exact k r t ⟨hs9, (mM_frK m1 hs hf (fun k a b => z0 k (by omega) (by omega) (by omega)) rfl rfl rfl rfl rfl rfl rfl), (fun q k a b => by rw [z0 k a (by omega) (by omega)]; exact m2 (by have h9 := (hf.2 74 9 rfl (fun _ => rfl)).1; rw [← h9]; exact q) k a b)⟩ (MXX_of hf rfl rfl rfl) (hf.2 74 11 rfl (fun _ => rfl)).1 (hf.2 74 9 rfl (fun _ => rfl)).1 (KP_m hf rfl rfl rfl) (fun k => (hf.2 82 k rfl (fun h => absurd h (by decide))).1)
theorem mu_score {L d : Nat} {K : Option gV → gH → Prop} {s : gH} (p0 : Int) (p1 : Int) (h : MW s) (r_p0 : -2147483648 ≤ p0 ∧ p0 ≤ 2147483647) (r_p1 : -2147483648 ≤ p1 ∧ p1 ≤ 2147483647) (k : ∀ (r : Int) (t : gH), MW t → MXX L s t → (gp_I t 74 11 = gp_I s 74 11) → (gp_I t 74 9 = gp_I s 74 9) → (KP 84 85 mV s t) → (∀ k : Nat, gp_I t 82 k = gp_I s 82 k) → K (some (gp_i r)) t) : gs_C L (d + 600) 3162 3 [gp_r (some 74), gp_i p0, gp_i p1] s K := by
  obtain ⟨hs, m1, m2⟩ := h
  refine wp_score (d := d + 596) p0 p1 hs r_p0 r_p1  (fun r t hs9 hf  => ?_)
  exact k r t ⟨hs9, (mM_fr m1 hf rfl rfl rfl rfl rfl rfl rfl), (fun q k a b => by rw [(hf.2 81 k rfl (fun h => absurd h (by decide))).1]; exact m2 (by have h9 := (hf.2 74 9 rfl (fun _ => rfl)).1; rw [← h9]; exact q) k a b)⟩ (MXX_of hf rfl rfl rfl) (hf.2 74 11 rfl (fun _ => rfl)).1 (hf.2 74 9 rfl (fun _ => rfl)).1 (KP_m hf rfl rfl rfl) (fun k => (hf.2 82 k rfl (fun h => absurd h (by decide))).1)
theorem mu_best {L d : Nat} {K : Option gV → gH → Prop} {s : gH} (p0 : Int) (p1 : Int) (h : MW s) (r_p0 : -2147483648 ≤ p0 ∧ p0 ≤ 2147483647) (r_p1 : -2147483648 ≤ p1 ∧ p1 ≤ 2147483647) (k : ∀ (r : Int) (t : gH), MW t → MXX L s t → (gp_I t 74 11 = gp_I s 74 11) → (gp_I t 74 9 = gp_I s 74 9) → (KP 84 85 mV s t) → (∀ k : Nat, gp_I t 82 k = gp_I s 82 k) → K (some (gp_i r)) t) : gs_C L (d + 600) 3163 4 [gp_r (some 74), gp_i p0, gp_i p1] s K := by
  obtain ⟨hs, m1, m2⟩ := h
  refine wp_best (d := d + 596) p0 p1 hs r_p0 r_p1  (fun r t hs9 hf  => ?_)
  exact k r t ⟨hs9, (mM_fr m1 hf rfl rfl rfl rfl rfl rfl rfl), (fun q k a b => by rw [(hf.2 81 k rfl (fun h => absurd h (by decide))).1]; exact m2 (by have h9 := (hf.2 74 9 rfl (fun _ => rfl)).1; rw [← h9]; exact q) k a b)⟩ (MXX_of hf rfl rfl rfl) (hf.2 74 11 rfl (fun _ => rfl)).1 (hf.2 74 9 rfl (fun _ => rfl)).1 (KP_m hf rfl rfl rfl) (fun k => (hf.2 82 k rfl (fun h => absurd h (by decide))).1)
theorem mu_begin {L d : Nat} {K : Option gV → gH → Prop} {s : gH} (p0 : Int) (p1 : Int) (h : MW s) (r_p0 : -2147483648 ≤ p0 ∧ p0 ≤ 2147483647) (r_p1 : -2147483648 ≤ p1 ∧ p1 ≤ 2147483647) (k : ∀ (r : Int) (t : gH), MW t → MXX L s t → (gp_I t 74 11 = gp_I s 74 11) → (gp_I t 74 9 = gp_I s 74 9) → (KP 84 85 mV s t) → (∀ k : Nat, gp_I t 82 k = gp_I s 82 k) → K (some (gp_i r)) t) : gs_C L (d + 600) 3168 4 [gp_r (some 74), gp_i p0, gp_i p1] s K := by
  obtain ⟨hs, m1, m2⟩ := h
  refine wp_begin (d := d + 596) p0 p1 hs r_p0 r_p1 m1 (fun r t hs9 hf z0 z1 => ?_)
  exact k r t ⟨hs9, z0, (fun q k a b => by rw [z1 k b]; exact m2 (by have h9 := (hf.2 74 9 rfl (fun _ => rfl)).1; rw [← h9]; exact q) k a b)⟩ (MXX_of hf rfl rfl rfl) (hf.2 74 11 rfl (fun _ => rfl)).1 (hf.2 74 9 rfl (fun _ => rfl)).1 (KP_m hf rfl rfl rfl) (fun k => (hf.2 82 k rfl (fun h => absurd h (by decide))).1)
theorem mu_go {L d : Nat} {K : Option gV → gH → Prop} {s : gH} (p0 : Int) (p1 : Int) (h : MW s) (r_p0 : -2147483648 ≤ p0 ∧ p0 ≤ 2147483647) (r_p1 : -2147483648 ≤ p1 ∧ p1 ≤ 2147483647) (k : ∀ (r : Int) (t : gH), MW t → MXX L s t → (gp_I t 74 11 = gp_I s 74 11) → (gp_I t 74 9 = gp_I s 74 9) → (KP 84 85 mV s t) → (∀ k : Nat, gp_I t 82 k = gp_I s 82 k) → K (some (gp_i r)) t) : gs_C L (d + 600) 3171 4 [gp_r (some 74), gp_i p0, gp_i p1] s K := by
  obtain ⟨hs, m1, m2⟩ := h
  refine wp_go (d := d + 596) p0 p1 hs r_p0 r_p1 m1 (fun r t hs9 hf z0 => ?_)
  exact k r t ⟨hs9, z0, (fun q k a b => by rw [(hf.2 81 k rfl (fun h => absurd h (by decide))).1]; exact m2 (by have h9 := (hf.2 74 9 rfl (fun _ => rfl)).1; rw [← h9]; exact q) k a b)⟩ (MXX_of hf rfl rfl rfl) (hf.2 74 11 rfl (fun _ => rfl)).1 (hf.2 74 9 rfl (fun _ => rfl)).1 (KP_m hf rfl rfl rfl) (fun k => (hf.2 82 k rfl (fun h => absurd h (by decide))).1)
theorem mu_play {L d : Nat} {K : Option gV → gH → Prop} {s : gH} (p0 : Int) (h : MW s) (r_p0 : -2147483648 ≤ p0 ∧ p0 ≤ 2147483647) (k : ∀ (r : Int) (t : gH), MW t → MXX L s t → (gp_I t 74 11 = gp_I s 74 11) → (gp_I t 74 9 = gp_I s 74 9) → (KP 84 85 mV s t) → (∀ k : Nat, gp_I t 82 k = gp_I s 82 k) → K (some (gp_i r)) t) : gs_C L (d + 600) 3172 4 [gp_r (some 74), gp_i p0] s K := by
  obtain ⟨hs, m1, m2⟩ := h
  refine wp_play (d := d + 596) p0 hs r_p0 m1 (fun r t hs9 hf z0 => ?_)
  exact k r t ⟨hs9, z0, (fun q k a b => by rw [(hf.2 81 k rfl (fun h => absurd h (by decide))).1]; exact m2 (by have h9 := (hf.2 74 9 rfl (fun _ => rfl)).1; rw [← h9]; exact q) k a b)⟩ (MXX_of hf rfl rfl rfl) (hf.2 74 11 rfl (fun _ => rfl)).1 (hf.2 74 9 rfl (fun _ => rfl)).1 (KP_m hf rfl rfl rfl) (fun k => (hf.2 82 k rfl (fun h => absurd h (by decide))).1)
theorem mu_loose {L d : Nat} {K : Option gV → gH → Prop} {s : gH} (p0 : Int) (h : MW s) (r_p0 : -2147483648 ≤ p0 ∧ p0 ≤ 2147483647) (k : ∀ (r : Int) (t : gH), MW t → MXX L s t → (gp_I t 74 11 = gp_I s 74 11) → (gp_I t 74 9 = gp_I s 74 9) → (KP 84 85 mV s t) → (∀ k : Nat, gp_I t 82 k = gp_I s 82 k) → K (some (gp_i r)) t) : gs_C L (d + 600) 3173 5 [gp_r (some 74), gp_i p0] s K := by
  obtain ⟨hs, m1, m2⟩ := h
  refine wp_loose (d := d + 596) p0 hs r_p0 m1 (fun r t hs9 hf z0 => ?_)
  exact k r t ⟨hs9, z0, (fun q k a b => by rw [(hf.2 81 k rfl (fun h => absurd h (by decide))).1]; exact m2 (by have h9 := (hf.2 74 9 rfl (fun _ => rfl)).1; rw [← h9]; exact q) k a b)⟩ (MXX_of hf rfl rfl rfl) (hf.2 74 11 rfl (fun _ => rfl)).1 (hf.2 74 9 rfl (fun _ => rfl)).1 (KP_m hf rfl rfl rfl) (fun k => (hf.2 82 k rfl (fun h => absurd h (by decide))).1)
theorem mu_back {L d : Nat} {K : Option gV → gH → Prop} {s : gH}  (h : MW s)  (k : ∀ (r : Int) (t : gH), MW t → MXX L s t → (gp_I t 74 11 = gp_I s 74 11) → (gp_I t 74 9 = gp_I s 74 9) → (KP 84 85 mV s t) → (∀ k : Nat, gp_I t 82 k = gp_I s 82 k) → K (some (gp_i r)) t) : gs_C L (d + 600) 3174 1 [gp_r (some 74)] s K := by
  obtain ⟨hs, m1, m2⟩ := h
  refine wp_back (d := d + 599) hs  m1 (fun r t hs9 hf z0 => ?_)
  exact k r t ⟨hs9, z0, (fun q k a b => by rw [(hf.2 81 k rfl (fun h => absurd h (by decide))).1]; exact m2 (by have h9 := (hf.2 74 9 rfl (fun _ => rfl)).1; rw [← h9]; exact q) k a b)⟩ (MXX_of hf rfl rfl rfl) (hf.2 74 11 rfl (fun _ => rfl)).1 (hf.2 74 9 rfl (fun _ => rfl)).1 (KP_m hf rfl rfl rfl) (fun k => (hf.2 82 k rfl (fun h => absurd h (by decide))).1)
theorem mu_matchOf {L d : Nat} {K : Option gV → gH → Prop} {s : gH} (p0 : Int) (h : MW s) (r_p0 : -2147483648 ≤ p0 ∧ p0 ≤ 2147483647) (k : ∀ (r : Int) (t : gH), MW t → MXX L s t → (gp_I t 74 11 = gp_I s 74 11) → (gp_I t 74 9 = gp_I s 74 9) → (KP 84 85 mV s t) → (∀ k : Nat, gp_I t 82 k = gp_I s 82 k) → K (some (gp_i r)) t) : gs_C L (d + 600) 3175 4 [gp_r (some 74), gp_i p0] s K := by
  obtain ⟨hs, m1, m2⟩ := h
  refine wp_matchOf (d := d + 596) p0 hs r_p0 m1 (fun r t hs9 hf z0 => ?_)
  exact k r t ⟨hs9, z0, (fun q k a b => by rw [(hf.2 81 k rfl (fun h => absurd h (by decide))).1]; exact m2 (by have h9 := (hf.2 74 9 rfl (fun _ => rfl)).1; rw [← h9]; exact q) k a b)⟩ (MXX_of hf rfl rfl rfl) (hf.2 74 11 rfl (fun _ => rfl)).1 (hf.2 74 9 rfl (fun _ => rfl)).1 (KP_m hf rfl rfl rfl) (fun k => (hf.2 82 k rfl (fun h => absurd h (by decide))).1)
theorem mu_moved {L d : Nat} {K : Option gV → gH → Prop} {s : gH} (p0 : Int) (h : MW s) (r_p0 : -2147483648 ≤ p0 ∧ p0 ≤ 2147483647) (k : ∀ (r : Int) (t : gH), MW t → MXX L s t → (gp_I t 74 11 = gp_I s 74 11) → (gp_I t 74 9 = gp_I s 74 9) → (KP 84 85 mV s t) → (∀ k : Nat, gp_I t 82 k = gp_I s 82 k) → K (some (gp_i r)) t) : gs_C L (d + 600) 3176 2 [gp_r (some 74), gp_i p0] s K := by
  obtain ⟨hs, m1, m2⟩ := h
  refine wp_moved (d := d + 599) p0 hs r_p0 m1 (fun r t hs9 hf z0 => ?_)
  exact k r t ⟨hs9, z0, (fun q k a b => by rw [(hf.2 81 k rfl (fun h => absurd h (by decide))).1]; exact m2 (by have h9 := (hf.2 74 9 rfl (fun _ => rfl)).1; rw [← h9]; exact q) k a b)⟩ (MXX_of hf rfl rfl rfl) (hf.2 74 11 rfl (fun _ => rfl)).1 (hf.2 74 9 rfl (fun _ => rfl)).1 (KP_m hf rfl rfl rfl) (fun k => (hf.2 82 k rfl (fun h => absurd h (by decide))).1)
theorem mu_board {L d : Nat} {K : Option gV → gH → Prop} {s : gH} (p0 : Int) (p1 : Int) (h : MW s) (r_p0 : -2147483648 ≤ p0 ∧ p0 ≤ 2147483647) (r_p1 : -2147483648 ≤ p1 ∧ p1 ≤ 2147483647) (k : ∀ (r : Int) (t : gH), MW t → MXX L s t → (gp_I t 74 11 = gp_I s 74 11) → (gp_I t 74 9 = gp_I s 74 9) → (KP 84 85 mV s t) → (∀ k : Nat, gp_I t 82 k = gp_I s 82 k) → K (some (gp_i r)) t) : gs_C L (d + 600) 3177 4 [gp_r (some 74), gp_i p0, gp_i p1] s K := by
  obtain ⟨hs, m1, m2⟩ := h
  refine wp_board (d := d + 414) p0 p1 hs r_p0 r_p1 m1 (fun r t hs9 hf z0 z1 => ?_)
  exact k r t ⟨hs9, z0, (fun q k a b => by rw [z1 k a (by omega) (by omega)]; exact m2 (by have h9 := (hf.2 74 9 rfl (fun _ => rfl)).1; rw [← h9]; exact q) k a b)⟩ (MXX_of hf rfl rfl rfl) (hf.2 74 11 rfl (fun _ => rfl)).1 (hf.2 74 9 rfl (fun _ => rfl)).1 (KP_m hf rfl rfl rfl) (fun k => (hf.2 82 k rfl (fun h => absurd h (by decide))).1)
theorem mu_sheet {L d : Nat} {K : Option gV → gH → Prop} {s : gH} (p0 : Int) (p1 : Int) (p2 : Int) (h : MW s) (r_p0 : -2147483648 ≤ p0 ∧ p0 ≤ 2147483647) (r_p1 : -2147483648 ≤ p1 ∧ p1 ≤ 2147483647) (r_p2 : -2147483648 ≤ p2 ∧ p2 ≤ 2147483647) (k : ∀ (r : Int) (t : gH), MW t → MXX L s t → (gp_I t 74 11 = gp_I s 74 11) → (gp_I t 74 9 = gp_I s 74 9) → (SHP 84 85 mV s t p0 p1 p2 r) → (∀ k : Nat, gp_I t 82 k = gp_I s 82 k) → K (some (gp_i r)) t) : gs_C L (d + 600) 3178 5 [gp_r (some 74), gp_i p0, gp_i p1, gp_i p2] s K := by
  obtain ⟨hs, m1, m2⟩ := h
  refine wp_sheet2 (d := d + 599) p0 p1 p2 hs r_p0 r_p1 r_p2  (fun r t hs9 hf z0 => ?_)
  exact k r t ⟨hs9, (mM_fr m1 hf rfl rfl rfl rfl rfl rfl rfl), (fun q k a b => by rw [(hf.2 81 k rfl (fun h => absurd h (by decide))).1]; exact m2 (by have h9 := (hf.2 74 9 rfl (fun _ => rfl)).1; rw [← h9]; exact q) k a b)⟩ (MXX_of hf rfl rfl rfl) (hf.2 74 11 rfl (fun _ => rfl)).1 (hf.2 74 9 rfl (fun _ => rfl)).1 z0 (fun k => (hf.2 82 k rfl (fun h => absurd h (by decide))).1)
theorem mu_put {L d : Nat} {K : Option gV → gH → Prop} {s : gH} (p0 : Int) (p1 : Int) (p2 : Int) (h : MW s) (r_p0 : -2147483648 ≤ p0 ∧ p0 ≤ 2147483647) (r_p1 : -2147483648 ≤ p1 ∧ p1 ≤ 2147483647) (r_p2 : -2147483648 ≤ p2 ∧ p2 ≤ 2147483647) (k : ∀ (r : Int) (t : gH), MW t → MXX L s t → (gp_I t 74 11 = gp_I s 74 11) → (gp_I t 74 9 = gp_I s 74 9) → (PTP 84 85 mV s t p0 p1 p2 r) → (∀ k : Nat, gp_I t 82 k = gp_I s 82 k) → K (some (gp_i r)) t) : gs_C L (d + 600) 3180 6 [gp_r (some 74), gp_i p0, gp_i p1, gp_i p2] s K := by
  obtain ⟨hs, m1, m2⟩ := h
  refine wp_put2 (d := d + 598) p0 p1 p2 hs r_p0 r_p1 r_p2  (fun r t hs9 hf z0 => ?_)
  exact k r t ⟨hs9, (mM_fr m1 hf rfl rfl rfl rfl rfl rfl rfl), (fun q k a b => by rw [(hf.2 81 k rfl (fun h => absurd h (by decide))).1]; exact m2 (by have h9 := (hf.2 74 9 rfl (fun _ => rfl)).1; rw [← h9]; exact q) k a b)⟩ (MXX_of hf rfl rfl rfl) (hf.2 74 11 rfl (fun _ => rfl)).1 (hf.2 74 9 rfl (fun _ => rfl)).1 z0 (fun k => (hf.2 82 k rfl (fun h => absurd h (by decide))).1)
theorem mu_number {L d : Nat} {K : Option gV → gH → Prop} {s : gH} (p0 : Int) (p1 : Int) (h : MW s) (r_p0 : -2147483648 ≤ p0 ∧ p0 ≤ 2147483647) (r_p1 : -2147483648 ≤ p1 ∧ p1 ≤ 2147483647) (k : ∀ (r : Int) (t : gH), MW t → MXX L s t → (gp_I t 74 11 = gp_I s 74 11) → (gp_I t 74 9 = gp_I s 74 9) → (NBP 84 85 mV s t p0 p1 r) → (∀ k : Nat, gp_I t 82 k = gp_I s 82 k) → K (some (gp_i r)) t) : gs_C L (d + 600) 3181 4 [gp_r (some 74), gp_i p0, gp_i p1] s K := by
  obtain ⟨hs, m1, m2⟩ := h
  refine wp_number2 (d := d + 598) p0 p1 hs r_p0 r_p1  (fun r t hs9 hf z0 => ?_)
  exact k r t ⟨hs9, (mM_fr m1 hf rfl rfl rfl rfl rfl rfl rfl), (fun q k a b => by rw [(hf.2 81 k rfl (fun h => absurd h (by decide))).1]; exact m2 (by have h9 := (hf.2 74 9 rfl (fun _ => rfl)).1; rw [← h9]; exact q) k a b)⟩ (MXX_of hf rfl rfl rfl) (hf.2 74 11 rfl (fun _ => rfl)).1 (hf.2 74 9 rfl (fun _ => rfl)).1 z0 (fun k => (hf.2 82 k rfl (fun h => absurd h (by decide))).1)
theorem mu_shift {L d : Nat} {K : Option gV → gH → Prop} {s : gH} (p0 : Int) (p1 : Int) (p2 : Int) (p3 : Int) (p4 : Int) (h : MW s) (r_p0 : -2147483648 ≤ p0 ∧ p0 ≤ 2147483647) (r_p1 : -2147483648 ≤ p1 ∧ p1 ≤ 2147483647) (r_p2 : -2147483648 ≤ p2 ∧ p2 ≤ 2147483647) (r_p3 : -2147483648 ≤ p3 ∧ p3 ≤ 2147483647) (r_p4 : -2147483648 ≤ p4 ∧ p4 ≤ 2147483647) (k : ∀ (r : Int) (t : gH), MW t → MXX L s t → (gp_I t 74 11 = gp_I s 74 11) → (gp_I t 74 9 = gp_I s 74 9) → (SFP 84 85 mV s t p0 p1 p2 p3 p4 r) → (∀ k : Nat, gp_I t 82 k = gp_I s 82 k) → K (some (gp_i r)) t) : gs_C L (d + 600) 3182 7 [gp_r (some 74), gp_i p0, gp_i p1, gp_i p2, gp_i p3, gp_i p4] s K := by
  obtain ⟨hs, m1, m2⟩ := h
  refine wp_shift2 (d := d + 599) p0 p1 p2 p3 p4 hs r_p0 r_p1 r_p2 r_p3 r_p4  (fun r t hs9 hf z0 => ?_)
  exact k r t ⟨hs9, (mM_fr m1 hf rfl rfl rfl rfl rfl rfl rfl), (fun q k a b => by rw [(hf.2 81 k rfl (fun h => absurd h (by decide))).1]; exact m2 (by have h9 := (hf.2 74 9 rfl (fun _ => rfl)).1; rw [← h9]; exact q) k a b)⟩ (MXX_of hf rfl rfl rfl) (hf.2 74 11 rfl (fun _ => rfl)).1 (hf.2 74 9 rfl (fun _ => rfl)).1 z0 (fun k => (hf.2 82 k rfl (fun h => absurd h (by decide))).1)
theorem mu_judge {L d : Nat} {K : Option gV → gH → Prop} {s : gH} (p0 : Int) (p1 : Int) (h : MW s) (r_p0 : -2147483648 ≤ p0 ∧ p0 ≤ 2147483647) (r_p1 : -2147483648 ≤ p1 ∧ p1 ≤ 2147483647) (k : ∀ (r : Int) (t : gH), MW t → MXX L s t → (gp_I t 74 11 = gp_I s 74 11) → (gp_I t 74 9 = gp_I s 74 9) → (KP 84 85 mV s t) → (∀ k : Nat, gp_I t 82 k = gp_I s 82 k) → K (some (gp_i r)) t) : gs_C L (d + 600) 3183 4 [gp_r (some 74), gp_i p0, gp_i p1] s K := by
  obtain ⟨hs, m1, m2⟩ := h
  refine wp_judge (d := d + 597) p0 p1 hs r_p0 r_p1  (fun r t hs9 hf  => ?_)
  exact k r t ⟨hs9, (mM_fr m1 hf rfl rfl rfl rfl rfl rfl rfl), (fun q k a b => by rw [(hf.2 81 k rfl (fun h => absurd h (by decide))).1]; exact m2 (by have h9 := (hf.2 74 9 rfl (fun _ => rfl)).1; rw [← h9]; exact q) k a b)⟩ (MXX_of hf rfl rfl rfl) (hf.2 74 11 rfl (fun _ => rfl)).1 (hf.2 74 9 rfl (fun _ => rfl)).1 (KP_m hf rfl rfl rfl) (fun k => (hf.2 82 k rfl (fun h => absurd h (by decide))).1)
theorem mu_seed {L d : Nat} {K : Option gV → gH → Prop} {s : gH} (p0 : Int) (h : MW s) (r_p0 : -2147483648 ≤ p0 ∧ p0 ≤ 2147483647) (k : ∀ (r : Int) (t : gH), MW t → MXX L s t → (gp_I t 74 11 = gp_I s 74 11) → (gp_I t 74 9 = gp_I s 74 9) → (KP 84 85 mV s t) → (∀ k : Nat, gp_I t 82 k = gp_I s 82 k) → K (some (gp_i r)) t) : gs_C L (d + 600) 3184 3 [gp_r (some 74), gp_i p0] s K := by
  obtain ⟨hs, m1, m2⟩ := h
  refine wp_seed (d := d + 600) p0 hs r_p0  (fun r t hs9 hf  => ?_)
  exact k r t ⟨hs9, (mM_fr m1 hf rfl rfl rfl rfl rfl rfl rfl), (fun q k a b => by rw [(hf.2 81 k rfl (fun h => absurd h (by decide))).1]; exact m2 (by have h9 := (hf.2 74 9 rfl (fun _ => rfl)).1; rw [← h9]; exact q) k a b)⟩ (MXX_of hf rfl rfl rfl) (hf.2 74 11 rfl (fun _ => rfl)).1 (hf.2 74 9 rfl (fun _ => rfl)).1 (KP_m hf rfl rfl rfl) (fun k => (hf.2 82 k rfl (fun h => absurd h (by decide))).1)
theorem mu_image {L d : Nat} {K : Option gV → gH → Prop} {s : gH}  (h : MW s)  (k : ∀ (r : Int) (t : gH), MW t → MXX L s t → (gp_I t 74 11 = gp_I s 74 11) → (r = gp_wr (gp_I s 74 9 + 1) ∧ gp_I t 74 9 = r) → (KP 84 85 mV s t) → (∀ k : Nat, gp_I t 82 k = gp_I s 82 k) → K (some (gp_i r)) t) : gs_C L (d + 600) 3186 2 [gp_r (some 74)] s K := by
  obtain ⟨hs, m1, m2⟩ := h
  refine wp_image2 (d := d + 599) hs   (fun r t hs9 hf z0 z1 z2 => ?_)
  exact k r t ⟨hs9, (mM_frK m1 hs hf (fun k a b => z1 k a) rfl rfl rfl rfl rfl rfl rfl), (fun _ => z0)⟩ (MXX_of hf rfl rfl rfl) (hf.2 74 11 rfl (fun _ => rfl)).1 z2 (KP_m hf rfl rfl rfl) (fun k => (hf.2 82 k rfl (fun h => absurd h (by decide))).1)
theorem mu_restore {L d : Nat} {K : Option gV → gH → Prop} {s : gH}  (h : MW s)  (k : ∀ (r : Int) (t : gH), MW t → MXX L s t → (gp_I t 74 11 = gp_I s 74 11) → (gp_I t 74 9 = gp_I s 74 9) → (KP 84 85 mV s t) → (∀ k : Nat, gp_I t 82 k = gp_I s 82 k) → K (some (gp_i r)) t) : gs_C L (d + 600) 3187 2 [gp_r (some 74)] s K := by
  obtain ⟨hs, m1, m2⟩ := h
  refine wp_restore (d := d + 599) hs  m2 (fun r t hs9 hf z0 => ?_)
  exact k r t ⟨hs9, (mM_frK m1 hs hf (fun k a b => z0 k (by omega) (by omega) (by omega)) rfl rfl rfl rfl rfl rfl rfl), (fun q k a b => by rw [z0 k a (by omega) (by omega)]; exact m2 (by have h9 := (hf.2 74 9 rfl (fun _ => rfl)).1; rw [← h9]; exact q) k a b)⟩ (MXX_of hf rfl rfl rfl) (hf.2 74 11 rfl (fun _ => rfl)).1 (hf.2 74 9 rfl (fun _ => rfl)).1 (KP_m hf rfl rfl rfl) (fun k => (hf.2 82 k rfl (fun h => absurd h (by decide))).1)
theorem mu_count {L d : Nat} {K : Option gV → gH → Prop} {s : gH} (p0 : Int) (h : MW s) (r_p0 : -2147483648 ≤ p0 ∧ p0 ≤ 2147483647) (k : ∀ (r : Int) (t : gH), MW t → MXX L s t → (gp_I t 74 11 = gp_I s 74 11) → (gp_I t 74 9 = gp_I s 74 9) → (KP 84 85 mV s t) → (∀ k : Nat, gp_I t 82 k = gp_I s 82 k) → K (some (gp_i r)) t) : gs_C L (d + 600) 3188 4 [gp_r (some 74), gp_i p0] s K := by
  obtain ⟨hs, m1, m2⟩ := h
  refine wp_count (d := d + 598) p0 hs r_p0  (fun r t hs9 hf  => ?_)
  exact k r t ⟨hs9, (mM_fr m1 hf rfl rfl rfl rfl rfl rfl rfl), (fun q k a b => by rw [(hf.2 81 k rfl (fun h => absurd h (by decide))).1]; exact m2 (by have h9 := (hf.2 74 9 rfl (fun _ => rfl)).1; rw [← h9]; exact q) k a b)⟩ (MXX_of hf rfl rfl rfl) (hf.2 74 11 rfl (fun _ => rfl)).1 (hf.2 74 9 rfl (fun _ => rfl)).1 (KP_m hf rfl rfl rfl) (fun k => (hf.2 82 k rfl (fun h => absurd h (by decide))).1)
theorem mu_told {L d : Nat} {K : Option gV → gH → Prop} {s : gH} (p0 : Int) (h : MW s) (r_p0 : -2147483648 ≤ p0 ∧ p0 ≤ 2147483647) (k : ∀ (r : Int) (t : gH), MW t → MXX L s t → (gp_I t 74 11 = gp_I s 74 11) → (gp_I t 74 9 = gp_I s 74 9) → (KP 84 85 mV s t) → (∀ k : Nat, gp_I t 82 k = gp_I s 82 k) → K (some (gp_i r)) t) : gs_C L (d + 600) 3189 2 [gp_r (some 74), gp_i p0] s K := by
  obtain ⟨hs, m1, m2⟩ := h
  refine wp_told (d := d + 599) p0 hs r_p0  (fun r t hs9 hf  => ?_)
  exact k r t ⟨hs9, (mM_fr m1 hf rfl rfl rfl rfl rfl rfl rfl), (fun q k a b => by rw [(hf.2 81 k rfl (fun h => absurd h (by decide))).1]; exact m2 (by have h9 := (hf.2 74 9 rfl (fun _ => rfl)).1; rw [← h9]; exact q) k a b)⟩ (MXX_of hf rfl rfl rfl) (hf.2 74 11 rfl (fun _ => rfl)).1 (hf.2 74 9 rfl (fun _ => rfl)).1 (KP_m hf rfl rfl rfl) (fun k => (hf.2 82 k rfl (fun h => absurd h (by decide))).1)
