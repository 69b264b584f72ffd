/-! what game answers -/
def R50 : R5 := (0, -1, 0, 0, 0)
def RDG (L : Nat) (g : Nat → Int) (n : Int) (t : gH) (r : Option Nat) : Prop := ∃ N q, RDZ g n N 1 0 R50 q ∧ ((0 ≤ gp_I t 46 7 ∧ ((0 ≤ q.2.1 ∧ gp_I t 46 7 = q.2.1) ∨ (q.2.1 < 0 ∧ q.1 < n ∧ gp_I t 46 7 = q.1))) ∨ (gp_I t 46 7 < 0 ∧ q.2.1 < 0 ∧ n ≤ q.1 ∧ gp_I t 46 8 = q.2.2.2.1 ∧ (q.2.2.2.1 = 0 → GT L t r q.2.2.1)))
theorem RDG_e {L : Nat} {g : Nat → Int} {n : Int} {s t : gH} {r : Option Nat} (h : RTW L g n s t 1 0 r) (hi : IN5 s = R50) (f : gp_I s 46 7 < 0) (e : n ≤ gp_I t 46 6) : RDG L g n t r := by
  obtain ⟨N, q, y, z1, z2, z3, z4⟩ := h.2 f
  rw [hi] at y
  refine ⟨N, q, y, ?_⟩
  unfold FTE at z2
  rcases z2 with ⟨a, b⟩ | ⟨a, b⟩
  · exact Or.inr ⟨a, b, by omega, z3, fun c => z4 ⟨b, c⟩⟩
  · exact Or.inl ⟨by omega, Or.inl ⟨a, b⟩⟩
theorem RDG_f {L : Nat} {g : Nat → Int} {n : Int} {s d t : gH} {r : Option Nat} (h : RTW L g n s d 1 0 r) (hi : IN5 s = R50) (f : gp_I s 46 7 < 0) (p0 : 0 ≤ gp_I d 46 6) (e : gp_I d 46 6 < n) (fl : FLW d t) : RDG L g n t r := by
  obtain ⟨N, q, y, z1, z2, z3, z4⟩ := h.2 f
  rw [hi] at y
  refine ⟨N, q, y, ?_⟩
  unfold FTE at z2
  rcases z2 with ⟨a, b⟩ | ⟨a, b⟩
  · have x := fl.1 a
    exact Or.inl ⟨by omega, Or.inr ⟨b, by omega, by omega⟩⟩
  · have x := fl.2 (by omega)
    exact Or.inl ⟨by omega, Or.inl ⟨a, by omega⟩⟩
def SZV (x : Nat) (r : Int) : Prop := ∃ (f : Nat → ND) (n : Nat), TBL f n ∧ val f (n - 1) = x ∧ r = n
theorem SZV_f {x : Nat} {r r2 : Int} (a : SZV x r) (b : SZV x r2) : r = r2 := by
  obtain ⟨f, n, a1, a2, a3⟩ := a
  obtain ⟨g, m, b1, b2, b3⟩ := b
  rw [a3, b3, TBL_eq a1 b1 (a2.trans b2.symm)]
def GMP (g : Nat → Int) (n p0 r : Int) : Prop := (¬ (0 ≤ p0 ∧ p0 ≤ 7) ∧ r = -1000000001) ∨ ((0 ≤ p0 ∧ p0 ≤ 7) ∧ ∃ N q, RDZ g n N 1 0 R50 q ∧ ((0 ≤ q.2.1 ∧ r = -10 - q.2.1) ∨ (q.2.1 < 0 ∧ q.1 < n ∧ r = -10 - q.1) ∨ (q.2.1 < 0 ∧ n ≤ q.1 ∧ ((q.2.2.2.1 ≠ 0 ∧ r = -1000000000 - q.2.2.2.1) ∨ (q.2.2.2.1 = 0 ∧ SZV q.2.2.1 r)))))
/-- bytes that read alike -/
def EQC (x y : Int) : Prop := x = y ∨ (¬ (0 ≤ x ∧ x ≤ 127) ∧ ¬ (0 ≤ y ∧ y ≤ 127))
theorem ndg_eq {g h : Nat → Int} {n : Int} (e : ∀ p, EQC (nxg g n p) (nxg h n p)) : ∀ k p v, ndg g n k p v = ndg h n k p v
  | 0, _, _ => rfl
  | k + 1, p, v => by
    have c := e p
    unfold EQC at c
    unfold ndg
    by_cases d : 48 ≤ nxg g n p ∧ nxg g n p ≤ 57
    · have q : nxg g n p = nxg h n p := by omega
      rw [if_pos d, ← q, if_pos d]; exact ndg_eq e k _ _
    · rw [if_neg d, if_neg (by omega)]
theorem RDK_eq {g h : Nat → Int} {n : Int} {R : RR} (e : ∀ p, EQC (nxg g n p) (nxg h n p)) {k : Nat} {o : Int} {i r : R5} (a : RDK R g n k o i r) : RDK R h n k o i r := by
  have ne := ndg_eq e
  have c := fun p => e p
  unfold EQC at c
  unfold RDK at a ⊢
  by_cases c0 : k = 0
  · rw [if_pos c0] at a ⊢
    unfold RDU dgt at a ⊢
    have c1 := c i.1
    have c2 := c (i.1 + 1)
    rw [← ne]
    rcases a with ⟨a1, a2, a3⟩ | ⟨a1, a2, a3⟩ | ⟨a1, a3⟩ | ⟨a1, a2, a4, a3⟩ | ⟨a1, a2, a3⟩ | ⟨a1, a2, a3⟩
    · have q : nxg g n (i.1 + 1) = nxg h n (i.1 + 1) := by omega
      exact Or.inl ⟨by omega, by omega, by rw [← q]; exact a3⟩
    · exact Or.inr (Or.inl ⟨by omega, by omega, a3⟩)
    · exact Or.inr (Or.inr (Or.inl ⟨by omega, a3⟩))
    · exact Or.inr (Or.inr (Or.inr (Or.inl ⟨by omega, by omega, by omega, a3⟩)))
    · exact Or.inr (Or.inr (Or.inr (Or.inr (Or.inl ⟨by omega, a2, a3⟩))))
    · exact Or.inr (Or.inr (Or.inr (Or.inr (Or.inr ⟨by omega, a2, a3⟩))))
  rw [if_neg c0] at a ⊢
  by_cases c1 : k = 1
  · rw [if_pos c1] at a ⊢; exact a
  rw [if_neg c1] at a ⊢
  by_cases c2 : k = 2
  · rw [if_pos c2] at a ⊢
    have d := c i.1
    rcases a with ⟨a1, a2⟩ | ⟨a1, a2⟩
    · exact Or.inl ⟨by omega, a2⟩
    · exact Or.inr ⟨by omega, a2⟩
  rw [if_neg c2] at a ⊢
  by_cases c3 : k = 3
  · rw [if_pos c3] at a ⊢
    have d := c i.1
    have d2 := c (i.1 + 1)
    rcases a with ⟨a1, p, s, a2, a3⟩ | ⟨a1, a2⟩
    · have d3 := c p
      unfold dgt at a3
      refine Or.inl ⟨by omega, p, s, by omega, ?_⟩
      unfold dgt
      rw [← ne]
      rcases a3 with ⟨a4, a5⟩ | ⟨a4, a5⟩
      · exact Or.inl ⟨by omega, a5⟩
      · exact Or.inr ⟨by omega, a5⟩
    · exact Or.inr ⟨by omega, a2⟩
  rw [if_neg c3] at a ⊢
  by_cases c4 : k = 4
  · rw [if_pos c4] at a ⊢
    have d := c i.1
    rcases a with ⟨a1, a2⟩ | ⟨a1, a2⟩
    · exact Or.inl ⟨by omega, a2⟩
    · exact Or.inr ⟨by omega, a2⟩
  rw [if_neg c4] at a ⊢
  obtain ⟨x, a1, a2⟩ := a
  have d := c x.1
  refine ⟨x, a1, ?_⟩
  rcases a2 with a2 | ⟨a2, a3, a4⟩ | ⟨a2, a3, b, b1, b2⟩
  · exact Or.inl a2
  · exact Or.inr (Or.inl ⟨a2, by omega, a4⟩)
  · have d2 := c b.1
    refine Or.inr (Or.inr ⟨a2, by omega, b, b1, ?_⟩)
    rcases b2 with b2 | ⟨b2, b3, b4⟩ | ⟨b2, b3, b4⟩
    · exact Or.inl b2
    · exact Or.inr (Or.inl ⟨b2, by omega, b4⟩)
    · exact Or.inr (Or.inr ⟨b2, by omega, b4⟩)
theorem RDZ_eq {g h : Nat → Int} {n : Int} (e : ∀ p, EQC (nxg g n p) (nxg h n p)) : ∀ N k o i r, RDZ g n N k o i r → RDZ h n N k o i r
  | 0, _, _, _, _, a => a
  | N + 1, k, o, i, r, a => RDK_eq e (RDK_mono (fun k o i r x => RDZ_eq e N k o i r x) a)
theorem GMP_eq {g h : Nat → Int} {n p0 r r2 : Int} (e : ∀ p, EQC (nxg g n p) (nxg h n p)) (a : GMP g n p0 r) (b : GMP h n p0 r2) : r = r2 := by
  rcases a with ⟨a1, a2⟩ | ⟨a1, N, q, a2, a3⟩ <;> rcases b with ⟨b1, b2⟩ | ⟨b1, M, q', b2, b3⟩
  · omega
  · exact absurd b1 a1
  · exact absurd a1 b1
  · have eq := RDZ_det _ _ _ _ _ _ _ (RDZ_eq e _ _ _ _ _ a2) b2
    subst eq
    rcases a3 with ⟨c1, c2⟩ | ⟨c1, c2, c3⟩ | ⟨c1, c2, ⟨c3, c4⟩ | ⟨c3, c4⟩⟩ <;> rcases b3 with ⟨d1, d2⟩ | ⟨d1, d2, d3⟩ | ⟨d1, d2, ⟨d3, d4⟩ | ⟨d3, d4⟩⟩ <;> first | omega | exact SZV_f c4 d4
theorem GMP_byte {g h : Nat → Int} {n : Int} (n0 : 0 ≤ n) (e : ∀ k : Nat, (k : Int) < n → g k = gp_b (h k) ∧ 0 ≤ h k ∧ h k ≤ 255) (p : Int) (hp : 0 ≤ p) : EQC (nxg g n p) (nxg h n p) := by
  unfold EQC nxg
  by_cases c : p < n
  · rw [if_pos c, if_pos c]
    have z := e p.toNat (by omega)
    have b := z.1
    unfold gp_b at b
    omega
  · rw [if_neg c, if_neg c]; exact Or.inl rfl
theorem GM_h {L : Nat} {n r : Int} {t : gH} {q : R5} {a m : Nat} (h : (0 ≤ gp_I t 46 7 ∧ ((0 ≤ q.2.1 ∧ gp_I t 46 7 = q.2.1) ∨ (q.2.1 < 0 ∧ q.1 < n ∧ gp_I t 46 7 = q.1))) ∨ (gp_I t 46 7 < 0 ∧ q.2.1 < 0 ∧ n ≤ q.1 ∧ gp_I t 46 8 = q.2.2.2.1 ∧ (q.2.2.2.1 = 0 → GT L t (some a) q.2.2.1))) (f : gp_I t 46 7 < 0) (h8 : gp_I t 46 8 = 0) (kt : kT L t a m) (hr : r = m) : (0 ≤ q.2.1 ∧ r = -10 - q.2.1) ∨ (q.2.1 < 0 ∧ q.1 < n ∧ r = -10 - q.1) ∨ (q.2.1 < 0 ∧ n ≤ q.1 ∧ ((q.2.2.2.1 ≠ 0 ∧ r = -1000000000 - q.2.2.2.1) ∨ (q.2.2.2.1 = 0 ∧ SZV q.2.2.1 r))) := by
  rcases h with ⟨a1, _⟩ | ⟨_, a2, a3, a4, a5⟩
  · omega
  · have g := GT_at (a5 (by omega)) kt
    exact Or.inr (Or.inr ⟨a2, a3, Or.inr ⟨by omega, _, _, g.2.1.1, g.2.2, hr⟩⟩)
theorem xm_readSum9V {L d : Nat} {K : Option gV → gH → Prop} {s : gH} (p0 : Int) (hs : XI L 0 s) (h_p0 : 0 ≤ p0 ∧ p0 ≤ 8) (q0 : RTX L s) (q1 : RV L s) (q2 : gp_I s 46 6 ≤ gp_I s 46 5) (q3 : gp_I s 46 7 < 0 → gp_I s 46 3 ≤ gp_I s 46 6) (k : ∀ (r : Option Nat), ∀ (t : gH), XI L 0 t → gX L true [8, 9, 10, 11, 12, 13, 14, 15, 21, 22, 47, 1196, 2475, 2478, 2479, 2480] s t → (∃ a n, r = some a ∧ kT L t a n ∧ n ≤ 60) → (gp_I s 46 6 ≤ gp_I t 46 6 ∧ gp_I t 46 6 ≤ gp_I t 46 5) → (RTX L t) → (RV L t) → (gp_I t 46 3 = gp_I s 46 3) → ((gp_sz t : Int) ≤ gp_sz s + 6 * (gp_I t 46 6 - gp_I s 46 6) ∧ (gp_us t : Int) ≤ gp_us s + 310 * (gp_I t 46 6 - gp_I s 46 6)) → (IK s t) → (RTW L (G3 s) (gp_I s 46 5) s t 1 p0 r) → (RK L s t) → (gp_I s 46 7 < 0 ∧ gp_I t 46 7 < 0 → gp_I s 46 6 + 1 ≤ gp_I t 46 6) → K (some (gp_r r)) t) : gs_C L (d + 57) 1285 5 [gp_r (some 46), gp_i p0] s K := xm_readSumV 9 (RUV_all 9) _ _ _ _ _ (by omega) hs h_p0 q0 q1 (by omega) q2 q3 k
set_option maxRecDepth 100000 in
/-- Reader.read -/
theorem xm_readV  {L d : Nat} {K : Option gV → gH → Prop} {s : gH}  (p1 : Int) (hs : XI L 0 s) (h_p1 : 0 ≤ p1 ∧ p1 ≤ 100)  (k : ∀ (r : Option Nat), ∀ (t : gH), XI L 0 t → gX L true [8, 9, 10, 11, 12, 13, 14, 15, 21, 22, 47, 1196, 2475, 2476, 2477, 2478, 2479, 2480] s t → (∃ a n, r = some a ∧ kT L t a n ∧ n ≤ 60) → ((gp_sz t : Int) ≤ gp_sz s + 6 * p1 ∧ (gp_us t : Int) ≤ gp_us s + 310 * p1) → (RDG L (fun j => gp_I s 3 j) p1 t r) → K (some (gp_r r)) t) : gs_C L (d + 58) 1281 4 [gp_r (some 46), gp_r (some 3), gp_i p1] s K := by
  have f_1 := xr46_3 hs
  have f_2 := xr46_5 hs
  have f_3 := xr46_6 hs
  have f_4 := xr46_7 hs
  have f_5 := xr46_8 hs
  refine s_1281_e _ _ ?_
  intro s_6 e_7
  have hs_8 : XI L 0 s_6 := by rw [e_7]; exact XI.wR hs 46 4 _ (Or.inl (show ¬ (gp_ss 46).1 = 9 by decide))
  have hf_9 : gX L true [8, 9, 10, 11, 12, 13, 14, 15, 21, 22, 47, 1196, 2475, 2476, 2477, 2478, 2479, 2480] s s_6 := by rw [e_7]; exact gX.wR (gX.refl _ _ _ _) (Or.inl rfl) (Or.inl (show ¬ (gp_ss 46).1 = 9 by decide))
  have z_10 : gp_sz s_6 = gp_sz s ∧ gp_us s_6 = gp_us s := by rw [e_7]; exact ⟨rfl, rfl⟩
  have q_11 : gp_I s_6 46 3 = gp_I s 46 3 := by rw [e_7] <;> first | rfl | exact I_ne (by omega)
  have q_12 : gp_I s_6 46 5 = gp_I s 46 5 := by rw [e_7] <;> first | rfl | exact I_ne (by omega)
  have q_13 : gp_I s_6 46 6 = gp_I s 46 6 := by rw [e_7] <;> first | rfl | exact I_ne (by omega)
  have q_14 : gp_I s_6 46 7 = gp_I s 46 7 := by rw [e_7] <;> first | rfl | exact I_ne (by omega)
  have q_15 : gp_I s_6 46 8 = gp_I s 46 8 := by rw [e_7] <;> first | rfl | exact I_ne (by omega)
  have hRT : RTX L s_6 := by rw [‹s_6 = gp_wR _ 46 4 _›]; exact RTX_w
  intro s_16 e_17
  have hs_18 : XI L 0 s_16 := by rw [e_17]; exact xw46_5 hs_8 _ (by omega)
  have hf_19 : gX L true [8, 9, 10, 11, 12, 13, 14, 15, 21, 22, 47, 1196, 2475, 2476, 2477, 2478, 2479, 2480] s s_16 := by rw [e_17]; exact gX.wI hf_9 (Or.inl rfl)
  have z_20 : gp_sz s_16 = gp_sz s_6 ∧ gp_us s_16 = gp_us s_6 := by rw [e_17]; exact ⟨rfl, rfl⟩
  have q_21 : gp_I s_16 46 3 = gp_I s_6 46 3 := by rw [e_17] <;> first | rfl | exact I_ne (by omega)
  have q_22 : gp_I s_16 46 5 = p1 := by rw [e_17]; exact (gz_rw _ _ _ _ _).1 rfl
  have q_23 : gp_I s_16 46 6 = gp_I s_6 46 6 := by rw [e_17] <;> first | rfl | exact I_ne (by omega)
  have q_24 : gp_I s_16 46 7 = gp_I s_6 46 7 := by rw [e_17] <;> first | rfl | exact I_ne (by omega)
  have q_25 : gp_I s_16 46 8 = gp_I s_6 46 8 := by rw [e_17] <;> first | rfl | exact I_ne (by omega)
  have pd_26 : RTX L s_16 := by rw [e_17]; exact RTX_fr hRT (gX.wI (gX.refl L true [2477] _) (Or.inl rfl)) rfl
  intro s_27 e_28
  have hs_29 : XI L 0 s_27 := by rw [e_28]; exact xw46_6 hs_18 _ (by omega)
  have hf_30 : gX L true [8, 9, 10, 11, 12, 13, 14, 15, 21, 22, 47, 1196, 2475, 2476, 2477, 2478, 2479, 2480] s s_27 := by rw [e_28]; exact gX.wI hf_19 (Or.inl rfl)
  have z_31 : gp_sz s_27 = gp_sz s_16 ∧ gp_us s_27 = gp_us s_16 := by rw [e_28]; exact ⟨rfl, rfl⟩
  have q_32 : gp_I s_27 46 3 = gp_I s_16 46 3 := by rw [e_28] <;> first | rfl | exact I_ne (by omega)
  have q_33 : gp_I s_27 46 5 = gp_I s_16 46 5 := by rw [e_28] <;> first | rfl | exact I_ne (by omega)
  have q_34 : gp_I s_27 46 6 = 0 := by rw [e_28]; exact (gz_rw _ _ _ _ _).1 rfl
  have q_35 : gp_I s_27 46 7 = gp_I s_16 46 7 := by rw [e_28] <;> first | rfl | exact I_ne (by omega)
  have q_36 : gp_I s_27 46 8 = gp_I s_16 46 8 := by rw [e_28] <;> first | rfl | exact I_ne (by omega)
  have pd_37 : RTX L s_27 := by rw [e_28]; exact RTX_fr pd_26 (gX.wI (gX.refl L true [2478] _) (Or.inl rfl)) rfl
  intro s_38 e_39
  have hs_40 : XI L 0 s_38 := by rw [e_39]; exact xw46_3 hs_29 _ (by omega)
  have hf_41 : gX L true [8, 9, 10, 11, 12, 13, 14, 15, 21, 22, 47, 1196, 2475, 2476, 2477, 2478, 2479, 2480] s s_38 := by rw [e_39]; exact gX.wI hf_30 (Or.inl rfl)
  have z_42 : gp_sz s_38 = gp_sz s_27 ∧ gp_us s_38 = gp_us s_27 := by rw [e_39]; exact ⟨rfl, rfl⟩
  have q_43 : gp_I s_38 46 3 = 0 := by rw [e_39]; exact (gz_rw _ _ _ _ _).1 rfl
  have q_44 : gp_I s_38 46 5 = gp_I s_27 46 5 := by rw [e_39] <;> first | rfl | exact I_ne (by omega)
  have q_45 : gp_I s_38 46 6 = gp_I s_27 46 6 := by rw [e_39] <;> first | rfl | exact I_ne (by omega)
  have q_46 : gp_I s_38 46 7 = gp_I s_27 46 7 := by rw [e_39] <;> first | rfl | exact I_ne (by omega)
  have q_47 : gp_I s_38 46 8 = gp_I s_27 46 8 := by rw [e_39] <;> first | rfl | exact I_ne (by omega)
  have pd_48 : RTX L s_38 := by rw [e_39]; exact RTX_fr pd_37 (gX.wI (gX.refl L true [2475] _) (Or.inl rfl)) rfl
  have hRV0 : RV L s_38 := RV_0 (by omega)
  intro s_49 e_50
  have hs_51 : XI L 0 s_49 := by rw [e_50]; exact xw46_7 hs_40 _ (by omega)
  have hf_52 : gX L true [8, 9, 10, 11, 12, 13, 14, 15, 21, 22, 47, 1196, 2475, 2476, 2477, 2478, 2479, 2480] s s_49 := by rw [e_50]; exact gX.wI hf_41 (Or.inl rfl)
  have z_53 : gp_sz s_49 = gp_sz s_38 ∧ gp_us s_49 = gp_us s_38 := by rw [e_50]; exact ⟨rfl, rfl⟩
  have q_54 : gp_I s_49 46 3 = gp_I s_38 46 3 := by rw [e_50] <;> first | rfl | exact I_ne (by omega)
  have q_55 : gp_I s_49 46 5 = gp_I s_38 46 5 := by rw [e_50] <;> first | rfl | exact I_ne (by omega)
  have q_56 : gp_I s_49 46 6 = gp_I s_38 46 6 := by rw [e_50] <;> first | rfl | exact I_ne (by omega)
  have q_57 : gp_I s_49 46 7 = (-1) := by rw [e_50]; exact (gz_rw _ _ _ _ _).1 rfl
  have q_58 : gp_I s_49 46 8 = gp_I s_38 46 8 := by rw [e_50] <;> first | rfl | exact I_ne (by omega)
  have pd_59 : RTX L s_49 := by rw [e_50]; exact RTX_fr pd_48 (gX.wI (gX.refl L true [2479] _) (Or.inl rfl)) rfl
  have pd_60 : RV L s_49 := by rw [e_50]; exact RV_fr hRV0 (gX.wI (gX.refl L true [2479] _) (Or.inl rfl)) rfl rfl
  intro s_61 e_62
  have hs_63 : XI L 0 s_61 := by rw [e_62]; exact xw46_8 hs_51 _ (by omega)
  have hf_64 : gX L true [8, 9, 10, 11, 12, 13, 14, 15, 21, 22, 47, 1196, 2475, 2476, 2477, 2478, 2479, 2480] s s_61 := by rw [e_62]; exact gX.wI hf_52 (Or.inl rfl)
  have z_65 : gp_sz s_61 = gp_sz s_49 ∧ gp_us s_61 = gp_us s_49 := by rw [e_62]; exact ⟨rfl, rfl⟩
  have q_66 : gp_I s_61 46 3 = gp_I s_49 46 3 := by rw [e_62] <;> first | rfl | exact I_ne (by omega)
  have q_67 : gp_I s_61 46 5 = gp_I s_49 46 5 := by rw [e_62] <;> first | rfl | exact I_ne (by omega)
  have q_68 : gp_I s_61 46 6 = gp_I s_49 46 6 := by rw [e_62] <;> first | rfl | exact I_ne (by omega)
  have q_69 : gp_I s_61 46 7 = gp_I s_49 46 7 := by rw [e_62] <;> first | rfl | exact I_ne (by omega)
  have q_70 : gp_I s_61 46 8 = 0 := by rw [e_62]; exact (gz_rw _ _ _ _ _).1 rfl
  have pd_71 : RTX L s_61 := by rw [e_62]; exact RTX_fr pd_59 (gX.wI (gX.refl L true [2480] _) (Or.inl rfl)) rfl
  have pd_72 : RV L s_61 := by rw [e_62]; exact RV_fr pd_60 (gX.wI (gX.refl L true [2480] _) (Or.inl rfl)) rfl rfl
  have hS9 : SRC s_61 (fun j => gp_I s 3 j) p1 := ⟨G3_fr hf_64 rfl, by omega⟩
  have hI9 : IN5 s_61 = R50 := by unfold IN5 R50; rw [show gp_I s_61 46 6 = 0 by omega, show gp_I s_61 46 8 = 0 by omega]
  have hf9 : gp_I s_61 46 7 < 0 := by omega
  refine xm_readSum9V _ hs_63 (by omega) (pd_71) (pd_72) (by first | omega | assumption) (by first | omega | assumption) (fun o_73 s_74 hs_75 hf_76 p_77 p_78 p_79 p_80 p_81 p_82 p_83 p_84 p_85 p_86 => ⟨_, rfl, ?_⟩)
  have hf_87 : gX L true [8, 9, 10, 11, 12, 13, 14, 15, 21, 22, 47, 1196, 2475, 2476, 2477, 2478, 2479, 2480] s s_74 := gX.trans hf_64 hf_76 rfl rfl
  have q_88 : gp_I s_74 46 5 = gp_I s_61 46 5 := (hf_76.2.2.1 46 5 (by decide) (by decide) rfl).1
  obtain ⟨a_89, n_90, rfl, kt_91, hn_92⟩ := p_77
  have hn_a_89 := kt_91.n hs_75
  have hUN := RTW_c p_84 hS9 rfl rfl
  have hp9 := xr46_6 hs_75
  have f_93 := xr46_6 hs_75
  have f_94 := xr46_5 hs_75
  refine ⟨fun h_95 => ?_, fun h_95 => ?_⟩
  · refine xm_failV hs_75 (fun s_96 hs_97 hf_98 p_99 p_100 p_101 => ⟨rfl, ?_⟩)
    have hf_102 : gX L true [8, 9, 10, 11, 12, 13, 14, 15, 21, 22, 47, 1196, 2475, 2476, 2477, 2478, 2479, 2480] s s_96 := gX.trans hf_87 hf_98 rfl rfl
    have kt_103 : kT L s_96 a_89 n_90 := kt_91.fr hf_98.1
    have pd_104 : RTX L s_96 := RTX_fr p_79 hf_98 rfl
    have pd_105 : RV L s_96 := RV_fr p_80 hf_98 rfl rfl
    have q_106 : gp_I s_96 46 3 = gp_I s_74 46 3 := (hf_98.2.2.1 46 3 (by decide) (by decide) rfl).1
    have q_107 : gp_I s_96 46 5 = gp_I s_74 46 5 := (hf_98.2.2.1 46 5 (by decide) (by decide) rfl).1
    have q_108 : gp_I s_96 46 6 = gp_I s_74 46 6 := (hf_98.2.2.1 46 6 (by decide) (by decide) rfl).1
    have q_109 : gp_I s_96 46 8 = gp_I s_74 46 8 := (hf_98.2.2.1 46 8 (by decide) (by decide) rfl).1
    have z_110 : gp_sz s_96 = gp_sz s_74 ∧ gp_us s_96 = gp_us s_74 := hf_98.2.1 rfl
    refine s_1281_51 _ _ _ ?_
    have hRDG : RDG L (fun j => gp_I s 3 j) p1 s_96 (some a_89) := by first | exact RDG_e hUN hI9 hf9 (by omega) | exact RDG_f hUN hI9 hf9 hp9.1 (by omega) (by assumption)
    exact k _ s_96 hs_97 hf_102 (⟨_, _, rfl, kt_103, by omega⟩) (by first | omega | assumption) (hRDG)
  · refine s_1281_51 _ _ _ ?_
    have hRDG : RDG L (fun j => gp_I s 3 j) p1 s_74 (some a_89) := by first | exact RDG_e hUN hI9 hf9 (by omega) | exact RDG_f hUN hI9 hf9 hp9.1 (by omega) (by assumption)
    exact k _ s_74 hs_75 hf_87 (⟨_, _, rfl, kt_91, by omega⟩) (by first | omega | assumption) (hRDG)
set_option maxRecDepth 100000 in
/-- GatheredPoints.game -/
theorem xp_game2  {L d : Nat} {K : Option gV → gH → Prop} {s : gH}  (p0 : Int) (hs : XI L 0 s) (h_p0 : (-2147483648) ≤ p0 ∧ p0 ≤ 2147483647) (q0 : XS L s) (k : ∀ (r : Int), ∀ (t : gH), XI L 0 t → gX L true [2, 4, 8, 9, 10, 11, 12, 13, 14, 15, 21, 22, 47, 1034, 1196, 2475, 2476, 2477, 2478, 2479, 2480] s t → (XS L t) → (0 ≤ p0 ∧ p0 ≤ 7 → gp_I t 1 2 = 0) → (p0 < 0 ∨ 7 < p0 → gp_I t 1 2 = gp_I s 1 2) → ((gp_sz t : Int) + 6 * gp_I t 1 2 ≤ gp_sz s + 6 * gp_I s 1 2) → ((gp_us t : Int) + 310 * gp_I t 1 2 ≤ gp_us s + 310 * gp_I s 1 2) → (GMP (fun k => gp_I s 3 k) (gp_I s 1 2) p0 r) → K (some (gp_i r)) t) : gs_C L (d + 59) 2818 3 [gp_r (some 1), gp_i p0] s K := by
  have f_1 := xr1_2 hs
  have f_2 := xr46_7 hs
  have f_3 := xr46_8 hs
  refine s_2818_e _ ?_
  have htp := xr1_2 hs
  refine xm_noSlot _ (by omega) (fun x_4 p_5 p_6 p_7 => ⟨_, rfl, ?_⟩)
  refine ⟨fun h_8 => ?_, fun h_8 => ?_⟩
  · have f_9 := xr1_2 hs
    refine xm_readV _ hs (by omega) (fun o_10 s_11 hs_12 hf_13 p_14 p_15 p_16 => ⟨_, rfl, ?_⟩)
    have hf_17 : gX L true [2, 4, 8, 9, 10, 11, 12, 13, 14, 15, 21, 22, 47, 1034, 1196, 2475, 2476, 2477, 2478, 2479, 2480] s s_11 := gX.sub hf_13 rfl rfl
    have pd_18 : XS L s_11 := XS_fr q0 hf_13 rfl
    have q_19 : gp_I s_11 1 2 = gp_I s 1 2 := (hf_13.2.2.1 1 2 (by decide) (by decide) rfl).1
    obtain ⟨a_20, n_21, rfl, kt_22, hn_23⟩ := p_14
    have hn_a_20 := kt_22.n hs_12
    obtain ⟨N9, q9, hq9, hq8⟩ := p_16
    intro s_24 e_25
    have hs_26 : XI L 0 s_24 := by rw [e_25]; exact xw1_2 hs_12 _ (by omega)
    have hf_27 : gX L true [2, 4, 8, 9, 10, 11, 12, 13, 14, 15, 21, 22, 47, 1034, 1196, 2475, 2476, 2477, 2478, 2479, 2480] s s_24 := by rw [e_25]; exact gX.wI hf_17 (Or.inl rfl)
    have kt_28 : kT L s_24 a_20 n_21 := by rw [e_25]; exact kt_22
    have z_29 : gp_sz s_24 = gp_sz s_11 ∧ gp_us s_24 = gp_us s_11 := by rw [e_25]; exact ⟨rfl, rfl⟩
    have q_30 : gp_I s_24 1 2 = 0 := by rw [e_25]; exact (gz_rw _ _ _ _ _).1 rfl
    have q_31 : gp_I s_24 46 7 = gp_I s_11 46 7 := by rw [e_25] <;> first | rfl | exact I_ne (by omega)
    have q_32 : gp_I s_24 46 8 = gp_I s_11 46 8 := by rw [e_25] <;> first | rfl | exact I_ne (by omega)
    have pd_33 : XS L s_24 := by rw [e_25]; exact XS_fr pd_18 (gX.wI (gX.refl L true [1034] _) (Or.inl rfl)) rfl
    have f_34 := xr46_7 hs_26
    refine ⟨fun h_35 => ?_, fun h_35 => ?_⟩
    · have f_36 := xr46_8 hs_26
      refine ⟨fun h_37 => ?_, fun h_37 => ?_⟩
      · refine xp_hold2 n_21 _ _ hs_26 (by omega) (by first | assumption | exact kT7 hs_26.1.1 | exact kT25 hs_26.1.1) (by first | omega | assumption) (pd_33) (fun x_38 s_39 hs_40 hf_41 p_42 p_43 p_44 => ⟨_, rfl, ?_⟩)
        have hf_45 : gX L true [2, 4, 8, 9, 10, 11, 12, 13, 14, 15, 21, 22, 47, 1034, 1196, 2475, 2476, 2477, 2478, 2479, 2480] s s_39 := gX.trans hf_27 hf_41 rfl rfl
        have kt_46 : kT L s_39 a_20 n_21 := kt_28.fr hf_41.1
        have q_47 : gp_I s_39 1 2 = gp_I s_24 1 2 := (hf_41.2.2.1 1 2 (by decide) (by decide) rfl).1
        have q_48 : gp_I s_39 46 7 = gp_I s_24 46 7 := (hf_41.2.2.1 46 7 (by decide) (by decide) rfl).1
        have q_49 : gp_I s_39 46 8 = gp_I s_24 46 8 := (hf_41.2.2.1 46 8 (by decide) (by decide) rfl).1
        have z_50 : gp_sz s_39 = gp_sz s_24 ∧ gp_us s_39 = gp_us s_24 := hf_41.2.1 rfl
        exact k _ s_39 hs_40 hf_45 (p_43) (by first | omega | assumption) (by first | omega | assumption) (by first | omega | assumption) (by first | omega | assumption) (Or.inr ⟨by omega, N9, q9, hq9, GM_h hq8 (by omega) (by omega) kt_22 (by omega)⟩)
      · have f_51 := xr46_8 hs_26
        refine xp_refused _ hs_26 (by omega) (fun x_52 s_53 hs_54 hf_55 p_56 => ⟨_, rfl, ?_⟩)
        have hf_57 : gX L true [2, 4, 8, 9, 10, 11, 12, 13, 14, 15, 21, 22, 47, 1034, 1196, 2475, 2476, 2477, 2478, 2479, 2480] s s_53 := gX.trans hf_27 hf_55 rfl rfl
        have kt_58 : kT L s_53 a_20 n_21 := kt_28.fr hf_55.1
        have pd_59 : XS L s_53 := XS_fr pd_33 hf_55 rfl
        have q_60 : gp_I s_53 1 2 = gp_I s_24 1 2 := (hf_55.2.2.1 1 2 (by decide) (by decide) rfl).1
        have q_61 : gp_I s_53 46 7 = gp_I s_24 46 7 := (hf_55.2.2.1 46 7 (by decide) (by decide) rfl).1
        have q_62 : gp_I s_53 46 8 = gp_I s_24 46 8 := (hf_55.2.2.1 46 8 (by decide) (by decide) rfl).1
        have z_63 : gp_sz s_53 = gp_sz s_24 ∧ gp_us s_53 = gp_us s_24 := hf_55.2.1 rfl
        exact k _ s_53 hs_54 hf_57 (pd_59) (by first | omega | assumption) (by first | omega | assumption) (by first | omega | assumption) (by first | omega | assumption) (Or.inr ⟨by omega, N9, q9, hq9, by omega⟩)
    · have f_64 := xr46_7 hs_26
      try rw [show gp_wr ((-10) - (gp_I s_24 46 7)) = (-10) - (gp_I s_24 46 7) from gp_wr_id (by omega) (by omega)]
      exact k _ s_24 hs_26 hf_27 (pd_33) (by first | omega | assumption) (by first | omega | assumption) (by first | omega | assumption) (by first | omega | assumption) (Or.inr ⟨by omega, N9, q9, hq9, by omega⟩)
  · refine xp_refused _ hs (by omega) (fun x_65 s_66 hs_67 hf_68 p_69 => ⟨_, rfl, ?_⟩)
    have hf_70 : gX L true [2, 4, 8, 9, 10, 11, 12, 13, 14, 15, 21, 22, 47, 1034, 1196, 2475, 2476, 2477, 2478, 2479, 2480] s s_66 := gX.sub hf_68 rfl rfl
    have pd_71 : XS L s_66 := XS_fr q0 hf_68 rfl
    have q_72 : gp_I s_66 1 2 = gp_I s 1 2 := (hf_68.2.2.1 1 2 (by decide) (by decide) rfl).1
    have q_73 : gp_I s_66 46 7 = gp_I s 46 7 := (hf_68.2.2.1 46 7 (by decide) (by decide) rfl).1
    have q_74 : gp_I s_66 46 8 = gp_I s 46 8 := (hf_68.2.2.1 46 8 (by decide) (by decide) rfl).1
    have z_75 : gp_sz s_66 = gp_sz s ∧ gp_us s_66 = gp_us s := hf_68.2.1 rfl
    exact k _ s_66 hs_67 hf_70 (pd_71) (by first | omega | assumption) (by first | omega | assumption) (by first | omega | assumption) (by first | omega | assumption) (Or.inl ⟨by omega, by omega⟩)
