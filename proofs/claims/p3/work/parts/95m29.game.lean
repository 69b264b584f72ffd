/-! what the reference's game answers -/
theorem UNZ_all : ∀ m, UNZ m
  | 0 => by
    intro L D K s τ n hD hs q0 q1 q2 q3 q4 q5 k
    have := mr74_41 hs
    omega
  | m + 1 => vm_unitV m (UNZ_all m) (vm_sidesV m (vm_sideV m (vm_expressionV m (UNZ_all m))))
theorem EXZ_all (m : Nat) : EXZ m := vm_expressionV m (UNZ_all m)
theorem vm_expr9V {L d : Nat} {K : Option gV → gH → Prop} {s : gH} (τ : Nat → Int) (n : Int) (hs : MI s) (q0 : TPn τ n s) (q1 : 2 * gp_I s 74 42 ≤ gp_I s 74 38) (q2 : gp_I s 74 38 ≤ gp_I s 74 39) (q3 : PGM s) (q4 : gp_I s 74 44 ≠ 0) (k : ∀ (t : gH), MI t → gF [76, 77, 78, 79, 80, 81, 86, 87, 88, 89, 105] [15, 38, 40, 41, 42, 43, 45] s t → (gp_I s 74 38 ≤ gp_I t 74 38 ∧ gp_I t 74 38 ≤ gp_I t 74 39) → (gp_I s 74 42 ≤ gp_I t 74 42 ∧ 2 * gp_I t 74 42 ≤ gp_I t 74 38 + 1) → (gp_I t 74 40 < 0 → gp_I s 74 40 < 0) → (gp_I t 74 43 = 0 → gp_I s 74 43 = 0) → (gp_I t 74 41 = gp_I s 74 41 ∧ gp_I t 74 44 = gp_I s 74 44) → (TPn τ n t) → (kq s t) → (gp_I t 74 40 < 0 → gp_I t 74 43 = 0 → gp_I t 74 42 = gp_I s 74 42 + 1) → (KQ s t) → (PGM t) → (gp_I s 74 43 ≠ 0 → gp_I t 74 43 = gp_I s 74 43) → (ZW τ n 1 s t) → K none t) : gs_C L (d + 227) 3137 1 [gp_r (some 74)] s K := EXZ_all 9 _ _ _ _ τ n (by omega) hs q0 q1 q2 (by have := mr74_41 hs; omega) q3 q4 k
def RDA (τ : Nat → Int) (n w : Int) : Prop := ∀ N q, RDZ τ n N 1 0 R50 q → (0 ≤ q.2.1 ∧ w = q.2.1) ∨ (q.2.1 < 0 ∧ q.1 < n ∧ w = q.1) ∨ (q.2.1 < 0 ∧ n ≤ q.1 ∧ w < 0)
theorem RDA_of {τ : Nat → Int} {n w : Int} (h : rf τ n w) : RDA τ n w := fun N q z => by
  obtain ⟨b, v, ev, e⟩ := h
  obtain ⟨_, c1, c2⟩ := ZEV_at z ev rfl (by omega) (by omega) (by show (0 : Int) ≤ 0; omega) (by show (-1 : Int) < 0; omega) (by omega) rfl
  by_cases f : q.2.1 < 0
  · obtain ⟨e1, e2⟩ := c1 f
    by_cases g : q.1 < n
    · exact Or.inr (Or.inl ⟨f, g, by omega⟩)
    · exact Or.inr (Or.inr ⟨f, by omega, by omega⟩)
  · have e1 := c2 (by omega)
    exact Or.inl ⟨by omega, by omega⟩
def RGQ (τ : Nat → Int) (n : Int) (t : gH) : Prop := ∀ N q, RDZ τ n N 1 0 R50 q → q.2.1 < 0 → (q.2.2.2.1 = 0 ∧ gp_I t 74 43 = 0 ∧ GTM t 21 q.2.2.1) ∨ (q.2.2.2.1 ≠ 0 ∧ gp_I t 74 43 = q.2.2.2.1)
theorem RGQ_of {τ : Nat → Int} {n : Int} {u v t : gH} (h : ZW τ n 1 u v) (ou : ok u) (a0 : gp_I u 74 38 = 0) (o0 : gp_I u 74 41 = 0) (p0 : gp_I u 74 42 = 0) (l : gp_I t 74 43 = gp_I v 74 43) (g : ∀ g x, GTM v g x → GTM t g x) : RGQ τ n t := fun N q z f => by
  have z' : RDZ τ n N 1 (gp_I u 74 41) (inZ u) q := by
    rw [o0, inZ_e a0]; exact z
  rcases h ou N q z' f with ⟨y1, y2, _, y4⟩ | ⟨y1, y2⟩
  · rw [p0] at y4
    exact Or.inl ⟨y1, l.trans y2.2.2, g _ _ y4⟩
  · exact Or.inr ⟨y1, l.trans y2⟩
def RDQ (τ : Nat → Int) (n : Int) : Prop := ∃ N q, RDZ τ n N 1 0 R50 q
def GMQ (n r : Int) (q : R5) : Prop := (0 ≤ q.2.1 ∧ r = -10 - q.2.1) ∨ (q.2.1 < 0 ∧ q.1 < n ∧ r = -10 - q.1) ∨ (q.2.1 < 0 ∧ n ≤ q.1 ∧ ((q.2.2.2.1 ≠ 0 ∧ r = -1000000000 - q.2.2.2.1) ∨ (q.2.2.2.1 = 0 ∧ SZV q.2.2.1 r)))
def GMU (τ : Nat → Int) (n p0 r : Int) : Prop := (¬ (0 ≤ p0 ∧ p0 ≤ 7) ∧ r = -1000000001) ∨ ((0 ≤ p0 ∧ p0 ≤ 7) ∧ ∀ N q, RDZ τ n N 1 0 R50 q → GMQ n r q)
theorem GMU_w {τ : Nat → Int} {n p0 r w : Int} (h : RDA τ n w) (hp : 0 ≤ p0 ∧ p0 ≤ 7) (w0 : 0 ≤ w) (hr : r = -10 - w) : GMU τ n p0 r := Or.inr ⟨hp, fun N q z => by
  rcases h N q z with ⟨a, b⟩ | ⟨a, b, c⟩ | ⟨a, b, c⟩
  · exact Or.inl ⟨a, by omega⟩
  · exact Or.inr (Or.inl ⟨a, b, by omega⟩)
  · omega⟩
theorem RGQ_p {τ : Nat → Int} {n : Int} {N : Nat} {q : R5} (z : RDZ τ n N 1 0 R50 q) : 0 ≤ q.1 := (ZEV N 1 0 R50 q (-1) z (by omega) (by omega) (by show (0 : Int) ≤ 0; omega) (by show (-1 : Int) < 0; omega) (by omega)).1
theorem GMU_l {τ : Nat → Int} {n p0 r w : Int} {t : gH} (h : RDA τ n w) (hp : 0 ≤ p0 ∧ p0 ≤ 7) (w0 : w < 0) (h2 : RGQ τ n t) (h3 : gp_I t 74 43 ≠ 0) (hr : r = -1000000000 - gp_I t 74 43) : GMU τ n p0 r := Or.inr ⟨hp, fun N q z => by
  have z1 := RGQ_p z
  rcases h N q z with ⟨a, b⟩ | ⟨a, b, c⟩ | ⟨a, b, c⟩
  · omega
  · omega
  · rcases h2 N q z a with ⟨d, e, _⟩ | ⟨d, e⟩
    · exact absurd e h3
    · exact Or.inr (Or.inr ⟨a, b, Or.inl ⟨d, by omega⟩⟩)⟩
theorem GMU_s {τ : Nat → Int} {n p0 r w : Int} {t : gH} (h : RDA τ n w) (hp : 0 ≤ p0 ∧ p0 ≤ 7) (w0 : w < 0) (h2 : RGQ τ n t) (h3 : gp_I t 74 43 = 0) (hr : r = gp_I t 81 21) : GMU τ n p0 r := Or.inr ⟨hp, fun N q z => by
  have z1 := RGQ_p z
  rcases h N q z with ⟨a, b⟩ | ⟨a, b, c⟩ | ⟨a, b, c⟩
  · omega
  · omega
  · rcases h2 N q z a with ⟨d, e, f⟩ | ⟨d, e⟩
    · refine Or.inr (Or.inr ⟨a, b, Or.inr ⟨d, _, _, f.1.1, f.2.2, ?_⟩⟩)
      have g := f.1.1.1
      omega
    · exact absurd (e.symm.trans h3) d⟩
theorem RGQ_1 {τ : Nat → Int} {n w : Int} {t : gH} (hq : RDQ τ n) (h : RDA τ n w) (w0 : w < 0) (h2 : RGQ τ n t) (h3 : gp_I t 74 43 = 0) : 1 ≤ gp_I t 81 21 := by
  obtain ⟨N, q, z⟩ := hq
  have z1 := RGQ_p z
  rcases h N q z with ⟨a, b⟩ | ⟨a, b, c⟩ | ⟨a, b, c⟩
  · omega
  · omega
  · rcases h2 N q z a with ⟨d, e, f⟩ | ⟨d, e⟩
    · have g := f.1.1.1
      omega
    · exact absurd (e.symm.trans h3) d
/-! no text -/
theorem RDZ_nil {g : Nat → Int} {N : Nat} {q : R5} (z : RDZ g 0 N 1 0 R50 q) : q = (0, 0, 0, 0, 0) := by
  obtain ⟨M, _, q0, z1, z2⟩ := RDZ_1i z
  obtain ⟨K, _, z1⟩ := RDZ_0i z1
  have e : nxg g 0 R50.1 = -1 := rfl
  unfold RDU dgt at z1
  simp only [e] at z1
  have q1 : q0 = (0, 0, 0, 0, 0) := by
    rcases z1 with ⟨a, _⟩ | ⟨a, _⟩ | ⟨a, _⟩ | ⟨_, _, _, a⟩ | ⟨a, _⟩ | ⟨a, _⟩
    · omega
    · omega
    · omega
    · exact a
    · omega
    · omega
  rw [q1] at z2
  exact RDZ_2f z2 (by show (0 : Int) ≤ 0; omega)
theorem RDQ_nil (g : Nat → Int) : RDQ g 0 := by
  have e : nxg g 0 R50.1 = -1 := rfl
  refine ⟨2, (0, 0, 0, 0, 0), (0, 0, 0, 0, 0), Or.inr (Or.inr (Or.inr (Or.inl ⟨?_, ?_, Or.inl ⟨?_, ?_⟩, rfl⟩))), Or.inl ⟨?_, rfl⟩⟩
  · rw [e]; omega
  · rw [e]; unfold dgt; omega
  · rw [e]; omega
  · rw [e]; omega
  · rintro ⟨h, _⟩
    have h' : (0 : Int) < 0 := h
    omega
theorem RDQ_of {g h : Nat → Int} {n p0 r : Int} (n0 : 0 ≤ n) (e : ∀ k : Nat, (k : Int) < n → g k = gp_b (h k) ∧ 0 ≤ h k ∧ h k ≤ 255) (a : GMP g n p0 r) : 0 ≤ p0 ∧ p0 ≤ 7 → RDQ h n := fun hp => by
  rcases a with ⟨a, _⟩ | ⟨_, N, q, z, _⟩
  · exact absurd hp a
  · by_cases c : n = 0
    · subst c; exact RDQ_nil h
    · refine ⟨N, q, RDZ_eq (fun p => ?_) _ _ _ _ _ z⟩
      by_cases p0 : 0 ≤ p
      · exact GMP_byte n0 e p p0
      · have y := GMP_byte n0 e 0 (by omega)
        unfold nxg at y ⊢
        rw [if_pos (by omega), if_pos (by omega)] at y ⊢
        rw [show p.toNat = (0 : Int).toNat by omega]
        exact y
theorem GMU_EQ {g h : Nat → Int} {n p0 r r2 : Int} (n0 : 0 ≤ n) (e : ∀ k : Nat, (k : Int) < n → g k = gp_b (h k) ∧ 0 ≤ h k ∧ h k ≤ 255) (a : GMP g n p0 r) (b : GMU h n p0 r2) : r = r2 := by
  have a9 := a
  rcases a with ⟨a1, a2⟩ | ⟨a1, N, q, a2, a3⟩ <;> rcases b with ⟨b1, b2⟩ | ⟨b1, b2⟩
  · omega
  · exact absurd b1 a1
  · exact absurd a1 b1
  · have fin : ∀ (M : Nat), RDZ h n M 1 0 R50 q → r = r2 := fun M z => by
      have b3 := b2 M q z
      unfold GMQ at b3
      rcases a3 with ⟨c1, c2⟩ | ⟨c1, c2, c3⟩ | ⟨c1, c2, ⟨c3, c4⟩ | ⟨c3, c4⟩⟩ <;> rcases b3 with ⟨d1, d2⟩ | ⟨d1, d2, d3⟩ | ⟨d1, d2, ⟨d3, d4⟩ | ⟨d3, d4⟩⟩ <;> first | omega | exact SZV_f c4 d4
    by_cases c : n = 0
    · subst c
      have e1 := RDZ_nil a2
      obtain ⟨M, q', z⟩ := RDQ_nil h
      have e2 := RDZ_nil z
      rw [e2, ← e1] at z
      exact fin M z
    · refine fin N (RDZ_eq (fun p => ?_) _ _ _ _ _ a2)
      by_cases p0 : 0 ≤ p
      · exact GMP_byte n0 e p p0
      · have y := GMP_byte n0 e 0 (by omega)
        unfold nxg at y ⊢
        rw [if_pos (by omega), if_pos (by omega)] at y ⊢
        rw [show p.toNat = (0 : Int).toNat by omega]
        exact y
theorem GM_EQ {s t : gH} (h : TPE s) (hl : gp_I s 1 2 = gp_I s 74 11) (h0 : 0 ≤ gp_I s 1 2) (hR : ∀ a k, 74 ≤ a → a < 117 → gp_I t a k = gp_I s a k) {p0 r r2 : Int} (a : GMP (fun k => gp_I s 3 k) (gp_I s 1 2) p0 r) (b : GMU (fun k => gp_I t 82 k) (gp_I t 74 11) p0 r2) : r = r2 := by
  rw [hR 74 11 (by decide) (by decide), ← hl] at b
  exact GMU_EQ h0 (fun k hk => by
    show gp_I s 3 k = gp_b (gp_I t 82 k) ∧ 0 ≤ gp_I t 82 k ∧ gp_I t 82 k ≤ 255
    rw [hR 82 k (by decide) (by decide)]
    exact h k hk) a b
theorem GM_RQ {s t : gH} (h : TPE s) (hl : gp_I s 1 2 = gp_I s 74 11) (h0 : 0 ≤ gp_I s 1 2) (hR : ∀ a k, 74 ≤ a → a < 117 → gp_I t a k = gp_I s a k) {p0 r : Int} (a : GMP (fun k => gp_I s 3 k) (gp_I s 1 2) p0 r) : 0 ≤ p0 ∧ p0 ≤ 7 → RDQ (fun k => gp_I t 82 k) (gp_I t 74 11) := by
  rw [hR 74 11 (by decide) (by decide), ← hl]
  exact RDQ_of h0 (fun k hk => by
    show gp_I s 3 k = gp_b (gp_I t 82 k) ∧ 0 ≤ gp_I t 82 k ∧ gp_I t 82 k ≤ 255
    rw [hR 82 k (by decide) (by decide)]
    exact h k hk) a
set_option maxRecDepth 100000 in
/-- GatheredPointsModel.reads -/
theorem vm_readsV  {L d : Nat} {K : Option gV → gH → Prop} {s : gH} (τ : Nat → Int) (n : Int)  (hs : MI s)  (q0 : TPn τ n s) (k : ∀ (t : gH), MI t → gF [76, 77, 78, 79, 80, 81, 86, 87, 88, 89, 105] [15, 38, 40, 41, 42, 43, 44, 45] s t → (TPn τ n t) → (∀ k : Nat, 8 ≤ k → k < 19 → gp_I t 81 k = gp_I s 81 k) → (-1 ≤ gp_I t 74 40) → (RGQ τ n t) → K none t) : gs_C L (d + 228) 3138 2 [gp_r (some 74), gp_i 1] s K := by
  have f_1 := mr74_38 hs
  have f_2 := mr74_39 hs
  have f_3 := mr74_40 hs
  have f_4 := mr74_41 hs
  have f_5 := mr74_42 hs
  have f_6 := mr74_43 hs
  have f_7 := mr74_44 hs
  have f_8 := mr81 hs 19
  refine s_3138_e _ ?_
  have hkq0 := kq.refl s
  have hKq0 := KQ.refl s
  refine ⟨by omega, ?_⟩
  intro s_9 e_10
  have hs_11 : MI s_9 := by rw [e_10]; exact mw74_44 hs _ (by omega)
  have hf_12 : gF [76, 77, 78, 79, 80, 81, 86, 87, 88, 89, 105] [15, 38, 40, 41, 42, 43, 44, 45] s s_9 := by rw [e_10]; exact gF.wI (gF.refl _ _ _) (Or.inr ⟨rfl, rfl⟩)
  have q_13 : gp_I s_9 74 38 = gp_I s 74 38 := by rw [e_10] <;> rfl
  have q_14 : gp_I s_9 74 39 = gp_I s 74 39 := by rw [e_10] <;> rfl
  have q_15 : gp_I s_9 74 40 = gp_I s 74 40 := by rw [e_10] <;> rfl
  have q_16 : gp_I s_9 74 41 = gp_I s 74 41 := by rw [e_10] <;> rfl
  have q_17 : gp_I s_9 74 42 = gp_I s 74 42 := by rw [e_10] <;> rfl
  have q_18 : gp_I s_9 74 43 = gp_I s 74 43 := by rw [e_10] <;> rfl
  have q_19 : gp_I s_9 74 44 = 1 := by rw [e_10]; exact (gz_rw _ _ _ _ _).1 rfl
  have q_20 : gp_I s_9 81 19 = gp_I s 81 19 := by rw [e_10] <;> rfl
  have pd_21 : TPn τ n s_9 := by rw [e_10]; exact TP_fr q0 (gF.wI (gF.refl [] [44] _) (Or.inr ⟨rfl, rfl⟩)) rfl rfl
  have pd_22 : kq s s_9 := by rw [e_10]; exact kq_fr hkq0 (gF.wI (gF.refl [] [44] _) (Or.inr ⟨rfl, rfl⟩)) rfl
  have pd_23 : KQ s s_9 := by rw [e_10]; exact KQ_fr hKq0 (gF.wI (gF.refl [] [44] _) (Or.inr ⟨rfl, rfl⟩)) rfl rfl rfl rfl
  intro s_24 e_25
  have hs_26 : MI s_24 := by rw [e_25]; exact mw74_38 hs_11 _ (by omega)
  have hf_27 : gF [76, 77, 78, 79, 80, 81, 86, 87, 88, 89, 105] [15, 38, 40, 41, 42, 43, 44, 45] s s_24 := by rw [e_25]; exact gF.wI hf_12 (Or.inr ⟨rfl, rfl⟩)
  have q_28 : gp_I s_24 74 38 = 0 := by rw [e_25]; exact (gz_rw _ _ _ _ _).1 rfl
  have q_29 : gp_I s_24 74 39 = gp_I s_9 74 39 := by rw [e_25] <;> rfl
  have q_30 : gp_I s_24 74 40 = gp_I s_9 74 40 := by rw [e_25] <;> rfl
  have q_31 : gp_I s_24 74 41 = gp_I s_9 74 41 := by rw [e_25] <;> rfl
  have q_32 : gp_I s_24 74 42 = gp_I s_9 74 42 := by rw [e_25] <;> rfl
  have q_33 : gp_I s_24 74 43 = gp_I s_9 74 43 := by rw [e_25] <;> rfl
  have q_34 : gp_I s_24 74 44 = gp_I s_9 74 44 := by rw [e_25] <;> rfl
  have q_35 : gp_I s_24 81 19 = gp_I s_9 81 19 := by rw [e_25] <;> rfl
  have pd_36 : TPn τ n s_24 := by rw [e_25]; exact TP_fr pd_21 (gF.wI (gF.refl [] [38] _) (Or.inr ⟨rfl, rfl⟩)) rfl rfl
  have pd_37 : kq s s_24 := by rw [e_25]; exact kq_fr pd_22 (gF.wI (gF.refl [] [38] _) (Or.inr ⟨rfl, rfl⟩)) rfl
  have pd_38 : KQ s s_24 := by rw [e_25]; exact KQ_fr pd_23 (gF.wI (gF.refl [] [38] _) (Or.inr ⟨rfl, rfl⟩)) rfl rfl rfl rfl
  intro s_39 e_40
  have hs_41 : MI s_39 := by rw [e_40]; exact mw74_40 hs_26 _ (by omega)
  have hf_42 : gF [76, 77, 78, 79, 80, 81, 86, 87, 88, 89, 105] [15, 38, 40, 41, 42, 43, 44, 45] s s_39 := by rw [e_40]; exact gF.wI hf_27 (Or.inr ⟨rfl, rfl⟩)
  have q_43 : gp_I s_39 74 38 = gp_I s_24 74 38 := by rw [e_40] <;> rfl
  have q_44 : gp_I s_39 74 39 = gp_I s_24 74 39 := by rw [e_40] <;> rfl
  have q_45 : gp_I s_39 74 40 = (-1) := by rw [e_40]; exact (gz_rw _ _ _ _ _).1 rfl
  have q_46 : gp_I s_39 74 41 = gp_I s_24 74 41 := by rw [e_40] <;> rfl
  have q_47 : gp_I s_39 74 42 = gp_I s_24 74 42 := by rw [e_40] <;> rfl
  have q_48 : gp_I s_39 74 43 = gp_I s_24 74 43 := by rw [e_40] <;> rfl
  have q_49 : gp_I s_39 74 44 = gp_I s_24 74 44 := by rw [e_40] <;> rfl
  have q_50 : gp_I s_39 81 19 = gp_I s_24 81 19 := by rw [e_40] <;> rfl
  have pd_51 : TPn τ n s_39 := by rw [e_40]; exact TP_fr pd_36 (gF.wI (gF.refl [] [40] _) (Or.inr ⟨rfl, rfl⟩)) rfl rfl
  have pd_52 : kq s s_39 := by rw [e_40]; exact kq_fr pd_37 (gF.wI (gF.refl [] [40] _) (Or.inr ⟨rfl, rfl⟩)) rfl
  have pd_53 : KQ s s_39 := by rw [e_40]; exact KQ_fr pd_38 (gF.wI (gF.refl [] [40] _) (Or.inr ⟨rfl, rfl⟩)) rfl rfl rfl rfl
  intro s_54 e_55
  have hs_56 : MI s_54 := by rw [e_55]; exact mw74_41 hs_41 _ (by omega)
  have hf_57 : gF [76, 77, 78, 79, 80, 81, 86, 87, 88, 89, 105] [15, 38, 40, 41, 42, 43, 44, 45] s s_54 := by rw [e_55]; exact gF.wI hf_42 (Or.inr ⟨rfl, rfl⟩)
  have q_58 : gp_I s_54 74 38 = gp_I s_39 74 38 := by rw [e_55] <;> rfl
  have q_59 : gp_I s_54 74 39 = gp_I s_39 74 39 := by rw [e_55] <;> rfl
  have q_60 : gp_I s_54 74 40 = gp_I s_39 74 40 := by rw [e_55] <;> rfl
  have q_61 : gp_I s_54 74 41 = 0 := by rw [e_55]; exact (gz_rw _ _ _ _ _).1 rfl
  have q_62 : gp_I s_54 74 42 = gp_I s_39 74 42 := by rw [e_55] <;> rfl
  have q_63 : gp_I s_54 74 43 = gp_I s_39 74 43 := by rw [e_55] <;> rfl
  have q_64 : gp_I s_54 74 44 = gp_I s_39 74 44 := by rw [e_55] <;> rfl
  have q_65 : gp_I s_54 81 19 = gp_I s_39 81 19 := by rw [e_55] <;> rfl
  have pd_66 : TPn τ n s_54 := by rw [e_55]; exact TP_fr pd_51 (gF.wI (gF.refl [] [41] _) (Or.inr ⟨rfl, rfl⟩)) rfl rfl
  have pd_67 : kq s s_54 := by rw [e_55]; exact kq_fr pd_52 (gF.wI (gF.refl [] [41] _) (Or.inr ⟨rfl, rfl⟩)) rfl
  have pd_68 : KQ s s_54 := by rw [e_55]; exact KQ_fr pd_53 (gF.wI (gF.refl [] [41] _) (Or.inr ⟨rfl, rfl⟩)) rfl rfl rfl rfl
  intro s_69 e_70
  have hs_71 : MI s_69 := by rw [e_70]; exact mw74_42 hs_56 _ (by omega)
  have hf_72 : gF [76, 77, 78, 79, 80, 81, 86, 87, 88, 89, 105] [15, 38, 40, 41, 42, 43, 44, 45] s s_69 := by rw [e_70]; exact gF.wI hf_57 (Or.inr ⟨rfl, rfl⟩)
  have q_73 : gp_I s_69 74 38 = gp_I s_54 74 38 := by rw [e_70] <;> rfl
  have q_74 : gp_I s_69 74 39 = gp_I s_54 74 39 := by rw [e_70] <;> rfl
  have q_75 : gp_I s_69 74 40 = gp_I s_54 74 40 := by rw [e_70] <;> rfl
  have q_76 : gp_I s_69 74 41 = gp_I s_54 74 41 := by rw [e_70] <;> rfl
  have q_77 : gp_I s_69 74 42 = 0 := by rw [e_70]; exact (gz_rw _ _ _ _ _).1 rfl
  have q_78 : gp_I s_69 74 43 = gp_I s_54 74 43 := by rw [e_70] <;> rfl
  have q_79 : gp_I s_69 74 44 = gp_I s_54 74 44 := by rw [e_70] <;> rfl
  have q_80 : gp_I s_69 81 19 = gp_I s_54 81 19 := by rw [e_70] <;> rfl
  have pd_81 : TPn τ n s_69 := by rw [e_70]; exact TP_fr pd_66 (gF.wI (gF.refl [] [42] _) (Or.inr ⟨rfl, rfl⟩)) rfl rfl
  have pd_82 : kq s s_69 := by rw [e_70]; exact kq_fr pd_67 (gF.wI (gF.refl [] [42] _) (Or.inr ⟨rfl, rfl⟩)) rfl
  have pd_83 : KQ s s_69 := by rw [e_70]; exact KQ_fr pd_68 (gF.wI (gF.refl [] [42] _) (Or.inr ⟨rfl, rfl⟩)) rfl rfl rfl rfl
  intro s_84 e_85
  have hs_86 : MI s_84 := by rw [e_85]; exact mw74_43 hs_71 _ (by omega)
  have hf_87 : gF [76, 77, 78, 79, 80, 81, 86, 87, 88, 89, 105] [15, 38, 40, 41, 42, 43, 44, 45] s s_84 := by rw [e_85]; exact gF.wI hf_72 (Or.inr ⟨rfl, rfl⟩)
  have q_88 : gp_I s_84 74 38 = gp_I s_69 74 38 := by rw [e_85] <;> rfl
  have q_89 : gp_I s_84 74 39 = gp_I s_69 74 39 := by rw [e_85] <;> rfl
  have q_90 : gp_I s_84 74 40 = gp_I s_69 74 40 := by rw [e_85] <;> rfl
  have q_91 : gp_I s_84 74 41 = gp_I s_69 74 41 := by rw [e_85] <;> rfl
  have q_92 : gp_I s_84 74 42 = gp_I s_69 74 42 := by rw [e_85] <;> rfl
  have q_93 : gp_I s_84 74 43 = 0 := by rw [e_85]; exact (gz_rw _ _ _ _ _).1 rfl
  have q_94 : gp_I s_84 74 44 = gp_I s_69 74 44 := by rw [e_85] <;> rfl
  have q_95 : gp_I s_84 81 19 = gp_I s_69 81 19 := by rw [e_85] <;> rfl
  have pd_96 : TPn τ n s_84 := by rw [e_85]; exact TP_fr pd_81 (gF.wI (gF.refl [] [43] _) (Or.inr ⟨rfl, rfl⟩)) rfl rfl
  have pd_97 : kq s s_84 := by rw [e_85]; exact kq_fr pd_82 (gF.wI (gF.refl [] [43] _) (Or.inr ⟨rfl, rfl⟩)) rfl
  have pd_98 : KQ s s_84 := by rw [e_85]; exact KQ_fr pd_83 (gF.wI (gF.refl [] [43] _) (Or.inr ⟨rfl, rfl⟩)) rfl rfl rfl rfl
  have hk30 := pd_97
  have hPG30 : PGM s_84 := PGM_0 (by omega)
  refine vm_expr9V τ n hs_86 (pd_96) (by first | omega | assumption) (by first | omega | assumption) (hPG30) (by first | omega | assumption) (fun s_99 hs_100 hf_101 p_102 p_103 p_104 p_105 p_106 p_107 p_108 p_109 p_110 p_111 p_112 p_113 => ⟨rfl, ?_⟩)
  have hf_114 : gF [76, 77, 78, 79, 80, 81, 86, 87, 88, 89, 105] [15, 38, 40, 41, 42, 43, 44, 45] s s_99 := gF.trans hf_87 hf_101 rfl rfl
  have q_115 := (hf_101.2 74 39 rfl (fun _ => rfl)).1
  have q_116 := (hf_101.2 74 44 rfl (fun _ => rfl)).1
  have hkr := p_108
  have hke : ∀ k : Nat, 8 ≤ k → k < 19 → gp_I s_99 81 k = gp_I s 81 k := fun k h1 h2 => (hkr k h1 (by omega) (by omega) (by omega)).trans (hk30 k h1 (by omega) (by omega) (by omega))
  have he9 := (p_107).2
  have hou : ok s_84 := okI (by omega) (by omega) (by omega)
  have h99 : gp_I s_84 74 38 = 0 ∧ gp_I s_84 74 41 = 0 ∧ gp_I s_84 74 42 = 0 := ⟨by omega, by omega, by omega⟩
  have hzw := p_113
  refine vm_goesOn hs_100 (fun x_117 p_118 p_119 => ⟨_, rfl, ?_⟩)
  refine ⟨fun h_120 => ?_, fun h_120 => ?_⟩
  · refine s_3138_56 _ ?_
    exact k s_99 hs_100 hf_114 (p_107) (by first | exact hke | exact fun k h1 h2 => ((hf_101.2 81 k rfl (fun h => absurd h (by decide))).1).trans (hke k h1 h2)) (by have := mr74_40 hs_100; omega) (RGQ_of hzw hou h99.1 h99.2.1 h99.2.2 (by omega) (by first | exact fun g x h9 => h9 | exact fun g x h9 => GTM_fr2 h9 hf_101 rfl rfl rfl rfl rfl))
  · have f_121 := mr74_38 hs_100
    have f_122 := mr74_39 hs_100
    refine ⟨fun h_123 => ?_, fun h_123 => ?_⟩
    · refine vm_fails hs_100 (fun s_124 hs_125 hf_126 p_127 => ⟨rfl, ?_⟩)
      have hf_128 : gF [76, 77, 78, 79, 80, 81, 86, 87, 88, 89, 105] [15, 38, 40, 41, 42, 43, 44, 45] s s_124 := gF.trans hf_114 hf_126 rfl rfl
      have pd_129 : TPn τ n s_124 := TP_fr p_107 hf_126 rfl rfl
      have q_130 := (hf_126.2 74 38 rfl (fun _ => rfl)).1
      have q_131 := (hf_126.2 74 39 rfl (fun _ => rfl)).1
      have q_132 := (hf_126.2 74 41 rfl (fun _ => rfl)).1
      have q_133 := (hf_126.2 74 42 rfl (fun _ => rfl)).1
      have q_134 := (hf_126.2 74 43 rfl (fun _ => rfl)).1
      have q_135 := (hf_126.2 74 44 rfl (fun _ => rfl)).1
      have q_136 := (hf_126.2 81 19 rfl (fun h => absurd h (by decide))).1
      refine s_3138_56 _ ?_
      exact k s_124 hs_125 hf_128 (pd_129) (by first | exact hke | exact fun k h1 h2 => ((hf_126.2 81 k rfl (fun h => absurd h (by decide))).1).trans (hke k h1 h2)) (by have := mr74_40 hs_125; omega) (RGQ_of hzw hou h99.1 h99.2.1 h99.2.2 (by omega) (by first | exact fun g x h9 => h9 | exact fun g x h9 => GTM_fr2 h9 hf_126 rfl rfl rfl rfl rfl))
    · refine s_3138_56 _ ?_
      exact k s_99 hs_100 hf_114 (p_107) (by first | exact hke | exact fun k h1 h2 => ((hf_101.2 81 k rfl (fun h => absurd h (by decide))).1).trans (hke k h1 h2)) (by have := mr74_40 hs_100; omega) (RGQ_of hzw hou h99.1 h99.2.1 h99.2.2 (by omega) (by first | exact fun g x h9 => h9 | exact fun g x h9 => GTM_fr2 h9 hf_101 rfl rfl rfl rfl rfl))
theorem vm_reads2 {L d : Nat} {K : Option gV → gH → Prop} {s : gH} (τ : Nat → Int) (n : Int) (p0 : Int) (hs : MI s) (h_p0 : 0 ≤ p0 ∧ p0 ≤ 1) (q0 : TPn τ n s) (k : ∀ (t : gH), MI t → gF [76, 77, 78, 79, 80, 81, 86, 87, 88, 89, 105] [15, 38, 40, 41, 42, 43, 44, 45] s t → (p0 = 0 → rf τ n (gp_I t 74 40)) → (TPn τ n t) → (∀ k : Nat, 8 ≤ k → k < 19 → gp_I t 81 k = gp_I s 81 k) → (-1 ≤ gp_I t 74 40) → (p0 = 1 → RGQ τ n t) → K none t) : gs_C L (d + 228) 3138 2 [gp_r (some 74), gp_i p0] s K := by
  by_cases c : p0 = 0
  · exact vm_reads τ n p0 hs h_p0 q0 (fun t ht hf z0 z1 z2 z3 z4 z5 => k t ht hf (fun _ => z1 (z2 c)) z3 z4 z5 (fun h => by omega))
  · have c1 : p0 = 1 := by omega
    subst c1
    exact vm_readsV τ n hs q0 (fun t ht hf z0 z1 z2 z3 => k t ht hf (fun h => absurd h c) z0 z1 z2 (fun _ => z3))
set_option maxRecDepth 100000 in
/-- GatheredPointsModel.game -/
theorem wp_game2  {L d : Nat} {K : Option gV → gH → Prop} {s : gH} (τ : Nat → Int) (n : Int) (p0 : Int) (hs : MI s) (h_p0 : (-2147483648) ≤ p0 ∧ p0 ≤ 2147483647) (q0 : gp_I s 82 = τ) (q1 : gp_I s 74 11 = n) (q2 : 0 ≤ p0 ∧ p0 ≤ 7 → RDQ τ n) (k : ∀ (r : Int), ∀ (t : gH), MI t → gF [75, 76, 77, 78, 79, 80, 81, 86, 87, 88, 89, 105] [11, 15, 38, 39, 40, 41, 42, 43, 44, 45] s t → (mK8 s t) → (0 ≤ p0 ∧ p0 ≤ 7 → gp_I t 74 11 = 0) → (p0 < 0 ∨ 7 < p0 → gp_I t 74 11 = gp_I s 74 11) → (GMU τ n p0 r) → K (some (gp_i r)) t) : gs_C L (d + 229) 3139 2 [gp_r (some 74), gp_i p0] s K := by
  have f_1 := mr74_38 hs
  have f_2 := mr74_39 hs
  have f_3 := mr74_40 hs
  have f_4 := mr74_41 hs
  have f_5 := mr74_42 hs
  have f_6 := mr74_43 hs
  have f_7 := mr74_44 hs
  have f_8 := mr74_11 hs
  have f_9 := mr81 hs p0.toNat
  have f_10 := mr81 hs 21
  refine s_3139_e _ ?_
  refine vm_isSlot _ (fun x_11 p_12 p_13 p_14 => ⟨_, rfl, ?_⟩)
  refine ⟨fun h_15 => ?_, fun h_15 => ?_⟩
  · refine vm_finds _ hs (by omega) (fun x_16 s_17 hs_18 hf_19 p_20 p_21 => ⟨_, rfl, ?_⟩)
    have hf_22 : gF [75, 76, 77, 78, 79, 80, 81, 86, 87, 88, 89, 105] [11, 15, 38, 39, 40, 41, 42, 43, 44, 45] s s_17 := gF.sub hf_19 rfl rfl
    have q_23 := (hf_19.2 74 38 rfl (fun _ => rfl)).1
    have q_24 := (hf_19.2 74 39 rfl (fun _ => rfl)).1
    have q_25 := (hf_19.2 74 40 rfl (fun _ => rfl)).1
    have q_26 := (hf_19.2 74 41 rfl (fun _ => rfl)).1
    have q_27 := (hf_19.2 74 42 rfl (fun _ => rfl)).1
    have q_28 := (hf_19.2 74 43 rfl (fun _ => rfl)).1
    have q_29 := (hf_19.2 74 44 rfl (fun _ => rfl)).1
    have q_30 := (hf_19.2 74 11 rfl (fun _ => rfl)).1
    have q_31 := (hf_19.2 81 p0.toNat rfl (fun h => absurd h (by decide))).1
    have q_32 := (hf_19.2 81 21 rfl (fun h => absurd h (by decide))).1
    exact k _ s_17 hs_18 hf_22 (by first | exact fun k h1 h2 => (hf_19.2 81 k rfl (fun h => absurd h (by decide))).1 | exact fun k h1 h2 => (hk0 k h1 h2).trans (by subst_vars; rfl) | exact fun k h1 h2 => ((hf_19.2 81 k rfl (fun h => absurd h (by decide))).1).trans ((hk1 k h1 h2).trans ((hk0 k h1 h2).trans (by subst_vars; rfl))) | exact fun k h1 h2 => (p_14 k (by omega)).trans ((hk1 k h1 h2).trans ((hk0 k h1 h2).trans (by subst_vars; rfl)))) (by first | omega | assumption) (by first | omega | assumption) (Or.inl ⟨by omega, by omega⟩)
  · have f_33 := mr74_11 hs
    intro s_34 e_35
    have hs_36 : MI s_34 := by rw [e_35]; exact mw74_39 hs _ (by omega)
    have hf_37 : gF [75, 76, 77, 78, 79, 80, 81, 86, 87, 88, 89, 105] [11, 15, 38, 39, 40, 41, 42, 43, 44, 45] s s_34 := by rw [e_35]; exact gF.wI (gF.refl _ _ _) (Or.inr ⟨rfl, rfl⟩)
    have q_38 : gp_I s_34 74 38 = gp_I s 74 38 := by rw [e_35] <;> rfl
    have q_39 : gp_I s_34 74 39 = gp_I s 74 11 := by rw [e_35]; exact (gz_rw _ _ _ _ _).1 rfl
    have q_40 : gp_I s_34 74 40 = gp_I s 74 40 := by rw [e_35] <;> rfl
    have q_41 : gp_I s_34 74 41 = gp_I s 74 41 := by rw [e_35] <;> rfl
    have q_42 : gp_I s_34 74 42 = gp_I s 74 42 := by rw [e_35] <;> rfl
    have q_43 : gp_I s_34 74 43 = gp_I s 74 43 := by rw [e_35] <;> rfl
    have q_44 : gp_I s_34 74 44 = gp_I s 74 44 := by rw [e_35] <;> rfl
    have q_45 : gp_I s_34 74 11 = gp_I s 74 11 := by rw [e_35] <;> rfl
    have q_46 : gp_I s_34 81 p0.toNat = gp_I s 81 p0.toNat := by rw [e_35] <;> rfl
    have q_47 : gp_I s_34 81 21 = gp_I s 81 21 := by rw [e_35] <;> rfl
    intro s_48 e_49
    have hs_50 : MI s_48 := by rw [e_49]; exact mw74_11 hs_36 _ (by omega)
    have hf_51 : gF [75, 76, 77, 78, 79, 80, 81, 86, 87, 88, 89, 105] [11, 15, 38, 39, 40, 41, 42, 43, 44, 45] s s_48 := by rw [e_49]; exact gF.wI hf_37 (Or.inr ⟨rfl, rfl⟩)
    have q_52 : gp_I s_48 74 38 = gp_I s_34 74 38 := by rw [e_49] <;> rfl
    have q_53 : gp_I s_48 74 39 = gp_I s_34 74 39 := by rw [e_49] <;> rfl
    have q_54 : gp_I s_48 74 40 = gp_I s_34 74 40 := by rw [e_49] <;> rfl
    have q_55 : gp_I s_48 74 41 = gp_I s_34 74 41 := by rw [e_49] <;> rfl
    have q_56 : gp_I s_48 74 42 = gp_I s_34 74 42 := by rw [e_49] <;> rfl
    have q_57 : gp_I s_48 74 43 = gp_I s_34 74 43 := by rw [e_49] <;> rfl
    have q_58 : gp_I s_48 74 44 = gp_I s_34 74 44 := by rw [e_49] <;> rfl
    have q_59 : gp_I s_48 74 11 = 0 := by rw [e_49]; exact (gz_rw _ _ _ _ _).1 rfl
    have q_60 : gp_I s_48 81 p0.toNat = gp_I s_34 81 p0.toNat := by rw [e_49] <;> rfl
    have q_61 : gp_I s_48 81 21 = gp_I s_34 81 21 := by rw [e_49] <;> rfl
    have hTP : TPn τ n s_48 := ⟨by subst_vars; rfl, by omega⟩
    refine vm_reads2 τ n _ hs_50 (by omega) (hTP) (fun s_62 hs_63 hf_64 p_65 p_66 p_67 p_68 p_69 => ⟨rfl, ?_⟩)
    have hf_70 : gF [75, 76, 77, 78, 79, 80, 81, 86, 87, 88, 89, 105] [11, 15, 38, 39, 40, 41, 42, 43, 44, 45] s s_62 := gF.trans hf_51 hf_64 rfl rfl
    have q_71 := (hf_64.2 74 39 rfl (fun _ => rfl)).1
    have q_72 := (hf_64.2 74 11 rfl (fun _ => rfl)).1
    have hrda := RDA_of (p_65 (by omega))
    have hk0 := p_67
    have f_73 := mr74_40 hs_63
    refine ⟨fun h_74 => ?_, fun h_74 => ?_⟩
    · refine vm_reads2 τ n _ hs_63 (by omega) (p_66) (fun s_75 hs_76 hf_77 p_78 p_79 p_80 p_81 p_82 => ⟨rfl, ?_⟩)
      have hf_83 : gF [75, 76, 77, 78, 79, 80, 81, 86, 87, 88, 89, 105] [11, 15, 38, 39, 40, 41, 42, 43, 44, 45] s s_75 := gF.trans hf_70 hf_77 rfl rfl
      have q_84 := (hf_77.2 74 39 rfl (fun _ => rfl)).1
      have q_85 := (hf_77.2 74 11 rfl (fun _ => rfl)).1
      have hrz := p_82 (by omega)
      have hk1 := p_80
      have f_86 := mr74_43 hs_76
      refine ⟨fun h_87 => ?_, fun h_87 => ?_⟩
      · have hm21 := RGQ_1 (q2 (by omega)) hrda (by omega) hrz (by omega)
        refine vm_copies _ _ hs_76 (by omega) (by omega) (by first | omega | assumption) (by show (p0 < 8 → 1 ≤ gp_I s_75 81 21); first | omega | assumption) (fun s_88 hs_89 hf_90 p_91 p_92 => ⟨rfl, ?_⟩)
        have hf_93 : gF [75, 76, 77, 78, 79, 80, 81, 86, 87, 88, 89, 105] [11, 15, 38, 39, 40, 41, 42, 43, 44, 45] s s_88 := gF.trans hf_83 hf_90 rfl rfl
        have pd_94 : TPn τ n s_88 := TP_fr p_79 hf_90 rfl rfl
        have q_95 := (hf_90.2 74 38 rfl (fun _ => rfl)).1
        have q_96 := (hf_90.2 74 39 rfl (fun _ => rfl)).1
        have q_97 := (hf_90.2 74 40 rfl (fun _ => rfl)).1
        have q_98 := (hf_90.2 74 41 rfl (fun _ => rfl)).1
        have q_99 := (hf_90.2 74 42 rfl (fun _ => rfl)).1
        have q_100 := (hf_90.2 74 43 rfl (fun _ => rfl)).1
        have q_101 := (hf_90.2 74 44 rfl (fun _ => rfl)).1
        have q_102 := (hf_90.2 74 11 rfl (fun _ => rfl)).1
        have p_103 : gp_I s_88 81 p0.toNat = gp_I s_75 81 21 := p_91
        refine ⟨by omega, ?_⟩
        have f_104 := mr81 hs_89 (Int.toNat p0)
        have f_105 := mr81s hs_89 (Int.toNat p0) (by omega)
        exact k _ s_88 hs_89 hf_93 (by first | exact fun k h1 h2 => (hf_90.2 81 k rfl (fun h => absurd h (by decide))).1 | exact fun k h1 h2 => (hk0 k h1 h2).trans (by subst_vars; rfl) | exact fun k h1 h2 => ((hf_90.2 81 k rfl (fun h => absurd h (by decide))).1).trans ((hk1 k h1 h2).trans ((hk0 k h1 h2).trans (by subst_vars; rfl))) | exact fun k h1 h2 => (p_92 k (by omega)).trans ((hk1 k h1 h2).trans ((hk0 k h1 h2).trans (by subst_vars; rfl)))) (by first | omega | assumption) (by first | omega | assumption) (GMU_s hrda (by omega) (by omega) hrz (by omega) (by omega))
      · have f_106 := mr74_43 hs_76
        refine vm_finds _ hs_76 (by omega) (fun x_107 s_108 hs_109 hf_110 p_111 p_112 => ⟨_, rfl, ?_⟩)
        have hf_113 : gF [75, 76, 77, 78, 79, 80, 81, 86, 87, 88, 89, 105] [11, 15, 38, 39, 40, 41, 42, 43, 44, 45] s s_108 := gF.trans hf_83 hf_110 rfl rfl
        have pd_114 : TPn τ n s_108 := TP_fr p_79 hf_110 rfl rfl
        have q_115 := (hf_110.2 74 38 rfl (fun _ => rfl)).1
        have q_116 := (hf_110.2 74 39 rfl (fun _ => rfl)).1
        have q_117 := (hf_110.2 74 40 rfl (fun _ => rfl)).1
        have q_118 := (hf_110.2 74 41 rfl (fun _ => rfl)).1
        have q_119 := (hf_110.2 74 42 rfl (fun _ => rfl)).1
        have q_120 := (hf_110.2 74 43 rfl (fun _ => rfl)).1
        have q_121 := (hf_110.2 74 44 rfl (fun _ => rfl)).1
        have q_122 := (hf_110.2 74 11 rfl (fun _ => rfl)).1
        have q_123 := (hf_110.2 81 p0.toNat rfl (fun h => absurd h (by decide))).1
        have q_124 := (hf_110.2 81 21 rfl (fun h => absurd h (by decide))).1
        exact k _ s_108 hs_109 hf_113 (by first | exact fun k h1 h2 => (hf_110.2 81 k rfl (fun h => absurd h (by decide))).1 | exact fun k h1 h2 => (hk0 k h1 h2).trans (by subst_vars; rfl) | exact fun k h1 h2 => ((hf_110.2 81 k rfl (fun h => absurd h (by decide))).1).trans ((hk1 k h1 h2).trans ((hk0 k h1 h2).trans (by subst_vars; rfl))) | exact fun k h1 h2 => (p_79 k (by omega)).trans ((hk1 k h1 h2).trans ((hk0 k h1 h2).trans (by subst_vars; rfl)))) (by first | omega | assumption) (by first | omega | assumption) (GMU_l hrda (by omega) (by omega) hrz (by omega) (by omega))
    · have f_125 := mr74_40 hs_63
      try rw [show gp_wr ((-10) - (gp_I s_62 74 40)) = (-10) - (gp_I s_62 74 40) from gp_wr_id (by omega) (by omega)]
      exact k _ s_62 hs_63 hf_70 (by first | exact fun k h1 h2 => (hf_64.2 81 k rfl (fun h => absurd h (by decide))).1 | exact fun k h1 h2 => (hk0 k h1 h2).trans (by subst_vars; rfl) | exact fun k h1 h2 => ((hf_64.2 81 k rfl (fun h => absurd h (by decide))).1).trans ((hk1 k h1 h2).trans ((hk0 k h1 h2).trans (by subst_vars; rfl))) | exact fun k h1 h2 => (p_66 k (by omega)).trans ((hk1 k h1 h2).trans ((hk0 k h1 h2).trans (by subst_vars; rfl)))) (by first | omega | assumption) (by first | omega | assumption) (GMU_w hrda (by omega) (by omega) (by omega))
