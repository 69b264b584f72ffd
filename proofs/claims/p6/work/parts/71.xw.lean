/-! the class, over any state: its tables -/
def NT (L : Nat) (s : gH) (b : Nat) : Prop := ∀ a, (gp_sh (gp_mk L s) a).1 = 9 → b ≠ a + 5
def BB (L : Nat) (s : gH) (a n f : Nat) : Prop := ∃ b, gp_R (gp_mk L s) a f = some b ∧ b < s.1 ∧ gp_sh (gp_mk L s) b = (100, n) ∧ NT L s b ∧ (b < 117 → 16 ≤ b ∧ b ≤ 19)
/-- a table but for its bounds -/
def TT0 (L : Nat) (s : gH) (a n : Nat) : Prop :=
  (1 ≤ a ∧ a + 5 < s.1 ∧ (a < 117 → a = 7 ∨ a = 25)) ∧ (1 ≤ n ∧ n ≤ 61 ∧ (a ≠ 7 → n ≤ 60)) ∧ gp_I s a 0 = (n : Int) ∧
  (gp_R (gp_mk L s) a 1 = some (a + 1) ∧ gp_R (gp_mk L s) a 2 = some (a + 2) ∧ gp_R (gp_mk L s) a 3 = some (a + 3) ∧ gp_R (gp_mk L s) a 4 = some (a + 4) ∧ gp_R (gp_mk L s) a 5 = some (a + 5)) ∧
  (gp_sh (gp_mk L s) (a + 1) = (101, n) ∧ gp_sh (gp_mk L s) (a + 2) = (101, n) ∧ gp_sh (gp_mk L s) (a + 3) = (100, n) ∧ gp_sh (gp_mk L s) (a + 4) = (100, n) ∧ gp_sh (gp_mk L s) (a + 5) = (100, n)) ∧
  (∀ i : Nat, (bd (gp_L s (a + 1) i) i ∧ bd (gp_L s (a + 2) i) i) ∧ 0 ≤ gp_I s (a + 5) i ∧ (gp_I s (a + 5) i ≤ 59 ∨ gp_I s (a + 5) i ≤ i))
def TT (L : Nat) (s : gH) (a n : Nat) : Prop := TT0 L s a n ∧ (gp_R (gp_mk L s) a 6 = none ∨ (BB L s a n 6 ∧ BB L s a n 7 ∧ BB L s a n 8 ∧ BB L s a n 9))
/-- all tables, but one that is being made -/
def XT (L e : Nat) (s : gH) : Prop := 117 ≤ s.1 ∧ ∀ a, (gp_sh (gp_mk L s) a).1 = 9 → a ≠ e → ∃ n, TT L s a n
theorem u2_ne {α : Type} (f : Nat → Nat → α) (a i : Nat) (v : α) (a' i' : Nat) (h : a' ≠ a) : gp_u2 f a i v a' i' = f a' i' := by
  rw [gm_u2, if_neg (fun q => h q.1)]
theorem u2_i {α : Type} (f : Nat → Nat → α) (a i : Nat) (v : α) (i' : Nat) : gp_u2 f a i v a i' = if i' = i then v else f a i' := by
  rw [gm_u2]
  by_cases c : i' = i
  · rw [if_pos ⟨rfl, c⟩, if_pos c]
  · rw [if_neg (fun h => c h.2), if_neg c]
theorem TT0.wI {L : Nat} {s : gH} {a n c k : Nat} {v : Int} (h : TT0 L s a n) (hc : c ≠ a) (hd : c = a + 5 → 0 ≤ v ∧ (v ≤ 59 ∨ v ≤ k)) : TT0 L (gp_wI s c k v) a n := by
  obtain ⟨h1, h2, h3, h4, h5, h6⟩ := h
  refine ⟨h1, h2, ?_, h4, h5, fun i => ⟨(h6 i).1, ?_⟩⟩
  · show gp_u2 _ _ _ _ _ _ = _
    rw [u2_ne _ _ _ _ _ _ (fun q => hc q.symm)]; exact h3
  · show 0 ≤ gp_u2 _ _ _ _ _ _ ∧ (gp_u2 _ _ _ _ _ _ ≤ 59 ∨ gp_u2 _ _ _ _ _ _ ≤ _)
    rw [gm_u2]
    split
    · rename_i q; rw [q.2]; exact hd q.1.symm
    · exact (h6 i).2
theorem TT.wI {L : Nat} {s : gH} {a n c k : Nat} {v : Int} (h : TT L s a n) (hc : c ≠ a) (hd : c = a + 5 → 0 ≤ v ∧ (v ≤ 59 ∨ v ≤ k)) : TT L (gp_wI s c k v) a n := ⟨h.1.wI hc hd, h.2⟩
theorem XT.wI {L e : Nat} {s : gH} {c k : Nat} {v : Int} (h : XT L e s) (hc : ¬ (gp_sh (gp_mk L s) c).1 = 9) (hd : ∀ a, (gp_sh (gp_mk L s) a).1 = 9 → c = a + 5 → 0 ≤ v ∧ (v ≤ 59 ∨ v ≤ k)) : XT L e (gp_wI s c k v) :=
  ⟨h.1, fun a ha he => by
    obtain ⟨n, hn⟩ := h.2 a ha he
    exact ⟨n, hn.wI (fun q => hc (by rw [q]; exact ha)) (hd a ha)⟩⟩
theorem TT0.wL {L : Nat} {s : gH} {a n c k : Nat} {v : BitVec 64} (h : TT0 L s a n) (hd : (c = a + 1 ∨ c = a + 2) → bd v k) : TT0 L (gp_wL s c k v) a n := by
  obtain ⟨h1, h2, h3, h4, h5, h6⟩ := h
  refine ⟨h1, h2, h3, h4, h5, fun i => ⟨⟨?_, ?_⟩, (h6 i).2⟩⟩
  · show bd (gp_u2 _ _ _ _ _ _) _
    rw [gm_u2]
    split
    · rename_i q; rw [q.2]; exact hd (Or.inl q.1.symm)
    · exact (h6 i).1.1
  · show bd (gp_u2 _ _ _ _ _ _) _
    rw [gm_u2]
    split
    · rename_i q; rw [q.2]; exact hd (Or.inr q.1.symm)
    · exact (h6 i).1.2
theorem TT.wL {L : Nat} {s : gH} {a n c k : Nat} {v : BitVec 64} (h : TT L s a n) (hd : (c = a + 1 ∨ c = a + 2) → bd v k) : TT L (gp_wL s c k v) a n := ⟨h.1.wL hd, h.2⟩
theorem XT.wL {L e : Nat} {s : gH} {c k : Nat} {v : BitVec 64} (h : XT L e s) (hd : ∀ a, (gp_sh (gp_mk L s) a).1 = 9 → (c = a + 1 ∨ c = a + 2) → bd v k) : XT L e (gp_wL s c k v) :=
  ⟨h.1, fun a ha he => by
    obtain ⟨n, hn⟩ := h.2 a ha he
    exact ⟨n, hn.wL (hd a ha)⟩⟩
theorem R_wR {L : Nat} {s : gH} {c k : Nat} {v : Option Nat} {a : Nat} (j : Nat) (h : a ≠ c ∨ j ≠ k) : gp_R (gp_mk L (gp_wR s c k v)) a j = gp_R (gp_mk L s) a j := by
  show (match gp_sR a j with | some r => r | none => gp_u2 s.2.2.2.2.2 c k v a j) = (match gp_sR a j with | some r => r | none => s.2.2.2.2.2 a j)
  rw [gm_u2, if_neg (fun q => by rcases h with h | h; exact h q.1; exact h q.2)]
theorem R_wRs {L : Nat} {s : gH} {c k : Nat} {v : Option Nat} (h : gp_sR c k = none) : gp_R (gp_mk L (gp_wR s c k v)) c k = v := by
  show (match gp_sR c k with | some r => r | none => gp_u2 s.2.2.2.2.2 c k v c k) = v
  rw [h, gm_u2, if_pos ⟨rfl, rfl⟩]
theorem BB.wR {L : Nat} {s : gH} {a n f c k : Nat} {v : Option Nat} (h : BB L s a n f) (hc : a ≠ c ∨ f ≠ k) : BB L (gp_wR s c k v) a n f := by
  obtain ⟨b, h1, h2, h3, h4, h5⟩ := h
  exact ⟨b, by rw [R_wR f hc]; exact h1, h2, h3, h4, h5⟩
theorem TT0.wR {L : Nat} {s : gH} {a n c k : Nat} {v : Option Nat} (h : TT0 L s a n) (hc : a ≠ c ∨ 6 ≤ k) : TT0 L (gp_wR s c k v) a n := by
  obtain ⟨h1, h2, h3, h4, h5, h6⟩ := h
  have r : ∀ j, j < 6 → gp_R (gp_mk L (gp_wR s c k v)) a j = gp_R (gp_mk L s) a j := fun j hj => R_wR j (by rcases hc with hc | hc; exact Or.inl hc; exact Or.inr (by omega))
  exact ⟨h1, h2, h3, ⟨by rw [r 1 (by omega)]; exact h4.1, by rw [r 2 (by omega)]; exact h4.2.1, by rw [r 3 (by omega)]; exact h4.2.2.1, by rw [r 4 (by omega)]; exact h4.2.2.2.1, by rw [r 5 (by omega)]; exact h4.2.2.2.2⟩, h5, h6⟩
theorem TT.wR {L : Nat} {s : gH} {a n c k : Nat} {v : Option Nat} (h : TT L s a n) (hc : a ≠ c) : TT L (gp_wR s c k v) a n := ⟨h.1.wR (Or.inl hc), by
  rcases h.2 with q | q
  · exact Or.inl (by rw [R_wR 6 (Or.inl hc)]; exact q)
  · exact Or.inr ⟨q.1.wR (Or.inl hc), q.2.1.wR (Or.inl hc), q.2.2.1.wR (Or.inl hc), q.2.2.2.wR (Or.inl hc)⟩⟩
theorem XT.wR {L e : Nat} {s : gH} {c k : Nat} {v : Option Nat} (h : XT L e s) (hc : ¬ (gp_sh (gp_mk L s) c).1 = 9 ∨ c = e) : XT L e (gp_wR s c k v) :=
  ⟨h.1, fun a ha he => by
    obtain ⟨n, hn⟩ := h.2 a ha he
    exact ⟨n, hn.wR (fun q => by rcases hc with hc | hc; exact hc (by rw [← q]; exact ha); exact he (q.trans hc))⟩⟩
theorem sh_new {L : Nat} {s : gH} {k m : Nat} (h : 117 ≤ s.1) (a : Nat) : gp_sh (gp_mk L (gp_new s k m)) a = if a = s.1 then (k, m) else gp_sh (gp_mk L s) a := by
  rw [← gp_mk_new k m h]
  show cond (Nat.beq a s.1) (k, m) (gp_sh (gp_mk L s) a) = _
  by_cases c : a = s.1
  · rw [if_pos c, c, Nat.beq_refl]; rfl
  · rw [if_neg c]
    cases q : Nat.beq a s.1 with
    | false => rfl
    | true => exact absurd (Nat.eq_of_beq_eq_true q) c
theorem ur_i {α : Type} (f : Nat → Nat → α) (a : Nat) (g : Nat → α) (a' i : Nat) : gp_ur f a g a' i = if a' = a then g i else f a' i := by
  unfold gp_ur
  by_cases c : a' = a
  · rw [if_pos c, c, Nat.beq_refl]; rfl
  · rw [if_neg c]
    cases q : Nat.beq a' a with
    | false => rfl
    | true => exact absurd (Nat.eq_of_beq_eq_true q) c
theorem R_new {L : Nat} {s : gH} {k m : Nat} (h : 117 ≤ s.1) (a j : Nat) : gp_R (gp_mk L (gp_new s k m)) a j = if a = s.1 then none else gp_R (gp_mk L s) a j := by
  rw [← gp_mk_new k m h]
  exact ur_i (gp_R (gp_mk L s)) s.1 (fun _ => none) a j
theorem I_new {s : gH} {k m : Nat} (a j : Nat) : gp_I (gp_new s k m) a j = if a = s.1 then 0 else gp_I s a j := ur_i (gp_I s) s.1 (fun _ => 0) a j
theorem L_new {s : gH} {k m : Nat} (a j : Nat) : gp_L (gp_new s k m) a j = if a = s.1 then 0#64 else gp_L s a j := ur_i (gp_L s) s.1 (fun _ => 0#64) a j
theorem NT.new {L : Nat} {s : gH} {k m b : Nat} (hs : 117 ≤ s.1) (h : NT L s b) (hb : b < s.1) : NT L (gp_new s k m) b := by
  intro a ha
  rw [sh_new hs] at ha
  by_cases c : a = s.1
  · omega
  · rw [if_neg c] at ha; exact h a ha
theorem BB.new {L : Nat} {s : gH} {k m a n f : Nat} (hs : 117 ≤ s.1) (h : BB L s a n f) (ha : a < s.1) : BB L (gp_new s k m) a n f := by
  obtain ⟨b, h1, h2, h3, h4, h5⟩ := h
  exact ⟨b, by rw [R_new hs, if_neg (by omega)]; exact h1, Nat.lt_succ_of_lt h2, by rw [sh_new hs, if_neg (by omega)]; exact h3, NT.new hs h4 h2, h5⟩
theorem TT0.new {L : Nat} {s : gH} {k m a n : Nat} (hs : 117 ≤ s.1) (h : TT0 L s a n) : TT0 L (gp_new s k m) a n := by
  obtain ⟨⟨h0, h1, h9⟩, h2, h3, h4, h5, h6⟩ := h
  have r : ∀ j, gp_R (gp_mk L (gp_new s k m)) a j = gp_R (gp_mk L s) a j := fun j => by rw [R_new hs, if_neg (by omega)]
  have q : ∀ j, j ≤ 5 → gp_sh (gp_mk L (gp_new s k m)) (a + j) = gp_sh (gp_mk L s) (a + j) := fun j hj => by rw [sh_new hs, if_neg (by omega)]
  refine ⟨⟨h0, Nat.lt_succ_of_lt h1, h9⟩, h2, ?_, ⟨by rw [r]; exact h4.1, by rw [r]; exact h4.2.1, by rw [r]; exact h4.2.2.1, by rw [r]; exact h4.2.2.2.1, by rw [r]; exact h4.2.2.2.2⟩, ⟨by rw [q 1 (by omega)]; exact h5.1, by rw [q 2 (by omega)]; exact h5.2.1, by rw [q 3 (by omega)]; exact h5.2.2.1, by rw [q 4 (by omega)]; exact h5.2.2.2.1, by rw [q 5 (by omega)]; exact h5.2.2.2.2⟩, fun i => ?_⟩
  · rw [I_new, if_neg (by omega)]; exact h3
  · rw [L_new, L_new, I_new, if_neg (by omega), if_neg (by omega), if_neg (by omega)]; exact h6 i
theorem TT.new {L : Nat} {s : gH} {k m a n : Nat} (hs : 117 ≤ s.1) (h : TT L s a n) : TT L (gp_new s k m) a n := by
  have ha := h.1.1
  refine ⟨h.1.new hs, ?_⟩
  rcases h.2 with q | q
  · exact Or.inl (by rw [R_new hs, if_neg (by omega)]; exact q)
  · exact Or.inr ⟨q.1.new hs (by omega), q.2.1.new hs (by omega), q.2.2.1.new hs (by omega), q.2.2.2.new hs (by omega)⟩
theorem XT.new {L e : Nat} {s : gH} {k m : Nat} (h : XT L e s) (hk : k ≠ 9 ∨ e = s.1) : XT L e (gp_new s k m) :=
  ⟨Nat.le_succ_of_le h.1, fun a ha he => by
    rw [sh_new h.1] at ha
    by_cases c : a = s.1
    · rw [if_pos c] at ha
      rcases hk with hk | hk
      · exact absurd ha hk
      · exact absurd (c.trans hk.symm) he
    · rw [if_neg c] at ha
      obtain ⟨n, hn⟩ := h.2 a ha he
      exact ⟨n, hn.new h.1⟩⟩
theorem XT.weak {L e : Nat} {s : gH} (h : XT L 0 s) : XT L e s := ⟨h.1, fun a ha _ => h.2 a ha (by
  intro q; subst q
  exact absurd (show (105 : Nat) = 9 from ha) (by decide))⟩
theorem XT.done {L e n : Nat} {s : gH} (h : XT L e s) (ht : TT L s e n) : XT L 0 s := ⟨h.1, fun a ha _ => by
  by_cases c : a = e
  · subst c; exact ⟨n, ht⟩
  · exact h.2 a ha c⟩
def gJx (P : Nat → Nat → Int → Prop) (Q : Nat → Nat → BitVec 64 → Prop) (s : gH) : Prop := ∀ a k, a < 74 → P a k (gp_I s a k) ∧ Q a k (gp_L s a k)
theorem gJx.wI {P : Nat → Nat → Int → Prop} {Q : Nat → Nat → BitVec 64 → Prop} {s : gH} (h : gJx P Q s) (a k : Nat) (v : Int) (hv : P a k v) : gJx P Q (gp_wI s a k v) := by
  refine fun a' k' h1 => ⟨?_, (h a' k' h1).2⟩
  show P a' k' (gp_u2 _ _ _ _ _ _)
  rw [gm_u2]
  split
  · rename_i q; rw [q.1, q.2]; exact hv
  · exact (h a' k' h1).1
theorem gJx.wL {P : Nat → Nat → Int → Prop} {Q : Nat → Nat → BitVec 64 → Prop} {s : gH} (h : gJx P Q s) (a k : Nat) (v : BitVec 64) (hv : Q a k v) : gJx P Q (gp_wL s a k v) := by
  refine fun a' k' h1 => ⟨(h a' k' h1).1, ?_⟩
  show Q a' k' (gp_u2 _ _ _ _ _ _)
  rw [gm_u2]
  split
  · rename_i q; rw [q.1, q.2]; exact hv
  · exact (h a' k' h1).2
theorem gJx.dI {P : Nat → Nat → Int → Prop} {Q : Nat → Nat → BitVec 64 → Prop} {s : gH} (h : gJx P Q s) (a k : Nat) (v : Int) (hv : 74 ≤ a) : gJx P Q (gp_wI s a k v) := by
  refine fun a' k' h1 => ⟨?_, (h a' k' h1).2⟩
  show P a' k' (gp_u2 _ _ _ _ _ _)
  rw [u2_ne _ _ _ _ _ _ (by omega)]
  exact (h a' k' h1).1
theorem gJx.new {P : Nat → Nat → Int → Prop} {Q : Nat → Nat → BitVec 64 → Prop} {s : gH} (h : gJx P Q s) (k m : Nat) (hs : 117 ≤ s.1) : gJx P Q (gp_new s k m) := by
  intro a' k' h1
  rw [I_new, L_new, if_neg (by omega), if_neg (by omega)]
  exact h a' k' h1
def xP (a k : Nat) (v : Int) : Prop := cond (Nat.beq a 1) (cond (Nat.beq k 2) (0 ≤ v ∧ v ≤ 100) (True)) (cond (Nat.beq a 3) ((-128) ≤ v ∧ v ≤ 127) (cond (Nat.beq a 6) (cond (Nat.beq k 4) (0 ≤ v ∧ v ≤ 60) (True)) (cond (Nat.beq a 12) (0 ≤ v ∧ v ≤ (k : Int)) (cond (Nat.beq a 13) (0 ≤ v ∧ v ≤ 60) (cond (Nat.beq a 14) (0 ≤ v ∧ v ≤ 60) (cond (Nat.beq a 15) ((-1) ≤ v ∧ v ≤ 60) (cond (Nat.beq a 21) ((-1) ≤ v ∧ v ≤ 60) (cond (Nat.beq a 22) (0 ≤ v ∧ v ≤ 59) (cond (Nat.beq a 45) ((-1) ≤ v ∧ v ≤ 60) (cond (Nat.beq a 46) (cond (Nat.beq k 3) (0 ≤ v ∧ v ≤ 100) (cond (Nat.beq k 5) (0 ≤ v ∧ v ≤ 100) (cond (Nat.beq k 6) (0 ≤ v ∧ v ≤ 100) (cond (Nat.beq k 7) ((-1) ≤ v ∧ v ≤ 100) (cond (Nat.beq k 8) (0 ≤ v ∧ v ≤ 6) (True)))))) (cond (Nat.beq a 48) (cond (Nat.beq k 2) (0 ≤ v ∧ v ≤ 8) (True)) (cond (Nat.beq a 49) ((-2) ≤ v ∧ v ≤ 9) (cond (Nat.beq a 50) ((-1) ≤ v ∧ v ≤ 59) (cond (Nat.beq a 51) (cond (Nat.beq k 4) (0 ≤ v ∧ v ≤ 3) (cond (Nat.beq k 8) (0 ≤ v ∧ v ≤ 1) (True))) (cond (Nat.beq a 53) (0 ≤ v ∧ v ≤ 59) (cond (Nat.beq a 54) (0 ≤ v ∧ v ≤ 7) (cond (Nat.beq a 57) (cond (Nat.beq k 1) (0 ≤ v ∧ v ≤ 1) (cond (Nat.beq k 2) (0 ≤ v ∧ v ≤ 1) (cond (Nat.beq k 3) (0 ≤ v ∧ v ≤ 180) (True)))) (cond (Nat.beq a 58) (0 ≤ v ∧ v ≤ 263) (cond (Nat.beq a 59) (0 ≤ v ∧ v ≤ 59) (cond (Nat.beq a 60) (cond (Nat.beq k 4) (0 ≤ v ∧ v ≤ 3) (cond (Nat.beq k 8) (0 ≤ v ∧ v ≤ 1) (True))) (cond (Nat.beq a 62) (0 ≤ v ∧ v ≤ 59) (cond (Nat.beq a 63) (0 ≤ v ∧ v ≤ 7) (cond (Nat.beq a 73) (0 ≤ v ∧ v ≤ 20) (True))))))))))))))))))))))))
def xQ (a k : Nat) (v : BitVec 64) : Prop := cond (Nat.beq a 8 || Nat.beq a 9) (bd v (k : Int)) True
/-- the state of the class: tables, rows -/
def XI (L e : Nat) (s : gH) : Prop := XT L e s ∧ gJx xP xQ s
theorem XI.new {L e : Nat} {s : gH} (h : XI L e s) (k m : Nat) (hk : k ≠ 9 ∨ e = s.1) : XI L e (gp_new s k m) := ⟨h.1.new hk, h.2.new k m h.1.1⟩
theorem XI.wR {L e : Nat} {s : gH} (h : XI L e s) (c k : Nat) (v : Option Nat) (hc : ¬ (gp_sh (gp_mk L s) c).1 = 9 ∨ c = e) : XI L e (gp_wR s c k v) := ⟨h.1.wR hc, h.2⟩
theorem x9a {L : Nat} {s : gH} {a c : Nat} (ha : (gp_sh (gp_mk L s) a).1 = 9) (e : a = c) (h : cond (Nat.beq c 0) false (cond (Nat.blt c 117) (cond (Nat.beq (gp_ss c).1 9) false true) false) = true) : False := by
  subst e
  have h2 : (cond (Nat.beq a 0) (105, L) (cond (Nat.blt a 117) (gp_ss a) (s.2.2.1 a))).1 = 9 := ha
  cases q0 : Nat.beq a 0 with
  | true => rw [q0] at h; cases h
  | false =>
    rw [q0] at h h2
    cases q1 : Nat.blt a 117 with
    | false => rw [q1] at h; cases h
    | true =>
      rw [q1] at h h2
      have h3 : (gp_ss a).1 = 9 := h2
      rw [h3] at h
      cases h
/-- a table of so many places -/
def kT (L : Nat) (s : gH) (a n : Nat) : Prop := a + 5 < s.1 ∧ (gp_sh (gp_mk L s) a).1 = 9 ∧ (gp_sh (gp_mk L s) (a + 1)).2 = n
theorem kT.tt {L : Nat} {s : gH} {a n : Nat} (k : kT L s a n) (h : XI L 0 s) : TT L s a n := by
  obtain ⟨m, hm⟩ := h.1.2 a k.2.1 (by
    intro q; subst q
    exact absurd (show (105 : Nat) = 9 from k.2.1) (by decide))
  have e : m = n := by
    have := k.2.2
    rw [hm.1.2.2.2.2.1.1] at this
    exact this
  rw [e] at hm; exact hm
theorem kT.tte {L e : Nat} {s : gH} {a n : Nat} (k : kT L s a n) (h : XI L e s) (he : a ≠ e) : TT L s a n := by
  obtain ⟨m, hm⟩ := h.1.2 a k.2.1 he
  have e : m = n := by
    have := k.2.2
    rw [hm.1.2.2.2.2.1.1] at this
    exact this
  rw [e] at hm; exact hm
theorem kT.n {L : Nat} {s : gH} {a n : Nat} (k : kT L s a n) (h : XI L 0 s) : 1 ≤ n ∧ n ≤ 61 := ⟨(k.tt h).1.2.1.1, (k.tt h).1.2.1.2.1⟩
theorem kT.n60 {L : Nat} {s : gH} {a n : Nat} (k : kT L s a n) (h : XI L 0 s) (ha : n ≤ 60) : a ≠ 7 := by
  intro q; subst q
  have := k.2.2
  have e : (gp_sh (gp_mk L s) (7 + 1)).2 = 61 := rfl
  omega
theorem kT7 {L : Nat} {s : gH} (h : 117 ≤ s.1) : kT L s 7 61 := ⟨by omega, rfl, rfl⟩
theorem kT25 {L : Nat} {s : gH} (h : 117 ≤ s.1) : kT L s 25 1 := ⟨by omega, rfl, rfl⟩
/-- what was there is there, of the same kind and length; bounds stay -/
def gM (L : Nat) (s t : gH) : Prop := s.1 ≤ t.1 ∧ (∀ a, a < s.1 → gp_sh (gp_mk L t) a = gp_sh (gp_mk L s) a) ∧ (∀ a b, a < s.1 → (gp_sh (gp_mk L s) a).1 = 9 → gp_R (gp_mk L s) a 6 = some b → ∃ b', gp_R (gp_mk L t) a 6 = some b')
theorem gM.refl (L : Nat) (s : gH) : gM L s s := ⟨Nat.le_refl _, fun _ _ => rfl, fun _ b _ _ h => ⟨b, h⟩⟩
theorem gM.trans {L : Nat} {s u t : gH} (h : gM L s u) (g : gM L u t) : gM L s t := ⟨Nat.le_trans h.1 g.1, fun a ha => (g.2.1 a (Nat.lt_of_lt_of_le ha h.1)).trans (h.2.1 a ha), fun a b ha hk hr => by
  obtain ⟨b', hb⟩ := h.2.2 a b ha hk hr
  exact g.2.2 a b' (Nat.lt_of_lt_of_le ha h.1) (by rw [h.2.1 a ha]; exact hk) hb⟩
theorem kT.fr {L : Nat} {s t : gH} {a n : Nat} (k : kT L s a n) (g : gM L s t) : kT L t a n := ⟨Nat.lt_of_lt_of_le k.1 g.1, by have := k.1; rw [g.2.1 a (by omega)]; exact k.2.1, by have := k.1; rw [g.2.1 (a + 1) (by omega)]; exact k.2.2⟩
/-- bounds are there -/
def kB (L : Nat) (s : gH) (a : Nat) : Prop := a < s.1 ∧ (gp_sh (gp_mk L s) a).1 = 9 ∧ ∃ b, gp_R (gp_mk L s) a 6 = some b
theorem kB.fr {L : Nat} {s t : gH} {a : Nat} (k : kB L s a) (g : gM L s t) : kB L t a := ⟨Nat.lt_of_lt_of_le k.1 g.1, by rw [g.2.1 a k.1]; exact k.2.1, by obtain ⟨b, hb⟩ := k.2.2; exact g.2.2 a b k.1 k.2.1 hb⟩
theorem kB.bb {L : Nat} {s : gH} {a n : Nat} (k : kB L s a) (t : TT L s a n) : BB L s a n 6 ∧ BB L s a n 7 ∧ BB L s a n 8 ∧ BB L s a n 9 := by
  obtain ⟨b, hb⟩ := k.2.2
  rcases t.2 with q | q
  · rw [q] at hb; cases hb
  · exact q
theorem kB7 {L : Nat} {s : gH} (h : 117 ≤ s.1) : kB L s 7 := ⟨by omega, rfl, 16, rfl⟩
/-- a number for a place: a row's, or a field's of an object -/
def gcd (a k : Nat) : Nat := cond (Nat.blt a 117) (cond (Nat.blt (gp_ss a).1 13) (1000 + 32 * a + k) a) a
/-- two states of the class: fixed cells are alike but for some places, sets that were there too; al: cells may be made -/
def gX (L : Nat) (al : Bool) (m : List Nat) (s t : gH) : Prop := gM L s t ∧ (al = false → t.1 = s.1 ∧ t.2.1 = s.2.1) ∧ (∀ a k, 0 ≤ a → a < 117 → m.contains (gcd a k) = false → gp_I t a k = gp_I s a k ∧ gp_L t a k = gp_L s a k ∧ t.2.2.2.2.2 a k = s.2.2.2.2.2 a k) ∧ (∀ a k, 117 ≤ a → a < s.1 → gp_L t a k = gp_L s a k)
theorem gX.refl (L : Nat) (al : Bool) (m : List Nat) (s : gH) : gX L al m s s := ⟨gM.refl _ _, fun _ => ⟨rfl, rfl⟩, fun _ _ _ _ _ => ⟨rfl, rfl, rfl⟩, fun _ _ _ _ => rfl⟩
theorem gX.trans {L : Nat} {al al' : Bool} {m m' : List Nat} {s u t : gH} (h : gX L al m s u) (g : gX L al' m' u t) (e1 : (!al' || al) = true) (e2 : m'.all (fun x => m.contains x) = true) : gX L al m s t := by
  refine ⟨h.1.trans g.1, fun q => ?_, fun a k h1 h2 h3 => ?_, fun a k h1 h2 => (g.2.2.2 a k h1 (Nat.lt_of_lt_of_le h2 h.1.1)).trans (h.2.2.2 a k h1 h2)⟩
  · have q' : al' = false := by rw [q] at e1; cases al' <;> simp_all
    exact ⟨(g.2.1 q').1.trans (h.2.1 q).1, (g.2.1 q').2.trans (h.2.1 q).2⟩
  · have h3' : m'.contains (gcd a k) = false := by
      cases c : m'.contains (gcd a k) with
      | false => rfl
      | true =>
        rw [List.all_eq_true] at e2
        have := e2 _ (List.contains_iff_mem.mp c)
        rw [this] at h3; cases h3
    have x := h.2.2.1 a k h1 h2 h3
    have y := g.2.2.1 a k h1 h2 h3'
    exact ⟨y.1.trans x.1, y.2.1.trans x.2.1, y.2.2.trans x.2.2⟩
theorem gX.sub {L : Nat} {al al' : Bool} {m m' : List Nat} {s t : gH} (g : gX L al' m' s t) (e1 : (!al' || al) = true) (e2 : m'.all (fun x => m.contains x) = true) : gX L al m s t := gX.trans (gX.refl L al m s) g e1 e2
theorem gX.wI {L : Nat} {al : Bool} {m : List Nat} {s t : gH} (h : gX L al m s t) {a k : Nat} {v : Int} (q : m.contains (gcd a k) = true ∨ 117 ≤ a) : gX L al m s (gp_wI t a k v) := by
  refine ⟨h.1, h.2.1, fun a' k' h1 h2 h3 => ⟨?_, (h.2.2.1 a' k' h1 h2 h3).2⟩, h.2.2.2⟩
  show gp_u2 _ _ _ _ _ _ = _
  rw [gm_u2, if_neg]
  · exact (h.2.2.1 a' k' h1 h2 h3).1
  · intro c
    rw [c.1, c.2] at h3; rw [c.1] at h2
    rcases q with q | q
    · rw [q] at h3; cases h3
    · omega
theorem gX.wL {L : Nat} {al : Bool} {m : List Nat} {s t : gH} (h : gX L al m s t) {a k : Nat} {v : BitVec 64} (q : (a < 117 ∧ m.contains (gcd a k) = true) ∨ (117 ≤ a ∧ s.1 ≤ a)) : gX L al m s (gp_wL t a k v) := by
  refine ⟨h.1, h.2.1, fun a' k' h1 h2 h3 => ⟨(h.2.2.1 a' k' h1 h2 h3).1, ?_, (h.2.2.1 a' k' h1 h2 h3).2.2⟩, fun a' k' h1 h2 => ?_⟩
  · show gp_u2 _ _ _ _ _ _ = _
    rw [gm_u2, if_neg]
    · exact (h.2.2.1 a' k' h1 h2 h3).2.1
    · intro c
      rw [c.1, c.2] at h3; rw [c.1] at h2
      rcases q with q | q
      · rw [q.2] at h3; cases h3
      · omega
  · show gp_u2 _ _ _ _ _ _ = _
    rw [u2_ne _ _ _ _ _ _ (by omega)]
    exact h.2.2.2 a' k' h1 h2
theorem gX.wR {L : Nat} {al : Bool} {m : List Nat} {s t : gH} (h : gX L al m s t) {a k : Nat} {v : Option Nat} (q : m.contains (gcd a k) = true ∨ 117 ≤ a) (hc : ¬ (gp_sh (gp_mk L t) a).1 = 9 ∨ k ≠ 6 ∨ v ≠ none) : gX L al m s (gp_wR t a k v) := by
  refine ⟨h.1.trans ⟨Nat.le_refl _, fun _ _ => rfl, fun a' b hb hk hr => ?_⟩, h.2.1, fun a' k' h1 h2 h3 => ⟨(h.2.2.1 a' k' h1 h2 h3).1, (h.2.2.1 a' k' h1 h2 h3).2.1, ?_⟩, h.2.2.2⟩
  · by_cases c : a' = a ∧ k = 6
    · cases z : gp_sR a' 6 with
      | some r =>
        refine ⟨b, ?_⟩
        rw [← hr]
        show (match gp_sR a' 6 with | some r => r | none => _) = (match gp_sR a' 6 with | some r => r | none => _)
        rw [z]
      | none =>
        rcases hc with hc | hc | hc
        · exact absurd (by rw [← c.1]; exact hk) hc
        · exact absurd c.2 hc
        · cases v with
          | none => exact absurd rfl hc
          | some w => exact ⟨w, by rw [c.1, c.2]; exact R_wRs (by rw [← c.1]; exact z)⟩
    · exact ⟨b, by rw [R_wR 6 (by by_cases d : a' = a; exact Or.inr (fun e => c ⟨d, e.symm⟩); exact Or.inl d)]; exact hr⟩
  · show gp_u2 _ _ _ _ _ _ = _
    rw [gm_u2, if_neg]
    · exact (h.2.2.1 a' k' h1 h2 h3).2.2
    · intro c
      rw [c.1, c.2] at h3; rw [c.1] at h2
      rcases q with q | q
      · rw [q] at h3; cases h3
      · omega
theorem gX.new {L : Nat} {m : List Nat} {s t : gH} (h : gX L true m s t) (k n : Nat) (ht : 117 ≤ t.1) : gX L true m s (gp_new t k n) := by
  have hm := h.1.1
  refine ⟨h.1.trans ⟨Nat.le_succ _, fun a ha => ?_, fun a b ha hk hr => ⟨b, ?_⟩⟩, fun q => (by cases q), fun a' k' h1 h2 h3 => ?_, fun a' k' h1 h2 => ?_⟩
  · rw [sh_new ht, if_neg (by omega)]
  · rw [R_new ht, if_neg (by omega)]; exact hr
  · rw [I_new, L_new, if_neg (by omega), if_neg (by omega)]
    have x := h.2.2.1 a' k' h1 h2 h3
    exact ⟨x.1, x.2.1, (show gp_ur t.2.2.2.2.2 t.1 (fun _ => none) a' k' = _ by rw [ur_i, if_neg (by omega)]; exact x.2.2)⟩
  · rw [L_new, if_neg (by omega)]
    exact h.2.2.2 a' k' h1 h2
/-- writes to a table's rows -/
theorem XI.t12 {L : Nat} {s : gH} (h : XI L 0 s) {a n : Nat} (kt : kT L s a n) (c k : Nat) (v : BitVec 64) (hc : c = a + 1 ∨ c = a + 2) (hv : bd v k) : XI L 0 (gp_wL s c k v) := by
  have ha := (kt.tt h).1.1.2.2
  refine ⟨XT.wL h.1 (fun _ _ _ => hv), ?_⟩
  by_cases c74 : c < 74
  · refine gJx.wL h.2 c k v ?_
    rcases ha (by omega) with q | q <;> rcases hc with r | r <;> subst q <;> subst r
    · exact hv
    · exact hv
    · exact trivial
    · exact trivial
  · refine fun a' k' h1 => ⟨(h.2 a' k' h1).1, ?_⟩
    show xQ a' k' (gp_u2 _ _ _ _ _ _)
    rw [u2_ne _ _ _ _ _ _ (by omega)]
    exact (h.2 a' k' h1).2
theorem XI.t34 {L : Nat} {s : gH} (h : XI L 0 s) {a n : Nat} (kt : kT L s a n) (c k : Nat) (v : Int) (hc : c = a + 3 ∨ c = a + 4) : XI L 0 (gp_wI s c k v) := by
  have ht := kt.tt h
  have ha := ht.1.1.2.2
  have hsh := ht.1.2.2.2.2.1
  have hk : (gp_sh (gp_mk L s) c).1 = 100 := by
    rcases hc with r | r <;> subst r
    · rw [hsh.2.2.1]
    · rw [hsh.2.2.2.1]
  refine ⟨XT.wI h.1 (by rw [hk]; decide) (fun a' h9 e => ?_), ?_⟩
  · exfalso
    obtain ⟨n', t'⟩ := h.1.2 a' h9 (by
      intro q; subst q
      exact absurd (show (105 : Nat) = 9 from h9) (by decide))
    have hs' := t'.1.2.2.2.2.1
    have k9 := kt.2.1
    rcases hc with r | r
    · have : a = a' + 2 := by omega
      rw [this, hs'.2.1] at k9; exact absurd (show (101 : Nat) = 9 from k9) (by decide)
    · have : a = a' + 1 := by omega
      rw [this, hs'.1] at k9; exact absurd (show (101 : Nat) = 9 from k9) (by decide)
  · by_cases c74 : c < 74
    · refine gJx.wI h.2 c k v ?_
      rcases ha (by omega) with q | q <;> rcases hc with r | r <;> subst q <;> subst r <;> exact trivial
    · exact gJx.dI h.2 c k v (by omega)
theorem XI.t5 {L : Nat} {s : gH} (h : XI L 0 s) {a n : Nat} (kt : kT L s a n) (c k : Nat) (v : Int) (hc : c = a + 5) (hn : n ≤ 60) (hv : 0 ≤ v ∧ v ≤ 59) : XI L 0 (gp_wI s c k v) := by
  have ht := kt.tt h
  have ha := ht.1.1.2.2
  have hsh := ht.1.2.2.2.2.1
  have h7 := kt.n60 h hn
  have hk : (gp_sh (gp_mk L s) c).1 = 100 := by subst hc; rw [hsh.2.2.2.2]
  refine ⟨XT.wI h.1 (by rw [hk]; decide) (fun _ _ _ => ⟨hv.1, Or.inl hv.2⟩), ?_⟩
  by_cases c74 : c < 74
  · refine gJx.wI h.2 c k v ?_
    rcases ha (by omega) with q | q
    · exact absurd q h7
    · subst q; subst hc; exact trivial
  · exact gJx.dI h.2 c k v (by omega)
/-- writes to a row that is no table's depth -/
theorem XI.nt {L : Nat} {s : gH} (h : XI L 0 s) (c k : Nat) (v : Int) (hk : (gp_sh (gp_mk L s) c).1 = 100) (hn : NT L s c) (hx : c < 74 → xP c k v) : XI L 0 (gp_wI s c k v) := by
  refine ⟨XT.wI h.1 (by rw [hk]; decide) (fun a h9 e => absurd e (hn a h9)), ?_⟩
  by_cases c74 : c < 74
  · exact gJx.wI h.2 c k v (hx c74)
  · exact gJx.dI h.2 c k v (by omega)
theorem xPb {b k : Nat} {v : Int} (h : b < 117 → 16 ≤ b ∧ b ≤ 19) : b < 74 → xP b k v := by
  intro h1
  have := h (by omega)
  rcases (by omega : b = 16 ∨ b = 17 ∨ b = 18 ∨ b = 19) with q | q | q | q <;> subst q <;> exact trivial
theorem gXb {b k : Nat} {m : List Nat} (h : b < 117 → 16 ≤ b ∧ b ≤ 19) (hm : [16, 17, 18, 19].all (fun x => m.contains x) = true) : m.contains (gcd b k) = true ∨ 117 ≤ b := by
  by_cases c : b < 117
  · have := h c
    rw [List.all_eq_true] at hm
    rcases (by omega : b = 16 ∨ b = 17 ∨ b = 18 ∨ b = 19) with q | q | q | q
    · subst q; exact Or.inl (hm 16 (by decide))
    · subst q; exact Or.inl (hm 17 (by decide))
    · subst q; exact Or.inl (hm 18 (by decide))
    · subst q; exact Or.inl (hm 19 (by decide))
  · exact Or.inr (by omega)
theorem gXl {m : List Nat} {s : gH} {c k : Nat} (h : 117 ≤ c) (h2 : s.1 ≤ c) : (c < 117 ∧ m.contains (gcd c k) = true) ∨ (117 ≤ c ∧ s.1 ≤ c) := Or.inr ⟨h, h2⟩
/-- sets of a table are as they were -/
theorem tab_L {L : Nat} {al : Bool} {m : List Nat} {s t : gH} {a n : Nat} (kt : kT L s a n) (h : XI L 0 s) (hn : n ≤ 60) (g : gX L al m s t) (m1 : m.contains 26 = false) (m2 : m.contains 27 = false) (k : Nat) : gp_L t (a + 1) k = gp_L s (a + 1) k ∧ gp_L t (a + 2) k = gp_L s (a + 2) k := by
  have ha := (kt.tt h).1.1
  have h7 := kt.n60 h hn
  by_cases c : a < 117
  · rcases ha.2.2 c with q | q
    · exact absurd q h7
    · subst q
      exact ⟨(g.2.2.1 26 k (by decide) (by decide) m1).2.1, (g.2.2.1 27 k (by decide) (by decide) m2).2.1⟩
  · exact ⟨g.2.2.2 _ k (by omega) (by omega), g.2.2.2 _ k (by omega) (by omega)⟩
theorem gin {L : Nat} {s : gH} {A kd n : Nat} {i : Int} (h : gp_sh (gp_mk L s) A = (kd, n)) (hi : 0 ≤ i ∧ i < (n : Int)) : gp_in (gp_mk L s) kd A i := by
  show (gp_sh (gp_mk L s) A).1 = kd ∧ 0 ≤ i ∧ i < ((gp_sh (gp_mk L s) A).2 : Int)
  rw [h]; exact ⟨rfl, hi.1, hi.2⟩
theorem sh_fr {L : Nat} {al : Bool} {m : List Nat} {s t : gH} {b : Nat} {x : Nat × Nat} (h : gp_sh (gp_mk L s) b = x) (g : gX L al m s t) (hb : b < s.1) : gp_sh (gp_mk L t) b = x := (g.1.2.1 b hb).trans h
theorem I_ne {s : gH} {b k a j : Nat} {v : Int} (h : a ≠ b) : gp_I (gp_wI s b k v) a j = gp_I s a j := u2_ne _ _ _ _ _ _ h
theorem gXt {a n k c : Nat} {L : Nat} {s : gH} {m : List Nat} (kt : kT L s a n) (h : XI L 0 s) (h7 : n ≤ 60) (hc : a ≤ c) (h25 : a ≠ 25) : m.contains (gcd c k) = true ∨ 117 ≤ c := by
  have ha := (kt.tt h).1.1.2.2
  have := kt.n60 h h7
  exact Or.inr (by omega)
theorem nn_of {L : Nat} {s : gH} {o : Option Nat} {q : Nat} (p : o = none ∨ ∃ a n, o = some a ∧ kT L s a n ∧ n ≤ 60) (hq : o = some q) : ∃ n, kT L s q n ∧ n ≤ 60 := by
  rcases p with p | ⟨a, n, e, h⟩
  · rw [p] at hq; cases hq
  · rw [e] at hq; cases hq; exact ⟨n, h⟩

theorem xr1_2 {L e : Nat} {s : gH} (h : XI L e s) : 0 ≤ gp_I s 1 2 ∧ gp_I s 1 2 ≤ 100 := (h.2 1 2 (by omega)).1
theorem xw1_2 {L e : Nat} {s : gH} (h : XI L e s) (v : Int) (hv : 0 ≤ v ∧ v ≤ 100) : XI L e (gp_wI s 1 2 v) := ⟨XT.wI h.1 (show ¬ (gp_ss 1).1 = 9 by decide) (fun a ha hc => absurd hc (by omega)), gJx.wI h.2 1 2 v hv⟩
theorem xw1_5 {L e : Nat} {s : gH} (h : XI L e s) (v : Int) : XI L e (gp_wI s 1 5 v) := ⟨XT.wI h.1 (show ¬ (gp_ss 1).1 = 9 by decide) (fun a ha hc => absurd hc (by omega)), gJx.wI h.2 1 5 v trivial⟩
theorem xw1_6 {L e : Nat} {s : gH} (h : XI L e s) (v : Int) : XI L e (gp_wI s 1 6 v) := ⟨XT.wI h.1 (show ¬ (gp_ss 1).1 = 9 by decide) (fun a ha hc => absurd hc (by omega)), gJx.wI h.2 1 6 v trivial⟩
theorem xw1_7 {L e : Nat} {s : gH} (h : XI L e s) (v : Int) : XI L e (gp_wI s 1 7 v) := ⟨XT.wI h.1 (show ¬ (gp_ss 1).1 = 9 by decide) (fun a ha hc => absurd hc (by omega)), gJx.wI h.2 1 7 v trivial⟩
theorem xw2 {L e : Nat} {s : gH} (h : XI L e s) (k : Nat) (v : Int) : XI L e (gp_wI s 2 k v) := ⟨XT.wI h.1 (show ¬ (gp_ss 2).1 = 9 by decide) (fun a ha hc => absurd hc (by omega)), gJx.wI h.2 2 k v trivial⟩
theorem xr3 {L e : Nat} {s : gH} (h : XI L e s) (k : Nat) : (-128) ≤ gp_I s 3 k ∧ gp_I s 3 k ≤ 127 := (h.2 3 k (by omega)).1
theorem xw3 {L e : Nat} {s : gH} (h : XI L e s) (k : Nat) (v : Int) (hv : (-128) ≤ v ∧ v ≤ 127) : XI L e (gp_wI s 3 k v) := ⟨XT.wI h.1 (show ¬ (gp_ss 3).1 = 9 by decide) (fun a ha hc => absurd hc (by omega)), gJx.wI h.2 3 k v hv⟩
theorem xr6_4 {L e : Nat} {s : gH} (h : XI L e s) : 0 ≤ gp_I s 6 4 ∧ gp_I s 6 4 ≤ 60 := (h.2 6 4 (by omega)).1
theorem xw6_4 {L e : Nat} {s : gH} (h : XI L e s) (v : Int) (hv : 0 ≤ v ∧ v ≤ 60) : XI L e (gp_wI s 6 4 v) := ⟨XT.wI h.1 (show ¬ (gp_ss 6).1 = 9 by decide) (fun a ha hc => by have e9 : a = 1 := (by omega); subst e9; exact absurd (show (gp_ss 1).1 = 9 from ha) (by decide)), gJx.wI h.2 6 4 v hv⟩
theorem xr8 {L e : Nat} {s : gH} (h : XI L e s) (k : Nat) : bd (gp_L s 8 k) (k : Int) := (h.2 8 k (by omega)).2
theorem xw8 {L e : Nat} {s : gH} (h : XI L e s) (k : Nat) (v : BitVec 64) (hv : bd v (k : Int)) : XI L e (gp_wL s 8 k v) := ⟨XT.wL h.1 (fun a ha hc => hv), gJx.wL h.2 8 k v hv⟩
theorem xr9 {L e : Nat} {s : gH} (h : XI L e s) (k : Nat) : bd (gp_L s 9 k) (k : Int) := (h.2 9 k (by omega)).2
theorem xw9 {L e : Nat} {s : gH} (h : XI L e s) (k : Nat) (v : BitVec 64) (hv : bd v (k : Int)) : XI L e (gp_wL s 9 k v) := ⟨XT.wL h.1 (fun a ha hc => hv), gJx.wL h.2 9 k v hv⟩
theorem xw10 {L e : Nat} {s : gH} (h : XI L e s) (k : Nat) (v : Int) : XI L e (gp_wI s 10 k v) := ⟨XT.wI h.1 (show ¬ (gp_ss 10).1 = 9 by decide) (fun a ha hc => by have e9 : a = 5 := (by omega); subst e9; exact absurd (show (gp_ss 5).1 = 9 from ha) (by decide)), gJx.wI h.2 10 k v trivial⟩
theorem xw11 {L e : Nat} {s : gH} (h : XI L e s) (k : Nat) (v : Int) : XI L e (gp_wI s 11 k v) := ⟨XT.wI h.1 (show ¬ (gp_ss 11).1 = 9 by decide) (fun a ha hc => by have e9 : a = 6 := (by omega); subst e9; exact absurd (show (gp_ss 6).1 = 9 from ha) (by decide)), gJx.wI h.2 11 k v trivial⟩
theorem xr12 {L e : Nat} {s : gH} (h : XI L e s) (k : Nat) : 0 ≤ gp_I s 12 k ∧ gp_I s 12 k ≤ (k : Int) := (h.2 12 k (by omega)).1
theorem xw12 {L e : Nat} {s : gH} (h : XI L e s) (k : Nat) (v : Int) (hv : 0 ≤ v ∧ v ≤ (k : Int)) : XI L e (gp_wI s 12 k v) := ⟨XT.wI h.1 (show ¬ (gp_ss 12).1 = 9 by decide) (fun a ha hc => ⟨hv.1, Or.inr hv.2⟩), gJx.wI h.2 12 k v hv⟩
theorem xr13 {L e : Nat} {s : gH} (h : XI L e s) (k : Nat) : 0 ≤ gp_I s 13 k ∧ gp_I s 13 k ≤ 60 := (h.2 13 k (by omega)).1
theorem xw13 {L e : Nat} {s : gH} (h : XI L e s) (k : Nat) (v : Int) (hv : 0 ≤ v ∧ v ≤ 60) : XI L e (gp_wI s 13 k v) := ⟨XT.wI h.1 (show ¬ (gp_ss 13).1 = 9 by decide) (fun a ha hc => by have e9 : a = 8 := (by omega); subst e9; exact absurd (show (gp_ss 8).1 = 9 from ha) (by decide)), gJx.wI h.2 13 k v hv⟩
theorem xr14 {L e : Nat} {s : gH} (h : XI L e s) (k : Nat) : 0 ≤ gp_I s 14 k ∧ gp_I s 14 k ≤ 60 := (h.2 14 k (by omega)).1
theorem xw14 {L e : Nat} {s : gH} (h : XI L e s) (k : Nat) (v : Int) (hv : 0 ≤ v ∧ v ≤ 60) : XI L e (gp_wI s 14 k v) := ⟨XT.wI h.1 (show ¬ (gp_ss 14).1 = 9 by decide) (fun a ha hc => by have e9 : a = 9 := (by omega); subst e9; exact absurd (show (gp_ss 9).1 = 9 from ha) (by decide)), gJx.wI h.2 14 k v hv⟩
theorem xr15 {L e : Nat} {s : gH} (h : XI L e s) (k : Nat) : (-1) ≤ gp_I s 15 k ∧ gp_I s 15 k ≤ 60 := (h.2 15 k (by omega)).1
theorem xw15 {L e : Nat} {s : gH} (h : XI L e s) (k : Nat) (v : Int) (hv : (-1) ≤ v ∧ v ≤ 60) : XI L e (gp_wI s 15 k v) := ⟨XT.wI h.1 (show ¬ (gp_ss 15).1 = 9 by decide) (fun a ha hc => by have e9 : a = 10 := (by omega); subst e9; exact absurd (show (gp_ss 10).1 = 9 from ha) (by decide)), gJx.wI h.2 15 k v hv⟩
theorem xw16 {L e : Nat} {s : gH} (h : XI L e s) (k : Nat) (v : Int) : XI L e (gp_wI s 16 k v) := ⟨XT.wI h.1 (show ¬ (gp_ss 16).1 = 9 by decide) (fun a ha hc => by have e9 : a = 11 := (by omega); subst e9; exact absurd (show (gp_ss 11).1 = 9 from ha) (by decide)), gJx.wI h.2 16 k v trivial⟩
theorem xw17 {L e : Nat} {s : gH} (h : XI L e s) (k : Nat) (v : Int) : XI L e (gp_wI s 17 k v) := ⟨XT.wI h.1 (show ¬ (gp_ss 17).1 = 9 by decide) (fun a ha hc => by have e9 : a = 12 := (by omega); subst e9; exact absurd (show (gp_ss 12).1 = 9 from ha) (by decide)), gJx.wI h.2 17 k v trivial⟩
theorem xw18 {L e : Nat} {s : gH} (h : XI L e s) (k : Nat) (v : Int) : XI L e (gp_wI s 18 k v) := ⟨XT.wI h.1 (show ¬ (gp_ss 18).1 = 9 by decide) (fun a ha hc => by have e9 : a = 13 := (by omega); subst e9; exact absurd (show (gp_ss 13).1 = 9 from ha) (by decide)), gJx.wI h.2 18 k v trivial⟩
theorem xw19 {L e : Nat} {s : gH} (h : XI L e s) (k : Nat) (v : Int) : XI L e (gp_wI s 19 k v) := ⟨XT.wI h.1 (show ¬ (gp_ss 19).1 = 9 by decide) (fun a ha hc => by have e9 : a = 14 := (by omega); subst e9; exact absurd (show (gp_ss 14).1 = 9 from ha) (by decide)), gJx.wI h.2 19 k v trivial⟩
theorem xr21 {L e : Nat} {s : gH} (h : XI L e s) (k : Nat) : (-1) ≤ gp_I s 21 k ∧ gp_I s 21 k ≤ 60 := (h.2 21 k (by omega)).1
theorem xw21 {L e : Nat} {s : gH} (h : XI L e s) (k : Nat) (v : Int) (hv : (-1) ≤ v ∧ v ≤ 60) : XI L e (gp_wI s 21 k v) := ⟨XT.wI h.1 (show ¬ (gp_ss 21).1 = 9 by decide) (fun a ha hc => by have e9 : a = 16 := (by omega); subst e9; exact absurd (show (gp_ss 16).1 = 9 from ha) (by decide)), gJx.wI h.2 21 k v hv⟩
theorem xr22 {L e : Nat} {s : gH} (h : XI L e s) (k : Nat) : 0 ≤ gp_I s 22 k ∧ gp_I s 22 k ≤ 59 := (h.2 22 k (by omega)).1
theorem xw22 {L e : Nat} {s : gH} (h : XI L e s) (k : Nat) (v : Int) (hv : 0 ≤ v ∧ v ≤ 59) : XI L e (gp_wI s 22 k v) := ⟨XT.wI h.1 (show ¬ (gp_ss 22).1 = 9 by decide) (fun a ha hc => by have e9 : a = 17 := (by omega); subst e9; exact absurd (show (gp_ss 17).1 = 9 from ha) (by decide)), gJx.wI h.2 22 k v hv⟩
theorem xw23 {L e : Nat} {s : gH} (h : XI L e s) (k : Nat) (v : Int) : XI L e (gp_wI s 23 k v) := ⟨XT.wI h.1 (show ¬ (gp_ss 23).1 = 9 by decide) (fun a ha hc => by have e9 : a = 18 := (by omega); subst e9; exact absurd (show (gp_ss 18).1 = 9 from ha) (by decide)), gJx.wI h.2 23 k v trivial⟩
theorem xw24 {L e : Nat} {s : gH} (h : XI L e s) (k : Nat) (v : Int) : XI L e (gp_wI s 24 k v) := ⟨XT.wI h.1 (show ¬ (gp_ss 24).1 = 9 by decide) (fun a ha hc => by have e9 : a = 19 := (by omega); subst e9; exact absurd (show (gp_ss 19).1 = 9 from ha) (by decide)), gJx.wI h.2 24 k v trivial⟩
theorem xw28 {L e : Nat} {s : gH} (h : XI L e s) (k : Nat) (v : Int) : XI L e (gp_wI s 28 k v) := ⟨XT.wI h.1 (show ¬ (gp_ss 28).1 = 9 by decide) (fun a ha hc => by have e9 : a = 23 := (by omega); subst e9; exact absurd (show (gp_ss 23).1 = 9 from ha) (by decide)), gJx.wI h.2 28 k v trivial⟩
theorem xw29 {L e : Nat} {s : gH} (h : XI L e s) (k : Nat) (v : Int) : XI L e (gp_wI s 29 k v) := ⟨XT.wI h.1 (show ¬ (gp_ss 29).1 = 9 by decide) (fun a ha hc => by have e9 : a = 24 := (by omega); subst e9; exact absurd (show (gp_ss 24).1 = 9 from ha) (by decide)), gJx.wI h.2 29 k v trivial⟩
theorem xw32 {L e : Nat} {s : gH} (h : XI L e s) (k : Nat) (v : Int) : XI L e (gp_wI s 32 k v) := ⟨XT.wI h.1 (show ¬ (gp_ss 32).1 = 9 by decide) (fun a ha hc => by have e9 : a = 27 := (by omega); subst e9; exact absurd (show (gp_ss 27).1 = 9 from ha) (by decide)), gJx.wI h.2 32 k v trivial⟩
theorem xw33 {L e : Nat} {s : gH} (h : XI L e s) (k : Nat) (v : Int) : XI L e (gp_wI s 33 k v) := ⟨XT.wI h.1 (show ¬ (gp_ss 33).1 = 9 by decide) (fun a ha hc => by have e9 : a = 28 := (by omega); subst e9; exact absurd (show (gp_ss 28).1 = 9 from ha) (by decide)), gJx.wI h.2 33 k v trivial⟩
theorem xw34 {L e : Nat} {s : gH} (h : XI L e s) (k : Nat) (v : Int) : XI L e (gp_wI s 34 k v) := ⟨XT.wI h.1 (show ¬ (gp_ss 34).1 = 9 by decide) (fun a ha hc => by have e9 : a = 29 := (by omega); subst e9; exact absurd (show (gp_ss 29).1 = 9 from ha) (by decide)), gJx.wI h.2 34 k v trivial⟩
theorem xw35 {L e : Nat} {s : gH} (h : XI L e s) (k : Nat) (v : Int) : XI L e (gp_wI s 35 k v) := ⟨XT.wI h.1 (show ¬ (gp_ss 35).1 = 9 by decide) (fun a ha hc => by have e9 : a = 30 := (by omega); subst e9; exact absurd (show (gp_ss 30).1 = 9 from ha) (by decide)), gJx.wI h.2 35 k v trivial⟩
theorem xw36 {L e : Nat} {s : gH} (h : XI L e s) (k : Nat) (v : Int) : XI L e (gp_wI s 36 k v) := ⟨XT.wI h.1 (show ¬ (gp_ss 36).1 = 9 by decide) (fun a ha hc => by have e9 : a = 31 := (by omega); subst e9; exact absurd (show (gp_ss 31).1 = 9 from ha) (by decide)), gJx.wI h.2 36 k v trivial⟩
theorem xw37 {L e : Nat} {s : gH} (h : XI L e s) (k : Nat) (v : Int) : XI L e (gp_wI s 37 k v) := ⟨XT.wI h.1 (show ¬ (gp_ss 37).1 = 9 by decide) (fun a ha hc => by have e9 : a = 32 := (by omega); subst e9; exact absurd (show (gp_ss 32).1 = 9 from ha) (by decide)), gJx.wI h.2 37 k v trivial⟩
theorem xw39 {L e : Nat} {s : gH} (h : XI L e s) (k : Nat) (v : BitVec 64) : XI L e (gp_wL s 39 k v) := ⟨XT.wL h.1 (fun a ha hc => by exfalso; rcases hc with hc | hc; exact x9a ha (show a = 38 by omega) (by decide); exact x9a ha (show a = 37 by omega) (by decide)), gJx.wL h.2 39 k v trivial⟩
theorem xw40 {L e : Nat} {s : gH} (h : XI L e s) (k : Nat) (v : BitVec 64) : XI L e (gp_wL s 40 k v) := ⟨XT.wL h.1 (fun a ha hc => by exfalso; rcases hc with hc | hc; exact x9a ha (show a = 39 by omega) (by decide); exact x9a ha (show a = 38 by omega) (by decide)), gJx.wL h.2 40 k v trivial⟩
theorem xw41_4 {L e : Nat} {s : gH} (h : XI L e s) (v : BitVec 64) : XI L e (gp_wL s 41 4 v) := ⟨XT.wL h.1 (fun a ha hc => by exfalso; rcases hc with hc | hc; exact x9a ha (show a = 40 by omega) (by decide); exact x9a ha (show a = 39 by omega) (by decide)), gJx.wL h.2 41 4 v trivial⟩
theorem xw41_5 {L e : Nat} {s : gH} (h : XI L e s) (v : BitVec 64) : XI L e (gp_wL s 41 5 v) := ⟨XT.wL h.1 (fun a ha hc => by exfalso; rcases hc with hc | hc; exact x9a ha (show a = 40 by omega) (by decide); exact x9a ha (show a = 39 by omega) (by decide)), gJx.wL h.2 41 5 v trivial⟩
theorem xw43 {L e : Nat} {s : gH} (h : XI L e s) (k : Nat) (v : BitVec 64) : XI L e (gp_wL s 43 k v) := ⟨XT.wL h.1 (fun a ha hc => by exfalso; rcases hc with hc | hc; exact x9a ha (show a = 42 by omega) (by decide); exact x9a ha (show a = 41 by omega) (by decide)), gJx.wL h.2 43 k v trivial⟩
theorem xw44 {L e : Nat} {s : gH} (h : XI L e s) (k : Nat) (v : BitVec 64) : XI L e (gp_wL s 44 k v) := ⟨XT.wL h.1 (fun a ha hc => by exfalso; rcases hc with hc | hc; exact x9a ha (show a = 43 by omega) (by decide); exact x9a ha (show a = 42 by omega) (by decide)), gJx.wL h.2 44 k v trivial⟩
theorem xr45 {L e : Nat} {s : gH} (h : XI L e s) (k : Nat) : (-1) ≤ gp_I s 45 k ∧ gp_I s 45 k ≤ 60 := (h.2 45 k (by omega)).1
theorem xw45 {L e : Nat} {s : gH} (h : XI L e s) (k : Nat) (v : Int) (hv : (-1) ≤ v ∧ v ≤ 60) : XI L e (gp_wI s 45 k v) := ⟨XT.wI h.1 (show ¬ (gp_ss 45).1 = 9 by decide) (fun a ha hc => by have e9 : a = 40 := (by omega); subst e9; exact absurd (show (gp_ss 40).1 = 9 from ha) (by decide)), gJx.wI h.2 45 k v hv⟩
theorem xr46_3 {L e : Nat} {s : gH} (h : XI L e s) : 0 ≤ gp_I s 46 3 ∧ gp_I s 46 3 ≤ 100 := (h.2 46 3 (by omega)).1
theorem xw46_3 {L e : Nat} {s : gH} (h : XI L e s) (v : Int) (hv : 0 ≤ v ∧ v ≤ 100) : XI L e (gp_wI s 46 3 v) := ⟨XT.wI h.1 (show ¬ (gp_ss 46).1 = 9 by decide) (fun a ha hc => by have e9 : a = 41 := (by omega); subst e9; exact absurd (show (gp_ss 41).1 = 9 from ha) (by decide)), gJx.wI h.2 46 3 v hv⟩
theorem xr46_5 {L e : Nat} {s : gH} (h : XI L e s) : 0 ≤ gp_I s 46 5 ∧ gp_I s 46 5 ≤ 100 := (h.2 46 5 (by omega)).1
theorem xw46_5 {L e : Nat} {s : gH} (h : XI L e s) (v : Int) (hv : 0 ≤ v ∧ v ≤ 100) : XI L e (gp_wI s 46 5 v) := ⟨XT.wI h.1 (show ¬ (gp_ss 46).1 = 9 by decide) (fun a ha hc => by have e9 : a = 41 := (by omega); subst e9; exact absurd (show (gp_ss 41).1 = 9 from ha) (by decide)), gJx.wI h.2 46 5 v hv⟩
theorem xr46_6 {L e : Nat} {s : gH} (h : XI L e s) : 0 ≤ gp_I s 46 6 ∧ gp_I s 46 6 ≤ 100 := (h.2 46 6 (by omega)).1
theorem xw46_6 {L e : Nat} {s : gH} (h : XI L e s) (v : Int) (hv : 0 ≤ v ∧ v ≤ 100) : XI L e (gp_wI s 46 6 v) := ⟨XT.wI h.1 (show ¬ (gp_ss 46).1 = 9 by decide) (fun a ha hc => by have e9 : a = 41 := (by omega); subst e9; exact absurd (show (gp_ss 41).1 = 9 from ha) (by decide)), gJx.wI h.2 46 6 v hv⟩
theorem xr46_7 {L e : Nat} {s : gH} (h : XI L e s) : (-1) ≤ gp_I s 46 7 ∧ gp_I s 46 7 ≤ 100 := (h.2 46 7 (by omega)).1
theorem xw46_7 {L e : Nat} {s : gH} (h : XI L e s) (v : Int) (hv : (-1) ≤ v ∧ v ≤ 100) : XI L e (gp_wI s 46 7 v) := ⟨XT.wI h.1 (show ¬ (gp_ss 46).1 = 9 by decide) (fun a ha hc => by have e9 : a = 41 := (by omega); subst e9; exact absurd (show (gp_ss 41).1 = 9 from ha) (by decide)), gJx.wI h.2 46 7 v hv⟩
theorem xr46_8 {L e : Nat} {s : gH} (h : XI L e s) : 0 ≤ gp_I s 46 8 ∧ gp_I s 46 8 ≤ 6 := (h.2 46 8 (by omega)).1
theorem xw46_8 {L e : Nat} {s : gH} (h : XI L e s) (v : Int) (hv : 0 ≤ v ∧ v ≤ 6) : XI L e (gp_wI s 46 8 v) := ⟨XT.wI h.1 (show ¬ (gp_ss 46).1 = 9 by decide) (fun a ha hc => by have e9 : a = 41 := (by omega); subst e9; exact absurd (show (gp_ss 41).1 = 9 from ha) (by decide)), gJx.wI h.2 46 8 v hv⟩
theorem xr48_2 {L e : Nat} {s : gH} (h : XI L e s) : 0 ≤ gp_I s 48 2 ∧ gp_I s 48 2 ≤ 8 := (h.2 48 2 (by omega)).1
theorem xw48_2 {L e : Nat} {s : gH} (h : XI L e s) (v : Int) (hv : 0 ≤ v ∧ v ≤ 8) : XI L e (gp_wI s 48 2 v) := ⟨XT.wI h.1 (show ¬ (gp_ss 48).1 = 9 by decide) (fun a ha hc => by have e9 : a = 43 := (by omega); subst e9; exact absurd (show (gp_ss 43).1 = 9 from ha) (by decide)), gJx.wI h.2 48 2 v hv⟩
theorem xr49 {L e : Nat} {s : gH} (h : XI L e s) (k : Nat) : (-2) ≤ gp_I s 49 k ∧ gp_I s 49 k ≤ 9 := (h.2 49 k (by omega)).1
theorem xw49 {L e : Nat} {s : gH} (h : XI L e s) (k : Nat) (v : Int) (hv : (-2) ≤ v ∧ v ≤ 9) : XI L e (gp_wI s 49 k v) := ⟨XT.wI h.1 (show ¬ (gp_ss 49).1 = 9 by decide) (fun a ha hc => by have e9 : a = 44 := (by omega); subst e9; exact absurd (show (gp_ss 44).1 = 9 from ha) (by decide)), gJx.wI h.2 49 k v hv⟩
theorem xr50 {L e : Nat} {s : gH} (h : XI L e s) (k : Nat) : (-1) ≤ gp_I s 50 k ∧ gp_I s 50 k ≤ 59 := (h.2 50 k (by omega)).1
theorem xw50 {L e : Nat} {s : gH} (h : XI L e s) (k : Nat) (v : Int) (hv : (-1) ≤ v ∧ v ≤ 59) : XI L e (gp_wI s 50 k v) := ⟨XT.wI h.1 (show ¬ (gp_ss 50).1 = 9 by decide) (fun a ha hc => by have e9 : a = 45 := (by omega); subst e9; exact absurd (show (gp_ss 45).1 = 9 from ha) (by decide)), gJx.wI h.2 50 k v hv⟩
theorem xw51_2 {L e : Nat} {s : gH} (h : XI L e s) (v : Int) : XI L e (gp_wI s 51 2 v) := ⟨XT.wI h.1 (show ¬ (gp_ss 51).1 = 9 by decide) (fun a ha hc => by have e9 : a = 46 := (by omega); subst e9; exact absurd (show (gp_ss 46).1 = 9 from ha) (by decide)), gJx.wI h.2 51 2 v trivial⟩
theorem xr51_4 {L e : Nat} {s : gH} (h : XI L e s) : 0 ≤ gp_I s 51 4 ∧ gp_I s 51 4 ≤ 3 := (h.2 51 4 (by omega)).1
theorem xw51_4 {L e : Nat} {s : gH} (h : XI L e s) (v : Int) (hv : 0 ≤ v ∧ v ≤ 3) : XI L e (gp_wI s 51 4 v) := ⟨XT.wI h.1 (show ¬ (gp_ss 51).1 = 9 by decide) (fun a ha hc => by have e9 : a = 46 := (by omega); subst e9; exact absurd (show (gp_ss 46).1 = 9 from ha) (by decide)), gJx.wI h.2 51 4 v hv⟩
theorem xr51_8 {L e : Nat} {s : gH} (h : XI L e s) : 0 ≤ gp_I s 51 8 ∧ gp_I s 51 8 ≤ 1 := (h.2 51 8 (by omega)).1
theorem xw51_8 {L e : Nat} {s : gH} (h : XI L e s) (v : Int) (hv : 0 ≤ v ∧ v ≤ 1) : XI L e (gp_wI s 51 8 v) := ⟨XT.wI h.1 (show ¬ (gp_ss 51).1 = 9 by decide) (fun a ha hc => by have e9 : a = 46 := (by omega); subst e9; exact absurd (show (gp_ss 46).1 = 9 from ha) (by decide)), gJx.wI h.2 51 8 v hv⟩
theorem xr53 {L e : Nat} {s : gH} (h : XI L e s) (k : Nat) : 0 ≤ gp_I s 53 k ∧ gp_I s 53 k ≤ 59 := (h.2 53 k (by omega)).1
theorem xw53 {L e : Nat} {s : gH} (h : XI L e s) (k : Nat) (v : Int) (hv : 0 ≤ v ∧ v ≤ 59) : XI L e (gp_wI s 53 k v) := ⟨XT.wI h.1 (show ¬ (gp_ss 53).1 = 9 by decide) (fun a ha hc => by have e9 : a = 48 := (by omega); subst e9; exact absurd (show (gp_ss 48).1 = 9 from ha) (by decide)), gJx.wI h.2 53 k v hv⟩
theorem xr54 {L e : Nat} {s : gH} (h : XI L e s) (k : Nat) : 0 ≤ gp_I s 54 k ∧ gp_I s 54 k ≤ 7 := (h.2 54 k (by omega)).1
theorem xw54 {L e : Nat} {s : gH} (h : XI L e s) (k : Nat) (v : Int) (hv : 0 ≤ v ∧ v ≤ 7) : XI L e (gp_wI s 54 k v) := ⟨XT.wI h.1 (show ¬ (gp_ss 54).1 = 9 by decide) (fun a ha hc => by have e9 : a = 49 := (by omega); subst e9; exact absurd (show (gp_ss 49).1 = 9 from ha) (by decide)), gJx.wI h.2 54 k v hv⟩
theorem xw55 {L e : Nat} {s : gH} (h : XI L e s) (k : Nat) (v : Int) : XI L e (gp_wI s 55 k v) := ⟨XT.wI h.1 (show ¬ (gp_ss 55).1 = 9 by decide) (fun a ha hc => by have e9 : a = 50 := (by omega); subst e9; exact absurd (show (gp_ss 50).1 = 9 from ha) (by decide)), gJx.wI h.2 55 k v trivial⟩
theorem xw56 {L e : Nat} {s : gH} (h : XI L e s) (k : Nat) (v : Int) : XI L e (gp_wI s 56 k v) := ⟨XT.wI h.1 (show ¬ (gp_ss 56).1 = 9 by decide) (fun a ha hc => by have e9 : a = 51 := (by omega); subst e9; exact absurd (show (gp_ss 51).1 = 9 from ha) (by decide)), gJx.wI h.2 56 k v trivial⟩
theorem xr57_1 {L e : Nat} {s : gH} (h : XI L e s) : 0 ≤ gp_I s 57 1 ∧ gp_I s 57 1 ≤ 1 := (h.2 57 1 (by omega)).1
theorem xw57_1 {L e : Nat} {s : gH} (h : XI L e s) (v : Int) (hv : 0 ≤ v ∧ v ≤ 1) : XI L e (gp_wI s 57 1 v) := ⟨XT.wI h.1 (show ¬ (gp_ss 57).1 = 9 by decide) (fun a ha hc => by have e9 : a = 52 := (by omega); subst e9; exact absurd (show (gp_ss 52).1 = 9 from ha) (by decide)), gJx.wI h.2 57 1 v hv⟩
theorem xr57_2 {L e : Nat} {s : gH} (h : XI L e s) : 0 ≤ gp_I s 57 2 ∧ gp_I s 57 2 ≤ 1 := (h.2 57 2 (by omega)).1
theorem xw57_2 {L e : Nat} {s : gH} (h : XI L e s) (v : Int) (hv : 0 ≤ v ∧ v ≤ 1) : XI L e (gp_wI s 57 2 v) := ⟨XT.wI h.1 (show ¬ (gp_ss 57).1 = 9 by decide) (fun a ha hc => by have e9 : a = 52 := (by omega); subst e9; exact absurd (show (gp_ss 52).1 = 9 from ha) (by decide)), gJx.wI h.2 57 2 v hv⟩
theorem xr57_3 {L e : Nat} {s : gH} (h : XI L e s) : 0 ≤ gp_I s 57 3 ∧ gp_I s 57 3 ≤ 180 := (h.2 57 3 (by omega)).1
theorem xw57_3 {L e : Nat} {s : gH} (h : XI L e s) (v : Int) (hv : 0 ≤ v ∧ v ≤ 180) : XI L e (gp_wI s 57 3 v) := ⟨XT.wI h.1 (show ¬ (gp_ss 57).1 = 9 by decide) (fun a ha hc => by have e9 : a = 52 := (by omega); subst e9; exact absurd (show (gp_ss 52).1 = 9 from ha) (by decide)), gJx.wI h.2 57 3 v hv⟩
theorem xr58 {L e : Nat} {s : gH} (h : XI L e s) (k : Nat) : 0 ≤ gp_I s 58 k ∧ gp_I s 58 k ≤ 263 := (h.2 58 k (by omega)).1
theorem xw58 {L e : Nat} {s : gH} (h : XI L e s) (k : Nat) (v : Int) (hv : 0 ≤ v ∧ v ≤ 263) : XI L e (gp_wI s 58 k v) := ⟨XT.wI h.1 (show ¬ (gp_ss 58).1 = 9 by decide) (fun a ha hc => by have e9 : a = 53 := (by omega); subst e9; exact absurd (show (gp_ss 53).1 = 9 from ha) (by decide)), gJx.wI h.2 58 k v hv⟩
theorem xr59 {L e : Nat} {s : gH} (h : XI L e s) (k : Nat) : 0 ≤ gp_I s 59 k ∧ gp_I s 59 k ≤ 59 := (h.2 59 k (by omega)).1
theorem xw59 {L e : Nat} {s : gH} (h : XI L e s) (k : Nat) (v : Int) (hv : 0 ≤ v ∧ v ≤ 59) : XI L e (gp_wI s 59 k v) := ⟨XT.wI h.1 (show ¬ (gp_ss 59).1 = 9 by decide) (fun a ha hc => by have e9 : a = 54 := (by omega); subst e9; exact absurd (show (gp_ss 54).1 = 9 from ha) (by decide)), gJx.wI h.2 59 k v hv⟩
theorem xw60_2 {L e : Nat} {s : gH} (h : XI L e s) (v : Int) : XI L e (gp_wI s 60 2 v) := ⟨XT.wI h.1 (show ¬ (gp_ss 60).1 = 9 by decide) (fun a ha hc => by have e9 : a = 55 := (by omega); subst e9; exact absurd (show (gp_ss 55).1 = 9 from ha) (by decide)), gJx.wI h.2 60 2 v trivial⟩
theorem xr60_4 {L e : Nat} {s : gH} (h : XI L e s) : 0 ≤ gp_I s 60 4 ∧ gp_I s 60 4 ≤ 3 := (h.2 60 4 (by omega)).1
theorem xw60_4 {L e : Nat} {s : gH} (h : XI L e s) (v : Int) (hv : 0 ≤ v ∧ v ≤ 3) : XI L e (gp_wI s 60 4 v) := ⟨XT.wI h.1 (show ¬ (gp_ss 60).1 = 9 by decide) (fun a ha hc => by have e9 : a = 55 := (by omega); subst e9; exact absurd (show (gp_ss 55).1 = 9 from ha) (by decide)), gJx.wI h.2 60 4 v hv⟩
theorem xr60_8 {L e : Nat} {s : gH} (h : XI L e s) : 0 ≤ gp_I s 60 8 ∧ gp_I s 60 8 ≤ 1 := (h.2 60 8 (by omega)).1
theorem xw60_8 {L e : Nat} {s : gH} (h : XI L e s) (v : Int) (hv : 0 ≤ v ∧ v ≤ 1) : XI L e (gp_wI s 60 8 v) := ⟨XT.wI h.1 (show ¬ (gp_ss 60).1 = 9 by decide) (fun a ha hc => by have e9 : a = 55 := (by omega); subst e9; exact absurd (show (gp_ss 55).1 = 9 from ha) (by decide)), gJx.wI h.2 60 8 v hv⟩
theorem xr62 {L e : Nat} {s : gH} (h : XI L e s) (k : Nat) : 0 ≤ gp_I s 62 k ∧ gp_I s 62 k ≤ 59 := (h.2 62 k (by omega)).1
theorem xw62 {L e : Nat} {s : gH} (h : XI L e s) (k : Nat) (v : Int) (hv : 0 ≤ v ∧ v ≤ 59) : XI L e (gp_wI s 62 k v) := ⟨XT.wI h.1 (show ¬ (gp_ss 62).1 = 9 by decide) (fun a ha hc => by have e9 : a = 57 := (by omega); subst e9; exact absurd (show (gp_ss 57).1 = 9 from ha) (by decide)), gJx.wI h.2 62 k v hv⟩
theorem xr63 {L e : Nat} {s : gH} (h : XI L e s) (k : Nat) : 0 ≤ gp_I s 63 k ∧ gp_I s 63 k ≤ 7 := (h.2 63 k (by omega)).1
theorem xw63 {L e : Nat} {s : gH} (h : XI L e s) (k : Nat) (v : Int) (hv : 0 ≤ v ∧ v ≤ 7) : XI L e (gp_wI s 63 k v) := ⟨XT.wI h.1 (show ¬ (gp_ss 63).1 = 9 by decide) (fun a ha hc => by have e9 : a = 58 := (by omega); subst e9; exact absurd (show (gp_ss 58).1 = 9 from ha) (by decide)), gJx.wI h.2 63 k v hv⟩
theorem xw64 {L e : Nat} {s : gH} (h : XI L e s) (k : Nat) (v : Int) : XI L e (gp_wI s 64 k v) := ⟨XT.wI h.1 (show ¬ (gp_ss 64).1 = 9 by decide) (fun a ha hc => by have e9 : a = 59 := (by omega); subst e9; exact absurd (show (gp_ss 59).1 = 9 from ha) (by decide)), gJx.wI h.2 64 k v trivial⟩
theorem xw65 {L e : Nat} {s : gH} (h : XI L e s) (k : Nat) (v : Int) : XI L e (gp_wI s 65 k v) := ⟨XT.wI h.1 (show ¬ (gp_ss 65).1 = 9 by decide) (fun a ha hc => by have e9 : a = 60 := (by omega); subst e9; exact absurd (show (gp_ss 60).1 = 9 from ha) (by decide)), gJx.wI h.2 65 k v trivial⟩
theorem xw68 {L e : Nat} {s : gH} (h : XI L e s) (k : Nat) (v : Int) : XI L e (gp_wI s 68 k v) := ⟨XT.wI h.1 (show ¬ (gp_ss 68).1 = 9 by decide) (fun a ha hc => by have e9 : a = 63 := (by omega); subst e9; exact absurd (show (gp_ss 63).1 = 9 from ha) (by decide)), gJx.wI h.2 68 k v trivial⟩
theorem xw69 {L e : Nat} {s : gH} (h : XI L e s) (k : Nat) (v : Int) : XI L e (gp_wI s 69 k v) := ⟨XT.wI h.1 (show ¬ (gp_ss 69).1 = 9 by decide) (fun a ha hc => by have e9 : a = 64 := (by omega); subst e9; exact absurd (show (gp_ss 64).1 = 9 from ha) (by decide)), gJx.wI h.2 69 k v trivial⟩
theorem xw70 {L e : Nat} {s : gH} (h : XI L e s) (k : Nat) (v : Int) : XI L e (gp_wI s 70 k v) := ⟨XT.wI h.1 (show ¬ (gp_ss 70).1 = 9 by decide) (fun a ha hc => by have e9 : a = 65 := (by omega); subst e9; exact absurd (show (gp_ss 65).1 = 9 from ha) (by decide)), gJx.wI h.2 70 k v trivial⟩
theorem xw71 {L e : Nat} {s : gH} (h : XI L e s) (k : Nat) (v : Int) : XI L e (gp_wI s 71 k v) := ⟨XT.wI h.1 (show ¬ (gp_ss 71).1 = 9 by decide) (fun a ha hc => by have e9 : a = 66 := (by omega); subst e9; exact absurd (show (gp_ss 66).1 = 9 from ha) (by decide)), gJx.wI h.2 71 k v trivial⟩
theorem xw72 {L e : Nat} {s : gH} (h : XI L e s) (k : Nat) (v : Int) : XI L e (gp_wI s 72 k v) := ⟨XT.wI h.1 (show ¬ (gp_ss 72).1 = 9 by decide) (fun a ha hc => by have e9 : a = 67 := (by omega); subst e9; exact absurd (show (gp_ss 67).1 = 9 from ha) (by decide)), gJx.wI h.2 72 k v trivial⟩
theorem xr73 {L e : Nat} {s : gH} (h : XI L e s) (k : Nat) : 0 ≤ gp_I s 73 k ∧ gp_I s 73 k ≤ 20 := (h.2 73 k (by omega)).1
theorem xw73 {L e : Nat} {s : gH} (h : XI L e s) (k : Nat) (v : Int) (hv : 0 ≤ v ∧ v ≤ 20) : XI L e (gp_wI s 73 k v) := ⟨XT.wI h.1 (show ¬ (gp_ss 73).1 = 9 by decide) (fun a ha hc => by have e9 : a = 68 := (by omega); subst e9; exact absurd (show (gp_ss 68).1 = 9 from ha) (by decide)), gJx.wI h.2 73 k v hv⟩
