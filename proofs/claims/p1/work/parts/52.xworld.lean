/-! the class's side: what a heap keeps of the reference's and of the script's rows, and properties of the class's fixed rows -/
def xI (P : Nat → Nat → Int → Prop) (Q : Nat → Nat → BitVec 64 → Prop) (z s : gH) : Prop := 117 ≤ s.1 ∧ (∀ a k, (a = 0 ∨ (74 ≤ a ∧ a < 117)) → gp_I s a k = gp_I z a k ∧ gp_L s a k = gp_L z a k) ∧ (∀ a k, 1 ≤ a → a < 74 → P a k (gp_I s a k) ∧ Q a k (gp_L s a k))
theorem xI.wI {P : Nat → Nat → Int → Prop} {Q : Nat → Nat → BitVec 64 → Prop} {z s : gH} (h : xI P Q z s) (a k : Nat) (v : Int) (ha : ¬ (a = 0 ∨ (74 ≤ a ∧ a < 117))) (hv : a < 74 → P a k v) : xI P Q z (gp_wI s a k v) := by
  refine ⟨h.1, fun a' k' hn => ⟨?_, (h.2.1 a' k' hn).2⟩, fun a' k' h1 h2 => ⟨?_, (h.2.2 a' k' h1 h2).2⟩⟩
  · show gp_u2 _ _ _ _ _ _ = _
    rw [gm_u2, if_neg (by omega)]
    exact (h.2.1 a' k' hn).1
  · show P a' k' (gp_u2 _ _ _ _ _ _)
    rw [gm_u2]
    split
    · rename_i q; rw [q.1, q.2]; exact hv (by omega)
    · exact (h.2.2 a' k' h1 h2).1
theorem xI.wL {P : Nat → Nat → Int → Prop} {Q : Nat → Nat → BitVec 64 → Prop} {z s : gH} (h : xI P Q z s) (a k : Nat) (v : BitVec 64) (ha : ¬ (a = 0 ∨ (74 ≤ a ∧ a < 117))) (hv : a < 74 → Q a k v) : xI P Q z (gp_wL s a k v) := by
  refine ⟨h.1, fun a' k' hn => ⟨(h.2.1 a' k' hn).1, ?_⟩, fun a' k' h1 h2 => ⟨(h.2.2 a' k' h1 h2).1, ?_⟩⟩
  · show gp_u2 _ _ _ _ _ _ = _
    rw [gm_u2, if_neg (by omega)]
    exact (h.2.1 a' k' hn).2
  · show Q a' k' (gp_u2 _ _ _ _ _ _)
    rw [gm_u2]
    split
    · rename_i q; rw [q.1, q.2]; exact hv (by omega)
    · exact (h.2.2 a' k' h1 h2).2
theorem xI.wR {P : Nat → Nat → Int → Prop} {Q : Nat → Nat → BitVec 64 → Prop} {z s : gH} (h : xI P Q z s) (a k : Nat) (v : Option Nat) : xI P Q z (gp_wR s a k v) := h
theorem xI.wId {P : Nat → Nat → Int → Prop} {Q : Nat → Nat → BitVec 64 → Prop} {z s : gH} (h : xI P Q z s) (a k : Nat) (v : Int) (ha : 117 ≤ a) : xI P Q z (gp_wI s a k v) := xI.wI h a k v (by omega) (fun q => absurd q (by omega))
theorem xI.wLd {P : Nat → Nat → Int → Prop} {Q : Nat → Nat → BitVec 64 → Prop} {z s : gH} (h : xI P Q z s) (a k : Nat) (v : BitVec 64) (ha : 117 ≤ a) : xI P Q z (gp_wL s a k v) := xI.wL h a k v (by omega) (fun q => absurd q (by omega))
theorem gz_ur {α : Type} (f : Nat → Nat → α) (b : Nat) (g : Nat → α) (a i : Nat) : gp_ur f b g a i = if a = b then g i else f a i := by
  unfold gp_ur
  by_cases h : a = b
  · subst h; simp
  · have : Nat.beq a b = false := by
      cases hb : Nat.beq a b
      · rfl
      · exact absurd (Nat.eq_of_beq_eq_true hb) h
    simp [this, h]
theorem xI.new {P : Nat → Nat → Int → Prop} {Q : Nat → Nat → BitVec 64 → Prop} {z s : gH} {k n : Nat} (h : xI P Q z s) (hz : 117 ≤ gp_sz s) : xI P Q z (gp_new s k n) := by
  have e1 : ∀ a i, a < 117 → gp_I (gp_new s k n) a i = gp_I s a i := fun a i ha => by
    show gp_ur s.2.2.2.1 s.1 (fun _ => 0) a i = _
    rw [gz_ur, if_neg (by have : s.1 = gp_sz s := rfl; omega)]
  have e2 : ∀ a i, a < 117 → gp_L (gp_new s k n) a i = gp_L s a i := fun a i ha => by
    show gp_ur s.2.2.2.2.1 s.1 (fun _ => 0#64) a i = _
    rw [gz_ur, if_neg (by have : s.1 = gp_sz s := rfl; omega)]
  refine ⟨by show 117 ≤ s.1 + 1; have : s.1 = gp_sz s := rfl; omega, fun a i hn => ?_, fun a i h1 h2 => ?_⟩
  · rw [e1 a i (by omega), e2 a i (by omega)]; exact h.2.1 a i hn
  · rw [e1 a i (by omega), e2 a i (by omega)]; exact h.2.2 a i h1 h2
theorem gz_nI {s : gH} {c a i k n : Nat} (q : gp_sz s = c) (h : a ≠ c) : gp_I (gp_new s k n) a i = gp_I s a i := by
  show gp_ur s.2.2.2.1 s.1 (fun _ => 0) a i = _
  rw [gz_ur, if_neg (by have : s.1 = gp_sz s := rfl; omega)]
theorem gz_nL {s : gH} {c a i k n : Nat} (q : gp_sz s = c) (h : a ≠ c) : gp_L (gp_new s k n) a i = gp_L s a i := by
  show gp_ur s.2.2.2.2.1 s.1 (fun _ => 0#64) a i = _
  rw [gz_ur, if_neg (by have : s.1 = gp_sz s := rfl; omega)]
theorem gz_nR {s : gH} {c a i k n : Nat} (q : gp_sz s = c) (h : a ≠ c) : gp_R (gp_new s k n) a i = gp_R s a i := by
  show gp_ur s.2.2.2.2.2 s.1 (fun _ => none) a i = _
  rw [gz_ur, if_neg (by have : s.1 = gp_sz s := rfl; omega)]
theorem gz_u1 {α : Type} (f : Nat → α) (b : Nat) (v : α) (a : Nat) : gp_u1 f b v a = if a = b then v else f a := by
  unfold gp_u1
  by_cases h : a = b
  · subst h; simp
  · have : Nat.beq a b = false := by
      cases hb : Nat.beq a b
      · rfl
      · exact absurd (Nat.eq_of_beq_eq_true hb) h
    simp [this, h]
theorem gz_nS {s : gH} {c a k n : Nat} (q : gp_sz s = c) (h : a ≠ c) : gp_sh (gp_new s k n) a = gp_sh s a := by
  show gp_u1 s.2.2.1 s.1 (k, n) a = _
  rw [gz_u1, if_neg (by have : s.1 = gp_sz s := rfl; omega)]
theorem gz_nSs {s : gH} {c k n : Nat} (q : gp_sz s = c) : gp_sh (gp_new s k n) c = (k, n) := by
  show gp_u1 s.2.2.1 s.1 (k, n) c = _
  rw [gz_u1, if_pos q.symm]
theorem gz_nIs {s : gH} {c i k n : Nat} (q : gp_sz s = c) : gp_I (gp_new s k n) c i = 0 := by
  show gp_ur s.2.2.2.1 s.1 (fun _ => 0) c i = _
  rw [gz_ur, if_pos q.symm]
theorem gz_nLs {s : gH} {c i k n : Nat} (q : gp_sz s = c) : gp_L (gp_new s k n) c i = 0#64 := by
  show gp_ur s.2.2.2.2.1 s.1 (fun _ => 0#64) c i = _
  rw [gz_ur, if_pos q.symm]
theorem gz_nRs {s : gH} {c i k n : Nat} (q : gp_sz s = c) : gp_R (gp_new s k n) c i = none := by
  show gp_ur s.2.2.2.2.2 s.1 (fun _ => none) c i = _
  rw [gz_ur, if_pos q.symm]
theorem gz_keepR {s : gH} {a i j c : Nat} (q : gp_R s a j = some c) : gp_R (gp_wR s a i (some c)) a j = some c := by
  show gp_u2 _ _ _ _ _ _ = _
  rw [gm_u2]; split
  · rfl
  · exact q
theorem gz_starR {s : gH} {a i c n : Nat} (q : ∀ k, k < n → gp_R s a k = some c) : ∀ k, k < n → gp_R (gp_wR s a i (some c)) a k = some c := fun k hk => gz_keepR (q k hk)
theorem gz_and1 (x : Int) : 0 ≤ gp_and x 1 ∧ gp_and x 1 ≤ 1 := by
  have h : (BitVec.ofInt 32 x &&& BitVec.ofInt 32 1) = 0#32 ∨ (BitVec.ofInt 32 x &&& BitVec.ofInt 32 1) = 1#32 := by
    have e : BitVec.ofInt 32 1 = 1#32 := by decide
    rw [e, BitVec.and_one_eq_setWidth_ofBool_getLsbD]
    cases (BitVec.ofInt 32 x).getLsbD 0
    · left; decide
    · right; decide
  unfold gp_and
  rcases h with h | h <;> rw [h] <;> decide

def xP (a k : Nat) (v : Int) : Prop := cond (Nat.beq a 7 && Nat.beq k 0) (v = 61) (cond (Nat.beq a 25 && Nat.beq k 0) (v = 1) (cond (Nat.beq a 57 && Nat.beq k 2) (0 ≤ v ∧ v ≤ 1) (cond (Nat.beq a 10) (v = 0) (cond (Nat.beq a 11) (v = 0) (cond (Nat.beq a 12) (v = 0) (cond (Nat.beq a 13) (v = 0) (cond (Nat.beq a 14) (v = 0) (cond (Nat.beq a 15) (v = 0) (cond (Nat.beq a 16) (v = 0) (cond (Nat.beq a 17) (v = 0) (cond (Nat.beq a 18) (v = 0) (cond (Nat.beq a 19) (v = 0) (cond (Nat.beq a 21) (v = 0) (cond (Nat.beq a 22) (v = 0) (cond (Nat.beq a 23) (v = 0) (cond (Nat.beq a 24) (v = 0) (cond (Nat.beq a 28) (v = 0) (cond (Nat.beq a 29) (v = 0) (cond (Nat.beq a 30) (v = 0) (cond (Nat.beq a 32) (v = 0) (cond (Nat.beq a 33) (v = 0) (cond (Nat.beq a 34) (v = 0) (cond (Nat.beq a 35) (v = 0) (cond (Nat.beq a 36) (v = 0) (cond (Nat.beq a 37) (v = 0) (cond (Nat.beq a 45) (v = 0) (cond (Nat.beq a 53) (v = 0) (cond (Nat.beq a 54) (0 ≤ v ∧ v ≤ 7) (cond (Nat.beq a 62) (v = 0) (cond (Nat.beq a 63) (0 ≤ v ∧ v ≤ 7) (True)))))))))))))))))))))))))))))))
def xQ (a k : Nat) (v : BitVec 64) : Prop := cond (Nat.beq a 41 && Nat.beq k 4) (v = 0#64) (cond (Nat.beq a 41 && Nat.beq k 5) (v = 0#64) (cond (Nat.beq a 8) (v = 0#64) (cond (Nat.beq a 9) (v = 0#64) (cond (Nat.beq a 26) (v = 0#64) (cond (Nat.beq a 27) (v = 0#64) (True))))))
abbrev xM (z s : gH) : Prop := xI xP xQ z s
theorem xw1_2 {z s : gH} (h : xM z s) (k : Nat) (v : Int) : xM z (gp_wI s 1 2 v) := xI.wI h 1 2 v (by omega) (fun _ => trivial)
theorem xw1_5 {z s : gH} (h : xM z s) (k : Nat) (v : Int) : xM z (gp_wI s 1 5 v) := xI.wI h 1 5 v (by omega) (fun _ => trivial)
theorem xw1_6 {z s : gH} (h : xM z s) (k : Nat) (v : Int) : xM z (gp_wI s 1 6 v) := xI.wI h 1 6 v (by omega) (fun _ => trivial)
theorem xw1_7 {z s : gH} (h : xM z s) (k : Nat) (v : Int) : xM z (gp_wI s 1 7 v) := xI.wI h 1 7 v (by omega) (fun _ => trivial)
theorem xw2 {z s : gH} (h : xM z s) (k : Nat) (v : Int) : xM z (gp_wI s 2 k v) := xI.wI h 2 k v (by omega) (fun _ => trivial)
theorem xw3 {z s : gH} (h : xM z s) (k : Nat) (v : Int) : xM z (gp_wI s 3 k v) := xI.wI h 3 k v (by omega) (fun _ => trivial)
theorem xw6_4 {z s : gH} (h : xM z s) (k : Nat) (v : Int) : xM z (gp_wI s 6 4 v) := xI.wI h 6 4 v (by omega) (fun _ => trivial)
theorem xr7_0 {z s : gH} (h : xM z s) (k : Nat) : gp_I s 7 0 = 61 := (h.2.2 7 0 (by omega) (by omega)).1
theorem xw7_0 {z s : gH} (h : xM z s) (k : Nat) (v : Int) (hv : v = 61) : xM z (gp_wI s 7 0 v) := xI.wI h 7 0 v (by omega) (fun _ => hv)
theorem xr8 {z s : gH} (h : xM z s) (k : Nat) : gp_L s 8 k = 0#64 := (h.2.2 8 k (by omega) (by omega)).2
theorem xw8 {z s : gH} (h : xM z s) (k : Nat) (v : BitVec 64) (hv : v = 0#64) : xM z (gp_wL s 8 k v) := xI.wL h 8 k v (by omega) (fun _ => hv)
theorem xr9 {z s : gH} (h : xM z s) (k : Nat) : gp_L s 9 k = 0#64 := (h.2.2 9 k (by omega) (by omega)).2
theorem xw9 {z s : gH} (h : xM z s) (k : Nat) (v : BitVec 64) (hv : v = 0#64) : xM z (gp_wL s 9 k v) := xI.wL h 9 k v (by omega) (fun _ => hv)
theorem xr10 {z s : gH} (h : xM z s) (k : Nat) : gp_I s 10 k = 0 := (h.2.2 10 k (by omega) (by omega)).1
theorem xw10 {z s : gH} (h : xM z s) (k : Nat) (v : Int) (hv : v = 0) : xM z (gp_wI s 10 k v) := xI.wI h 10 k v (by omega) (fun _ => hv)
theorem xr11 {z s : gH} (h : xM z s) (k : Nat) : gp_I s 11 k = 0 := (h.2.2 11 k (by omega) (by omega)).1
theorem xw11 {z s : gH} (h : xM z s) (k : Nat) (v : Int) (hv : v = 0) : xM z (gp_wI s 11 k v) := xI.wI h 11 k v (by omega) (fun _ => hv)
theorem xr12 {z s : gH} (h : xM z s) (k : Nat) : gp_I s 12 k = 0 := (h.2.2 12 k (by omega) (by omega)).1
theorem xw12 {z s : gH} (h : xM z s) (k : Nat) (v : Int) (hv : v = 0) : xM z (gp_wI s 12 k v) := xI.wI h 12 k v (by omega) (fun _ => hv)
theorem xr13 {z s : gH} (h : xM z s) (k : Nat) : gp_I s 13 k = 0 := (h.2.2 13 k (by omega) (by omega)).1
theorem xw13 {z s : gH} (h : xM z s) (k : Nat) (v : Int) (hv : v = 0) : xM z (gp_wI s 13 k v) := xI.wI h 13 k v (by omega) (fun _ => hv)
theorem xr14 {z s : gH} (h : xM z s) (k : Nat) : gp_I s 14 k = 0 := (h.2.2 14 k (by omega) (by omega)).1
theorem xw14 {z s : gH} (h : xM z s) (k : Nat) (v : Int) (hv : v = 0) : xM z (gp_wI s 14 k v) := xI.wI h 14 k v (by omega) (fun _ => hv)
theorem xr15 {z s : gH} (h : xM z s) (k : Nat) : gp_I s 15 k = 0 := (h.2.2 15 k (by omega) (by omega)).1
theorem xw15 {z s : gH} (h : xM z s) (k : Nat) (v : Int) (hv : v = 0) : xM z (gp_wI s 15 k v) := xI.wI h 15 k v (by omega) (fun _ => hv)
theorem xr16 {z s : gH} (h : xM z s) (k : Nat) : gp_I s 16 k = 0 := (h.2.2 16 k (by omega) (by omega)).1
theorem xw16 {z s : gH} (h : xM z s) (k : Nat) (v : Int) (hv : v = 0) : xM z (gp_wI s 16 k v) := xI.wI h 16 k v (by omega) (fun _ => hv)
theorem xr17 {z s : gH} (h : xM z s) (k : Nat) : gp_I s 17 k = 0 := (h.2.2 17 k (by omega) (by omega)).1
theorem xw17 {z s : gH} (h : xM z s) (k : Nat) (v : Int) (hv : v = 0) : xM z (gp_wI s 17 k v) := xI.wI h 17 k v (by omega) (fun _ => hv)
theorem xr18 {z s : gH} (h : xM z s) (k : Nat) : gp_I s 18 k = 0 := (h.2.2 18 k (by omega) (by omega)).1
theorem xw18 {z s : gH} (h : xM z s) (k : Nat) (v : Int) (hv : v = 0) : xM z (gp_wI s 18 k v) := xI.wI h 18 k v (by omega) (fun _ => hv)
theorem xr19 {z s : gH} (h : xM z s) (k : Nat) : gp_I s 19 k = 0 := (h.2.2 19 k (by omega) (by omega)).1
theorem xw19 {z s : gH} (h : xM z s) (k : Nat) (v : Int) (hv : v = 0) : xM z (gp_wI s 19 k v) := xI.wI h 19 k v (by omega) (fun _ => hv)
theorem xr21 {z s : gH} (h : xM z s) (k : Nat) : gp_I s 21 k = 0 := (h.2.2 21 k (by omega) (by omega)).1
theorem xw21 {z s : gH} (h : xM z s) (k : Nat) (v : Int) (hv : v = 0) : xM z (gp_wI s 21 k v) := xI.wI h 21 k v (by omega) (fun _ => hv)
theorem xr22 {z s : gH} (h : xM z s) (k : Nat) : gp_I s 22 k = 0 := (h.2.2 22 k (by omega) (by omega)).1
theorem xw22 {z s : gH} (h : xM z s) (k : Nat) (v : Int) (hv : v = 0) : xM z (gp_wI s 22 k v) := xI.wI h 22 k v (by omega) (fun _ => hv)
theorem xr23 {z s : gH} (h : xM z s) (k : Nat) : gp_I s 23 k = 0 := (h.2.2 23 k (by omega) (by omega)).1
theorem xw23 {z s : gH} (h : xM z s) (k : Nat) (v : Int) (hv : v = 0) : xM z (gp_wI s 23 k v) := xI.wI h 23 k v (by omega) (fun _ => hv)
theorem xr24 {z s : gH} (h : xM z s) (k : Nat) : gp_I s 24 k = 0 := (h.2.2 24 k (by omega) (by omega)).1
theorem xw24 {z s : gH} (h : xM z s) (k : Nat) (v : Int) (hv : v = 0) : xM z (gp_wI s 24 k v) := xI.wI h 24 k v (by omega) (fun _ => hv)
theorem xr25_0 {z s : gH} (h : xM z s) (k : Nat) : gp_I s 25 0 = 1 := (h.2.2 25 0 (by omega) (by omega)).1
theorem xw25_0 {z s : gH} (h : xM z s) (k : Nat) (v : Int) (hv : v = 1) : xM z (gp_wI s 25 0 v) := xI.wI h 25 0 v (by omega) (fun _ => hv)
theorem xr26 {z s : gH} (h : xM z s) (k : Nat) : gp_L s 26 k = 0#64 := (h.2.2 26 k (by omega) (by omega)).2
theorem xw26 {z s : gH} (h : xM z s) (k : Nat) (v : BitVec 64) (hv : v = 0#64) : xM z (gp_wL s 26 k v) := xI.wL h 26 k v (by omega) (fun _ => hv)
theorem xr27 {z s : gH} (h : xM z s) (k : Nat) : gp_L s 27 k = 0#64 := (h.2.2 27 k (by omega) (by omega)).2
theorem xw27 {z s : gH} (h : xM z s) (k : Nat) (v : BitVec 64) (hv : v = 0#64) : xM z (gp_wL s 27 k v) := xI.wL h 27 k v (by omega) (fun _ => hv)
theorem xr28 {z s : gH} (h : xM z s) (k : Nat) : gp_I s 28 k = 0 := (h.2.2 28 k (by omega) (by omega)).1
theorem xw28 {z s : gH} (h : xM z s) (k : Nat) (v : Int) (hv : v = 0) : xM z (gp_wI s 28 k v) := xI.wI h 28 k v (by omega) (fun _ => hv)
theorem xr29 {z s : gH} (h : xM z s) (k : Nat) : gp_I s 29 k = 0 := (h.2.2 29 k (by omega) (by omega)).1
theorem xw29 {z s : gH} (h : xM z s) (k : Nat) (v : Int) (hv : v = 0) : xM z (gp_wI s 29 k v) := xI.wI h 29 k v (by omega) (fun _ => hv)
theorem xr30 {z s : gH} (h : xM z s) (k : Nat) : gp_I s 30 k = 0 := (h.2.2 30 k (by omega) (by omega)).1
theorem xw30 {z s : gH} (h : xM z s) (k : Nat) (v : Int) (hv : v = 0) : xM z (gp_wI s 30 k v) := xI.wI h 30 k v (by omega) (fun _ => hv)
theorem xr32 {z s : gH} (h : xM z s) (k : Nat) : gp_I s 32 k = 0 := (h.2.2 32 k (by omega) (by omega)).1
theorem xw32 {z s : gH} (h : xM z s) (k : Nat) (v : Int) (hv : v = 0) : xM z (gp_wI s 32 k v) := xI.wI h 32 k v (by omega) (fun _ => hv)
theorem xr33 {z s : gH} (h : xM z s) (k : Nat) : gp_I s 33 k = 0 := (h.2.2 33 k (by omega) (by omega)).1
theorem xw33 {z s : gH} (h : xM z s) (k : Nat) (v : Int) (hv : v = 0) : xM z (gp_wI s 33 k v) := xI.wI h 33 k v (by omega) (fun _ => hv)
theorem xr34 {z s : gH} (h : xM z s) (k : Nat) : gp_I s 34 k = 0 := (h.2.2 34 k (by omega) (by omega)).1
theorem xw34 {z s : gH} (h : xM z s) (k : Nat) (v : Int) (hv : v = 0) : xM z (gp_wI s 34 k v) := xI.wI h 34 k v (by omega) (fun _ => hv)
theorem xr35 {z s : gH} (h : xM z s) (k : Nat) : gp_I s 35 k = 0 := (h.2.2 35 k (by omega) (by omega)).1
theorem xw35 {z s : gH} (h : xM z s) (k : Nat) (v : Int) (hv : v = 0) : xM z (gp_wI s 35 k v) := xI.wI h 35 k v (by omega) (fun _ => hv)
theorem xr36 {z s : gH} (h : xM z s) (k : Nat) : gp_I s 36 k = 0 := (h.2.2 36 k (by omega) (by omega)).1
theorem xw36 {z s : gH} (h : xM z s) (k : Nat) (v : Int) (hv : v = 0) : xM z (gp_wI s 36 k v) := xI.wI h 36 k v (by omega) (fun _ => hv)
theorem xr37 {z s : gH} (h : xM z s) (k : Nat) : gp_I s 37 k = 0 := (h.2.2 37 k (by omega) (by omega)).1
theorem xw37 {z s : gH} (h : xM z s) (k : Nat) (v : Int) (hv : v = 0) : xM z (gp_wI s 37 k v) := xI.wI h 37 k v (by omega) (fun _ => hv)
theorem xw39 {z s : gH} (h : xM z s) (k : Nat) (v : BitVec 64) : xM z (gp_wL s 39 k v) := xI.wL h 39 k v (by omega) (fun _ => trivial)
theorem xw40 {z s : gH} (h : xM z s) (k : Nat) (v : BitVec 64) : xM z (gp_wL s 40 k v) := xI.wL h 40 k v (by omega) (fun _ => trivial)
theorem xr41_4 {z s : gH} (h : xM z s) (k : Nat) : gp_L s 41 4 = 0#64 := (h.2.2 41 4 (by omega) (by omega)).2
theorem xw41_4 {z s : gH} (h : xM z s) (k : Nat) (v : BitVec 64) (hv : v = 0#64) : xM z (gp_wL s 41 4 v) := xI.wL h 41 4 v (by omega) (fun _ => hv)
theorem xr41_5 {z s : gH} (h : xM z s) (k : Nat) : gp_L s 41 5 = 0#64 := (h.2.2 41 5 (by omega) (by omega)).2
theorem xw41_5 {z s : gH} (h : xM z s) (k : Nat) (v : BitVec 64) (hv : v = 0#64) : xM z (gp_wL s 41 5 v) := xI.wL h 41 5 v (by omega) (fun _ => hv)
theorem xw43 {z s : gH} (h : xM z s) (k : Nat) (v : BitVec 64) : xM z (gp_wL s 43 k v) := xI.wL h 43 k v (by omega) (fun _ => trivial)
theorem xw44 {z s : gH} (h : xM z s) (k : Nat) (v : BitVec 64) : xM z (gp_wL s 44 k v) := xI.wL h 44 k v (by omega) (fun _ => trivial)
theorem xr45 {z s : gH} (h : xM z s) (k : Nat) : gp_I s 45 k = 0 := (h.2.2 45 k (by omega) (by omega)).1
theorem xw45 {z s : gH} (h : xM z s) (k : Nat) (v : Int) (hv : v = 0) : xM z (gp_wI s 45 k v) := xI.wI h 45 k v (by omega) (fun _ => hv)
theorem xw46_3 {z s : gH} (h : xM z s) (k : Nat) (v : Int) : xM z (gp_wI s 46 3 v) := xI.wI h 46 3 v (by omega) (fun _ => trivial)
theorem xw46_5 {z s : gH} (h : xM z s) (k : Nat) (v : Int) : xM z (gp_wI s 46 5 v) := xI.wI h 46 5 v (by omega) (fun _ => trivial)
theorem xw46_6 {z s : gH} (h : xM z s) (k : Nat) (v : Int) : xM z (gp_wI s 46 6 v) := xI.wI h 46 6 v (by omega) (fun _ => trivial)
theorem xw46_7 {z s : gH} (h : xM z s) (k : Nat) (v : Int) : xM z (gp_wI s 46 7 v) := xI.wI h 46 7 v (by omega) (fun _ => trivial)
theorem xw46_8 {z s : gH} (h : xM z s) (k : Nat) (v : Int) : xM z (gp_wI s 46 8 v) := xI.wI h 46 8 v (by omega) (fun _ => trivial)
theorem xw48_2 {z s : gH} (h : xM z s) (k : Nat) (v : Int) : xM z (gp_wI s 48 2 v) := xI.wI h 48 2 v (by omega) (fun _ => trivial)
theorem xw49 {z s : gH} (h : xM z s) (k : Nat) (v : Int) : xM z (gp_wI s 49 k v) := xI.wI h 49 k v (by omega) (fun _ => trivial)
theorem xw50 {z s : gH} (h : xM z s) (k : Nat) (v : Int) : xM z (gp_wI s 50 k v) := xI.wI h 50 k v (by omega) (fun _ => trivial)
theorem xw51_2 {z s : gH} (h : xM z s) (k : Nat) (v : Int) : xM z (gp_wI s 51 2 v) := xI.wI h 51 2 v (by omega) (fun _ => trivial)
theorem xw51_4 {z s : gH} (h : xM z s) (k : Nat) (v : Int) : xM z (gp_wI s 51 4 v) := xI.wI h 51 4 v (by omega) (fun _ => trivial)
theorem xw51_8 {z s : gH} (h : xM z s) (k : Nat) (v : Int) : xM z (gp_wI s 51 8 v) := xI.wI h 51 8 v (by omega) (fun _ => trivial)
theorem xr53 {z s : gH} (h : xM z s) (k : Nat) : gp_I s 53 k = 0 := (h.2.2 53 k (by omega) (by omega)).1
theorem xw53 {z s : gH} (h : xM z s) (k : Nat) (v : Int) (hv : v = 0) : xM z (gp_wI s 53 k v) := xI.wI h 53 k v (by omega) (fun _ => hv)
theorem xr54 {z s : gH} (h : xM z s) (k : Nat) : 0 ≤ gp_I s 54 k ∧ gp_I s 54 k ≤ 7 := (h.2.2 54 k (by omega) (by omega)).1
theorem xw54 {z s : gH} (h : xM z s) (k : Nat) (v : Int) (hv : 0 ≤ v ∧ v ≤ 7) : xM z (gp_wI s 54 k v) := xI.wI h 54 k v (by omega) (fun _ => hv)
theorem xw55 {z s : gH} (h : xM z s) (k : Nat) (v : Int) : xM z (gp_wI s 55 k v) := xI.wI h 55 k v (by omega) (fun _ => trivial)
theorem xw56 {z s : gH} (h : xM z s) (k : Nat) (v : Int) : xM z (gp_wI s 56 k v) := xI.wI h 56 k v (by omega) (fun _ => trivial)
theorem xw57_1 {z s : gH} (h : xM z s) (k : Nat) (v : Int) : xM z (gp_wI s 57 1 v) := xI.wI h 57 1 v (by omega) (fun _ => trivial)
theorem xr57_2 {z s : gH} (h : xM z s) (k : Nat) : 0 ≤ gp_I s 57 2 ∧ gp_I s 57 2 ≤ 1 := (h.2.2 57 2 (by omega) (by omega)).1
theorem xw57_2 {z s : gH} (h : xM z s) (k : Nat) (v : Int) (hv : 0 ≤ v ∧ v ≤ 1) : xM z (gp_wI s 57 2 v) := xI.wI h 57 2 v (by omega) (fun _ => hv)
theorem xw57_3 {z s : gH} (h : xM z s) (k : Nat) (v : Int) : xM z (gp_wI s 57 3 v) := xI.wI h 57 3 v (by omega) (fun _ => trivial)
theorem xw58 {z s : gH} (h : xM z s) (k : Nat) (v : Int) : xM z (gp_wI s 58 k v) := xI.wI h 58 k v (by omega) (fun _ => trivial)
theorem xw59 {z s : gH} (h : xM z s) (k : Nat) (v : Int) : xM z (gp_wI s 59 k v) := xI.wI h 59 k v (by omega) (fun _ => trivial)
theorem xw60_2 {z s : gH} (h : xM z s) (k : Nat) (v : Int) : xM z (gp_wI s 60 2 v) := xI.wI h 60 2 v (by omega) (fun _ => trivial)
theorem xw60_4 {z s : gH} (h : xM z s) (k : Nat) (v : Int) : xM z (gp_wI s 60 4 v) := xI.wI h 60 4 v (by omega) (fun _ => trivial)
theorem xw60_8 {z s : gH} (h : xM z s) (k : Nat) (v : Int) : xM z (gp_wI s 60 8 v) := xI.wI h 60 8 v (by omega) (fun _ => trivial)
theorem xr62 {z s : gH} (h : xM z s) (k : Nat) : gp_I s 62 k = 0 := (h.2.2 62 k (by omega) (by omega)).1
theorem xw62 {z s : gH} (h : xM z s) (k : Nat) (v : Int) (hv : v = 0) : xM z (gp_wI s 62 k v) := xI.wI h 62 k v (by omega) (fun _ => hv)
theorem xr63 {z s : gH} (h : xM z s) (k : Nat) : 0 ≤ gp_I s 63 k ∧ gp_I s 63 k ≤ 7 := (h.2.2 63 k (by omega) (by omega)).1
theorem xw63 {z s : gH} (h : xM z s) (k : Nat) (v : Int) (hv : 0 ≤ v ∧ v ≤ 7) : xM z (gp_wI s 63 k v) := xI.wI h 63 k v (by omega) (fun _ => hv)
theorem xw64 {z s : gH} (h : xM z s) (k : Nat) (v : Int) : xM z (gp_wI s 64 k v) := xI.wI h 64 k v (by omega) (fun _ => trivial)
theorem xw65 {z s : gH} (h : xM z s) (k : Nat) (v : Int) : xM z (gp_wI s 65 k v) := xI.wI h 65 k v (by omega) (fun _ => trivial)
theorem xw68 {z s : gH} (h : xM z s) (k : Nat) (v : Int) : xM z (gp_wI s 68 k v) := xI.wI h 68 k v (by omega) (fun _ => trivial)
theorem xw69 {z s : gH} (h : xM z s) (k : Nat) (v : Int) : xM z (gp_wI s 69 k v) := xI.wI h 69 k v (by omega) (fun _ => trivial)
theorem xw70 {z s : gH} (h : xM z s) (k : Nat) (v : Int) : xM z (gp_wI s 70 k v) := xI.wI h 70 k v (by omega) (fun _ => trivial)
theorem xw71 {z s : gH} (h : xM z s) (k : Nat) (v : Int) : xM z (gp_wI s 71 k v) := xI.wI h 71 k v (by omega) (fun _ => trivial)
theorem xw72 {z s : gH} (h : xM z s) (k : Nat) (v : Int) : xM z (gp_wI s 72 k v) := xI.wI h 72 k v (by omega) (fun _ => trivial)
theorem xw73 {z s : gH} (h : xM z s) (k : Nat) (v : Int) : xM z (gp_wI s 73 k v) := xI.wI h 73 k v (by omega) (fun _ => trivial)
