/-! matches: what is known of one that is there -/
theorem gz_rwi (s : gH) (a i : Nat) (v : Int) (k : Nat) : gp_I (gp_wI s a i v) a k = if k = i then v else gp_I s a k := by
  show gp_u2 _ _ _ _ _ _ = _; rw [gm_u2]
  by_cases c : k = i
  · rw [if_pos ⟨rfl, c⟩, if_pos c]
  · rw [if_neg (fun h => c h.2), if_neg c]
/-- how many of the first k moves were on a board -/
def mc (s : gH) (n : Int) : Nat → Nat
  | 0 => 0
  | k + 1 => mc s n k + (if gp_I s 113 k = n then 1 else 0)
theorem mc_eq {s t : gH} (n : Int) : ∀ (k : Nat), (∀ j, j < k → gp_I t 113 j = gp_I s 113 j) → mc t n k = mc s n k
  | 0, _ => rfl
  | k + 1, h => by
    show mc t n k + _ = mc s n k + _
    rw [mc_eq n k (fun j hj => h j (by omega)), h k (by omega)]
theorem mc_mono (s : gH) (n : Int) : ∀ {a b : Nat}, a ≤ b → mc s n a ≤ mc s n b := by
  intro a b h
  induction h with
  | refl => exact Nat.le_refl _
  | step _ ih => exact Nat.le_trans ih (Nat.le_add_right _ _)
theorem mc_no {s : gH} {n : Int} : ∀ (k : Nat), (∀ j, j < k → gp_I s 113 j ≠ n) → mc s n k = 0
  | 0, _ => rfl
  | k + 1, h => by
    show mc s n k + _ = 0
    rw [mc_no k (fun j hj => h j (by omega)), if_neg (h k (by omega))]
theorem mc_sum {s : gH} : ∀ (k : Nat), (∀ j, j < k → 0 ≤ gp_I s 113 j ∧ gp_I s 113 j < 3) → mc s 0 k + mc s 1 k + mc s 2 k = k
  | 0, _ => rfl
  | k + 1, h => by
    have e := mc_sum k (fun j hj => h j (by omega))
    have b := h k (by omega)
    show mc s 0 k + _ + (mc s 1 k + _) + (mc s 2 k + _) = k + 1
    split <;> split <;> split <;> omega
def mMb (s : gH) : Prop := 1 ≤ gp_I s 74 55 ∧ (∀ n : Nat, (n : Int) < gp_I s 74 55 → gp_I s 112 n < gp_I s 81 (16 + n) ∧ gp_I s 112 n + mc s n (gp_I s 74 57).toNat ≤ 59) ∧ (∀ k : Nat, (k : Int) < gp_I s 74 57 → gp_I s 113 k < gp_I s 74 55 ∧ gp_I s 115 k < gp_I s 81 (16 + (gp_I s 113 k).toNat) ∧ gp_I s 115 k + mc s (gp_I s 113 k) k ≤ 59)
def mM (s : gH) : Prop := gp_I s 74 58 = 1 → mMb s
theorem mMb_177 {s : gH} (h : mMb s) (hs : MI s) : gp_I s 74 57 ≤ 177 := by
  obtain ⟨h1, h2, h3⟩ := h
  have r55 := mr74_55 hs
  have r57 := mr74_57 hs
  have hk : ∀ j, j < (gp_I s 74 57).toNat → 0 ≤ gp_I s 113 j ∧ gp_I s 113 j < gp_I s 74 55 := fun j hj => ⟨(mr113 hs j).1, (h3 j (by omega)).1⟩
  have e := mc_sum (s := s) (gp_I s 74 57).toNat (fun j hj => by have := hk j hj; omega)
  have b : ∀ n : Nat, n < 3 → mc s n (gp_I s 74 57).toNat ≤ 59 := by
    intro n hn
    by_cases c : (n : Int) < gp_I s 74 55
    · have := (h2 n c).2
      have := (mr112 hs n).1
      omega
    · rw [mc_no _ (fun j hj => by have := hk j hj; omega)]; omega
  have b0 : mc s 0 (gp_I s 74 57).toNat ≤ 59 := b 0 (by omega)
  have b1 : mc s 1 (gp_I s 74 57).toNat ≤ 59 := b 1 (by omega)
  have b2 : mc s 2 (gp_I s 74 57).toNat ≤ 59 := b 2 (by omega)
  omega
theorem mM_fr {s t : gH} {m g : List Nat} (h : mM s) (hf : gF m g s t) (e1 : m.contains 81 = false) (e2 : m.contains 112 = false) (e3 : m.contains 113 = false) (e4 : m.contains 115 = false) (f1 : g.contains 55 = false) (f2 : g.contains 57 = false) (f3 : g.contains 58 = false) (q : m.contains 74 = false := by rfl) : mM t := by
  have r : ∀ a k, m.contains a = false → a ≠ 74 → gp_I t a k = gp_I s a k := fun a k h1 h2 => (hf.2 a k h1 (fun h => absurd h h2)).1
  have r7 : ∀ k, g.contains k = false → gp_I t 74 k = gp_I s 74 k := fun k h1 => (hf.2 74 k q (fun _ => h1)).1
  intro h0
  obtain ⟨h1, h2, h3⟩ := h (by rw [← r7 58 f3]; exact h0)
  have mce : ∀ n k, mc t n k = mc s n k := fun n k => mc_eq n k (fun j _ => r 113 j e3 (by decide))
  unfold mMb
  rw [r7 55 f1, r7 57 f2]
  refine ⟨h1, fun n hn => ?_, fun k hk => ?_⟩
  · rw [r 112 n e2 (by decide), r 81 _ e1 (by decide), mce]; exact h2 n hn
  · rw [r 113 k e3 (by decide), r 115 k e4 (by decide), r 81 _ e1 (by decide), mce]; exact h3 k hk
/-- sizes of boards as they were -/
theorem mM_frK {s t : gH} {m g : List Nat} (h : mM s) (hs : MI s) (hf : gF m g s t) (hk : ∀ k : Nat, 16 ≤ k → k < 19 → gp_I t 81 k = gp_I s 81 k) (e2 : m.contains 112 = false) (e3 : m.contains 113 = false) (e4 : m.contains 115 = false) (f1 : g.contains 55 = false) (f2 : g.contains 57 = false) (f3 : g.contains 58 = false) (q : m.contains 74 = false) : mM t := by
  have r : ∀ a k, m.contains a = false → a ≠ 74 → gp_I t a k = gp_I s a k := fun a k h1 h2 => (hf.2 a k h1 (fun h => absurd h h2)).1
  have r7 : ∀ k, g.contains k = false → gp_I t 74 k = gp_I s 74 k := fun k h1 => (hf.2 74 k q (fun _ => h1)).1
  intro h0
  obtain ⟨h1, h2, h3⟩ := h (by rw [← r7 58 f3]; exact h0)
  have r55 := mr74_55 hs
  have mce : ∀ n k, mc t n k = mc s n k := fun n k => mc_eq n k (fun j _ => r 113 j e3 (by decide))
  unfold mMb
  rw [r7 55 f1, r7 57 f2]
  refine ⟨h1, fun n hn => ?_, fun k hk' => ?_⟩
  · rw [r 112 n e2 (by decide), hk _ (by omega) (by omega), mce]; exact h2 n hn
  · have := (h3 k hk').1
    have := (mr113 hs k).1
    rw [r 113 k e3 (by decide), r 115 k e4 (by decide), hk _ (by omega) (by omega), mce]; exact h3 k hk'
/-- the options of the side whose turn it is, on a board -/
def oa (s : gH) (n : Int) : BitVec 64 := sd s (gp_I s 74 56) (16 + n) (gp_I s 112 n.toNat)
theorem oa_c {s : gH} {n : Int} {A : BitVec 64} (e : A = oa s n) : gm_cnt A 64 = gm_cnt (oa s n) 64 := by rw [e]
def amv (s : gH) : Nat → Nat
  | 0 => 0
  | k + 1 => amv s k + gm_cnt (oa s k) 64
theorem amv_s {s : gH} {v x y : Int} {A : BitVec 64} (hv : 0 ≤ v) (h : y = (amv s v.toNat : Nat)) (hx : x = (gm_cnt A 64 : Nat)) (hA : A = oa s v) : y + x = (amv s (Int.toNat (v + 1)) : Nat) := by
  subst hA
  rw [show Int.toNat (v + 1) = v.toNat + 1 by omega]
  show y + x = ((amv s v.toNat + gm_cnt (oa s (v.toNat : Int)) 64 : Nat) : Int)
  rw [show ((v.toNat : Nat) : Int) = v by omega]
  omega
theorem amv_mono (s : gH) : ∀ {a b : Nat}, a ≤ b → amv s a ≤ amv s b := by
  intro a b h
  induction h with
  | refl => exact Nat.le_refl _
  | step _ ih => exact Nat.le_trans ih (Nat.le_add_right _ _)
theorem amv_lt {s : gH} {v w n : Int} (hv : 0 ≤ v) (hw : 0 ≤ w) (h : w + (amv s v.toNat : Nat) < (amv s n.toNat : Nat)) : v < n := by
  apply Classical.byContradiction
  intro c
  have := amv_mono s (show n.toNat ≤ v.toNat by omega)
  omega
theorem amv_z {s : gH} : ∀ (k : Nat), (∀ n : Nat, n < k → gm_cnt (oa s n) 64 = 0) → amv s k = 0
  | 0, _ => rfl
  | k + 1, h => by
    show amv s k + _ = 0
    rw [amv_z k (fun n hn => h n (by omega)), h k (by omega)]
theorem oa_fr {s t : gH} {m g : List Nat} (hf : gF m g s t) (e1 : m.contains 76 = false) (e2 : m.contains 77 = false) (e3 : m.contains 112 = false) (f1 : g.contains 56 = false) (q : m.contains 74 = false) (n : Int) : oa t n = oa s n := by
  unfold oa sd
  rw [(hf.2 74 56 q (fun _ => f1)).1, (hf.2 112 _ e3 (fun h => absurd h (by decide))).1, (hf.2 76 _ e1 (fun h => absurd h (by decide))).2, (hf.2 77 _ e2 (fun h => absurd h (by decide))).2]
theorem amv_eq {s t : gH} (h : ∀ n, oa t n = oa s n) : ∀ k, amv t k = amv s k
  | 0 => rfl
  | k + 1 => by
    show amv t k + _ = amv s k + _
    rw [amv_eq h k, h]
/-- the side whose turn it is has a move -/
def mov (s : gH) : Prop := 0 < amv s (gp_I s 74 55).toNat
theorem mov_fr {s t : gH} {m g : List Nat} (h : mov s) (hf : gF m g s t) (e1 : m.contains 76 = false) (e2 : m.contains 77 = false) (e3 : m.contains 112 = false) (f0 : g.contains 55 = false) (f1 : g.contains 56 = false) (q : m.contains 74 = false := by rfl) : mov t := by
  unfold mov
  rw [(hf.2 74 55 q (fun _ => f0)).1, amv_eq (oa_fr hf e1 e2 e3 f1 q)]
  exact h
theorem mv_in {s : gH} {n i r : Int} {A : BitVec 64} (hA : A = oa s n) (hb : bd A (gp_I s 112 n.toNat)) (hi : 0 ≤ i) (hi2 : i < (gm_cnt (oa s n) 64 : Nat)) {P : Prop} (h : (r = -1 ∧ ¬ (0 ≤ i ∧ i < (gm_cnt A 64 : Nat))) ∨ (0 ≤ r ∧ A.getLsbD r.toNat = true ∧ P)) : 0 ≤ r ∧ r < gp_I s 112 n.toNat := by
  rcases h with h | h
  · exact absurd ⟨hi, by rw [hA]; exact hi2⟩ h.2
  · have := hb _ h.2.1
    omega
theorem mMb_mv {s t : gH} {n v : Int} (h : mMb s) (hs : MI s) (hn : 0 ≤ n) (hn2 : n < gp_I s 74 55) (hv : 0 ≤ v ∧ v < gp_I s 112 n.toNat) (e55 : gp_I t 74 55 = gp_I s 74 55) (e57 : gp_I t 74 57 = gp_I s 74 57 + 1) (e81 : ∀ k, gp_I t 81 k = gp_I s 81 k) (e113 : ∀ k, gp_I t 113 k = if k = (gp_I s 74 57).toNat then n else gp_I s 113 k) (e115 : ∀ k, gp_I t 115 k = if k = (gp_I s 74 57).toNat then gp_I s 112 n.toNat else gp_I s 115 k) (e112 : ∀ k, gp_I t 112 k = if k = n.toNat then v else gp_I s 112 k) : mMb t := by
  obtain ⟨h1, h2, h3⟩ := h
  have r57 := mr74_57 hs
  have mce : ∀ b k, k ≤ (gp_I s 74 57).toNat → mc t b k = mc s b k := fun b k hk => mc_eq b k (fun j hj => by rw [e113, if_neg (by omega)])
  unfold mMb
  rw [e55, e57, show Int.toNat (gp_I s 74 57 + 1) = (gp_I s 74 57).toNat + 1 by omega]
  refine ⟨h1, fun b hb => ?_, fun k hk => ?_⟩
  · have hmc : mc t b ((gp_I s 74 57).toNat + 1) = mc s b (gp_I s 74 57).toNat + (if n = b then 1 else 0) := by
      show mc t b (gp_I s 74 57).toNat + (if gp_I t 113 (gp_I s 74 57).toNat = b then 1 else 0) = _
      rw [mce _ _ (Nat.le_refl _), e113, if_pos rfl]
    rw [hmc, e112, e81]
    have := h2 b hb
    by_cases c : b = n.toNat
    · rw [if_pos c, if_pos (by omega)]; subst c; omega
    · rw [if_neg c, if_neg (by omega)]; omega
  · rw [e113, e115]
    by_cases c : k = (gp_I s 74 57).toNat
    · rw [if_pos c, if_pos c, e81, c, mce _ _ (Nat.le_refl _)]
      have := h2 n.toNat (by omega)
      rw [show ((n.toNat : Nat) : Int) = n by omega] at this
      exact ⟨hn2, this⟩
    · rw [if_neg c, if_neg c, e81, mce _ _ (by omega)]
      exact h3 k (by omega)
theorem mMb_bk {s t : gH} (h : mMb s) (hs : MI s) (h0 : gp_I s 74 57 ≠ 0) (e55 : gp_I t 74 55 = gp_I s 74 55) (e57 : gp_I t 74 57 = gp_I s 74 57 - 1) (e81 : ∀ k, gp_I t 81 k = gp_I s 81 k) (e113 : ∀ k, gp_I t 113 k = gp_I s 113 k) (e115 : ∀ k, gp_I t 115 k = gp_I s 115 k) (e112 : ∀ k, gp_I t 112 k = if k = (gp_I s 113 (gp_I s 74 57 - 1).toNat).toNat then gp_I s 115 (gp_I s 74 57 - 1).toNat else gp_I s 112 k) : mMb t := by
  obtain ⟨h1, h2, h3⟩ := h
  have r57 := mr74_57 hs
  have mce : ∀ b k, mc t b k = mc s b k := fun b k => mc_eq b k (fun j _ => e113 j)
  unfold mMb
  rw [e55, e57]
  refine ⟨h1, fun b hb => ?_, fun k hk => ?_⟩
  · rw [mce, e112, e81]
    have l := h3 (gp_I s 74 57 - 1).toNat (by omega)
    have r := mr113 hs (gp_I s 74 57 - 1).toNat
    by_cases c : b = (gp_I s 113 (gp_I s 74 57 - 1).toNat).toNat
    · rw [if_pos c]
      have e : (b : Int) = gp_I s 113 (gp_I s 74 57 - 1).toNat := by omega
      rw [e, show 16 + b = 16 + (gp_I s 113 (gp_I s 74 57 - 1).toNat).toNat by omega]
      exact l.2
    · rw [if_neg c]
      have := h2 b hb
      have := mc_mono s b (show (gp_I s 74 57 - 1).toNat ≤ (gp_I s 74 57).toNat by omega)
      omega
  · rw [e113, e115, e81, mce]
    exact h3 k (by omega)
theorem mMb_0 {s : gH} (hs : MI s) (h1 : 1 ≤ gp_I s 74 55) (h0 : gp_I s 74 57 = 0) (h : ∀ n : Nat, (n : Int) < gp_I s 74 55 → gp_I s 112 n < gp_I s 81 (16 + n)) : mMb s := by
  refine ⟨h1, fun n hn => ⟨h n hn, ?_⟩, fun k hk => absurd hk (by omega)⟩
  have := h n hn
  have := mr81 hs (16 + n)
  rw [h0]
  show _ + ((0 : Nat) : Int) ≤ 59
  omega
theorem bm_fin {s : gH} {v : Int} (hs : MI s) (hg : ∀ n : Nat, (n : Int) < gp_I s 74 55 → gp_I s 106 n = 16 + n ∧ gp_I s 107 n = gp_I s 112 n) (h49 : gp_I s 74 49 = gp_I s 74 55) (h : BM s (gp_I s 74 56) (gp_I s 74 49) v) (ho : mov s) : 0 ≤ v ∧ v ≤ 263 ∧ v.tdiv 100 < gp_I s 74 55 ∧ 0 ≤ v.tmod 100 ∧ v.tmod 100 ≤ 63 ∧ v.tmod 100 < (gm_cnt (oa s (v.tdiv 100)) 64 : Nat) := by
  have r55 := mr74_55 hs
  have e : ∀ n : Nat, (n : Int) < gp_I s 74 55 → sd s (gp_I s 74 56) (gp_I s 106 n) (gp_I s 107 n) = oa s n := fun n hn => by
    rw [(hg n hn).1, (hg n hn).2]; rfl
  rw [h49] at h
  rcases h with ⟨h1, h2⟩ | ⟨a, b, h1, h2, h3⟩
  · exfalso
    have := amv_z (s := s) (gp_I s 74 55).toNat (fun n hn => by
      have := h2 n (by omega)
      rw [e n (by omega)] at this; exact this)
    unfold mov at ho
    omega
  · rw [e a h2] at h3
    have hb : b < 64 := Nat.lt_of_lt_of_le h3 (gm_cnt_le _ _)
    have d1 : v.tdiv 100 = a := by rw [Int.tdiv_eq_ediv_of_nonneg (by omega)]; omega
    have d2 : v.tmod 100 = b := by rw [Int.tmod_eq_emod_of_nonneg (by omega)]; omega
    rw [d1, d2]
    exact ⟨by omega, by omega, h2, by omega, by omega, by omega⟩
theorem c256 : ∀ x : Fin 256, x.val ≠ 0 → 1 ≤ gm_cnt (BitVec.ofNat 64 x.val) 8 := by decide +kernel
theorem set_1 {p : Int} (h : 1 ≤ p ∧ p ≤ 255) : 1 ≤ gm_cnt (BitVec.ofInt 64 p) 8 := by
  have := c256 ⟨p.toNat, by omega⟩ (by show p.toNat ≠ 0; omega)
  rw [show p = ((p.toNat : Nat) : Int) by omega]
  rw [show BitVec.ofInt 64 ((p.toNat : Nat) : Int) = BitVec.ofNat 64 p.toNat from rfl]
  exact this
theorem bg_step {s t : gH} {N : Int} (hN : 0 ≤ N) (h : ∀ n : Nat, (n : Int) < N → gp_I s 112 n < gp_I s 81 (16 + n)) (e1 : ∀ k, k ≠ N.toNat → gp_I t 112 k = gp_I s 112 k) (e2 : ∀ k, k ≠ 16 + N.toNat → gp_I t 81 k = gp_I s 81 k) (e3 : gp_I t 112 N.toNat < gp_I t 81 (16 + N.toNat)) : ∀ n : Nat, (n : Int) < N + 1 → gp_I t 112 n < gp_I t 81 (16 + n) := by
  intro n hn
  by_cases c : n = N.toNat
  · subst c; exact e3
  · rw [e1 n c, e2 _ (by omega)]; exact h n (by omega)
theorem su_step {s : gH} {v : Int} (hv : 0 ≤ v) (h : ∀ n : Nat, (n : Int) < v → gp_I s 106 n = 16 + n ∧ gp_I s 107 n = gp_I s 112 n) : ∀ n : Nat, (n : Int) < v + 1 → gp_I (gp_wI (gp_wI s 106 v.toNat (16 + v)) 107 v.toNat (gp_I s 112 v.toNat)) 106 n = 16 + n ∧ gp_I (gp_wI (gp_wI s 106 v.toNat (16 + v)) 107 v.toNat (gp_I s 112 v.toNat)) 107 n = gp_I (gp_wI (gp_wI s 106 v.toNat (16 + v)) 107 v.toNat (gp_I s 112 v.toNat)) 112 n := by
  intro n hn
  have a : gp_I (gp_wI (gp_wI s 106 v.toNat (16 + v)) 107 v.toNat (gp_I s 112 v.toNat)) 106 n = _ := gz_rwi s 106 v.toNat (16 + v) n
  have b : gp_I (gp_wI (gp_wI s 106 v.toNat (16 + v)) 107 v.toNat (gp_I s 112 v.toNat)) 107 n = _ := gz_rwi s 107 v.toNat (gp_I s 112 v.toNat) n
  have c : gp_I (gp_wI (gp_wI s 106 v.toNat (16 + v)) 107 v.toNat (gp_I s 112 v.toNat)) 112 n = gp_I s 112 n := rfl
  rw [a, b, c]
  by_cases q : n = v.toNat
  · rw [if_pos q, if_pos q]; subst q; exact ⟨by omega, rfl⟩
  · rw [if_neg q, if_neg q]; exact h n (by omega)
theorem bg_all {u c t : gH} {N v x : Int} (hN : 0 ≤ N) (hv : 0 ≤ v ∧ v < 8) (h : ∀ n : Nat, (n : Int) < N → gp_I u 112 n < gp_I u 81 (16 + n)) (c0 : gp_I c 81 (Int.toNat (16 + N)) = gp_I u 81 v.toNat) (c1 : ∀ k : Nat, k ≠ Int.toNat (16 + N) → gp_I c 81 k = gp_I u 81 k) (c2 : ∀ k, gp_I c 112 k = gp_I u 112 k) (hx : x = gp_I c 81 v.toNat - 1) (t1 : ∀ k, gp_I t 81 k = gp_I c 81 k) (t2 : ∀ k, gp_I t 112 k = if k = N.toNat then x else gp_I c 112 k) : ∀ n : Nat, (n : Int) < N + 1 → gp_I t 112 n < gp_I t 81 (16 + n) := by
  refine bg_step hN h (fun k hk => by rw [t2, if_neg hk, c2]) (fun k hk => by rw [t1, c1 k (by omega)]) ?_
  rw [t2, if_pos rfl, t1, hx, c1 v.toNat (by omega), show 16 + N.toNat = Int.toNat (16 + N) by omega, c0]
  omega
set_option maxRecDepth 100000 in
/-- GatheredPointsModel.optionsAt -/
theorem vm_optionsAt  {L d : Nat} {K : Option gV → gH → Prop} {s : gH}  (p0 : Int) (hs : MI s) (h_p0 : 0 ≤ p0 ∧ p0 ≤ 2)  (k : ∀ (r : BitVec 64), (bd r (gp_I s 112 p0.toNat)) → (r = oa s p0) → K (some (gp_l r)) s) : gs_C L (d + 1) 3165 2 [gp_r (some 74), gp_i p0] s K := by
  refine s_3165_e _ ?_
  try rw [show gp_wr (16 + p0) = 16 + p0 from gp_wr_id (by omega) (by omega)]
  refine ⟨by omega, ?_⟩
  have f_1 := mr112 hs (Int.toNat p0)
  have f_2 := mr74_56 hs
  refine vm_sideOf _ _ _ hs (by omega) (by omega) (fun m_3 p_4 p_5 p_6 p_7 => ⟨_, rfl, ?_⟩)
  exact k _ (by first | assumption | exact bd_le (by assumption) (by omega) | exact bd_0 _) (by first | omega | assumption)
set_option maxRecDepth 100000 in
/-- GatheredPointsModel.allMoves -/
theorem vm_allMoves  {L d : Nat} {K : Option gV → gH → Prop} {s : gH}   (hs : MI s)   (k : ∀ (r : Int), (0 ≤ r ∧ r ≤ 192) → (r = (amv s (Int.toNat (gp_I s 74 55)) : Nat)) → K (some (gp_i r)) s) : gs_C L (d + 2) 3166 3 [gp_r (some 74)] s K := by
  refine s_3166_e ?_
  have hN9 := mr74_55 hs
  have lp_1 : ∀ (n_1 : Nat) (v1_1 : Int) (v2_1 : Int), (0 ≤ v1_1 ∧ v1_1 ≤ 192) → (0 ≤ v2_1 ∧ v2_1 ≤ 59) → (v1_1 ≤ 64 * v2_1) → (v2_1 ≤ gp_I s 74 55) → (v1_1 = (amv s (Int.toNat v2_1) : Nat)) → (60 - v2_1).toNat < n_1 → gs_E L (d + 2) 3166 4 [gp_r (some 74), gp_i v1_1, gp_i v2_1] [] s K := by
    intro n_1
    induction n_1 with
    | zero => intro v1_1 v2_1 hv1_1 hv2_1 iv0_1 iv1_1 iv2_1 hm_1; exact absurd hm_1 (Nat.not_lt_zero _)
    | succ n_1 ih_1 =>
      intro v1_1 v2_1 hv1_1 hv2_1 iv0_1 iv1_1 iv2_1 hm_1
      refine s_3166_4 _ _ ?_
      have f_2 := mr74_55 hs
      refine ⟨fun h_3 => ?_, fun h_3 => ?_⟩
      · refine vm_optionsAt _ hs (by omega) (fun m_4 p_5 p_6 => ⟨_, rfl, ?_⟩)
        refine vm_size _ (fun x_7 p_8 p_9 => ⟨_, rfl, ?_⟩)
        try rw [show gp_wr (v1_1 + x_7) = v1_1 + x_7 from gp_wr_id (by omega) (by omega)]
        try rw [show gp_wr (v2_1 + 1) = v2_1 + 1 from gp_wr_id (by omega) (by omega)]
        exact ih_1 _ _ (by omega) (by omega) (by first | omega | assumption) (by first | omega | assumption) (amv_s (by omega) iv2_1 (by assumption) (by assumption)) (by omega)
      · exact k _ (by omega) (by rw [show gp_I s 74 55 = v2_1 by omega]; exact iv2_1)
  exact lp_1 _ _ _ (by omega) (by omega) (by first | omega | assumption) (by first | omega | assumption) (rfl) (Nat.lt_succ_self _)
set_option maxRecDepth 100000 in
/-- GatheredPointsModel.isOver -/
theorem vm_isOver  {L d : Nat} {K : Option gV → gH → Prop} {s : gH}   (hs : MI s)   (k : ∀ (r : Int), (0 ≤ r ∧ r ≤ 1) → ((r = 1 ∧ ¬ mov s) ∨ (r = 0 ∧ mov s)) → K (some (gp_i r)) s) : gs_C L (d + 3) 3167 1 [gp_r (some 74)] s K := by
  refine s_3167_e ?_
  refine vm_allMoves hs (fun x_1 p_2 p_3 => ⟨_, rfl, ?_⟩)
  refine ⟨fun h_4 => ?_, fun h_4 => ?_⟩
  · refine s_3167_12 _ ?_
    refine ⟨by omega, ?_⟩
    exact k _ (by omega) (by first | exact Or.inl ⟨rfl, by unfold mov; omega⟩ | exact Or.inr ⟨rfl, by unfold mov; omega⟩)
  · refine s_3167_12 _ ?_
    refine ⟨by omega, ?_⟩
    exact k _ (by omega) (by first | exact Or.inl ⟨rfl, by unfold mov; omega⟩ | exact Or.inr ⟨rfl, by unfold mov; omega⟩)
set_option maxRecDepth 100000 in
/-- GatheredPointsModel.boardOf -/
theorem vm_boardOf  {L d : Nat} {K : Option gV → gH → Prop} {s : gH}  (p0 : Int) (hs : MI s) (h_p0 : (-2147483648) ≤ p0 ∧ p0 ≤ 2147483647)  (k : ∀ (r : Int), ((-1) ≤ r ∧ r ≤ 2) → (r < gp_I s 74 55 ∨ r = -1) → K (some (gp_i r)) s) : gs_C L d 3170 3 [gp_r (some 74), gp_i p0] s K := by
  refine s_3170_e _ ?_
  have lp_1 : ∀ (n_1 : Nat) (v2_1 : Int), (0 ≤ v2_1 ∧ v2_1 ≤ 59) → (60 - v2_1).toNat < n_1 → gs_E L d 3170 2 [gp_r (some 74), gp_i p0, gp_i v2_1] [] s K := by
    intro n_1
    induction n_1 with
    | zero => intro v2_1 hv2_1 hm_1; exact absurd hm_1 (Nat.not_lt_zero _)
    | succ n_1 ih_1 =>
      intro v2_1 hv2_1 hm_1
      refine s_3170_2 _ _ ?_
      have f_2 := mr74_55 hs
      refine ⟨fun h_3 => ?_, fun h_3 => ?_⟩
      · refine ⟨by omega, ?_⟩
        have f_4 := mr111 hs (Int.toNat v2_1)
        refine ⟨fun h_5 => ?_, fun h_5 => ?_⟩
        · exact k _ (by omega) (by first | omega | assumption)
        · try rw [show gp_wr (v2_1 + 1) = v2_1 + 1 from gp_wr_id (by omega) (by omega)]
          exact ih_1 _ (by omega) (by omega)
      · exact k _ (by omega) (by first | omega | assumption)
  exact lp_1 _ _ (by omega) (Nat.lt_succ_self _)
set_option maxRecDepth 100000 in
/-- GatheredPointsModel.moves -/
theorem vm_moves  {L d : Nat} {K : Option gV → gH → Prop} {s : gH}  (p0 : Int) (p1 : Int) (hs : MI s) (h_p0 : 0 ≤ p0 ∧ p0 ≤ 2) (h_p1 : 0 ≤ p1 ∧ p1 ≤ 63) (q0 : mMb s) (q1 : p0 < gp_I s 74 55) (q2 : p1 < (gm_cnt (oa s p0) 64 : Nat)) (k : ∀ (t : gH), MI t → gF [112, 113, 114, 115] [56, 57] s t → (mMb t) → K none t) : gs_C L (d + 2) 3169 3 [gp_r (some 74), gp_i p0, gp_i p1] s K := by
  have f_1 := mr74_57 hs
  have f_2 := mr74_55 hs
  refine s_3169_e _ _ ?_
  have h177 := mMb_177 q0 hs
  have f_3 := mr74_57 hs
  refine ⟨by omega, ?_⟩
  intro s_4 e_5
  have hs_6 : MI s_4 := by rw [e_5]; exact mw113 hs _ _ (by omega)
  have hf_7 : gF [112, 113, 114, 115] [56, 57] s s_4 := by rw [e_5]; exact gF.wI (gF.refl _ _ _) (Or.inl rfl)
  have q_8 : gp_I s_4 74 57 = gp_I s 74 57 := by rw [e_5] <;> rfl
  have q_9 : gp_I s_4 74 55 = gp_I s 74 55 := by rw [e_5] <;> rfl
  have f_10 := mr74_57 hs_6
  refine ⟨by omega, ?_⟩
  intro s_11 e_12
  have hs_13 : MI s_11 := by rw [e_12]; exact mw114 hs_6 _ _
  have hf_14 : gF [112, 113, 114, 115] [56, 57] s s_11 := by rw [e_12]; exact gF.wI hf_7 (Or.inl rfl)
  have q_15 : gp_I s_11 74 57 = gp_I s_4 74 57 := by rw [e_12] <;> rfl
  have q_16 : gp_I s_11 74 55 = gp_I s_4 74 55 := by rw [e_12] <;> rfl
  have f_17 := mr74_57 hs_13
  refine ⟨by omega, ?_⟩
  have f_18 := mr112 hs_13 (Int.toNat p0)
  refine ⟨by omega, ?_⟩
  intro s_19 e_20
  have hs_21 : MI s_19 := by rw [e_20]; exact mw115 hs_13 _ _ (by omega)
  have hf_22 : gF [112, 113, 114, 115] [56, 57] s s_19 := by rw [e_20]; exact gF.wI hf_14 (Or.inl rfl)
  have q_23 : gp_I s_19 74 57 = gp_I s_11 74 57 := by rw [e_20] <;> rfl
  have q_24 : gp_I s_19 74 55 = gp_I s_11 74 55 := by rw [e_20] <;> rfl
  have f_25 := mr74_57 hs_21
  try rw [show gp_wr ((gp_I s_19 74 57) + 1) = (gp_I s_19 74 57) + 1 from gp_wr_id (by omega) (by omega)]
  intro s_26 e_27
  have hs_28 : MI s_26 := by rw [e_27]; exact mw74_57 hs_21 _ (by omega)
  have hf_29 : gF [112, 113, 114, 115] [56, 57] s s_26 := by rw [e_27]; exact gF.wI hf_22 (Or.inr ⟨rfl, rfl⟩)
  have q_30 : gp_I s_26 74 57 = (gp_I s_19 74 57) + 1 := by rw [e_27]; exact (gz_rw _ _ _ _ _).1 rfl
  have q_31 : gp_I s_26 74 55 = gp_I s_19 74 55 := by rw [e_27] <;> rfl
  refine vm_optionsAt _ hs_28 (by omega) (fun m_32 p_33 p_34 => ⟨_, rfl, ?_⟩)
  refine vm_inSet _ _ (fun x_35 p_36 p_37 => ⟨_, rfl, ?_⟩)
  have hin : 0 ≤ x_35 ∧ x_35 < gp_I s 112 p0.toNat := mv_in (s := s) (n := p0) (i := p1) ((‹_ = oa _ p0›).trans (by subst_vars; rfl)) (by have hb9 := ‹bd _ (gp_I _ 112 _)›; subst_vars; exact hb9) (by omega) q2 p_37
  refine ⟨by omega, ?_⟩
  intro s_38 e_39
  have hs_40 : MI s_38 := by rw [e_39]; exact mw112 hs_28 _ _ (by omega)
  have hf_41 : gF [112, 113, 114, 115] [56, 57] s s_38 := by rw [e_39]; exact gF.wI hf_29 (Or.inl rfl)
  have q_42 : gp_I s_38 74 57 = gp_I s_26 74 57 := by rw [e_39] <;> rfl
  have q_43 : gp_I s_38 74 55 = gp_I s_26 74 55 := by rw [e_39] <;> rfl
  have f_44 := mr74_56 hs_40
  try rw [show gp_wr (1 - (gp_I s_38 74 56)) = 1 - (gp_I s_38 74 56) from gp_wr_id (by omega) (by omega)]
  intro s_45 e_46
  have hs_47 : MI s_45 := by rw [e_46]; exact mw74_56 hs_40 _ (by omega)
  have hf_48 : gF [112, 113, 114, 115] [56, 57] s s_45 := by rw [e_46]; exact gF.wI hf_41 (Or.inr ⟨rfl, rfl⟩)
  have q_49 : gp_I s_45 74 57 = gp_I s_38 74 57 := by rw [e_46] <;> rfl
  have q_50 : gp_I s_45 74 55 = gp_I s_38 74 55 := by rw [e_46] <;> rfl
  exact k s_45 hs_47 hf_48 (mMb_mv q0 hs (by omega) q1 hin (by subst_vars; rfl) (by subst_vars; rfl) (by subst_vars; exact fun k => rfl) (by subst_vars; exact fun k => gz_rwi s 113 (gp_I s 74 57).toNat p0 k) (by subst_vars; exact fun k => gz_rwi s 115 (gp_I s 74 57).toNat _ k) (by subst_vars; exact fun k => gz_rwi s 112 p0.toNat _ k))
set_option maxRecDepth 100000 in
/-- GatheredPointsModel.go -/
theorem wp_go  {L d : Nat} {K : Option gV → gH → Prop} {s : gH}  (p0 : Int) (p1 : Int) (hs : MI s) (h_p0 : (-2147483648) ≤ p0 ∧ p0 ≤ 2147483647) (h_p1 : (-2147483648) ≤ p1 ∧ p1 ≤ 2147483647) (q0 : mM s) (k : ∀ (r : Int), ∀ (t : gH), MI t → gF [75, 112, 113, 114, 115] [56, 57] s t → (mM t) → K (some (gp_i r)) t) : gs_C L (d + 4) 3171 4 [gp_r (some 74), gp_i p0, gp_i p1] s K := by
  refine s_3171_e _ _ ?_
  have f_1 := mr74_58 hs
  refine ⟨fun h_2 => ?_, fun h_2 => ?_⟩
  · refine vm_finds _ hs (by omega) (fun x_3 s_4 hs_5 hf_6 p_7 p_8 => ⟨_, rfl, ?_⟩)
    have hf_9 : gF [75, 112, 113, 114, 115] [56, 57] s s_4 := gF.sub hf_6 rfl rfl
    have pd_10 : mM s_4 := mM_fr q0 hf_6 rfl rfl rfl rfl rfl rfl rfl
    exact k _ s_4 hs_5 hf_9 (pd_10)
  · have hmb : mMb s := q0 (by omega)
    refine vm_isOver hs (fun x_11 p_12 p_13 => ⟨_, rfl, ?_⟩)
    refine ⟨fun h_14 => ?_, fun h_14 => ?_⟩
    · have hb_15 := hasF p_13 h_14
      refine vm_boardOf _ hs (by omega) (fun x_16 p_17 p_18 => ⟨_, rfl, ?_⟩)
      refine ⟨fun h_19 => ?_, fun h_19 => ?_⟩
      · refine s_3171_56 _ _ _ ?_
        refine vm_finds _ hs (by omega) (fun x_20 s_21 hs_22 hf_23 p_24 p_25 => ⟨_, rfl, ?_⟩)
        have hf_26 : gF [75, 112, 113, 114, 115] [56, 57] s s_21 := gF.sub hf_23 rfl rfl
        have pd_27 : mM s_21 := mM_fr q0 hf_23 rfl rfl rfl rfl rfl rfl rfl
        exact k _ s_21 hs_22 hf_26 (pd_27)
      · have w_28 := gz_oi (p1) (by omega)
        refine vm_optionsAt _ hs (by omega) (fun m_29 p_30 p_31 => ⟨_, rfl, ?_⟩)
        refine vm_size _ (fun x_32 p_33 p_34 => ⟨_, rfl, ?_⟩)
        try rw [show gp_wr (x_32 - 1) = x_32 - 1 from gp_wr_id (by omega) (by omega)]
        have w_35 := gz_oi (x_32 - 1) (by omega)
        refine vm_isIn _ _ _ (fun x_36 p_37 p_38 => ⟨_, rfl, ?_⟩)
        have w_39 : BitVec.toInt (0#64) = 0 := by decide
        refine ⟨fun h_40 => ?_, fun h_40 => ?_⟩
        · refine s_3171_56 _ _ _ ?_
          refine vm_finds _ hs (by omega) (fun x_41 s_42 hs_43 hf_44 p_45 p_46 => ⟨_, rfl, ?_⟩)
          have hf_47 : gF [75, 112, 113, 114, 115] [56, 57] s s_42 := gF.sub hf_44 rfl rfl
          have pd_48 : mM s_42 := mM_fr q0 hf_44 rfl rfl rfl rfl rfl rfl rfl
          exact k _ s_42 hs_43 hf_47 (pd_48)
        · have ho2 := oa_c ‹_ = oa s x_16›
          refine vm_moves _ _ hs (by omega) (by omega) (by assumption) (by first | omega | assumption) (by first | omega | assumption) (fun s_49 hs_50 hf_51 p_52 => ⟨rfl, ?_⟩)
          have hf_53 : gF [75, 112, 113, 114, 115] [56, 57] s s_49 := gF.sub hf_51 rfl rfl
          have hmm68 : mM s_49 := fun _ => p_52
          refine vm_isOver hs_50 (fun x_54 p_55 p_56 => ⟨_, rfl, ?_⟩)
          refine ⟨fun h_57 => ?_, fun h_57 => ?_⟩
          · have hb_58 := hasF p_56 h_57
            refine s_3171_80 _ _ _ _ ?_
            exact k _ s_49 hs_50 hf_53 (hmm68)
          · have hb_59 := hasT p_56 h_57
            refine s_3171_80 _ _ _ _ ?_
            exact k _ s_49 hs_50 hf_53 (hmm68)
    · have hb_60 := hasT p_13 h_14
      refine vm_finds _ hs (by omega) (fun x_61 s_62 hs_63 hf_64 p_65 p_66 => ⟨_, rfl, ?_⟩)
      have hf_67 : gF [75, 112, 113, 114, 115] [56, 57] s s_62 := gF.sub hf_64 rfl rfl
      have pd_68 : mM s_62 := mM_fr q0 hf_64 rfl rfl rfl rfl rfl rfl rfl
      exact k _ s_62 hs_63 hf_67 (pd_68)
set_option maxRecDepth 100000 in
/-- GatheredPointsModel.setsUpMatch -/
theorem vm_setsUpMatch  {L d : Nat} {K : Option gV → gH → Prop} {s : gH}   (hs : MI s)   (k : ∀ (t : gH), MI t → gF [106, 107] [49] s t → (∀ n : Nat, (n : Int) < gp_I s 74 55 → gp_I t 106 n = 16 + n ∧ gp_I t 107 n = gp_I t 112 n) → (gp_I t 74 49 = gp_I s 74 55) → K none t) : gs_C L d 3164 2 [gp_r (some 74)] s K := by
  have f_1 := mr74_49 hs
  have f_2 := mr74_55 hs
  refine s_3164_e ?_
  have f_3 := mr74_55 hs
  intro s_4 e_5
  have hs_6 : MI s_4 := by rw [e_5]; exact mw74_49 hs _ (by omega)
  have hf_7 : gF [106, 107] [49] s s_4 := by rw [e_5]; exact gF.wI (gF.refl _ _ _) (Or.inr ⟨rfl, rfl⟩)
  have q_8 : gp_I s_4 74 49 = gp_I s 74 55 := by rw [e_5]; exact (gz_rw _ _ _ _ _).1 rfl
  have q_9 : gp_I s_4 74 55 = gp_I s 74 55 := by rw [e_5] <;> rfl
  have lp_10 : ∀ (n_10 : Nat) (v1_10 : Int) (s_10 : gH), (MI s_10) → (gF [106, 107] [49] s s_10) → (0 ≤ v1_10 ∧ v1_10 ≤ 15) → (gp_I s_10 74 49 = gp_I s_4 74 49) → (gp_I s_10 74 55 = gp_I s_4 74 55) → (∀ n : Nat, (n : Int) < v1_10 → gp_I s_10 106 n = 16 + n ∧ gp_I s_10 107 n = gp_I s_10 112 n) → (v1_10 ≤ gp_I s_10 74 49) → (gp_I s_10 74 49 = gp_I s 74 55) → (16 - v1_10).toNat < n_10 → gs_E L d 3164 10 [gp_r (some 74), gp_i v1_10] [] s_10 K := by
    intro n_10
    induction n_10 with
    | zero => intro v1_10 s_10 hs_s_10 hf_s_10 hv1_10 tk0_10 tk1_10 iv0_10 iv1_10 iv2_10 hm_10; exact absurd hm_10 (Nat.not_lt_zero _)
    | succ n_10 ih_10 =>
      intro v1_10 s_10 hs_s_10 hf_s_10 hv1_10 tk0_10 tk1_10 iv0_10 iv1_10 iv2_10 hm_10
      refine s_3164_10 _ ?_
      have f_11 := mr74_49 hs_s_10
      refine ⟨fun h_12 => ?_, fun h_12 => ?_⟩
      · try rw [show gp_wr (16 + v1_10) = 16 + v1_10 from gp_wr_id (by omega) (by omega)]
        refine ⟨by omega, ?_⟩
        intro s_13 e_14
        have hs_15 : MI s_13 := by rw [e_14]; exact mw106 hs_s_10 _ _ (by omega)
        have hf_16 : gF [106, 107] [49] s s_13 := by rw [e_14]; exact gF.wI hf_s_10 (Or.inl rfl)
        have q_17 : gp_I s_13 74 49 = gp_I s_10 74 49 := by rw [e_14] <;> rfl
        have q_18 : gp_I s_13 74 55 = gp_I s_10 74 55 := by rw [e_14] <;> rfl
        refine ⟨by omega, ?_⟩
        have f_19 := mr112 hs_15 (Int.toNat v1_10)
        refine ⟨by omega, ?_⟩
        intro s_20 e_21
        have hs_22 : MI s_20 := by rw [e_21]; exact mw107 hs_15 _ _ (by omega)
        have hf_23 : gF [106, 107] [49] s s_20 := by rw [e_21]; exact gF.wI hf_16 (Or.inl rfl)
        have q_24 : gp_I s_20 74 49 = gp_I s_13 74 49 := by rw [e_21] <;> rfl
        have q_25 : gp_I s_20 74 55 = gp_I s_13 74 55 := by rw [e_21] <;> rfl
        try rw [show gp_wr (v1_10 + 1) = v1_10 + 1 from gp_wr_id (by omega) (by omega)]
        exact ih_10 _ _ hs_22 hf_23 (by omega) (by first | rfl | omega) (by first | rfl | omega) (by subst_vars; exact su_step (by omega) iv0_10) (by first | omega | assumption) (by first | omega | assumption) (by omega)
      · exact k s_10 hs_s_10 hf_s_10 (fun n hn => iv0_10 n (by omega)) (by first | omega | assumption)
  exact lp_10 _ _ _ hs_6 hf_7 (by omega) (by first | rfl | omega) (by first | rfl | omega) (fun n hn => absurd hn (by omega)) (by first | omega | assumption) (by first | omega | assumption) (Nat.lt_succ_self _)
set_option maxRecDepth 100000 in
/-- GatheredPointsModel.play -/
theorem wp_play  {L d : Nat} {K : Option gV → gH → Prop} {s : gH}  (p0 : Int) (hs : MI s) (h_p0 : (-2147483648) ≤ p0 ∧ p0 ≤ 2147483647) (q0 : mM s) (k : ∀ (r : Int), ∀ (t : gH), MI t → gF [75, 106, 107, 108, 109, 110, 112, 113, 114, 115] [49, 56, 57] s t → (mM t) → K (some (gp_i r)) t) : gs_C L (d + 4) 3172 4 [gp_r (some 74), gp_i p0] s K := by
  have f_1 := mr74_58 hs
  refine s_3172_e _ ?_
  have w_2 := gz_oi (p0) (by omega)
  refine vm_isIn _ _ _ (fun x_3 p_4 p_5 => ⟨_, rfl, ?_⟩)
  have w_6 : BitVec.toInt (1#64) = 1 := by decide
  have w_7 : BitVec.toInt (BitVec.ofInt 64 20) = 20 := by decide
  refine ⟨fun h_8 => ?_, fun h_8 => ?_⟩
  · refine vm_finds _ hs (by omega) (fun x_9 s_10 hs_11 hf_12 p_13 p_14 => ⟨_, rfl, ?_⟩)
    have hf_15 : gF [75, 106, 107, 108, 109, 110, 112, 113, 114, 115] [49, 56, 57] s s_10 := gF.sub hf_12 rfl rfl
    have pd_16 : mM s_10 := mM_fr q0 hf_12 rfl rfl rfl rfl rfl rfl rfl
    have q_17 := (hf_12.2 74 58 rfl (fun _ => rfl)).1
    exact k _ s_10 hs_11 hf_15 (pd_16)
  · have f_18 := mr74_58 hs
    refine ⟨fun h_19 => ?_, fun h_19 => ?_⟩
    · refine vm_finds _ hs (by omega) (fun x_20 s_21 hs_22 hf_23 p_24 p_25 => ⟨_, rfl, ?_⟩)
      have hf_26 : gF [75, 106, 107, 108, 109, 110, 112, 113, 114, 115] [49, 56, 57] s s_21 := gF.sub hf_23 rfl rfl
      have pd_27 : mM s_21 := mM_fr q0 hf_23 rfl rfl rfl rfl rfl rfl rfl
      have q_28 := (hf_23.2 74 58 rfl (fun _ => rfl)).1
      exact k _ s_21 hs_22 hf_26 (pd_27)
    · have hmb : mMb s := q0 (by omega)
      refine vm_setsUpMatch hs (fun s_29 hs_30 hf_31 p_32 p_33 => ⟨rfl, ?_⟩)
      have hf_34 : gF [75, 106, 107, 108, 109, 110, 112, 113, 114, 115] [49, 56, 57] s s_29 := gF.sub hf_31 rfl rfl
      have pd_35 : mM s_29 := mM_fr q0 hf_31 rfl rfl rfl rfl rfl rfl rfl
      have q_36 := (hf_31.2 74 58 rfl (fun _ => rfl)).1
      refine vm_works hs_30 (fun s_37 hs_38 hf_39 => ⟨rfl, ?_⟩)
      have hf_40 : gF [75, 106, 107, 108, 109, 110, 112, 113, 114, 115] [49, 56, 57] s s_37 := gF.trans hf_34 hf_39 rfl rfl
      have pd_41 : mM s_37 := mM_fr pd_35 hf_39 rfl rfl rfl rfl rfl rfl rfl
      have q_42 := (hf_39.2 74 58 rfl (fun _ => rfl)).1
      have lp_43 : ∀ (n_43 : Nat) (v2_43 : Int) (v3_43 : gV) (s_43 : gH), (MI s_43) → (gF [75, 106, 107, 108, 109, 110, 112, 113, 114, 115] [49, 56, 57] s s_43) → (mM s_43) → (0 ≤ v2_43 ∧ v2_43 ≤ 59) → (gp_I s_43 74 58 = gp_I s_37 74 58) → (gp_I s_43 74 58 = 1) → (60 - v2_43).toNat < n_43 → gs_E L (d + 4) 3172 41 [gp_r (some 74), gp_i p0, gp_i v2_43, v3_43] [] s_43 K := by
        intro n_43
        induction n_43 with
        | zero => intro v2_43 v3_43 s_43 hs_s_43 hf_s_43 mM_s_43 hv2_43 tk0_43 iv0_43 hm_43; exact absurd hm_43 (Nat.not_lt_zero _)
        | succ n_43 ih_43 =>
          intro v2_43 v3_43 s_43 hs_s_43 hf_s_43 mM_s_43 hv2_43 tk0_43 iv0_43 hm_43
          refine s_3172_41 _ _ _ ?_
          refine ⟨fun h_44 => ?_, fun h_44 => ?_⟩
          · refine vm_isOver hs_s_43 (fun x_45 p_46 p_47 => ⟨_, rfl, ?_⟩)
            refine ⟨fun h_48 => ?_, fun h_48 => ?_⟩
            · have hb_49 := hasF p_47 h_48
              have hmo : mov s_43 := by assumption
              refine vm_setsUpMatch hs_s_43 (fun s_50 hs_51 hf_52 p_53 p_54 => ⟨rfl, ?_⟩)
              have hf_55 : gF [75, 106, 107, 108, 109, 110, 112, 113, 114, 115] [49, 56, 57] s s_50 := gF.trans hf_s_43 hf_52 rfl rfl
              have pd_56 : mM s_50 := mM_fr mM_s_43 hf_52 rfl rfl rfl rfl rfl rfl rfl
              have pd_57 : mov s_50 := mov_fr hmo hf_52 rfl rfl rfl rfl rfl
              have q_58 := (hf_52.2 74 58 rfl (fun _ => rfl)).1
              have hsg := p_53
              have hs49 := p_54
              have hf9 := hf_52
              have f_59 := mr74_56 hs_51
              refine vm_bestMove _ hs_51 (by omega) (fun x_60 p_61 p_62 => ⟨_, rfl, ?_⟩)
              have hbm := bm_fin hs_51 (fun n hn => hsg n (by have h9 := (hf9.2 74 55 rfl (fun _ => rfl)).1; omega)) (by have h9 := (hf9.2 74 55 rfl (fun _ => rfl)).1; omega) p_62 pd_57
              have hmb2 : mMb s_50 := pd_56 (by have := iv0_43; have h9 := (hf9.2 74 58 rfl (fun _ => rfl)).1; omega)
              have w_63 := gz_td (x_60) (100) (by omega)
              try rw [show gp_wr (x_60.tdiv 100) = x_60.tdiv 100 from gp_wr_id (by omega) (by omega)]
              have w_64 := gz_td (x_60) (100) (by omega)
              refine vm_moves _ _ hs_51 (by omega) (by omega) (by assumption) (by first | omega | assumption) (by first | omega | assumption) (fun s_65 hs_66 hf_67 p_68 => ⟨rfl, ?_⟩)
              have hf_69 : gF [75, 106, 107, 108, 109, 110, 112, 113, 114, 115] [49, 56, 57] s s_65 := gF.trans hf_55 hf_67 rfl rfl
              have q_70 := (hf_67.2 74 58 rfl (fun _ => rfl)).1
              have hmm78 : mM s_65 := fun _ => p_68
              have h58 := (hf_67.2 74 58 rfl (fun _ => rfl)).1
              have h58b := (hf9.2 74 58 rfl (fun _ => rfl)).1
              try rw [show gp_wr (v2_43 + 1) = v2_43 + 1 from gp_wr_id (by omega) (by omega)]
              exact ih_43 _ _ _ hs_66 hf_69 hmm78 (by omega) (by first | rfl | omega) (by first | omega | assumption) (by omega)
            · have hb_71 := hasT p_47 h_48
              refine s_3172_84 _ _ _ ?_
              exact k _ s_43 hs_s_43 hf_s_43 (mM_s_43)
          · refine s_3172_84 _ _ _ ?_
            exact k _ s_43 hs_s_43 hf_s_43 (mM_s_43)
      exact lp_43 _ _ _ _ hs_38 hf_40 pd_41 (by omega) (by first | rfl | omega) (by omega) (Nat.lt_succ_self _)
set_option maxRecDepth 100000 in
/-- GatheredPointsModel.loose -/
theorem wp_loose  {L d : Nat} {K : Option gV → gH → Prop} {s : gH}  (p0 : Int) (hs : MI s) (h_p0 : (-2147483648) ≤ p0 ∧ p0 ≤ 2147483647) (q0 : mM s) (k : ∀ (r : Int), ∀ (t : gH), MI t → gF [75, 112, 113, 114, 115] [7, 56, 57] s t → (mM t) → K (some (gp_i r)) t) : gs_C L (d + 4) 3173 5 [gp_r (some 74), gp_i p0] s K := by
  have f_1 := mr74_58 hs
  refine s_3173_e _ ?_
  have w_2 := gz_oi (p0) (by omega)
  refine vm_isIn _ _ _ (fun x_3 p_4 p_5 => ⟨_, rfl, ?_⟩)
  have w_6 : BitVec.toInt (1#64) = 1 := by decide
  have w_7 : BitVec.toInt (BitVec.ofInt 64 20) = 20 := by decide
  refine ⟨fun h_8 => ?_, fun h_8 => ?_⟩
  · refine vm_finds _ hs (by omega) (fun x_9 s_10 hs_11 hf_12 p_13 p_14 => ⟨_, rfl, ?_⟩)
    have hf_15 : gF [75, 112, 113, 114, 115] [7, 56, 57] s s_10 := gF.sub hf_12 rfl rfl
    have pd_16 : mM s_10 := mM_fr q0 hf_12 rfl rfl rfl rfl rfl rfl rfl
    have q_17 := (hf_12.2 74 58 rfl (fun _ => rfl)).1
    exact k _ s_10 hs_11 hf_15 (pd_16)
  · have f_18 := mr74_58 hs
    refine ⟨fun h_19 => ?_, fun h_19 => ?_⟩
    · refine vm_finds _ hs (by omega) (fun x_20 s_21 hs_22 hf_23 p_24 p_25 => ⟨_, rfl, ?_⟩)
      have hf_26 : gF [75, 112, 113, 114, 115] [7, 56, 57] s s_21 := gF.sub hf_23 rfl rfl
      have pd_27 : mM s_21 := mM_fr q0 hf_23 rfl rfl rfl rfl rfl rfl rfl
      have q_28 := (hf_23.2 74 58 rfl (fun _ => rfl)).1
      exact k _ s_21 hs_22 hf_26 (pd_27)
    · have lp_29 : ∀ (n_29 : Nat) (v2_29 : Int) (v3_29 : gV) (v4_29 : gV) (s_29 : gH), (MI s_29) → (gF [75, 112, 113, 114, 115] [7, 56, 57] s s_29) → (mM s_29) → (0 ≤ v2_29 ∧ v2_29 ≤ 59) → (gp_I s_29 74 58 = gp_I s 74 58) → (gp_I s_29 74 58 = 1) → (60 - v2_29).toNat < n_29 → gs_E L (d + 4) 3173 33 [gp_r (some 74), gp_i p0, gp_i v2_29, v3_29, v4_29] [] s_29 K := by
        intro n_29
        induction n_29 with
        | zero => intro v2_29 v3_29 v4_29 s_29 hs_s_29 hf_s_29 mM_s_29 hv2_29 tk0_29 iv0_29 hm_29; exact absurd hm_29 (Nat.not_lt_zero _)
        | succ n_29 ih_29 =>
          intro v2_29 v3_29 v4_29 s_29 hs_s_29 hf_s_29 mM_s_29 hv2_29 tk0_29 iv0_29 hm_29
          refine s_3173_33 _ _ _ _ ?_
          refine ⟨fun h_30 => ?_, fun h_30 => ?_⟩
          · refine vm_isOver hs_s_29 (fun x_31 p_32 p_33 => ⟨_, rfl, ?_⟩)
            refine ⟨fun h_34 => ?_, fun h_34 => ?_⟩
            · have hb_35 := hasF p_33 h_34
              have hmo : mov s_29 := by assumption
              have w_36 := wr_rng ((gp_I s_29 74 7) * 1103515245)
              have w_37 := wr_rng ((gp_wr ((gp_I s_29 74 7) * 1103515245)) + 12345)
              intro s_38 e_39
              have hs_40 : MI s_38 := by rw [e_39]; exact mw74_7 hs_s_29 _
              have hf_41 : gF [75, 112, 113, 114, 115] [7, 56, 57] s s_38 := by rw [e_39]; exact gF.wI hf_s_29 (Or.inr ⟨rfl, rfl⟩)
              have q_42 : gp_I s_38 74 58 = gp_I s_29 74 58 := by rw [e_39] <;> rfl
              have pd_43 : mM s_38 := by rw [e_39]; exact mM_fr mM_s_29 (gF.wI (gF.refl [] [7] _) (Or.inr ⟨rfl, rfl⟩)) rfl rfl rfl rfl rfl rfl rfl
              have pd_44 : mov s_38 := by rw [e_39]; exact mov_fr hmo (gF.wI (gF.refl [] [7] _) (Or.inr ⟨rfl, rfl⟩)) rfl rfl rfl rfl rfl
              have w_45 : 0 ≤ gp_ushr (gp_I s_38 74 7) 8 ∧ gp_ushr (gp_I s_38 74 7) 8 < 16777216 := gz_ushn (gp_I s_38 74 7) 8 16777216 (by decide) (by decide)
              refine vm_allMoves hs_40 (fun x_46 p_47 p_48 => ⟨_, rfl, ?_⟩)
              have hm9 : 0 < amv s_38 (Int.toNat (gp_I s_38 74 55)) := pd_44
              have hN9 := mr74_55 hs_40
              have htm := tm_rng (gp_ushr (gp_I s_38 74 7) 8) x_46 (by omega) (by omega)
              refine ⟨by omega, ?_⟩
              have w_49 := gz_td (gp_ushr (gp_I s_38 74 7) 8) (x_46) (by omega)
              have lp_50 : ∀ (n_50 : Nat) (v3_50 : Int) (v4_50 : Int), (0 ≤ v3_50 ∧ v3_50 ≤ 191) → (0 ≤ v4_50 ∧ v4_50 ≤ 2) → (v3_50 + (amv s_38 (Int.toNat v4_50) : Nat) < (amv s_38 (Int.toNat (gp_I s_38 74 55)) : Nat)) → (3 - v4_50).toNat < n_50 → gs_E L (d + 4) 3173 77 [gp_r (some 74), gp_i p0, gp_i v2_29, gp_i v3_50, gp_i v4_50] [] s_38 K := by
                intro n_50
                induction n_50 with
                | zero => intro v3_50 v4_50 hv3_50 hv4_50 iv0_50 hm_50; exact absurd hm_50 (Nat.not_lt_zero _)
                | succ n_50 ih_50 =>
                  intro v3_50 v4_50 hv3_50 hv4_50 iv0_50 hm_50
                  refine s_3173_77 _ _ _ _ ?_
                  have hlt := amv_lt (by omega) (by omega) iv0_50
                  refine vm_optionsAt _ hs_40 (by omega) (fun m_51 p_52 p_53 => ⟨_, rfl, ?_⟩)
                  refine vm_size _ (fun x_54 p_55 p_56 => ⟨_, rfl, ?_⟩)
                  have hoA := oa_c ‹_ = oa s_38 v4_50›
                  refine ⟨fun h_57 => ?_, fun h_57 => ?_⟩
                  · have ho2 := oa_c ‹_ = oa s_38 v4_50›
                    have hmb : mMb s_38 := pd_43 (by omega)
                    refine vm_moves _ _ hs_40 (by omega) (by omega) (by assumption) (by first | omega | assumption) (by first | omega | assumption) (fun s_58 hs_59 hf_60 p_61 => ⟨rfl, ?_⟩)
                    have hf_62 : gF [75, 112, 113, 114, 115] [7, 56, 57] s s_58 := gF.trans hf_41 hf_60 rfl rfl
                    have q_63 := (hf_60.2 74 58 rfl (fun _ => rfl)).1
                    have hmm115 : mM s_58 := fun _ => p_61
                    try rw [show gp_wr (v2_29 + 1) = v2_29 + 1 from gp_wr_id (by omega) (by omega)]
                    exact ih_29 _ _ _ _ hs_59 hf_62 hmm115 (by omega) (by first | rfl | omega) (by omega) (by omega)
                  · refine vm_optionsAt _ hs_40 (by omega) (fun m_64 p_65 p_66 => ⟨_, rfl, ?_⟩)
                    refine vm_size _ (fun x_67 p_68 p_69 => ⟨_, rfl, ?_⟩)
                    have hoB := oa_c ‹_ = oa s_38 v4_50›
                    have hst := amv_s (s := s_38) (v := v4_50) (y := (amv s_38 (Int.toNat v4_50) : Nat)) (by omega) rfl p_69 (by assumption)
                    try rw [show gp_wr (v3_50 - x_67) = v3_50 - x_67 from gp_wr_id (by omega) (by omega)]
                    try rw [show gp_wr (v4_50 + 1) = v4_50 + 1 from gp_wr_id (by omega) (by omega)]
                    have hlt2 := amv_lt (s := s_38) (v := (v4_50 + 1)) (w := (v3_50 - x_67)) (n := gp_I s_38 74 55) (by omega) (by omega) (by omega)
                    exact ih_50 _ _ (by omega) (by omega) (by first | omega | assumption) (by omega)
              exact lp_50 _ _ _ (by omega) (by omega) (by show _ + ((0 : Nat) : Int) < _; omega) (Nat.lt_succ_self _)
            · have hb_70 := hasT p_33 h_34
              refine s_3173_121 _ _ _ _ ?_
              exact k _ s_29 hs_s_29 hf_s_29 (mM_s_29)
          · refine s_3173_121 _ _ _ _ ?_
            exact k _ s_29 hs_s_29 hf_s_29 (mM_s_29)
      exact lp_29 _ _ _ _ _ hs (gF.refl _ _ _) q0 (by omega) (by first | rfl | omega) (by omega) (Nat.lt_succ_self _)
set_option maxRecDepth 100000 in
/-- GatheredPointsModel.back -/
theorem wp_back  {L d : Nat} {K : Option gV → gH → Prop} {s : gH}   (hs : MI s)  (q0 : mM s) (k : ∀ (r : Int), ∀ (t : gH), MI t → gF [75, 112] [56, 57] s t → (mM t) → K (some (gp_i r)) t) : gs_C L (d + 1) 3174 1 [gp_r (some 74)] s K := by
  have f_1 := mr74_57 hs
  refine s_3174_e ?_
  have f_2 := mr74_58 hs
  refine ⟨fun h_3 => ?_, fun h_3 => ?_⟩
  · refine s_3174_14 ?_
    refine vm_finds _ hs (by omega) (fun x_4 s_5 hs_6 hf_7 p_8 p_9 => ⟨_, rfl, ?_⟩)
    have hf_10 : gF [75, 112] [56, 57] s s_5 := gF.sub hf_7 rfl rfl
    have pd_11 : mM s_5 := mM_fr q0 hf_7 rfl rfl rfl rfl rfl rfl rfl
    have q_12 := (hf_7.2 74 57 rfl (fun _ => rfl)).1
    exact k _ s_5 hs_6 hf_10 (pd_11)
  · have f_13 := mr74_57 hs
    refine ⟨fun h_14 => ?_, fun h_14 => ?_⟩
    · refine s_3174_14 ?_
      refine vm_finds _ hs (by omega) (fun x_15 s_16 hs_17 hf_18 p_19 p_20 => ⟨_, rfl, ?_⟩)
      have hf_21 : gF [75, 112] [56, 57] s s_16 := gF.sub hf_18 rfl rfl
      have pd_22 : mM s_16 := mM_fr q0 hf_18 rfl rfl rfl rfl rfl rfl rfl
      have q_23 := (hf_18.2 74 57 rfl (fun _ => rfl)).1
      exact k _ s_16 hs_17 hf_21 (pd_22)
    · have hmb : mMb s := q0 (by omega)
      have f_24 := mr74_57 hs
      try rw [show gp_wr ((gp_I s 74 57) - 1) = (gp_I s 74 57) - 1 from gp_wr_id (by omega) (by omega)]
      intro s_25 e_26
      have hs_27 : MI s_25 := by rw [e_26]; exact mw74_57 hs _ (by omega)
      have hf_28 : gF [75, 112] [56, 57] s s_25 := by rw [e_26]; exact gF.wI (gF.refl _ _ _) (Or.inr ⟨rfl, rfl⟩)
      have q_29 : gp_I s_25 74 57 = (gp_I s 74 57) - 1 := by rw [e_26]; exact (gz_rw _ _ _ _ _).1 rfl
      have f_30 := mr74_57 hs_27
      refine ⟨by omega, ?_⟩
      have f_31 := mr113 hs_27 (Int.toNat (gp_I s_25 74 57))
      have f_32 := mr74_57 hs_27
      refine ⟨by omega, ?_⟩
      have f_33 := mr115 hs_27 (Int.toNat (gp_I s_25 74 57))
      refine ⟨by omega, ?_⟩
      intro s_34 e_35
      have hs_36 : MI s_34 := by rw [e_35]; exact mw112 hs_27 _ _ (by omega)
      have hf_37 : gF [75, 112] [56, 57] s s_34 := by rw [e_35]; exact gF.wI hf_28 (Or.inl rfl)
      have q_38 : gp_I s_34 74 57 = gp_I s_25 74 57 := by rw [e_35] <;> rfl
      have f_39 := mr74_56 hs_36
      try rw [show gp_wr (1 - (gp_I s_34 74 56)) = 1 - (gp_I s_34 74 56) from gp_wr_id (by omega) (by omega)]
      intro s_40 e_41
      have hs_42 : MI s_40 := by rw [e_41]; exact mw74_56 hs_36 _ (by omega)
      have hf_43 : gF [75, 112] [56, 57] s s_40 := by rw [e_41]; exact gF.wI hf_37 (Or.inr ⟨rfl, rfl⟩)
      have q_44 : gp_I s_40 74 57 = gp_I s_34 74 57 := by rw [e_41] <;> rfl
      have hmm : mM s_40 := fun _ => mMb_bk hmb hs (by omega) (by subst_vars; rfl) (by subst_vars; rfl) (by subst_vars; exact fun k => rfl) (by subst_vars; exact fun k => rfl) (by subst_vars; exact fun k => rfl) (by subst_vars; exact fun k => gz_rwi _ 112 _ _ k)
      have f_45 := mr74_57 hs_42
      exact k _ s_40 hs_42 hf_43 (hmm)
set_option maxRecDepth 100000 in
/-- GatheredPointsModel.matchOf -/
theorem wp_matchOf  {L d : Nat} {K : Option gV → gH → Prop} {s : gH}  (p0 : Int) (hs : MI s) (h_p0 : (-2147483648) ≤ p0 ∧ p0 ≤ 2147483647) (q0 : mM s) (k : ∀ (r : Int), ∀ (t : gH), MI t → gF [75, 106, 107, 108, 109, 110] [49] s t → (mM t) → K (some (gp_i r)) t) : gs_C L (d + 4) 3175 4 [gp_r (some 74), gp_i p0] s K := by
  refine s_3175_e _ ?_
  have w_1 := gz_oi (p0) (by omega)
  refine vm_isIn _ _ _ (fun x_2 p_3 p_4 => ⟨_, rfl, ?_⟩)
  have w_5 : BitVec.toInt (0#64) = 0 := by decide
  have w_6 : BitVec.toInt (BitVec.ofInt 64 5) = 5 := by decide
  refine ⟨fun h_7 => ?_, fun h_7 => ?_⟩
  · refine vm_finds _ hs (by omega) (fun x_8 s_9 hs_10 hf_11 p_12 p_13 => ⟨_, rfl, ?_⟩)
    have hf_14 : gF [75, 106, 107, 108, 109, 110] [49] s s_9 := gF.sub hf_11 rfl rfl
    have pd_15 : mM s_9 := mM_fr q0 hf_11 rfl rfl rfl rfl rfl rfl rfl
    exact k _ s_9 hs_10 hf_14 (pd_15)
  · have f_16 := mr74_58 hs
    refine ⟨fun h_17 => ?_, fun h_17 => ?_⟩
    · refine vm_finds _ hs (by omega) (fun x_18 s_19 hs_20 hf_21 p_22 p_23 => ⟨_, rfl, ?_⟩)
      have hf_24 : gF [75, 106, 107, 108, 109, 110] [49] s s_19 := gF.sub hf_21 rfl rfl
      have pd_25 : mM s_19 := mM_fr q0 hf_21 rfl rfl rfl rfl rfl rfl rfl
      exact k _ s_19 hs_20 hf_24 (pd_25)
    · refine ⟨fun h_26 => ?_, fun h_26 => ?_, fun h_26 => ?_, fun h_26 => ?_, fun h_26 => ?_, fun h_26 => ?_⟩
      · have f_27 := mr74_56 hs
        exact k _ s hs (gF.refl _ _ _) (q0)
      · have f_28 := mr74_57 hs
        exact k _ s hs (gF.refl _ _ _) (q0)
      · refine vm_isOver hs (fun x_29 p_30 p_31 => ⟨_, rfl, ?_⟩)
        refine ⟨fun h_32 => ?_, fun h_32 => ?_⟩
        · have hb_33 := hasF p_31 h_32
          refine s_3175_90 _ _ _ _ ?_
          exact k _ s hs (gF.refl _ _ _) (q0)
        · have hb_34 := hasT p_31 h_32
          refine s_3175_90 _ _ _ _ ?_
          exact k _ s hs (gF.refl _ _ _) (q0)
      · have lp_35 : ∀ (n_35 : Nat) (v2_35 : Int) (v3_35 : Int), ((-2147483648) ≤ v2_35 ∧ v2_35 ≤ 2147483647) → (0 ≤ v3_35 ∧ v3_35 ≤ 3) → (4 - v3_35).toNat < n_35 → gs_E L (d + 4) 3175 93 [gp_r (some 74), gp_i p0, gp_i v2_35, gp_i v3_35] [] s K := by
          intro n_35
          induction n_35 with
          | zero => intro v2_35 v3_35 hv2_35 hv3_35 hm_35; exact absurd hm_35 (Nat.not_lt_zero _)
          | succ n_35 ih_35 =>
            intro v2_35 v3_35 hv2_35 hv3_35 hm_35
            refine s_3175_93 _ _ _ ?_
            have f_36 := mr74_55 hs
            refine ⟨fun h_37 => ?_, fun h_37 => ?_⟩
            · try rw [show gp_wr (16 + v3_35) = 16 + v3_35 from gp_wr_id (by omega) (by omega)]
              refine ⟨by omega, ?_⟩
              have f_38 := mr112 hs (Int.toNat v3_35)
              have f_39 := mr74_56 hs
              refine vm_shut _ _ _ hs (by omega) (by omega) (fun x_40 p_41 p_42 => ⟨_, rfl, ?_⟩)
              have w_43 := wr_rng (v2_35 + x_40)
              try rw [show gp_wr (v3_35 + 1) = v3_35 + 1 from gp_wr_id (by omega) (by omega)]
              exact ih_35 _ _ (by omega) (by omega) (by omega)
            · refine vm_isOver hs (fun x_44 p_45 p_46 => ⟨_, rfl, ?_⟩)
              refine ⟨fun h_47 => ?_, fun h_47 => ?_⟩
              · have hb_48 := hasF p_46 h_47
                refine vm_finds _ hs (by omega) (fun x_49 s_50 hs_51 hf_52 p_53 p_54 => ⟨_, rfl, ?_⟩)
                have hf_55 : gF [75, 106, 107, 108, 109, 110] [49] s s_50 := gF.sub hf_52 rfl rfl
                have pd_56 : mM s_50 := mM_fr q0 hf_52 rfl rfl rfl rfl rfl rfl rfl
                refine s_3175_144 _ _ _ _ ?_
                exact k _ s_50 hs_51 hf_55 (pd_56)
              · have hb_57 := hasT p_46 h_47
                refine s_3175_144 _ _ _ _ ?_
                exact k _ s hs (gF.refl _ _ _) (q0)
        exact lp_35 _ _ _ (by omega) (by omega) (Nat.lt_succ_self _)
      · refine vm_setsUpMatch hs (fun s_58 hs_59 hf_60 p_61 p_62 => ⟨rfl, ?_⟩)
        have hf_63 : gF [75, 106, 107, 108, 109, 110] [49] s s_58 := gF.sub hf_60 rfl rfl
        have pd_64 : mM s_58 := mM_fr q0 hf_60 rfl rfl rfl rfl rfl rfl rfl
        refine vm_works hs_59 (fun s_65 hs_66 hf_67 => ⟨rfl, ?_⟩)
        have hf_68 : gF [75, 106, 107, 108, 109, 110] [49] s s_65 := gF.trans hf_63 hf_67 rfl rfl
        have pd_69 : mM s_65 := mM_fr pd_64 hf_67 rfl rfl rfl rfl rfl rfl rfl
        have f_70 := mr74_56 hs_66
        refine vm_scoreNow _ hs_66 (fun x_71 => ⟨_, rfl, ?_⟩)
        exact k _ s_65 hs_66 hf_68 (pd_69)
      · have lp_72 : ∀ (n_72 : Nat) (v2_72 : Int) (v3_72 : Int), ((-2147483648) ≤ v2_72 ∧ v2_72 ≤ 2147483647) → (0 ≤ v3_72 ∧ v3_72 ≤ 3) → (4 - v3_72).toNat < n_72 → gs_E L (d + 4) 3175 164 [gp_r (some 74), gp_i p0, gp_i v2_72, gp_i v3_72] [] s K := by
          intro n_72
          induction n_72 with
          | zero => intro v2_72 v3_72 hv2_72 hv3_72 hm_72; exact absurd hm_72 (Nat.not_lt_zero _)
          | succ n_72 ih_72 =>
            intro v2_72 v3_72 hv2_72 hv3_72 hm_72
            refine s_3175_164 _ _ _ ?_
            have f_73 := mr74_55 hs
            refine ⟨fun h_74 => ?_, fun h_74 => ?_⟩
            · refine ⟨by omega, ?_⟩
              have f_75 := mr111 hs (Int.toNat v3_72)
              have w_76 := gz_shlx (1) (gp_I s 111 (Int.toNat v3_72))
              have w_77 := gz_orx (v2_72) (gp_shl 1 (gp_I s 111 (Int.toNat v3_72)))
              try rw [show gp_wr (v3_72 + 1) = v3_72 + 1 from gp_wr_id (by omega) (by omega)]
              exact ih_72 _ _ (by omega) (by omega) (by omega)
            · exact k _ s hs (gF.refl _ _ _) (q0)
        exact lp_72 _ _ _ (by omega) (by omega) (Nat.lt_succ_self _)
set_option maxRecDepth 100000 in
/-- GatheredPointsModel.moved -/
theorem wp_moved  {L d : Nat} {K : Option gV → gH → Prop} {s : gH}  (p0 : Int) (hs : MI s) (h_p0 : (-2147483648) ≤ p0 ∧ p0 ≤ 2147483647) (q0 : mM s) (k : ∀ (r : Int), ∀ (t : gH), MI t → gF [75] [] s t → (mM t) → K (some (gp_i r)) t) : gs_C L (d + 1) 3176 2 [gp_r (some 74), gp_i p0] s K := by
  refine s_3176_e _ ?_
  have f_1 := mr74_58 hs
  refine ⟨fun h_2 => ?_, fun h_2 => ?_⟩
  · refine s_3176_23 _ ?_
    refine vm_finds _ hs (by omega) (fun x_3 s_4 hs_5 hf_6 p_7 p_8 => ⟨_, rfl, ?_⟩)
    have hf_9 : gF [75] [] s s_4 := gF.sub hf_6 rfl rfl
    have pd_10 : mM s_4 := mM_fr q0 hf_6 rfl rfl rfl rfl rfl rfl rfl
    exact k _ s_4 hs_5 hf_9 (pd_10)
  · have w_11 := gz_oi (p0) (by omega)
    have f_12 := mr74_57 hs
    try rw [show gp_wr ((gp_I s 74 57) - 1) = (gp_I s 74 57) - 1 from gp_wr_id (by omega) (by omega)]
    have w_13 := gz_oi ((gp_I s 74 57) - 1) (by omega)
    refine vm_isIn _ _ _ (fun x_14 p_15 p_16 => ⟨_, rfl, ?_⟩)
    have w_17 : BitVec.toInt (0#64) = 0 := by decide
    refine ⟨fun h_18 => ?_, fun h_18 => ?_⟩
    · refine s_3176_23 _ ?_
      refine vm_finds _ hs (by omega) (fun x_19 s_20 hs_21 hf_22 p_23 p_24 => ⟨_, rfl, ?_⟩)
      have hf_25 : gF [75] [] s s_20 := gF.sub hf_22 rfl rfl
      have pd_26 : mM s_20 := mM_fr q0 hf_22 rfl rfl rfl rfl rfl rfl rfl
      exact k _ s_20 hs_21 hf_25 (pd_26)
    · refine ⟨by omega, ?_⟩
      have f_27 := mr113 hs (Int.toNat p0)
      refine ⟨by omega, ?_⟩
      have f_28 := mr111 hs (Int.toNat (gp_I s 113 (Int.toNat p0)))
      try rw [show gp_wr (100 * (gp_I s 111 (Int.toNat (gp_I s 113 (Int.toNat p0))))) = 100 * (gp_I s 111 (Int.toNat (gp_I s 113 (Int.toNat p0)))) from gp_wr_id (by omega) (by omega)]
      refine ⟨by omega, ?_⟩
      have w_29 := wr_rng ((100 * (gp_I s 111 (Int.toNat (gp_I s 113 (Int.toNat p0))))) + (gp_I s 114 (Int.toNat p0)))
      exact k _ s hs (gF.refl _ _ _) (q0)
set_option maxRecDepth 100000 in
/-- GatheredPointsModel.board -/
theorem wp_board  {L d : Nat} {K : Option gV → gH → Prop} {s : gH}  (p0 : Int) (p1 : Int) (hs : MI s) (h_p0 : (-2147483648) ≤ p0 ∧ p0 ≤ 2147483647) (h_p1 : (-2147483648) ≤ p1 ∧ p1 ≤ 2147483647) (q0 : mM s) (k : ∀ (r : Int), ∀ (t : gH), MI t → gF [75, 76, 77, 78, 79, 80, 81, 86, 87, 88, 89] [15] s t → (mM t) → (mK s t) → K (some (gp_i r)) t) : gs_C L (d + 186) 3177 4 [gp_r (some 74), gp_i p0, gp_i p1] s K := by
  refine s_3177_e _ _ ?_
  refine vm_isSlot _ (fun x_1 p_2 p_3 p_4 => ⟨_, rfl, ?_⟩)
  refine ⟨fun h_5 => ?_, fun h_5 => ?_⟩
  · refine s_3177_14 _ _ _ ?_
    refine vm_finds _ hs (by omega) (fun x_6 s_7 hs_8 hf_9 p_10 p_11 => ⟨_, rfl, ?_⟩)
    have hf_12 : gF [75, 76, 77, 78, 79, 80, 81, 86, 87, 88, 89] [15] s s_7 := gF.sub hf_9 rfl rfl
    have pd_13 : mM s_7 := mM_fr q0 hf_9 rfl rfl rfl rfl rfl rfl rfl
    have mb_14 : mK s s_7 := mK_fr (mK.refl _) hf_9 rfl
    exact k _ s_7 hs_8 hf_12 (pd_13) mb_14
  · refine vm_isSlot _ (fun x_15 p_16 p_17 p_18 => ⟨_, rfl, ?_⟩)
    refine ⟨fun h_19 => ?_, fun h_19 => ?_⟩
    · refine s_3177_14 _ _ _ ?_
      refine vm_finds _ hs (by omega) (fun x_20 s_21 hs_22 hf_23 p_24 p_25 => ⟨_, rfl, ?_⟩)
      have hf_26 : gF [75, 76, 77, 78, 79, 80, 81, 86, 87, 88, 89] [15] s s_21 := gF.sub hf_23 rfl rfl
      have pd_27 : mM s_21 := mM_fr q0 hf_23 rfl rfl rfl rfl rfl rfl rfl
      have mb_28 : mK s s_21 := mK_fr (mK.refl _) hf_23 rfl
      exact k _ s_21 hs_22 hf_26 (pd_27) mb_28
    · have f_29 := mr74_58 hs
      have jn36_33 : ∀ (j_31 : Int), ((-1) ≤ j_31 ∧ j_31 ≤ 2) → (j_31 ≠ -1 → gp_I s 74 58 = 1 ∧ j_31 < gp_I s 74 55) → gs_E L (d + 186) 3177 36 [gp_r (some 74), gp_i p0, gp_i p1, gp_n] [gp_i j_31] s K := by
        intro j_31 hj_32 ij_33
        refine s_3177_36 _ _ _ _ ?_
        refine ⟨fun h_35 => ?_, fun h_35 => ?_⟩
        · refine vm_finds _ hs (by omega) (fun x_36 s_37 hs_38 hf_39 p_40 p_41 => ⟨_, rfl, ?_⟩)
          have hf_42 : gF [75, 76, 77, 78, 79, 80, 81, 86, 87, 88, 89] [15] s s_37 := gF.sub hf_39 rfl rfl
          have pd_43 : mM s_37 := mM_fr q0 hf_39 rfl rfl rfl rfl rfl rfl rfl
          have mb_44 : mK s s_37 := mK_fr (mK.refl _) hf_39 rfl
          refine s_3177_64 _ _ _ _ ?_
          have hmm : mM s_37 := by first | assumption | exact mM_frK q0 hs hf_39 (fun k a b => p_41 k (by omega) (by omega) (by omega)) rfl rfl rfl rfl rfl rfl rfl
          exact k _ s_37 hs_38 hf_42 (hmm) mb_44
        · have hb9 := (q0 (by omega)).2.1 (Int.toNat j_31) (by omega)
          rw [show 16 + Int.toNat j_31 = Int.toNat (16 + j_31) by omega] at hb9
          try rw [show gp_wr (16 + j_31) = 16 + j_31 from gp_wr_id (by omega) (by omega)]
          refine ⟨by omega, ?_⟩
          have f_45 := mr112 hs (Int.toNat j_31)
          refine vm_holdsPart _ _ _ hs (by omega) (by omega) (by omega) (by first | omega | assumption) (fun x_46 s_47 hs_48 hf_49 p_50 p_51 => ⟨_, rfl, ?_⟩)
          have hf_52 : gF [75, 76, 77, 78, 79, 80, 81, 86, 87, 88, 89] [15] s s_47 := gF.sub hf_49 rfl rfl
          have mb_53 : mK s s_47 := mK.trans (mK.refl _) p_51
          refine s_3177_64 _ _ _ _ ?_
          have hmm : mM s_47 := by first | assumption | exact mM_frK q0 hs hf_49 (fun k a b => p_51 k (by omega) (by omega) (by omega)) rfl rfl rfl rfl rfl rfl rfl
          exact k _ s_47 hs_48 hf_52 (hmm) mb_53
      refine ⟨fun h_30 => ?_, fun h_30 => ?_⟩
      · exact jn36_33 _ (by omega) (by omega)
      · refine vm_boardOf _ hs (by omega) (fun x_54 p_55 p_56 => ⟨_, rfl, ?_⟩)
        exact jn36_33 _ (by omega) (by omega)
set_option maxRecDepth 100000 in
/-- GatheredPointsModel.begin -/
theorem wp_begin  {L d : Nat} {K : Option gV → gH → Prop} {s : gH}  (p0 : Int) (p1 : Int) (hs : MI s) (h_p0 : (-2147483648) ≤ p0 ∧ p0 ≤ 2147483647) (h_p1 : (-2147483648) ≤ p1 ∧ p1 ≤ 2147483647) (q0 : mM s) (k : ∀ (r : Int), ∀ (t : gH), MI t → gF [75, 76, 77, 78, 79, 80, 81, 111, 112] [55, 56, 57, 58] s t → (mM t) → (∀ k : Nat, k < 16 → gp_I t 81 k = gp_I s 81 k) → K (some (gp_i r)) t) : gs_C L (d + 4) 3168 4 [gp_r (some 74), gp_i p0, gp_i p1] s K := by
  have f_1 := mr74_55 hs
  refine s_3168_e _ _ ?_
  have h18 := fun (h : 1 ≤ p0 ∧ p0 ≤ 255) => set_1 h
  refine vm_isSetOfThree _ (by omega) (fun x_2 p_3 p_4 => ⟨_, rfl, ?_⟩)
  refine ⟨fun h_5 => ?_, fun h_5 => ?_⟩
  · refine s_3168_14 _ _ _ ?_
    refine vm_finds _ hs (by omega) (fun x_6 s_7 hs_8 hf_9 p_10 p_11 => ⟨_, rfl, ?_⟩)
    have hf_12 : gF [75, 76, 77, 78, 79, 80, 81, 111, 112] [55, 56, 57, 58] s s_7 := gF.sub hf_9 rfl rfl
    have pd_13 : mM s_7 := mM_fr q0 hf_9 rfl rfl rfl rfl rfl rfl rfl
    have q_14 := (hf_9.2 74 55 rfl (fun _ => rfl)).1
    exact k _ s_7 hs_8 hf_12 (pd_13) (fun k hk => (hf_9.2 81 k rfl (fun h => absurd h (by decide))).1)
  · refine vm_isSide _ (fun x_15 p_16 p_17 p_18 => ⟨_, rfl, ?_⟩)
    refine ⟨fun h_19 => ?_, fun h_19 => ?_⟩
    · refine s_3168_14 _ _ _ ?_
      refine vm_finds _ hs (by omega) (fun x_20 s_21 hs_22 hf_23 p_24 p_25 => ⟨_, rfl, ?_⟩)
      have hf_26 : gF [75, 76, 77, 78, 79, 80, 81, 111, 112] [55, 56, 57, 58] s s_21 := gF.sub hf_23 rfl rfl
      have pd_27 : mM s_21 := mM_fr q0 hf_23 rfl rfl rfl rfl rfl rfl rfl
      have q_28 := (hf_23.2 74 55 rfl (fun _ => rfl)).1
      exact k _ s_21 hs_22 hf_26 (pd_27) (fun k hk => (hf_23.2 81 k rfl (fun h => absurd h (by decide))).1)
    · intro s_29 e_30
      have hs_31 : MI s_29 := by rw [e_30]; exact mw74_55 hs _ (by omega)
      have hf_32 : gF [75, 76, 77, 78, 79, 80, 81, 111, 112] [55, 56, 57, 58] s s_29 := by rw [e_30]; exact gF.wI (gF.refl _ _ _) (Or.inr ⟨rfl, rfl⟩)
      have q_33 : gp_I s_29 74 55 = 0 := by rw [e_30]; exact (gz_rw _ _ _ _ _).1 rfl
      have lp_34 : ∀ (n_34 : Nat) (v3_34 : Int) (s_34 : gH), (MI s_34) → (gF [75, 76, 77, 78, 79, 80, 81, 111, 112] [55, 56, 57, 58] s s_34) → (0 ≤ v3_34 ∧ v3_34 ≤ 8) → (gp_I s_34 74 55 = (gm_cnt (BitVec.ofInt 64 p0) (Int.toNat v3_34) : Nat)) → (∀ n : Nat, (n : Int) < gp_I s_34 74 55 → gp_I s_34 112 n < gp_I s_34 81 (16 + n)) → (∀ k : Nat, k < 16 → gp_I s_34 81 k = gp_I s 81 k) → (9 - v3_34).toNat < n_34 → gs_E L (d + 4) 3168 27 [gp_r (some 74), gp_i p0, gp_i p1, gp_i v3_34] [] s_34 K := by
        intro n_34
        induction n_34 with
        | zero => intro v3_34 s_34 hs_s_34 hf_s_34 hv3_34 iv0_34 iv1_34 iv2_34 hm_34; exact absurd hm_34 (Nat.not_lt_zero _)
        | succ n_34 ih_34 =>
          intro v3_34 s_34 hs_s_34 hf_s_34 hv3_34 iv0_34 iv1_34 iv2_34 hm_34
          refine s_3168_27 _ _ _ ?_
          have hcs := cnt_step (A := BitVec.ofInt 64 p0) (x := v3_34) (by omega) iv0_34
          refine ⟨fun h_35 => ?_, fun h_35 => ?_⟩
          · have w_36 := gz_oi (p0) (by omega)
            refine vm_has _ _ (by omega) (fun x_37 p_38 p_39 => ⟨_, rfl, ?_⟩)
            refine ⟨fun h_40 => ?_, fun h_40 => ?_⟩
            · have hb_41 := hasF p_39 h_40
              refine s_3168_88 _ _ _ ?_
              try rw [show gp_wr (v3_34 + 1) = v3_34 + 1 from gp_wr_id (by omega) (by omega)]
              exact ih_34 _ _ hs_s_34 hf_s_34 (by omega) (by first | (have h9 := hcs.1 (by assumption); omega) | (have h9 := hcs.2 (by assumption); omega)) (by first | exact iv1_34 | (intro n hn; have h9 := bgst n (by omega); subst_vars; exact h9)) (by first | exact iv2_34 | (subst_vars; exact fun k hk => (hc1 k (by omega)).trans (iv2_34 k hk))) (by omega)
            · have hb_42 := hasT p_39 h_40
              have hcl := cnt_lt (A := BitVec.ofInt 64 p0) (x := v3_34) (by omega) (by assumption)
              have hm2 := mr81s hs_s_34 (Int.toNat v3_34) (by omega)
              have f_43 := mr74_55 hs_s_34
              try rw [show gp_wr (16 + (gp_I s_34 74 55)) = 16 + (gp_I s_34 74 55) from gp_wr_id (by omega) (by omega)]
              refine vm_copies _ _ hs_s_34 (by omega) (by omega) (by first | omega | assumption) (by first | omega | assumption) (fun s_44 hs_45 hf_46 p_47 p_48 => ⟨rfl, ?_⟩)
              have hf_49 : gF [75, 76, 77, 78, 79, 80, 81, 111, 112] [55, 56, 57, 58] s s_44 := gF.trans hf_s_34 hf_46 rfl rfl
              have q_50 := (hf_46.2 74 55 rfl (fun _ => rfl)).1
              have hc0 := p_47
              have hc1 := p_48
              have h55 := (hf_46.2 74 55 rfl (fun _ => rfl)).1
              have hc2 := fun k => (hf_46.2 112 k rfl (fun h => absurd h (by decide))).1
              have f_51 := mr74_55 hs_45
              refine ⟨by omega, ?_⟩
              intro s_52 e_53
              have hs_54 : MI s_52 := by rw [e_53]; exact mw111 hs_45 _ _ (by omega)
              have hf_55 : gF [75, 76, 77, 78, 79, 80, 81, 111, 112] [55, 56, 57, 58] s s_52 := by rw [e_53]; exact gF.wI hf_49 (Or.inl rfl)
              have q_56 : gp_I s_52 74 55 = gp_I s_44 74 55 := by rw [e_53] <;> rfl
              have f_57 := mr74_55 hs_54
              refine vm_root _ hs_54 (by omega) (fun x_58 p_59 p_60 => ⟨_, rfl, ?_⟩)
              have hm3 := mr81s hs_54 (Int.toNat v3_34) (by omega)
              refine ⟨by omega, ?_⟩
              intro s_61 e_62
              have hs_63 : MI s_61 := by rw [e_62]; exact mw112 hs_54 _ _ (by omega)
              have hf_64 : gF [75, 76, 77, 78, 79, 80, 81, 111, 112] [55, 56, 57, 58] s s_61 := by rw [e_62]; exact gF.wI hf_55 (Or.inl rfl)
              have q_65 : gp_I s_61 74 55 = gp_I s_52 74 55 := by rw [e_62] <;> rfl
              have f_66 := mr74_55 hs_63
              try rw [show gp_wr ((gp_I s_61 74 55) + 1) = (gp_I s_61 74 55) + 1 from gp_wr_id (by omega) (by omega)]
              have bgst := bg_all (t := s_61) (by omega) (by omega) iv1_34 hc0 hc1 hc2 (p_60.trans (by subst_vars; rfl)) (by subst_vars; exact fun k => rfl) (by subst_vars; intro k; rw [← h55]; exact gz_rwi _ 112 _ _ k)
              intro s_67 e_68
              have hs_69 : MI s_67 := by rw [e_68]; exact mw74_55 hs_63 _ (by omega)
              have hf_70 : gF [75, 76, 77, 78, 79, 80, 81, 111, 112] [55, 56, 57, 58] s s_67 := by rw [e_68]; exact gF.wI hf_64 (Or.inr ⟨rfl, rfl⟩)
              have q_71 : gp_I s_67 74 55 = (gp_I s_61 74 55) + 1 := by rw [e_68]; exact (gz_rw _ _ _ _ _).1 rfl
              refine s_3168_88 _ _ _ ?_
              try rw [show gp_wr (v3_34 + 1) = v3_34 + 1 from gp_wr_id (by omega) (by omega)]
              exact ih_34 _ _ hs_69 hf_70 (by omega) (by first | (have h9 := hcs.1 (by assumption); omega) | (have h9 := hcs.2 (by assumption); omega)) (by first | exact iv1_34 | (intro n hn; have h9 := bgst n (by omega); subst_vars; exact h9)) (by first | exact iv2_34 | (subst_vars; exact fun k hk => (hc1 k (by omega)).trans (iv2_34 k hk))) (by omega)
          · intro s_72 e_73
            have hs_74 : MI s_72 := by rw [e_73]; exact mw74_56 hs_s_34 _ (by omega)
            have hf_75 : gF [75, 76, 77, 78, 79, 80, 81, 111, 112] [55, 56, 57, 58] s s_72 := by rw [e_73]; exact gF.wI hf_s_34 (Or.inr ⟨rfl, rfl⟩)
            have q_76 : gp_I s_72 74 55 = gp_I s_34 74 55 := by rw [e_73] <;> rfl
            intro s_77 e_78
            have hs_79 : MI s_77 := by rw [e_78]; exact mw74_57 hs_74 _ (by omega)
            have hf_80 : gF [75, 76, 77, 78, 79, 80, 81, 111, 112] [55, 56, 57, 58] s s_77 := by rw [e_78]; exact gF.wI hf_75 (Or.inr ⟨rfl, rfl⟩)
            have q_81 : gp_I s_77 74 55 = gp_I s_72 74 55 := by rw [e_78] <;> rfl
            intro s_82 e_83
            have hs_84 : MI s_82 := by rw [e_83]; exact mw74_58 hs_79 _ (by omega)
            have hf_85 : gF [75, 76, 77, 78, 79, 80, 81, 111, 112] [55, 56, 57, 58] s s_82 := by rw [e_83]; exact gF.wI hf_80 (Or.inr ⟨rfl, rfl⟩)
            have q_86 : gp_I s_82 74 55 = gp_I s_77 74 55 := by rw [e_83] <;> rfl
            have h89 := h18 (by omega)
            have h8 : gp_I s_82 74 55 = (gm_cnt (BitVec.ofInt 64 p0) 8 : Nat) := by rw [show (8 : Nat) = Int.toNat v3_34 by omega]; subst_vars; exact iv0_34
            have hmm : mM s_82 := fun _ => mMb_0 hs_84 (by omega) (by subst_vars; rfl) (by subst_vars; exact iv1_34)
            refine vm_isOver hs_84 (fun x_87 p_88 p_89 => ⟨_, rfl, ?_⟩)
            refine ⟨fun h_90 => ?_, fun h_90 => ?_⟩
            · have hb_91 := hasF p_89 h_90
              refine s_3168_121 _ _ _ _ ?_
              exact k _ s_82 hs_84 hf_85 (hmm) (by subst_vars; exact iv2_34)
            · have hb_92 := hasT p_89 h_90
              refine s_3168_121 _ _ _ _ ?_
              exact k _ s_82 hs_84 hf_85 (hmm) (by subst_vars; exact iv2_34)
      exact lp_34 _ _ _ hs_31 hf_32 (by omega) (by show _ = ((0 : Nat) : Int); omega) (fun n hn => absurd hn (by omega)) (by subst_vars; exact fun k hk => rfl) (Nat.lt_succ_self _)
set_option maxRecDepth 100000 in
/-- GatheredPointsModel.score -/
theorem wp_score  {L d : Nat} {K : Option gV → gH → Prop} {s : gH}  (p0 : Int) (p1 : Int) (hs : MI s) (h_p0 : (-2147483648) ≤ p0 ∧ p0 ≤ 2147483647) (h_p1 : (-2147483648) ≤ p1 ∧ p1 ≤ 2147483647)  (k : ∀ (r : Int), ∀ (t : gH), MI t → gF [75, 106, 107, 108, 109, 110] [49] s t → K (some (gp_i r)) t) : gs_C L (d + 4) 3162 3 [gp_r (some 74), gp_i p0, gp_i p1] s K := by
  refine s_3162_e _ _ ?_
  refine vm_isSetOfThree _ (by omega) (fun x_1 p_2 p_3 => ⟨_, rfl, ?_⟩)
  refine ⟨fun h_4 => ?_, fun h_4 => ?_⟩
  · refine s_3162_14 _ _ ?_
    refine vm_finds _ hs (by omega) (fun x_5 s_6 hs_7 hf_8 p_9 p_10 => ⟨_, rfl, ?_⟩)
    have hf_11 : gF [75, 106, 107, 108, 109, 110] [49] s s_6 := gF.sub hf_8 rfl rfl
    exact k _ s_6 hs_7 hf_11
  · refine vm_isSide _ (fun x_12 p_13 p_14 p_15 => ⟨_, rfl, ?_⟩)
    refine ⟨fun h_16 => ?_, fun h_16 => ?_⟩
    · refine s_3162_14 _ _ ?_
      refine vm_finds _ hs (by omega) (fun x_17 s_18 hs_19 hf_20 p_21 p_22 => ⟨_, rfl, ?_⟩)
      have hf_23 : gF [75, 106, 107, 108, 109, 110] [49] s s_18 := gF.sub hf_20 rfl rfl
      exact k _ s_18 hs_19 hf_23
    · refine vm_setsUp _ hs (by omega) (by first | omega | assumption) (fun s_24 hs_25 hf_26 => ⟨rfl, ?_⟩)
      have hf_27 : gF [75, 106, 107, 108, 109, 110] [49] s s_24 := gF.sub hf_26 rfl rfl
      refine vm_works hs_25 (fun s_28 hs_29 hf_30 => ⟨rfl, ?_⟩)
      have hf_31 : gF [75, 106, 107, 108, 109, 110] [49] s s_28 := gF.trans hf_27 hf_30 rfl rfl
      refine vm_scoreNow _ hs_29 (fun x_32 => ⟨_, rfl, ?_⟩)
      exact k _ s_28 hs_29 hf_31
set_option maxRecDepth 100000 in
/-- GatheredPointsModel.best -/
theorem wp_best  {L d : Nat} {K : Option gV → gH → Prop} {s : gH}  (p0 : Int) (p1 : Int) (hs : MI s) (h_p0 : (-2147483648) ≤ p0 ∧ p0 ≤ 2147483647) (h_p1 : (-2147483648) ≤ p1 ∧ p1 ≤ 2147483647)  (k : ∀ (r : Int), ∀ (t : gH), MI t → gF [75, 106, 107, 108, 109, 110] [49] s t → K (some (gp_i r)) t) : gs_C L (d + 4) 3163 4 [gp_r (some 74), gp_i p0, gp_i p1] s K := by
  refine s_3163_e _ _ ?_
  refine vm_isSetOfThree _ (by omega) (fun x_1 p_2 p_3 => ⟨_, rfl, ?_⟩)
  refine ⟨fun h_4 => ?_, fun h_4 => ?_⟩
  · refine s_3163_14 _ _ _ ?_
    refine vm_finds _ hs (by omega) (fun x_5 s_6 hs_7 hf_8 p_9 p_10 => ⟨_, rfl, ?_⟩)
    have hf_11 : gF [75, 106, 107, 108, 109, 110] [49] s s_6 := gF.sub hf_8 rfl rfl
    exact k _ s_6 hs_7 hf_11
  · refine vm_isSide _ (fun x_12 p_13 p_14 p_15 => ⟨_, rfl, ?_⟩)
    refine ⟨fun h_16 => ?_, fun h_16 => ?_⟩
    · refine s_3163_14 _ _ _ ?_
      refine vm_finds _ hs (by omega) (fun x_17 s_18 hs_19 hf_20 p_21 p_22 => ⟨_, rfl, ?_⟩)
      have hf_23 : gF [75, 106, 107, 108, 109, 110] [49] s s_18 := gF.sub hf_20 rfl rfl
      exact k _ s_18 hs_19 hf_23
    · refine vm_setsUp _ hs (by omega) (by first | omega | assumption) (fun s_24 hs_25 hf_26 => ⟨rfl, ?_⟩)
      have hf_27 : gF [75, 106, 107, 108, 109, 110] [49] s s_24 := gF.sub hf_26 rfl rfl
      refine vm_works hs_25 (fun s_28 hs_29 hf_30 => ⟨rfl, ?_⟩)
      have hf_31 : gF [75, 106, 107, 108, 109, 110] [49] s s_28 := gF.trans hf_27 hf_30 rfl rfl
      refine vm_bestMove _ hs_29 (by omega) (fun x_32 p_33 p_34 => ⟨_, rfl, ?_⟩)
      refine ⟨fun h_35 => ?_, fun h_35 => ?_⟩
      · refine vm_finds _ hs_29 (by omega) (fun x_36 s_37 hs_38 hf_39 p_40 p_41 => ⟨_, rfl, ?_⟩)
        have hf_42 : gF [75, 106, 107, 108, 109, 110] [49] s s_37 := gF.trans hf_31 hf_39 rfl rfl
        refine s_3163_64 _ _ _ _ ?_
        exact k _ s_37 hs_38 hf_42
      · have hBM := p_34
        have hd9 : 0 ≤ x_32 ∧ Int.tdiv x_32 100 = x_32 / 100 := ⟨by omega, Int.tdiv_eq_ediv_of_nonneg (by omega)⟩
        have w_43 := gz_td (x_32) (100) (by omega)
        try rw [show gp_wr (x_32.tdiv 100) = x_32.tdiv 100 from gp_wr_id (by omega) (by omega)]
        refine ⟨by omega, ?_⟩
        have f_44 := mr106 hs_29 (Int.toNat (x_32.tdiv 100))
        try rw [show gp_wr (100 * (gp_I s_28 106 (Int.toNat (x_32.tdiv 100)))) = 100 * (gp_I s_28 106 (Int.toNat (x_32.tdiv 100))) from gp_wr_id (by omega) (by omega)]
        have w_45 := gz_td (x_32) (100) (by omega)
        try rw [show gp_wr ((100 * (gp_I s_28 106 (Int.toNat (x_32.tdiv 100)))) + (x_32.tmod 100)) = (100 * (gp_I s_28 106 (Int.toNat (x_32.tdiv 100)))) + (x_32.tmod 100) from gp_wr_id (by omega) (by omega)]
        refine s_3163_64 _ _ _ _ ?_
        exact k _ s_28 hs_29 hf_31
