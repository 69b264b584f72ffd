
theorem gz_cnt_le (b : BitVec 64) (i : Nat) : ∀ n, gm_cnt b i ≤ gm_cnt b (i + n)
  | 0 => Nat.le_refl _
  | n + 1 => by
    have := gz_cnt_le b i n
    show _ ≤ gm_cnt b (i + n) + _
    omega
theorem gz_cnt_s (b : BitVec 64) (i : Nat) (h : b.getLsbD i = true) : gm_cnt b (i + 1) = gm_cnt b i + 1 := by
  show gm_cnt b i + _ = _
  rw [if_pos h]
theorem gz_cnt_n (b : BitVec 64) (i : Nat) (h : ¬ b.getLsbD i = true) : gm_cnt b (i + 1) = gm_cnt b i := by
  show gm_cnt b i + _ = _
  rw [if_neg h]; rfl
theorem gz_cnt3 {b : BitVec 64} {i : Nat} (hi : i < 64) (hb : b.getLsbD i = true) (h : gm_cnt b 64 ≤ 3) : gm_cnt b i ≤ 2 := by
  have h1 := gz_cnt_s b i hb
  have h2 := gz_cnt_le b (i + 1) (63 - i)
  rw [show i + 1 + (63 - i) = 64 by omega] at h2
  omega
theorem zm_is3 {z : gH} {L d : Nat} {K : Option gV → gH → Prop} {s : gH} (p0 : Int) (hs : zM z s) (h_p0 : 1 ≤ p0 ∧ p0 ≤ 255) (g_p0 : gm_cnt (BitVec.ofInt 64 p0) 64 ≤ 3) (k : K (some (gp_i 1)) s) : gs_C L (d + 2) 3155 1 [gp_i p0] s K := by
  refine s_3155_e _ ?_
  rw [show BitVec.ofInt 64 255 = 255#64 by decide]
  have w := gz_oi p0 (by omega)
  refine zm3073_42 _ hs (by omega) ⟨_, rfl, ?_⟩
  refine ⟨fun h => absurd h (by decide), fun _ => ?_⟩
  refine cm_size _ ⟨_, rfl, ?_⟩
  exact ⟨fun h => absurd h (by omega), fun _ => s_3155_26 _ _ ⟨Or.inr rfl, k⟩⟩
theorem zm_is4 {z : gH} {L d : Nat} {K : Option gV → gH → Prop} {s : gH} (p0 : Int) (hs : zM z s) (h_p0 : 1 ≤ p0 ∧ p0 ≤ 255) (g_p0 : gm_cnt (BitVec.ofInt 64 p0) 64 > 3) (k : K (some (gp_i 0)) s) : gs_C L (d + 2) 3155 1 [gp_i p0] s K := by
  refine s_3155_e _ ?_
  rw [show BitVec.ofInt 64 255 = 255#64 by decide]
  have w := gz_oi p0 (by omega)
  refine zm3073_42 _ hs (by omega) ⟨_, rfl, ?_⟩
  refine ⟨fun h => absurd h (by decide), fun _ => ?_⟩
  refine cm_size _ ⟨_, rfl, ?_⟩
  exact ⟨fun _ => s_3155_25 _ (s_3155_26 _ _ ⟨Or.inl rfl, k⟩), fun h => absurd h (by omega)⟩
theorem zm_setsUp_at {z : gH} {L d : Nat} {K : Option gV → gH → Prop} (p0 : Int) (g : gm_cnt (BitVec.ofInt 64 p0) 64 ≤ 3) : ∀ (n i : Nat) (s : gH), i + n = 8 → zM z s → gp_I s 74 49 = ((gm_cnt (BitVec.ofInt 64 p0) i : Nat) : Int) → (∀ t, zM z t → (∀ a q, a ≠ 106 → a ≠ 107 → ¬ (a = 74 ∧ q = 49) → gp_I t a q = gp_I s a q) → K none t) → gs_E L (d + 1) 3159 7 [gp_r (some 74), gp_i p0, gp_i (i : Int)] [] s K
  | 0, i, s, h, hs, hc, k => by
    have : i = 8 := by omega
    subst this
    exact s_3159_7 _ _ ⟨fun h => absurd h (by decide), fun _ => k s hs (fun _ _ _ _ _ => rfl)⟩
  | n + 1, i, s, h, hs, hc, k => by
    have e2 : gp_wr ((i : Int) + 1) = ((i + 1 : Nat) : Int) := by rw [gp_wr_id (by omega) (by omega)]; simp
    refine s_3159_7 _ _ ⟨fun _ => cm_has _ i (by omega) ⟨_, rfl, fun h0 => ?_, fun h0 => ?_⟩, fun h0 => absurd (by omega : (i : Int) < 8) h0⟩
    · have hb : ¬ (BitVec.ofInt 64 p0).getLsbD i = true := by
        intro hb; unfold gm_h at h0; rw [if_pos hb] at h0; omega
      apply s_3159_56
      rw [e2]
      exact zm_setsUp_at p0 g n (i + 1) s (by omega) hs (by rw [gz_cnt_n _ _ hb]; exact hc) k
    · have hb : (BitVec.ofInt 64 p0).getLsbD i = true := by
        apply Classical.byContradiction
        intro hb; unfold gm_h at h0; rw [if_neg hb] at h0; omega
      have c3 := gz_cnt3 (by omega) hb g
      refine ⟨by omega, fun s3 e3 => ?_⟩
      have hs3 : zM z s3 := by rw [e3]; exact zw106 hs _ _ (by omega)
      have c49 : gp_I s3 74 49 = gp_I s 74 49 := by rw [e3]; rfl
      have r81 := zr81 hs3 i
      have r1 : gp_I s3 81 i = 1 := by omega
      refine cm_root i (by omega) (by omega) ⟨_, rfl, by omega, fun s6 e6 s7 e7 => ?_⟩
      have hs6 : zM z s6 := by rw [e6]; exact zw107 hs3 _ _ (by omega)
      have d49 : gp_I s6 74 49 = gp_I s 74 49 := by rw [e6]; exact c49
      have w := gz_w (gp_I s6 74 49 + 1)
      have hs7 : zM z s7 := by rw [e7]; exact zw74_49 hs6 0 _ (by omega)
      apply s_3159_56
      rw [e2]
      have f49 : gp_I s7 74 49 = gp_wr (gp_I s6 74 49 + 1) := by rw [e7]; rfl
      refine zm_setsUp_at p0 g n (i + 1) s7 (by omega) hs7 (by rw [gz_cnt_s _ _ hb]; omega) (fun t ht hf => k t ht (fun a q a1 a2 a3 => ?_))
      rw [hf a q a1 a2 a3, e7, e6, e3]
      show gp_u2 (gp_u2 (gp_u2 _ _ _ _) _ _ _) _ _ _ _ _ = _
      rw [gm_u2, gm_u2, gm_u2, if_neg a3, if_neg (fun z => a2 z.1), if_neg (fun z => a1 z.1)]
theorem zm_setsUp {z : gH} {L d : Nat} {K : Option gV → gH → Prop} {s : gH} (p0 : Int) (hs : zM z s) (g : gm_cnt (BitVec.ofInt 64 p0) 64 ≤ 3) (k : ∀ t, zM z t → (∀ a q, a ≠ 106 → a ≠ 107 → ¬ (a = 74 ∧ q = 49) → gp_I t a q = gp_I s a q) → K none t) : gs_C L (d + 1) 3159 3 [gp_r (some 74), gp_i p0] s K := by
  refine s_3159_e _ (fun s1 e1 => ?_)
  have hs1 : zM z s1 := by rw [e1]; exact zw74_49 hs 0 _ (by omega)
  refine zm_setsUp_at p0 g 8 0 s1 rfl hs1 (by rw [e1]; rfl) (fun t ht hf => k t ht (fun a q a1 a2 a3 => ?_))
  rw [hf a q a1 a2 a3, e1]
  show gp_u2 _ _ _ _ _ _ = _
  rw [gm_u2, if_neg a3]
theorem zm_cp {z s : gH} (hs : zM z s) (f t n : Nat) : zM z (gm_cp s f t n) := by
  refine ⟨hs.1, fun a k hn => ⟨?_, ?_⟩, fun a k h1 h2 => ⟨?_, ?_⟩⟩
  · show (if _ then _ else _) = _
    rw [if_neg (by omega)]
    exact (hs.2.1 a k hn).1
  · show (if _ then _ else _) = _
    rw [if_neg (by omega)]
    exact (hs.2.1 a k hn).2
  · show zP a k (if _ then _ else _)
    split
    · rename_i q
      rcases q.1 with e | e | e
      · subst e; exact zr78 hs _
      · subst e; exact zr79 hs _
      · subst e; exact zr80 hs _
    · exact (hs.2.2 a k h1 h2).1
  · show zQ a k (if _ then _ else _)
    split
    · rename_i q
      rcases q.1 with e | e
      · subst e; exact zr76 hs _
      · subst e; exact zr77 hs _
    · exact (hs.2.2 a k h1 h2).2
theorem zm_begin_at {z : gH} {L d : Nat} {K : Option gV → gH → Prop} (p0 p1 : Int) (hp : 0 ≤ p1 ∧ p1 ≤ 1) (g : gm_cnt (BitVec.ofInt 64 p0) 64 ≤ 3) (k : ∀ t, zM z t → K (some (gp_i 1)) t) : ∀ (n i : Nat) (s : gH), i + n = 8 → zM z s → gp_I s 74 55 = ((gm_cnt (BitVec.ofInt 64 p0) i : Nat) : Int) → gs_E L (d + 8) 3168 27 [gp_r (some 74), gp_i p0, gp_i p1, gp_i (i : Int)] [] s K
  | 0, i, s, h, hs, hc => by
    have : i = 8 := by omega
    subst this
    refine s_3168_27 _ _ _ ⟨fun h => absurd h (by decide), fun _ s1 e1 s2 e2 s3 e3 => ?_⟩
    have hs1 : zM z s1 := by rw [e1]; exact zw74_56 hs 0 _ (by omega)
    have hs2 : zM z s2 := by rw [e2]; exact zw74_57 hs1 0 _
    have hs3 : zM z s3 := by rw [e3]; exact zw74_58 hs2 0 _
    refine zm3167_0 hs3 ⟨_, rfl, ?_⟩
    exact ⟨fun h => absurd h (by decide), fun _ => s_3168_121 _ _ _ _ (k _ hs3)⟩
  | n + 1, i, s, h, hs, hc => by
    have e2 : gp_wr ((i : Int) + 1) = ((i + 1 : Nat) : Int) := by rw [gp_wr_id (by omega) (by omega)]; simp
    refine s_3168_27 _ _ _ ⟨fun _ => cm_has _ i (by omega) ⟨_, rfl, fun h0 => ?_, fun h0 => ?_⟩, fun h0 => absurd (by omega : (i : Int) < 8) h0⟩
    · have hb : ¬ (BitVec.ofInt 64 p0).getLsbD i = true := by
        intro hb; unfold gm_h at h0; rw [if_pos hb] at h0; omega
      apply s_3168_88
      rw [e2]
      exact zm_begin_at p0 p1 hp g k n (i + 1) s (by omega) hs (by rw [gz_cnt_n _ _ hb]; exact hc)
    · have hb : (BitVec.ofInt 64 p0).getLsbD i = true := by
        apply Classical.byContradiction
        intro hb; unfold gm_h at h0; rw [if_neg hb] at h0; omega
      have c3 := gz_cnt3 (by omega) hb g
      have r81 := zr81 hs i
      have e16 : gp_wr (16 + gp_I s 74 55) = ((16 + gm_cnt (BitVec.ofInt 64 p0) i : Nat) : Int) := by rw [hc, gp_wr_id (by omega) (by omega)]; omega
      rw [e16]
      refine cm_copies i (16 + gm_cnt (BitVec.ofInt 64 p0) i) 1 (by omega) (by omega) (by omega) (by omega) ⟨rfl, ?_⟩
      have hs8 : zM z (gm_cp (gp_wI s 81 (16 + gm_cnt (BitVec.ofInt 64 p0) i) ((1 : Nat) : Int)) i (16 + gm_cnt (BitVec.ofInt 64 p0) i) 1) := zm_cp (zw81 hs _ _ (by omega)) _ _ _
      have c8 : gp_I (gm_cp (gp_wI s 81 (16 + gm_cnt (BitVec.ofInt 64 p0) i) ((1 : Nat) : Int)) i (16 + gm_cnt (BitVec.ofInt 64 p0) i) 1) 74 55 = gp_I s 74 55 := by
        rw [gm_cp_o _ _ _ _ _ _ (by decide)]; rfl
      generalize gm_cp (gp_wI s 81 (16 + gm_cnt (BitVec.ofInt 64 p0) i) ((1 : Nat) : Int)) i (16 + gm_cnt (BitVec.ofInt 64 p0) i) 1 = s8 at hs8 c8 ⊢
      refine ⟨by omega, fun s9 e9 => ?_⟩
      have hs9 : zM z s9 := by rw [e9]; exact zw111 hs8 _ _ (by omega)
      have c9 : gp_I s9 74 55 = gp_I s 74 55 := by rw [e9]; exact c8
      have q81 := zr81 hs9 i
      have r1 : gp_I s9 81 i = 1 := by omega
      refine cm_root i (by omega) (by omega) ⟨_, rfl, by omega, fun s12 e12 s13 e13 => ?_⟩
      have hs12 : zM z s12 := by rw [e12]; exact zw112 hs9 _ _ (by omega)
      have c12 : gp_I s12 74 55 = gp_I s 74 55 := by rw [e12]; exact c9
      have w := gz_w (gp_I s12 74 55 + 1)
      have hs13 : zM z s13 := by rw [e13]; exact zw74_55 hs12 0 _ (by omega)
      have c13 : gp_I s13 74 55 = gp_wr (gp_I s12 74 55 + 1) := by rw [e13]; rfl
      apply s_3168_88
      rw [e2]
      exact zm_begin_at p0 p1 hp g k n (i + 1) s13 (by omega) hs13 (by rw [gz_cnt_s _ _ hb]; omega)
theorem zm_begin {z : gH} {L d : Nat} {K : Option gV → gH → Prop} {s : gH} (p0 p1 : Int) (hs : zM z s) (h_p0 : 1 ≤ p0 ∧ p0 ≤ 255) (h_p1 : 0 ≤ p1 ∧ p1 ≤ 1) (g_p0 : gm_cnt (BitVec.ofInt 64 p0) 64 ≤ 3) (k : ∀ t, zM z t → K (some (gp_i 1)) t) : gs_C L (d + 8) 3168 4 [gp_r (some 74), gp_i p0, gp_i p1] s K := by
  refine s_3168_e _ _ ?_
  refine zm_is3 _ hs h_p0 g_p0 ⟨_, rfl, fun h => absurd h (by decide), fun _ => ?_⟩
  refine cm_isSide _ ⟨_, rfl, fun h => ?_, fun _ s5 e5 => ?_⟩
  · rw [if_pos (by omega)] at h; exact absurd h (by decide)
  · have hs5 : zM z s5 := by rw [e5]; exact zw74_55 hs 0 _ (by omega)
    exact zm_begin_at p0 p1 h_p1 g_p0 k 8 0 s5 rfl hs5 (by rw [e5]; rfl)
