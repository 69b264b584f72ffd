def gx_bc (p0 : Int) : Int := (gp_and (gp_wr ((gp_wr ((gp_and (gp_wr ((gp_wr ((gp_and (gp_wr (p0 - (gp_and (gp_ushr p0 1) 1431655765))) 858993459) + (gp_and (gp_ushr (gp_wr (p0 - (gp_and (gp_ushr p0 1) 1431655765))) 2) 858993459))) + (gp_ushr (gp_wr ((gp_and (gp_wr (p0 - (gp_and (gp_ushr p0 1) 1431655765))) 858993459) + (gp_and (gp_ushr (gp_wr (p0 - (gp_and (gp_ushr p0 1) 1431655765))) 2) 858993459))) 4))) 252645135) + (gp_ushr (gp_and (gp_wr ((gp_wr ((gp_and (gp_wr (p0 - (gp_and (gp_ushr p0 1) 1431655765))) 858993459) + (gp_and (gp_ushr (gp_wr (p0 - (gp_and (gp_ushr p0 1) 1431655765))) 2) 858993459))) + (gp_ushr (gp_wr ((gp_and (gp_wr (p0 - (gp_and (gp_ushr p0 1) 1431655765))) 858993459) + (gp_and (gp_ushr (gp_wr (p0 - (gp_and (gp_ushr p0 1) 1431655765))) 2) 858993459))) 4))) 252645135) 8))) + (gp_ushr (gp_wr ((gp_and (gp_wr ((gp_wr ((gp_and (gp_wr (p0 - (gp_and (gp_ushr p0 1) 1431655765))) 858993459) + (gp_and (gp_ushr (gp_wr (p0 - (gp_and (gp_ushr p0 1) 1431655765))) 2) 858993459))) + (gp_ushr (gp_wr ((gp_and (gp_wr (p0 - (gp_and (gp_ushr p0 1) 1431655765))) 858993459) + (gp_and (gp_ushr (gp_wr (p0 - (gp_and (gp_ushr p0 1) 1431655765))) 2) 858993459))) 4))) 252645135) + (gp_ushr (gp_and (gp_wr ((gp_wr ((gp_and (gp_wr (p0 - (gp_and (gp_ushr p0 1) 1431655765))) 858993459) + (gp_and (gp_ushr (gp_wr (p0 - (gp_and (gp_ushr p0 1) 1431655765))) 2) 858993459))) + (gp_ushr (gp_wr ((gp_and (gp_wr (p0 - (gp_and (gp_ushr p0 1) 1431655765))) 858993459) + (gp_and (gp_ushr (gp_wr (p0 - (gp_and (gp_ushr p0 1) 1431655765))) 2) 858993459))) 4))) 252645135) 8))) 16))) 63)
theorem gx_bcF : ∀ v : Fin 256, gx_bc (v.val : Int) = ((gm_cnt (BitVec.ofInt 64 (v.val : Int)) 64 : Nat) : Int) := by decide +kernel
theorem gx_bc3 (p0 : Int) (h : 1 ≤ p0 ∧ p0 ≤ 255) : gx_bc p0 = ((gm_cnt (BitVec.ofInt 64 p0) 64 : Nat) : Int) := by
  obtain ⟨n, rfl⟩ : ∃ n : Nat, p0 = (n : Int) := ⟨p0.toNat, by omega⟩
  exact gx_bcF ⟨n, by omega⟩
theorem zx_noSet3 {z : gH} {L d : Nat} {K : Option gV → gH → Prop} {s : gH} (p0 : Int) (_hs : xM z s) (h_p0 : 1 ≤ p0 ∧ p0 ≤ 255) (g_p0 : gm_cnt (BitVec.ofInt 64 p0) 64 ≤ 3) (k : K (some (gp_i 0)) s) : gs_C L (d + 1) 2858 1 [gp_i p0] s K := by
  refine s_2858_e _ ⟨fun h => absurd h (by omega), fun _ => ⟨fun _ => ?_, fun h => absurd (by omega) h⟩⟩
  refine s_3330_e _ ⟨_, rfl, ?_⟩
  show (3 < gx_bc p0 → _) ∧ (¬ 3 < gx_bc p0 → _)
  rw [gx_bc3 p0 h_p0]
  exact ⟨fun h => absurd h (by omega), fun _ => s_2858_25 _ _ ⟨Or.inl rfl, k⟩⟩
theorem zx_noSet4 {z : gH} {L d : Nat} {K : Option gV → gH → Prop} {s : gH} (p0 : Int) (_hs : xM z s) (h_p0 : 1 ≤ p0 ∧ p0 ≤ 255) (g_p0 : gm_cnt (BitVec.ofInt 64 p0) 64 > 3) (k : K (some (gp_i 1)) s) : gs_C L (d + 1) 2858 1 [gp_i p0] s K := by
  refine s_2858_e _ ⟨fun h => absurd h (by omega), fun _ => ⟨fun _ => ?_, fun h => absurd (by omega) h⟩⟩
  refine s_3330_e _ ⟨_, rfl, ?_⟩
  show (3 < gx_bc p0 → _) ∧ (¬ 3 < gx_bc p0 → _)
  rw [gx_bc3 p0 h_p0]
  exact ⟨fun _ => s_2858_20 _ (s_2858_25 _ _ ⟨Or.inr rfl, k⟩), fun h => absurd (by omega) h⟩
