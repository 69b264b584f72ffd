set_option maxRecDepth 100000 in
/-- GatheredPointsModel.number -/
theorem vm_numberV  {L d : Nat} {K : Option gV → gH → Prop} {s : gH} (τ : Nat → Int) (n : Int)  (hs : MI s)  (q0 : TPn τ n s) (q1 : gp_I s 74 38 ≤ gp_I s 74 39) (k : ∀ (r : Int), ∀ (t : gH), MI t → gF [] [38, 40] s t → (gp_I s 74 38 ≤ gp_I t 74 38 ∧ gp_I t 74 38 ≤ gp_I t 74 39) → (gp_I t 74 38 = aN τ n (gp_I s 74 38)) → ((48 ≤ bA τ n (gp_I s 74 38) ∧ bA τ n (gp_I s 74 38) ≤ 57 ∧ gp_I t 74 40 = gp_I s 74 40 ∧ gp_I s 74 38 < gp_I t 74 38) ∨ (¬ (48 ≤ bA τ n (gp_I s 74 38) ∧ bA τ n (gp_I s 74 38) ≤ 57) ∧ ((gp_I s 74 40 < 0 ∧ gp_I t 74 40 = gp_I s 74 38) ∨ (¬ gp_I s 74 40 < 0 ∧ gp_I t 74 40 = gp_I s 74 40)))) → (r = (ndg τ n 3 (gp_I s 74 38) 0).2) → (0 ≤ r ∧ r ≤ 999) → K (some (gp_i r)) t) : gs_C L (d + 2) 3131 3 [gp_r (some 74)] s K := by
  have f_1 := mr74_38 hs
  have f_2 := mr74_39 hs
  have f_3 := mr74_40 hs
  have f_4 := mr74_41 hs
  have f_5 := mr74_42 hs
  have f_6 := mr74_43 hs
  have f_7 := mr74_44 hs
  refine s_3131_e ?_
  have f_8 := mr74_38 hs
  have lp_9 : ∀ (n_9 : Nat) (v2_9 : Int) (s_9 : gH), (MI s_9) → (gF [] [38, 40] s s_9) → (TPn τ n s_9) → (0 ≤ v2_9 ∧ v2_9 ≤ 999) → (gp_I s_9 74 39 = gp_I s 74 39) → (gp_I s_9 74 40 = gp_I s 74 40) → (gp_I s_9 74 41 = gp_I s 74 41) → (gp_I s_9 74 42 = gp_I s 74 42) → (gp_I s_9 74 43 = gp_I s 74 43) → (gp_I s_9 74 44 = gp_I s 74 44) → (gp_I s 74 38 ≤ gp_I s_9 74 38 ∧ gp_I s_9 74 38 ≤ gp_I s 74 38 + 3) → (gp_I s_9 74 38 ≤ gp_I s_9 74 39) → (dgs τ n (gp_I s 74 38) (gp_I s_9 74 38)) → (ndg τ n (Int.toNat (gp_I s 74 38 + 3 - gp_I s_9 74 38)) (gp_I s_9 74 38) v2_9 = ndg τ n 3 (gp_I s 74 38) 0) → ((gp_I s_9 74 38 = gp_I s 74 38 ∧ v2_9 = 0) ∨ (gp_I s_9 74 38 = gp_I s 74 38 + 1 ∧ 0 ≤ v2_9 ∧ v2_9 ≤ 9) ∨ (gp_I s_9 74 38 = gp_I s 74 38 + 2 ∧ 0 ≤ v2_9 ∧ v2_9 ≤ 99) ∨ (gp_I s_9 74 38 = gp_I s 74 38 + 3 ∧ 0 ≤ v2_9 ∧ v2_9 ≤ 999)) → (Int.toNat (gp_I s 74 38 + 3 - gp_I s_9 74 38)) < n_9 → gs_E L (d + 2) 3131 7 [gp_r (some 74), gp_i (gp_I s 74 38), gp_i v2_9] [] s_9 K := by
    intro n_9
    induction n_9 with
    | zero => intro v2_9 s_9 hs_s_9 hf_s_9 TPn_τ_n_s_9 hv2_9 tk0_9 tk1_9 tk2_9 tk3_9 tk4_9 tk5_9 iv0_9 iv1_9 iv2_9 iv3_9 iv4_9 hm_9; exact absurd hm_9 (Nat.not_lt_zero _)
    | succ n_9 ih_9 =>
      intro v2_9 s_9 hs_s_9 hf_s_9 TPn_τ_n_s_9 hv2_9 tk0_9 tk1_9 tk2_9 tk3_9 tk4_9 tk5_9 iv0_9 iv1_9 iv2_9 iv3_9 iv4_9 hm_9
      refine s_3131_7 _ _ ?_
      have f_10 := mr74_38 hs_s_9
      try rw [show gp_wr ((gp_I s 74 38) + 3) = (gp_I s 74 38) + 3 from gp_wr_id (by omega) (by omega)]
      refine ⟨fun h_11 => ?_, fun h_11 => ?_⟩
      · refine vm_isDigit τ n hs_s_9 (TPn_τ_n_s_9) (fun x_12 p_13 p_14 => ⟨_, rfl, ?_⟩)
        refine ⟨fun h_15 => ?_, fun h_15 => ?_⟩
        · have hb_16 := hasF p_14 h_15
          refine s_3131_50 _ _ ?_
          have haN : gp_I s_9 74 38 = aN τ n (gp_I s 74 38) := aN_fin iv2_9 (by omega) (by omega) (by omega)
          have hd1 : gp_I s_9 74 38 = gp_I s 74 38 → bA τ n (gp_I s_9 74 38) = bA τ n (gp_I s 74 38) := fun h => by rw [h]
          have hd0 : gp_I s 74 38 < gp_I s_9 74 38 → 48 ≤ bA τ n (gp_I s 74 38) ∧ bA τ n (gp_I s 74 38) ≤ 57 := fun h => iv2_9 _ (by omega) h
          have f_17 := mr74_38 hs_s_9
          refine ⟨fun h_18 => ?_, fun h_18 => ?_⟩
          · refine vm_fails hs_s_9 (fun s_19 hs_20 hf_21 p_22 => ⟨rfl, ?_⟩)
            have hf_23 : gF [] [38, 40] s s_19 := gF.trans hf_s_9 hf_21 rfl rfl
            have pd_24 : TPn τ n s_19 := TP_fr TPn_τ_n_s_9 hf_21 rfl rfl
            have q_25 := (hf_21.2 74 38 rfl (fun _ => rfl)).1
            have q_26 := (hf_21.2 74 39 rfl (fun _ => rfl)).1
            have q_27 := (hf_21.2 74 41 rfl (fun _ => rfl)).1
            have q_28 := (hf_21.2 74 42 rfl (fun _ => rfl)).1
            have q_29 := (hf_21.2 74 43 rfl (fun _ => rfl)).1
            have q_30 := (hf_21.2 74 44 rfl (fun _ => rfl)).1
            refine s_3131_62 _ _ ?_
            exact k _ s_19 hs_20 hf_23 (by first | omega | assumption) (by omega) (by omega) (ndg_en iv3_9 (by omega)) (by omega)
          · refine s_3131_62 _ _ ?_
            exact k _ s_9 hs_s_9 hf_s_9 (by first | omega | assumption) (by omega) (by omega) (ndg_en iv3_9 (by omega)) (by omega)
        · have hb_31 := hasT p_14 h_15
          have hb8 := @bA_m1 τ n (gp_I s_9 74 38)
          have he8 := (TPn_τ_n_s_9).2
          try rw [show gp_wr (10 * v2_9) = 10 * v2_9 from gp_wr_id (by omega) (by omega)]
          refine vm_byteAt τ n hs_s_9 (TPn_τ_n_s_9) (fun x_32 p_33 p_34 => ⟨_, rfl, ?_⟩)
          try rw [show gp_wr ((10 * v2_9) + x_32) = (10 * v2_9) + x_32 from gp_wr_id (by omega) (by omega)]
          try rw [show gp_wr (((10 * v2_9) + x_32) - 48) = ((10 * v2_9) + x_32) - 48 from gp_wr_id (by omega) (by omega)]
          have f_35 := mr74_38 hs_s_9
          try rw [show gp_wr ((gp_I s_9 74 38) + 1) = (gp_I s_9 74 38) + 1 from gp_wr_id (by omega) (by omega)]
          intro s_36 e_37
          have hs_38 : MI s_36 := by rw [e_37]; exact mw74_38 hs_s_9 _ (by omega)
          have hf_39 : gF [] [38, 40] s s_36 := by rw [e_37]; exact gF.wI hf_s_9 (Or.inr ⟨rfl, rfl⟩)
          have q_40 : gp_I s_36 74 38 = (gp_I s_9 74 38) + 1 := by rw [e_37]; exact (gz_rw _ _ _ _ _).1 rfl
          have q_41 : gp_I s_36 74 39 = gp_I s_9 74 39 := by rw [e_37] <;> rfl
          have q_42 : gp_I s_36 74 40 = gp_I s_9 74 40 := by rw [e_37] <;> rfl
          have q_43 : gp_I s_36 74 41 = gp_I s_9 74 41 := by rw [e_37] <;> rfl
          have q_44 : gp_I s_36 74 42 = gp_I s_9 74 42 := by rw [e_37] <;> rfl
          have q_45 : gp_I s_36 74 43 = gp_I s_9 74 43 := by rw [e_37] <;> rfl
          have q_46 : gp_I s_36 74 44 = gp_I s_9 74 44 := by rw [e_37] <;> rfl
          have pd_47 : TPn τ n s_36 := by rw [e_37]; exact TP_fr TPn_τ_n_s_9 (gF.wI (gF.refl [] [38] _) (Or.inr ⟨rfl, rfl⟩)) rfl rfl
          exact ih_9 _ _ hs_38 hf_39 pd_47 (by omega) (by first | rfl | omega) (by first | rfl | omega) (by first | rfl | omega) (by first | rfl | omega) (by first | rfl | omega) (by first | rfl | omega) (by first | omega | assumption) (by first | omega | assumption) (by have h9 := dgs_s iv2_9 (by omega); rw [show gp_I s_36 74 38 = gp_I s_9 74 38 + 1 by omega]; exact h9) (ndg_st iv3_9 (by omega) ⟨by omega, by omega⟩ (by first | omega | (rw [gp_wr_id (by omega) (by omega)]; omega)) _ (by omega)) (by first | omega | (rw [gp_wr_id (by omega) (by omega)]; omega)) (by omega)
      · refine s_3131_50 _ _ ?_
        have haN : gp_I s_9 74 38 = aN τ n (gp_I s 74 38) := aN_fin iv2_9 (by omega) (by omega) (by omega)
        have hd1 : gp_I s_9 74 38 = gp_I s 74 38 → bA τ n (gp_I s_9 74 38) = bA τ n (gp_I s 74 38) := fun h => by rw [h]
        have hd0 : gp_I s 74 38 < gp_I s_9 74 38 → 48 ≤ bA τ n (gp_I s 74 38) ∧ bA τ n (gp_I s 74 38) ≤ 57 := fun h => iv2_9 _ (by omega) h
        have f_48 := mr74_38 hs_s_9
        refine ⟨fun h_49 => ?_, fun h_49 => ?_⟩
        · refine vm_fails hs_s_9 (fun s_50 hs_51 hf_52 p_53 => ⟨rfl, ?_⟩)
          have hf_54 : gF [] [38, 40] s s_50 := gF.trans hf_s_9 hf_52 rfl rfl
          have pd_55 : TPn τ n s_50 := TP_fr TPn_τ_n_s_9 hf_52 rfl rfl
          have q_56 := (hf_52.2 74 38 rfl (fun _ => rfl)).1
          have q_57 := (hf_52.2 74 39 rfl (fun _ => rfl)).1
          have q_58 := (hf_52.2 74 41 rfl (fun _ => rfl)).1
          have q_59 := (hf_52.2 74 42 rfl (fun _ => rfl)).1
          have q_60 := (hf_52.2 74 43 rfl (fun _ => rfl)).1
          have q_61 := (hf_52.2 74 44 rfl (fun _ => rfl)).1
          refine s_3131_62 _ _ ?_
          exact k _ s_50 hs_51 hf_54 (by first | omega | assumption) (by omega) (by omega) (ndg_en iv3_9 (by omega)) (by omega)
        · refine s_3131_62 _ _ ?_
          exact k _ s_9 hs_s_9 hf_s_9 (by first | omega | assumption) (by omega) (by omega) (ndg_en iv3_9 (by omega)) (by omega)
  exact lp_9 _ _ _ hs (gF.refl _ _ _) q0 (by omega) (by first | rfl | omega) (by first | rfl | omega) (by first | rfl | omega) (by first | rfl | omega) (by first | rfl | omega) (by first | rfl | omega) (by first | omega | assumption) (by first | omega | assumption) (dgs_0 _ _ _) (by rw [show Int.toNat (gp_I s 74 38 + 3 - gp_I s 74 38) = 3 by omega]) (Or.inl ⟨rfl, rfl⟩) (Nat.lt_succ_self _)
