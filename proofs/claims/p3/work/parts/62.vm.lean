set_option maxRecDepth 100000 in
/-- GatheredPointsModel.waits -/
theorem wp_waits  {L d : Nat} {K : Option gV → gH → Prop} {s : gH}  (p0 : Int) (p1 : Int) (hs : MI s) (h_p0 : (-2147483648) ≤ p0 ∧ p0 ≤ 2147483647) (h_p1 : (-2147483648) ≤ p1 ∧ p1 ≤ 2147483647)  (k : ∀ (r : Int), ∀ (t : gH), MI t → gF [75, 76, 77, 78, 79, 80, 81, 86, 87, 88] [15] s t → (mK s t) → K (some (gp_i r)) t) : gs_C L (d + 186) 3145 3 [gp_r (some 74), gp_i p0, gp_i p1] s K := by
  have f_1 := mr81 hs 19
  refine s_3145_e _ _ ?_
  refine vm_isSlot _ (fun x_2 p_3 p_4 p_5 => ⟨_, rfl, ?_⟩)
  refine ⟨fun h_6 => ?_, fun h_6 => ?_⟩
  · refine s_3145_19 _ _ ?_
    refine vm_finds _ hs (by omega) (fun x_7 s_8 hs_9 hf_10 p_11 p_12 => ⟨_, rfl, ?_⟩)
    have hf_13 : gF [75, 76, 77, 78, 79, 80, 81, 86, 87, 88] [15] s s_8 := gF.sub hf_10 rfl rfl
    have mb_14 : mK s s_8 := mK_fr (mK.refl _) hf_10 rfl
    have q_15 := (hf_10.2 81 19 rfl (fun h => absurd h (by decide))).1
    exact k _ s_8 hs_9 hf_13 mb_14
  · have w_16 := gz_oi (p1) (by omega)
    refine vm_isIn _ _ _ (fun x_17 p_18 p_19 => ⟨_, rfl, ?_⟩)
    have w_20 : BitVec.toInt (0#64) = 0 := by decide
    have w_21 : BitVec.toInt (BitVec.ofInt 64 20) = 20 := by decide
    refine ⟨fun h_22 => ?_, fun h_22 => ?_⟩
    · refine s_3145_19 _ _ ?_
      refine vm_finds _ hs (by omega) (fun x_23 s_24 hs_25 hf_26 p_27 p_28 => ⟨_, rfl, ?_⟩)
      have hf_29 : gF [75, 76, 77, 78, 79, 80, 81, 86, 87, 88] [15] s s_24 := gF.sub hf_26 rfl rfl
      have mb_30 : mK s s_24 := mK_fr (mK.refl _) hf_26 rfl
      have q_31 := (hf_26.2 81 19 rfl (fun h => absurd h (by decide))).1
      exact k _ s_24 hs_25 hf_29 mb_30
    · refine vm_waitsOf _ hs (by omega) (fun s_32 hs_33 hf_34 p_35 p_36 => ⟨rfl, ?_⟩)
      have hf_37 : gF [75, 76, 77, 78, 79, 80, 81, 86, 87, 88] [15] s s_32 := gF.sub hf_34 rfl rfl
      have mb_38 : mK s s_32 := mK.trans (mK.refl _) p_36
      refine vm_holds _ hs_33 (by omega) (by first | omega | assumption) (fun x_39 s_40 hs_41 hf_42 p_43 p_44 p_45 => ⟨_, rfl, ?_⟩)
      have hf_46 : gF [75, 76, 77, 78, 79, 80, 81, 86, 87, 88] [15] s s_40 := gF.trans hf_37 hf_42 rfl rfl
      have mb_47 : mK s s_40 := mK.trans mb_38 p_45
      exact k _ s_40 hs_41 hf_46 mb_47
set_option maxRecDepth 100000 in
/-- GatheredPointsModel.join -/
theorem wp_join  {L d : Nat} {K : Option gV → gH → Prop} {s : gH}  (p0 : Int) (p1 : Int) (p2 : Int) (hs : MI s) (h_p0 : (-2147483648) ≤ p0 ∧ p0 ≤ 2147483647) (h_p1 : (-2147483648) ≤ p1 ∧ p1 ≤ 2147483647) (h_p2 : (-2147483648) ≤ p2 ∧ p2 ≤ 2147483647)  (k : ∀ (r : Int), ∀ (t : gH), MI t → gF [75, 76, 77, 78, 79, 80, 81, 86, 87, 88, 105] [15] s t → (mK s t) → K (some (gp_i r)) t) : gs_C L (d + 187) 3146 5 [gp_r (some 74), gp_i p0, gp_i p1, gp_i p2] s K := by
  have f_1 := mr81 hs 19
  refine s_3146_e _ _ _ ?_
  refine vm_isSlot _ (fun x_2 p_3 p_4 p_5 => ⟨_, rfl, ?_⟩)
  refine ⟨fun h_6 => ?_, fun h_6 => ?_⟩
  · refine s_3146_21 _ _ _ _ ?_
    refine vm_finds _ hs (by omega) (fun x_7 s_8 hs_9 hf_10 p_11 p_12 => ⟨_, rfl, ?_⟩)
    have hf_13 : gF [75, 76, 77, 78, 79, 80, 81, 86, 87, 88, 105] [15] s s_8 := gF.sub hf_10 rfl rfl
    have mb_14 : mK s s_8 := mK_fr (mK.refl _) hf_10 rfl
    have q_15 := (hf_10.2 81 19 rfl (fun h => absurd h (by decide))).1
    exact k _ s_8 hs_9 hf_13 mb_14
  · refine vm_isSlot _ (fun x_16 p_17 p_18 p_19 => ⟨_, rfl, ?_⟩)
    refine ⟨fun h_20 => ?_, fun h_20 => ?_⟩
    · refine s_3146_21 _ _ _ _ ?_
      refine vm_finds _ hs (by omega) (fun x_21 s_22 hs_23 hf_24 p_25 p_26 => ⟨_, rfl, ?_⟩)
      have hf_27 : gF [75, 76, 77, 78, 79, 80, 81, 86, 87, 88, 105] [15] s s_22 := gF.sub hf_24 rfl rfl
      have mb_28 : mK s s_22 := mK_fr (mK.refl _) hf_24 rfl
      have q_29 := (hf_24.2 81 19 rfl (fun h => absurd h (by decide))).1
      exact k _ s_22 hs_23 hf_27 mb_28
    · refine vm_isSlot _ (fun x_30 p_31 p_32 p_33 => ⟨_, rfl, ?_⟩)
      refine ⟨fun h_34 => ?_, fun h_34 => ?_⟩
      · refine s_3146_21 _ _ _ _ ?_
        refine vm_finds _ hs (by omega) (fun x_35 s_36 hs_37 hf_38 p_39 p_40 => ⟨_, rfl, ?_⟩)
        have hf_41 : gF [75, 76, 77, 78, 79, 80, 81, 86, 87, 88, 105] [15] s s_36 := gF.sub hf_38 rfl rfl
        have mb_42 : mK s s_36 := mK_fr (mK.refl _) hf_38 rfl
        have q_43 := (hf_38.2 81 19 rfl (fun h => absurd h (by decide))).1
        exact k _ s_36 hs_37 hf_41 mb_42
      · have hmp0 := mr81s hs (Int.toNat p0) (by omega)
        have hmp1 := mr81s hs (Int.toNat p1) (by omega)
        refine vm_sums _ _ hs (by omega) (by omega) (by first | omega | assumption) (by first | omega | assumption) (by first | omega | assumption) (by first | omega | assumption) (fun x_44 s_45 hs_46 hf_47 p_48 p_49 p_50 p_51 => ⟨_, rfl, ?_⟩)
        have hf_52 : gF [75, 76, 77, 78, 79, 80, 81, 86, 87, 88, 105] [15] s s_45 := gF.sub hf_47 rfl rfl
        have mb_53 : mK s s_45 := mK.trans (mK.refl _) p_51
        refine ⟨fun h_54 => ?_, fun h_54 => ?_⟩
        · refine vm_holds _ hs_46 (by omega) (by first | omega | assumption) (fun x_55 s_56 hs_57 hf_58 p_59 p_60 p_61 => ⟨_, rfl, ?_⟩)
          have hf_62 : gF [75, 76, 77, 78, 79, 80, 81, 86, 87, 88, 105] [15] s s_56 := gF.trans hf_52 hf_58 rfl rfl
          have mb_63 : mK s s_56 := mK.trans mb_53 p_61
          refine s_3146_54 _ _ _ _ _ ?_
          exact k _ s_56 hs_57 hf_62 mb_63
        · refine vm_finds _ hs_46 (by omega) (fun x_64 s_65 hs_66 hf_67 p_68 p_69 => ⟨_, rfl, ?_⟩)
          have hf_70 : gF [75, 76, 77, 78, 79, 80, 81, 86, 87, 88, 105] [15] s s_65 := gF.trans hf_52 hf_67 rfl rfl
          have mb_71 : mK s s_65 := mK_fr mb_53 hf_67 rfl
          have q_72 := (hf_67.2 81 19 rfl (fun h => absurd h (by decide))).1
          refine s_3146_54 _ _ _ _ _ ?_
          exact k _ s_65 hs_66 hf_70 mb_71
set_option maxRecDepth 100000 in
/-- GatheredPointsModel.negate -/
theorem wp_negate  {L d : Nat} {K : Option gV → gH → Prop} {s : gH}  (p0 : Int) (p1 : Int) (hs : MI s) (h_p0 : (-2147483648) ≤ p0 ∧ p0 ≤ 2147483647) (h_p1 : (-2147483648) ≤ p1 ∧ p1 ≤ 2147483647)  (k : ∀ (r : Int), ∀ (t : gH), MI t → gF [75, 76, 77, 78, 79, 80, 81, 86, 87, 88, 89] [15] s t → (mK s t) → K (some (gp_i r)) t) : gs_C L (d + 186) 3147 3 [gp_r (some 74), gp_i p0, gp_i p1] s K := by
  have f_1 := mr81 hs 19
  refine s_3147_e _ _ ?_
  refine vm_isSlot _ (fun x_2 p_3 p_4 p_5 => ⟨_, rfl, ?_⟩)
  refine ⟨fun h_6 => ?_, fun h_6 => ?_⟩
  · refine s_3147_14 _ _ ?_
    refine vm_finds _ hs (by omega) (fun x_7 s_8 hs_9 hf_10 p_11 p_12 => ⟨_, rfl, ?_⟩)
    have hf_13 : gF [75, 76, 77, 78, 79, 80, 81, 86, 87, 88, 89] [15] s s_8 := gF.sub hf_10 rfl rfl
    have mb_14 : mK s s_8 := mK_fr (mK.refl _) hf_10 rfl
    have q_15 := (hf_10.2 81 19 rfl (fun h => absurd h (by decide))).1
    exact k _ s_8 hs_9 hf_13 mb_14
  · refine vm_isSlot _ (fun x_16 p_17 p_18 p_19 => ⟨_, rfl, ?_⟩)
    refine ⟨fun h_20 => ?_, fun h_20 => ?_⟩
    · refine s_3147_14 _ _ ?_
      refine vm_finds _ hs (by omega) (fun x_21 s_22 hs_23 hf_24 p_25 p_26 => ⟨_, rfl, ?_⟩)
      have hf_27 : gF [75, 76, 77, 78, 79, 80, 81, 86, 87, 88, 89] [15] s s_22 := gF.sub hf_24 rfl rfl
      have mb_28 : mK s s_22 := mK_fr (mK.refl _) hf_24 rfl
      have q_29 := (hf_24.2 81 19 rfl (fun h => absurd h (by decide))).1
      exact k _ s_22 hs_23 hf_27 mb_28
    · have hmp0 := mr81s hs (Int.toNat p0) (by omega)
      refine vm_negates _ hs (by omega) (by first | omega | assumption) (by first | omega | assumption) (fun s_30 hs_31 hf_32 p_33 p_34 => ⟨rfl, ?_⟩)
      have hf_35 : gF [75, 76, 77, 78, 79, 80, 81, 86, 87, 88, 89] [15] s s_30 := gF.sub hf_32 rfl rfl
      have mb_36 : mK s s_30 := mK.trans (mK.refl _) p_34
      refine vm_holds _ hs_31 (by omega) (by first | omega | assumption) (fun x_37 s_38 hs_39 hf_40 p_41 p_42 p_43 => ⟨_, rfl, ?_⟩)
      have hf_44 : gF [75, 76, 77, 78, 79, 80, 81, 86, 87, 88, 89] [15] s s_38 := gF.trans hf_35 hf_40 rfl rfl
      have mb_45 : mK s s_38 := mK.trans mb_36 p_43
      exact k _ s_38 hs_39 hf_44 mb_45
set_option maxRecDepth 100000 in
/-- GatheredPointsModel.option -/
theorem wp_option  {L d : Nat} {K : Option gV → gH → Prop} {s : gH}  (p0 : Int) (p1 : Int) (p2 : Int) (p3 : Int) (hs : MI s) (h_p0 : (-2147483648) ≤ p0 ∧ p0 ≤ 2147483647) (h_p1 : (-2147483648) ≤ p1 ∧ p1 ≤ 2147483647) (h_p2 : (-2147483648) ≤ p2 ∧ p2 ≤ 2147483647) (h_p3 : (-2147483648) ≤ p3 ∧ p3 ≤ 2147483647)  (k : ∀ (r : Int), ∀ (t : gH), MI t → gF [75, 76, 77, 78, 79, 80, 81, 86, 87, 88, 89] [15] s t → (mK s t) → K (some (gp_i r)) t) : gs_C L (d + 186) 3149 6 [gp_r (some 74), gp_i p0, gp_i p1, gp_i p2, gp_i p3] s K := by
  have f_1 := mr81 hs p0.toNat
  refine s_3149_e _ _ _ _ ?_
  refine vm_isSlot _ (fun x_2 p_3 p_4 p_5 => ⟨_, rfl, ?_⟩)
  refine ⟨fun h_6 => ?_, fun h_6 => ?_⟩
  · refine s_3149_22 _ _ _ _ _ ?_
    refine vm_finds _ hs (by omega) (fun x_7 s_8 hs_9 hf_10 p_11 p_12 => ⟨_, rfl, ?_⟩)
    have hf_13 : gF [75, 76, 77, 78, 79, 80, 81, 86, 87, 88, 89] [15] s s_8 := gF.sub hf_10 rfl rfl
    have mb_14 : mK s s_8 := mK_fr (mK.refl _) hf_10 rfl
    have q_15 := (hf_10.2 81 p0.toNat rfl (fun h => absurd h (by decide))).1
    exact k _ s_8 hs_9 hf_13 mb_14
  · refine vm_isSide _ (fun x_16 p_17 p_18 p_19 => ⟨_, rfl, ?_⟩)
    refine ⟨fun h_20 => ?_, fun h_20 => ?_⟩
    · refine s_3149_22 _ _ _ _ _ ?_
      refine vm_finds _ hs (by omega) (fun x_21 s_22 hs_23 hf_24 p_25 p_26 => ⟨_, rfl, ?_⟩)
      have hf_27 : gF [75, 76, 77, 78, 79, 80, 81, 86, 87, 88, 89] [15] s s_22 := gF.sub hf_24 rfl rfl
      have mb_28 : mK s s_22 := mK_fr (mK.refl _) hf_24 rfl
      have q_29 := (hf_24.2 81 p0.toNat rfl (fun h => absurd h (by decide))).1
      exact k _ s_22 hs_23 hf_27 mb_28
    · refine vm_isSlot _ (fun x_30 p_31 p_32 p_33 => ⟨_, rfl, ?_⟩)
      refine ⟨fun h_34 => ?_, fun h_34 => ?_⟩
      · refine s_3149_22 _ _ _ _ _ ?_
        refine vm_finds _ hs (by omega) (fun x_35 s_36 hs_37 hf_38 p_39 p_40 => ⟨_, rfl, ?_⟩)
        have hf_41 : gF [75, 76, 77, 78, 79, 80, 81, 86, 87, 88, 89] [15] s s_36 := gF.sub hf_38 rfl rfl
        have mb_42 : mK s s_36 := mK_fr (mK.refl _) hf_38 rfl
        have q_43 := (hf_38.2 81 p0.toNat rfl (fun h => absurd h (by decide))).1
        exact k _ s_36 hs_37 hf_41 mb_42
      · have hmp0 := mr81s hs (Int.toNat p0) (by omega)
        have jn51_47 : ∀ (j_45 : Int), ((-1) ≤ j_45 ∧ j_45 ≤ 63) → (j_45 < gp_I s 81 (Int.toNat p0)) → gs_E L (d + 186) 3149 51 [gp_r (some 74), gp_i p0, gp_i p1, gp_i p2, gp_i p3, gp_n] [gp_i j_45] s K := by
          intro j_45 hj_46 ij_47
          refine s_3149_51 _ _ _ _ _ _ ?_
          refine ⟨fun h_49 => ?_, fun h_49 => ?_⟩
          · refine vm_finds _ hs (by omega) (fun x_50 s_51 hs_52 hf_53 p_54 p_55 => ⟨_, rfl, ?_⟩)
            have hf_56 : gF [75, 76, 77, 78, 79, 80, 81, 86, 87, 88, 89] [15] s s_51 := gF.sub hf_53 rfl rfl
            have mb_57 : mK s s_51 := mK_fr (mK.refl _) hf_53 rfl
            have q_58 := (hf_53.2 81 p0.toNat rfl (fun h => absurd h (by decide))).1
            refine s_3149_75 _ _ _ _ _ _ ?_
            exact k _ s_51 hs_52 hf_56 mb_57
          · refine vm_holdsPart _ _ _ hs (by omega) (by omega) (by omega) (by first | omega | assumption) (fun x_59 s_60 hs_61 hf_62 p_63 p_64 => ⟨_, rfl, ?_⟩)
            have hf_65 : gF [75, 76, 77, 78, 79, 80, 81, 86, 87, 88, 89] [15] s s_60 := gF.sub hf_62 rfl rfl
            have mb_66 : mK s s_60 := mK.trans (mK.refl _) p_64
            refine s_3149_75 _ _ _ _ _ _ ?_
            exact k _ s_60 hs_61 hf_65 mb_66
        refine ⟨fun h_44 => ?_, fun h_44 => ?_⟩
        · exact jn51_47 _ (by omega) (by first | omega | (rcases ‹(_ = -1 ∧ _) ∨ _› with h | h; omega; (have := ‹bd _ _› _ h.2.1; omega)))
        · refine vm_root _ hs (by omega) (fun x_67 p_68 p_69 => ⟨_, rfl, ?_⟩)
          refine vm_sideOf _ _ _ hs (by omega) (by omega) (fun m_70 p_71 p_72 p_73 p_74 => ⟨_, rfl, ?_⟩)
          refine vm_inSet _ _ (fun x_75 p_76 p_77 => ⟨_, rfl, ?_⟩)
          exact jn51_47 _ (by omega) (by first | omega | (rcases ‹(_ = -1 ∧ _) ∨ _› with h | h; omega; (have := ‹bd _ _› _ h.2.1; omega)))
set_option maxRecDepth 100000 in
/-- GatheredPointsModel.order -/
theorem wp_order  {L d : Nat} {K : Option gV → gH → Prop} {s : gH}  (p0 : Int) (p1 : Int) (hs : MI s) (h_p0 : (-2147483648) ≤ p0 ∧ p0 ≤ 2147483647) (h_p1 : (-2147483648) ≤ p1 ∧ p1 ≤ 2147483647)  (k : ∀ (r : Int), ∀ (t : gH), MI t → gF [75, 86] [] s t → K (some (gp_i r)) t) : gs_C L (d + 195) 3151 3 [gp_r (some 74), gp_i p0, gp_i p1] s K := by
  have f_1 := mr81 hs p0.toNat
  have f_2 := mr81 hs p1.toNat
  refine s_3151_e _ _ ?_
  refine vm_isSlot _ (fun x_3 p_4 p_5 p_6 => ⟨_, rfl, ?_⟩)
  refine ⟨fun h_7 => ?_, fun h_7 => ?_⟩
  · refine s_3151_14 _ _ ?_
    refine vm_finds _ hs (by omega) (fun x_8 s_9 hs_10 hf_11 p_12 p_13 => ⟨_, rfl, ?_⟩)
    have hf_14 : gF [75, 86] [] s s_9 := gF.sub hf_11 rfl rfl
    have q_15 := (hf_11.2 81 p0.toNat rfl (fun h => absurd h (by decide))).1
    have q_16 := (hf_11.2 81 p1.toNat rfl (fun h => absurd h (by decide))).1
    exact k _ s_9 hs_10 hf_14
  · refine vm_isSlot _ (fun x_17 p_18 p_19 p_20 => ⟨_, rfl, ?_⟩)
    refine ⟨fun h_21 => ?_, fun h_21 => ?_⟩
    · refine s_3151_14 _ _ ?_
      refine vm_finds _ hs (by omega) (fun x_22 s_23 hs_24 hf_25 p_26 p_27 => ⟨_, rfl, ?_⟩)
      have hf_28 : gF [75, 86] [] s s_23 := gF.sub hf_25 rfl rfl
      have q_29 := (hf_25.2 81 p0.toNat rfl (fun h => absurd h (by decide))).1
      have q_30 := (hf_25.2 81 p1.toNat rfl (fun h => absurd h (by decide))).1
      exact k _ s_23 hs_24 hf_28
    · have hmp0 := mr81s hs (Int.toNat p0) (by omega)
      have hmp1 := mr81s hs (Int.toNat p1) (by omega)
      refine vm_forgets hs (fun s_31 hs_32 hf_33 p_34 => ⟨rfl, ?_⟩)
      have hf_35 : gF [75, 86] [] s s_31 := gF.sub hf_33 rfl rfl
      have q_36 := (hf_33.2 81 p0.toNat rfl (fun h => absurd h (by decide))).1
      have q_37 := (hf_33.2 81 p1.toNat rfl (fun h => absurd h (by decide))).1
      refine vm_root _ hs_32 (by omega) (fun x_38 p_39 p_40 => ⟨_, rfl, ?_⟩)
      refine vm_root _ hs_32 (by omega) (fun x_41 p_42 p_43 => ⟨_, rfl, ?_⟩)
      refine vm_order4 _ _ _ _ hs_32 (by omega) (by omega) (by omega) (by omega) (fun x_44 s_45 hs_46 hf_47 p_48 => ⟨_, rfl, ?_⟩)
      have hf_49 : gF [75, 86] [] s s_45 := gF.trans hf_35 hf_47 rfl rfl
      have q_50 := (hf_47.2 81 p0.toNat rfl (fun h => absurd h (by decide))).1
      have q_51 := (hf_47.2 81 p1.toNat rfl (fun h => absurd h (by decide))).1
      exact k _ s_45 hs_46 hf_49
set_option maxRecDepth 100000 in
/-- GatheredPointsModel.compare -/
theorem wp_compare  {L d : Nat} {K : Option gV → gH → Prop} {s : gH}  (p0 : Int) (p1 : Int) (hs : MI s) (h_p0 : (-2147483648) ≤ p0 ∧ p0 ≤ 2147483647) (h_p1 : (-2147483648) ≤ p1 ∧ p1 ≤ 2147483647)  (k : ∀ (r : Int), ∀ (t : gH), MI t → gF [75, 92, 93, 94, 95, 96, 97, 98, 99, 100, 101, 102, 103] [] s t → K (some (gp_i r)) t) : gs_C L (d + 388) 3152 4 [gp_r (some 74), gp_i p0, gp_i p1] s K := by
  have f_1 := mr81 hs p0.toNat
  have f_2 := mr81 hs p1.toNat
  refine s_3152_e _ _ ?_
  refine vm_isSlot _ (fun x_3 p_4 p_5 p_6 => ⟨_, rfl, ?_⟩)
  refine ⟨fun h_7 => ?_, fun h_7 => ?_⟩
  · refine s_3152_14 _ _ _ ?_
    refine vm_finds _ hs (by omega) (fun x_8 s_9 hs_10 hf_11 p_12 p_13 => ⟨_, rfl, ?_⟩)
    have hf_14 : gF [75, 92, 93, 94, 95, 96, 97, 98, 99, 100, 101, 102, 103] [] s s_9 := gF.sub hf_11 rfl rfl
    have q_15 := (hf_11.2 81 p0.toNat rfl (fun h => absurd h (by decide))).1
    have q_16 := (hf_11.2 81 p1.toNat rfl (fun h => absurd h (by decide))).1
    exact k _ s_9 hs_10 hf_14
  · refine vm_isSlot _ (fun x_17 p_18 p_19 p_20 => ⟨_, rfl, ?_⟩)
    refine ⟨fun h_21 => ?_, fun h_21 => ?_⟩
    · refine s_3152_14 _ _ _ ?_
      refine vm_finds _ hs (by omega) (fun x_22 s_23 hs_24 hf_25 p_26 p_27 => ⟨_, rfl, ?_⟩)
      have hf_28 : gF [75, 92, 93, 94, 95, 96, 97, 98, 99, 100, 101, 102, 103] [] s s_23 := gF.sub hf_25 rfl rfl
      have q_29 := (hf_25.2 81 p0.toNat rfl (fun h => absurd h (by decide))).1
      have q_30 := (hf_25.2 81 p1.toNat rfl (fun h => absurd h (by decide))).1
      exact k _ s_23 hs_24 hf_28
    · refine vm_isSure _ hs (by omega) (fun x_31 p_32 => ⟨_, rfl, ?_⟩)
      refine ⟨fun h_33 => ?_, fun h_33 => ?_⟩
      · refine s_3152_36 _ _ _ ?_
        refine vm_finds _ hs (by omega) (fun x_34 s_35 hs_36 hf_37 p_38 p_39 => ⟨_, rfl, ?_⟩)
        have hf_40 : gF [75, 92, 93, 94, 95, 96, 97, 98, 99, 100, 101, 102, 103] [] s s_35 := gF.sub hf_37 rfl rfl
        have q_41 := (hf_37.2 81 p0.toNat rfl (fun h => absurd h (by decide))).1
        have q_42 := (hf_37.2 81 p1.toNat rfl (fun h => absurd h (by decide))).1
        exact k _ s_35 hs_36 hf_40
      · refine vm_isSure _ hs (by omega) (fun x_43 p_44 => ⟨_, rfl, ?_⟩)
        refine ⟨fun h_45 => ?_, fun h_45 => ?_⟩
        · refine s_3152_36 _ _ _ ?_
          refine vm_finds _ hs (by omega) (fun x_46 s_47 hs_48 hf_49 p_50 p_51 => ⟨_, rfl, ?_⟩)
          have hf_52 : gF [75, 92, 93, 94, 95, 96, 97, 98, 99, 100, 101, 102, 103] [] s s_47 := gF.sub hf_49 rfl rfl
          have q_53 := (hf_49.2 81 p0.toNat rfl (fun h => absurd h (by decide))).1
          have q_54 := (hf_49.2 81 p1.toNat rfl (fun h => absurd h (by decide))).1
          exact k _ s_47 hs_48 hf_52
        · have hmp0 := mr81s hs (Int.toNat p0) (by omega)
          have hmp1 := mr81s hs (Int.toNat p1) (by omega)
          refine vm_compares _ _ hs (by omega) (by omega) (fun s_55 hs_56 hf_57 => ⟨rfl, ?_⟩)
          have hf_58 : gF [75, 92, 93, 94, 95, 96, 97, 98, 99, 100, 101, 102, 103] [] s s_55 := gF.sub hf_57 rfl rfl
          have q_59 := (hf_57.2 81 p0.toNat rfl (fun h => absurd h (by decide))).1
          have q_60 := (hf_57.2 81 p1.toNat rfl (fun h => absurd h (by decide))).1
          refine vm_root _ hs_56 (by omega) (fun x_61 p_62 p_63 => ⟨_, rfl, ?_⟩)
          refine vm_root _ hs_56 (by omega) (fun x_64 p_65 p_66 => ⟨_, rfl, ?_⟩)
          refine vm_atLeast5 _ _ _ _ _ hs_56 (by omega) (by omega) (by omega) (by omega) (by omega) (fun x_67 s_68 hs_69 hf_70 p_71 => ⟨_, rfl, ?_⟩)
          have hf_72 : gF [75, 92, 93, 94, 95, 96, 97, 98, 99, 100, 101, 102, 103] [] s s_68 := gF.trans hf_58 hf_70 rfl rfl
          have q_73 := (hf_70.2 81 p0.toNat rfl (fun h => absurd h (by decide))).1
          have q_74 := (hf_70.2 81 p1.toNat rfl (fun h => absurd h (by decide))).1
          have jn73_77 : ∀ (j_76 : Int), (0 ≤ j_76 ∧ j_76 ≤ 1) → gs_E L (d + 388) 3152 73 [gp_r (some 74), gp_i p0, gp_i p1, gp_n] [gp_i j_76] s_68 K := by
            intro j_76 hj_77
            refine s_3152_73 _ _ _ _ ?_
            refine vm_root _ hs_69 (by omega) (fun x_79 p_80 p_81 => ⟨_, rfl, ?_⟩)
            refine vm_root _ hs_69 (by omega) (fun x_82 p_83 p_84 => ⟨_, rfl, ?_⟩)
            refine vm_atLeast5 _ _ _ _ _ hs_69 (by omega) (by omega) (by omega) (by omega) (by omega) (fun x_85 s_86 hs_87 hf_88 p_89 => ⟨_, rfl, ?_⟩)
            have hf_90 : gF [75, 92, 93, 94, 95, 96, 97, 98, 99, 100, 101, 102, 103] [] s s_86 := gF.trans hf_72 hf_88 rfl rfl
            have q_91 := (hf_88.2 81 p0.toNat rfl (fun h => absurd h (by decide))).1
            have q_92 := (hf_88.2 81 p1.toNat rfl (fun h => absurd h (by decide))).1
            refine ⟨fun h_93 => ?_, fun h_93 => ?_⟩
            · refine s_3152_100 _ _ _ _ _ ?_
              try rw [show gp_wr (j_76 + 0) = j_76 + 0 from gp_wr_id (by omega) (by omega)]
              exact k _ s_86 hs_87 hf_90
            · refine s_3152_100 _ _ _ _ _ ?_
              try rw [show gp_wr (j_76 + 2) = j_76 + 2 from gp_wr_id (by omega) (by omega)]
              exact k _ s_86 hs_87 hf_90
          refine ⟨fun h_75 => ?_, fun h_75 => ?_⟩
          · exact jn73_77 _ (by omega)
          · exact jn73_77 _ (by omega)
set_option maxRecDepth 100000 in
/-- GatheredPointsModel.answer -/
theorem wp_answer  {L d : Nat} {K : Option gV → gH → Prop} {s : gH}  (p0 : Int) (p1 : Int) (p2 : Int) (p3 : Int) (hs : MI s) (h_p0 : (-2147483648) ≤ p0 ∧ p0 ≤ 2147483647) (h_p1 : (-2147483648) ≤ p1 ∧ p1 ≤ 2147483647) (h_p2 : (-2147483648) ≤ p2 ∧ p2 ≤ 2147483647) (h_p3 : (-2147483648) ≤ p3 ∧ p3 ≤ 2147483647)  (k : ∀ (r : Int), ∀ (t : gH), MI t → gF [75, 92, 93, 94, 95, 96, 97, 98, 99, 100, 101, 102, 103] [] s t → K (some (gp_i r)) t) : gs_C L (d + 389) 3153 8 [gp_r (some 74), gp_i p0, gp_i p1, gp_i p2, gp_i p3] s K := by
  have f_1 := mr81 hs p0.toNat
  have f_2 := mr81 hs p1.toNat
  refine s_3153_e _ _ _ _ ?_
  refine vm_isSlot _ (fun x_3 p_4 p_5 p_6 => ⟨_, rfl, ?_⟩)
  refine ⟨fun h_7 => ?_, fun h_7 => ?_⟩
  · refine s_3153_21 _ _ _ _ _ _ _ ?_
    refine vm_finds _ hs (by omega) (fun x_8 s_9 hs_10 hf_11 p_12 p_13 => ⟨_, rfl, ?_⟩)
    have hf_14 : gF [75, 92, 93, 94, 95, 96, 97, 98, 99, 100, 101, 102, 103] [] s s_9 := gF.sub hf_11 rfl rfl
    have q_15 := (hf_11.2 81 p0.toNat rfl (fun h => absurd h (by decide))).1
    have q_16 := (hf_11.2 81 p1.toNat rfl (fun h => absurd h (by decide))).1
    exact k _ s_9 hs_10 hf_14
  · refine vm_isSlot _ (fun x_17 p_18 p_19 p_20 => ⟨_, rfl, ?_⟩)
    refine ⟨fun h_21 => ?_, fun h_21 => ?_⟩
    · refine s_3153_21 _ _ _ _ _ _ _ ?_
      refine vm_finds _ hs (by omega) (fun x_22 s_23 hs_24 hf_25 p_26 p_27 => ⟨_, rfl, ?_⟩)
      have hf_28 : gF [75, 92, 93, 94, 95, 96, 97, 98, 99, 100, 101, 102, 103] [] s s_23 := gF.sub hf_25 rfl rfl
      have q_29 := (hf_25.2 81 p0.toNat rfl (fun h => absurd h (by decide))).1
      have q_30 := (hf_25.2 81 p1.toNat rfl (fun h => absurd h (by decide))).1
      exact k _ s_23 hs_24 hf_28
    · refine vm_isSide _ (fun x_31 p_32 p_33 p_34 => ⟨_, rfl, ?_⟩)
      refine ⟨fun h_35 => ?_, fun h_35 => ?_⟩
      · refine s_3153_21 _ _ _ _ _ _ _ ?_
        refine vm_finds _ hs (by omega) (fun x_36 s_37 hs_38 hf_39 p_40 p_41 => ⟨_, rfl, ?_⟩)
        have hf_42 : gF [75, 92, 93, 94, 95, 96, 97, 98, 99, 100, 101, 102, 103] [] s s_37 := gF.sub hf_39 rfl rfl
        have q_43 := (hf_39.2 81 p0.toNat rfl (fun h => absurd h (by decide))).1
        have q_44 := (hf_39.2 81 p1.toNat rfl (fun h => absurd h (by decide))).1
        exact k _ s_37 hs_38 hf_42
      · refine vm_isSure _ hs (by omega) (fun x_45 p_46 => ⟨_, rfl, ?_⟩)
        refine ⟨fun h_47 => ?_, fun h_47 => ?_⟩
        · refine s_3153_43 _ _ _ _ _ _ _ ?_
          refine vm_finds _ hs (by omega) (fun x_48 s_49 hs_50 hf_51 p_52 p_53 => ⟨_, rfl, ?_⟩)
          have hf_54 : gF [75, 92, 93, 94, 95, 96, 97, 98, 99, 100, 101, 102, 103] [] s s_49 := gF.sub hf_51 rfl rfl
          have q_55 := (hf_51.2 81 p0.toNat rfl (fun h => absurd h (by decide))).1
          have q_56 := (hf_51.2 81 p1.toNat rfl (fun h => absurd h (by decide))).1
          exact k _ s_49 hs_50 hf_54
        · refine vm_isSure _ hs (by omega) (fun x_57 p_58 => ⟨_, rfl, ?_⟩)
          refine ⟨fun h_59 => ?_, fun h_59 => ?_⟩
          · refine s_3153_43 _ _ _ _ _ _ _ ?_
            refine vm_finds _ hs (by omega) (fun x_60 s_61 hs_62 hf_63 p_64 p_65 => ⟨_, rfl, ?_⟩)
            have hf_66 : gF [75, 92, 93, 94, 95, 96, 97, 98, 99, 100, 101, 102, 103] [] s s_61 := gF.sub hf_63 rfl rfl
            have q_67 := (hf_63.2 81 p0.toNat rfl (fun h => absurd h (by decide))).1
            have q_68 := (hf_63.2 81 p1.toNat rfl (fun h => absurd h (by decide))).1
            exact k _ s_61 hs_62 hf_66
          · have hmp0 := mr81s hs (Int.toNat p0) (by omega)
            have hmp1 := mr81s hs (Int.toNat p1) (by omega)
            refine vm_compares _ _ hs (by omega) (by omega) (fun s_69 hs_70 hf_71 => ⟨rfl, ?_⟩)
            have hf_72 : gF [75, 92, 93, 94, 95, 96, 97, 98, 99, 100, 101, 102, 103] [] s s_69 := gF.sub hf_71 rfl rfl
            have q_73 := (hf_71.2 81 p0.toNat rfl (fun h => absurd h (by decide))).1
            have q_74 := (hf_71.2 81 p1.toNat rfl (fun h => absurd h (by decide))).1
            refine vm_root _ hs_70 (by omega) (fun x_75 p_76 p_77 => ⟨_, rfl, ?_⟩)
            refine vm_root _ hs_70 (by omega) (fun x_78 p_79 p_80 => ⟨_, rfl, ?_⟩)
            refine vm_atLeast5 _ _ _ _ _ hs_70 (by omega) (by omega) (by omega) (by omega) (by omega) (fun x_81 s_82 hs_83 hf_84 p_85 => ⟨_, rfl, ?_⟩)
            have hf_86 : gF [75, 92, 93, 94, 95, 96, 97, 98, 99, 100, 101, 102, 103] [] s s_82 := gF.trans hf_72 hf_84 rfl rfl
            have q_87 := (hf_84.2 81 p0.toNat rfl (fun h => absurd h (by decide))).1
            have q_88 := (hf_84.2 81 p1.toNat rfl (fun h => absurd h (by decide))).1
            refine ⟨fun h_89 => ?_, fun h_89 => ?_⟩
            · refine vm_finds _ hs_83 (by omega) (fun x_90 s_91 hs_92 hf_93 p_94 p_95 => ⟨_, rfl, ?_⟩)
              have hf_96 : gF [75, 92, 93, 94, 95, 96, 97, 98, 99, 100, 101, 102, 103] [] s s_91 := gF.trans hf_86 hf_93 rfl rfl
              have q_97 := (hf_93.2 81 p0.toNat rfl (fun h => absurd h (by decide))).1
              have q_98 := (hf_93.2 81 p1.toNat rfl (fun h => absurd h (by decide))).1
              exact k _ s_91 hs_92 hf_96
            · have jn134_101 : ∀ (j_100 : Int), ((-1) ≤ j_100 ∧ j_100 ≤ 63) → gs_E L (d + 389) 3153 134 [gp_r (some 74), gp_i p0, gp_i p1, gp_i p2, gp_i p3, gp_i x_75, gp_i x_78, gp_n] [gp_i j_100] s_82 K := by
                intro j_100 hj_101
                refine s_3153_134 _ _ _ _ _ _ _ _ ?_
                refine ⟨fun h_103 => ?_, fun h_103 => ?_⟩
                · refine vm_finds _ hs_83 (by omega) (fun x_104 s_105 hs_106 hf_107 p_108 p_109 => ⟨_, rfl, ?_⟩)
                  have hf_110 : gF [75, 92, 93, 94, 95, 96, 97, 98, 99, 100, 101, 102, 103] [] s s_105 := gF.trans hf_86 hf_107 rfl rfl
                  have q_111 := (hf_107.2 81 p0.toNat rfl (fun h => absurd h (by decide))).1
                  have q_112 := (hf_107.2 81 p1.toNat rfl (fun h => absurd h (by decide))).1
                  exact k _ s_105 hs_106 hf_110
                · refine ⟨fun h_113 => ?_, fun h_113 => ?_⟩
                  · refine vm_answerLeft5 _ _ _ _ _ hs_83 (by omega) (by omega) (by omega) (by omega) (by omega) (fun x_114 s_115 hs_116 hf_117 p_118 => ⟨_, rfl, ?_⟩)
                    have hf_119 : gF [75, 92, 93, 94, 95, 96, 97, 98, 99, 100, 101, 102, 103] [] s s_115 := gF.trans hf_86 hf_117 rfl rfl
                    have q_120 := (hf_117.2 81 p0.toNat rfl (fun h => absurd h (by decide))).1
                    have q_121 := (hf_117.2 81 p1.toNat rfl (fun h => absurd h (by decide))).1
                    refine s_3153_176 _ _ _ _ _ _ _ _ ?_
                    exact k _ s_115 hs_116 hf_119
                  · refine vm_answerRight5 _ _ _ _ _ hs_83 (by omega) (by omega) (by omega) (by omega) (by omega) (fun x_122 s_123 hs_124 hf_125 p_126 => ⟨_, rfl, ?_⟩)
                    have hf_127 : gF [75, 92, 93, 94, 95, 96, 97, 98, 99, 100, 101, 102, 103] [] s s_123 := gF.trans hf_86 hf_125 rfl rfl
                    have q_128 := (hf_125.2 81 p0.toNat rfl (fun h => absurd h (by decide))).1
                    have q_129 := (hf_125.2 81 p1.toNat rfl (fun h => absurd h (by decide))).1
                    refine s_3153_176 _ _ _ _ _ _ _ _ ?_
                    exact k _ s_123 hs_124 hf_127
              refine ⟨fun h_99 => ?_, fun h_99 => ?_⟩
              · exact jn134_101 _ (by omega)
              · have jn129_131 : ∀ (j_131 : BitVec 64), gs_E L (d + 389) 3153 129 [gp_r (some 74), gp_i p0, gp_i p1, gp_i p2, gp_i p3, gp_i x_75, gp_i x_78, gp_n] [gp_l j_131] s_82 K := by
                  intro j_131
                  refine s_3153_129 _ _ _ _ _ _ _ _ ?_
                  refine vm_inSet _ _ (fun x_133 p_134 p_135 => ⟨_, rfl, ?_⟩)
                  exact jn134_101 _ (by omega)
                refine ⟨fun h_130 => ?_, fun h_130 => ?_⟩
                · try rw [show gp_wr (64 * p1) = 64 * p1 from gp_wr_id (by omega) (by omega)]
                  try rw [show gp_wr ((64 * p1) + x_78) = (64 * p1) + x_78 from gp_wr_id (by omega) (by omega)]
                  refine ⟨by omega, ?_⟩
                  have b_136 := mr76 hs_83 p1 x_78 (by omega) (by omega)
                  exact jn129_131 _
                · try rw [show gp_wr (64 * p0) = 64 * p0 from gp_wr_id (by omega) (by omega)]
                  try rw [show gp_wr ((64 * p0) + x_75) = (64 * p0) + x_75 from gp_wr_id (by omega) (by omega)]
                  refine ⟨by omega, ?_⟩
                  have b_137 := mr77 hs_83 p0 x_75 (by omega) (by omega)
                  exact jn129_131 _
set_option maxRecDepth 100000 in
/-- GatheredPointsModel.reduce -/
theorem wp_reduce  {L d : Nat} {K : Option gV → gH → Prop} {s : gH}  (p0 : Int) (p1 : Int) (hs : MI s) (h_p0 : (-2147483648) ≤ p0 ∧ p0 ≤ 2147483647) (h_p1 : (-2147483648) ≤ p1 ∧ p1 ≤ 2147483647)  (k : ∀ (r : Int), ∀ (t : gH), MI t → gF [75, 76, 77, 78, 79, 80, 81, 86, 87, 88, 92, 93, 94, 95, 96, 97, 98, 99, 100, 101, 102, 103, 104] [15, 35, 36] s t → (mK s t) → K (some (gp_i r)) t) : gs_C L (d + 576) 3154 3 [gp_r (some 74), gp_i p0, gp_i p1] s K := by
  have f_1 := mr81 hs 19
  have f_2 := mr81 hs p0.toNat
  refine s_3154_e _ _ ?_
  refine vm_isSlot _ (fun x_3 p_4 p_5 p_6 => ⟨_, rfl, ?_⟩)
  refine ⟨fun h_7 => ?_, fun h_7 => ?_⟩
  · refine s_3154_14 _ _ ?_
    refine vm_finds _ hs (by omega) (fun x_8 s_9 hs_10 hf_11 p_12 p_13 => ⟨_, rfl, ?_⟩)
    have hf_14 : gF [75, 76, 77, 78, 79, 80, 81, 86, 87, 88, 92, 93, 94, 95, 96, 97, 98, 99, 100, 101, 102, 103, 104] [15, 35, 36] s s_9 := gF.sub hf_11 rfl rfl
    have mb_15 : mK s s_9 := mK_fr (mK.refl _) hf_11 rfl
    have q_16 := (hf_11.2 81 19 rfl (fun h => absurd h (by decide))).1
    have q_17 := (hf_11.2 81 p0.toNat rfl (fun h => absurd h (by decide))).1
    exact k _ s_9 hs_10 hf_14 mb_15
  · refine vm_isSlot _ (fun x_18 p_19 p_20 p_21 => ⟨_, rfl, ?_⟩)
    refine ⟨fun h_22 => ?_, fun h_22 => ?_⟩
    · refine s_3154_14 _ _ ?_
      refine vm_finds _ hs (by omega) (fun x_23 s_24 hs_25 hf_26 p_27 p_28 => ⟨_, rfl, ?_⟩)
      have hf_29 : gF [75, 76, 77, 78, 79, 80, 81, 86, 87, 88, 92, 93, 94, 95, 96, 97, 98, 99, 100, 101, 102, 103, 104] [15, 35, 36] s s_24 := gF.sub hf_26 rfl rfl
      have mb_30 : mK s s_24 := mK_fr (mK.refl _) hf_26 rfl
      have q_31 := (hf_26.2 81 19 rfl (fun h => absurd h (by decide))).1
      have q_32 := (hf_26.2 81 p0.toNat rfl (fun h => absurd h (by decide))).1
      exact k _ s_24 hs_25 hf_29 mb_30
    · refine vm_isSure _ hs (by omega) (fun x_33 p_34 => ⟨_, rfl, ?_⟩)
      refine ⟨fun h_35 => ?_, fun h_35 => ?_⟩
      · refine vm_finds _ hs (by omega) (fun x_36 s_37 hs_38 hf_39 p_40 p_41 => ⟨_, rfl, ?_⟩)
        have hf_42 : gF [75, 76, 77, 78, 79, 80, 81, 86, 87, 88, 92, 93, 94, 95, 96, 97, 98, 99, 100, 101, 102, 103, 104] [15, 35, 36] s s_37 := gF.sub hf_39 rfl rfl
        have mb_43 : mK s s_37 := mK_fr (mK.refl _) hf_39 rfl
        have q_44 := (hf_39.2 81 19 rfl (fun h => absurd h (by decide))).1
        have q_45 := (hf_39.2 81 p0.toNat rfl (fun h => absurd h (by decide))).1
        exact k _ s_37 hs_38 hf_42 mb_43
      · have hmp0 := mr81s hs (Int.toNat p0) (by omega)
        refine vm_reduces _ hs (by omega) (by first | omega | assumption) (by first | omega | assumption) (fun s_46 hs_47 hf_48 p_49 p_50 => ⟨rfl, ?_⟩)
        have hf_51 : gF [75, 76, 77, 78, 79, 80, 81, 86, 87, 88, 92, 93, 94, 95, 96, 97, 98, 99, 100, 101, 102, 103, 104] [15, 35, 36] s s_46 := gF.sub hf_48 rfl rfl
        have mb_52 : mK s s_46 := mK.trans (mK.refl _) p_50
        refine vm_holds _ hs_47 (by omega) (by first | omega | assumption) (fun x_53 s_54 hs_55 hf_56 p_57 p_58 p_59 => ⟨_, rfl, ?_⟩)
        have hf_60 : gF [75, 76, 77, 78, 79, 80, 81, 86, 87, 88, 92, 93, 94, 95, 96, 97, 98, 99, 100, 101, 102, 103, 104] [15, 35, 36] s s_54 := gF.trans hf_51 hf_56 rfl rfl
        have mb_61 : mK s s_54 := mK.trans mb_52 p_59
        exact k _ s_54 hs_55 hf_60 mb_61
set_option maxRecDepth 100000 in
/-- GatheredPointsModel.gameOf -/
theorem wp_gameOf  {L d : Nat} {K : Option gV → gH → Prop} {s : gH}  (p0 : Int) (p1 : Int) (hs : MI s) (h_p0 : (-2147483648) ≤ p0 ∧ p0 ≤ 2147483647) (h_p1 : (-2147483648) ≤ p1 ∧ p1 ≤ 2147483647)  (k : ∀ (r : Int), ∀ (t : gH), MI t → gF [75, 90, 91, 92, 93, 94, 95, 96, 97] [] s t → K (some (gp_i r)) t) : gs_C L (d + 4) 3150 4 [gp_r (some 74), gp_i p0, gp_i p1] s K := by
  have f_1 := mr81 hs p0.toNat
  refine s_3150_e _ _ ?_
  refine vm_isSlot _ (fun x_2 p_3 p_4 p_5 => ⟨_, rfl, ?_⟩)
  refine ⟨fun h_6 => ?_, fun h_6 => ?_⟩
  · refine s_3150_19 _ _ _ ?_
    refine vm_finds _ hs (by omega) (fun x_7 s_8 hs_9 hf_10 p_11 p_12 => ⟨_, rfl, ?_⟩)
    have hf_13 : gF [75, 90, 91, 92, 93, 94, 95, 96, 97] [] s s_8 := gF.sub hf_10 rfl rfl
    have q_14 := (hf_10.2 81 p0.toNat rfl (fun h => absurd h (by decide))).1
    exact k _ s_8 hs_9 hf_13
  · have w_15 := gz_oi (p1) (by omega)
    refine vm_isIn _ _ _ (fun x_16 p_17 p_18 => ⟨_, rfl, ?_⟩)
    have w_19 : BitVec.toInt (0#64) = 0 := by decide
    have w_20 : BitVec.toInt (BitVec.ofInt 64 12) = 12 := by decide
    refine ⟨fun h_21 => ?_, fun h_21 => ?_⟩
    · refine s_3150_19 _ _ _ ?_
      refine vm_finds _ hs (by omega) (fun x_22 s_23 hs_24 hf_25 p_26 p_27 => ⟨_, rfl, ?_⟩)
      have hf_28 : gF [75, 90, 91, 92, 93, 94, 95, 96, 97] [] s s_23 := gF.sub hf_25 rfl rfl
      have q_29 := (hf_25.2 81 p0.toNat rfl (fun h => absurd h (by decide))).1
      exact k _ s_23 hs_24 hf_28
    · have hmp0 := mr81s hs (Int.toNat p0) (by omega)
      refine vm_root _ hs (by omega) (fun x_30 p_31 p_32 => ⟨_, rfl, ?_⟩)
      refine ⟨fun h_33 => ?_, fun h_33 => ?_, fun h_33 => ?_, fun h_33 => ?_, fun h_33 => ?_, fun h_33 => ?_, fun h_33 => ?_, fun h_33 => ?_, fun h_33 => ?_, fun h_33 => ?_, fun h_33 => ?_, fun h_33 => ?_, fun h_33 => ?_, fun h_33 => ?_⟩
      · refine ⟨by omega, ?_⟩
        have f_34 := mr81 hs (Int.toNat p0)
        have f_35 := mr81s hs (Int.toNat p0) (by omega)
        exact k _ s hs (gF.refl _ _ _)
      · try rw [show gp_wr (64 * p0) = 64 * p0 from gp_wr_id (by omega) (by omega)]
        try rw [show gp_wr ((64 * p0) + x_30) = (64 * p0) + x_30 from gp_wr_id (by omega) (by omega)]
        refine ⟨by omega, ?_⟩
        have f_36 := mr80 hs (Int.toNat ((64 * p0) + x_30))
        exact k _ s hs (gF.refl _ _ _)
      · try rw [show gp_wr (p1 - 2) = p1 - 2 from gp_wr_id (by omega) (by omega)]
        refine vm_sideOf _ _ _ hs (by omega) (by omega) (fun m_37 p_38 p_39 p_40 p_41 => ⟨_, rfl, ?_⟩)
        refine vm_size _ (fun x_42 p_43 p_44 => ⟨_, rfl, ?_⟩)
        exact k _ s hs (gF.refl _ _ _)
      · try rw [show gp_wr (p1 - 2) = p1 - 2 from gp_wr_id (by omega) (by omega)]
        refine vm_sideOf _ _ _ hs (by omega) (by omega) (fun m_45 p_46 p_47 p_48 p_49 => ⟨_, rfl, ?_⟩)
        refine vm_size _ (fun x_50 p_51 p_52 => ⟨_, rfl, ?_⟩)
        exact k _ s hs (gF.refl _ _ _)
      · try rw [show gp_wr (p1 - 4) = p1 - 4 from gp_wr_id (by omega) (by omega)]
        refine vm_sideOf _ _ _ hs (by omega) (by omega) (fun m_53 p_54 p_55 p_56 p_57 => ⟨_, rfl, ?_⟩)
        refine ⟨fun h_58 => ?_, fun h_58 => ?_⟩
        · have hz_59 : m_53 = 0#64 := (gm_cmp0 _ _).mp h_58
          try rw [show gp_wr (p1 - 4) = p1 - 4 from gp_wr_id (by omega) (by omega)]
          refine vm_shut _ _ _ hs (by omega) (by omega) (fun x_60 p_61 p_62 => ⟨_, rfl, ?_⟩)
          refine s_3150_163 _ _ _ _ ?_
          exact k _ s hs (gF.refl _ _ _)
        · have hz_63 : ¬ m_53 = 0#64 := fun q => h_58 ((gm_cmp0 _ _).mpr q)
          refine vm_finds _ hs (by omega) (fun x_64 s_65 hs_66 hf_67 p_68 p_69 => ⟨_, rfl, ?_⟩)
          have hf_70 : gF [75, 90, 91, 92, 93, 94, 95, 96, 97] [] s s_65 := gF.sub hf_67 rfl rfl
          have q_71 := (hf_67.2 81 p0.toNat rfl (fun h => absurd h (by decide))).1
          refine s_3150_163 _ _ _ _ ?_
          exact k _ s_65 hs_66 hf_70
      · try rw [show gp_wr (p1 - 4) = p1 - 4 from gp_wr_id (by omega) (by omega)]
        refine vm_sideOf _ _ _ hs (by omega) (by omega) (fun m_72 p_73 p_74 p_75 p_76 => ⟨_, rfl, ?_⟩)
        refine ⟨fun h_77 => ?_, fun h_77 => ?_⟩
        · have hz_78 : m_72 = 0#64 := (gm_cmp0 _ _).mp h_77
          try rw [show gp_wr (p1 - 4) = p1 - 4 from gp_wr_id (by omega) (by omega)]
          refine vm_shut _ _ _ hs (by omega) (by omega) (fun x_79 p_80 p_81 => ⟨_, rfl, ?_⟩)
          refine s_3150_163 _ _ _ _ ?_
          exact k _ s hs (gF.refl _ _ _)
        · have hz_82 : ¬ m_72 = 0#64 := fun q => h_77 ((gm_cmp0 _ _).mpr q)
          refine vm_finds _ hs (by omega) (fun x_83 s_84 hs_85 hf_86 p_87 p_88 => ⟨_, rfl, ?_⟩)
          have hf_89 : gF [75, 90, 91, 92, 93, 94, 95, 96, 97] [] s s_84 := gF.sub hf_86 rfl rfl
          have q_90 := (hf_86.2 81 p0.toNat rfl (fun h => absurd h (by decide))).1
          refine s_3150_163 _ _ _ _ ?_
          exact k _ s_84 hs_85 hf_89
      · refine vm_scores _ hs (by omega) (fun s_91 hs_92 hf_93 => ⟨rfl, ?_⟩)
        have hf_94 : gF [75, 90, 91, 92, 93, 94, 95, 96, 97] [] s s_91 := gF.sub hf_93 rfl rfl
        have q_95 := (hf_93.2 81 p0.toNat rfl (fun h => absurd h (by decide))).1
        refine ⟨fun h_96 => ?_, fun h_96 => ?_⟩
        · refine ⟨by omega, ?_⟩
          refine s_3150_190 _ _ _ _ ?_
          exact k _ s_91 hs_92 hf_94
        · exfalso; omega
      · refine vm_scores _ hs (by omega) (fun s_97 hs_98 hf_99 => ⟨rfl, ?_⟩)
        have hf_100 : gF [75, 90, 91, 92, 93, 94, 95, 96, 97] [] s s_97 := gF.sub hf_99 rfl rfl
        have q_101 := (hf_99.2 81 p0.toNat rfl (fun h => absurd h (by decide))).1
        refine ⟨fun h_102 => ?_, fun h_102 => ?_⟩
        · exfalso; omega
        · refine ⟨by omega, ?_⟩
          refine s_3150_190 _ _ _ _ ?_
          exact k _ s_97 hs_98 hf_100
      · refine vm_bounds _ hs (by omega) (fun s_103 hs_104 hf_105 p_106 p_107 => ⟨rfl, ?_⟩)
        have hf_108 : gF [75, 90, 91, 92, 93, 94, 95, 96, 97] [] s s_103 := gF.sub hf_105 rfl rfl
        have q_109 := (hf_105.2 81 p0.toNat rfl (fun h => absurd h (by decide))).1
        have hb0 : mX 95 93 x_30 s_103 := by have h9 := p_106 (by omega); rw [show x_30 = gp_I s 81 p0.toNat - 1 by omega]; exact h9
        have hb1 : mX 96 92 x_30 s_103 := by have h9 := p_107 (by omega); rw [show x_30 = gp_I s 81 p0.toNat - 1 by omega]; exact h9
        refine ⟨fun h_110 => ?_, fun h_110 => ?_⟩
        · refine ⟨by omega, ?_⟩
          refine s_3150_249 _ _ _ _ ?_
          exact k _ s_103 hs_104 hf_108
        · exfalso; omega
      · refine vm_bounds _ hs (by omega) (fun s_111 hs_112 hf_113 p_114 p_115 => ⟨rfl, ?_⟩)
        have hf_116 : gF [75, 90, 91, 92, 93, 94, 95, 96, 97] [] s s_111 := gF.sub hf_113 rfl rfl
        have q_117 := (hf_113.2 81 p0.toNat rfl (fun h => absurd h (by decide))).1
        have hb0 : mX 95 93 x_30 s_111 := by have h9 := p_114 (by omega); rw [show x_30 = gp_I s 81 p0.toNat - 1 by omega]; exact h9
        have hb1 : mX 96 92 x_30 s_111 := by have h9 := p_115 (by omega); rw [show x_30 = gp_I s 81 p0.toNat - 1 by omega]; exact h9
        refine ⟨fun h_118 => ?_, fun h_118 => ?_⟩
        · exfalso; omega
        · refine ⟨fun h_119 => ?_, fun h_119 => ?_⟩
          · refine ⟨by omega, ?_⟩
            refine s_3150_249 _ _ _ _ ?_
            exact k _ s_111 hs_112 hf_116
          · exfalso; omega
      · refine vm_bounds _ hs (by omega) (fun s_120 hs_121 hf_122 p_123 p_124 => ⟨rfl, ?_⟩)
        have hf_125 : gF [75, 90, 91, 92, 93, 94, 95, 96, 97] [] s s_120 := gF.sub hf_122 rfl rfl
        have q_126 := (hf_122.2 81 p0.toNat rfl (fun h => absurd h (by decide))).1
        have hb0 : mX 95 93 x_30 s_120 := by have h9 := p_123 (by omega); rw [show x_30 = gp_I s 81 p0.toNat - 1 by omega]; exact h9
        have hb1 : mX 96 92 x_30 s_120 := by have h9 := p_124 (by omega); rw [show x_30 = gp_I s 81 p0.toNat - 1 by omega]; exact h9
        refine ⟨fun h_127 => ?_, fun h_127 => ?_⟩
        · exfalso; omega
        · refine ⟨fun h_128 => ?_, fun h_128 => ?_⟩
          · exfalso; omega
          · try rw [show gp_wr (p1 - 10) = p1 - 10 from gp_wr_id (by omega) (by omega)]
            refine vm_price _ _ hs_121 (by omega) (by omega) (by first | omega | assumption) (by first | omega | assumption) (fun x_129 p_130 => ⟨_, rfl, ?_⟩)
            refine s_3150_249 _ _ _ _ ?_
            exact k _ s_120 hs_121 hf_125
      · refine vm_bounds _ hs (by omega) (fun s_131 hs_132 hf_133 p_134 p_135 => ⟨rfl, ?_⟩)
        have hf_136 : gF [75, 90, 91, 92, 93, 94, 95, 96, 97] [] s s_131 := gF.sub hf_133 rfl rfl
        have q_137 := (hf_133.2 81 p0.toNat rfl (fun h => absurd h (by decide))).1
        have hb0 : mX 95 93 x_30 s_131 := by have h9 := p_134 (by omega); rw [show x_30 = gp_I s 81 p0.toNat - 1 by omega]; exact h9
        have hb1 : mX 96 92 x_30 s_131 := by have h9 := p_135 (by omega); rw [show x_30 = gp_I s 81 p0.toNat - 1 by omega]; exact h9
        refine ⟨fun h_138 => ?_, fun h_138 => ?_⟩
        · exfalso; omega
        · refine ⟨fun h_139 => ?_, fun h_139 => ?_⟩
          · exfalso; omega
          · try rw [show gp_wr (p1 - 10) = p1 - 10 from gp_wr_id (by omega) (by omega)]
            refine vm_price _ _ hs_132 (by omega) (by omega) (by first | omega | assumption) (by first | omega | assumption) (fun x_140 p_141 => ⟨_, rfl, ?_⟩)
            refine s_3150_249 _ _ _ _ ?_
            exact k _ s_131 hs_132 hf_136
      · refine vm_isSure _ hs (by omega) (fun x_142 p_143 => ⟨_, rfl, ?_⟩)
        refine ⟨fun h_144 => ?_, fun h_144 => ?_⟩
        · refine s_3150_204 _ _ _ _ ?_
          exact k _ s hs (gF.refl _ _ _)
        · refine s_3150_204 _ _ _ _ ?_
          exact k _ s hs (gF.refl _ _ _)
      · exfalso; omega
