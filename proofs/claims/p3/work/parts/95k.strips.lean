theorem PLWX_all : ∀ m, PLWX m
  | 0 => by intro L D K s; intros; omega
  | m + 1 => vm_playedX m (PLWX_all m)
theorem vm_playedX65 {L d : Nat} {K : Option gV → gH → Prop} {s : gH} (p0 : BitVec 64) (p1 : Int) (hs : MI s) (q0 : MDi s) (q1 : gp_I s 74 15 ≠ 0 → 1 ≤ gp_I s 81 20) (k : ∀ (r : Int), ∀ (t : gH), MI t → gF [76, 77, 78, 79, 80, 81] [15] s t → (0 ≤ r ∧ r ≤ 63) → (MDi t) → (mOut s t) → (r < gp_I t 81 20) → (gp_I s 81 20 ≤ gp_I t 81 20) → (gp_I t 74 15 ≠ 0 → 1 ≤ gp_I t 81 20) → (PLX s t p0 p1 r) → K (some (gp_i r)) t) : gs_C L (d + 71) 3142 17 [gp_r (some 74), gp_l p0, gp_i p1] s K := PLWX_all 65 _ _ _ _ _ _ (by omega) hs q0 q1 (by have := pm_le p0 (mr74_46 hs).2; omega) k
set_option maxRecDepth 100000 in
/-- GatheredPointsModel.results -/
theorem vm_resultsY  {L d : Nat} {K : Option gV → gH → Prop} {s : gH}  (p0 : Int) (hs : MI s) (h_p0 : 0 ≤ p0 ∧ p0 ≤ 63) (q0 : MDi s) (q1 : p0 < gp_I s 81 20) (q2 : gp_I s 74 15 = 0 → BNM s) (k : ∀ (r : Int), ∀ (t : gH), MI t → gF [76, 77, 78, 79, 80, 81, 86, 87, 88] [] s t → (0 ≤ r ∧ r ≤ 6) → (r ≠ 4 → 1 ≤ gp_I t 81 19 ∧ gp_I t 81 19 ≤ 60) → (r = 4 ∨ r = 6 ∨ r = 0) → (r = 4 → gp_I s 74 15 ≠ 0) → (mK s t) → (gp_I s 74 15 ≠ 0 → r = 4) → (gp_I s 74 15 = 0 → r ≠ 4 ∧ gp_I t 81 19 = (gm_cnt (CLM s p0) 64 : Nat)) → K (some (gp_i r)) t) : gs_C L (d + 185) 3119 2 [gp_r (some 74), gp_i p0] s K := by
  have f_1 := mr81 hs 20
  have f_2 := mr81 hs 19
  refine s_3119_e _ ?_
  have f_3 := mr74_15 hs
  refine ⟨fun h_4 => ?_, fun h_4 => ?_⟩
  · refine vm_endsZ _ hs (by omega) (by assumption) (by first | omega | assumption) (fun s_5 hs_6 hf_7 p_8 p_9 p_10 p_11 p_12 => ⟨rfl, ?_⟩)
    have hf_13 : gF [76, 77, 78, 79, 80, 81, 86, 87, 88] [] s s_5 := gF.sub hf_7 rfl rfl
    have mb_14 : mK s s_5 := mK.trans (mK.refl _) p_9
    have hcn := p_10
    have hrs := p_11
    have hbn := BNR_of hrs p_12 (by omega) (q2 (by omega))
    refine vm_isBigX hs_6 (by first | omega | assumption) (fun x_15 p_16 p_17 => ⟨_, rfl, ?_⟩)
    refine ⟨fun h_18 => ?_, fun h_18 => ?_⟩
    · refine s_3119_31 _ _ ?_
      exact k _ s_5 hs_6 hf_13 (by omega) (by first | omega | assumption) (by first | omega | assumption) (by first | omega | assumption) mb_14 (fun _ => by omega) (by first | exact fun h9 => absurd h9 (by assumption) | exact fun h9 => absurd h9 (by omega) | exact fun _ => ⟨by omega, by omega⟩)
    · refine s_3119_31 _ _ ?_
      exact k _ s_5 hs_6 hf_13 (by omega) (by first | omega | assumption) (by first | omega | assumption) (by first | omega | assumption) mb_14 (fun _ => by omega) (by first | exact fun h9 => absurd h9 (by assumption) | exact fun h9 => absurd h9 (by omega) | exact fun _ => ⟨by omega, by omega⟩)
  · exact k _ s hs (gF.refl _ _ _) (by omega) (by first | omega | assumption) (by first | omega | assumption) (by first | omega | assumption) (mK.refl _) (fun _ => by omega) (by first | exact fun h9 => absurd h9 (by assumption) | exact fun h9 => absurd h9 (by omega) | exact fun _ => ⟨by omega, by omega⟩)
set_option maxRecDepth 100000 in
/-- GatheredPointsModel.strip -/
theorem wp_strip2  {L d : Nat} {K : Option gV → gH → Prop} {s : gH}  (p0 : Int) (hs : MI s) (h_p0 : (-2147483648) ≤ p0 ∧ p0 ≤ 2147483647)  (k : ∀ (r : Int), ∀ (t : gH), MI t → gF [75, 76, 77, 78, 79, 80, 81, 86, 87, 88] [11, 15, 46] s t → (mK s t) → (0 ≤ p0 ∧ p0 ≤ 7 → gp_I t 74 11 = 0) → (p0 < 0 ∨ 7 < p0 → gp_I t 74 11 = gp_I s 74 11) → (STP (fun k => gp_I s 82 k) (gp_I s 74 11) p0 r) → K (some (gp_i r)) t) : gs_C L (d + 186) 3143 8 [gp_r (some 74), gp_i p0] s K := by
  have f_1 := mr81 hs 20
  have f_2 := mr81 hs 19
  have f_3 := mr74_15 hs
  have f_4 := mr74_11 hs
  have f_5 := mr74_46 hs
  refine s_3143_e _ ?_
  refine vm_isSlot _ (fun x_6 p_7 p_8 p_9 => ⟨_, rfl, ?_⟩)
  refine ⟨fun h_10 => ?_, fun h_10 => ?_⟩
  · refine vm_finds _ hs (by omega) (fun x_11 s_12 hs_13 hf_14 p_15 p_16 => ⟨_, rfl, ?_⟩)
    have hf_17 : gF [75, 76, 77, 78, 79, 80, 81, 86, 87, 88] [11, 15, 46] s s_12 := gF.sub hf_14 rfl rfl
    have mb_18 : mK s s_12 := mK_fr (mK.refl _) hf_14 rfl
    have q_19 := (hf_14.2 81 20 rfl (fun h => absurd h (by decide))).1
    have q_20 := (hf_14.2 81 19 rfl (fun h => absurd h (by decide))).1
    have q_21 := (hf_14.2 74 15 rfl (fun _ => rfl)).1
    have q_22 := (hf_14.2 74 11 rfl (fun _ => rfl)).1
    have q_23 := (hf_14.2 74 46 rfl (fun _ => rfl)).1
    exact k _ s_12 hs_13 hf_17 mb_18 (by first | omega | assumption) (by first | omega | assumption) (Or.inl ⟨by omega, by omega⟩)
  · have f_24 := mr74_11 hs
    intro s_25 e_26
    have hs_27 : MI s_25 := by rw [e_26]; exact mw74_11 hs _ (by omega)
    have hf_28 : gF [75, 76, 77, 78, 79, 80, 81, 86, 87, 88] [11, 15, 46] s s_25 := by rw [e_26]; exact gF.wI (gF.refl _ _ _) (Or.inr ⟨rfl, rfl⟩)
    have q_29 : gp_I s_25 81 20 = gp_I s 81 20 := by rw [e_26] <;> rfl
    have q_30 : gp_I s_25 81 19 = gp_I s 81 19 := by rw [e_26] <;> rfl
    have q_31 : gp_I s_25 74 15 = gp_I s 74 15 := by rw [e_26] <;> rfl
    have q_32 : gp_I s_25 74 11 = 0 := by rw [e_26]; exact (gz_rw _ _ _ _ _).1 rfl
    have q_33 : gp_I s_25 74 46 = gp_I s 74 46 := by rw [e_26] <;> rfl
    have mb_34 : mK s s_25 := by rw [e_26]; exact mK_wI (mK.refl _) (by decide)
    have h82 : ∀ k : Nat, gp_I s_25 82 k = gp_I s 82 k := fun k => by rw [‹s_25 = gp_wI _ 74 11 _›]; rfl
    have lp_35 : ∀ (n_35 : Nat) (v3_35 : BitVec 64) (v5_35 : Int) (v6_35 : gV) (v7_35 : gV), (0 ≤ v5_35 ∧ v5_35 ≤ 8) → (v5_35 = 0 ∨ 1 ≤ (gp_I s 74 11)) → (PKI (fun j => gp_I s 82 j) v5_35 v3_35) → (v5_35 ≤ gp_I s 74 11) → (v5_35 ≤ 8) → (9 - v5_35).toNat < n_35 → gs_E L (d + 186) 3143 28 [gp_r (some 74), gp_i p0, gp_i (gp_I s 74 11), gp_l v3_35, gp_n, gp_i v5_35, v6_35, v7_35] [] s_25 K := by
      intro n_35
      induction n_35 with
      | zero => intro v3_35 v5_35 v6_35 v7_35 hv5_35 iv0_35 iv1_35 iv2_35 iv3_35 hm_35; exact absurd hm_35 (Nat.not_lt_zero _)
      | succ n_35 ih_35 =>
        intro v3_35 v5_35 v6_35 v7_35 hv5_35 iv0_35 iv1_35 iv2_35 iv3_35 hm_35
        refine s_3143_28 _ _ _ _ _ _ ?_
        refine ⟨fun h_36 => ?_, fun h_36 => ?_⟩
        · refine s_3143_39 _ _ _ _ _ _ ?_
          refine ⟨fun h_37 => ?_, fun h_37 => ?_⟩
          · refine ⟨by omega, ?_⟩
            have f_38 := mr82 hs_27 (Int.toNat v5_35)
            refine s_3143_56 _ _ _ _ _ _ _ ?_
            refine ⟨fun h_39 => ?_, fun h_39 => ?_⟩
            · refine s_3143_86 _ _ _ _ _ _ ?_
              refine s_3143_91 _ _ _ _ _ _ _ ?_
              refine ⟨fun h_40 => ?_, fun h_40 => ?_⟩
              · exfalso; omega
              · refine ⟨fun h_41 => ?_, fun h_41 => ?_⟩
                · refine s_3143_105 _ _ _ _ _ _ ?_
                  try rw [show gp_wr ((-10) - v5_35) = (-10) - v5_35 from gp_wr_id (by omega) (by omega)]
                  exact k _ s_25 hs_27 hf_28 mb_34 (by first | omega | assumption) (by first | omega | assumption) (STP_bad (FWQ_p iv1_35 h82 (by omega) (by omega) (by omega) (by omega)) (by omega) (by omega) (by omega))
                · refine ⟨fun h_42 => ?_, fun h_42 => ?_⟩
                  · refine s_3143_143 _ _ _ _ _ _ _ _ _ ?_
                    refine vm_with _ _ _ (by omega) (by omega) (fun m_43 p_44 => ⟨_, rfl, ?_⟩)
                    try rw [show gp_wr (v5_35 + 1) = v5_35 + 1 from gp_wr_id (by omega) (by omega)]
                    exact ih_35 _ _ _ _ (by omega) (by first | omega | assumption) (PKI_s2 iv1_35 h82 (by omega) (by omega) (by first | assumption | rfl) (by omega)) (by first | omega | assumption) (by first | omega | assumption) (by omega)
                  · exfalso; omega
            · refine ⟨fun h_45 => ?_, fun h_45 => ?_⟩
              · refine s_3143_86 _ _ _ _ _ _ ?_
                refine s_3143_91 _ _ _ _ _ _ _ ?_
                refine ⟨fun h_46 => ?_, fun h_46 => ?_⟩
                · exfalso; omega
                · refine ⟨fun h_47 => ?_, fun h_47 => ?_⟩
                  · refine s_3143_105 _ _ _ _ _ _ ?_
                    try rw [show gp_wr ((-10) - v5_35) = (-10) - v5_35 from gp_wr_id (by omega) (by omega)]
                    exact k _ s_25 hs_27 hf_28 mb_34 (by first | omega | assumption) (by first | omega | assumption) (STP_bad (FWQ_p iv1_35 h82 (by omega) (by omega) (by omega) (by omega)) (by omega) (by omega) (by omega))
                  · refine ⟨fun h_48 => ?_, fun h_48 => ?_⟩
                    · exfalso; omega
                    · refine ⟨fun h_49 => ?_, fun h_49 => ?_⟩
                      · refine s_3143_143 _ _ _ _ _ _ _ _ _ ?_
                        refine vm_with _ _ _ (by omega) (by omega) (fun m_50 p_51 => ⟨_, rfl, ?_⟩)
                        try rw [show gp_wr (v5_35 + 1) = v5_35 + 1 from gp_wr_id (by omega) (by omega)]
                        exact ih_35 _ _ _ _ (by omega) (by first | omega | assumption) (PKI_s2 iv1_35 h82 (by omega) (by omega) (by first | assumption | rfl) (by omega)) (by first | omega | assumption) (by first | omega | assumption) (by omega)
                      · exfalso; omega
              · refine ⟨fun h_52 => ?_, fun h_52 => ?_⟩
                · refine s_3143_90 _ _ _ _ _ _ ?_
                  refine s_3143_91 _ _ _ _ _ _ _ ?_
                  refine ⟨fun h_53 => ?_, fun h_53 => ?_⟩
                  · refine s_3143_105 _ _ _ _ _ _ ?_
                    try rw [show gp_wr ((-10) - v5_35) = (-10) - v5_35 from gp_wr_id (by omega) (by omega)]
                    exact k _ s_25 hs_27 hf_28 mb_34 (by first | omega | assumption) (by first | omega | assumption) (STP_bad (FWQ_p iv1_35 h82 (by omega) (by omega) (by omega) (by omega)) (by omega) (by omega) (by omega))
                  · exfalso; omega
                · refine ⟨fun h_54 => ?_, fun h_54 => ?_⟩
                  · refine s_3143_90 _ _ _ _ _ _ ?_
                    refine s_3143_91 _ _ _ _ _ _ _ ?_
                    refine ⟨fun h_55 => ?_, fun h_55 => ?_⟩
                    · refine s_3143_105 _ _ _ _ _ _ ?_
                      try rw [show gp_wr ((-10) - v5_35) = (-10) - v5_35 from gp_wr_id (by omega) (by omega)]
                      exact k _ s_25 hs_27 hf_28 mb_34 (by first | omega | assumption) (by first | omega | assumption) (STP_bad (FWQ_p iv1_35 h82 (by omega) (by omega) (by omega) (by omega)) (by omega) (by omega) (by omega))
                    · exfalso; omega
                  · refine s_3143_86 _ _ _ _ _ _ ?_
                    refine s_3143_91 _ _ _ _ _ _ _ ?_
                    refine ⟨fun h_56 => ?_, fun h_56 => ?_⟩
                    · exfalso; omega
                    · refine ⟨fun h_57 => ?_, fun h_57 => ?_⟩
                      · refine s_3143_105 _ _ _ _ _ _ ?_
                        try rw [show gp_wr ((-10) - v5_35) = (-10) - v5_35 from gp_wr_id (by omega) (by omega)]
                        exact k _ s_25 hs_27 hf_28 mb_34 (by first | omega | assumption) (by first | omega | assumption) (STP_bad (FWQ_p iv1_35 h82 (by omega) (by omega) (by omega) (by omega)) (by omega) (by omega) (by omega))
                      · refine ⟨fun h_58 => ?_, fun h_58 => ?_⟩
                        · exfalso; omega
                        · refine ⟨fun h_59 => ?_, fun h_59 => ?_⟩
                          · exfalso; omega
                          · try rw [show gp_wr ((gp_I s_25 82 (Int.toNat v5_35)) - 48) = (gp_I s_25 82 (Int.toNat v5_35)) - 48 from gp_wr_id (by omega) (by omega)]
                            refine s_3143_143 _ _ _ _ _ _ _ _ _ ?_
                            refine vm_with _ _ _ (by omega) (by omega) (fun m_60 p_61 => ⟨_, rfl, ?_⟩)
                            try rw [show gp_wr (v5_35 + 1) = v5_35 + 1 from gp_wr_id (by omega) (by omega)]
                            exact ih_35 _ _ _ _ (by omega) (by first | omega | assumption) (PKI_s2 iv1_35 h82 (by omega) (by omega) (by first | assumption | rfl) (by omega)) (by first | omega | assumption) (by first | omega | assumption) (by omega)
          · refine s_3143_56 _ _ _ _ _ _ _ ?_
            refine ⟨fun h_62 => ?_, fun h_62 => ?_⟩
            · exfalso; omega
            · refine ⟨fun h_63 => ?_, fun h_63 => ?_⟩
              · exfalso; omega
              · refine ⟨fun h_64 => ?_, fun h_64 => ?_⟩
                · refine s_3143_90 _ _ _ _ _ _ ?_
                  refine s_3143_91 _ _ _ _ _ _ _ ?_
                  refine ⟨fun h_65 => ?_, fun h_65 => ?_⟩
                  · refine s_3143_105 _ _ _ _ _ _ ?_
                    try rw [show gp_wr ((-10) - v5_35) = (-10) - v5_35 from gp_wr_id (by omega) (by omega)]
                    exact k _ s_25 hs_27 hf_28 mb_34 (by first | omega | assumption) (by first | omega | assumption) (STP_bad (FWQ_p iv1_35 h82 (by omega) (by omega) (by omega) (by omega)) (by omega) (by omega) (by omega))
                  · exfalso; omega
                · exfalso; omega
        · refine ⟨fun h_66 => ?_, fun h_66 => ?_⟩
          · refine s_3143_39 _ _ _ _ _ _ ?_
            refine ⟨fun h_67 => ?_, fun h_67 => ?_⟩
            · refine ⟨by omega, ?_⟩
              have f_68 := mr82 hs_27 (Int.toNat v5_35)
              refine s_3143_56 _ _ _ _ _ _ _ ?_
              refine ⟨fun h_69 => ?_, fun h_69 => ?_⟩
              · refine s_3143_86 _ _ _ _ _ _ ?_
                refine s_3143_91 _ _ _ _ _ _ _ ?_
                refine ⟨fun h_70 => ?_, fun h_70 => ?_⟩
                · exfalso; omega
                · refine ⟨fun h_71 => ?_, fun h_71 => ?_⟩
                  · exfalso; omega
                  · refine ⟨fun h_72 => ?_, fun h_72 => ?_⟩
                    · refine s_3143_143 _ _ _ _ _ _ _ _ _ ?_
                      refine vm_with _ _ _ (by omega) (by omega) (fun m_73 p_74 => ⟨_, rfl, ?_⟩)
                      try rw [show gp_wr (v5_35 + 1) = v5_35 + 1 from gp_wr_id (by omega) (by omega)]
                      exact ih_35 _ _ _ _ (by omega) (by first | omega | assumption) (PKI_s2 iv1_35 h82 (by omega) (by omega) (by first | assumption | rfl) (by omega)) (by first | omega | assumption) (by first | omega | assumption) (by omega)
                    · exfalso; omega
              · refine ⟨fun h_75 => ?_, fun h_75 => ?_⟩
                · refine s_3143_86 _ _ _ _ _ _ ?_
                  refine s_3143_91 _ _ _ _ _ _ _ ?_
                  refine ⟨fun h_76 => ?_, fun h_76 => ?_⟩
                  · exfalso; omega
                  · refine ⟨fun h_77 => ?_, fun h_77 => ?_⟩
                    · exfalso; omega
                    · refine ⟨fun h_78 => ?_, fun h_78 => ?_⟩
                      · exfalso; omega
                      · refine ⟨fun h_79 => ?_, fun h_79 => ?_⟩
                        · refine s_3143_143 _ _ _ _ _ _ _ _ _ ?_
                          refine vm_with _ _ _ (by omega) (by omega) (fun m_80 p_81 => ⟨_, rfl, ?_⟩)
                          try rw [show gp_wr (v5_35 + 1) = v5_35 + 1 from gp_wr_id (by omega) (by omega)]
                          exact ih_35 _ _ _ _ (by omega) (by first | omega | assumption) (PKI_s2 iv1_35 h82 (by omega) (by omega) (by first | assumption | rfl) (by omega)) (by first | omega | assumption) (by first | omega | assumption) (by omega)
                        · exfalso; omega
                · refine ⟨fun h_82 => ?_, fun h_82 => ?_⟩
                  · refine s_3143_90 _ _ _ _ _ _ ?_
                    refine s_3143_91 _ _ _ _ _ _ _ ?_
                    refine ⟨fun h_83 => ?_, fun h_83 => ?_⟩
                    · refine s_3143_105 _ _ _ _ _ _ ?_
                      try rw [show gp_wr ((-10) - v5_35) = (-10) - v5_35 from gp_wr_id (by omega) (by omega)]
                      exact k _ s_25 hs_27 hf_28 mb_34 (by first | omega | assumption) (by first | omega | assumption) (STP_bad (FWQ_p iv1_35 h82 (by omega) (by omega) (by omega) (by omega)) (by omega) (by omega) (by omega))
                    · exfalso; omega
                  · refine ⟨fun h_84 => ?_, fun h_84 => ?_⟩
                    · refine s_3143_90 _ _ _ _ _ _ ?_
                      refine s_3143_91 _ _ _ _ _ _ _ ?_
                      refine ⟨fun h_85 => ?_, fun h_85 => ?_⟩
                      · refine s_3143_105 _ _ _ _ _ _ ?_
                        try rw [show gp_wr ((-10) - v5_35) = (-10) - v5_35 from gp_wr_id (by omega) (by omega)]
                        exact k _ s_25 hs_27 hf_28 mb_34 (by first | omega | assumption) (by first | omega | assumption) (STP_bad (FWQ_p iv1_35 h82 (by omega) (by omega) (by omega) (by omega)) (by omega) (by omega) (by omega))
                      · exfalso; omega
                    · refine s_3143_86 _ _ _ _ _ _ ?_
                      refine s_3143_91 _ _ _ _ _ _ _ ?_
                      refine ⟨fun h_86 => ?_, fun h_86 => ?_⟩
                      · exfalso; omega
                      · refine ⟨fun h_87 => ?_, fun h_87 => ?_⟩
                        · exfalso; omega
                        · refine ⟨fun h_88 => ?_, fun h_88 => ?_⟩
                          · exfalso; omega
                          · refine ⟨fun h_89 => ?_, fun h_89 => ?_⟩
                            · exfalso; omega
                            · try rw [show gp_wr ((gp_I s_25 82 (Int.toNat v5_35)) - 48) = (gp_I s_25 82 (Int.toNat v5_35)) - 48 from gp_wr_id (by omega) (by omega)]
                              refine s_3143_143 _ _ _ _ _ _ _ _ _ ?_
                              refine vm_with _ _ _ (by omega) (by omega) (fun m_90 p_91 => ⟨_, rfl, ?_⟩)
                              try rw [show gp_wr (v5_35 + 1) = v5_35 + 1 from gp_wr_id (by omega) (by omega)]
                              exact ih_35 _ _ _ _ (by omega) (by first | omega | assumption) (PKI_s2 iv1_35 h82 (by omega) (by omega) (by first | assumption | rfl) (by omega)) (by first | omega | assumption) (by first | omega | assumption) (by omega)
            · refine s_3143_56 _ _ _ _ _ _ _ ?_
              refine ⟨fun h_92 => ?_, fun h_92 => ?_⟩
              · exfalso; omega
              · refine ⟨fun h_93 => ?_, fun h_93 => ?_⟩
                · exfalso; omega
                · refine ⟨fun h_94 => ?_, fun h_94 => ?_⟩
                  · refine s_3143_90 _ _ _ _ _ _ ?_
                    refine s_3143_91 _ _ _ _ _ _ _ ?_
                    refine ⟨fun h_95 => ?_, fun h_95 => ?_⟩
                    · refine s_3143_105 _ _ _ _ _ _ ?_
                      try rw [show gp_wr ((-10) - v5_35) = (-10) - v5_35 from gp_wr_id (by omega) (by omega)]
                      exact k _ s_25 hs_27 hf_28 mb_34 (by first | omega | assumption) (by first | omega | assumption) (STP_bad (FWQ_p iv1_35 h82 (by omega) (by omega) (by omega) (by omega)) (by omega) (by omega) (by omega))
                    · exfalso; omega
                  · exfalso; omega
          · intro s_96 e_97
            have hs_98 : MI s_96 := by rw [e_97]; exact mw74_46 hs_27 _ (by omega)
            have hf_99 : gF [75, 76, 77, 78, 79, 80, 81, 86, 87, 88] [11, 15, 46] s s_96 := by rw [e_97]; exact gF.wI hf_28 (Or.inr ⟨rfl, rfl⟩)
            have q_100 : gp_I s_96 81 20 = gp_I s_25 81 20 := by rw [e_97] <;> rfl
            have q_101 : gp_I s_96 81 19 = gp_I s_25 81 19 := by rw [e_97] <;> rfl
            have q_102 : gp_I s_96 74 15 = gp_I s_25 74 15 := by rw [e_97] <;> rfl
            have q_103 : gp_I s_96 74 11 = gp_I s_25 74 11 := by rw [e_97] <;> rfl
            have q_104 : gp_I s_96 74 46 = gp_I s 74 11 := by rw [e_97]; exact (gz_rw _ _ _ _ _).1 rfl
            have mb_105 : mK s s_96 := by rw [e_97]; exact mK_wI mb_34 (by decide)
            refine vm_begins2 hs_98 (fun s_106 hs_107 hf_108 p_109 p_110 p_111 p_112 => ⟨rfl, ?_⟩)
            have hf_113 : gF [75, 76, 77, 78, 79, 80, 81, 86, 87, 88] [11, 15, 46] s s_106 := gF.trans hf_99 hf_108 rfl rfl
            have q_114 := (hf_108.2 74 11 rfl (fun _ => rfl)).1
            have q_115 := (hf_108.2 74 46 rfl (fun _ => rfl)).1
            have mb_116 : mK s s_106 := mK.trans mb_105 (mK_o p_112)
            have q_117 := p_112.1 19 (by omega)
            have hRW : RWU s_106 (fun j => gp_I s 82 j) (gp_I s 74 11) v3_35 := ⟨by omega, by omega, by omega, (by rw [show gp_I s 74 11 = v5_35 by omega]; exact iv1_35), by omega, by omega⟩
            refine vm_playedX65 _ _ hs_107 (p_111) (by first | omega | assumption) (fun x_118 s_119 hs_120 hf_121 p_122 p_123 p_124 p_125 p_126 p_127 p_128 => ⟨_, rfl, ?_⟩)
            have hf_129 : gF [75, 76, 77, 78, 79, 80, 81, 86, 87, 88] [11, 15, 46] s s_119 := gF.trans hf_113 hf_121 rfl rfl
            have q_130 := (hf_121.2 74 11 rfl (fun _ => rfl)).1
            have q_131 := (hf_121.2 74 46 rfl (fun _ => rfl)).1
            have mb_132 : mK s s_119 := mK.trans mb_116 (mK_o p_124)
            have q_133 := p_124.1 19 (by omega)
            have hPW := p_128
            refine vm_resultsY _ hs_120 (by omega) (p_123) (by first | omega | assumption) (fun h9 => RWU_B hRW hPW h9) (fun x_134 s_135 hs_136 hf_137 p_138 p_139 p_140 p_141 p_142 p_143 p_144 => ⟨_, rfl, ?_⟩)
            have hf_145 : gF [75, 76, 77, 78, 79, 80, 81, 86, 87, 88] [11, 15, 46] s s_135 := gF.trans hf_129 hf_137 rfl rfl
            have q_146 := (hf_137.2 74 15 rfl (fun _ => rfl)).1
            have q_147 := (hf_137.2 74 11 rfl (fun _ => rfl)).1
            have q_148 := (hf_137.2 74 46 rfl (fun _ => rfl)).1
            have mb_149 : mK s s_135 := mK.trans mb_132 p_142
            have hr4 := p_143
            have hr0 := p_144
            refine ⟨fun h_150 => ?_, fun h_150 => ?_⟩
            · refine vm_finds _ hs_136 (by omega) (fun x_151 s_152 hs_153 hf_154 p_155 p_156 => ⟨_, rfl, ?_⟩)
              have hf_157 : gF [75, 76, 77, 78, 79, 80, 81, 86, 87, 88] [11, 15, 46] s s_152 := gF.trans hf_145 hf_154 rfl rfl
              have mb_158 : mK s s_152 := mK_fr mb_149 hf_154 rfl
              have q_159 := (hf_154.2 81 20 rfl (fun h => absurd h (by decide))).1
              have q_160 := (hf_154.2 81 19 rfl (fun h => absurd h (by decide))).1
              have q_161 := (hf_154.2 74 15 rfl (fun _ => rfl)).1
              have q_162 := (hf_154.2 74 11 rfl (fun _ => rfl)).1
              have q_163 := (hf_154.2 74 46 rfl (fun _ => rfl)).1
              refine s_3143_193 _ _ _ _ _ _ _ ?_
              exact k _ s_152 hs_153 hf_157 mb_158 (by first | omega | assumption) (by first | omega | assumption) (by first | exact STP_full (RWU_F hRW) (by omega) (by omega) (RWU_1 hRW hPW (by omega)) (by omega) | exact STP_held (RWU_F hRW) (by omega) (by omega) (RWU_2 hRW hPW (by omega)) (by omega) (by omega))
            · refine vm_holdsX _ hs_136 (by omega) (by first | omega | assumption) (fun x_164 s_165 hs_166 hf_167 p_168 p_169 p_170 p_171 => ⟨_, rfl, ?_⟩)
              have hf_172 : gF [75, 76, 77, 78, 79, 80, 81, 86, 87, 88] [11, 15, 46] s s_165 := gF.trans hf_145 hf_167 rfl rfl
              have q_173 := (hf_167.2 74 15 rfl (fun _ => rfl)).1
              have q_174 := (hf_167.2 74 11 rfl (fun _ => rfl)).1
              have q_175 := (hf_167.2 74 46 rfl (fun _ => rfl)).1
              have mb_176 : mK s s_165 := mK.trans mb_149 p_170
              refine s_3143_193 _ _ _ _ _ _ _ ?_
              exact k _ s_165 hs_166 hf_172 mb_176 (by first | omega | assumption) (by first | omega | assumption) (by first | exact STP_full (RWU_F hRW) (by omega) (by omega) (RWU_1 hRW hPW (by omega)) (by omega) | exact STP_held (RWU_F hRW) (by omega) (by omega) (RWU_2 hRW hPW (by omega)) (by omega) (by omega))
    exact lp_35 _ _ _ _ _ (by omega) (by first | omega | assumption) (PKI_0) (by first | omega | assumption) (by first | omega | assumption) (Nat.lt_succ_self _)
set_option maxRecDepth 100000 in
/-- GatheredPointsModel.feed -/
theorem wp_feed2  {L d : Nat} {K : Option gV → gH → Prop} {s : gH}  (p0 : BitVec 64) (p1 : Int) (hs : MI s) (h_p1 : (-2147483648) ≤ p1 ∧ p1 ≤ 2147483647)  (k : ∀ (r : Int), ∀ (t : gH), MI t → gF [75, 82] [11] s t → (1 ≤ p1 ∧ p1 ≤ 8 ∧ gp_I s 74 11 + p1 ≤ 100 → r = gp_I s 74 11 + p1 ∧ gp_I t 74 11 = gp_I s 74 11 + p1) → (¬ (1 ≤ p1 ∧ p1 ≤ 8) → r = -1000000001 ∧ gp_I t 74 11 = gp_I s 74 11) → (1 ≤ p1 ∧ p1 ≤ 8 ∧ 100 < gp_I s 74 11 + p1 → r = -1000000004 ∧ gp_I t 74 11 = gp_I s 74 11) → (FDX 82 bM s t (gp_I s 74 11) p0 p1) → K (some (gp_i r)) t) : gs_C L (d + 1) 3124 5 [gp_r (some 74), gp_l p0, gp_i p1] s K := by
  have f_1 := mr74_11 hs
  refine s_3124_e _ _ ?_
  have w_2 := gz_oi (p1) (by omega)
  refine vm_isIn _ _ _ (fun x_3 p_4 p_5 => ⟨_, rfl, ?_⟩)
  have w_6 : BitVec.toInt (1#64) = 1 := by decide
  have w_7 : BitVec.toInt (BitVec.ofInt 64 8) = 8 := by decide
  refine ⟨fun h_8 => ?_, fun h_8 => ?_⟩
  · refine vm_finds _ hs (by omega) (fun x_9 s_10 hs_11 hf_12 p_13 p_14 => ⟨_, rfl, ?_⟩)
    have hf_15 : gF [75, 82] [11] s s_10 := gF.sub hf_12 rfl rfl
    have q_16 := (hf_12.2 74 11 rfl (fun _ => rfl)).1
    exact k _ s_10 hs_11 hf_15 (by first | omega | assumption) (by first | omega | assumption) (by first | omega | assumption) (FDX_n (fun k => (hf_12.2 82 k rfl (fun h => absurd h (by decide))).1) (by omega))
  · have f_17 := mr74_11 hs
    try rw [show gp_wr ((gp_I s 74 11) + p1) = (gp_I s 74 11) + p1 from gp_wr_id (by omega) (by omega)]
    refine ⟨fun h_18 => ?_, fun h_18 => ?_⟩
    · refine vm_finds _ hs (by omega) (fun x_19 s_20 hs_21 hf_22 p_23 p_24 => ⟨_, rfl, ?_⟩)
      have hf_25 : gF [75, 82] [11] s s_20 := gF.sub hf_22 rfl rfl
      have q_26 := (hf_22.2 74 11 rfl (fun _ => rfl)).1
      exact k _ s_20 hs_21 hf_25 (by first | omega | assumption) (by first | omega | assumption) (by first | omega | assumption) (FDX_n (fun k => (hf_22.2 82 k rfl (fun h => absurd h (by decide))).1) (by omega))
    · have lp_27 : ∀ (n_27 : Nat) (v4_27 : Int) (s_27 : gH), (MI s_27) → (gF [75, 82] [11] s s_27) → (0 ≤ v4_27 ∧ v4_27 ≤ 8) → (gp_I s_27 74 11 = gp_I s 74 11 + v4_27) → (v4_27 ≤ p1) → (FDL 82 bM s s_27 (gp_I s 74 11) p0 v4_27) → (9 - v4_27).toNat < n_27 → gs_E L (d + 1) 3124 38 [gp_r (some 74), gp_l p0, gp_n, gp_i p1, gp_i v4_27] [] s_27 K := by
        intro n_27
        induction n_27 with
        | zero => intro v4_27 s_27 hs_s_27 hf_s_27 hv4_27 iv0_27 iv1_27 iv2_27 hm_27; exact absurd hm_27 (Nat.not_lt_zero _)
        | succ n_27 ih_27 =>
          intro v4_27 s_27 hs_s_27 hf_s_27 hv4_27 iv0_27 iv1_27 iv2_27 hm_27
          refine s_3124_38 _ _ _ ?_
          refine ⟨fun h_28 => ?_, fun h_28 => ?_⟩
          · have f_29 := mr74_11 hs_s_27
            try rw [show gp_wr (8 * v4_27) = 8 * v4_27 from gp_wr_id (by omega) (by omega)]
            have w_30 := wr_rng (((p0.sshiftRight (Int.toNat ((8 * v4_27) % 64))) &&& (BitVec.ofInt 64 255)).toInt)
            have hby : 0 ≤ (gp_wr ((p0.sshiftRight (Int.toNat ((8 * v4_27) % 64))) &&& (BitVec.ofInt 64 255)).toInt) ∧ (gp_wr ((p0.sshiftRight (Int.toNat ((8 * v4_27) % 64))) &&& (BitVec.ofInt 64 255)).toInt) ≤ 255 := wr255 _
            refine ⟨by omega, ?_⟩
            intro s_31 e_32
            have hs_33 : MI s_31 := by rw [e_32]; exact mw82 hs_s_27 _ _ (by omega)
            have hf_34 : gF [75, 82] [11] s s_31 := by rw [e_32]; exact gF.wI hf_s_27 (Or.inl rfl)
            have q_35 : gp_I s_31 74 11 = gp_I s_27 74 11 := by rw [e_32] <;> rfl
            have f_36 := mr74_11 hs_33
            try rw [show gp_wr ((gp_I s_31 74 11) + 1) = (gp_I s_31 74 11) + 1 from gp_wr_id (by omega) (by omega)]
            intro s_37 e_38
            have hs_39 : MI s_37 := by rw [e_38]; exact mw74_11 hs_33 _ (by omega)
            have hf_40 : gF [75, 82] [11] s s_37 := by rw [e_38]; exact gF.wI hf_34 (Or.inr ⟨rfl, rfl⟩)
            have q_41 : gp_I s_37 74 11 = (gp_I s_31 74 11) + 1 := by rw [e_38]; exact (gz_rw _ _ _ _ _).1 rfl
            try rw [show gp_wr (v4_27 + 1) = v4_27 + 1 from gp_wr_id (by omega) (by omega)]
            exact ih_27 _ _ hs_39 hf_40 (by omega) (by first | omega | assumption) (by first | omega | assumption) (FDL_s iv2_27 (by omega) (fun k => by subst_vars; exact gz_rwi _ 82 _ _ k) (by first | exact (bM_8 p0 (by omega) (by omega)).symm | rfl) (by omega)) (by omega)
          · have f_42 := mr74_11 hs_s_27
            exact k _ s_27 hs_s_27 hf_s_27 (by first | omega | assumption) (by first | omega | assumption) (by first | omega | assumption) (FDX_e iv2_27 (by omega) (fun _ => rfl) (by omega))
      exact lp_27 _ _ _ hs (gF.refl _ _ _) (by omega) (by first | omega | assumption) (by first | omega | assumption) (FDL_0 (fun _ => rfl)) (Nat.lt_succ_self _)
