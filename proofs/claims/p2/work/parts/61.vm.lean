set_option maxRecDepth 100000 in
/-- java/lang/Integer.numberOfTrailingZeros -/
theorem vm_ntzI  {L d : Nat} {K : Option gV → gH → Prop} {s : gH}  (p0 : Int)  (h_p0 : (-2147483648) ≤ p0 ∧ p0 ≤ 2147483647)  (k : ∀ (r : Int), (0 ≤ r ∧ r ≤ 32) → (p0 ≠ 0 → r ≤ 31) → K (some (gp_i r)) s) : gs_C L d 3329 2 [gp_i p0] s K := by
  refine s_3329_e _ ?_
  have h0 := ntz0 p0 (by omega)
  have w_1 := gz_xorx (p0) ((-1))
  have w_2 := wr_rng (p0 - 1)
  have w_3 := gz_andx (gp_xor p0 (-1)) (gp_wr (p0 - 1))
  refine ⟨fun h_4 => ?_, fun h_4 => ?_⟩
  · refine ⟨fun h_5 => ?_, fun h_5 => ?_⟩
    · try rw [show gp_wr (1 + 16) = 1 + 16 from gp_wr_id (by omega) (by omega)]
      have w_6 : gp_ushr (gp_and (gp_xor p0 (-1)) (gp_wr (p0 - 1))) 16 = (gp_and (gp_xor p0 (-1)) (gp_wr (p0 - 1))) / 65536 := gz_ush (gp_and (gp_xor p0 (-1)) (gp_wr (p0 - 1))) 16 65536 (by decide) (by omega) (by decide)
      refine s_3329_34 _ _ ?_
      refine ⟨fun h_7 => ?_, fun h_7 => ?_⟩
      · try rw [show gp_wr ((1 + 16) + 8) = (1 + 16) + 8 from gp_wr_id (by omega) (by omega)]
        have w_8 : gp_ushr (gp_ushr (gp_and (gp_xor p0 (-1)) (gp_wr (p0 - 1))) 16) 8 = (gp_ushr (gp_and (gp_xor p0 (-1)) (gp_wr (p0 - 1))) 16) / 256 := gz_ush (gp_ushr (gp_and (gp_xor p0 (-1)) (gp_wr (p0 - 1))) 16) 8 256 (by decide) (by omega) (by decide)
        refine s_3329_49 _ _ ?_
        refine ⟨fun h_9 => ?_, fun h_9 => ?_⟩
        · try rw [show gp_wr (((1 + 16) + 8) + 4) = ((1 + 16) + 8) + 4 from gp_wr_id (by omega) (by omega)]
          have w_10 : gp_ushr (gp_ushr (gp_ushr (gp_and (gp_xor p0 (-1)) (gp_wr (p0 - 1))) 16) 8) 4 = (gp_ushr (gp_ushr (gp_and (gp_xor p0 (-1)) (gp_wr (p0 - 1))) 16) 8) / 16 := gz_ush (gp_ushr (gp_ushr (gp_and (gp_xor p0 (-1)) (gp_wr (p0 - 1))) 16) 8) 4 16 (by decide) (by omega) (by decide)
          refine s_3329_62 _ _ ?_
          refine ⟨fun h_11 => ?_, fun h_11 => ?_⟩
          · try rw [show gp_wr ((((1 + 16) + 8) + 4) + 2) = (((1 + 16) + 8) + 4) + 2 from gp_wr_id (by omega) (by omega)]
            have w_12 : gp_ushr (gp_ushr (gp_ushr (gp_ushr (gp_and (gp_xor p0 (-1)) (gp_wr (p0 - 1))) 16) 8) 4) 2 = (gp_ushr (gp_ushr (gp_ushr (gp_and (gp_xor p0 (-1)) (gp_wr (p0 - 1))) 16) 8) 4) / 4 := gz_ush (gp_ushr (gp_ushr (gp_ushr (gp_and (gp_xor p0 (-1)) (gp_wr (p0 - 1))) 16) 8) 4) 2 4 (by decide) (by omega) (by decide)
            refine s_3329_74 _ _ ?_
            have w_13 : gp_ushr (gp_ushr (gp_ushr (gp_ushr (gp_ushr (gp_and (gp_xor p0 (-1)) (gp_wr (p0 - 1))) 16) 8) 4) 2) 1 = (gp_ushr (gp_ushr (gp_ushr (gp_ushr (gp_and (gp_xor p0 (-1)) (gp_wr (p0 - 1))) 16) 8) 4) 2) / 2 := gz_ush (gp_ushr (gp_ushr (gp_ushr (gp_ushr (gp_and (gp_xor p0 (-1)) (gp_wr (p0 - 1))) 16) 8) 4) 2) 1 2 (by decide) (by omega) (by decide)
            try rw [show gp_wr (((((1 + 16) + 8) + 4) + 2) + (gp_ushr (gp_ushr (gp_ushr (gp_ushr (gp_ushr (gp_and (gp_xor p0 (-1)) (gp_wr (p0 - 1))) 16) 8) 4) 2) 1)) = ((((1 + 16) + 8) + 4) + 2) + (gp_ushr (gp_ushr (gp_ushr (gp_ushr (gp_ushr (gp_and (gp_xor p0 (-1)) (gp_wr (p0 - 1))) 16) 8) 4) 2) 1) from gp_wr_id (by omega) (by omega)]
            exact k _ (by omega) (by first | omega | assumption)
          · refine s_3329_74 _ _ ?_
            have w_14 : gp_ushr (gp_ushr (gp_ushr (gp_ushr (gp_and (gp_xor p0 (-1)) (gp_wr (p0 - 1))) 16) 8) 4) 1 = (gp_ushr (gp_ushr (gp_ushr (gp_and (gp_xor p0 (-1)) (gp_wr (p0 - 1))) 16) 8) 4) / 2 := gz_ush (gp_ushr (gp_ushr (gp_ushr (gp_and (gp_xor p0 (-1)) (gp_wr (p0 - 1))) 16) 8) 4) 1 2 (by decide) (by omega) (by decide)
            try rw [show gp_wr ((((1 + 16) + 8) + 4) + (gp_ushr (gp_ushr (gp_ushr (gp_ushr (gp_and (gp_xor p0 (-1)) (gp_wr (p0 - 1))) 16) 8) 4) 1)) = (((1 + 16) + 8) + 4) + (gp_ushr (gp_ushr (gp_ushr (gp_ushr (gp_and (gp_xor p0 (-1)) (gp_wr (p0 - 1))) 16) 8) 4) 1) from gp_wr_id (by omega) (by omega)]
            exact k _ (by omega) (by first | omega | assumption)
        · refine s_3329_62 _ _ ?_
          refine ⟨fun h_15 => ?_, fun h_15 => ?_⟩
          · try rw [show gp_wr (((1 + 16) + 8) + 2) = ((1 + 16) + 8) + 2 from gp_wr_id (by omega) (by omega)]
            have w_16 : gp_ushr (gp_ushr (gp_ushr (gp_and (gp_xor p0 (-1)) (gp_wr (p0 - 1))) 16) 8) 2 = (gp_ushr (gp_ushr (gp_and (gp_xor p0 (-1)) (gp_wr (p0 - 1))) 16) 8) / 4 := gz_ush (gp_ushr (gp_ushr (gp_and (gp_xor p0 (-1)) (gp_wr (p0 - 1))) 16) 8) 2 4 (by decide) (by omega) (by decide)
            refine s_3329_74 _ _ ?_
            have w_17 : gp_ushr (gp_ushr (gp_ushr (gp_ushr (gp_and (gp_xor p0 (-1)) (gp_wr (p0 - 1))) 16) 8) 2) 1 = (gp_ushr (gp_ushr (gp_ushr (gp_and (gp_xor p0 (-1)) (gp_wr (p0 - 1))) 16) 8) 2) / 2 := gz_ush (gp_ushr (gp_ushr (gp_ushr (gp_and (gp_xor p0 (-1)) (gp_wr (p0 - 1))) 16) 8) 2) 1 2 (by decide) (by omega) (by decide)
            try rw [show gp_wr ((((1 + 16) + 8) + 2) + (gp_ushr (gp_ushr (gp_ushr (gp_ushr (gp_and (gp_xor p0 (-1)) (gp_wr (p0 - 1))) 16) 8) 2) 1)) = (((1 + 16) + 8) + 2) + (gp_ushr (gp_ushr (gp_ushr (gp_ushr (gp_and (gp_xor p0 (-1)) (gp_wr (p0 - 1))) 16) 8) 2) 1) from gp_wr_id (by omega) (by omega)]
            exact k _ (by omega) (by first | omega | assumption)
          · refine s_3329_74 _ _ ?_
            have w_18 : gp_ushr (gp_ushr (gp_ushr (gp_and (gp_xor p0 (-1)) (gp_wr (p0 - 1))) 16) 8) 1 = (gp_ushr (gp_ushr (gp_and (gp_xor p0 (-1)) (gp_wr (p0 - 1))) 16) 8) / 2 := gz_ush (gp_ushr (gp_ushr (gp_and (gp_xor p0 (-1)) (gp_wr (p0 - 1))) 16) 8) 1 2 (by decide) (by omega) (by decide)
            try rw [show gp_wr (((1 + 16) + 8) + (gp_ushr (gp_ushr (gp_ushr (gp_and (gp_xor p0 (-1)) (gp_wr (p0 - 1))) 16) 8) 1)) = ((1 + 16) + 8) + (gp_ushr (gp_ushr (gp_ushr (gp_and (gp_xor p0 (-1)) (gp_wr (p0 - 1))) 16) 8) 1) from gp_wr_id (by omega) (by omega)]
            exact k _ (by omega) (by first | omega | assumption)
      · refine s_3329_49 _ _ ?_
        refine ⟨fun h_19 => ?_, fun h_19 => ?_⟩
        · try rw [show gp_wr ((1 + 16) + 4) = (1 + 16) + 4 from gp_wr_id (by omega) (by omega)]
          have w_20 : gp_ushr (gp_ushr (gp_and (gp_xor p0 (-1)) (gp_wr (p0 - 1))) 16) 4 = (gp_ushr (gp_and (gp_xor p0 (-1)) (gp_wr (p0 - 1))) 16) / 16 := gz_ush (gp_ushr (gp_and (gp_xor p0 (-1)) (gp_wr (p0 - 1))) 16) 4 16 (by decide) (by omega) (by decide)
          refine s_3329_62 _ _ ?_
          refine ⟨fun h_21 => ?_, fun h_21 => ?_⟩
          · try rw [show gp_wr (((1 + 16) + 4) + 2) = ((1 + 16) + 4) + 2 from gp_wr_id (by omega) (by omega)]
            have w_22 : gp_ushr (gp_ushr (gp_ushr (gp_and (gp_xor p0 (-1)) (gp_wr (p0 - 1))) 16) 4) 2 = (gp_ushr (gp_ushr (gp_and (gp_xor p0 (-1)) (gp_wr (p0 - 1))) 16) 4) / 4 := gz_ush (gp_ushr (gp_ushr (gp_and (gp_xor p0 (-1)) (gp_wr (p0 - 1))) 16) 4) 2 4 (by decide) (by omega) (by decide)
            refine s_3329_74 _ _ ?_
            have w_23 : gp_ushr (gp_ushr (gp_ushr (gp_ushr (gp_and (gp_xor p0 (-1)) (gp_wr (p0 - 1))) 16) 4) 2) 1 = (gp_ushr (gp_ushr (gp_ushr (gp_and (gp_xor p0 (-1)) (gp_wr (p0 - 1))) 16) 4) 2) / 2 := gz_ush (gp_ushr (gp_ushr (gp_ushr (gp_and (gp_xor p0 (-1)) (gp_wr (p0 - 1))) 16) 4) 2) 1 2 (by decide) (by omega) (by decide)
            try rw [show gp_wr ((((1 + 16) + 4) + 2) + (gp_ushr (gp_ushr (gp_ushr (gp_ushr (gp_and (gp_xor p0 (-1)) (gp_wr (p0 - 1))) 16) 4) 2) 1)) = (((1 + 16) + 4) + 2) + (gp_ushr (gp_ushr (gp_ushr (gp_ushr (gp_and (gp_xor p0 (-1)) (gp_wr (p0 - 1))) 16) 4) 2) 1) from gp_wr_id (by omega) (by omega)]
            exact k _ (by omega) (by first | omega | assumption)
          · refine s_3329_74 _ _ ?_
            have w_24 : gp_ushr (gp_ushr (gp_ushr (gp_and (gp_xor p0 (-1)) (gp_wr (p0 - 1))) 16) 4) 1 = (gp_ushr (gp_ushr (gp_and (gp_xor p0 (-1)) (gp_wr (p0 - 1))) 16) 4) / 2 := gz_ush (gp_ushr (gp_ushr (gp_and (gp_xor p0 (-1)) (gp_wr (p0 - 1))) 16) 4) 1 2 (by decide) (by omega) (by decide)
            try rw [show gp_wr (((1 + 16) + 4) + (gp_ushr (gp_ushr (gp_ushr (gp_and (gp_xor p0 (-1)) (gp_wr (p0 - 1))) 16) 4) 1)) = ((1 + 16) + 4) + (gp_ushr (gp_ushr (gp_ushr (gp_and (gp_xor p0 (-1)) (gp_wr (p0 - 1))) 16) 4) 1) from gp_wr_id (by omega) (by omega)]
            exact k _ (by omega) (by first | omega | assumption)
        · refine s_3329_62 _ _ ?_
          refine ⟨fun h_25 => ?_, fun h_25 => ?_⟩
          · try rw [show gp_wr ((1 + 16) + 2) = (1 + 16) + 2 from gp_wr_id (by omega) (by omega)]
            have w_26 : gp_ushr (gp_ushr (gp_and (gp_xor p0 (-1)) (gp_wr (p0 - 1))) 16) 2 = (gp_ushr (gp_and (gp_xor p0 (-1)) (gp_wr (p0 - 1))) 16) / 4 := gz_ush (gp_ushr (gp_and (gp_xor p0 (-1)) (gp_wr (p0 - 1))) 16) 2 4 (by decide) (by omega) (by decide)
            refine s_3329_74 _ _ ?_
            have w_27 : gp_ushr (gp_ushr (gp_ushr (gp_and (gp_xor p0 (-1)) (gp_wr (p0 - 1))) 16) 2) 1 = (gp_ushr (gp_ushr (gp_and (gp_xor p0 (-1)) (gp_wr (p0 - 1))) 16) 2) / 2 := gz_ush (gp_ushr (gp_ushr (gp_and (gp_xor p0 (-1)) (gp_wr (p0 - 1))) 16) 2) 1 2 (by decide) (by omega) (by decide)
            try rw [show gp_wr (((1 + 16) + 2) + (gp_ushr (gp_ushr (gp_ushr (gp_and (gp_xor p0 (-1)) (gp_wr (p0 - 1))) 16) 2) 1)) = ((1 + 16) + 2) + (gp_ushr (gp_ushr (gp_ushr (gp_and (gp_xor p0 (-1)) (gp_wr (p0 - 1))) 16) 2) 1) from gp_wr_id (by omega) (by omega)]
            exact k _ (by omega) (by first | omega | assumption)
          · refine s_3329_74 _ _ ?_
            have w_28 : gp_ushr (gp_ushr (gp_and (gp_xor p0 (-1)) (gp_wr (p0 - 1))) 16) 1 = (gp_ushr (gp_and (gp_xor p0 (-1)) (gp_wr (p0 - 1))) 16) / 2 := gz_ush (gp_ushr (gp_and (gp_xor p0 (-1)) (gp_wr (p0 - 1))) 16) 1 2 (by decide) (by omega) (by decide)
            try rw [show gp_wr ((1 + 16) + (gp_ushr (gp_ushr (gp_and (gp_xor p0 (-1)) (gp_wr (p0 - 1))) 16) 1)) = (1 + 16) + (gp_ushr (gp_ushr (gp_and (gp_xor p0 (-1)) (gp_wr (p0 - 1))) 16) 1) from gp_wr_id (by omega) (by omega)]
            exact k _ (by omega) (by first | omega | assumption)
    · refine s_3329_34 _ _ ?_
      refine ⟨fun h_29 => ?_, fun h_29 => ?_⟩
      · try rw [show gp_wr (1 + 8) = 1 + 8 from gp_wr_id (by omega) (by omega)]
        have w_30 : gp_ushr (gp_and (gp_xor p0 (-1)) (gp_wr (p0 - 1))) 8 = (gp_and (gp_xor p0 (-1)) (gp_wr (p0 - 1))) / 256 := gz_ush (gp_and (gp_xor p0 (-1)) (gp_wr (p0 - 1))) 8 256 (by decide) (by omega) (by decide)
        refine s_3329_49 _ _ ?_
        refine ⟨fun h_31 => ?_, fun h_31 => ?_⟩
        · try rw [show gp_wr ((1 + 8) + 4) = (1 + 8) + 4 from gp_wr_id (by omega) (by omega)]
          have w_32 : gp_ushr (gp_ushr (gp_and (gp_xor p0 (-1)) (gp_wr (p0 - 1))) 8) 4 = (gp_ushr (gp_and (gp_xor p0 (-1)) (gp_wr (p0 - 1))) 8) / 16 := gz_ush (gp_ushr (gp_and (gp_xor p0 (-1)) (gp_wr (p0 - 1))) 8) 4 16 (by decide) (by omega) (by decide)
          refine s_3329_62 _ _ ?_
          refine ⟨fun h_33 => ?_, fun h_33 => ?_⟩
          · try rw [show gp_wr (((1 + 8) + 4) + 2) = ((1 + 8) + 4) + 2 from gp_wr_id (by omega) (by omega)]
            have w_34 : gp_ushr (gp_ushr (gp_ushr (gp_and (gp_xor p0 (-1)) (gp_wr (p0 - 1))) 8) 4) 2 = (gp_ushr (gp_ushr (gp_and (gp_xor p0 (-1)) (gp_wr (p0 - 1))) 8) 4) / 4 := gz_ush (gp_ushr (gp_ushr (gp_and (gp_xor p0 (-1)) (gp_wr (p0 - 1))) 8) 4) 2 4 (by decide) (by omega) (by decide)
            refine s_3329_74 _ _ ?_
            have w_35 : gp_ushr (gp_ushr (gp_ushr (gp_ushr (gp_and (gp_xor p0 (-1)) (gp_wr (p0 - 1))) 8) 4) 2) 1 = (gp_ushr (gp_ushr (gp_ushr (gp_and (gp_xor p0 (-1)) (gp_wr (p0 - 1))) 8) 4) 2) / 2 := gz_ush (gp_ushr (gp_ushr (gp_ushr (gp_and (gp_xor p0 (-1)) (gp_wr (p0 - 1))) 8) 4) 2) 1 2 (by decide) (by omega) (by decide)
            try rw [show gp_wr ((((1 + 8) + 4) + 2) + (gp_ushr (gp_ushr (gp_ushr (gp_ushr (gp_and (gp_xor p0 (-1)) (gp_wr (p0 - 1))) 8) 4) 2) 1)) = (((1 + 8) + 4) + 2) + (gp_ushr (gp_ushr (gp_ushr (gp_ushr (gp_and (gp_xor p0 (-1)) (gp_wr (p0 - 1))) 8) 4) 2) 1) from gp_wr_id (by omega) (by omega)]
            exact k _ (by omega) (by first | omega | assumption)
          · refine s_3329_74 _ _ ?_
            have w_36 : gp_ushr (gp_ushr (gp_ushr (gp_and (gp_xor p0 (-1)) (gp_wr (p0 - 1))) 8) 4) 1 = (gp_ushr (gp_ushr (gp_and (gp_xor p0 (-1)) (gp_wr (p0 - 1))) 8) 4) / 2 := gz_ush (gp_ushr (gp_ushr (gp_and (gp_xor p0 (-1)) (gp_wr (p0 - 1))) 8) 4) 1 2 (by decide) (by omega) (by decide)
            try rw [show gp_wr (((1 + 8) + 4) + (gp_ushr (gp_ushr (gp_ushr (gp_and (gp_xor p0 (-1)) (gp_wr (p0 - 1))) 8) 4) 1)) = ((1 + 8) + 4) + (gp_ushr (gp_ushr (gp_ushr (gp_and (gp_xor p0 (-1)) (gp_wr (p0 - 1))) 8) 4) 1) from gp_wr_id (by omega) (by omega)]
            exact k _ (by omega) (by first | omega | assumption)
        · refine s_3329_62 _ _ ?_
          refine ⟨fun h_37 => ?_, fun h_37 => ?_⟩
          · try rw [show gp_wr ((1 + 8) + 2) = (1 + 8) + 2 from gp_wr_id (by omega) (by omega)]
            have w_38 : gp_ushr (gp_ushr (gp_and (gp_xor p0 (-1)) (gp_wr (p0 - 1))) 8) 2 = (gp_ushr (gp_and (gp_xor p0 (-1)) (gp_wr (p0 - 1))) 8) / 4 := gz_ush (gp_ushr (gp_and (gp_xor p0 (-1)) (gp_wr (p0 - 1))) 8) 2 4 (by decide) (by omega) (by decide)
            refine s_3329_74 _ _ ?_
            have w_39 : gp_ushr (gp_ushr (gp_ushr (gp_and (gp_xor p0 (-1)) (gp_wr (p0 - 1))) 8) 2) 1 = (gp_ushr (gp_ushr (gp_and (gp_xor p0 (-1)) (gp_wr (p0 - 1))) 8) 2) / 2 := gz_ush (gp_ushr (gp_ushr (gp_and (gp_xor p0 (-1)) (gp_wr (p0 - 1))) 8) 2) 1 2 (by decide) (by omega) (by decide)
            try rw [show gp_wr (((1 + 8) + 2) + (gp_ushr (gp_ushr (gp_ushr (gp_and (gp_xor p0 (-1)) (gp_wr (p0 - 1))) 8) 2) 1)) = ((1 + 8) + 2) + (gp_ushr (gp_ushr (gp_ushr (gp_and (gp_xor p0 (-1)) (gp_wr (p0 - 1))) 8) 2) 1) from gp_wr_id (by omega) (by omega)]
            exact k _ (by omega) (by first | omega | assumption)
          · refine s_3329_74 _ _ ?_
            have w_40 : gp_ushr (gp_ushr (gp_and (gp_xor p0 (-1)) (gp_wr (p0 - 1))) 8) 1 = (gp_ushr (gp_and (gp_xor p0 (-1)) (gp_wr (p0 - 1))) 8) / 2 := gz_ush (gp_ushr (gp_and (gp_xor p0 (-1)) (gp_wr (p0 - 1))) 8) 1 2 (by decide) (by omega) (by decide)
            try rw [show gp_wr ((1 + 8) + (gp_ushr (gp_ushr (gp_and (gp_xor p0 (-1)) (gp_wr (p0 - 1))) 8) 1)) = (1 + 8) + (gp_ushr (gp_ushr (gp_and (gp_xor p0 (-1)) (gp_wr (p0 - 1))) 8) 1) from gp_wr_id (by omega) (by omega)]
            exact k _ (by omega) (by first | omega | assumption)
      · refine s_3329_49 _ _ ?_
        refine ⟨fun h_41 => ?_, fun h_41 => ?_⟩
        · try rw [show gp_wr (1 + 4) = 1 + 4 from gp_wr_id (by omega) (by omega)]
          have w_42 : gp_ushr (gp_and (gp_xor p0 (-1)) (gp_wr (p0 - 1))) 4 = (gp_and (gp_xor p0 (-1)) (gp_wr (p0 - 1))) / 16 := gz_ush (gp_and (gp_xor p0 (-1)) (gp_wr (p0 - 1))) 4 16 (by decide) (by omega) (by decide)
          refine s_3329_62 _ _ ?_
          refine ⟨fun h_43 => ?_, fun h_43 => ?_⟩
          · try rw [show gp_wr ((1 + 4) + 2) = (1 + 4) + 2 from gp_wr_id (by omega) (by omega)]
            have w_44 : gp_ushr (gp_ushr (gp_and (gp_xor p0 (-1)) (gp_wr (p0 - 1))) 4) 2 = (gp_ushr (gp_and (gp_xor p0 (-1)) (gp_wr (p0 - 1))) 4) / 4 := gz_ush (gp_ushr (gp_and (gp_xor p0 (-1)) (gp_wr (p0 - 1))) 4) 2 4 (by decide) (by omega) (by decide)
            refine s_3329_74 _ _ ?_
            have w_45 : gp_ushr (gp_ushr (gp_ushr (gp_and (gp_xor p0 (-1)) (gp_wr (p0 - 1))) 4) 2) 1 = (gp_ushr (gp_ushr (gp_and (gp_xor p0 (-1)) (gp_wr (p0 - 1))) 4) 2) / 2 := gz_ush (gp_ushr (gp_ushr (gp_and (gp_xor p0 (-1)) (gp_wr (p0 - 1))) 4) 2) 1 2 (by decide) (by omega) (by decide)
            try rw [show gp_wr (((1 + 4) + 2) + (gp_ushr (gp_ushr (gp_ushr (gp_and (gp_xor p0 (-1)) (gp_wr (p0 - 1))) 4) 2) 1)) = ((1 + 4) + 2) + (gp_ushr (gp_ushr (gp_ushr (gp_and (gp_xor p0 (-1)) (gp_wr (p0 - 1))) 4) 2) 1) from gp_wr_id (by omega) (by omega)]
            exact k _ (by omega) (by first | omega | assumption)
          · refine s_3329_74 _ _ ?_
            have w_46 : gp_ushr (gp_ushr (gp_and (gp_xor p0 (-1)) (gp_wr (p0 - 1))) 4) 1 = (gp_ushr (gp_and (gp_xor p0 (-1)) (gp_wr (p0 - 1))) 4) / 2 := gz_ush (gp_ushr (gp_and (gp_xor p0 (-1)) (gp_wr (p0 - 1))) 4) 1 2 (by decide) (by omega) (by decide)
            try rw [show gp_wr ((1 + 4) + (gp_ushr (gp_ushr (gp_and (gp_xor p0 (-1)) (gp_wr (p0 - 1))) 4) 1)) = (1 + 4) + (gp_ushr (gp_ushr (gp_and (gp_xor p0 (-1)) (gp_wr (p0 - 1))) 4) 1) from gp_wr_id (by omega) (by omega)]
            exact k _ (by omega) (by first | omega | assumption)
        · refine s_3329_62 _ _ ?_
          refine ⟨fun h_47 => ?_, fun h_47 => ?_⟩
          · try rw [show gp_wr (1 + 2) = 1 + 2 from gp_wr_id (by omega) (by omega)]
            have w_48 : gp_ushr (gp_and (gp_xor p0 (-1)) (gp_wr (p0 - 1))) 2 = (gp_and (gp_xor p0 (-1)) (gp_wr (p0 - 1))) / 4 := gz_ush (gp_and (gp_xor p0 (-1)) (gp_wr (p0 - 1))) 2 4 (by decide) (by omega) (by decide)
            refine s_3329_74 _ _ ?_
            have w_49 : gp_ushr (gp_ushr (gp_and (gp_xor p0 (-1)) (gp_wr (p0 - 1))) 2) 1 = (gp_ushr (gp_and (gp_xor p0 (-1)) (gp_wr (p0 - 1))) 2) / 2 := gz_ush (gp_ushr (gp_and (gp_xor p0 (-1)) (gp_wr (p0 - 1))) 2) 1 2 (by decide) (by omega) (by decide)
            try rw [show gp_wr ((1 + 2) + (gp_ushr (gp_ushr (gp_and (gp_xor p0 (-1)) (gp_wr (p0 - 1))) 2) 1)) = (1 + 2) + (gp_ushr (gp_ushr (gp_and (gp_xor p0 (-1)) (gp_wr (p0 - 1))) 2) 1) from gp_wr_id (by omega) (by omega)]
            exact k _ (by omega) (by first | omega | assumption)
          · refine s_3329_74 _ _ ?_
            have w_50 : gp_ushr (gp_and (gp_xor p0 (-1)) (gp_wr (p0 - 1))) 1 = (gp_and (gp_xor p0 (-1)) (gp_wr (p0 - 1))) / 2 := gz_ush (gp_and (gp_xor p0 (-1)) (gp_wr (p0 - 1))) 1 2 (by decide) (by omega) (by decide)
            try rw [show gp_wr (1 + (gp_ushr (gp_and (gp_xor p0 (-1)) (gp_wr (p0 - 1))) 1)) = 1 + (gp_ushr (gp_and (gp_xor p0 (-1)) (gp_wr (p0 - 1))) 1) from gp_wr_id (by omega) (by omega)]
            exact k _ (by omega) (by first | omega | assumption)
  · have w_51 := gz_and (gp_and (gp_xor p0 (-1)) (gp_wr (p0 - 1))) 32 (by decide)
    have h1 := and0 (gp_and (gp_xor p0 (-1)) (gp_wr (p0 - 1))) 32
    exact k _ (by omega) (by first | omega | assumption)
set_option maxRecDepth 100000 in
/-- java/lang/Long.numberOfTrailingZeros -/
theorem vm_ntz  {L d : Nat} {K : Option gV → gH → Prop} {s : gH}  (p0 : BitVec 64)    (k : ∀ (r : Int), (0 ≤ r ∧ r ≤ 64) → (¬ p0 = 0#64 → r ≤ 63) → K (some (gp_i r)) s) : gs_C L (d + 1) 3584 3 [gp_l p0] s K := by
  refine s_3584_e _ ?_
  have w_1 := wr_rng (p0.toInt)
  refine ⟨fun h_2 => ?_, fun h_2 => ?_⟩
  · have w_3 := wr_rng ((p0 >>> 32).toInt)
    refine vm_ntzI _ (by omega) (fun x_4 p_5 p_6 => ⟨_, rfl, ?_⟩)
    try rw [show gp_wr (32 + x_4) = 32 + x_4 from gp_wr_id (by omega) (by omega)]
    refine s_3584_25 _ _ _ ?_
    exact k _ (by omega) (fun h => by have hz := fun a b => h (ntz_hl p0 a b); omega)
  · refine vm_ntzI _ (by omega) (fun x_7 p_8 p_9 => ⟨_, rfl, ?_⟩)
    refine s_3584_25 _ _ _ ?_
    exact k _ (by omega) (fun h => by have hz := fun a b => h (ntz_hl p0 a b); omega)
set_option maxRecDepth 100000 in
/-- GatheredPointsModel.code -/
theorem vm_code  {L d : Nat} {K : Option gV → gH → Prop} {s : gH}  (p0 : Int) (p1 : Int) (p2 : Int)  (h_p0 : 0 ≤ p0 ∧ p0 ≤ 63) (h_p1 : 0 ≤ p1 ∧ p1 ≤ 63) (h_p2 : 0 ≤ p2 ∧ p2 ≤ 63)  (k : ∀ (r : Int), (0 ≤ r ∧ r ≤ 262143) → (r = 4096 * p0 + 64 * p1 + p2) → K (some (gp_i r)) s) : gs_C L d 3157 3 [gp_i p0, gp_i p1, gp_i p2] s K := by
  refine s_3157_e _ _ _ ?_
  try rw [show gp_wr (4096 * p0) = 4096 * p0 from gp_wr_id (by omega) (by omega)]
  try rw [show gp_wr (64 * p1) = 64 * p1 from gp_wr_id (by omega) (by omega)]
  try rw [show gp_wr ((4096 * p0) + (64 * p1)) = (4096 * p0) + (64 * p1) from gp_wr_id (by omega) (by omega)]
  try rw [show gp_wr (((4096 * p0) + (64 * p1)) + p2) = ((4096 * p0) + (64 * p1)) + p2 from gp_wr_id (by omega) (by omega)]
  exact k _ (by omega) (by first | omega | assumption)
set_option maxRecDepth 100000 in
/-- GatheredPointsModel.worksAt -/
theorem vm_worksAt  {L d : Nat} {K : Option gV → gH → Prop} {s : gH}  (p0 : Int) (p1 : Int) (p2 : Int) (hs : MI s) (h_p0 : 0 ≤ p0 ∧ p0 ≤ 63) (h_p1 : 0 ≤ p1 ∧ p1 ≤ 63) (h_p2 : 0 ≤ p2 ∧ p2 ≤ 63)  (k : ∀ (t : gH), MI t → gF [108, 109, 110] [] s t → K none t) : gs_C L (d + 2) 3158 17 [gp_r (some 74), gp_i p0, gp_i p1, gp_i p2] s K := by
  have f_1 := mr110 hs 0
  have f_2 := mr110 hs 1
  have f_3 := mr110 hs 2
  refine s_3158_e _ _ _ ?_
  intro s_4 e_5
  have hs_6 : MI s_4 := by rw [e_5]; exact mw110 hs _ _ (by omega)
  have hf_7 : gF [108, 109, 110] [] s s_4 := by rw [e_5]; exact gF.wI (gF.refl _ _ _) (Or.inl rfl)
  have q_8 : gp_I s_4 110 0 = p0 := by rw [e_5]; exact (gz_rw _ _ _ _ _).1 rfl
  have q_9 : gp_I s_4 110 1 = gp_I s 110 1 := by rw [e_5] <;> rfl
  have q_10 : gp_I s_4 110 2 = gp_I s 110 2 := by rw [e_5] <;> rfl
  intro s_11 e_12
  have hs_13 : MI s_11 := by rw [e_12]; exact mw110 hs_6 _ _ (by omega)
  have hf_14 : gF [108, 109, 110] [] s s_11 := by rw [e_12]; exact gF.wI hf_7 (Or.inl rfl)
  have q_15 : gp_I s_11 110 0 = gp_I s_4 110 0 := by rw [e_12] <;> rfl
  have q_16 : gp_I s_11 110 1 = p1 := by rw [e_12]; exact (gz_rw _ _ _ _ _).1 rfl
  have q_17 : gp_I s_11 110 2 = gp_I s_4 110 2 := by rw [e_12] <;> rfl
  intro s_18 e_19
  have hs_20 : MI s_18 := by rw [e_19]; exact mw110 hs_13 _ _ (by omega)
  have hf_21 : gF [108, 109, 110] [] s s_18 := by rw [e_19]; exact gF.wI hf_14 (Or.inl rfl)
  have q_22 : gp_I s_18 110 0 = gp_I s_11 110 0 := by rw [e_19] <;> rfl
  have q_23 : gp_I s_18 110 1 = gp_I s_11 110 1 := by rw [e_19] <;> rfl
  have q_24 : gp_I s_18 110 2 = p2 := by rw [e_19]; exact (gz_rw _ _ _ _ _).1 rfl
  refine vm_code _ _ _ (by omega) (by omega) (by omega) (fun x_25 p_26 p_27 => ⟨_, rfl, ?_⟩)
  have lp_28 : ∀ (n_28 : Nat) (v5_28 : Int) (v6_28 : gV) (v7_28 : gV) (v8_28 : gV) (v9_28 : gV) (v10_28 : gV) (v11_28 : gV) (v12_28 : gV) (v13_28 : gV) (v14_28 : gV) (v15_28 : gV) (v16_28 : gV) (s_28 : gH), (MI s_28) → (gF [108, 109, 110] [] s s_28) → (0 ≤ v5_28 ∧ v5_28 ≤ 2) → (gp_I s_28 110 0 = gp_I s_18 110 0) → (gp_I s_28 110 1 = gp_I s_18 110 1) → (gp_I s_28 110 2 = gp_I s_18 110 2) → (3 - v5_28).toNat < n_28 → gs_E L (d + 2) 3158 32 [gp_r (some 74), gp_i p0, gp_i p1, gp_i p2, gp_i x_25, gp_i v5_28, v6_28, v7_28, v8_28, v9_28, v10_28, v11_28, v12_28, v13_28, v14_28, v15_28, v16_28] [] s_28 K := by
    intro n_28
    induction n_28 with
    | zero => intro v5_28 v6_28 v7_28 v8_28 v9_28 v10_28 v11_28 v12_28 v13_28 v14_28 v15_28 v16_28 s_28 hs_s_28 hf_s_28 hv5_28 tk0_28 tk1_28 tk2_28 hm_28; exact absurd hm_28 (Nat.not_lt_zero _)
    | succ n_28 ih_28 =>
      intro v5_28 v6_28 v7_28 v8_28 v9_28 v10_28 v11_28 v12_28 v13_28 v14_28 v15_28 v16_28 s_28 hs_s_28 hf_s_28 hv5_28 tk0_28 tk1_28 tk2_28 hm_28
      refine s_3158_32 _ _ _ _ _ _ _ _ _ _ _ _ _ _ _ _ ?_
      refine ⟨fun h_29 => ?_, fun h_29 => ?_⟩
      · have lp_30 : ∀ (n_30 : Nat) (v6_30 : Int) (v7_30 : Int) (v8_30 : Int) (v9_30 : Int) (v10_30 : gV) (v11_30 : gV) (v12_30 : gV) (v13_30 : gV) (v14_30 : gV) (v15_30 : gV) (v16_30 : gV), ((-2147483648) ≤ v6_30 ∧ v6_30 ≤ 2147483647) → (0 ≤ v8_30 ∧ v8_30 ≤ 1) → (0 ≤ v9_30 ∧ v9_30 ≤ 3) → (4 - v9_30).toNat < n_30 → gs_E L (d + 2) 3158 50 [gp_r (some 74), gp_i p0, gp_i p1, gp_i p2, gp_i x_25, gp_i v5_28, gp_i v6_30, gp_i v7_30, gp_i v8_30, gp_i v9_30, v10_30, v11_30, v12_30, v13_30, v14_30, v15_30, v16_30] [] s_28 K := by
          intro n_30
          induction n_30 with
          | zero => intro v6_30 v7_30 v8_30 v9_30 v10_30 v11_30 v12_30 v13_30 v14_30 v15_30 v16_30 hv6_30 hv8_30 hv9_30 hm_30; exact absurd hm_30 (Nat.not_lt_zero _)
          | succ n_30 ih_30 =>
            intro v6_30 v7_30 v8_30 v9_30 v10_30 v11_30 v12_30 v13_30 v14_30 v15_30 v16_30 hv6_30 hv8_30 hv9_30 hm_30
            refine s_3158_50 _ _ _ _ _ _ _ _ _ _ _ _ _ _ _ _ ?_
            have hpl := pl3 (s := s_28) (v := v9_30) (a := p0) (b := p1) (c := p2) (by omega) (by omega) (by omega)
            have f_31 := mr74_49 hs_s_28
            refine ⟨fun h_32 => ?_, fun h_32 => ?_⟩
            · refine ⟨by omega, ?_⟩
              have f_33 := mr106 hs_s_28 (Int.toNat v9_30)
              refine ⟨by omega, ?_⟩
              have f_34 := mr110 hs_s_28 (Int.toNat v9_30)
              refine vm_sideOf _ _ _ hs_s_28 (by omega) (by omega) (fun m_35 p_36 p_37 p_38 => ⟨_, rfl, ?_⟩)
              refine ⟨fun h_39 => ?_, fun h_39 => ?_⟩
              · have hz_40 : m_35 = 0#64 := (gm_cmp0 _ _).mp h_39
                refine ⟨by omega, ?_⟩
                have f_41 := mr106 hs_s_28 (Int.toNat v9_30)
                refine ⟨by omega, ?_⟩
                have f_42 := mr110 hs_s_28 (Int.toNat v9_30)
                refine vm_shut _ _ _ hs_s_28 (by omega) (by omega) (fun x_43 p_44 p_45 => ⟨_, rfl, ?_⟩)
                refine s_3158_114 _ _ _ _ _ _ _ _ _ _ _ _ _ _ _ _ _ ?_
                have w_46 := wr_rng (v6_30 + x_43)
                refine ⟨fun h_47 => ?_, fun h_47 => ?_⟩
                · refine s_3158_140 _ _ _ _ _ _ _ _ _ _ _ _ _ _ _ _ ?_
                  have lp_48 : ∀ (n_48 : Nat) (v7_48 : Int) (v8_48 : Int) (v13_48 : BitVec 64) (v15_48 : gV) (v16_48 : gV), (0 ≤ v8_48 ∧ v8_48 ≤ 1) → (v13_48).toNat < n_48 → gs_E L (d + 2) 3158 146 [gp_r (some 74), gp_i p0, gp_i p1, gp_i p2, gp_i x_25, gp_i v5_28, gp_i (gp_wr (v6_30 + x_43)), gp_i v7_48, gp_i v8_48, gp_i v9_30, gp_l m_35, gp_n, gp_i 4096, gp_l v13_48, gp_n, v15_48, v16_48] [] s_28 K := by
                    intro n_48
                    induction n_48 with
                    | zero => intro v7_48 v8_48 v13_48 v15_48 v16_48 hv8_48 hm_48; exact absurd hm_48 (Nat.not_lt_zero _)
                    | succ n_48 ih_48 =>
                      intro v7_48 v8_48 v13_48 v15_48 v16_48 hv8_48 hm_48
                      refine s_3158_146 _ _ _ _ _ _ _ _ _ _ _ _ _ _ ?_
                      refine ⟨fun h_49 => ?_, fun h_49 => ?_⟩
                      · have hz_50 : v13_48 = 0#64 := (gm_cmp0 _ _).mp h_49
                        try rw [show gp_wr (v9_30 + 1) = v9_30 + 1 from gp_wr_id (by omega) (by omega)]
                        exact ih_30 _ _ _ _ _ _ _ _ _ _ _ (by omega) (by omega) (by omega) (by omega)
                      · have hz_51 : ¬ v13_48 = 0#64 := fun q => h_49 ((gm_cmp0 _ _).mpr q)
                        refine vm_ntz _ (fun x_52 p_53 p_54 => ⟨_, rfl, ?_⟩)
                        have hnt := p_54 (by assumption)
                        refine ⟨by omega, ?_⟩
                        have f_55 := mr110 hs_s_28 (Int.toNat v9_30)
                        try rw [show gp_wr (x_52 - (gp_I s_28 110 (Int.toNat v9_30))) = x_52 - (gp_I s_28 110 (Int.toNat v9_30)) from gp_wr_id (by omega) (by omega)]
                        try rw [show gp_wr ((x_52 - (gp_I s_28 110 (Int.toNat v9_30))) * 4096) = (x_52 - (gp_I s_28 110 (Int.toNat v9_30))) * 4096 from gp_wr_id (by omega) (by omega)]
                        try rw [show gp_wr (x_25 + ((x_52 - (gp_I s_28 110 (Int.toNat v9_30))) * 4096)) = x_25 + ((x_52 - (gp_I s_28 110 (Int.toNat v9_30))) * 4096) from gp_wr_id (by omega) (by omega)]
                        have jn196_57 : ∀ (j_57 : Int), gs_E L (d + 2) 3158 196 [gp_r (some 74), gp_i p0, gp_i p1, gp_i p2, gp_i x_25, gp_i v5_28, gp_i (gp_wr (v6_30 + x_43)), gp_i v7_48, gp_i v8_48, gp_i v9_30, gp_l m_35, gp_n, gp_i 4096, gp_l v13_48, gp_n, gp_i (x_25 + ((x_52 - (gp_I s_28 110 (Int.toNat v9_30))) * 4096)), v16_48] [gp_i j_57] s_28 K := by
                          intro j_57
                          refine s_3158_196 _ _ _ _ _ _ _ _ _ _ _ _ _ _ _ ?_
                          have jn232_60 : ∀ (j_60 : Int), gs_E L (d + 2) 3158 232 [gp_r (some 74), gp_i p0, gp_i p1, gp_i p2, gp_i x_25, gp_i v5_28, gp_i (gp_wr (v6_30 + x_43)), gp_i v7_48, gp_i v8_48, gp_i v9_30, gp_l m_35, gp_n, gp_i 4096, gp_l v13_48, gp_n, gp_i (x_25 + ((x_52 - (gp_I s_28 110 (Int.toNat v9_30))) * 4096)), gp_i j_57] [gp_i j_60] s_28 K := by
                            intro j_60
                            refine s_3158_232 _ _ _ _ _ _ _ _ _ _ _ _ _ _ _ ?_
                            exact ih_48 _ _ _ _ _ (by omega) (by have := rest_lt (by assumption : ¬ v13_48 = 0#64); omega)
                          refine ⟨fun h_59 => ?_, fun h_59 => ?_⟩
                          · refine s_3158_225 _ _ _ _ _ _ _ _ _ _ _ _ _ _ ?_
                            exact jn232_60 _
                          · refine ⟨fun h_62 => ?_, fun h_62 => ?_⟩
                            · refine ⟨fun h_63 => ?_, fun h_63 => ?_⟩
                              · refine s_3158_225 _ _ _ _ _ _ _ _ _ _ _ _ _ _ ?_
                                exact jn232_60 _
                              · refine s_3158_230 _ _ _ _ _ _ _ _ _ _ _ _ _ _ ?_
                                exact jn232_60 _
                            · refine ⟨fun h_64 => ?_, fun h_64 => ?_⟩
                              · refine s_3158_225 _ _ _ _ _ _ _ _ _ _ _ _ _ _ ?_
                                exact jn232_60 _
                              · refine s_3158_230 _ _ _ _ _ _ _ _ _ _ _ _ _ _ ?_
                                exact jn232_60 _
                        refine ⟨fun h_56 => ?_, fun h_56 => ?_⟩
                        · refine ⟨by omega, ?_⟩
                          exact jn196_57 _
                        · refine ⟨by omega, ?_⟩
                          exact jn196_57 _
                  exact lp_48 _ _ _ _ _ _ (by omega) (Nat.lt_succ_self _)
                · refine ⟨fun h_65 => ?_, fun h_65 => ?_⟩
                  · refine s_3158_140 _ _ _ _ _ _ _ _ _ _ _ _ _ _ _ _ ?_
                    have lp_66 : ∀ (n_66 : Nat) (v7_66 : Int) (v8_66 : Int) (v13_66 : BitVec 64) (v15_66 : gV) (v16_66 : gV), (0 ≤ v8_66 ∧ v8_66 ≤ 1) → (v13_66).toNat < n_66 → gs_E L (d + 2) 3158 146 [gp_r (some 74), gp_i p0, gp_i p1, gp_i p2, gp_i x_25, gp_i v5_28, gp_i (gp_wr (v6_30 + x_43)), gp_i v7_66, gp_i v8_66, gp_i v9_30, gp_l m_35, gp_n, gp_i 64, gp_l v13_66, gp_n, v15_66, v16_66] [] s_28 K := by
                      intro n_66
                      induction n_66 with
                      | zero => intro v7_66 v8_66 v13_66 v15_66 v16_66 hv8_66 hm_66; exact absurd hm_66 (Nat.not_lt_zero _)
                      | succ n_66 ih_66 =>
                        intro v7_66 v8_66 v13_66 v15_66 v16_66 hv8_66 hm_66
                        refine s_3158_146 _ _ _ _ _ _ _ _ _ _ _ _ _ _ ?_
                        refine ⟨fun h_67 => ?_, fun h_67 => ?_⟩
                        · have hz_68 : v13_66 = 0#64 := (gm_cmp0 _ _).mp h_67
                          try rw [show gp_wr (v9_30 + 1) = v9_30 + 1 from gp_wr_id (by omega) (by omega)]
                          exact ih_30 _ _ _ _ _ _ _ _ _ _ _ (by omega) (by omega) (by omega) (by omega)
                        · have hz_69 : ¬ v13_66 = 0#64 := fun q => h_67 ((gm_cmp0 _ _).mpr q)
                          refine vm_ntz _ (fun x_70 p_71 p_72 => ⟨_, rfl, ?_⟩)
                          have hnt := p_72 (by assumption)
                          refine ⟨by omega, ?_⟩
                          have f_73 := mr110 hs_s_28 (Int.toNat v9_30)
                          try rw [show gp_wr (x_70 - (gp_I s_28 110 (Int.toNat v9_30))) = x_70 - (gp_I s_28 110 (Int.toNat v9_30)) from gp_wr_id (by omega) (by omega)]
                          try rw [show gp_wr ((x_70 - (gp_I s_28 110 (Int.toNat v9_30))) * 64) = (x_70 - (gp_I s_28 110 (Int.toNat v9_30))) * 64 from gp_wr_id (by omega) (by omega)]
                          try rw [show gp_wr (x_25 + ((x_70 - (gp_I s_28 110 (Int.toNat v9_30))) * 64)) = x_25 + ((x_70 - (gp_I s_28 110 (Int.toNat v9_30))) * 64) from gp_wr_id (by omega) (by omega)]
                          have jn196_75 : ∀ (j_75 : Int), gs_E L (d + 2) 3158 196 [gp_r (some 74), gp_i p0, gp_i p1, gp_i p2, gp_i x_25, gp_i v5_28, gp_i (gp_wr (v6_30 + x_43)), gp_i v7_66, gp_i v8_66, gp_i v9_30, gp_l m_35, gp_n, gp_i 64, gp_l v13_66, gp_n, gp_i (x_25 + ((x_70 - (gp_I s_28 110 (Int.toNat v9_30))) * 64)), v16_66] [gp_i j_75] s_28 K := by
                            intro j_75
                            refine s_3158_196 _ _ _ _ _ _ _ _ _ _ _ _ _ _ _ ?_
                            have jn232_78 : ∀ (j_78 : Int), gs_E L (d + 2) 3158 232 [gp_r (some 74), gp_i p0, gp_i p1, gp_i p2, gp_i x_25, gp_i v5_28, gp_i (gp_wr (v6_30 + x_43)), gp_i v7_66, gp_i v8_66, gp_i v9_30, gp_l m_35, gp_n, gp_i 64, gp_l v13_66, gp_n, gp_i (x_25 + ((x_70 - (gp_I s_28 110 (Int.toNat v9_30))) * 64)), gp_i j_75] [gp_i j_78] s_28 K := by
                              intro j_78
                              refine s_3158_232 _ _ _ _ _ _ _ _ _ _ _ _ _ _ _ ?_
                              exact ih_66 _ _ _ _ _ (by omega) (by have := rest_lt (by assumption : ¬ v13_66 = 0#64); omega)
                            refine ⟨fun h_77 => ?_, fun h_77 => ?_⟩
                            · refine s_3158_225 _ _ _ _ _ _ _ _ _ _ _ _ _ _ ?_
                              exact jn232_78 _
                            · refine ⟨fun h_80 => ?_, fun h_80 => ?_⟩
                              · refine ⟨fun h_81 => ?_, fun h_81 => ?_⟩
                                · refine s_3158_225 _ _ _ _ _ _ _ _ _ _ _ _ _ _ ?_
                                  exact jn232_78 _
                                · refine s_3158_230 _ _ _ _ _ _ _ _ _ _ _ _ _ _ ?_
                                  exact jn232_78 _
                              · refine ⟨fun h_82 => ?_, fun h_82 => ?_⟩
                                · refine s_3158_225 _ _ _ _ _ _ _ _ _ _ _ _ _ _ ?_
                                  exact jn232_78 _
                                · refine s_3158_230 _ _ _ _ _ _ _ _ _ _ _ _ _ _ ?_
                                  exact jn232_78 _
                          refine ⟨fun h_74 => ?_, fun h_74 => ?_⟩
                          · refine ⟨by omega, ?_⟩
                            exact jn196_75 _
                          · refine ⟨by omega, ?_⟩
                            exact jn196_75 _
                    exact lp_66 _ _ _ _ _ _ (by omega) (Nat.lt_succ_self _)
                  · refine s_3158_140 _ _ _ _ _ _ _ _ _ _ _ _ _ _ _ _ ?_
                    have lp_83 : ∀ (n_83 : Nat) (v7_83 : Int) (v8_83 : Int) (v13_83 : BitVec 64) (v15_83 : gV) (v16_83 : gV), (0 ≤ v8_83 ∧ v8_83 ≤ 1) → (v13_83).toNat < n_83 → gs_E L (d + 2) 3158 146 [gp_r (some 74), gp_i p0, gp_i p1, gp_i p2, gp_i x_25, gp_i v5_28, gp_i (gp_wr (v6_30 + x_43)), gp_i v7_83, gp_i v8_83, gp_i v9_30, gp_l m_35, gp_n, gp_i 1, gp_l v13_83, gp_n, v15_83, v16_83] [] s_28 K := by
                      intro n_83
                      induction n_83 with
                      | zero => intro v7_83 v8_83 v13_83 v15_83 v16_83 hv8_83 hm_83; exact absurd hm_83 (Nat.not_lt_zero _)
                      | succ n_83 ih_83 =>
                        intro v7_83 v8_83 v13_83 v15_83 v16_83 hv8_83 hm_83
                        refine s_3158_146 _ _ _ _ _ _ _ _ _ _ _ _ _ _ ?_
                        refine ⟨fun h_84 => ?_, fun h_84 => ?_⟩
                        · have hz_85 : v13_83 = 0#64 := (gm_cmp0 _ _).mp h_84
                          try rw [show gp_wr (v9_30 + 1) = v9_30 + 1 from gp_wr_id (by omega) (by omega)]
                          exact ih_30 _ _ _ _ _ _ _ _ _ _ _ (by omega) (by omega) (by omega) (by omega)
                        · have hz_86 : ¬ v13_83 = 0#64 := fun q => h_84 ((gm_cmp0 _ _).mpr q)
                          refine vm_ntz _ (fun x_87 p_88 p_89 => ⟨_, rfl, ?_⟩)
                          have hnt := p_89 (by assumption)
                          refine ⟨by omega, ?_⟩
                          have f_90 := mr110 hs_s_28 (Int.toNat v9_30)
                          try rw [show gp_wr (x_87 - (gp_I s_28 110 (Int.toNat v9_30))) = x_87 - (gp_I s_28 110 (Int.toNat v9_30)) from gp_wr_id (by omega) (by omega)]
                          try rw [show gp_wr ((x_87 - (gp_I s_28 110 (Int.toNat v9_30))) * 1) = (x_87 - (gp_I s_28 110 (Int.toNat v9_30))) * 1 from gp_wr_id (by omega) (by omega)]
                          try rw [show gp_wr (x_25 + ((x_87 - (gp_I s_28 110 (Int.toNat v9_30))) * 1)) = x_25 + ((x_87 - (gp_I s_28 110 (Int.toNat v9_30))) * 1) from gp_wr_id (by omega) (by omega)]
                          have jn196_92 : ∀ (j_92 : Int), gs_E L (d + 2) 3158 196 [gp_r (some 74), gp_i p0, gp_i p1, gp_i p2, gp_i x_25, gp_i v5_28, gp_i (gp_wr (v6_30 + x_43)), gp_i v7_83, gp_i v8_83, gp_i v9_30, gp_l m_35, gp_n, gp_i 1, gp_l v13_83, gp_n, gp_i (x_25 + ((x_87 - (gp_I s_28 110 (Int.toNat v9_30))) * 1)), v16_83] [gp_i j_92] s_28 K := by
                            intro j_92
                            refine s_3158_196 _ _ _ _ _ _ _ _ _ _ _ _ _ _ _ ?_
                            have jn232_95 : ∀ (j_95 : Int), gs_E L (d + 2) 3158 232 [gp_r (some 74), gp_i p0, gp_i p1, gp_i p2, gp_i x_25, gp_i v5_28, gp_i (gp_wr (v6_30 + x_43)), gp_i v7_83, gp_i v8_83, gp_i v9_30, gp_l m_35, gp_n, gp_i 1, gp_l v13_83, gp_n, gp_i (x_25 + ((x_87 - (gp_I s_28 110 (Int.toNat v9_30))) * 1)), gp_i j_92] [gp_i j_95] s_28 K := by
                              intro j_95
                              refine s_3158_232 _ _ _ _ _ _ _ _ _ _ _ _ _ _ _ ?_
                              exact ih_83 _ _ _ _ _ (by omega) (by have := rest_lt (by assumption : ¬ v13_83 = 0#64); omega)
                            refine ⟨fun h_94 => ?_, fun h_94 => ?_⟩
                            · refine s_3158_225 _ _ _ _ _ _ _ _ _ _ _ _ _ _ ?_
                              exact jn232_95 _
                            · refine ⟨fun h_97 => ?_, fun h_97 => ?_⟩
                              · refine ⟨fun h_98 => ?_, fun h_98 => ?_⟩
                                · refine s_3158_225 _ _ _ _ _ _ _ _ _ _ _ _ _ _ ?_
                                  exact jn232_95 _
                                · refine s_3158_230 _ _ _ _ _ _ _ _ _ _ _ _ _ _ ?_
                                  exact jn232_95 _
                              · refine ⟨fun h_99 => ?_, fun h_99 => ?_⟩
                                · refine s_3158_225 _ _ _ _ _ _ _ _ _ _ _ _ _ _ ?_
                                  exact jn232_95 _
                                · refine s_3158_230 _ _ _ _ _ _ _ _ _ _ _ _ _ _ ?_
                                  exact jn232_95 _
                          refine ⟨fun h_91 => ?_, fun h_91 => ?_⟩
                          · refine ⟨by omega, ?_⟩
                            exact jn196_92 _
                          · refine ⟨by omega, ?_⟩
                            exact jn196_92 _
                    exact lp_83 _ _ _ _ _ _ (by omega) (Nat.lt_succ_self _)
              · have hz_100 : ¬ m_35 = 0#64 := fun q => h_39 ((gm_cmp0 _ _).mpr q)
                refine s_3158_114 _ _ _ _ _ _ _ _ _ _ _ _ _ _ _ _ _ ?_
                try rw [show gp_wr (v6_30 + 0) = v6_30 + 0 from gp_wr_id (by omega) (by omega)]
                refine ⟨fun h_101 => ?_, fun h_101 => ?_⟩
                · refine s_3158_140 _ _ _ _ _ _ _ _ _ _ _ _ _ _ _ _ ?_
                  have lp_102 : ∀ (n_102 : Nat) (v7_102 : Int) (v8_102 : Int) (v13_102 : BitVec 64) (v15_102 : gV) (v16_102 : gV), (0 ≤ v8_102 ∧ v8_102 ≤ 1) → (v13_102).toNat < n_102 → gs_E L (d + 2) 3158 146 [gp_r (some 74), gp_i p0, gp_i p1, gp_i p2, gp_i x_25, gp_i v5_28, gp_i (v6_30 + 0), gp_i v7_102, gp_i v8_102, gp_i v9_30, gp_l m_35, gp_n, gp_i 4096, gp_l v13_102, gp_n, v15_102, v16_102] [] s_28 K := by
                    intro n_102
                    induction n_102 with
                    | zero => intro v7_102 v8_102 v13_102 v15_102 v16_102 hv8_102 hm_102; exact absurd hm_102 (Nat.not_lt_zero _)
                    | succ n_102 ih_102 =>
                      intro v7_102 v8_102 v13_102 v15_102 v16_102 hv8_102 hm_102
                      refine s_3158_146 _ _ _ _ _ _ _ _ _ _ _ _ _ _ ?_
                      refine ⟨fun h_103 => ?_, fun h_103 => ?_⟩
                      · have hz_104 : v13_102 = 0#64 := (gm_cmp0 _ _).mp h_103
                        try rw [show gp_wr (v9_30 + 1) = v9_30 + 1 from gp_wr_id (by omega) (by omega)]
                        exact ih_30 _ _ _ _ _ _ _ _ _ _ _ (by omega) (by omega) (by omega) (by omega)
                      · have hz_105 : ¬ v13_102 = 0#64 := fun q => h_103 ((gm_cmp0 _ _).mpr q)
                        refine vm_ntz _ (fun x_106 p_107 p_108 => ⟨_, rfl, ?_⟩)
                        have hnt := p_108 (by assumption)
                        refine ⟨by omega, ?_⟩
                        have f_109 := mr110 hs_s_28 (Int.toNat v9_30)
                        try rw [show gp_wr (x_106 - (gp_I s_28 110 (Int.toNat v9_30))) = x_106 - (gp_I s_28 110 (Int.toNat v9_30)) from gp_wr_id (by omega) (by omega)]
                        try rw [show gp_wr ((x_106 - (gp_I s_28 110 (Int.toNat v9_30))) * 4096) = (x_106 - (gp_I s_28 110 (Int.toNat v9_30))) * 4096 from gp_wr_id (by omega) (by omega)]
                        try rw [show gp_wr (x_25 + ((x_106 - (gp_I s_28 110 (Int.toNat v9_30))) * 4096)) = x_25 + ((x_106 - (gp_I s_28 110 (Int.toNat v9_30))) * 4096) from gp_wr_id (by omega) (by omega)]
                        have jn196_111 : ∀ (j_111 : Int), gs_E L (d + 2) 3158 196 [gp_r (some 74), gp_i p0, gp_i p1, gp_i p2, gp_i x_25, gp_i v5_28, gp_i (v6_30 + 0), gp_i v7_102, gp_i v8_102, gp_i v9_30, gp_l m_35, gp_n, gp_i 4096, gp_l v13_102, gp_n, gp_i (x_25 + ((x_106 - (gp_I s_28 110 (Int.toNat v9_30))) * 4096)), v16_102] [gp_i j_111] s_28 K := by
                          intro j_111
                          refine s_3158_196 _ _ _ _ _ _ _ _ _ _ _ _ _ _ _ ?_
                          have jn232_114 : ∀ (j_114 : Int), gs_E L (d + 2) 3158 232 [gp_r (some 74), gp_i p0, gp_i p1, gp_i p2, gp_i x_25, gp_i v5_28, gp_i (v6_30 + 0), gp_i v7_102, gp_i v8_102, gp_i v9_30, gp_l m_35, gp_n, gp_i 4096, gp_l v13_102, gp_n, gp_i (x_25 + ((x_106 - (gp_I s_28 110 (Int.toNat v9_30))) * 4096)), gp_i j_111] [gp_i j_114] s_28 K := by
                            intro j_114
                            refine s_3158_232 _ _ _ _ _ _ _ _ _ _ _ _ _ _ _ ?_
                            exact ih_102 _ _ _ _ _ (by omega) (by have := rest_lt (by assumption : ¬ v13_102 = 0#64); omega)
                          refine ⟨fun h_113 => ?_, fun h_113 => ?_⟩
                          · refine s_3158_225 _ _ _ _ _ _ _ _ _ _ _ _ _ _ ?_
                            exact jn232_114 _
                          · refine ⟨fun h_116 => ?_, fun h_116 => ?_⟩
                            · refine ⟨fun h_117 => ?_, fun h_117 => ?_⟩
                              · refine s_3158_225 _ _ _ _ _ _ _ _ _ _ _ _ _ _ ?_
                                exact jn232_114 _
                              · refine s_3158_230 _ _ _ _ _ _ _ _ _ _ _ _ _ _ ?_
                                exact jn232_114 _
                            · refine ⟨fun h_118 => ?_, fun h_118 => ?_⟩
                              · refine s_3158_225 _ _ _ _ _ _ _ _ _ _ _ _ _ _ ?_
                                exact jn232_114 _
                              · refine s_3158_230 _ _ _ _ _ _ _ _ _ _ _ _ _ _ ?_
                                exact jn232_114 _
                        refine ⟨fun h_110 => ?_, fun h_110 => ?_⟩
                        · refine ⟨by omega, ?_⟩
                          exact jn196_111 _
                        · refine ⟨by omega, ?_⟩
                          exact jn196_111 _
                  exact lp_102 _ _ _ _ _ _ (by omega) (Nat.lt_succ_self _)
                · refine ⟨fun h_119 => ?_, fun h_119 => ?_⟩
                  · refine s_3158_140 _ _ _ _ _ _ _ _ _ _ _ _ _ _ _ _ ?_
                    have lp_120 : ∀ (n_120 : Nat) (v7_120 : Int) (v8_120 : Int) (v13_120 : BitVec 64) (v15_120 : gV) (v16_120 : gV), (0 ≤ v8_120 ∧ v8_120 ≤ 1) → (v13_120).toNat < n_120 → gs_E L (d + 2) 3158 146 [gp_r (some 74), gp_i p0, gp_i p1, gp_i p2, gp_i x_25, gp_i v5_28, gp_i (v6_30 + 0), gp_i v7_120, gp_i v8_120, gp_i v9_30, gp_l m_35, gp_n, gp_i 64, gp_l v13_120, gp_n, v15_120, v16_120] [] s_28 K := by
                      intro n_120
                      induction n_120 with
                      | zero => intro v7_120 v8_120 v13_120 v15_120 v16_120 hv8_120 hm_120; exact absurd hm_120 (Nat.not_lt_zero _)
                      | succ n_120 ih_120 =>
                        intro v7_120 v8_120 v13_120 v15_120 v16_120 hv8_120 hm_120
                        refine s_3158_146 _ _ _ _ _ _ _ _ _ _ _ _ _ _ ?_
                        refine ⟨fun h_121 => ?_, fun h_121 => ?_⟩
                        · have hz_122 : v13_120 = 0#64 := (gm_cmp0 _ _).mp h_121
                          try rw [show gp_wr (v9_30 + 1) = v9_30 + 1 from gp_wr_id (by omega) (by omega)]
                          exact ih_30 _ _ _ _ _ _ _ _ _ _ _ (by omega) (by omega) (by omega) (by omega)
                        · have hz_123 : ¬ v13_120 = 0#64 := fun q => h_121 ((gm_cmp0 _ _).mpr q)
                          refine vm_ntz _ (fun x_124 p_125 p_126 => ⟨_, rfl, ?_⟩)
                          have hnt := p_126 (by assumption)
                          refine ⟨by omega, ?_⟩
                          have f_127 := mr110 hs_s_28 (Int.toNat v9_30)
                          try rw [show gp_wr (x_124 - (gp_I s_28 110 (Int.toNat v9_30))) = x_124 - (gp_I s_28 110 (Int.toNat v9_30)) from gp_wr_id (by omega) (by omega)]
                          try rw [show gp_wr ((x_124 - (gp_I s_28 110 (Int.toNat v9_30))) * 64) = (x_124 - (gp_I s_28 110 (Int.toNat v9_30))) * 64 from gp_wr_id (by omega) (by omega)]
                          try rw [show gp_wr (x_25 + ((x_124 - (gp_I s_28 110 (Int.toNat v9_30))) * 64)) = x_25 + ((x_124 - (gp_I s_28 110 (Int.toNat v9_30))) * 64) from gp_wr_id (by omega) (by omega)]
                          have jn196_129 : ∀ (j_129 : Int), gs_E L (d + 2) 3158 196 [gp_r (some 74), gp_i p0, gp_i p1, gp_i p2, gp_i x_25, gp_i v5_28, gp_i (v6_30 + 0), gp_i v7_120, gp_i v8_120, gp_i v9_30, gp_l m_35, gp_n, gp_i 64, gp_l v13_120, gp_n, gp_i (x_25 + ((x_124 - (gp_I s_28 110 (Int.toNat v9_30))) * 64)), v16_120] [gp_i j_129] s_28 K := by
                            intro j_129
                            refine s_3158_196 _ _ _ _ _ _ _ _ _ _ _ _ _ _ _ ?_
                            have jn232_132 : ∀ (j_132 : Int), gs_E L (d + 2) 3158 232 [gp_r (some 74), gp_i p0, gp_i p1, gp_i p2, gp_i x_25, gp_i v5_28, gp_i (v6_30 + 0), gp_i v7_120, gp_i v8_120, gp_i v9_30, gp_l m_35, gp_n, gp_i 64, gp_l v13_120, gp_n, gp_i (x_25 + ((x_124 - (gp_I s_28 110 (Int.toNat v9_30))) * 64)), gp_i j_129] [gp_i j_132] s_28 K := by
                              intro j_132
                              refine s_3158_232 _ _ _ _ _ _ _ _ _ _ _ _ _ _ _ ?_
                              exact ih_120 _ _ _ _ _ (by omega) (by have := rest_lt (by assumption : ¬ v13_120 = 0#64); omega)
                            refine ⟨fun h_131 => ?_, fun h_131 => ?_⟩
                            · refine s_3158_225 _ _ _ _ _ _ _ _ _ _ _ _ _ _ ?_
                              exact jn232_132 _
                            · refine ⟨fun h_134 => ?_, fun h_134 => ?_⟩
                              · refine ⟨fun h_135 => ?_, fun h_135 => ?_⟩
                                · refine s_3158_225 _ _ _ _ _ _ _ _ _ _ _ _ _ _ ?_
                                  exact jn232_132 _
                                · refine s_3158_230 _ _ _ _ _ _ _ _ _ _ _ _ _ _ ?_
                                  exact jn232_132 _
                              · refine ⟨fun h_136 => ?_, fun h_136 => ?_⟩
                                · refine s_3158_225 _ _ _ _ _ _ _ _ _ _ _ _ _ _ ?_
                                  exact jn232_132 _
                                · refine s_3158_230 _ _ _ _ _ _ _ _ _ _ _ _ _ _ ?_
                                  exact jn232_132 _
                          refine ⟨fun h_128 => ?_, fun h_128 => ?_⟩
                          · refine ⟨by omega, ?_⟩
                            exact jn196_129 _
                          · refine ⟨by omega, ?_⟩
                            exact jn196_129 _
                    exact lp_120 _ _ _ _ _ _ (by omega) (Nat.lt_succ_self _)
                  · refine s_3158_140 _ _ _ _ _ _ _ _ _ _ _ _ _ _ _ _ ?_
                    have lp_137 : ∀ (n_137 : Nat) (v7_137 : Int) (v8_137 : Int) (v13_137 : BitVec 64) (v15_137 : gV) (v16_137 : gV), (0 ≤ v8_137 ∧ v8_137 ≤ 1) → (v13_137).toNat < n_137 → gs_E L (d + 2) 3158 146 [gp_r (some 74), gp_i p0, gp_i p1, gp_i p2, gp_i x_25, gp_i v5_28, gp_i (v6_30 + 0), gp_i v7_137, gp_i v8_137, gp_i v9_30, gp_l m_35, gp_n, gp_i 1, gp_l v13_137, gp_n, v15_137, v16_137] [] s_28 K := by
                      intro n_137
                      induction n_137 with
                      | zero => intro v7_137 v8_137 v13_137 v15_137 v16_137 hv8_137 hm_137; exact absurd hm_137 (Nat.not_lt_zero _)
                      | succ n_137 ih_137 =>
                        intro v7_137 v8_137 v13_137 v15_137 v16_137 hv8_137 hm_137
                        refine s_3158_146 _ _ _ _ _ _ _ _ _ _ _ _ _ _ ?_
                        refine ⟨fun h_138 => ?_, fun h_138 => ?_⟩
                        · have hz_139 : v13_137 = 0#64 := (gm_cmp0 _ _).mp h_138
                          try rw [show gp_wr (v9_30 + 1) = v9_30 + 1 from gp_wr_id (by omega) (by omega)]
                          exact ih_30 _ _ _ _ _ _ _ _ _ _ _ (by omega) (by omega) (by omega) (by omega)
                        · have hz_140 : ¬ v13_137 = 0#64 := fun q => h_138 ((gm_cmp0 _ _).mpr q)
                          refine vm_ntz _ (fun x_141 p_142 p_143 => ⟨_, rfl, ?_⟩)
                          have hnt := p_143 (by assumption)
                          refine ⟨by omega, ?_⟩
                          have f_144 := mr110 hs_s_28 (Int.toNat v9_30)
                          try rw [show gp_wr (x_141 - (gp_I s_28 110 (Int.toNat v9_30))) = x_141 - (gp_I s_28 110 (Int.toNat v9_30)) from gp_wr_id (by omega) (by omega)]
                          try rw [show gp_wr ((x_141 - (gp_I s_28 110 (Int.toNat v9_30))) * 1) = (x_141 - (gp_I s_28 110 (Int.toNat v9_30))) * 1 from gp_wr_id (by omega) (by omega)]
                          try rw [show gp_wr (x_25 + ((x_141 - (gp_I s_28 110 (Int.toNat v9_30))) * 1)) = x_25 + ((x_141 - (gp_I s_28 110 (Int.toNat v9_30))) * 1) from gp_wr_id (by omega) (by omega)]
                          have jn196_146 : ∀ (j_146 : Int), gs_E L (d + 2) 3158 196 [gp_r (some 74), gp_i p0, gp_i p1, gp_i p2, gp_i x_25, gp_i v5_28, gp_i (v6_30 + 0), gp_i v7_137, gp_i v8_137, gp_i v9_30, gp_l m_35, gp_n, gp_i 1, gp_l v13_137, gp_n, gp_i (x_25 + ((x_141 - (gp_I s_28 110 (Int.toNat v9_30))) * 1)), v16_137] [gp_i j_146] s_28 K := by
                            intro j_146
                            refine s_3158_196 _ _ _ _ _ _ _ _ _ _ _ _ _ _ _ ?_
                            have jn232_149 : ∀ (j_149 : Int), gs_E L (d + 2) 3158 232 [gp_r (some 74), gp_i p0, gp_i p1, gp_i p2, gp_i x_25, gp_i v5_28, gp_i (v6_30 + 0), gp_i v7_137, gp_i v8_137, gp_i v9_30, gp_l m_35, gp_n, gp_i 1, gp_l v13_137, gp_n, gp_i (x_25 + ((x_141 - (gp_I s_28 110 (Int.toNat v9_30))) * 1)), gp_i j_146] [gp_i j_149] s_28 K := by
                              intro j_149
                              refine s_3158_232 _ _ _ _ _ _ _ _ _ _ _ _ _ _ _ ?_
                              exact ih_137 _ _ _ _ _ (by omega) (by have := rest_lt (by assumption : ¬ v13_137 = 0#64); omega)
                            refine ⟨fun h_148 => ?_, fun h_148 => ?_⟩
                            · refine s_3158_225 _ _ _ _ _ _ _ _ _ _ _ _ _ _ ?_
                              exact jn232_149 _
                            · refine ⟨fun h_151 => ?_, fun h_151 => ?_⟩
                              · refine ⟨fun h_152 => ?_, fun h_152 => ?_⟩
                                · refine s_3158_225 _ _ _ _ _ _ _ _ _ _ _ _ _ _ ?_
                                  exact jn232_149 _
                                · refine s_3158_230 _ _ _ _ _ _ _ _ _ _ _ _ _ _ ?_
                                  exact jn232_149 _
                              · refine ⟨fun h_153 => ?_, fun h_153 => ?_⟩
                                · refine s_3158_225 _ _ _ _ _ _ _ _ _ _ _ _ _ _ ?_
                                  exact jn232_149 _
                                · refine s_3158_230 _ _ _ _ _ _ _ _ _ _ _ _ _ _ ?_
                                  exact jn232_149 _
                          refine ⟨fun h_145 => ?_, fun h_145 => ?_⟩
                          · refine ⟨by omega, ?_⟩
                            exact jn196_146 _
                          · refine ⟨by omega, ?_⟩
                            exact jn196_146 _
                    exact lp_137 _ _ _ _ _ _ (by omega) (Nat.lt_succ_self _)
            · refine ⟨fun h_154 => ?_, fun h_154 => ?_⟩
              · have jn278_156 : ∀ (j_156 : Int), gs_E L (d + 2) 3158 278 [gp_r (some 74), gp_i p0, gp_i p1, gp_i p2, gp_i x_25, gp_i v5_28, gp_i v6_30, gp_i v7_30, gp_i v8_30, gp_i v9_30, v10_30, v11_30, v12_30, v13_30, v14_30, v15_30, v16_30] [gp_i j_156, gp_i x_25, gp_r (some 108)] s_28 K := by
                  intro j_156
                  refine s_3158_278 _ _ _ _ _ _ _ _ _ _ _ _ _ _ _ _ _ _ ?_
                  refine ⟨by omega, ?_⟩
                  intro s_158 e_159
                  have hs_160 : MI s_158 := by rw [e_159]; exact mw108 hs_s_28 _ _
                  have hf_161 : gF [108, 109, 110] [] s s_158 := by rw [e_159]; exact gF.wI hf_s_28 (Or.inl rfl)
                  have q_162 : gp_I s_158 110 0 = gp_I s_28 110 0 := by rw [e_159] <;> rfl
                  have q_163 : gp_I s_158 110 1 = gp_I s_28 110 1 := by rw [e_159] <;> rfl
                  have q_164 : gp_I s_158 110 2 = gp_I s_28 110 2 := by rw [e_159] <;> rfl
                  refine s_3158_301 _ _ _ _ _ _ _ _ _ _ _ _ _ _ _ _ ?_
                  try rw [show gp_wr (v5_28 + 1) = v5_28 + 1 from gp_wr_id (by omega) (by omega)]
                  exact ih_28 _ _ _ _ _ _ _ _ _ _ _ _ _ hs_160 hf_161 (by omega) (by first | rfl | omega) (by first | rfl | omega) (by first | rfl | omega) (by omega)
                refine ⟨fun h_155 => ?_, fun h_155 => ?_⟩
                · exact jn278_156 _
                · exact jn278_156 _
              · have jn300_166 : ∀ (j_166 : Int), gs_E L (d + 2) 3158 300 [gp_r (some 74), gp_i p0, gp_i p1, gp_i p2, gp_i x_25, gp_i v5_28, gp_i v6_30, gp_i v7_30, gp_i v8_30, gp_i v9_30, v10_30, v11_30, v12_30, v13_30, v14_30, v15_30, v16_30] [gp_i j_166, gp_i x_25, gp_r (some 109)] s_28 K := by
                  intro j_166
                  refine s_3158_300 _ _ _ _ _ _ _ _ _ _ _ _ _ _ _ _ _ _ ?_
                  refine ⟨by omega, ?_⟩
                  intro s_168 e_169
                  have hs_170 : MI s_168 := by rw [e_169]; exact mw109 hs_s_28 _ _
                  have hf_171 : gF [108, 109, 110] [] s s_168 := by rw [e_169]; exact gF.wI hf_s_28 (Or.inl rfl)
                  have q_172 : gp_I s_168 110 0 = gp_I s_28 110 0 := by rw [e_169] <;> rfl
                  have q_173 : gp_I s_168 110 1 = gp_I s_28 110 1 := by rw [e_169] <;> rfl
                  have q_174 : gp_I s_168 110 2 = gp_I s_28 110 2 := by rw [e_169] <;> rfl
                  refine s_3158_301 _ _ _ _ _ _ _ _ _ _ _ _ _ _ _ _ ?_
                  try rw [show gp_wr (v5_28 + 1) = v5_28 + 1 from gp_wr_id (by omega) (by omega)]
                  exact ih_28 _ _ _ _ _ _ _ _ _ _ _ _ _ hs_170 hf_171 (by omega) (by first | rfl | omega) (by first | rfl | omega) (by first | rfl | omega) (by omega)
                refine ⟨fun h_165 => ?_, fun h_165 => ?_⟩
                · exact jn300_166 _
                · exact jn300_166 _
        exact lp_30 _ _ _ _ _ _ _ _ _ _ _ _ (by omega) (by omega) (by omega) (Nat.lt_succ_self _)
      · exact k s_28 hs_s_28 hf_s_28
  exact lp_28 _ _ _ _ _ _ _ _ _ _ _ _ _ _ hs_20 hf_21 (by omega) (by first | rfl | omega) (by first | rfl | omega) (by first | rfl | omega) (Nat.lt_succ_self _)
set_option maxRecDepth 100000 in
/-- GatheredPointsModel.works -/
theorem vm_works  {L d : Nat} {K : Option gV → gH → Prop} {s : gH}   (hs : MI s)   (k : ∀ (t : gH), MI t → gF [108, 109, 110] [] s t → K none t) : gs_C L (d + 3) 3156 7 [gp_r (some 74)] s K := by
  refine s_3156_e ?_
  have f_1 := mr106 hs 0
  refine ⟨by omega, ?_⟩
  have f_2 := mr81 hs (Int.toNat (gp_I s 106 0))
  have f_3 := mr74_49 hs
  have jn35_6 : ∀ (j_5 : Int), (0 ≤ j_5 ∧ j_5 ≤ 60) → gs_E L (d + 3) 3156 35 [gp_r (some 74), gp_i (gp_I s 81 (Int.toNat (gp_I s 106 0))), gp_n, gp_n, gp_n, gp_n, gp_n] [gp_i j_5] s K := by
    intro j_5 hj_6
    refine s_3156_35 _ _ _ _ _ _ _ ?_
    have f_8 := mr74_49 hs
    have jn59_11 : ∀ (j_10 : Int), (0 ≤ j_10 ∧ j_10 ≤ 60) → gs_E L (d + 3) 3156 59 [gp_r (some 74), gp_i (gp_I s 81 (Int.toNat (gp_I s 106 0))), gp_i j_5, gp_n, gp_n, gp_n, gp_n] [gp_i j_10] s K := by
      intro j_10 hj_11
      refine s_3156_59 _ _ _ _ _ _ _ ?_
      have lp_13 : ∀ (n_13 : Nat) (v4_13 : Int) (v5_13 : gV) (v6_13 : gV) (s_13 : gH), (MI s_13) → (gF [108, 109, 110] [] s s_13) → (0 ≤ v4_13 ∧ v4_13 ≤ 60) → (61 - v4_13).toNat < n_13 → gs_E L (d + 3) 3156 63 [gp_r (some 74), gp_i (gp_I s 81 (Int.toNat (gp_I s 106 0))), gp_i j_5, gp_i j_10, gp_i v4_13, v5_13, v6_13] [] s_13 K := by
        intro n_13
        induction n_13 with
        | zero => intro v4_13 v5_13 v6_13 s_13 hs_s_13 hf_s_13 hv4_13 hm_13; exact absurd hm_13 (Nat.not_lt_zero _)
        | succ n_13 ih_13 =>
          intro v4_13 v5_13 v6_13 s_13 hs_s_13 hf_s_13 hv4_13 hm_13
          refine s_3156_63 _ _ _ _ _ _ ?_
          refine ⟨fun h_14 => ?_, fun h_14 => ?_⟩
          · have lp_15 : ∀ (n_15 : Nat) (v5_15 : Int) (v6_15 : gV) (s_15 : gH), (MI s_15) → (gF [108, 109, 110] [] s s_15) → (0 ≤ v5_15 ∧ v5_15 ≤ 60) → (61 - v5_15).toNat < n_15 → gs_E L (d + 3) 3156 72 [gp_r (some 74), gp_i (gp_I s 81 (Int.toNat (gp_I s 106 0))), gp_i j_5, gp_i j_10, gp_i v4_13, gp_i v5_15, v6_15] [] s_15 K := by
              intro n_15
              induction n_15 with
              | zero => intro v5_15 v6_15 s_15 hs_s_15 hf_s_15 hv5_15 hm_15; exact absurd hm_15 (Nat.not_lt_zero _)
              | succ n_15 ih_15 =>
                intro v5_15 v6_15 s_15 hs_s_15 hf_s_15 hv5_15 hm_15
                refine s_3156_72 _ _ _ _ _ _ ?_
                refine ⟨fun h_16 => ?_, fun h_16 => ?_⟩
                · have lp_17 : ∀ (n_17 : Nat) (v6_17 : Int) (s_17 : gH), (MI s_17) → (gF [108, 109, 110] [] s s_17) → (0 ≤ v6_17 ∧ v6_17 ≤ 60) → (61 - v6_17).toNat < n_17 → gs_E L (d + 3) 3156 81 [gp_r (some 74), gp_i (gp_I s 81 (Int.toNat (gp_I s 106 0))), gp_i j_5, gp_i j_10, gp_i v4_13, gp_i v5_15, gp_i v6_17] [] s_17 K := by
                    intro n_17
                    induction n_17 with
                    | zero => intro v6_17 s_17 hs_s_17 hf_s_17 hv6_17 hm_17; exact absurd hm_17 (Nat.not_lt_zero _)
                    | succ n_17 ih_17 =>
                      intro v6_17 s_17 hs_s_17 hf_s_17 hv6_17 hm_17
                      refine s_3156_81 _ _ _ _ _ _ ?_
                      refine ⟨fun h_18 => ?_, fun h_18 => ?_⟩
                      · refine vm_worksAt _ _ _ hs_s_17 (by omega) (by omega) (by omega) (fun s_19 hs_20 hf_21 => ⟨rfl, ?_⟩)
                        have hf_22 : gF [108, 109, 110] [] s s_19 := gF.trans hf_s_17 hf_21 rfl rfl
                        try rw [show gp_wr (v6_17 + 1) = v6_17 + 1 from gp_wr_id (by omega) (by omega)]
                        exact ih_17 _ _ hs_20 hf_22 (by omega) (by omega)
                      · try rw [show gp_wr (v5_15 + 1) = v5_15 + 1 from gp_wr_id (by omega) (by omega)]
                        exact ih_15 _ _ _ hs_s_17 hf_s_17 (by omega) (by omega)
                  exact lp_17 _ _ _ hs_s_15 hf_s_15 (by omega) (Nat.lt_succ_self _)
                · try rw [show gp_wr (v4_13 + 1) = v4_13 + 1 from gp_wr_id (by omega) (by omega)]
                  exact ih_13 _ _ _ _ hs_s_15 hf_s_15 (by omega) (by omega)
            exact lp_15 _ _ _ _ hs_s_13 hf_s_13 (by omega) (Nat.lt_succ_self _)
          · exact k s_13 hs_s_13 hf_s_13
      exact lp_13 _ _ _ _ _ hs (gF.refl _ _ _) (by omega) (Nat.lt_succ_self _)
    refine ⟨fun h_9 => ?_, fun h_9 => ?_⟩
    · have f_23 := mr106 hs 2
      refine ⟨by omega, ?_⟩
      have f_24 := mr81 hs (Int.toNat (gp_I s 106 2))
      exact jn59_11 _ (by omega)
    · exact jn59_11 _ (by omega)
  refine ⟨fun h_4 => ?_, fun h_4 => ?_⟩
  · have f_25 := mr106 hs 1
    refine ⟨by omega, ?_⟩
    have f_26 := mr81 hs (Int.toNat (gp_I s 106 1))
    exact jn35_6 _ (by omega)
  · exact jn35_6 _ (by omega)
