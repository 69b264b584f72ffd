set_option maxRecDepth 100000 in
/-- java/lang/Integer.numberOfTrailingZeros -/
theorem vm_ntzI  {L d : Nat} {K : Option gV → gH → Prop} {s : gH}  (p0 : Int)  (h_p0 : (-2147483648) ≤ p0 ∧ p0 ≤ 2147483647)  (k : ∀ (r : Int), (0 ≤ r ∧ r ≤ 32) → (p0 ≠ 0 → r ≤ 31) → K (some (gp_i r)) s) : gs_C L d 3329 2 [gp_i p0] s K := by
  refine s_3329_e _ ?_
  have h0 := ntz0 p0 (by omega)
  have w_1 := gz_xorx (p0) ((-1))
  have w_2 := wr_rng (p0 - 1)
  have w_3 := gz_andx (gp_xor p0 (-1)) (gp_wr (p0 - 1))
  refine ⟨fun h_4 => ?_, fun h_4 => ?_⟩
  · refine ⟨fun h_5 => ?_, fun h_5 => ?_⟩
    · try rw [show gp_wr (1 + 16) = 1 + 16 from gp_wr_id (by omega) (by omega)]
      have w_6 : gp_ushr (gp_and (gp_xor p0 (-1)) (gp_wr (p0 - 1))) 16 = (gp_and (gp_xor p0 (-1)) (gp_wr (p0 - 1))) / 65536 := gz_ush (gp_and (gp_xor p0 (-1)) (gp_wr (p0 - 1))) 16 65536 (by decide) (by omega) (by decide)
      refine s_3329_34 _ _ ?_
      refine ⟨fun h_7 => ?_, fun h_7 => ?_⟩
      · try rw [show gp_wr ((1 + 16) + 8) = (1 + 16) + 8 from gp_wr_id (by omega) (by omega)]
        have w_8 : gp_ushr (gp_ushr (gp_and (gp_xor p0 (-1)) (gp_wr (p0 - 1))) 16) 8 = (gp_ushr (gp_and (gp_xor p0 (-1)) (gp_wr (p0 - 1))) 16) / 256 := gz_ush (gp_ushr (gp_and (gp_xor p0 (-1)) (gp_wr (p0 - 1))) 16) 8 256 (by decide) (by omega) (by decide)
        refine s_3329_49 _ _ ?_
        refine ⟨fun h_9 => ?_, fun h_9 => ?_⟩
        · try rw [show gp_wr (((1 + 16) + 8) + 4) = ((1 + 16) + 8) + 4 from gp_wr_id (by omega) (by omega)]
          have w_10 : gp_ushr (gp_ushr (gp_ushr (gp_and (gp_xor p0 (-1)) (gp_wr (p0 - 1))) 16) 8) 4 = (gp_ushr (gp_ushr (gp_and (gp_xor p0 (-1)) (gp_wr (p0 - 1))) 16) 8) / 16 := gz_ush (gp_ushr (gp_ushr (gp_and (gp_xor p0 (-1)) (gp_wr (p0 - 1))) 16) 8) 4 16 (by decide) (by omega) (by decide)
          refine s_3329_62 _ _ ?_
          refine ⟨fun h_11 => ?_, fun h_11 => ?_⟩
          · try rw [show gp_wr ((((1 + 16) + 8) + 4) + 2) = (((1 + 16) + 8) + 4) + 2 from gp_wr_id (by omega) (by omega)]
            have w_12 : gp_ushr (gp_ushr (gp_ushr (gp_ushr (gp_and (gp_xor p0 (-1)) (gp_wr (p0 - 1))) 16) 8) 4) 2 = (gp_ushr (gp_ushr (gp_ushr (gp_and (gp_xor p0 (-1)) (gp_wr (p0 - 1))) 16) 8) 4) / 4 := gz_ush (gp_ushr (gp_ushr (gp_ushr (gp_and (gp_xor p0 (-1)) (gp_wr (p0 - 1))) 16) 8) 4) 2 4 (by decide) (by omega) (by decide)
            refine s_3329_74 _ _ ?_
            have w_13 : gp_ushr (gp_ushr (gp_ushr (gp_ushr (gp_ushr (gp_and (gp_xor p0 (-1)) (gp_wr (p0 - 1))) 16) 8) 4) 2) 1 = (gp_ushr (gp_ushr (gp_ushr (gp_ushr (gp_and (gp_xor p0 (-1)) (gp_wr (p0 - 1))) 16) 8) 4) 2) / 2 := gz_ush (gp_ushr (gp_ushr (gp_ushr (gp_ushr (gp_and (gp_xor p0 (-1)) (gp_wr (p0 - 1))) 16) 8) 4) 2) 1 2 (by decide) (by omega) (by decide)
            try rw [show gp_wr (((((1 + 16) + 8) + 4) + 2) + (gp_ushr (gp_ushr (gp_ushr (gp_ushr (gp_ushr (gp_and (gp_xor p0 (-1)) (gp_wr (p0 - 1))) 16) 8) 4) 2) 1)) = ((((1 + 16) + 8) + 4) + 2) + (gp_ushr (gp_ushr (gp_ushr (gp_ushr (gp_ushr (gp_and (gp_xor p0 (-1)) (gp_wr (p0 - 1))) 16) 8) 4) 2) 1) from gp_wr_id (by omega) (by omega)]
            exact k _ (by omega) (by first | omega | assumption)
          · refine s_3329_74 _ _ ?_
            have w_14 : gp_ushr (gp_ushr (gp_ushr (gp_ushr (gp_and (gp_xor p0 (-1)) (gp_wr (p0 - 1))) 16) 8) 4) 1 = (gp_ushr (gp_ushr (gp_ushr (gp_and (gp_xor p0 (-1)) (gp_wr (p0 - 1))) 16) 8) 4) / 2 := gz_ush (gp_ushr (gp_ushr (gp_ushr (gp_and (gp_xor p0 (-1)) (gp_wr (p0 - 1))) 16) 8) 4) 1 2 (by decide) (by omega) (by decide)
            try rw [show gp_wr ((((1 + 16) + 8) + 4) + (gp_ushr (gp_ushr (gp_ushr (gp_ushr (gp_and (gp_xor p0 (-1)) (gp_wr (p0 - 1))) 16) 8) 4) 1)) = (((1 + 16) + 8) + 4) + (gp_ushr (gp_ushr (gp_ushr (gp_ushr (gp_and (gp_xor p0 (-1)) (gp_wr (p0 - 1))) 16) 8) 4) 1) from gp_wr_id (by omega) (by omega)]
            exact k _ (by omega) (by first | omega | assumption)
        · refine s_3329_62 _ _ ?_
          refine ⟨fun h_15 => ?_, fun h_15 => ?_⟩
          · try rw [show gp_wr (((1 + 16) + 8) + 2) = ((1 + 16) + 8) + 2 from gp_wr_id (by omega) (by omega)]
            have w_16 : gp_ushr (gp_ushr (gp_ushr (gp_and (gp_xor p0 (-1)) (gp_wr (p0 - 1))) 16) 8) 2 = (gp_ushr (gp_ushr (gp_and (gp_xor p0 (-1)) (gp_wr (p0 - 1))) 16) 8) / 4 := gz_ush (gp_ushr (gp_ushr (gp_and (gp_xor p0 (-1)) (gp_wr (p0 - 1))) 16) 8) 2 4 (by decide) (by omega) (by decide)
            refine s_3329_74 _ _ ?_
            have w_17 : gp_ushr (gp_ushr (gp_ushr (gp_ushr (gp_and (gp_xor p0 (-1)) (gp_wr (p0 - 1))) 16) 8) 2) 1 = (gp_ushr (gp_ushr (gp_ushr (gp_and (gp_xor p0 (-1)) (gp_wr (p0 - 1))) 16) 8) 2) / 2 := gz_ush (gp_ushr (gp_ushr (gp_ushr (gp_and (gp_xor p0 (-1)) (gp_wr (p0 - 1))) 16) 8) 2) 1 2 (by decide) (by omega) (by decide)
            try rw [show gp_wr ((((1 + 16) + 8) + 2) + (gp_ushr (gp_ushr (gp_ushr (gp_ushr (gp_and (gp_xor p0 (-1)) (gp_wr (p0 - 1))) 16) 8) 2) 1)) = (((1 + 16) + 8) + 2) + (gp_ushr (gp_ushr (gp_ushr (gp_ushr (gp_and (gp_xor p0 (-1)) (gp_wr (p0 - 1))) 16) 8) 2) 1) from gp_wr_id (by omega) (by omega)]
            exact k _ (by omega) (by first | omega | assumption)
          · refine s_3329_74 _ _ ?_
            have w_18 : gp_ushr (gp_ushr (gp_ushr (gp_and (gp_xor p0 (-1)) (gp_wr (p0 - 1))) 16) 8) 1 = (gp_ushr (gp_ushr (gp_and (gp_xor p0 (-1)) (gp_wr (p0 - 1))) 16) 8) / 2 := gz_ush (gp_ushr (gp_ushr (gp_and (gp_xor p0 (-1)) (gp_wr (p0 - 1))) 16) 8) 1 2 (by decide) (by omega) (by decide)
            try rw [show gp_wr (((1 + 16) + 8) + (gp_ushr (gp_ushr (gp_ushr (gp_and (gp_xor p0 (-1)) (gp_wr (p0 - 1))) 16) 8) 1)) = ((1 + 16) + 8) + (gp_ushr (gp_ushr (gp_ushr (gp_and (gp_xor p0 (-1)) (gp_wr (p0 - 1))) 16) 8) 1) from gp_wr_id (by omega) (by omega)]
            exact k _ (by omega) (by first | omega | assumption)
      · refine s_3329_49 _ _ ?_
        refine ⟨fun h_19 => ?_, fun h_19 => ?_⟩
        · try rw [show gp_wr ((1 + 16) + 4) = (1 + 16) + 4 from gp_wr_id (by omega) (by omega)]
          have w_20 : gp_ushr (gp_ushr (gp_and (gp_xor p0 (-1)) (gp_wr (p0 - 1))) 16) 4 = (gp_ushr (gp_and (gp_xor p0 (-1)) (gp_wr (p0 - 1))) 16) / 16 := gz_ush (gp_ushr (gp_and (gp_xor p0 (-1)) (gp_wr (p0 - 1))) 16) 4 16 (by decide) (by omega) (by decide)
          refine s_3329_62 _ _ ?_
          refine ⟨fun h_21 => ?_, fun h_21 => ?_⟩
          · try rw [show gp_wr (((1 + 16) + 4) + 2) = ((1 + 16) + 4) + 2 from gp_wr_id (by omega) (by omega)]
            have w_22 : gp_ushr (gp_ushr (gp_ushr (gp_and (gp_xor p0 (-1)) (gp_wr (p0 - 1))) 16) 4) 2 = (gp_ushr (gp_ushr (gp_and (gp_xor p0 (-1)) (gp_wr (p0 - 1))) 16) 4) / 4 := gz_ush (gp_ushr (gp_ushr (gp_and (gp_xor p0 (-1)) (gp_wr (p0 - 1))) 16) 4) 2 4 (by decide) (by omega) (by decide)
            refine s_3329_74 _ _ ?_
            have w_23 : gp_ushr (gp_ushr (gp_ushr (gp_ushr (gp_and (gp_xor p0 (-1)) (gp_wr (p0 - 1))) 16) 4) 2) 1 = (gp_ushr (gp_ushr (gp_ushr (gp_and (gp_xor p0 (-1)) (gp_wr (p0 - 1))) 16) 4) 2) / 2 := gz_ush (gp_ushr (gp_ushr (gp_ushr (gp_and (gp_xor p0 (-1)) (gp_wr (p0 - 1))) 16) 4) 2) 1 2 (by decide) (by omega) (by decide)
            try rw [show gp_wr ((((1 + 16) + 4) + 2) + (gp_ushr (gp_ushr (gp_ushr (gp_ushr (gp_and (gp_xor p0 (-1)) (gp_wr (p0 - 1))) 16) 4) 2) 1)) = (((1 + 16) + 4) + 2) + (gp_ushr (gp_ushr (gp_ushr (gp_ushr (gp_and (gp_xor p0 (-1)) (gp_wr (p0 - 1))) 16) 4) 2) 1) from gp_wr_id (by omega) (by omega)]
            exact k _ (by omega) (by first | omega | assumption)
          · refine s_3329_74 _ _ ?_
            have w_24 : gp_ushr (gp_ushr (gp_ushr (gp_and (gp_xor p0 (-1)) (gp_wr (p0 - 1))) 16) 4) 1 = (gp_ushr (gp_ushr (gp_and (gp_xor p0 (-1)) (gp_wr (p0 - 1))) 16) 4) / 2 := gz_ush (gp_ushr (gp_ushr (gp_and (gp_xor p0 (-1)) (gp_wr (p0 - 1))) 16) 4) 1 2 (by decide) (by omega) (by decide)
            try rw [show gp_wr (((1 + 16) + 4) + (gp_ushr (gp_ushr (gp_ushr (gp_and (gp_xor p0 (-1)) (gp_wr (p0 - 1))) 16) 4) 1)) = ((1 + 16) + 4) + (gp_ushr (gp_ushr (gp_ushr (gp_and (gp_xor p0 (-1)) (gp_wr (p0 - 1))) 16) 4) 1) from gp_wr_id (by omega) (by omega)]
            exact k _ (by omega) (by first | omega | assumption)
        · refine s_3329_62 _ _ ?_
          refine ⟨fun h_25 => ?_, fun h_25 => ?_⟩
          · try rw [show gp_wr ((1 + 16) + 2) = (1 + 16) + 2 from gp_wr_id (by omega) (by omega)]
            have w_26 : gp_ushr (gp_ushr (gp_and (gp_xor p0 (-1)) (gp_wr (p0 - 1))) 16) 2 = (gp_ushr (gp_and (gp_xor p0 (-1)) (gp_wr (p0 - 1))) 16) / 4 := gz_ush (gp_ushr (gp_and (gp_xor p0 (-1)) (gp_wr (p0 - 1))) 16) 2 4 (by decide) (by omega) (by decide)
            refine s_3329_74 _ _ ?_
            have w_27 : gp_ushr (gp_ushr (gp_ushr (gp_and (gp_xor p0 (-1)) (gp_wr (p0 - 1))) 16) 2) 1 = (gp_ushr (gp_ushr (gp_and (gp_xor p0 (-1)) (gp_wr (p0 - 1))) 16) 2) / 2 := gz_ush (gp_ushr (gp_ushr (gp_and (gp_xor p0 (-1)) (gp_wr (p0 - 1))) 16) 2) 1 2 (by decide) (by omega) (by decide)
            try rw [show gp_wr (((1 + 16) + 2) + (gp_ushr (gp_ushr (gp_ushr (gp_and (gp_xor p0 (-1)) (gp_wr (p0 - 1))) 16) 2) 1)) = ((1 + 16) + 2) + (gp_ushr (gp_ushr (gp_ushr (gp_and (gp_xor p0 (-1)) (gp_wr (p0 - 1))) 16) 2) 1) from gp_wr_id (by omega) (by omega)]
            exact k _ (by omega) (by first | omega | assumption)
          · refine s_3329_74 _ _ ?_
            have w_28 : gp_ushr (gp_ushr (gp_and (gp_xor p0 (-1)) (gp_wr (p0 - 1))) 16) 1 = (gp_ushr (gp_and (gp_xor p0 (-1)) (gp_wr (p0 - 1))) 16) / 2 := gz_ush (gp_ushr (gp_and (gp_xor p0 (-1)) (gp_wr (p0 - 1))) 16) 1 2 (by decide) (by omega) (by decide)
            try rw [show gp_wr ((1 + 16) + (gp_ushr (gp_ushr (gp_and (gp_xor p0 (-1)) (gp_wr (p0 - 1))) 16) 1)) = (1 + 16) + (gp_ushr (gp_ushr (gp_and (gp_xor p0 (-1)) (gp_wr (p0 - 1))) 16) 1) from gp_wr_id (by omega) (by omega)]
            exact k _ (by omega) (by first | omega | assumption)
    · refine s_3329_34 _ _ ?_
      refine ⟨fun h_29 => ?_, fun h_29 => ?_⟩
      · try rw [show gp_wr (1 + 8) = 1 + 8 from gp_wr_id (by omega) (by omega)]
        have w_30 : gp_ushr (gp_and (gp_xor p0 (-1)) (gp_wr (p0 - 1))) 8 = (gp_and (gp_xor p0 (-1)) (gp_wr (p0 - 1))) / 256 := gz_ush (gp_and (gp_xor p0 (-1)) (gp_wr (p0 - 1))) 8 256 (by decide) (by omega) (by decide)
        refine s_3329_49 _ _ ?_
        refine ⟨fun h_31 => ?_, fun h_31 => ?_⟩
        · try rw [show gp_wr ((1 + 8) + 4) = (1 + 8) + 4 from gp_wr_id (by omega) (by omega)]
          have w_32 : gp_ushr (gp_ushr (gp_and (gp_xor p0 (-1)) (gp_wr (p0 - 1))) 8) 4 = (gp_ushr (gp_and (gp_xor p0 (-1)) (gp_wr (p0 - 1))) 8) / 16 := gz_ush (gp_ushr (gp_and (gp_xor p0 (-1)) (gp_wr (p0 - 1))) 8) 4 16 (by decide) (by omega) (by decide)
          refine s_3329_62 _ _ ?_
          refine ⟨fun h_33 => ?_, fun h_33 => ?_⟩
          · try rw [show gp_wr (((1 + 8) + 4) + 2) = ((1 + 8) + 4) + 2 from gp_wr_id (by omega) (by omega)]
            have w_34 : gp_ushr (gp_ushr (gp_ushr (gp_and (gp_xor p0 (-1)) (gp_wr (p0 - 1))) 8) 4) 2 = (gp_ushr (gp_ushr (gp_and (gp_xor p0 (-1)) (gp_wr (p0 - 1))) 8) 4) / 4 := gz_ush (gp_ushr (gp_ushr (gp_and (gp_xor p0 (-1)) (gp_wr (p0 - 1))) 8) 4) 2 4 (by decide) (by omega) (by decide)
            refine s_3329_74 _ _ ?_
            have w_35 : gp_ushr (gp_ushr (gp_ushr (gp_ushr (gp_and (gp_xor p0 (-1)) (gp_wr (p0 - 1))) 8) 4) 2) 1 = (gp_ushr (gp_ushr (gp_ushr (gp_and (gp_xor p0 (-1)) (gp_wr (p0 - 1))) 8) 4) 2) / 2 := gz_ush (gp_ushr (gp_ushr (gp_ushr (gp_and (gp_xor p0 (-1)) (gp_wr (p0 - 1))) 8) 4) 2) 1 2 (by decide) (by omega) (by decide)
            try rw [show gp_wr ((((1 + 8) + 4) + 2) + (gp_ushr (gp_ushr (gp_ushr (gp_ushr (gp_and (gp_xor p0 (-1)) (gp_wr (p0 - 1))) 8) 4) 2) 1)) = (((1 + 8) + 4) + 2) + (gp_ushr (gp_ushr (gp_ushr (gp_ushr (gp_and (gp_xor p0 (-1)) (gp_wr (p0 - 1))) 8) 4) 2) 1) from gp_wr_id (by omega) (by omega)]
            exact k _ (by omega) (by first | omega | assumption)
          · refine s_3329_74 _ _ ?_
            have w_36 : gp_ushr (gp_ushr (gp_ushr (gp_and (gp_xor p0 (-1)) (gp_wr (p0 - 1))) 8) 4) 1 = (gp_ushr (gp_ushr (gp_and (gp_xor p0 (-1)) (gp_wr (p0 - 1))) 8) 4) / 2 := gz_ush (gp_ushr (gp_ushr (gp_and (gp_xor p0 (-1)) (gp_wr (p0 - 1))) 8) 4) 1 2 (by decide) (by omega) (by decide)
            try rw [show gp_wr (((1 + 8) + 4) + (gp_ushr (gp_ushr (gp_ushr (gp_and (gp_xor p0 (-1)) (gp_wr (p0 - 1))) 8) 4) 1)) = ((1 + 8) + 4) + (gp_ushr (gp_ushr (gp_ushr (gp_and (gp_xor p0 (-1)) (gp_wr (p0 - 1))) 8) 4) 1) from gp_wr_id (by omega) (by omega)]
            exact k _ (by omega) (by first | omega | assumption)
        · refine s_3329_62 _ _ ?_
          refine ⟨fun h_37 => ?_, fun h_37 => ?_⟩
          · try rw [show gp_wr ((1 + 8) + 2) = (1 + 8) + 2 from gp_wr_id (by omega) (by omega)]
            have w_38 : gp_ushr (gp_ushr (gp_and (gp_xor p0 (-1)) (gp_wr (p0 - 1))) 8) 2 = (gp_ushr (gp_and (gp_xor p0 (-1)) (gp_wr (p0 - 1))) 8) / 4 := gz_ush (gp_ushr (gp_and (gp_xor p0 (-1)) (gp_wr (p0 - 1))) 8) 2 4 (by decide) (by omega) (by decide)
            refine s_3329_74 _ _ ?_
            have w_39 : gp_ushr (gp_ushr (gp_ushr (gp_and (gp_xor p0 (-1)) (gp_wr (p0 - 1))) 8) 2) 1 = (gp_ushr (gp_ushr (gp_and (gp_xor p0 (-1)) (gp_wr (p0 - 1))) 8) 2) / 2 := gz_ush (gp_ushr (gp_ushr (gp_and (gp_xor p0 (-1)) (gp_wr (p0 - 1))) 8) 2) 1 2 (by decide) (by omega) (by decide)
            try rw [show gp_wr (((1 + 8) + 2) + (gp_ushr (gp_ushr (gp_ushr (gp_and (gp_xor p0 (-1)) (gp_wr (p0 - 1))) 8) 2) 1)) = ((1 + 8) + 2) + (gp_ushr (gp_ushr (gp_ushr (gp_and (gp_xor p0 (-1)) (gp_wr (p0 - 1))) 8) 2) 1) from gp_wr_id (by omega) (by omega)]
            exact k _ (by omega) (by first | omega | assumption)
          · refine s_3329_74 _ _ ?_
            have w_40 : gp_ushr (gp_ushr (gp_and (gp_xor p0 (-1)) (gp_wr (p0 - 1))) 8) 1 = (gp_ushr (gp_and (gp_xor p0 (-1)) (gp_wr (p0 - 1))) 8) / 2 := gz_ush (gp_ushr (gp_and (gp_xor p0 (-1)) (gp_wr (p0 - 1))) 8) 1 2 (by decide) (by omega) (by decide)
            try rw [show gp_wr ((1 + 8) + (gp_ushr (gp_ushr (gp_and (gp_xor p0 (-1)) (gp_wr (p0 - 1))) 8) 1)) = (1 + 8) + (gp_ushr (gp_ushr (gp_and (gp_xor p0 (-1)) (gp_wr (p0 - 1))) 8) 1) from gp_wr_id (by omega) (by omega)]
            exact k _ (by omega) (by first | omega | assumption)
      · refine s_3329_49 _ _ ?_
        refine ⟨fun h_41 => ?_, fun h_41 => ?_⟩
        · try rw [show gp_wr (1 + 4) = 1 + 4 from gp_wr_id (by omega) (by omega)]
          have w_42 : gp_ushr (gp_and (gp_xor p0 (-1)) (gp_wr (p0 - 1))) 4 = (gp_and (gp_xor p0 (-1)) (gp_wr (p0 - 1))) / 16 := gz_ush (gp_and (gp_xor p0 (-1)) (gp_wr (p0 - 1))) 4 16 (by decide) (by omega) (by decide)
          refine s_3329_62 _ _ ?_
          refine ⟨fun h_43 => ?_, fun h_43 => ?_⟩
          · try rw [show gp_wr ((1 + 4) + 2) = (1 + 4) + 2 from gp_wr_id (by omega) (by omega)]
            have w_44 : gp_ushr (gp_ushr (gp_and (gp_xor p0 (-1)) (gp_wr (p0 - 1))) 4) 2 = (gp_ushr (gp_and (gp_xor p0 (-1)) (gp_wr (p0 - 1))) 4) / 4 := gz_ush (gp_ushr (gp_and (gp_xor p0 (-1)) (gp_wr (p0 - 1))) 4) 2 4 (by decide) (by omega) (by decide)
            refine s_3329_74 _ _ ?_
            have w_45 : gp_ushr (gp_ushr (gp_ushr (gp_and (gp_xor p0 (-1)) (gp_wr (p0 - 1))) 4) 2) 1 = (gp_ushr (gp_ushr (gp_and (gp_xor p0 (-1)) (gp_wr (p0 - 1))) 4) 2) / 2 := gz_ush (gp_ushr (gp_ushr (gp_and (gp_xor p0 (-1)) (gp_wr (p0 - 1))) 4) 2) 1 2 (by decide) (by omega) (by decide)
            try rw [show gp_wr (((1 + 4) + 2) + (gp_ushr (gp_ushr (gp_ushr (gp_and (gp_xor p0 (-1)) (gp_wr (p0 - 1))) 4) 2) 1)) = ((1 + 4) + 2) + (gp_ushr (gp_ushr (gp_ushr (gp_and (gp_xor p0 (-1)) (gp_wr (p0 - 1))) 4) 2) 1) from gp_wr_id (by omega) (by omega)]
            exact k _ (by omega) (by first | omega | assumption)
          · refine s_3329_74 _ _ ?_
            have w_46 : gp_ushr (gp_ushr (gp_and (gp_xor p0 (-1)) (gp_wr (p0 - 1))) 4) 1 = (gp_ushr (gp_and (gp_xor p0 (-1)) (gp_wr (p0 - 1))) 4) / 2 := gz_ush (gp_ushr (gp_and (gp_xor p0 (-1)) (gp_wr (p0 - 1))) 4) 1 2 (by decide) (by omega) (by decide)
            try rw [show gp_wr ((1 + 4) + (gp_ushr (gp_ushr (gp_and (gp_xor p0 (-1)) (gp_wr (p0 - 1))) 4) 1)) = (1 + 4) + (gp_ushr (gp_ushr (gp_and (gp_xor p0 (-1)) (gp_wr (p0 - 1))) 4) 1) from gp_wr_id (by omega) (by omega)]
            exact k _ (by omega) (by first | omega | assumption)
        · refine s_3329_62 _ _ ?_
          refine ⟨fun h_47 => ?_, fun h_47 => ?_⟩
          · try rw [show gp_wr (1 + 2) = 1 + 2 from gp_wr_id (by omega) (by omega)]
            have w_48 : gp_ushr (gp_and (gp_xor p0 (-1)) (gp_wr (p0 - 1))) 2 = (gp_and (gp_xor p0 (-1)) (gp_wr (p0 - 1))) / 4 := gz_ush (gp_and (gp_xor p0 (-1)) (gp_wr (p0 - 1))) 2 4 (by decide) (by omega) (by decide)
            refine s_3329_74 _ _ ?_
            have w_49 : gp_ushr (gp_ushr (gp_and (gp_xor p0 (-1)) (gp_wr (p0 - 1))) 2) 1 = (gp_ushr (gp_and (gp_xor p0 (-1)) (gp_wr (p0 - 1))) 2) / 2 := gz_ush (gp_ushr (gp_and (gp_xor p0 (-1)) (gp_wr (p0 - 1))) 2) 1 2 (by decide) (by omega) (by decide)
            try rw [show gp_wr ((1 + 2) + (gp_ushr (gp_ushr (gp_and (gp_xor p0 (-1)) (gp_wr (p0 - 1))) 2) 1)) = (1 + 2) + (gp_ushr (gp_ushr (gp_and (gp_xor p0 (-1)) (gp_wr (p0 - 1))) 2) 1) from gp_wr_id (by omega) (by omega)]
            exact k _ (by omega) (by first | omega | assumption)
          · refine s_3329_74 _ _ ?_
            have w_50 : gp_ushr (gp_and (gp_xor p0 (-1)) (gp_wr (p0 - 1))) 1 = (gp_and (gp_xor p0 (-1)) (gp_wr (p0 - 1))) / 2 := gz_ush (gp_and (gp_xor p0 (-1)) (gp_wr (p0 - 1))) 1 2 (by decide) (by omega) (by decide)
            try rw [show gp_wr (1 + (gp_ushr (gp_and (gp_xor p0 (-1)) (gp_wr (p0 - 1))) 1)) = 1 + (gp_ushr (gp_and (gp_xor p0 (-1)) (gp_wr (p0 - 1))) 1) from gp_wr_id (by omega) (by omega)]
            exact k _ (by omega) (by first | omega | assumption)
  · have w_51 := gz_and (gp_and (gp_xor p0 (-1)) (gp_wr (p0 - 1))) 32 (by decide)
    have h1 := and0 (gp_and (gp_xor p0 (-1)) (gp_wr (p0 - 1))) 32
    exact k _ (by omega) (by first | omega | assumption)
set_option maxRecDepth 100000 in
/-- java/lang/Long.numberOfTrailingZeros -/
theorem vm_ntz  {L d : Nat} {K : Option gV → gH → Prop} {s : gH}  (p0 : BitVec 64)    (k : ∀ (r : Int), (0 ≤ r ∧ r ≤ 64) → (¬ p0 = 0#64 → r ≤ 63) → K (some (gp_i r)) s) : gs_C L (d + 1) 3584 3 [gp_l p0] s K := by
  refine s_3584_e _ ?_
  have w_1 := wr_rng (p0.toInt)
  refine ⟨fun h_2 => ?_, fun h_2 => ?_⟩
  · have w_3 := wr_rng ((p0 >>> 32).toInt)
    refine vm_ntzI _ (by omega) (fun x_4 p_5 p_6 => ⟨_, rfl, ?_⟩)
    try rw [show gp_wr (32 + x_4) = 32 + x_4 from gp_wr_id (by omega) (by omega)]
    refine s_3584_25 _ _ _ ?_
    exact k _ (by omega) (fun h => by have hz : gp_wr p0.toInt = 0 → ¬ gp_wr (p0 >>> 32).toInt = 0 := fun a b => h (ntz_hl p0 a b); omega)
  · refine vm_ntzI _ (by omega) (fun x_7 p_8 p_9 => ⟨_, rfl, ?_⟩)
    refine s_3584_25 _ _ _ ?_
    exact k _ (by omega) (fun h => by have hz : gp_wr p0.toInt = 0 → ¬ gp_wr (p0 >>> 32).toInt = 0 := fun a b => h (ntz_hl p0 a b); omega)
set_option maxRecDepth 100000 in
/-- GatheredPointsModel.code -/
theorem vm_code  {L d : Nat} {K : Option gV → gH → Prop} {s : gH}  (p0 : Int) (p1 : Int) (p2 : Int)  (h_p0 : 0 ≤ p0 ∧ p0 ≤ 63) (h_p1 : 0 ≤ p1 ∧ p1 ≤ 63) (h_p2 : 0 ≤ p2 ∧ p2 ≤ 63)  (k : ∀ (r : Int), (0 ≤ r ∧ r ≤ 262143) → (r = 4096 * p0 + 64 * p1 + p2) → K (some (gp_i r)) s) : gs_C L d 3157 3 [gp_i p0, gp_i p1, gp_i p2] s K := by
  refine s_3157_e _ _ _ ?_
  try rw [show gp_wr (4096 * p0) = 4096 * p0 from gp_wr_id (by omega) (by omega)]
  try rw [show gp_wr (64 * p1) = 64 * p1 from gp_wr_id (by omega) (by omega)]
  try rw [show gp_wr ((4096 * p0) + (64 * p1)) = (4096 * p0) + (64 * p1) from gp_wr_id (by omega) (by omega)]
  try rw [show gp_wr (((4096 * p0) + (64 * p1)) + p2) = ((4096 * p0) + (64 * p1)) + p2 from gp_wr_id (by omega) (by omega)]
  exact k _ (by omega) (by first | omega | assumption)
set_option maxRecDepth 100000 in
/-- GatheredPointsModel.worksAt -/
theorem vm_worksAt  {L d : Nat} {K : Option gV → gH → Prop} {s : gH}  (p0 : Int) (p1 : Int) (p2 : Int) (hs : MI s) (h_p0 : 0 ≤ p0 ∧ p0 ≤ 63) (h_p1 : 0 ≤ p1 ∧ p1 ≤ 63) (h_p2 : 0 ≤ p2 ∧ p2 ≤ 63)  (k : ∀ (t : gH), MI t → gF [108, 109, 110] [] s t → K none t) : gs_C L (d + 2) 3158 17 [gp_r (some 74), gp_i p0, gp_i p1, gp_i p2] s K := by
  have f_1 := mr110 hs 0
  have f_2 := mr110 hs 1
  have f_3 := mr110 hs 2
  refine s_3158_e _ _ _ ?_
  intro s_4 e_5
  have hs_6 : MI s_4 := by rw [e_5]; exact mw110 hs _ _ (by omega)
  have hf_7 : gF [108, 109, 110] [] s s_4 := by rw [e_5]; exact gF.wI (gF.refl _ _ _) (Or.inl rfl)
  have q_8 : gp_I s_4 110 0 = p0 := by rw [e_5]; exact (gz_rw _ _ _ _ _).1 rfl
  have q_9 : gp_I s_4 110 1 = gp_I s 110 1 := by rw [e_5] <;> rfl
  have q_10 : gp_I s_4 110 2 = gp_I s 110 2 := by rw [e_5] <;> rfl
  intro s_11 e_12
  have hs_13 : MI s_11 := by rw [e_12]; exact mw110 hs_6 _ _ (by omega)
  have hf_14 : gF [108, 109, 110] [] s s_11 := by rw [e_12]; exact gF.wI hf_7 (Or.inl rfl)
  have q_15 : gp_I s_11 110 0 = gp_I s_4 110 0 := by rw [e_12] <;> rfl
  have q_16 : gp_I s_11 110 1 = p1 := by rw [e_12]; exact (gz_rw _ _ _ _ _).1 rfl
  have q_17 : gp_I s_11 110 2 = gp_I s_4 110 2 := by rw [e_12] <;> rfl
  intro s_18 e_19
  have hs_20 : MI s_18 := by rw [e_19]; exact mw110 hs_13 _ _ (by omega)
  have hf_21 : gF [108, 109, 110] [] s s_18 := by rw [e_19]; exact gF.wI hf_14 (Or.inl rfl)
  have q_22 : gp_I s_18 110 0 = gp_I s_11 110 0 := by rw [e_19] <;> rfl
  have q_23 : gp_I s_18 110 1 = gp_I s_11 110 1 := by rw [e_19] <;> rfl
  have q_24 : gp_I s_18 110 2 = p2 := by rw [e_19]; exact (gz_rw _ _ _ _ _).1 rfl
  refine vm_code _ _ _ (by omega) (by omega) (by omega) (fun x_25 p_26 p_27 => ⟨_, rfl, ?_⟩)
  have lp_28 : ∀ (n_28 : Nat) (v5_28 : Int) (v6_28 : gV) (v7_28 : gV) (v8_28 : gV) (v9_28 : gV) (v10_28 : gV) (v11_28 : gV) (v12_28 : gV) (v13_28 : gV) (v14_28 : gV) (v15_28 : gV) (v16_28 : gV) (s_28 : gH), (MI s_28) → (gF [108, 109, 110] [] s s_28) → (0 ≤ v5_28 ∧ v5_28 ≤ 2) → (gp_I s_28 110 0 = gp_I s_18 110 0) → (gp_I s_28 110 1 = gp_I s_18 110 1) → (gp_I s_28 110 2 = gp_I s_18 110 2) → (3 - v5_28).toNat < n_28 → gs_E L (d + 2) 3158 32 [gp_r (some 74), gp_i p0, gp_i p1, gp_i p2, gp_i x_25, gp_i v5_28, v6_28, v7_28, v8_28, v9_28, v10_28, v11_28, v12_28, v13_28, v14_28, v15_28, v16_28] [] s_28 K := by
    intro n_28
    induction n_28 with
    | zero => intro v5_28 v6_28 v7_28 v8_28 v9_28 v10_28 v11_28 v12_28 v13_28 v14_28 v15_28 v16_28 s_28 hs_s_28 hf_s_28 hv5_28 tk0_28 tk1_28 tk2_28 hm_28; exact absurd hm_28 (Nat.not_lt_zero _)
    | succ n_28 ih_28 =>
      intro v5_28 v6_28 v7_28 v8_28 v9_28 v10_28 v11_28 v12_28 v13_28 v14_28 v15_28 v16_28 s_28 hs_s_28 hf_s_28 hv5_28 tk0_28 tk1_28 tk2_28 hm_28
      refine s_3158_32 _ _ _ _ _ _ _ _ _ _ _ _ _ _ _ _ ?_
      refine ⟨fun h_29 => ?_, fun h_29 => ?_⟩
      · have lp_30 : ∀ (n_30 : Nat) (v6_30 : Int) (v7_30 : Int) (v8_30 : Int) (v9_30 : Int) (v10_30 : gV) (v11_30 : gV) (v12_30 : gV) (v13_30 : gV) (v14_30 : gV) (v15_30 : gV) (v16_30 : gV), ((-2147483648) ≤ v6_30 ∧ v6_30 ≤ 2147483647) → (0 ≤ v8_30 ∧ v8_30 ≤ 1) → (0 ≤ v9_30 ∧ v9_30 ≤ 3) → (4 - v9_30).toNat < n_30 → gs_E L (d + 2) 3158 50 [gp_r (some 74), gp_i p0, gp_i p1, gp_i p2, gp_i x_25, gp_i v5_28, gp_i v6_30, gp_i v7_30, gp_i v8_30, gp_i v9_30, v10_30, v11_30, v12_30, v13_30, v14_30, v15_30, v16_30] [] s_28 K := by
          intro n_30
          induction n_30 with
          | zero => intro v6_30 v7_30 v8_30 v9_30 v10_30 v11_30 v12_30 v13_30 v14_30 v15_30 v16_30 hv6_30 hv8_30 hv9_30 hm_30; exact absurd hm_30 (Nat.not_lt_zero _)
          | succ n_30 ih_30 =>
            intro v6_30 v7_30 v8_30 v9_30 v10_30 v11_30 v12_30 v13_30 v14_30 v15_30 v16_30 hv6_30 hv8_30 hv9_30 hm_30
            refine s_3158_50 _ _ _ _ _ _ _ _ _ _ _ _ _ _ _ _ ?_
            have hpl := pl3 (s := s_28) (v := v9_30) (a := p0) (b := p1) (c := p2) (by omega) (by omega) (by omega)
            have f_31 := mr74_49 hs_s_28
            refine ⟨fun h_32 => ?_, fun h_32 => ?_⟩
            · refine ⟨by omega, ?_⟩
              have f_33 := mr106 hs_s_28 (Int.toNat v9_30)
              refine ⟨by omega, ?_⟩
              have f_34 := mr110 hs_s_28 (Int.toNat v9_30)
              refine vm_sideOf _ _ _ hs_s_28 (by omega) (by omega) (fun m_35 p_36 p_37 p_38 p_39 => ⟨_, rfl, ?_⟩)
              refine ⟨fun h_40 => ?_, fun h_40 => ?_⟩
              · have hz_41 : m_35 = 0#64 := (gm_cmp0 _ _).mp h_40
                refine ⟨by omega, ?_⟩
                have f_42 := mr106 hs_s_28 (Int.toNat v9_30)
                refine ⟨by omega, ?_⟩
                have f_43 := mr110 hs_s_28 (Int.toNat v9_30)
                refine vm_shut _ _ _ hs_s_28 (by omega) (by omega) (fun x_44 p_45 p_46 => ⟨_, rfl, ?_⟩)
                refine s_3158_114 _ _ _ _ _ _ _ _ _ _ _ _ _ _ _ _ _ ?_
                have w_47 := wr_rng (v6_30 + x_44)
                refine ⟨fun h_48 => ?_, fun h_48 => ?_⟩
                · refine s_3158_140 _ _ _ _ _ _ _ _ _ _ _ _ _ _ _ _ ?_
                  have lp_49 : ∀ (n_49 : Nat) (v7_49 : Int) (v8_49 : Int) (v13_49 : BitVec 64) (v15_49 : gV) (v16_49 : gV), (0 ≤ v8_49 ∧ v8_49 ≤ 1) → (v13_49).toNat < n_49 → gs_E L (d + 2) 3158 146 [gp_r (some 74), gp_i p0, gp_i p1, gp_i p2, gp_i x_25, gp_i v5_28, gp_i (gp_wr (v6_30 + x_44)), gp_i v7_49, gp_i v8_49, gp_i v9_30, gp_l m_35, gp_n, gp_i 4096, gp_l v13_49, gp_n, v15_49, v16_49] [] s_28 K := by
                    intro n_49
                    induction n_49 with
                    | zero => intro v7_49 v8_49 v13_49 v15_49 v16_49 hv8_49 hm_49; exact absurd hm_49 (Nat.not_lt_zero _)
                    | succ n_49 ih_49 =>
                      intro v7_49 v8_49 v13_49 v15_49 v16_49 hv8_49 hm_49
                      refine s_3158_146 _ _ _ _ _ _ _ _ _ _ _ _ _ _ ?_
                      refine ⟨fun h_50 => ?_, fun h_50 => ?_⟩
                      · have hz_51 : v13_49 = 0#64 := (gm_cmp0 _ _).mp h_50
                        try rw [show gp_wr (v9_30 + 1) = v9_30 + 1 from gp_wr_id (by omega) (by omega)]
                        exact ih_30 _ _ _ _ _ _ _ _ _ _ _ (by omega) (by omega) (by omega) (by omega)
                      · have hz_52 : ¬ v13_49 = 0#64 := fun q => h_50 ((gm_cmp0 _ _).mpr q)
                        refine vm_ntz _ (fun x_53 p_54 p_55 => ⟨_, rfl, ?_⟩)
                        have hnt := p_55 (by assumption)
                        refine ⟨by omega, ?_⟩
                        have f_56 := mr110 hs_s_28 (Int.toNat v9_30)
                        try rw [show gp_wr (x_53 - (gp_I s_28 110 (Int.toNat v9_30))) = x_53 - (gp_I s_28 110 (Int.toNat v9_30)) from gp_wr_id (by omega) (by omega)]
                        try rw [show gp_wr ((x_53 - (gp_I s_28 110 (Int.toNat v9_30))) * 4096) = (x_53 - (gp_I s_28 110 (Int.toNat v9_30))) * 4096 from gp_wr_id (by omega) (by omega)]
                        try rw [show gp_wr (x_25 + ((x_53 - (gp_I s_28 110 (Int.toNat v9_30))) * 4096)) = x_25 + ((x_53 - (gp_I s_28 110 (Int.toNat v9_30))) * 4096) from gp_wr_id (by omega) (by omega)]
                        have jn196_58 : ∀ (j_58 : Int), gs_E L (d + 2) 3158 196 [gp_r (some 74), gp_i p0, gp_i p1, gp_i p2, gp_i x_25, gp_i v5_28, gp_i (gp_wr (v6_30 + x_44)), gp_i v7_49, gp_i v8_49, gp_i v9_30, gp_l m_35, gp_n, gp_i 4096, gp_l v13_49, gp_n, gp_i (x_25 + ((x_53 - (gp_I s_28 110 (Int.toNat v9_30))) * 4096)), v16_49] [gp_i j_58] s_28 K := by
                          intro j_58
                          refine s_3158_196 _ _ _ _ _ _ _ _ _ _ _ _ _ _ _ ?_
                          have jn232_61 : ∀ (j_61 : Int), gs_E L (d + 2) 3158 232 [gp_r (some 74), gp_i p0, gp_i p1, gp_i p2, gp_i x_25, gp_i v5_28, gp_i (gp_wr (v6_30 + x_44)), gp_i v7_49, gp_i v8_49, gp_i v9_30, gp_l m_35, gp_n, gp_i 4096, gp_l v13_49, gp_n, gp_i (x_25 + ((x_53 - (gp_I s_28 110 (Int.toNat v9_30))) * 4096)), gp_i j_58] [gp_i j_61] s_28 K := by
                            intro j_61
                            refine s_3158_232 _ _ _ _ _ _ _ _ _ _ _ _ _ _ _ ?_
                            exact ih_49 _ _ _ _ _ (by omega) (by have := rest_lt (by assumption : ¬ v13_49 = 0#64); omega)
                          refine ⟨fun h_60 => ?_, fun h_60 => ?_⟩
                          · refine s_3158_225 _ _ _ _ _ _ _ _ _ _ _ _ _ _ ?_
                            exact jn232_61 _
                          · refine ⟨fun h_63 => ?_, fun h_63 => ?_⟩
                            · refine ⟨fun h_64 => ?_, fun h_64 => ?_⟩
                              · refine s_3158_225 _ _ _ _ _ _ _ _ _ _ _ _ _ _ ?_
                                exact jn232_61 _
                              · refine s_3158_230 _ _ _ _ _ _ _ _ _ _ _ _ _ _ ?_
                                exact jn232_61 _
                            · refine ⟨fun h_65 => ?_, fun h_65 => ?_⟩
                              · refine s_3158_225 _ _ _ _ _ _ _ _ _ _ _ _ _ _ ?_
                                exact jn232_61 _
                              · refine s_3158_230 _ _ _ _ _ _ _ _ _ _ _ _ _ _ ?_
                                exact jn232_61 _
                        refine ⟨fun h_57 => ?_, fun h_57 => ?_⟩
                        · refine ⟨by omega, ?_⟩
                          exact jn196_58 _
                        · refine ⟨by omega, ?_⟩
                          exact jn196_58 _
                  exact lp_49 _ _ _ _ _ _ (by omega) (Nat.lt_succ_self _)
                · refine ⟨fun h_66 => ?_, fun h_66 => ?_⟩
                  · refine s_3158_140 _ _ _ _ _ _ _ _ _ _ _ _ _ _ _ _ ?_
                    have lp_67 : ∀ (n_67 : Nat) (v7_67 : Int) (v8_67 : Int) (v13_67 : BitVec 64) (v15_67 : gV) (v16_67 : gV), (0 ≤ v8_67 ∧ v8_67 ≤ 1) → (v13_67).toNat < n_67 → gs_E L (d + 2) 3158 146 [gp_r (some 74), gp_i p0, gp_i p1, gp_i p2, gp_i x_25, gp_i v5_28, gp_i (gp_wr (v6_30 + x_44)), gp_i v7_67, gp_i v8_67, gp_i v9_30, gp_l m_35, gp_n, gp_i 64, gp_l v13_67, gp_n, v15_67, v16_67] [] s_28 K := by
                      intro n_67
                      induction n_67 with
                      | zero => intro v7_67 v8_67 v13_67 v15_67 v16_67 hv8_67 hm_67; exact absurd hm_67 (Nat.not_lt_zero _)
                      | succ n_67 ih_67 =>
                        intro v7_67 v8_67 v13_67 v15_67 v16_67 hv8_67 hm_67
                        refine s_3158_146 _ _ _ _ _ _ _ _ _ _ _ _ _ _ ?_
                        refine ⟨fun h_68 => ?_, fun h_68 => ?_⟩
                        · have hz_69 : v13_67 = 0#64 := (gm_cmp0 _ _).mp h_68
                          try rw [show gp_wr (v9_30 + 1) = v9_30 + 1 from gp_wr_id (by omega) (by omega)]
                          exact ih_30 _ _ _ _ _ _ _ _ _ _ _ (by omega) (by omega) (by omega) (by omega)
                        · have hz_70 : ¬ v13_67 = 0#64 := fun q => h_68 ((gm_cmp0 _ _).mpr q)
                          refine vm_ntz _ (fun x_71 p_72 p_73 => ⟨_, rfl, ?_⟩)
                          have hnt := p_73 (by assumption)
                          refine ⟨by omega, ?_⟩
                          have f_74 := mr110 hs_s_28 (Int.toNat v9_30)
                          try rw [show gp_wr (x_71 - (gp_I s_28 110 (Int.toNat v9_30))) = x_71 - (gp_I s_28 110 (Int.toNat v9_30)) from gp_wr_id (by omega) (by omega)]
                          try rw [show gp_wr ((x_71 - (gp_I s_28 110 (Int.toNat v9_30))) * 64) = (x_71 - (gp_I s_28 110 (Int.toNat v9_30))) * 64 from gp_wr_id (by omega) (by omega)]
                          try rw [show gp_wr (x_25 + ((x_71 - (gp_I s_28 110 (Int.toNat v9_30))) * 64)) = x_25 + ((x_71 - (gp_I s_28 110 (Int.toNat v9_30))) * 64) from gp_wr_id (by omega) (by omega)]
                          have jn196_76 : ∀ (j_76 : Int), gs_E L (d + 2) 3158 196 [gp_r (some 74), gp_i p0, gp_i p1, gp_i p2, gp_i x_25, gp_i v5_28, gp_i (gp_wr (v6_30 + x_44)), gp_i v7_67, gp_i v8_67, gp_i v9_30, gp_l m_35, gp_n, gp_i 64, gp_l v13_67, gp_n, gp_i (x_25 + ((x_71 - (gp_I s_28 110 (Int.toNat v9_30))) * 64)), v16_67] [gp_i j_76] s_28 K := by
                            intro j_76
                            refine s_3158_196 _ _ _ _ _ _ _ _ _ _ _ _ _ _ _ ?_
                            have jn232_79 : ∀ (j_79 : Int), gs_E L (d + 2) 3158 232 [gp_r (some 74), gp_i p0, gp_i p1, gp_i p2, gp_i x_25, gp_i v5_28, gp_i (gp_wr (v6_30 + x_44)), gp_i v7_67, gp_i v8_67, gp_i v9_30, gp_l m_35, gp_n, gp_i 64, gp_l v13_67, gp_n, gp_i (x_25 + ((x_71 - (gp_I s_28 110 (Int.toNat v9_30))) * 64)), gp_i j_76] [gp_i j_79] s_28 K := by
                              intro j_79
                              refine s_3158_232 _ _ _ _ _ _ _ _ _ _ _ _ _ _ _ ?_
                              exact ih_67 _ _ _ _ _ (by omega) (by have := rest_lt (by assumption : ¬ v13_67 = 0#64); omega)
                            refine ⟨fun h_78 => ?_, fun h_78 => ?_⟩
                            · refine s_3158_225 _ _ _ _ _ _ _ _ _ _ _ _ _ _ ?_
                              exact jn232_79 _
                            · refine ⟨fun h_81 => ?_, fun h_81 => ?_⟩
                              · refine ⟨fun h_82 => ?_, fun h_82 => ?_⟩
                                · refine s_3158_225 _ _ _ _ _ _ _ _ _ _ _ _ _ _ ?_
                                  exact jn232_79 _
                                · refine s_3158_230 _ _ _ _ _ _ _ _ _ _ _ _ _ _ ?_
                                  exact jn232_79 _
                              · refine ⟨fun h_83 => ?_, fun h_83 => ?_⟩
                                · refine s_3158_225 _ _ _ _ _ _ _ _ _ _ _ _ _ _ ?_
                                  exact jn232_79 _
                                · refine s_3158_230 _ _ _ _ _ _ _ _ _ _ _ _ _ _ ?_
                                  exact jn232_79 _
                          refine ⟨fun h_75 => ?_, fun h_75 => ?_⟩
                          · refine ⟨by omega, ?_⟩
                            exact jn196_76 _
                          · refine ⟨by omega, ?_⟩
                            exact jn196_76 _
                    exact lp_67 _ _ _ _ _ _ (by omega) (Nat.lt_succ_self _)
                  · refine s_3158_140 _ _ _ _ _ _ _ _ _ _ _ _ _ _ _ _ ?_
                    have lp_84 : ∀ (n_84 : Nat) (v7_84 : Int) (v8_84 : Int) (v13_84 : BitVec 64) (v15_84 : gV) (v16_84 : gV), (0 ≤ v8_84 ∧ v8_84 ≤ 1) → (v13_84).toNat < n_84 → gs_E L (d + 2) 3158 146 [gp_r (some 74), gp_i p0, gp_i p1, gp_i p2, gp_i x_25, gp_i v5_28, gp_i (gp_wr (v6_30 + x_44)), gp_i v7_84, gp_i v8_84, gp_i v9_30, gp_l m_35, gp_n, gp_i 1, gp_l v13_84, gp_n, v15_84, v16_84] [] s_28 K := by
                      intro n_84
                      induction n_84 with
                      | zero => intro v7_84 v8_84 v13_84 v15_84 v16_84 hv8_84 hm_84; exact absurd hm_84 (Nat.not_lt_zero _)
                      | succ n_84 ih_84 =>
                        intro v7_84 v8_84 v13_84 v15_84 v16_84 hv8_84 hm_84
                        refine s_3158_146 _ _ _ _ _ _ _ _ _ _ _ _ _ _ ?_
                        refine ⟨fun h_85 => ?_, fun h_85 => ?_⟩
                        · have hz_86 : v13_84 = 0#64 := (gm_cmp0 _ _).mp h_85
                          try rw [show gp_wr (v9_30 + 1) = v9_30 + 1 from gp_wr_id (by omega) (by omega)]
                          exact ih_30 _ _ _ _ _ _ _ _ _ _ _ (by omega) (by omega) (by omega) (by omega)
                        · have hz_87 : ¬ v13_84 = 0#64 := fun q => h_85 ((gm_cmp0 _ _).mpr q)
                          refine vm_ntz _ (fun x_88 p_89 p_90 => ⟨_, rfl, ?_⟩)
                          have hnt := p_90 (by assumption)
                          refine ⟨by omega, ?_⟩
                          have f_91 := mr110 hs_s_28 (Int.toNat v9_30)
                          try rw [show gp_wr (x_88 - (gp_I s_28 110 (Int.toNat v9_30))) = x_88 - (gp_I s_28 110 (Int.toNat v9_30)) from gp_wr_id (by omega) (by omega)]
                          try rw [show gp_wr ((x_88 - (gp_I s_28 110 (Int.toNat v9_30))) * 1) = (x_88 - (gp_I s_28 110 (Int.toNat v9_30))) * 1 from gp_wr_id (by omega) (by omega)]
                          try rw [show gp_wr (x_25 + ((x_88 - (gp_I s_28 110 (Int.toNat v9_30))) * 1)) = x_25 + ((x_88 - (gp_I s_28 110 (Int.toNat v9_30))) * 1) from gp_wr_id (by omega) (by omega)]
                          have jn196_93 : ∀ (j_93 : Int), gs_E L (d + 2) 3158 196 [gp_r (some 74), gp_i p0, gp_i p1, gp_i p2, gp_i x_25, gp_i v5_28, gp_i (gp_wr (v6_30 + x_44)), gp_i v7_84, gp_i v8_84, gp_i v9_30, gp_l m_35, gp_n, gp_i 1, gp_l v13_84, gp_n, gp_i (x_25 + ((x_88 - (gp_I s_28 110 (Int.toNat v9_30))) * 1)), v16_84] [gp_i j_93] s_28 K := by
                            intro j_93
                            refine s_3158_196 _ _ _ _ _ _ _ _ _ _ _ _ _ _ _ ?_
                            have jn232_96 : ∀ (j_96 : Int), gs_E L (d + 2) 3158 232 [gp_r (some 74), gp_i p0, gp_i p1, gp_i p2, gp_i x_25, gp_i v5_28, gp_i (gp_wr (v6_30 + x_44)), gp_i v7_84, gp_i v8_84, gp_i v9_30, gp_l m_35, gp_n, gp_i 1, gp_l v13_84, gp_n, gp_i (x_25 + ((x_88 - (gp_I s_28 110 (Int.toNat v9_30))) * 1)), gp_i j_93] [gp_i j_96] s_28 K := by
                              intro j_96
                              refine s_3158_232 _ _ _ _ _ _ _ _ _ _ _ _ _ _ _ ?_
                              exact ih_84 _ _ _ _ _ (by omega) (by have := rest_lt (by assumption : ¬ v13_84 = 0#64); omega)
                            refine ⟨fun h_95 => ?_, fun h_95 => ?_⟩
                            · refine s_3158_225 _ _ _ _ _ _ _ _ _ _ _ _ _ _ ?_
                              exact jn232_96 _
                            · refine ⟨fun h_98 => ?_, fun h_98 => ?_⟩
                              · refine ⟨fun h_99 => ?_, fun h_99 => ?_⟩
                                · refine s_3158_225 _ _ _ _ _ _ _ _ _ _ _ _ _ _ ?_
                                  exact jn232_96 _
                                · refine s_3158_230 _ _ _ _ _ _ _ _ _ _ _ _ _ _ ?_
                                  exact jn232_96 _
                              · refine ⟨fun h_100 => ?_, fun h_100 => ?_⟩
                                · refine s_3158_225 _ _ _ _ _ _ _ _ _ _ _ _ _ _ ?_
                                  exact jn232_96 _
                                · refine s_3158_230 _ _ _ _ _ _ _ _ _ _ _ _ _ _ ?_
                                  exact jn232_96 _
                          refine ⟨fun h_92 => ?_, fun h_92 => ?_⟩
                          · refine ⟨by omega, ?_⟩
                            exact jn196_93 _
                          · refine ⟨by omega, ?_⟩
                            exact jn196_93 _
                    exact lp_84 _ _ _ _ _ _ (by omega) (Nat.lt_succ_self _)
              · have hz_101 : ¬ m_35 = 0#64 := fun q => h_40 ((gm_cmp0 _ _).mpr q)
                refine s_3158_114 _ _ _ _ _ _ _ _ _ _ _ _ _ _ _ _ _ ?_
                try rw [show gp_wr (v6_30 + 0) = v6_30 + 0 from gp_wr_id (by omega) (by omega)]
                refine ⟨fun h_102 => ?_, fun h_102 => ?_⟩
                · refine s_3158_140 _ _ _ _ _ _ _ _ _ _ _ _ _ _ _ _ ?_
                  have lp_103 : ∀ (n_103 : Nat) (v7_103 : Int) (v8_103 : Int) (v13_103 : BitVec 64) (v15_103 : gV) (v16_103 : gV), (0 ≤ v8_103 ∧ v8_103 ≤ 1) → (v13_103).toNat < n_103 → gs_E L (d + 2) 3158 146 [gp_r (some 74), gp_i p0, gp_i p1, gp_i p2, gp_i x_25, gp_i v5_28, gp_i (v6_30 + 0), gp_i v7_103, gp_i v8_103, gp_i v9_30, gp_l m_35, gp_n, gp_i 4096, gp_l v13_103, gp_n, v15_103, v16_103] [] s_28 K := by
                    intro n_103
                    induction n_103 with
                    | zero => intro v7_103 v8_103 v13_103 v15_103 v16_103 hv8_103 hm_103; exact absurd hm_103 (Nat.not_lt_zero _)
                    | succ n_103 ih_103 =>
                      intro v7_103 v8_103 v13_103 v15_103 v16_103 hv8_103 hm_103
                      refine s_3158_146 _ _ _ _ _ _ _ _ _ _ _ _ _ _ ?_
                      refine ⟨fun h_104 => ?_, fun h_104 => ?_⟩
                      · have hz_105 : v13_103 = 0#64 := (gm_cmp0 _ _).mp h_104
                        try rw [show gp_wr (v9_30 + 1) = v9_30 + 1 from gp_wr_id (by omega) (by omega)]
                        exact ih_30 _ _ _ _ _ _ _ _ _ _ _ (by omega) (by omega) (by omega) (by omega)
                      · have hz_106 : ¬ v13_103 = 0#64 := fun q => h_104 ((gm_cmp0 _ _).mpr q)
                        refine vm_ntz _ (fun x_107 p_108 p_109 => ⟨_, rfl, ?_⟩)
                        have hnt := p_109 (by assumption)
                        refine ⟨by omega, ?_⟩
                        have f_110 := mr110 hs_s_28 (Int.toNat v9_30)
                        try rw [show gp_wr (x_107 - (gp_I s_28 110 (Int.toNat v9_30))) = x_107 - (gp_I s_28 110 (Int.toNat v9_30)) from gp_wr_id (by omega) (by omega)]
                        try rw [show gp_wr ((x_107 - (gp_I s_28 110 (Int.toNat v9_30))) * 4096) = (x_107 - (gp_I s_28 110 (Int.toNat v9_30))) * 4096 from gp_wr_id (by omega) (by omega)]
                        try rw [show gp_wr (x_25 + ((x_107 - (gp_I s_28 110 (Int.toNat v9_30))) * 4096)) = x_25 + ((x_107 - (gp_I s_28 110 (Int.toNat v9_30))) * 4096) from gp_wr_id (by omega) (by omega)]
                        have jn196_112 : ∀ (j_112 : Int), gs_E L (d + 2) 3158 196 [gp_r (some 74), gp_i p0, gp_i p1, gp_i p2, gp_i x_25, gp_i v5_28, gp_i (v6_30 + 0), gp_i v7_103, gp_i v8_103, gp_i v9_30, gp_l m_35, gp_n, gp_i 4096, gp_l v13_103, gp_n, gp_i (x_25 + ((x_107 - (gp_I s_28 110 (Int.toNat v9_30))) * 4096)), v16_103] [gp_i j_112] s_28 K := by
                          intro j_112
                          refine s_3158_196 _ _ _ _ _ _ _ _ _ _ _ _ _ _ _ ?_
                          have jn232_115 : ∀ (j_115 : Int), gs_E L (d + 2) 3158 232 [gp_r (some 74), gp_i p0, gp_i p1, gp_i p2, gp_i x_25, gp_i v5_28, gp_i (v6_30 + 0), gp_i v7_103, gp_i v8_103, gp_i v9_30, gp_l m_35, gp_n, gp_i 4096, gp_l v13_103, gp_n, gp_i (x_25 + ((x_107 - (gp_I s_28 110 (Int.toNat v9_30))) * 4096)), gp_i j_112] [gp_i j_115] s_28 K := by
                            intro j_115
                            refine s_3158_232 _ _ _ _ _ _ _ _ _ _ _ _ _ _ _ ?_
                            exact ih_103 _ _ _ _ _ (by omega) (by have := rest_lt (by assumption : ¬ v13_103 = 0#64); omega)
                          refine ⟨fun h_114 => ?_, fun h_114 => ?_⟩
                          · refine s_3158_225 _ _ _ _ _ _ _ _ _ _ _ _ _ _ ?_
                            exact jn232_115 _
                          · refine ⟨fun h_117 => ?_, fun h_117 => ?_⟩
                            · refine ⟨fun h_118 => ?_, fun h_118 => ?_⟩
                              · refine s_3158_225 _ _ _ _ _ _ _ _ _ _ _ _ _ _ ?_
                                exact jn232_115 _
                              · refine s_3158_230 _ _ _ _ _ _ _ _ _ _ _ _ _ _ ?_
                                exact jn232_115 _
                            · refine ⟨fun h_119 => ?_, fun h_119 => ?_⟩
                              · refine s_3158_225 _ _ _ _ _ _ _ _ _ _ _ _ _ _ ?_
                                exact jn232_115 _
                              · refine s_3158_230 _ _ _ _ _ _ _ _ _ _ _ _ _ _ ?_
                                exact jn232_115 _
                        refine ⟨fun h_111 => ?_, fun h_111 => ?_⟩
                        · refine ⟨by omega, ?_⟩
                          exact jn196_112 _
                        · refine ⟨by omega, ?_⟩
                          exact jn196_112 _
                  exact lp_103 _ _ _ _ _ _ (by omega) (Nat.lt_succ_self _)
                · refine ⟨fun h_120 => ?_, fun h_120 => ?_⟩
                  · refine s_3158_140 _ _ _ _ _ _ _ _ _ _ _ _ _ _ _ _ ?_
                    have lp_121 : ∀ (n_121 : Nat) (v7_121 : Int) (v8_121 : Int) (v13_121 : BitVec 64) (v15_121 : gV) (v16_121 : gV), (0 ≤ v8_121 ∧ v8_121 ≤ 1) → (v13_121).toNat < n_121 → gs_E L (d + 2) 3158 146 [gp_r (some 74), gp_i p0, gp_i p1, gp_i p2, gp_i x_25, gp_i v5_28, gp_i (v6_30 + 0), gp_i v7_121, gp_i v8_121, gp_i v9_30, gp_l m_35, gp_n, gp_i 64, gp_l v13_121, gp_n, v15_121, v16_121] [] s_28 K := by
                      intro n_121
                      induction n_121 with
                      | zero => intro v7_121 v8_121 v13_121 v15_121 v16_121 hv8_121 hm_121; exact absurd hm_121 (Nat.not_lt_zero _)
                      | succ n_121 ih_121 =>
                        intro v7_121 v8_121 v13_121 v15_121 v16_121 hv8_121 hm_121
                        refine s_3158_146 _ _ _ _ _ _ _ _ _ _ _ _ _ _ ?_
                        refine ⟨fun h_122 => ?_, fun h_122 => ?_⟩
                        · have hz_123 : v13_121 = 0#64 := (gm_cmp0 _ _).mp h_122
                          try rw [show gp_wr (v9_30 + 1) = v9_30 + 1 from gp_wr_id (by omega) (by omega)]
                          exact ih_30 _ _ _ _ _ _ _ _ _ _ _ (by omega) (by omega) (by omega) (by omega)
                        · have hz_124 : ¬ v13_121 = 0#64 := fun q => h_122 ((gm_cmp0 _ _).mpr q)
                          refine vm_ntz _ (fun x_125 p_126 p_127 => ⟨_, rfl, ?_⟩)
                          have hnt := p_127 (by assumption)
                          refine ⟨by omega, ?_⟩
                          have f_128 := mr110 hs_s_28 (Int.toNat v9_30)
                          try rw [show gp_wr (x_125 - (gp_I s_28 110 (Int.toNat v9_30))) = x_125 - (gp_I s_28 110 (Int.toNat v9_30)) from gp_wr_id (by omega) (by omega)]
                          try rw [show gp_wr ((x_125 - (gp_I s_28 110 (Int.toNat v9_30))) * 64) = (x_125 - (gp_I s_28 110 (Int.toNat v9_30))) * 64 from gp_wr_id (by omega) (by omega)]
                          try rw [show gp_wr (x_25 + ((x_125 - (gp_I s_28 110 (Int.toNat v9_30))) * 64)) = x_25 + ((x_125 - (gp_I s_28 110 (Int.toNat v9_30))) * 64) from gp_wr_id (by omega) (by omega)]
                          have jn196_130 : ∀ (j_130 : Int), gs_E L (d + 2) 3158 196 [gp_r (some 74), gp_i p0, gp_i p1, gp_i p2, gp_i x_25, gp_i v5_28, gp_i (v6_30 + 0), gp_i v7_121, gp_i v8_121, gp_i v9_30, gp_l m_35, gp_n, gp_i 64, gp_l v13_121, gp_n, gp_i (x_25 + ((x_125 - (gp_I s_28 110 (Int.toNat v9_30))) * 64)), v16_121] [gp_i j_130] s_28 K := by
                            intro j_130
                            refine s_3158_196 _ _ _ _ _ _ _ _ _ _ _ _ _ _ _ ?_
                            have jn232_133 : ∀ (j_133 : Int), gs_E L (d + 2) 3158 232 [gp_r (some 74), gp_i p0, gp_i p1, gp_i p2, gp_i x_25, gp_i v5_28, gp_i (v6_30 + 0), gp_i v7_121, gp_i v8_121, gp_i v9_30, gp_l m_35, gp_n, gp_i 64, gp_l v13_121, gp_n, gp_i (x_25 + ((x_125 - (gp_I s_28 110 (Int.toNat v9_30))) * 64)), gp_i j_130] [gp_i j_133] s_28 K := by
                              intro j_133
                              refine s_3158_232 _ _ _ _ _ _ _ _ _ _ _ _ _ _ _ ?_
                              exact ih_121 _ _ _ _ _ (by omega) (by have := rest_lt (by assumption : ¬ v13_121 = 0#64); omega)
                            refine ⟨fun h_132 => ?_, fun h_132 => ?_⟩
                            · refine s_3158_225 _ _ _ _ _ _ _ _ _ _ _ _ _ _ ?_
                              exact jn232_133 _
                            · refine ⟨fun h_135 => ?_, fun h_135 => ?_⟩
                              · refine ⟨fun h_136 => ?_, fun h_136 => ?_⟩
                                · refine s_3158_225 _ _ _ _ _ _ _ _ _ _ _ _ _ _ ?_
                                  exact jn232_133 _
                                · refine s_3158_230 _ _ _ _ _ _ _ _ _ _ _ _ _ _ ?_
                                  exact jn232_133 _
                              · refine ⟨fun h_137 => ?_, fun h_137 => ?_⟩
                                · refine s_3158_225 _ _ _ _ _ _ _ _ _ _ _ _ _ _ ?_
                                  exact jn232_133 _
                                · refine s_3158_230 _ _ _ _ _ _ _ _ _ _ _ _ _ _ ?_
                                  exact jn232_133 _
                          refine ⟨fun h_129 => ?_, fun h_129 => ?_⟩
                          · refine ⟨by omega, ?_⟩
                            exact jn196_130 _
                          · refine ⟨by omega, ?_⟩
                            exact jn196_130 _
                    exact lp_121 _ _ _ _ _ _ (by omega) (Nat.lt_succ_self _)
                  · refine s_3158_140 _ _ _ _ _ _ _ _ _ _ _ _ _ _ _ _ ?_
                    have lp_138 : ∀ (n_138 : Nat) (v7_138 : Int) (v8_138 : Int) (v13_138 : BitVec 64) (v15_138 : gV) (v16_138 : gV), (0 ≤ v8_138 ∧ v8_138 ≤ 1) → (v13_138).toNat < n_138 → gs_E L (d + 2) 3158 146 [gp_r (some 74), gp_i p0, gp_i p1, gp_i p2, gp_i x_25, gp_i v5_28, gp_i (v6_30 + 0), gp_i v7_138, gp_i v8_138, gp_i v9_30, gp_l m_35, gp_n, gp_i 1, gp_l v13_138, gp_n, v15_138, v16_138] [] s_28 K := by
                      intro n_138
                      induction n_138 with
                      | zero => intro v7_138 v8_138 v13_138 v15_138 v16_138 hv8_138 hm_138; exact absurd hm_138 (Nat.not_lt_zero _)
                      | succ n_138 ih_138 =>
                        intro v7_138 v8_138 v13_138 v15_138 v16_138 hv8_138 hm_138
                        refine s_3158_146 _ _ _ _ _ _ _ _ _ _ _ _ _ _ ?_
                        refine ⟨fun h_139 => ?_, fun h_139 => ?_⟩
                        · have hz_140 : v13_138 = 0#64 := (gm_cmp0 _ _).mp h_139
                          try rw [show gp_wr (v9_30 + 1) = v9_30 + 1 from gp_wr_id (by omega) (by omega)]
                          exact ih_30 _ _ _ _ _ _ _ _ _ _ _ (by omega) (by omega) (by omega) (by omega)
                        · have hz_141 : ¬ v13_138 = 0#64 := fun q => h_139 ((gm_cmp0 _ _).mpr q)
                          refine vm_ntz _ (fun x_142 p_143 p_144 => ⟨_, rfl, ?_⟩)
                          have hnt := p_144 (by assumption)
                          refine ⟨by omega, ?_⟩
                          have f_145 := mr110 hs_s_28 (Int.toNat v9_30)
                          try rw [show gp_wr (x_142 - (gp_I s_28 110 (Int.toNat v9_30))) = x_142 - (gp_I s_28 110 (Int.toNat v9_30)) from gp_wr_id (by omega) (by omega)]
                          try rw [show gp_wr ((x_142 - (gp_I s_28 110 (Int.toNat v9_30))) * 1) = (x_142 - (gp_I s_28 110 (Int.toNat v9_30))) * 1 from gp_wr_id (by omega) (by omega)]
                          try rw [show gp_wr (x_25 + ((x_142 - (gp_I s_28 110 (Int.toNat v9_30))) * 1)) = x_25 + ((x_142 - (gp_I s_28 110 (Int.toNat v9_30))) * 1) from gp_wr_id (by omega) (by omega)]
                          have jn196_147 : ∀ (j_147 : Int), gs_E L (d + 2) 3158 196 [gp_r (some 74), gp_i p0, gp_i p1, gp_i p2, gp_i x_25, gp_i v5_28, gp_i (v6_30 + 0), gp_i v7_138, gp_i v8_138, gp_i v9_30, gp_l m_35, gp_n, gp_i 1, gp_l v13_138, gp_n, gp_i (x_25 + ((x_142 - (gp_I s_28 110 (Int.toNat v9_30))) * 1)), v16_138] [gp_i j_147] s_28 K := by
                            intro j_147
                            refine s_3158_196 _ _ _ _ _ _ _ _ _ _ _ _ _ _ _ ?_
                            have jn232_150 : ∀ (j_150 : Int), gs_E L (d + 2) 3158 232 [gp_r (some 74), gp_i p0, gp_i p1, gp_i p2, gp_i x_25, gp_i v5_28, gp_i (v6_30 + 0), gp_i v7_138, gp_i v8_138, gp_i v9_30, gp_l m_35, gp_n, gp_i 1, gp_l v13_138, gp_n, gp_i (x_25 + ((x_142 - (gp_I s_28 110 (Int.toNat v9_30))) * 1)), gp_i j_147] [gp_i j_150] s_28 K := by
                              intro j_150
                              refine s_3158_232 _ _ _ _ _ _ _ _ _ _ _ _ _ _ _ ?_
                              exact ih_138 _ _ _ _ _ (by omega) (by have := rest_lt (by assumption : ¬ v13_138 = 0#64); omega)
                            refine ⟨fun h_149 => ?_, fun h_149 => ?_⟩
                            · refine s_3158_225 _ _ _ _ _ _ _ _ _ _ _ _ _ _ ?_
                              exact jn232_150 _
                            · refine ⟨fun h_152 => ?_, fun h_152 => ?_⟩
                              · refine ⟨fun h_153 => ?_, fun h_153 => ?_⟩
                                · refine s_3158_225 _ _ _ _ _ _ _ _ _ _ _ _ _ _ ?_
                                  exact jn232_150 _
                                · refine s_3158_230 _ _ _ _ _ _ _ _ _ _ _ _ _ _ ?_
                                  exact jn232_150 _
                              · refine ⟨fun h_154 => ?_, fun h_154 => ?_⟩
                                · refine s_3158_225 _ _ _ _ _ _ _ _ _ _ _ _ _ _ ?_
                                  exact jn232_150 _
                                · refine s_3158_230 _ _ _ _ _ _ _ _ _ _ _ _ _ _ ?_
                                  exact jn232_150 _
                          refine ⟨fun h_146 => ?_, fun h_146 => ?_⟩
                          · refine ⟨by omega, ?_⟩
                            exact jn196_147 _
                          · refine ⟨by omega, ?_⟩
                            exact jn196_147 _
                    exact lp_138 _ _ _ _ _ _ (by omega) (Nat.lt_succ_self _)
            · refine ⟨fun h_155 => ?_, fun h_155 => ?_⟩
              · have jn278_157 : ∀ (j_157 : Int), gs_E L (d + 2) 3158 278 [gp_r (some 74), gp_i p0, gp_i p1, gp_i p2, gp_i x_25, gp_i v5_28, gp_i v6_30, gp_i v7_30, gp_i v8_30, gp_i v9_30, v10_30, v11_30, v12_30, v13_30, v14_30, v15_30, v16_30] [gp_i j_157, gp_i x_25, gp_r (some 108)] s_28 K := by
                  intro j_157
                  refine s_3158_278 _ _ _ _ _ _ _ _ _ _ _ _ _ _ _ _ _ _ ?_
                  refine ⟨by omega, ?_⟩
                  intro s_159 e_160
                  have hs_161 : MI s_159 := by rw [e_160]; exact mw108 hs_s_28 _ _
                  have hf_162 : gF [108, 109, 110] [] s s_159 := by rw [e_160]; exact gF.wI hf_s_28 (Or.inl rfl)
                  have q_163 : gp_I s_159 110 0 = gp_I s_28 110 0 := by rw [e_160] <;> rfl
                  have q_164 : gp_I s_159 110 1 = gp_I s_28 110 1 := by rw [e_160] <;> rfl
                  have q_165 : gp_I s_159 110 2 = gp_I s_28 110 2 := by rw [e_160] <;> rfl
                  refine s_3158_301 _ _ _ _ _ _ _ _ _ _ _ _ _ _ _ _ ?_
                  try rw [show gp_wr (v5_28 + 1) = v5_28 + 1 from gp_wr_id (by omega) (by omega)]
                  exact ih_28 _ _ _ _ _ _ _ _ _ _ _ _ _ hs_161 hf_162 (by omega) (by first | rfl | omega) (by first | rfl | omega) (by first | rfl | omega) (by omega)
                refine ⟨fun h_156 => ?_, fun h_156 => ?_⟩
                · exact jn278_157 _
                · exact jn278_157 _
              · have jn300_167 : ∀ (j_167 : Int), gs_E L (d + 2) 3158 300 [gp_r (some 74), gp_i p0, gp_i p1, gp_i p2, gp_i x_25, gp_i v5_28, gp_i v6_30, gp_i v7_30, gp_i v8_30, gp_i v9_30, v10_30, v11_30, v12_30, v13_30, v14_30, v15_30, v16_30] [gp_i j_167, gp_i x_25, gp_r (some 109)] s_28 K := by
                  intro j_167
                  refine s_3158_300 _ _ _ _ _ _ _ _ _ _ _ _ _ _ _ _ _ _ ?_
                  refine ⟨by omega, ?_⟩
                  intro s_169 e_170
                  have hs_171 : MI s_169 := by rw [e_170]; exact mw109 hs_s_28 _ _
                  have hf_172 : gF [108, 109, 110] [] s s_169 := by rw [e_170]; exact gF.wI hf_s_28 (Or.inl rfl)
                  have q_173 : gp_I s_169 110 0 = gp_I s_28 110 0 := by rw [e_170] <;> rfl
                  have q_174 : gp_I s_169 110 1 = gp_I s_28 110 1 := by rw [e_170] <;> rfl
                  have q_175 : gp_I s_169 110 2 = gp_I s_28 110 2 := by rw [e_170] <;> rfl
                  refine s_3158_301 _ _ _ _ _ _ _ _ _ _ _ _ _ _ _ _ ?_
                  try rw [show gp_wr (v5_28 + 1) = v5_28 + 1 from gp_wr_id (by omega) (by omega)]
                  exact ih_28 _ _ _ _ _ _ _ _ _ _ _ _ _ hs_171 hf_172 (by omega) (by first | rfl | omega) (by first | rfl | omega) (by first | rfl | omega) (by omega)
                refine ⟨fun h_166 => ?_, fun h_166 => ?_⟩
                · exact jn300_167 _
                · exact jn300_167 _
        exact lp_30 _ _ _ _ _ _ _ _ _ _ _ _ (by omega) (by omega) (by omega) (Nat.lt_succ_self _)
      · exact k s_28 hs_s_28 hf_s_28
  exact lp_28 _ _ _ _ _ _ _ _ _ _ _ _ _ _ hs_20 hf_21 (by omega) (by first | rfl | omega) (by first | rfl | omega) (by first | rfl | omega) (Nat.lt_succ_self _)
set_option maxRecDepth 100000 in
/-- GatheredPointsModel.works -/
theorem vm_works  {L d : Nat} {K : Option gV → gH → Prop} {s : gH}   (hs : MI s)   (k : ∀ (t : gH), MI t → gF [108, 109, 110] [] s t → K none t) : gs_C L (d + 3) 3156 7 [gp_r (some 74)] s K := by
  refine s_3156_e ?_
  have f_1 := mr106 hs 0
  refine ⟨by omega, ?_⟩
  have f_2 := mr81 hs (Int.toNat (gp_I s 106 0))
  have f_3 := mr74_49 hs
  have jn35_6 : ∀ (j_5 : Int), (0 ≤ j_5 ∧ j_5 ≤ 60) → gs_E L (d + 3) 3156 35 [gp_r (some 74), gp_i (gp_I s 81 (Int.toNat (gp_I s 106 0))), gp_n, gp_n, gp_n, gp_n, gp_n] [gp_i j_5] s K := by
    intro j_5 hj_6
    refine s_3156_35 _ _ _ _ _ _ _ ?_
    have f_8 := mr74_49 hs
    have jn59_11 : ∀ (j_10 : Int), (0 ≤ j_10 ∧ j_10 ≤ 60) → gs_E L (d + 3) 3156 59 [gp_r (some 74), gp_i (gp_I s 81 (Int.toNat (gp_I s 106 0))), gp_i j_5, gp_n, gp_n, gp_n, gp_n] [gp_i j_10] s K := by
      intro j_10 hj_11
      refine s_3156_59 _ _ _ _ _ _ _ ?_
      have lp_13 : ∀ (n_13 : Nat) (v4_13 : Int) (v5_13 : gV) (v6_13 : gV) (s_13 : gH), (MI s_13) → (gF [108, 109, 110] [] s s_13) → (0 ≤ v4_13 ∧ v4_13 ≤ 60) → (61 - v4_13).toNat < n_13 → gs_E L (d + 3) 3156 63 [gp_r (some 74), gp_i (gp_I s 81 (Int.toNat (gp_I s 106 0))), gp_i j_5, gp_i j_10, gp_i v4_13, v5_13, v6_13] [] s_13 K := by
        intro n_13
        induction n_13 with
        | zero => intro v4_13 v5_13 v6_13 s_13 hs_s_13 hf_s_13 hv4_13 hm_13; exact absurd hm_13 (Nat.not_lt_zero _)
        | succ n_13 ih_13 =>
          intro v4_13 v5_13 v6_13 s_13 hs_s_13 hf_s_13 hv4_13 hm_13
          refine s_3156_63 _ _ _ _ _ _ ?_
          refine ⟨fun h_14 => ?_, fun h_14 => ?_⟩
          · have lp_15 : ∀ (n_15 : Nat) (v5_15 : Int) (v6_15 : gV) (s_15 : gH), (MI s_15) → (gF [108, 109, 110] [] s s_15) → (0 ≤ v5_15 ∧ v5_15 ≤ 60) → (61 - v5_15).toNat < n_15 → gs_E L (d + 3) 3156 72 [gp_r (some 74), gp_i (gp_I s 81 (Int.toNat (gp_I s 106 0))), gp_i j_5, gp_i j_10, gp_i v4_13, gp_i v5_15, v6_15] [] s_15 K := by
              intro n_15
              induction n_15 with
              | zero => intro v5_15 v6_15 s_15 hs_s_15 hf_s_15 hv5_15 hm_15; exact absurd hm_15 (Nat.not_lt_zero _)
              | succ n_15 ih_15 =>
                intro v5_15 v6_15 s_15 hs_s_15 hf_s_15 hv5_15 hm_15
                refine s_3156_72 _ _ _ _ _ _ ?_
                refine ⟨fun h_16 => ?_, fun h_16 => ?_⟩
                · have lp_17 : ∀ (n_17 : Nat) (v6_17 : Int) (s_17 : gH), (MI s_17) → (gF [108, 109, 110] [] s s_17) → (0 ≤ v6_17 ∧ v6_17 ≤ 60) → (61 - v6_17).toNat < n_17 → gs_E L (d + 3) 3156 81 [gp_r (some 74), gp_i (gp_I s 81 (Int.toNat (gp_I s 106 0))), gp_i j_5, gp_i j_10, gp_i v4_13, gp_i v5_15, gp_i v6_17] [] s_17 K := by
                    intro n_17
                    induction n_17 with
                    | zero => intro v6_17 s_17 hs_s_17 hf_s_17 hv6_17 hm_17; exact absurd hm_17 (Nat.not_lt_zero _)
                    | succ n_17 ih_17 =>
                      intro v6_17 s_17 hs_s_17 hf_s_17 hv6_17 hm_17
                      refine s_3156_81 _ _ _ _ _ _ ?_
                      refine ⟨fun h_18 => ?_, fun h_18 => ?_⟩
                      · refine vm_worksAt _ _ _ hs_s_17 (by omega) (by omega) (by omega) (fun s_19 hs_20 hf_21 => ⟨rfl, ?_⟩)
                        have hf_22 : gF [108, 109, 110] [] s s_19 := gF.trans hf_s_17 hf_21 rfl rfl
                        try rw [show gp_wr (v6_17 + 1) = v6_17 + 1 from gp_wr_id (by omega) (by omega)]
                        exact ih_17 _ _ hs_20 hf_22 (by omega) (by omega)
                      · try rw [show gp_wr (v5_15 + 1) = v5_15 + 1 from gp_wr_id (by omega) (by omega)]
                        exact ih_15 _ _ _ hs_s_17 hf_s_17 (by omega) (by omega)
                  exact lp_17 _ _ _ hs_s_15 hf_s_15 (by omega) (Nat.lt_succ_self _)
                · try rw [show gp_wr (v4_13 + 1) = v4_13 + 1 from gp_wr_id (by omega) (by omega)]
                  exact ih_13 _ _ _ _ hs_s_15 hf_s_15 (by omega) (by omega)
            exact lp_15 _ _ _ _ hs_s_13 hf_s_13 (by omega) (Nat.lt_succ_self _)
          · exact k s_13 hs_s_13 hf_s_13
      exact lp_13 _ _ _ _ _ hs (gF.refl _ _ _) (by omega) (Nat.lt_succ_self _)
    refine ⟨fun h_9 => ?_, fun h_9 => ?_⟩
    · have f_23 := mr106 hs 2
      refine ⟨by omega, ?_⟩
      have f_24 := mr81 hs (Int.toNat (gp_I s 106 2))
      exact jn59_11 _ (by omega)
    · exact jn59_11 _ (by omega)
  refine ⟨fun h_4 => ?_, fun h_4 => ?_⟩
  · have f_25 := mr106 hs 1
    refine ⟨by omega, ?_⟩
    have f_26 := mr81 hs (Int.toNat (gp_I s 106 1))
    exact jn35_6 _ (by omega)
  · exact jn35_6 _ (by omega)
