set_option maxRecDepth 100000 in
/-- GatheredPointsLaw.law, pc 18 -/
theorem s_4352_18 {L d : Nat} {K : Option gV → gH → Prop} {s : gH} (v0 : Option Nat) (v1 : Option Nat) (v2 : Option Nat) (v3 : Int) (H : (∃ q1, v0 = some q1 ∧ (((100 ≤ (gp_sh (gp_mk L s) q1).1 ∧ (gp_sh (gp_mk L s) q1).1 ≤ 105) ∧ ((gp_sh (gp_mk L s) q1).2 : Int) < 2147483648) ∧ (((gp_wr (((gp_sh (gp_mk L s) q1).2 : Int) - 6)) < v3 → K (some (gp_i 1)) s) ∧ (¬ (gp_wr (((gp_sh (gp_mk L s) q1).2 : Int) - 6)) < v3 → (gp_in (gp_mk L s) 105 q1 v3 ∧ (((gp_and (gp_I s q1 v3.toNat) 63) = 0 → (gp_in (gp_mk L s) 105 q1 (gp_wr (v3 + 1)) ∧ (gp_in (gp_mk L s) 105 q1 (gp_wr (v3 + 2)) ∧ (gp_in (gp_mk L s) 105 q1 (gp_wr (v3 + 3)) ∧ (∃ q2, v1 = some q2 ∧ ((gp_sh (gp_mk L s) q2).1 = 11 ∧ gs_C L d 2817 5 [gp_r (some q2), gp_l (((BitVec.ofInt 64 (gp_I s q1 (gp_wr (v3 + 1)).toNat)) <<< 32) ||| ((BitVec.ofInt 64 (gp_I s q1 (gp_wr (v3 + 2)).toNat)) &&& (BitVec.ofInt 64 4294967295))), gp_i (gp_I s q1 (gp_wr (v3 + 3)).toNat)] s (fun r s3 => ∃ x4, r = some (gp_i x4) ∧ (gp_in (gp_mk L s3) 105 q1 (gp_wr (v3 + 1)) ∧ (gp_in (gp_mk L s3) 105 q1 (gp_wr (v3 + 2)) ∧ (gp_in (gp_mk L s3) 105 q1 (gp_wr (v3 + 3)) ∧ (∃ q5, v2 = some q5 ∧ ((gp_sh (gp_mk L s3) q5).1 = 12 ∧ gs_C L d 3124 5 [gp_r (some q5), gp_l (((BitVec.ofInt 64 (gp_I s3 q1 (gp_wr (v3 + 1)).toNat)) <<< 32) ||| ((BitVec.ofInt 64 (gp_I s3 q1 (gp_wr (v3 + 2)).toNat)) &&& (BitVec.ofInt 64 4294967295))), gp_i (gp_I s3 q1 (gp_wr (v3 + 3)).toNat)] s3 (fun r s6 => ∃ x7, r = some (gp_i x7) ∧ gs_E L (d + 1) 4352 1249 [gp_r (some q1), gp_r (some q2), gp_r (some q5), gp_i v3] [] s6 K))))))))))))) ∧ ((gp_and (gp_I s q1 v3.toNat) 63) = 1 → (gp_in (gp_mk L s) 105 q1 (gp_wr (v3 + 1)) ∧ (∃ q8, v1 = some q8 ∧ ((gp_sh (gp_mk L s) q8).1 = 11 ∧ gs_C L d 2818 3 [gp_r (some q8), gp_i (gp_I s q1 (gp_wr (v3 + 1)).toNat)] s (fun r s9 => ∃ x10, r = some (gp_i x10) ∧ (gp_in (gp_mk L s9) 105 q1 (gp_wr (v3 + 1)) ∧ (∃ q11, v2 = some q11 ∧ ((gp_sh (gp_mk L s9) q11).1 = 12 ∧ gs_C L d 3139 2 [gp_r (some q11), gp_i (gp_I s9 q1 (gp_wr (v3 + 1)).toNat)] s9 (fun r s12 => ∃ x13, r = some (gp_i x13) ∧ ((x10 = x13 → gs_E L (d + 1) 4352 1249 [gp_r (some q1), gp_r (some q8), gp_r (some q11), gp_i v3] [] s12 K) ∧ (¬ x10 = x13 → K (some (gp_i 0)) s12))))))))))) ∧ ((gp_and (gp_I s q1 v3.toNat) 63) = 2 → (gp_in (gp_mk L s) 105 q1 (gp_wr (v3 + 1)) ∧ (∃ q14, v1 = some q14 ∧ ((gp_sh (gp_mk L s) q14).1 = 11 ∧ gs_C L d 2819 4 [gp_r (some q14), gp_i (gp_I s q1 (gp_wr (v3 + 1)).toNat)] s (fun r s15 => ∃ x16, r = some (gp_i x16) ∧ (gp_in (gp_mk L s15) 105 q1 (gp_wr (v3 + 1)) ∧ (∃ q17, v2 = some q17 ∧ ((gp_sh (gp_mk L s15) q17).1 = 12 ∧ gs_C L d 3143 8 [gp_r (some q17), gp_i (gp_I s15 q1 (gp_wr (v3 + 1)).toNat)] s15 (fun r s18 => ∃ x19, r = some (gp_i x19) ∧ gs_E L (d + 1) 4352 1249 [gp_r (some q1), gp_r (some q14), gp_r (some q17), gp_i v3] [] s18 K))))))))) ∧ ((gp_and (gp_I s q1 v3.toNat) 63) = 3 → (gp_in (gp_mk L s) 105 q1 (gp_wr (v3 + 1)) ∧ (gp_in (gp_mk L s) 105 q1 (gp_wr (v3 + 2)) ∧ (∃ q20, v1 = some q20 ∧ ((gp_sh (gp_mk L s) q20).1 = 11 ∧ gs_C L d 2820 3 [gp_r (some q20), gp_i (gp_I s q1 (gp_wr (v3 + 1)).toNat), gp_i (gp_I s q1 (gp_wr (v3 + 2)).toNat)] s (fun r s21 => ∃ x22, r = some (gp_i x22) ∧ (gp_in (gp_mk L s21) 105 q1 (gp_wr (v3 + 1)) ∧ (gp_in (gp_mk L s21) 105 q1 (gp_wr (v3 + 2)) ∧ (∃ q23, v2 = some q23 ∧ ((gp_sh (gp_mk L s21) q23).1 = 12 ∧ gs_C L d 3144 9 [gp_r (some q23), gp_i (gp_I s21 q1 (gp_wr (v3 + 1)).toNat), gp_i (gp_I s21 q1 (gp_wr (v3 + 2)).toNat)] s21 (fun r s24 => ∃ x25, r = some (gp_i x25) ∧ gs_E L (d + 1) 4352 1249 [gp_r (some q1), gp_r (some q20), gp_r (some q23), gp_i v3] [] s24 K))))))))))) ∧ ((gp_and (gp_I s q1 v3.toNat) 63) = 4 → (gp_in (gp_mk L s) 105 q1 (gp_wr (v3 + 1)) ∧ (gp_in (gp_mk L s) 105 q1 (gp_wr (v3 + 2)) ∧ (∃ q26, v1 = some q26 ∧ ((gp_sh (gp_mk L s) q26).1 = 11 ∧ gs_C L d 2821 3 [gp_r (some q26), gp_i (gp_I s q1 (gp_wr (v3 + 1)).toNat), gp_i (gp_I s q1 (gp_wr (v3 + 2)).toNat)] s (fun r s27 => ∃ x28, r = some (gp_i x28) ∧ (gp_in (gp_mk L s27) 105 q1 (gp_wr (v3 + 1)) ∧ (gp_in (gp_mk L s27) 105 q1 (gp_wr (v3 + 2)) ∧ (∃ q29, v2 = some q29 ∧ ((gp_sh (gp_mk L s27) q29).1 = 12 ∧ gs_C L d 3145 3 [gp_r (some q29), gp_i (gp_I s27 q1 (gp_wr (v3 + 1)).toNat), gp_i (gp_I s27 q1 (gp_wr (v3 + 2)).toNat)] s27 (fun r s30 => ∃ x31, r = some (gp_i x31) ∧ gs_E L (d + 1) 4352 1249 [gp_r (some q1), gp_r (some q26), gp_r (some q29), gp_i v3] [] s30 K))))))))))) ∧ ((gp_and (gp_I s q1 v3.toNat) 63) = 5 → (gp_in (gp_mk L s) 105 q1 (gp_wr (v3 + 1)) ∧ (gp_in (gp_mk L s) 105 q1 (gp_wr (v3 + 2)) ∧ (gp_in (gp_mk L s) 105 q1 (gp_wr (v3 + 3)) ∧ (∃ q32, v1 = some q32 ∧ ((gp_sh (gp_mk L s) q32).1 = 11 ∧ gs_C L d 2822 5 [gp_r (some q32), gp_i (gp_I s q1 (gp_wr (v3 + 1)).toNat), gp_i (gp_I s q1 (gp_wr (v3 + 2)).toNat), gp_i (gp_I s q1 (gp_wr (v3 + 3)).toNat)] s (fun r s33 => ∃ x34, r = some (gp_i x34) ∧ (gp_in (gp_mk L s33) 105 q1 (gp_wr (v3 + 1)) ∧ (gp_in (gp_mk L s33) 105 q1 (gp_wr (v3 + 2)) ∧ (gp_in (gp_mk L s33) 105 q1 (gp_wr (v3 + 3)) ∧ (∃ q35, v2 = some q35 ∧ ((gp_sh (gp_mk L s33) q35).1 = 12 ∧ gs_C L d 3146 5 [gp_r (some q35), gp_i (gp_I s33 q1 (gp_wr (v3 + 1)).toNat), gp_i (gp_I s33 q1 (gp_wr (v3 + 2)).toNat), gp_i (gp_I s33 q1 (gp_wr (v3 + 3)).toNat)] s33 (fun r s36 => ∃ x37, r = some (gp_i x37) ∧ gs_E L (d + 1) 4352 1249 [gp_r (some q1), gp_r (some q32), gp_r (some q35), gp_i v3] [] s36 K))))))))))))) ∧ ((gp_and (gp_I s q1 v3.toNat) 63) = 6 → (gp_in (gp_mk L s) 105 q1 (gp_wr (v3 + 1)) ∧ (gp_in (gp_mk L s) 105 q1 (gp_wr (v3 + 2)) ∧ (∃ q38, v1 = some q38 ∧ ((gp_sh (gp_mk L s) q38).1 = 11 ∧ gs_C L d 2823 3 [gp_r (some q38), gp_i (gp_I s q1 (gp_wr (v3 + 1)).toNat), gp_i (gp_I s q1 (gp_wr (v3 + 2)).toNat)] s (fun r s39 => ∃ x40, r = some (gp_i x40) ∧ (gp_in (gp_mk L s39) 105 q1 (gp_wr (v3 + 1)) ∧ (gp_in (gp_mk L s39) 105 q1 (gp_wr (v3 + 2)) ∧ (∃ q41, v2 = some q41 ∧ ((gp_sh (gp_mk L s39) q41).1 = 12 ∧ gs_C L d 3147 3 [gp_r (some q41), gp_i (gp_I s39 q1 (gp_wr (v3 + 1)).toNat), gp_i (gp_I s39 q1 (gp_wr (v3 + 2)).toNat)] s39 (fun r s42 => ∃ x43, r = some (gp_i x43) ∧ gs_E L (d + 1) 4352 1249 [gp_r (some q1), gp_r (some q38), gp_r (some q41), gp_i v3] [] s42 K))))))))))) ∧ ((gp_and (gp_I s q1 v3.toNat) 63) = 7 → (gp_in (gp_mk L s) 105 q1 (gp_wr (v3 + 1)) ∧ (gp_in (gp_mk L s) 105 q1 (gp_wr (v3 + 2)) ∧ (gp_in (gp_mk L s) 105 q1 (gp_wr (v3 + 3)) ∧ (gp_in (gp_mk L s) 105 q1 (gp_wr (v3 + 4)) ∧ (∃ q44, v1 = some q44 ∧ ((gp_sh (gp_mk L s) q44).1 = 11 ∧ gs_C L d 2824 8 [gp_r (some q44), gp_i (gp_I s q1 (gp_wr (v3 + 1)).toNat), gp_i (gp_I s q1 (gp_wr (v3 + 2)).toNat), gp_i (gp_I s q1 (gp_wr (v3 + 3)).toNat), gp_i (gp_I s q1 (gp_wr (v3 + 4)).toNat)] s (fun r s45 => ∃ x46, r = some (gp_i x46) ∧ (gp_in (gp_mk L s45) 105 q1 (gp_wr (v3 + 1)) ∧ (gp_in (gp_mk L s45) 105 q1 (gp_wr (v3 + 2)) ∧ (gp_in (gp_mk L s45) 105 q1 (gp_wr (v3 + 3)) ∧ (gp_in (gp_mk L s45) 105 q1 (gp_wr (v3 + 4)) ∧ (∃ q47, v2 = some q47 ∧ ((gp_sh (gp_mk L s45) q47).1 = 12 ∧ gs_C L d 3149 6 [gp_r (some q47), gp_i (gp_I s45 q1 (gp_wr (v3 + 1)).toNat), gp_i (gp_I s45 q1 (gp_wr (v3 + 2)).toNat), gp_i (gp_I s45 q1 (gp_wr (v3 + 3)).toNat), gp_i (gp_I s45 q1 (gp_wr (v3 + 4)).toNat)] s45 (fun r s48 => ∃ x49, r = some (gp_i x49) ∧ gs_E L (d + 1) 4352 1249 [gp_r (some q1), gp_r (some q44), gp_r (some q47), gp_i v3] [] s48 K))))))))))))))) ∧ ((gp_and (gp_I s q1 v3.toNat) 63) = 8 → (gp_in (gp_mk L s) 105 q1 (gp_wr (v3 + 1)) ∧ (gp_in (gp_mk L s) 105 q1 (gp_wr (v3 + 2)) ∧ (∃ q50, v1 = some q50 ∧ ((gp_sh (gp_mk L s) q50).1 = 11 ∧ gs_C L d 2825 5 [gp_r (some q50), gp_i (gp_I s q1 (gp_wr (v3 + 1)).toNat), gp_i (gp_I s q1 (gp_wr (v3 + 2)).toNat)] s (fun r s51 => ∃ x52, r = some (gp_i x52) ∧ (gp_in (gp_mk L s51) 105 q1 (gp_wr (v3 + 1)) ∧ (gp_in (gp_mk L s51) 105 q1 (gp_wr (v3 + 2)) ∧ (∃ q53, v2 = some q53 ∧ ((gp_sh (gp_mk L s51) q53).1 = 12 ∧ gs_C L d 3150 4 [gp_r (some q53), gp_i (gp_I s51 q1 (gp_wr (v3 + 1)).toNat), gp_i (gp_I s51 q1 (gp_wr (v3 + 2)).toNat)] s51 (fun r s54 => ∃ x55, r = some (gp_i x55) ∧ gs_E L (d + 1) 4352 1249 [gp_r (some q1), gp_r (some q50), gp_r (some q53), gp_i v3] [] s54 K))))))))))) ∧ ((gp_and (gp_I s q1 v3.toNat) 63) = 9 → (gp_in (gp_mk L s) 105 q1 (gp_wr (v3 + 1)) ∧ (gp_in (gp_mk L s) 105 q1 (gp_wr (v3 + 2)) ∧ (∃ q56, v1 = some q56 ∧ ((gp_sh (gp_mk L s) q56).1 = 11 ∧ gs_C L d 2827 3 [gp_r (some q56), gp_i (gp_I s q1 (gp_wr (v3 + 1)).toNat), gp_i (gp_I s q1 (gp_wr (v3 + 2)).toNat)] s (fun r s57 => ∃ x58, r = some (gp_i x58) ∧ (gp_in (gp_mk L s57) 105 q1 (gp_wr (v3 + 1)) ∧ (gp_in (gp_mk L s57) 105 q1 (gp_wr (v3 + 2)) ∧ (∃ q59, v2 = some q59 ∧ ((gp_sh (gp_mk L s57) q59).1 = 12 ∧ gs_C L d 3151 3 [gp_r (some q59), gp_i (gp_I s57 q1 (gp_wr (v3 + 1)).toNat), gp_i (gp_I s57 q1 (gp_wr (v3 + 2)).toNat)] s57 (fun r s60 => ∃ x61, r = some (gp_i x61) ∧ gs_E L (d + 1) 4352 1249 [gp_r (some q1), gp_r (some q56), gp_r (some q59), gp_i v3] [] s60 K))))))))))) ∧ ((gp_and (gp_I s q1 v3.toNat) 63) = 10 → (gp_in (gp_mk L s) 105 q1 (gp_wr (v3 + 1)) ∧ (gp_in (gp_mk L s) 105 q1 (gp_wr (v3 + 2)) ∧ (∃ q62, v1 = some q62 ∧ ((gp_sh (gp_mk L s) q62).1 = 11 ∧ gs_C L d 2828 4 [gp_r (some q62), gp_i (gp_I s q1 (gp_wr (v3 + 1)).toNat), gp_i (gp_I s q1 (gp_wr (v3 + 2)).toNat)] s (fun r s63 => ∃ x64, r = some (gp_i x64) ∧ (gp_in (gp_mk L s63) 105 q1 (gp_wr (v3 + 1)) ∧ (gp_in (gp_mk L s63) 105 q1 (gp_wr (v3 + 2)) ∧ (∃ q65, v2 = some q65 ∧ ((gp_sh (gp_mk L s63) q65).1 = 12 ∧ gs_C L d 3152 4 [gp_r (some q65), gp_i (gp_I s63 q1 (gp_wr (v3 + 1)).toNat), gp_i (gp_I s63 q1 (gp_wr (v3 + 2)).toNat)] s63 (fun r s66 => ∃ x67, r = some (gp_i x67) ∧ gs_E L (d + 1) 4352 1249 [gp_r (some q1), gp_r (some q62), gp_r (some q65), gp_i v3] [] s66 K))))))))))) ∧ ((gp_and (gp_I s q1 v3.toNat) 63) = 11 → (gp_in (gp_mk L s) 105 q1 (gp_wr (v3 + 1)) ∧ (gp_in (gp_mk L s) 105 q1 (gp_wr (v3 + 2)) ∧ (gp_in (gp_mk L s) 105 q1 (gp_wr (v3 + 3)) ∧ (gp_in (gp_mk L s) 105 q1 (gp_wr (v3 + 4)) ∧ (∃ q68, v1 = some q68 ∧ ((gp_sh (gp_mk L s) q68).1 = 11 ∧ gs_C L d 2830 11 [gp_r (some q68), gp_i (gp_I s q1 (gp_wr (v3 + 1)).toNat), gp_i (gp_I s q1 (gp_wr (v3 + 2)).toNat), gp_i (gp_I s q1 (gp_wr (v3 + 3)).toNat), gp_i (gp_I s q1 (gp_wr (v3 + 4)).toNat)] s (fun r s69 => ∃ x70, r = some (gp_i x70) ∧ (gp_in (gp_mk L s69) 105 q1 (gp_wr (v3 + 1)) ∧ (gp_in (gp_mk L s69) 105 q1 (gp_wr (v3 + 2)) ∧ (gp_in (gp_mk L s69) 105 q1 (gp_wr (v3 + 3)) ∧ (gp_in (gp_mk L s69) 105 q1 (gp_wr (v3 + 4)) ∧ (∃ q71, v2 = some q71 ∧ ((gp_sh (gp_mk L s69) q71).1 = 12 ∧ gs_C L d 3153 8 [gp_r (some q71), gp_i (gp_I s69 q1 (gp_wr (v3 + 1)).toNat), gp_i (gp_I s69 q1 (gp_wr (v3 + 2)).toNat), gp_i (gp_I s69 q1 (gp_wr (v3 + 3)).toNat), gp_i (gp_I s69 q1 (gp_wr (v3 + 4)).toNat)] s69 (fun r s72 => ∃ x73, r = some (gp_i x73) ∧ gs_E L (d + 1) 4352 1249 [gp_r (some q1), gp_r (some q68), gp_r (some q71), gp_i v3] [] s72 K))))))))))))))) ∧ ((gp_and (gp_I s q1 v3.toNat) 63) = 12 → (gp_in (gp_mk L s) 105 q1 (gp_wr (v3 + 1)) ∧ (gp_in (gp_mk L s) 105 q1 (gp_wr (v3 + 2)) ∧ (∃ q74, v1 = some q74 ∧ ((gp_sh (gp_mk L s) q74).1 = 11 ∧ gs_C L d 2831 3 [gp_r (some q74), gp_i (gp_I s q1 (gp_wr (v3 + 1)).toNat), gp_i (gp_I s q1 (gp_wr (v3 + 2)).toNat)] s (fun r s75 => ∃ x76, r = some (gp_i x76) ∧ (gp_in (gp_mk L s75) 105 q1 (gp_wr (v3 + 1)) ∧ (gp_in (gp_mk L s75) 105 q1 (gp_wr (v3 + 2)) ∧ (∃ q77, v2 = some q77 ∧ ((gp_sh (gp_mk L s75) q77).1 = 12 ∧ gs_C L d 3154 3 [gp_r (some q77), gp_i (gp_I s75 q1 (gp_wr (v3 + 1)).toNat), gp_i (gp_I s75 q1 (gp_wr (v3 + 2)).toNat)] s75 (fun r s78 => ∃ x79, r = some (gp_i x79) ∧ gs_E L (d + 1) 4352 1249 [gp_r (some q1), gp_r (some q74), gp_r (some q77), gp_i v3] [] s78 K))))))))))) ∧ ((gp_and (gp_I s q1 v3.toNat) 63) = 13 → (gp_in (gp_mk L s) 105 q1 (gp_wr (v3 + 1)) ∧ (gp_in (gp_mk L s) 105 q1 (gp_wr (v3 + 2)) ∧ (∃ q80, v1 = some q80 ∧ ((gp_sh (gp_mk L s) q80).1 = 11 ∧ gs_C L d 2832 3 [gp_r (some q80), gp_i (gp_I s q1 (gp_wr (v3 + 1)).toNat), gp_i (gp_I s q1 (gp_wr (v3 + 2)).toNat)] s (fun r s81 => ∃ x82, r = some (gp_i x82) ∧ (gp_in (gp_mk L s81) 105 q1 (gp_wr (v3 + 1)) ∧ (gp_in (gp_mk L s81) 105 q1 (gp_wr (v3 + 2)) ∧ (∃ q83, v2 = some q83 ∧ ((gp_sh (gp_mk L s81) q83).1 = 12 ∧ gs_C L d 3162 3 [gp_r (some q83), gp_i (gp_I s81 q1 (gp_wr (v3 + 1)).toNat), gp_i (gp_I s81 q1 (gp_wr (v3 + 2)).toNat)] s81 (fun r s84 => ∃ x85, r = some (gp_i x85) ∧ gs_E L (d + 1) 4352 1249 [gp_r (some q1), gp_r (some q80), gp_r (some q83), gp_i v3] [] s84 K))))))))))) ∧ ((gp_and (gp_I s q1 v3.toNat) 63) = 14 → (gp_in (gp_mk L s) 105 q1 (gp_wr (v3 + 1)) ∧ (gp_in (gp_mk L s) 105 q1 (gp_wr (v3 + 2)) ∧ (∃ q86, v1 = some q86 ∧ ((gp_sh (gp_mk L s) q86).1 = 11 ∧ gs_C L d 2833 4 [gp_r (some q86), gp_i (gp_I s q1 (gp_wr (v3 + 1)).toNat), gp_i (gp_I s q1 (gp_wr (v3 + 2)).toNat)] s (fun r s87 => ∃ x88, r = some (gp_i x88) ∧ (gp_in (gp_mk L s87) 105 q1 (gp_wr (v3 + 1)) ∧ (gp_in (gp_mk L s87) 105 q1 (gp_wr (v3 + 2)) ∧ (∃ q89, v2 = some q89 ∧ ((gp_sh (gp_mk L s87) q89).1 = 12 ∧ gs_C L d 3163 4 [gp_r (some q89), gp_i (gp_I s87 q1 (gp_wr (v3 + 1)).toNat), gp_i (gp_I s87 q1 (gp_wr (v3 + 2)).toNat)] s87 (fun r s90 => ∃ x91, r = some (gp_i x91) ∧ gs_E L (d + 1) 4352 1249 [gp_r (some q1), gp_r (some q86), gp_r (some q89), gp_i v3] [] s90 K))))))))))) ∧ ((gp_and (gp_I s q1 v3.toNat) 63) = 15 → (gp_in (gp_mk L s) 105 q1 (gp_wr (v3 + 1)) ∧ (gp_in (gp_mk L s) 105 q1 (gp_wr (v3 + 2)) ∧ (∃ q92, v1 = some q92 ∧ ((gp_sh (gp_mk L s) q92).1 = 11 ∧ gs_C L d 2834 3 [gp_r (some q92), gp_i (gp_I s q1 (gp_wr (v3 + 1)).toNat), gp_i (gp_I s q1 (gp_wr (v3 + 2)).toNat)] s (fun r s93 => ∃ x94, r = some (gp_i x94) ∧ (gp_in (gp_mk L s93) 105 q1 (gp_wr (v3 + 1)) ∧ (gp_in (gp_mk L s93) 105 q1 (gp_wr (v3 + 2)) ∧ (∃ q95, v2 = some q95 ∧ ((gp_sh (gp_mk L s93) q95).1 = 12 ∧ gs_C L d 3168 4 [gp_r (some q95), gp_i (gp_I s93 q1 (gp_wr (v3 + 1)).toNat), gp_i (gp_I s93 q1 (gp_wr (v3 + 2)).toNat)] s93 (fun r s96 => ∃ x97, r = some (gp_i x97) ∧ gs_E L (d + 1) 4352 1249 [gp_r (some q1), gp_r (some q92), gp_r (some q95), gp_i v3] [] s96 K))))))))))) ∧ ((gp_and (gp_I s q1 v3.toNat) 63) = 16 → (gp_in (gp_mk L s) 105 q1 (gp_wr (v3 + 1)) ∧ (gp_in (gp_mk L s) 105 q1 (gp_wr (v3 + 2)) ∧ (∃ q98, v1 = some q98 ∧ ((gp_sh (gp_mk L s) q98).1 = 11 ∧ gs_C L d 2835 4 [gp_r (some q98), gp_i (gp_I s q1 (gp_wr (v3 + 1)).toNat), gp_i (gp_I s q1 (gp_wr (v3 + 2)).toNat)] s (fun r s99 => ∃ x100, r = some (gp_i x100) ∧ (gp_in (gp_mk L s99) 105 q1 (gp_wr (v3 + 1)) ∧ (gp_in (gp_mk L s99) 105 q1 (gp_wr (v3 + 2)) ∧ (∃ q101, v2 = some q101 ∧ ((gp_sh (gp_mk L s99) q101).1 = 12 ∧ gs_C L d 3171 4 [gp_r (some q101), gp_i (gp_I s99 q1 (gp_wr (v3 + 1)).toNat), gp_i (gp_I s99 q1 (gp_wr (v3 + 2)).toNat)] s99 (fun r s102 => ∃ x103, r = some (gp_i x103) ∧ gs_E L (d + 1) 4352 1249 [gp_r (some q1), gp_r (some q98), gp_r (some q101), gp_i v3] [] s102 K))))))))))) ∧ ((gp_and (gp_I s q1 v3.toNat) 63) = 17 → (gp_in (gp_mk L s) 105 q1 (gp_wr (v3 + 1)) ∧ (∃ q104, v1 = some q104 ∧ ((gp_sh (gp_mk L s) q104).1 = 11 ∧ gs_C L d 2836 3 [gp_r (some q104), gp_i (gp_I s q1 (gp_wr (v3 + 1)).toNat)] s (fun r s105 => ∃ x106, r = some (gp_i x106) ∧ (gp_in (gp_mk L s105) 105 q1 (gp_wr (v3 + 1)) ∧ (∃ q107, v2 = some q107 ∧ ((gp_sh (gp_mk L s105) q107).1 = 12 ∧ gs_C L d 3172 4 [gp_r (some q107), gp_i (gp_I s105 q1 (gp_wr (v3 + 1)).toNat)] s105 (fun r s108 => ∃ x109, r = some (gp_i x109) ∧ gs_E L (d + 1) 4352 1249 [gp_r (some q1), gp_r (some q104), gp_r (some q107), gp_i v3] [] s108 K))))))))) ∧ ((gp_and (gp_I s q1 v3.toNat) 63) = 18 → (gp_in (gp_mk L s) 105 q1 (gp_wr (v3 + 1)) ∧ (∃ q110, v1 = some q110 ∧ ((gp_sh (gp_mk L s) q110).1 = 11 ∧ gs_C L d 2837 3 [gp_r (some q110), gp_i (gp_I s q1 (gp_wr (v3 + 1)).toNat)] s (fun r s111 => ∃ x112, r = some (gp_i x112) ∧ (gp_in (gp_mk L s111) 105 q1 (gp_wr (v3 + 1)) ∧ (∃ q113, v2 = some q113 ∧ ((gp_sh (gp_mk L s111) q113).1 = 12 ∧ gs_C L d 3173 5 [gp_r (some q113), gp_i (gp_I s111 q1 (gp_wr (v3 + 1)).toNat)] s111 (fun r s114 => ∃ x115, r = some (gp_i x115) ∧ gs_E L (d + 1) 4352 1249 [gp_r (some q1), gp_r (some q110), gp_r (some q113), gp_i v3] [] s114 K))))))))) ∧ ((gp_and (gp_I s q1 v3.toNat) 63) = 19 → (∃ q116, v1 = some q116 ∧ ((gp_sh (gp_mk L s) q116).1 = 11 ∧ gs_C L d 2838 1 [gp_r (some q116)] s (fun r s117 => ∃ x118, r = some (gp_i x118) ∧ (∃ q119, v2 = some q119 ∧ ((gp_sh (gp_mk L s117) q119).1 = 12 ∧ gs_C L d 3174 1 [gp_r (some q119)] s117 (fun r s120 => ∃ x121, r = some (gp_i x121) ∧ gs_E L (d + 1) 4352 1249 [gp_r (some q1), gp_r (some q116), gp_r (some q119), gp_i v3] [] s120 K))))))) ∧ ((gp_and (gp_I s q1 v3.toNat) 63) = 20 → (gp_in (gp_mk L s) 105 q1 (gp_wr (v3 + 1)) ∧ (∃ q122, v1 = some q122 ∧ ((gp_sh (gp_mk L s) q122).1 = 11 ∧ gs_C L d 2839 2 [gp_r (some q122), gp_i (gp_I s q1 (gp_wr (v3 + 1)).toNat)] s (fun r s123 => ∃ x124, r = some (gp_i x124) ∧ (gp_in (gp_mk L s123) 105 q1 (gp_wr (v3 + 1)) ∧ (∃ q125, v2 = some q125 ∧ ((gp_sh (gp_mk L s123) q125).1 = 12 ∧ gs_C L d 3175 4 [gp_r (some q125), gp_i (gp_I s123 q1 (gp_wr (v3 + 1)).toNat)] s123 (fun r s126 => ∃ x127, r = some (gp_i x127) ∧ gs_E L (d + 1) 4352 1249 [gp_r (some q1), gp_r (some q122), gp_r (some q125), gp_i v3] [] s126 K))))))))) ∧ ((gp_and (gp_I s q1 v3.toNat) 63) = 21 → (gp_in (gp_mk L s) 105 q1 (gp_wr (v3 + 1)) ∧ (∃ q128, v1 = some q128 ∧ ((gp_sh (gp_mk L s) q128).1 = 11 ∧ gs_C L d 2840 2 [gp_r (some q128), gp_i (gp_I s q1 (gp_wr (v3 + 1)).toNat)] s (fun r s129 => ∃ x130, r = some (gp_i x130) ∧ (gp_in (gp_mk L s129) 105 q1 (gp_wr (v3 + 1)) ∧ (∃ q131, v2 = some q131 ∧ ((gp_sh (gp_mk L s129) q131).1 = 12 ∧ gs_C L d 3176 2 [gp_r (some q131), gp_i (gp_I s129 q1 (gp_wr (v3 + 1)).toNat)] s129 (fun r s132 => ∃ x133, r = some (gp_i x133) ∧ gs_E L (d + 1) 4352 1249 [gp_r (some q1), gp_r (some q128), gp_r (some q131), gp_i v3] [] s132 K))))))))) ∧ ((gp_and (gp_I s q1 v3.toNat) 63) = 22 → (gp_in (gp_mk L s) 105 q1 (gp_wr (v3 + 1)) ∧ (gp_in (gp_mk L s) 105 q1 (gp_wr (v3 + 2)) ∧ (∃ q134, v1 = some q134 ∧ ((gp_sh (gp_mk L s) q134).1 = 11 ∧ gs_C L d 2841 4 [gp_r (some q134), gp_i (gp_I s q1 (gp_wr (v3 + 1)).toNat), gp_i (gp_I s q1 (gp_wr (v3 + 2)).toNat)] s (fun r s135 => ∃ x136, r = some (gp_i x136) ∧ (gp_in (gp_mk L s135) 105 q1 (gp_wr (v3 + 1)) ∧ (gp_in (gp_mk L s135) 105 q1 (gp_wr (v3 + 2)) ∧ (∃ q137, v2 = some q137 ∧ ((gp_sh (gp_mk L s135) q137).1 = 12 ∧ gs_C L d 3177 4 [gp_r (some q137), gp_i (gp_I s135 q1 (gp_wr (v3 + 1)).toNat), gp_i (gp_I s135 q1 (gp_wr (v3 + 2)).toNat)] s135 (fun r s138 => ∃ x139, r = some (gp_i x139) ∧ gs_E L (d + 1) 4352 1249 [gp_r (some q1), gp_r (some q134), gp_r (some q137), gp_i v3] [] s138 K))))))))))) ∧ ((gp_and (gp_I s q1 v3.toNat) 63) = 23 → (gp_in (gp_mk L s) 105 q1 (gp_wr (v3 + 1)) ∧ (gp_in (gp_mk L s) 105 q1 (gp_wr (v3 + 2)) ∧ (gp_in (gp_mk L s) 105 q1 (gp_wr (v3 + 3)) ∧ (∃ q140, v1 = some q140 ∧ ((gp_sh (gp_mk L s) q140).1 = 11 ∧ gs_C L d 2842 4 [gp_r (some q140), gp_i (gp_I s q1 (gp_wr (v3 + 1)).toNat), gp_i (gp_I s q1 (gp_wr (v3 + 2)).toNat), gp_i (gp_I s q1 (gp_wr (v3 + 3)).toNat)] s (fun r s141 => ∃ x142, r = some (gp_i x142) ∧ (gp_in (gp_mk L s141) 105 q1 (gp_wr (v3 + 1)) ∧ (gp_in (gp_mk L s141) 105 q1 (gp_wr (v3 + 2)) ∧ (gp_in (gp_mk L s141) 105 q1 (gp_wr (v3 + 3)) ∧ (∃ q143, v2 = some q143 ∧ ((gp_sh (gp_mk L s141) q143).1 = 12 ∧ gs_C L d 3178 5 [gp_r (some q143), gp_i (gp_I s141 q1 (gp_wr (v3 + 1)).toNat), gp_i (gp_I s141 q1 (gp_wr (v3 + 2)).toNat), gp_i (gp_I s141 q1 (gp_wr (v3 + 3)).toNat)] s141 (fun r s144 => ∃ x145, r = some (gp_i x145) ∧ gs_E L (d + 1) 4352 1249 [gp_r (some q1), gp_r (some q140), gp_r (some q143), gp_i v3] [] s144 K))))))))))))) ∧ ((gp_and (gp_I s q1 v3.toNat) 63) = 24 → (gp_in (gp_mk L s) 105 q1 (gp_wr (v3 + 1)) ∧ (gp_in (gp_mk L s) 105 q1 (gp_wr (v3 + 2)) ∧ (gp_in (gp_mk L s) 105 q1 (gp_wr (v3 + 3)) ∧ (∃ q146, v1 = some q146 ∧ ((gp_sh (gp_mk L s) q146).1 = 11 ∧ gs_C L d 2843 4 [gp_r (some q146), gp_i (gp_I s q1 (gp_wr (v3 + 1)).toNat), gp_i (gp_I s q1 (gp_wr (v3 + 2)).toNat), gp_i (gp_I s q1 (gp_wr (v3 + 3)).toNat)] s (fun r s147 => ∃ x148, r = some (gp_i x148) ∧ (gp_in (gp_mk L s147) 105 q1 (gp_wr (v3 + 1)) ∧ (gp_in (gp_mk L s147) 105 q1 (gp_wr (v3 + 2)) ∧ (gp_in (gp_mk L s147) 105 q1 (gp_wr (v3 + 3)) ∧ (∃ q149, v2 = some q149 ∧ ((gp_sh (gp_mk L s147) q149).1 = 12 ∧ gs_C L d 3180 6 [gp_r (some q149), gp_i (gp_I s147 q1 (gp_wr (v3 + 1)).toNat), gp_i (gp_I s147 q1 (gp_wr (v3 + 2)).toNat), gp_i (gp_I s147 q1 (gp_wr (v3 + 3)).toNat)] s147 (fun r s150 => ∃ x151, r = some (gp_i x151) ∧ gs_E L (d + 1) 4352 1249 [gp_r (some q1), gp_r (some q146), gp_r (some q149), gp_i v3] [] s150 K))))))))))))) ∧ ((gp_and (gp_I s q1 v3.toNat) 63) = 25 → (gp_in (gp_mk L s) 105 q1 (gp_wr (v3 + 1)) ∧ (gp_in (gp_mk L s) 105 q1 (gp_wr (v3 + 2)) ∧ (∃ q152, v1 = some q152 ∧ ((gp_sh (gp_mk L s) q152).1 = 11 ∧ gs_C L d 2844 3 [gp_r (some q152), gp_i (gp_I s q1 (gp_wr (v3 + 1)).toNat), gp_i (gp_I s q1 (gp_wr (v3 + 2)).toNat)] s (fun r s153 => ∃ x154, r = some (gp_i x154) ∧ (gp_in (gp_mk L s153) 105 q1 (gp_wr (v3 + 1)) ∧ (gp_in (gp_mk L s153) 105 q1 (gp_wr (v3 + 2)) ∧ (∃ q155, v2 = some q155 ∧ ((gp_sh (gp_mk L s153) q155).1 = 12 ∧ gs_C L d 3181 4 [gp_r (some q155), gp_i (gp_I s153 q1 (gp_wr (v3 + 1)).toNat), gp_i (gp_I s153 q1 (gp_wr (v3 + 2)).toNat)] s153 (fun r s156 => ∃ x157, r = some (gp_i x157) ∧ gs_E L (d + 1) 4352 1249 [gp_r (some q1), gp_r (some q152), gp_r (some q155), gp_i v3] [] s156 K))))))))))) ∧ ((gp_and (gp_I s q1 v3.toNat) 63) = 26 → (gp_in (gp_mk L s) 105 q1 (gp_wr (v3 + 1)) ∧ (gp_in (gp_mk L s) 105 q1 (gp_wr (v3 + 2)) ∧ (gp_in (gp_mk L s) 105 q1 (gp_wr (v3 + 3)) ∧ (gp_in (gp_mk L s) 105 q1 (gp_wr (v3 + 4)) ∧ (gp_in (gp_mk L s) 105 q1 (gp_wr (v3 + 5)) ∧ (∃ q158, v1 = some q158 ∧ ((gp_sh (gp_mk L s) q158).1 = 11 ∧ gs_C L d 2845 6 [gp_r (some q158), gp_i (gp_I s q1 (gp_wr (v3 + 1)).toNat), gp_i (gp_I s q1 (gp_wr (v3 + 2)).toNat), gp_i (gp_I s q1 (gp_wr (v3 + 3)).toNat), gp_i (gp_I s q1 (gp_wr (v3 + 4)).toNat), gp_i (gp_I s q1 (gp_wr (v3 + 5)).toNat)] s (fun r s159 => ∃ x160, r = some (gp_i x160) ∧ (gp_in (gp_mk L s159) 105 q1 (gp_wr (v3 + 1)) ∧ (gp_in (gp_mk L s159) 105 q1 (gp_wr (v3 + 2)) ∧ (gp_in (gp_mk L s159) 105 q1 (gp_wr (v3 + 3)) ∧ (gp_in (gp_mk L s159) 105 q1 (gp_wr (v3 + 4)) ∧ (gp_in (gp_mk L s159) 105 q1 (gp_wr (v3 + 5)) ∧ (∃ q161, v2 = some q161 ∧ ((gp_sh (gp_mk L s159) q161).1 = 12 ∧ gs_C L d 3182 7 [gp_r (some q161), gp_i (gp_I s159 q1 (gp_wr (v3 + 1)).toNat), gp_i (gp_I s159 q1 (gp_wr (v3 + 2)).toNat), gp_i (gp_I s159 q1 (gp_wr (v3 + 3)).toNat), gp_i (gp_I s159 q1 (gp_wr (v3 + 4)).toNat), gp_i (gp_I s159 q1 (gp_wr (v3 + 5)).toNat)] s159 (fun r s162 => ∃ x163, r = some (gp_i x163) ∧ gs_E L (d + 1) 4352 1249 [gp_r (some q1), gp_r (some q158), gp_r (some q161), gp_i v3] [] s162 K))))))))))))))))) ∧ ((gp_and (gp_I s q1 v3.toNat) 63) = 27 → (gp_in (gp_mk L s) 105 q1 (gp_wr (v3 + 1)) ∧ (gp_in (gp_mk L s) 105 q1 (gp_wr (v3 + 2)) ∧ (∃ q164, v1 = some q164 ∧ ((gp_sh (gp_mk L s) q164).1 = 11 ∧ gs_C L d 2846 4 [gp_r (some q164), gp_i (gp_I s q1 (gp_wr (v3 + 1)).toNat), gp_i (gp_I s q1 (gp_wr (v3 + 2)).toNat)] s (fun r s165 => ∃ x166, r = some (gp_i x166) ∧ (gp_in (gp_mk L s165) 105 q1 (gp_wr (v3 + 1)) ∧ (gp_in (gp_mk L s165) 105 q1 (gp_wr (v3 + 2)) ∧ (∃ q167, v2 = some q167 ∧ ((gp_sh (gp_mk L s165) q167).1 = 12 ∧ gs_C L d 3183 4 [gp_r (some q167), gp_i (gp_I s165 q1 (gp_wr (v3 + 1)).toNat), gp_i (gp_I s165 q1 (gp_wr (v3 + 2)).toNat)] s165 (fun r s168 => ∃ x169, r = some (gp_i x169) ∧ gs_E L (d + 1) 4352 1249 [gp_r (some q1), gp_r (some q164), gp_r (some q167), gp_i v3] [] s168 K))))))))))) ∧ ((gp_and (gp_I s q1 v3.toNat) 63) = 28 → (gp_in (gp_mk L s) 105 q1 (gp_wr (v3 + 1)) ∧ (∃ q170, v1 = some q170 ∧ ((gp_sh (gp_mk L s) q170).1 = 11 ∧ gs_C L d 2847 3 [gp_r (some q170), gp_i (gp_I s q1 (gp_wr (v3 + 1)).toNat)] s (fun r s171 => ∃ x172, r = some (gp_i x172) ∧ (gp_in (gp_mk L s171) 105 q1 (gp_wr (v3 + 1)) ∧ (∃ q173, v2 = some q173 ∧ ((gp_sh (gp_mk L s171) q173).1 = 12 ∧ gs_C L d 3184 3 [gp_r (some q173), gp_i (gp_I s171 q1 (gp_wr (v3 + 1)).toNat)] s171 (fun r s174 => ∃ x175, r = some (gp_i x175) ∧ gs_E L (d + 1) 4352 1249 [gp_r (some q1), gp_r (some q170), gp_r (some q173), gp_i v3] [] s174 K))))))))) ∧ ((gp_and (gp_I s q1 v3.toNat) 63) = 29 → (∃ q176, v1 = some q176 ∧ ((gp_sh (gp_mk L s) q176).1 = 11 ∧ gs_C L d 2848 2 [gp_r (some q176)] s (fun r s177 => ∃ x178, r = some (gp_i x178) ∧ (∃ q179, v2 = some q179 ∧ ((gp_sh (gp_mk L s177) q179).1 = 12 ∧ gs_C L d 3186 2 [gp_r (some q179)] s177 (fun r s180 => ∃ x181, r = some (gp_i x181) ∧ gs_E L (d + 1) 4352 1249 [gp_r (some q1), gp_r (some q176), gp_r (some q179), gp_i v3] [] s180 K))))))) ∧ ((gp_and (gp_I s q1 v3.toNat) 63) = 30 → (∃ q182, v1 = some q182 ∧ ((gp_sh (gp_mk L s) q182).1 = 11 ∧ gs_C L d 2849 2 [gp_r (some q182)] s (fun r s183 => ∃ x184, r = some (gp_i x184) ∧ (∃ q185, v2 = some q185 ∧ ((gp_sh (gp_mk L s183) q185).1 = 12 ∧ gs_C L d 3187 2 [gp_r (some q185)] s183 (fun r s186 => ∃ x187, r = some (gp_i x187) ∧ gs_E L (d + 1) 4352 1249 [gp_r (some q1), gp_r (some q182), gp_r (some q185), gp_i v3] [] s186 K))))))) ∧ ((gp_and (gp_I s q1 v3.toNat) 63) = 31 → (gp_in (gp_mk L s) 105 q1 (gp_wr (v3 + 1)) ∧ (∃ q188, v1 = some q188 ∧ ((gp_sh (gp_mk L s) q188).1 = 11 ∧ gs_C L d 2850 2 [gp_r (some q188), gp_i (gp_I s q1 (gp_wr (v3 + 1)).toNat)] s (fun r s189 => ∃ x190, r = some (gp_i x190) ∧ (gp_in (gp_mk L s189) 105 q1 (gp_wr (v3 + 1)) ∧ (∃ q191, v2 = some q191 ∧ ((gp_sh (gp_mk L s189) q191).1 = 12 ∧ gs_C L d 3188 4 [gp_r (some q191), gp_i (gp_I s189 q1 (gp_wr (v3 + 1)).toNat)] s189 (fun r s192 => ∃ x193, r = some (gp_i x193) ∧ gs_E L (d + 1) 4352 1249 [gp_r (some q1), gp_r (some q188), gp_r (some q191), gp_i v3] [] s192 K))))))))) ∧ ((gp_and (gp_I s q1 v3.toNat) 63) = 32 → (gp_in (gp_mk L s) 105 q1 (gp_wr (v3 + 1)) ∧ (∃ q194, v1 = some q194 ∧ ((gp_sh (gp_mk L s) q194).1 = 11 ∧ gs_C L d 2851 2 [gp_r (some q194), gp_i (gp_I s q1 (gp_wr (v3 + 1)).toNat)] s (fun r s195 => ∃ x196, r = some (gp_i x196) ∧ (gp_in (gp_mk L s195) 105 q1 (gp_wr (v3 + 1)) ∧ (∃ q197, v2 = some q197 ∧ ((gp_sh (gp_mk L s195) q197).1 = 12 ∧ gs_C L d 3189 2 [gp_r (some q197), gp_i (gp_I s195 q1 (gp_wr (v3 + 1)).toNat)] s195 (fun r s198 => ∃ x199, r = some (gp_i x199) ∧ gs_E L (d + 1) 4352 1249 [gp_r (some q1), gp_r (some q194), gp_r (some q197), gp_i v3] [] s198 K))))))))) ∧ (((gp_and (gp_I s q1 v3.toNat) 63) < 0 ∨ 32 < (gp_and (gp_I s q1 v3.toNat) 63)) → gs_E L (d + 1) 4352 1249 [gp_r (some q1), gp_r v1, gp_r v2, gp_i v3] [] s K)))))))) : gs_E L (d + 1) 4352 18 [gp_r v0, gp_r v1, gp_r v2, gp_i v3] [] s K := by
  refine gs_E.stp (pc' := 20) (ls' := [gp_r v0, gp_r v1, gp_r v2, gp_i v3]) (st' := [gp_r v0, gp_i v3]) (s' := s) 2 rfl ?_
  obtain ⟨q1, hq, H⟩ := H
  rw [hq]
  refine gs_E.len rfl H.1.1 H.1.2 rfl ?_
  replace H := H.2
  refine gs_E.stp (pc' := 24) (ls' := [gp_r (some q1), gp_r v1, gp_r v2, gp_i v3]) (st' := [gp_i (gp_wr (((gp_sh (gp_mk L s) q1).2 : Int) - 6)), gp_i v3]) (s' := s) 2 rfl ?_
  refine gs_E.br (c := (gp_wr (((gp_sh (gp_mk L s) q1).2 : Int) - 6)) < v3) (p1 := 1255) (p2 := 27) (l1 := [gp_r (some q1), gp_r v1, gp_r v2, gp_i v3]) (l2 := [gp_r (some q1), gp_r v1, gp_r v2, gp_i v3]) (s1 := []) (s2 := []) rfl gs_b1 (fun hc => ?_) (fun hc => ?_)
  · replace H := H.1 hc
    refine gs_E.stp (pc' := 1256) (ls' := [gp_r (some q1), gp_r v1, gp_r v2, gp_i v3]) (st' := [gp_i 1]) (s' := s) 1 rfl ?_
    exact gs_E.ret (r := (some (gp_i 1))) rfl H
  · replace H := H.2 hc
    refine gs_E.stp (pc' := 29) (ls' := [gp_r (some q1), gp_r v1, gp_r v2, gp_i v3]) (st' := [gp_i v3, gp_r (some q1)]) (s' := s) 2 rfl ?_
    refine gs_E.ck (pc' := 30) (ls' := [gp_r (some q1), gp_r v1, gp_r v2, gp_i v3]) (st' := [gp_i (gp_I s q1 v3.toNat)]) (s' := s) rfl (Or.inr H.1) ?_
    replace H := H.2
    refine gs_E.stp (pc' := 33) (ls' := [gp_r (some q1), gp_r v1, gp_r v2, gp_i v3]) (st' := [gp_i (gp_and (gp_I s q1 v3.toNat) 63)]) (s' := s) 2 rfl ?_
    have hsw : ((gp_and (gp_I s q1 v3.toNat) 63) = 0 ∨ (gp_and (gp_I s q1 v3.toNat) 63) = 1 ∨ (gp_and (gp_I s q1 v3.toNat) 63) = 2 ∨ (gp_and (gp_I s q1 v3.toNat) 63) = 3 ∨ (gp_and (gp_I s q1 v3.toNat) 63) = 4 ∨ (gp_and (gp_I s q1 v3.toNat) 63) = 5 ∨ (gp_and (gp_I s q1 v3.toNat) 63) = 6 ∨ (gp_and (gp_I s q1 v3.toNat) 63) = 7 ∨ (gp_and (gp_I s q1 v3.toNat) 63) = 8 ∨ (gp_and (gp_I s q1 v3.toNat) 63) = 9 ∨ (gp_and (gp_I s q1 v3.toNat) 63) = 10 ∨ (gp_and (gp_I s q1 v3.toNat) 63) = 11 ∨ (gp_and (gp_I s q1 v3.toNat) 63) = 12 ∨ (gp_and (gp_I s q1 v3.toNat) 63) = 13 ∨ (gp_and (gp_I s q1 v3.toNat) 63) = 14 ∨ (gp_and (gp_I s q1 v3.toNat) 63) = 15 ∨ (gp_and (gp_I s q1 v3.toNat) 63) = 16 ∨ (gp_and (gp_I s q1 v3.toNat) 63) = 17 ∨ (gp_and (gp_I s q1 v3.toNat) 63) = 18 ∨ (gp_and (gp_I s q1 v3.toNat) 63) = 19 ∨ (gp_and (gp_I s q1 v3.toNat) 63) = 20 ∨ (gp_and (gp_I s q1 v3.toNat) 63) = 21 ∨ (gp_and (gp_I s q1 v3.toNat) 63) = 22 ∨ (gp_and (gp_I s q1 v3.toNat) 63) = 23 ∨ (gp_and (gp_I s q1 v3.toNat) 63) = 24 ∨ (gp_and (gp_I s q1 v3.toNat) 63) = 25 ∨ (gp_and (gp_I s q1 v3.toNat) 63) = 26 ∨ (gp_and (gp_I s q1 v3.toNat) 63) = 27 ∨ (gp_and (gp_I s q1 v3.toNat) 63) = 28 ∨ (gp_and (gp_I s q1 v3.toNat) 63) = 29 ∨ (gp_and (gp_I s q1 v3.toNat) 63) = 30 ∨ (gp_and (gp_I s q1 v3.toNat) 63) = 31 ∨ (gp_and (gp_I s q1 v3.toNat) 63) = 32) ∨ ((gp_and (gp_I s q1 v3.toNat) 63) < 0 ∨ 32 < (gp_and (gp_I s q1 v3.toNat) 63)) := by omega
    rcases hsw with (hsw | hsw | hsw | hsw | hsw | hsw | hsw | hsw | hsw | hsw | hsw | hsw | hsw | hsw | hsw | hsw | hsw | hsw | hsw | hsw | hsw | hsw | hsw | hsw | hsw | hsw | hsw | hsw | hsw | hsw | hsw | hsw | hsw) | hsw
    · replace H := H.1 hsw
      refine gs_E.swi (v := 0) (pc' := 180) (ls' := [gp_r (some q1), gp_r v1, gp_r v2, gp_i v3]) (st' := []) hsw rfl ?_
      refine gs_E.stp (pc' := 185) (ls' := [gp_r (some q1), gp_r v1, gp_r v2, gp_i v3]) (st' := [gp_i (gp_wr (v3 + 1)), gp_r (some q1), gp_r v1]) (s' := s) 5 rfl ?_
      refine gs_E.ck (pc' := 186) (ls' := [gp_r (some q1), gp_r v1, gp_r v2, gp_i v3]) (st' := [gp_i (gp_I s q1 (gp_wr (v3 + 1)).toNat), gp_r v1]) (s' := s) rfl (Or.inr H.1) ?_
      replace H := H.2
      refine gs_E.stp (pc' := 194) (ls' := [gp_r (some q1), gp_r v1, gp_r v2, gp_i v3]) (st' := [gp_i (gp_wr (v3 + 2)), gp_r (some q1), gp_l ((BitVec.ofInt 64 (gp_I s q1 (gp_wr (v3 + 1)).toNat)) <<< 32), gp_r v1]) (s' := s) 7 rfl ?_
      refine gs_E.ck (pc' := 195) (ls' := [gp_r (some q1), gp_r v1, gp_r v2, gp_i v3]) (st' := [gp_i (gp_I s q1 (gp_wr (v3 + 2)).toNat), gp_l ((BitVec.ofInt 64 (gp_I s q1 (gp_wr (v3 + 1)).toNat)) <<< 32), gp_r v1]) (s' := s) rfl (Or.inr H.1) ?_
      replace H := H.2
      refine gs_E.stp (pc' := 205) (ls' := [gp_r (some q1), gp_r v1, gp_r v2, gp_i v3]) (st' := [gp_i (gp_wr (v3 + 3)), gp_r (some q1), gp_l (((BitVec.ofInt 64 (gp_I s q1 (gp_wr (v3 + 1)).toNat)) <<< 32) ||| ((BitVec.ofInt 64 (gp_I s q1 (gp_wr (v3 + 2)).toNat)) &&& (BitVec.ofInt 64 4294967295))), gp_r v1]) (s' := s) 8 rfl ?_
      refine gs_E.ck (pc' := 206) (ls' := [gp_r (some q1), gp_r v1, gp_r v2, gp_i v3]) (st' := [gp_i (gp_I s q1 (gp_wr (v3 + 3)).toNat), gp_l (((BitVec.ofInt 64 (gp_I s q1 (gp_wr (v3 + 1)).toNat)) <<< 32) ||| ((BitVec.ofInt 64 (gp_I s q1 (gp_wr (v3 + 2)).toNat)) &&& (BitVec.ofInt 64 4294967295))), gp_r v1]) (s' := s) rfl (Or.inr H.1) ?_
      replace H := H.2
      obtain ⟨q2, hq, H⟩ := H
      rw [hq]
      refine gs_E.callV (args := [gp_r (some q2), gp_l (((BitVec.ofInt 64 (gp_I s q1 (gp_wr (v3 + 1)).toNat)) <<< 32) ||| ((BitVec.ofInt 64 (gp_I s q1 (gp_wr (v3 + 2)).toNat)) &&& (BitVec.ofInt 64 4294967295))), gp_i (gp_I s q1 (gp_wr (v3 + 3)).toNat)]) (m := 5) (y' := 2817) (st' := []) rfl H.1 H.2 (fun r s3 H => ?_)
      obtain ⟨x4, rfl, H⟩ := H
      show gs_E L (d + 1) 4352 209 [gp_r (some q1), gp_r (some q2), gp_r v2, gp_i v3] [gp_i x4] s3 K
      refine gs_E.stp (pc' := 215) (ls' := [gp_r (some q1), gp_r (some q2), gp_r v2, gp_i v3]) (st' := [gp_i (gp_wr (v3 + 1)), gp_r (some q1), gp_r v2]) (s' := s3) 6 rfl ?_
      refine gs_E.ck (pc' := 216) (ls' := [gp_r (some q1), gp_r (some q2), gp_r v2, gp_i v3]) (st' := [gp_i (gp_I s3 q1 (gp_wr (v3 + 1)).toNat), gp_r v2]) (s' := s3) rfl (Or.inr H.1) ?_
      replace H := H.2
      refine gs_E.stp (pc' := 224) (ls' := [gp_r (some q1), gp_r (some q2), gp_r v2, gp_i v3]) (st' := [gp_i (gp_wr (v3 + 2)), gp_r (some q1), gp_l ((BitVec.ofInt 64 (gp_I s3 q1 (gp_wr (v3 + 1)).toNat)) <<< 32), gp_r v2]) (s' := s3) 7 rfl ?_
      refine gs_E.ck (pc' := 225) (ls' := [gp_r (some q1), gp_r (some q2), gp_r v2, gp_i v3]) (st' := [gp_i (gp_I s3 q1 (gp_wr (v3 + 2)).toNat), gp_l ((BitVec.ofInt 64 (gp_I s3 q1 (gp_wr (v3 + 1)).toNat)) <<< 32), gp_r v2]) (s' := s3) rfl (Or.inr H.1) ?_
      replace H := H.2
      refine gs_E.stp (pc' := 235) (ls' := [gp_r (some q1), gp_r (some q2), gp_r v2, gp_i v3]) (st' := [gp_i (gp_wr (v3 + 3)), gp_r (some q1), gp_l (((BitVec.ofInt 64 (gp_I s3 q1 (gp_wr (v3 + 1)).toNat)) <<< 32) ||| ((BitVec.ofInt 64 (gp_I s3 q1 (gp_wr (v3 + 2)).toNat)) &&& (BitVec.ofInt 64 4294967295))), gp_r v2]) (s' := s3) 8 rfl ?_
      refine gs_E.ck (pc' := 236) (ls' := [gp_r (some q1), gp_r (some q2), gp_r v2, gp_i v3]) (st' := [gp_i (gp_I s3 q1 (gp_wr (v3 + 3)).toNat), gp_l (((BitVec.ofInt 64 (gp_I s3 q1 (gp_wr (v3 + 1)).toNat)) <<< 32) ||| ((BitVec.ofInt 64 (gp_I s3 q1 (gp_wr (v3 + 2)).toNat)) &&& (BitVec.ofInt 64 4294967295))), gp_r v2]) (s' := s3) rfl (Or.inr H.1) ?_
      replace H := H.2
      obtain ⟨q5, hq, H⟩ := H
      rw [hq]
      refine gs_E.callV (args := [gp_r (some q5), gp_l (((BitVec.ofInt 64 (gp_I s3 q1 (gp_wr (v3 + 1)).toNat)) <<< 32) ||| ((BitVec.ofInt 64 (gp_I s3 q1 (gp_wr (v3 + 2)).toNat)) &&& (BitVec.ofInt 64 4294967295))), gp_i (gp_I s3 q1 (gp_wr (v3 + 3)).toNat)]) (m := 5) (y' := 3124) (st' := []) rfl H.1 H.2 (fun r s6 H => ?_)
      obtain ⟨x7, rfl, H⟩ := H
      show gs_E L (d + 1) 4352 239 [gp_r (some q1), gp_r (some q2), gp_r (some q5), gp_i v3] [gp_i x7] s6 K
      refine gs_E.stp (pc' := 1249) (ls' := [gp_r (some q1), gp_r (some q2), gp_r (some q5), gp_i v3]) (st' := []) (s' := s6) 2 rfl ?_
      exact H
    · replace H := H.2.1 hsw
      refine gs_E.swi (v := 1) (pc' := 243) (ls' := [gp_r (some q1), gp_r v1, gp_r v2, gp_i v3]) (st' := []) hsw rfl ?_
      refine gs_E.stp (pc' := 248) (ls' := [gp_r (some q1), gp_r v1, gp_r v2, gp_i v3]) (st' := [gp_i (gp_wr (v3 + 1)), gp_r (some q1), gp_r v1]) (s' := s) 5 rfl ?_
      refine gs_E.ck (pc' := 249) (ls' := [gp_r (some q1), gp_r v1, gp_r v2, gp_i v3]) (st' := [gp_i (gp_I s q1 (gp_wr (v3 + 1)).toNat), gp_r v1]) (s' := s) rfl (Or.inr H.1) ?_
      replace H := H.2
      obtain ⟨q8, hq, H⟩ := H
      rw [hq]
      refine gs_E.callV (args := [gp_r (some q8), gp_i (gp_I s q1 (gp_wr (v3 + 1)).toNat)]) (m := 3) (y' := 2818) (st' := []) rfl H.1 H.2 (fun r s9 H => ?_)
      obtain ⟨x10, rfl, H⟩ := H
      show gs_E L (d + 1) 4352 252 [gp_r (some q1), gp_r (some q8), gp_r v2, gp_i v3] [gp_i x10] s9 K
      refine gs_E.stp (pc' := 257) (ls' := [gp_r (some q1), gp_r (some q8), gp_r v2, gp_i v3]) (st' := [gp_i (gp_wr (v3 + 1)), gp_r (some q1), gp_r v2, gp_i x10]) (s' := s9) 5 rfl ?_
      refine gs_E.ck (pc' := 258) (ls' := [gp_r (some q1), gp_r (some q8), gp_r v2, gp_i v3]) (st' := [gp_i (gp_I s9 q1 (gp_wr (v3 + 1)).toNat), gp_r v2, gp_i x10]) (s' := s9) rfl (Or.inr H.1) ?_
      replace H := H.2
      obtain ⟨q11, hq, H⟩ := H
      rw [hq]
      refine gs_E.callV (args := [gp_r (some q11), gp_i (gp_I s9 q1 (gp_wr (v3 + 1)).toNat)]) (m := 2) (y' := 3139) (st' := [gp_i x10]) rfl H.1 H.2 (fun r s12 H => ?_)
      obtain ⟨x13, rfl, H⟩ := H
      show gs_E L (d + 1) 4352 261 [gp_r (some q1), gp_r (some q8), gp_r (some q11), gp_i v3] [gp_i x13, gp_i x10] s12 K
      refine gs_E.br (c := x10 = x13) (p1 := 1249) (p2 := 264) (l1 := [gp_r (some q1), gp_r (some q8), gp_r (some q11), gp_i v3]) (l2 := [gp_r (some q1), gp_r (some q8), gp_r (some q11), gp_i v3]) (s1 := []) (s2 := []) rfl gs_b1 (fun hc => ?_) (fun hc => ?_)
      · replace H := H.1 hc
        exact H
      · replace H := H.2 hc
        refine gs_E.stp (pc' := 265) (ls' := [gp_r (some q1), gp_r (some q8), gp_r (some q11), gp_i v3]) (st' := [gp_i 0]) (s' := s12) 1 rfl ?_
        exact gs_E.ret (r := (some (gp_i 0))) rfl H
    · replace H := H.2.2.1 hsw
      refine gs_E.swi (v := 2) (pc' := 266) (ls' := [gp_r (some q1), gp_r v1, gp_r v2, gp_i v3]) (st' := []) hsw rfl ?_
      refine gs_E.stp (pc' := 271) (ls' := [gp_r (some q1), gp_r v1, gp_r v2, gp_i v3]) (st' := [gp_i (gp_wr (v3 + 1)), gp_r (some q1), gp_r v1]) (s' := s) 5 rfl ?_
      refine gs_E.ck (pc' := 272) (ls' := [gp_r (some q1), gp_r v1, gp_r v2, gp_i v3]) (st' := [gp_i (gp_I s q1 (gp_wr (v3 + 1)).toNat), gp_r v1]) (s' := s) rfl (Or.inr H.1) ?_
      replace H := H.2
      obtain ⟨q14, hq, H⟩ := H
      rw [hq]
      refine gs_E.callV (args := [gp_r (some q14), gp_i (gp_I s q1 (gp_wr (v3 + 1)).toNat)]) (m := 4) (y' := 2819) (st' := []) rfl H.1 H.2 (fun r s15 H => ?_)
      obtain ⟨x16, rfl, H⟩ := H
      show gs_E L (d + 1) 4352 275 [gp_r (some q1), gp_r (some q14), gp_r v2, gp_i v3] [gp_i x16] s15 K
      refine gs_E.stp (pc' := 281) (ls' := [gp_r (some q1), gp_r (some q14), gp_r v2, gp_i v3]) (st' := [gp_i (gp_wr (v3 + 1)), gp_r (some q1), gp_r v2]) (s' := s15) 6 rfl ?_
      refine gs_E.ck (pc' := 282) (ls' := [gp_r (some q1), gp_r (some q14), gp_r v2, gp_i v3]) (st' := [gp_i (gp_I s15 q1 (gp_wr (v3 + 1)).toNat), gp_r v2]) (s' := s15) rfl (Or.inr H.1) ?_
      replace H := H.2
      obtain ⟨q17, hq, H⟩ := H
      rw [hq]
      refine gs_E.callV (args := [gp_r (some q17), gp_i (gp_I s15 q1 (gp_wr (v3 + 1)).toNat)]) (m := 8) (y' := 3143) (st' := []) rfl H.1 H.2 (fun r s18 H => ?_)
      obtain ⟨x19, rfl, H⟩ := H
      show gs_E L (d + 1) 4352 285 [gp_r (some q1), gp_r (some q14), gp_r (some q17), gp_i v3] [gp_i x19] s18 K
      refine gs_E.stp (pc' := 1249) (ls' := [gp_r (some q1), gp_r (some q14), gp_r (some q17), gp_i v3]) (st' := []) (s' := s18) 2 rfl ?_
      exact H
    · replace H := H.2.2.2.1 hsw
      refine gs_E.swi (v := 3) (pc' := 289) (ls' := [gp_r (some q1), gp_r v1, gp_r v2, gp_i v3]) (st' := []) hsw rfl ?_
      refine gs_E.stp (pc' := 294) (ls' := [gp_r (some q1), gp_r v1, gp_r v2, gp_i v3]) (st' := [gp_i (gp_wr (v3 + 1)), gp_r (some q1), gp_r v1]) (s' := s) 5 rfl ?_
      refine gs_E.ck (pc' := 295) (ls' := [gp_r (some q1), gp_r v1, gp_r v2, gp_i v3]) (st' := [gp_i (gp_I s q1 (gp_wr (v3 + 1)).toNat), gp_r v1]) (s' := s) rfl (Or.inr H.1) ?_
      replace H := H.2
      refine gs_E.stp (pc' := 299) (ls' := [gp_r (some q1), gp_r v1, gp_r v2, gp_i v3]) (st' := [gp_i (gp_wr (v3 + 2)), gp_r (some q1), gp_i (gp_I s q1 (gp_wr (v3 + 1)).toNat), gp_r v1]) (s' := s) 4 rfl ?_
      refine gs_E.ck (pc' := 300) (ls' := [gp_r (some q1), gp_r v1, gp_r v2, gp_i v3]) (st' := [gp_i (gp_I s q1 (gp_wr (v3 + 2)).toNat), gp_i (gp_I s q1 (gp_wr (v3 + 1)).toNat), gp_r v1]) (s' := s) rfl (Or.inr H.1) ?_
      replace H := H.2
      obtain ⟨q20, hq, H⟩ := H
      rw [hq]
      refine gs_E.callV (args := [gp_r (some q20), gp_i (gp_I s q1 (gp_wr (v3 + 1)).toNat), gp_i (gp_I s q1 (gp_wr (v3 + 2)).toNat)]) (m := 3) (y' := 2820) (st' := []) rfl H.1 H.2 (fun r s21 H => ?_)
      obtain ⟨x22, rfl, H⟩ := H
      show gs_E L (d + 1) 4352 303 [gp_r (some q1), gp_r (some q20), gp_r v2, gp_i v3] [gp_i x22] s21 K
      refine gs_E.stp (pc' := 309) (ls' := [gp_r (some q1), gp_r (some q20), gp_r v2, gp_i v3]) (st' := [gp_i (gp_wr (v3 + 1)), gp_r (some q1), gp_r v2]) (s' := s21) 6 rfl ?_
      refine gs_E.ck (pc' := 310) (ls' := [gp_r (some q1), gp_r (some q20), gp_r v2, gp_i v3]) (st' := [gp_i (gp_I s21 q1 (gp_wr (v3 + 1)).toNat), gp_r v2]) (s' := s21) rfl (Or.inr H.1) ?_
      replace H := H.2
      refine gs_E.stp (pc' := 314) (ls' := [gp_r (some q1), gp_r (some q20), gp_r v2, gp_i v3]) (st' := [gp_i (gp_wr (v3 + 2)), gp_r (some q1), gp_i (gp_I s21 q1 (gp_wr (v3 + 1)).toNat), gp_r v2]) (s' := s21) 4 rfl ?_
      refine gs_E.ck (pc' := 315) (ls' := [gp_r (some q1), gp_r (some q20), gp_r v2, gp_i v3]) (st' := [gp_i (gp_I s21 q1 (gp_wr (v3 + 2)).toNat), gp_i (gp_I s21 q1 (gp_wr (v3 + 1)).toNat), gp_r v2]) (s' := s21) rfl (Or.inr H.1) ?_
      replace H := H.2
      obtain ⟨q23, hq, H⟩ := H
      rw [hq]
      refine gs_E.callV (args := [gp_r (some q23), gp_i (gp_I s21 q1 (gp_wr (v3 + 1)).toNat), gp_i (gp_I s21 q1 (gp_wr (v3 + 2)).toNat)]) (m := 9) (y' := 3144) (st' := []) rfl H.1 H.2 (fun r s24 H => ?_)
      obtain ⟨x25, rfl, H⟩ := H
      show gs_E L (d + 1) 4352 318 [gp_r (some q1), gp_r (some q20), gp_r (some q23), gp_i v3] [gp_i x25] s24 K
      refine gs_E.stp (pc' := 1249) (ls' := [gp_r (some q1), gp_r (some q20), gp_r (some q23), gp_i v3]) (st' := []) (s' := s24) 2 rfl ?_
      exact H
    · replace H := H.2.2.2.2.1 hsw
      refine gs_E.swi (v := 4) (pc' := 322) (ls' := [gp_r (some q1), gp_r v1, gp_r v2, gp_i v3]) (st' := []) hsw rfl ?_
      refine gs_E.stp (pc' := 327) (ls' := [gp_r (some q1), gp_r v1, gp_r v2, gp_i v3]) (st' := [gp_i (gp_wr (v3 + 1)), gp_r (some q1), gp_r v1]) (s' := s) 5 rfl ?_
      refine gs_E.ck (pc' := 328) (ls' := [gp_r (some q1), gp_r v1, gp_r v2, gp_i v3]) (st' := [gp_i (gp_I s q1 (gp_wr (v3 + 1)).toNat), gp_r v1]) (s' := s) rfl (Or.inr H.1) ?_
      replace H := H.2
      refine gs_E.stp (pc' := 332) (ls' := [gp_r (some q1), gp_r v1, gp_r v2, gp_i v3]) (st' := [gp_i (gp_wr (v3 + 2)), gp_r (some q1), gp_i (gp_I s q1 (gp_wr (v3 + 1)).toNat), gp_r v1]) (s' := s) 4 rfl ?_
      refine gs_E.ck (pc' := 333) (ls' := [gp_r (some q1), gp_r v1, gp_r v2, gp_i v3]) (st' := [gp_i (gp_I s q1 (gp_wr (v3 + 2)).toNat), gp_i (gp_I s q1 (gp_wr (v3 + 1)).toNat), gp_r v1]) (s' := s) rfl (Or.inr H.1) ?_
      replace H := H.2
      obtain ⟨q26, hq, H⟩ := H
      rw [hq]
      refine gs_E.callV (args := [gp_r (some q26), gp_i (gp_I s q1 (gp_wr (v3 + 1)).toNat), gp_i (gp_I s q1 (gp_wr (v3 + 2)).toNat)]) (m := 3) (y' := 2821) (st' := []) rfl H.1 H.2 (fun r s27 H => ?_)
      obtain ⟨x28, rfl, H⟩ := H
      show gs_E L (d + 1) 4352 336 [gp_r (some q1), gp_r (some q26), gp_r v2, gp_i v3] [gp_i x28] s27 K
      refine gs_E.stp (pc' := 342) (ls' := [gp_r (some q1), gp_r (some q26), gp_r v2, gp_i v3]) (st' := [gp_i (gp_wr (v3 + 1)), gp_r (some q1), gp_r v2]) (s' := s27) 6 rfl ?_
      refine gs_E.ck (pc' := 343) (ls' := [gp_r (some q1), gp_r (some q26), gp_r v2, gp_i v3]) (st' := [gp_i (gp_I s27 q1 (gp_wr (v3 + 1)).toNat), gp_r v2]) (s' := s27) rfl (Or.inr H.1) ?_
      replace H := H.2
      refine gs_E.stp (pc' := 347) (ls' := [gp_r (some q1), gp_r (some q26), gp_r v2, gp_i v3]) (st' := [gp_i (gp_wr (v3 + 2)), gp_r (some q1), gp_i (gp_I s27 q1 (gp_wr (v3 + 1)).toNat), gp_r v2]) (s' := s27) 4 rfl ?_
      refine gs_E.ck (pc' := 348) (ls' := [gp_r (some q1), gp_r (some q26), gp_r v2, gp_i v3]) (st' := [gp_i (gp_I s27 q1 (gp_wr (v3 + 2)).toNat), gp_i (gp_I s27 q1 (gp_wr (v3 + 1)).toNat), gp_r v2]) (s' := s27) rfl (Or.inr H.1) ?_
      replace H := H.2
      obtain ⟨q29, hq, H⟩ := H
      rw [hq]
      refine gs_E.callV (args := [gp_r (some q29), gp_i (gp_I s27 q1 (gp_wr (v3 + 1)).toNat), gp_i (gp_I s27 q1 (gp_wr (v3 + 2)).toNat)]) (m := 3) (y' := 3145) (st' := []) rfl H.1 H.2 (fun r s30 H => ?_)
      obtain ⟨x31, rfl, H⟩ := H
      show gs_E L (d + 1) 4352 351 [gp_r (some q1), gp_r (some q26), gp_r (some q29), gp_i v3] [gp_i x31] s30 K
      refine gs_E.stp (pc' := 1249) (ls' := [gp_r (some q1), gp_r (some q26), gp_r (some q29), gp_i v3]) (st' := []) (s' := s30) 2 rfl ?_
      exact H
    · replace H := H.2.2.2.2.2.1 hsw
      refine gs_E.swi (v := 5) (pc' := 355) (ls' := [gp_r (some q1), gp_r v1, gp_r v2, gp_i v3]) (st' := []) hsw rfl ?_
      refine gs_E.stp (pc' := 360) (ls' := [gp_r (some q1), gp_r v1, gp_r v2, gp_i v3]) (st' := [gp_i (gp_wr (v3 + 1)), gp_r (some q1), gp_r v1]) (s' := s) 5 rfl ?_
      refine gs_E.ck (pc' := 361) (ls' := [gp_r (some q1), gp_r v1, gp_r v2, gp_i v3]) (st' := [gp_i (gp_I s q1 (gp_wr (v3 + 1)).toNat), gp_r v1]) (s' := s) rfl (Or.inr H.1) ?_
      replace H := H.2
      refine gs_E.stp (pc' := 365) (ls' := [gp_r (some q1), gp_r v1, gp_r v2, gp_i v3]) (st' := [gp_i (gp_wr (v3 + 2)), gp_r (some q1), gp_i (gp_I s q1 (gp_wr (v3 + 1)).toNat), gp_r v1]) (s' := s) 4 rfl ?_
      refine gs_E.ck (pc' := 366) (ls' := [gp_r (some q1), gp_r v1, gp_r v2, gp_i v3]) (st' := [gp_i (gp_I s q1 (gp_wr (v3 + 2)).toNat), gp_i (gp_I s q1 (gp_wr (v3 + 1)).toNat), gp_r v1]) (s' := s) rfl (Or.inr H.1) ?_
      replace H := H.2
      refine gs_E.stp (pc' := 370) (ls' := [gp_r (some q1), gp_r v1, gp_r v2, gp_i v3]) (st' := [gp_i (gp_wr (v3 + 3)), gp_r (some q1), gp_i (gp_I s q1 (gp_wr (v3 + 2)).toNat), gp_i (gp_I s q1 (gp_wr (v3 + 1)).toNat), gp_r v1]) (s' := s) 4 rfl ?_
      refine gs_E.ck (pc' := 371) (ls' := [gp_r (some q1), gp_r v1, gp_r v2, gp_i v3]) (st' := [gp_i (gp_I s q1 (gp_wr (v3 + 3)).toNat), gp_i (gp_I s q1 (gp_wr (v3 + 2)).toNat), gp_i (gp_I s q1 (gp_wr (v3 + 1)).toNat), gp_r v1]) (s' := s) rfl (Or.inr H.1) ?_
      replace H := H.2
      obtain ⟨q32, hq, H⟩ := H
      rw [hq]
      refine gs_E.callV (args := [gp_r (some q32), gp_i (gp_I s q1 (gp_wr (v3 + 1)).toNat), gp_i (gp_I s q1 (gp_wr (v3 + 2)).toNat), gp_i (gp_I s q1 (gp_wr (v3 + 3)).toNat)]) (m := 5) (y' := 2822) (st' := []) rfl H.1 H.2 (fun r s33 H => ?_)
      obtain ⟨x34, rfl, H⟩ := H
      show gs_E L (d + 1) 4352 374 [gp_r (some q1), gp_r (some q32), gp_r v2, gp_i v3] [gp_i x34] s33 K
      refine gs_E.stp (pc' := 380) (ls' := [gp_r (some q1), gp_r (some q32), gp_r v2, gp_i v3]) (st' := [gp_i (gp_wr (v3 + 1)), gp_r (some q1), gp_r v2]) (s' := s33) 6 rfl ?_
      refine gs_E.ck (pc' := 381) (ls' := [gp_r (some q1), gp_r (some q32), gp_r v2, gp_i v3]) (st' := [gp_i (gp_I s33 q1 (gp_wr (v3 + 1)).toNat), gp_r v2]) (s' := s33) rfl (Or.inr H.1) ?_
      replace H := H.2
      refine gs_E.stp (pc' := 385) (ls' := [gp_r (some q1), gp_r (some q32), gp_r v2, gp_i v3]) (st' := [gp_i (gp_wr (v3 + 2)), gp_r (some q1), gp_i (gp_I s33 q1 (gp_wr (v3 + 1)).toNat), gp_r v2]) (s' := s33) 4 rfl ?_
      refine gs_E.ck (pc' := 386) (ls' := [gp_r (some q1), gp_r (some q32), gp_r v2, gp_i v3]) (st' := [gp_i (gp_I s33 q1 (gp_wr (v3 + 2)).toNat), gp_i (gp_I s33 q1 (gp_wr (v3 + 1)).toNat), gp_r v2]) (s' := s33) rfl (Or.inr H.1) ?_
      replace H := H.2
      refine gs_E.stp (pc' := 390) (ls' := [gp_r (some q1), gp_r (some q32), gp_r v2, gp_i v3]) (st' := [gp_i (gp_wr (v3 + 3)), gp_r (some q1), gp_i (gp_I s33 q1 (gp_wr (v3 + 2)).toNat), gp_i (gp_I s33 q1 (gp_wr (v3 + 1)).toNat), gp_r v2]) (s' := s33) 4 rfl ?_
      refine gs_E.ck (pc' := 391) (ls' := [gp_r (some q1), gp_r (some q32), gp_r v2, gp_i v3]) (st' := [gp_i (gp_I s33 q1 (gp_wr (v3 + 3)).toNat), gp_i (gp_I s33 q1 (gp_wr (v3 + 2)).toNat), gp_i (gp_I s33 q1 (gp_wr (v3 + 1)).toNat), gp_r v2]) (s' := s33) rfl (Or.inr H.1) ?_
      replace H := H.2
      obtain ⟨q35, hq, H⟩ := H
      rw [hq]
      refine gs_E.callV (args := [gp_r (some q35), gp_i (gp_I s33 q1 (gp_wr (v3 + 1)).toNat), gp_i (gp_I s33 q1 (gp_wr (v3 + 2)).toNat), gp_i (gp_I s33 q1 (gp_wr (v3 + 3)).toNat)]) (m := 5) (y' := 3146) (st' := []) rfl H.1 H.2 (fun r s36 H => ?_)
      obtain ⟨x37, rfl, H⟩ := H
      show gs_E L (d + 1) 4352 394 [gp_r (some q1), gp_r (some q32), gp_r (some q35), gp_i v3] [gp_i x37] s36 K
      refine gs_E.stp (pc' := 1249) (ls' := [gp_r (some q1), gp_r (some q32), gp_r (some q35), gp_i v3]) (st' := []) (s' := s36) 2 rfl ?_
      exact H
    · replace H := H.2.2.2.2.2.2.1 hsw
      refine gs_E.swi (v := 6) (pc' := 398) (ls' := [gp_r (some q1), gp_r v1, gp_r v2, gp_i v3]) (st' := []) hsw rfl ?_
      refine gs_E.stp (pc' := 403) (ls' := [gp_r (some q1), gp_r v1, gp_r v2, gp_i v3]) (st' := [gp_i (gp_wr (v3 + 1)), gp_r (some q1), gp_r v1]) (s' := s) 5 rfl ?_
      refine gs_E.ck (pc' := 404) (ls' := [gp_r (some q1), gp_r v1, gp_r v2, gp_i v3]) (st' := [gp_i (gp_I s q1 (gp_wr (v3 + 1)).toNat), gp_r v1]) (s' := s) rfl (Or.inr H.1) ?_
      replace H := H.2
      refine gs_E.stp (pc' := 408) (ls' := [gp_r (some q1), gp_r v1, gp_r v2, gp_i v3]) (st' := [gp_i (gp_wr (v3 + 2)), gp_r (some q1), gp_i (gp_I s q1 (gp_wr (v3 + 1)).toNat), gp_r v1]) (s' := s) 4 rfl ?_
      refine gs_E.ck (pc' := 409) (ls' := [gp_r (some q1), gp_r v1, gp_r v2, gp_i v3]) (st' := [gp_i (gp_I s q1 (gp_wr (v3 + 2)).toNat), gp_i (gp_I s q1 (gp_wr (v3 + 1)).toNat), gp_r v1]) (s' := s) rfl (Or.inr H.1) ?_
      replace H := H.2
      obtain ⟨q38, hq, H⟩ := H
      rw [hq]
      refine gs_E.callV (args := [gp_r (some q38), gp_i (gp_I s q1 (gp_wr (v3 + 1)).toNat), gp_i (gp_I s q1 (gp_wr (v3 + 2)).toNat)]) (m := 3) (y' := 2823) (st' := []) rfl H.1 H.2 (fun r s39 H => ?_)
      obtain ⟨x40, rfl, H⟩ := H
      show gs_E L (d + 1) 4352 412 [gp_r (some q1), gp_r (some q38), gp_r v2, gp_i v3] [gp_i x40] s39 K
      refine gs_E.stp (pc' := 418) (ls' := [gp_r (some q1), gp_r (some q38), gp_r v2, gp_i v3]) (st' := [gp_i (gp_wr (v3 + 1)), gp_r (some q1), gp_r v2]) (s' := s39) 6 rfl ?_
      refine gs_E.ck (pc' := 419) (ls' := [gp_r (some q1), gp_r (some q38), gp_r v2, gp_i v3]) (st' := [gp_i (gp_I s39 q1 (gp_wr (v3 + 1)).toNat), gp_r v2]) (s' := s39) rfl (Or.inr H.1) ?_
      replace H := H.2
      refine gs_E.stp (pc' := 423) (ls' := [gp_r (some q1), gp_r (some q38), gp_r v2, gp_i v3]) (st' := [gp_i (gp_wr (v3 + 2)), gp_r (some q1), gp_i (gp_I s39 q1 (gp_wr (v3 + 1)).toNat), gp_r v2]) (s' := s39) 4 rfl ?_
      refine gs_E.ck (pc' := 424) (ls' := [gp_r (some q1), gp_r (some q38), gp_r v2, gp_i v3]) (st' := [gp_i (gp_I s39 q1 (gp_wr (v3 + 2)).toNat), gp_i (gp_I s39 q1 (gp_wr (v3 + 1)).toNat), gp_r v2]) (s' := s39) rfl (Or.inr H.1) ?_
      replace H := H.2
      obtain ⟨q41, hq, H⟩ := H
      rw [hq]
      refine gs_E.callV (args := [gp_r (some q41), gp_i (gp_I s39 q1 (gp_wr (v3 + 1)).toNat), gp_i (gp_I s39 q1 (gp_wr (v3 + 2)).toNat)]) (m := 3) (y' := 3147) (st' := []) rfl H.1 H.2 (fun r s42 H => ?_)
      obtain ⟨x43, rfl, H⟩ := H
      show gs_E L (d + 1) 4352 427 [gp_r (some q1), gp_r (some q38), gp_r (some q41), gp_i v3] [gp_i x43] s42 K
      refine gs_E.stp (pc' := 1249) (ls' := [gp_r (some q1), gp_r (some q38), gp_r (some q41), gp_i v3]) (st' := []) (s' := s42) 2 rfl ?_
      exact H
    · replace H := H.2.2.2.2.2.2.2.1 hsw
      refine gs_E.swi (v := 7) (pc' := 431) (ls' := [gp_r (some q1), gp_r v1, gp_r v2, gp_i v3]) (st' := []) hsw rfl ?_
      refine gs_E.stp (pc' := 436) (ls' := [gp_r (some q1), gp_r v1, gp_r v2, gp_i v3]) (st' := [gp_i (gp_wr (v3 + 1)), gp_r (some q1), gp_r v1]) (s' := s) 5 rfl ?_
      refine gs_E.ck (pc' := 437) (ls' := [gp_r (some q1), gp_r v1, gp_r v2, gp_i v3]) (st' := [gp_i (gp_I s q1 (gp_wr (v3 + 1)).toNat), gp_r v1]) (s' := s) rfl (Or.inr H.1) ?_
      replace H := H.2
      refine gs_E.stp (pc' := 441) (ls' := [gp_r (some q1), gp_r v1, gp_r v2, gp_i v3]) (st' := [gp_i (gp_wr (v3 + 2)), gp_r (some q1), gp_i (gp_I s q1 (gp_wr (v3 + 1)).toNat), gp_r v1]) (s' := s) 4 rfl ?_
      refine gs_E.ck (pc' := 442) (ls' := [gp_r (some q1), gp_r v1, gp_r v2, gp_i v3]) (st' := [gp_i (gp_I s q1 (gp_wr (v3 + 2)).toNat), gp_i (gp_I s q1 (gp_wr (v3 + 1)).toNat), gp_r v1]) (s' := s) rfl (Or.inr H.1) ?_
      replace H := H.2
      refine gs_E.stp (pc' := 446) (ls' := [gp_r (some q1), gp_r v1, gp_r v2, gp_i v3]) (st' := [gp_i (gp_wr (v3 + 3)), gp_r (some q1), gp_i (gp_I s q1 (gp_wr (v3 + 2)).toNat), gp_i (gp_I s q1 (gp_wr (v3 + 1)).toNat), gp_r v1]) (s' := s) 4 rfl ?_
      refine gs_E.ck (pc' := 447) (ls' := [gp_r (some q1), gp_r v1, gp_r v2, gp_i v3]) (st' := [gp_i (gp_I s q1 (gp_wr (v3 + 3)).toNat), gp_i (gp_I s q1 (gp_wr (v3 + 2)).toNat), gp_i (gp_I s q1 (gp_wr (v3 + 1)).toNat), gp_r v1]) (s' := s) rfl (Or.inr H.1) ?_
      replace H := H.2
      refine gs_E.stp (pc' := 451) (ls' := [gp_r (some q1), gp_r v1, gp_r v2, gp_i v3]) (st' := [gp_i (gp_wr (v3 + 4)), gp_r (some q1), gp_i (gp_I s q1 (gp_wr (v3 + 3)).toNat), gp_i (gp_I s q1 (gp_wr (v3 + 2)).toNat), gp_i (gp_I s q1 (gp_wr (v3 + 1)).toNat), gp_r v1]) (s' := s) 4 rfl ?_
      refine gs_E.ck (pc' := 452) (ls' := [gp_r (some q1), gp_r v1, gp_r v2, gp_i v3]) (st' := [gp_i (gp_I s q1 (gp_wr (v3 + 4)).toNat), gp_i (gp_I s q1 (gp_wr (v3 + 3)).toNat), gp_i (gp_I s q1 (gp_wr (v3 + 2)).toNat), gp_i (gp_I s q1 (gp_wr (v3 + 1)).toNat), gp_r v1]) (s' := s) rfl (Or.inr H.1) ?_
      replace H := H.2
      obtain ⟨q44, hq, H⟩ := H
      rw [hq]
      refine gs_E.callV (args := [gp_r (some q44), gp_i (gp_I s q1 (gp_wr (v3 + 1)).toNat), gp_i (gp_I s q1 (gp_wr (v3 + 2)).toNat), gp_i (gp_I s q1 (gp_wr (v3 + 3)).toNat), gp_i (gp_I s q1 (gp_wr (v3 + 4)).toNat)]) (m := 8) (y' := 2824) (st' := []) rfl H.1 H.2 (fun r s45 H => ?_)
      obtain ⟨x46, rfl, H⟩ := H
      show gs_E L (d + 1) 4352 455 [gp_r (some q1), gp_r (some q44), gp_r v2, gp_i v3] [gp_i x46] s45 K
      refine gs_E.stp (pc' := 461) (ls' := [gp_r (some q1), gp_r (some q44), gp_r v2, gp_i v3]) (st' := [gp_i (gp_wr (v3 + 1)), gp_r (some q1), gp_r v2]) (s' := s45) 6 rfl ?_
      refine gs_E.ck (pc' := 462) (ls' := [gp_r (some q1), gp_r (some q44), gp_r v2, gp_i v3]) (st' := [gp_i (gp_I s45 q1 (gp_wr (v3 + 1)).toNat), gp_r v2]) (s' := s45) rfl (Or.inr H.1) ?_
      replace H := H.2
      refine gs_E.stp (pc' := 466) (ls' := [gp_r (some q1), gp_r (some q44), gp_r v2, gp_i v3]) (st' := [gp_i (gp_wr (v3 + 2)), gp_r (some q1), gp_i (gp_I s45 q1 (gp_wr (v3 + 1)).toNat), gp_r v2]) (s' := s45) 4 rfl ?_
      refine gs_E.ck (pc' := 467) (ls' := [gp_r (some q1), gp_r (some q44), gp_r v2, gp_i v3]) (st' := [gp_i (gp_I s45 q1 (gp_wr (v3 + 2)).toNat), gp_i (gp_I s45 q1 (gp_wr (v3 + 1)).toNat), gp_r v2]) (s' := s45) rfl (Or.inr H.1) ?_
      replace H := H.2
      refine gs_E.stp (pc' := 471) (ls' := [gp_r (some q1), gp_r (some q44), gp_r v2, gp_i v3]) (st' := [gp_i (gp_wr (v3 + 3)), gp_r (some q1), gp_i (gp_I s45 q1 (gp_wr (v3 + 2)).toNat), gp_i (gp_I s45 q1 (gp_wr (v3 + 1)).toNat), gp_r v2]) (s' := s45) 4 rfl ?_
      refine gs_E.ck (pc' := 472) (ls' := [gp_r (some q1), gp_r (some q44), gp_r v2, gp_i v3]) (st' := [gp_i (gp_I s45 q1 (gp_wr (v3 + 3)).toNat), gp_i (gp_I s45 q1 (gp_wr (v3 + 2)).toNat), gp_i (gp_I s45 q1 (gp_wr (v3 + 1)).toNat), gp_r v2]) (s' := s45) rfl (Or.inr H.1) ?_
      replace H := H.2
      refine gs_E.stp (pc' := 476) (ls' := [gp_r (some q1), gp_r (some q44), gp_r v2, gp_i v3]) (st' := [gp_i (gp_wr (v3 + 4)), gp_r (some q1), gp_i (gp_I s45 q1 (gp_wr (v3 + 3)).toNat), gp_i (gp_I s45 q1 (gp_wr (v3 + 2)).toNat), gp_i (gp_I s45 q1 (gp_wr (v3 + 1)).toNat), gp_r v2]) (s' := s45) 4 rfl ?_
      refine gs_E.ck (pc' := 477) (ls' := [gp_r (some q1), gp_r (some q44), gp_r v2, gp_i v3]) (st' := [gp_i (gp_I s45 q1 (gp_wr (v3 + 4)).toNat), gp_i (gp_I s45 q1 (gp_wr (v3 + 3)).toNat), gp_i (gp_I s45 q1 (gp_wr (v3 + 2)).toNat), gp_i (gp_I s45 q1 (gp_wr (v3 + 1)).toNat), gp_r v2]) (s' := s45) rfl (Or.inr H.1) ?_
      replace H := H.2
      obtain ⟨q47, hq, H⟩ := H
      rw [hq]
      refine gs_E.callV (args := [gp_r (some q47), gp_i (gp_I s45 q1 (gp_wr (v3 + 1)).toNat), gp_i (gp_I s45 q1 (gp_wr (v3 + 2)).toNat), gp_i (gp_I s45 q1 (gp_wr (v3 + 3)).toNat), gp_i (gp_I s45 q1 (gp_wr (v3 + 4)).toNat)]) (m := 6) (y' := 3149) (st' := []) rfl H.1 H.2 (fun r s48 H => ?_)
      obtain ⟨x49, rfl, H⟩ := H
      show gs_E L (d + 1) 4352 480 [gp_r (some q1), gp_r (some q44), gp_r (some q47), gp_i v3] [gp_i x49] s48 K
      refine gs_E.stp (pc' := 1249) (ls' := [gp_r (some q1), gp_r (some q44), gp_r (some q47), gp_i v3]) (st' := []) (s' := s48) 2 rfl ?_
      exact H
    · replace H := H.2.2.2.2.2.2.2.2.1 hsw
      refine gs_E.swi (v := 8) (pc' := 484) (ls' := [gp_r (some q1), gp_r v1, gp_r v2, gp_i v3]) (st' := []) hsw rfl ?_
      refine gs_E.stp (pc' := 489) (ls' := [gp_r (some q1), gp_r v1, gp_r v2, gp_i v3]) (st' := [gp_i (gp_wr (v3 + 1)), gp_r (some q1), gp_r v1]) (s' := s) 5 rfl ?_
      refine gs_E.ck (pc' := 490) (ls' := [gp_r (some q1), gp_r v1, gp_r v2, gp_i v3]) (st' := [gp_i (gp_I s q1 (gp_wr (v3 + 1)).toNat), gp_r v1]) (s' := s) rfl (Or.inr H.1) ?_
      replace H := H.2
      refine gs_E.stp (pc' := 494) (ls' := [gp_r (some q1), gp_r v1, gp_r v2, gp_i v3]) (st' := [gp_i (gp_wr (v3 + 2)), gp_r (some q1), gp_i (gp_I s q1 (gp_wr (v3 + 1)).toNat), gp_r v1]) (s' := s) 4 rfl ?_
      refine gs_E.ck (pc' := 495) (ls' := [gp_r (some q1), gp_r v1, gp_r v2, gp_i v3]) (st' := [gp_i (gp_I s q1 (gp_wr (v3 + 2)).toNat), gp_i (gp_I s q1 (gp_wr (v3 + 1)).toNat), gp_r v1]) (s' := s) rfl (Or.inr H.1) ?_
      replace H := H.2
      obtain ⟨q50, hq, H⟩ := H
      rw [hq]
      refine gs_E.callV (args := [gp_r (some q50), gp_i (gp_I s q1 (gp_wr (v3 + 1)).toNat), gp_i (gp_I s q1 (gp_wr (v3 + 2)).toNat)]) (m := 5) (y' := 2825) (st' := []) rfl H.1 H.2 (fun r s51 H => ?_)
      obtain ⟨x52, rfl, H⟩ := H
      show gs_E L (d + 1) 4352 498 [gp_r (some q1), gp_r (some q50), gp_r v2, gp_i v3] [gp_i x52] s51 K
      refine gs_E.stp (pc' := 504) (ls' := [gp_r (some q1), gp_r (some q50), gp_r v2, gp_i v3]) (st' := [gp_i (gp_wr (v3 + 1)), gp_r (some q1), gp_r v2]) (s' := s51) 6 rfl ?_
      refine gs_E.ck (pc' := 505) (ls' := [gp_r (some q1), gp_r (some q50), gp_r v2, gp_i v3]) (st' := [gp_i (gp_I s51 q1 (gp_wr (v3 + 1)).toNat), gp_r v2]) (s' := s51) rfl (Or.inr H.1) ?_
      replace H := H.2
      refine gs_E.stp (pc' := 509) (ls' := [gp_r (some q1), gp_r (some q50), gp_r v2, gp_i v3]) (st' := [gp_i (gp_wr (v3 + 2)), gp_r (some q1), gp_i (gp_I s51 q1 (gp_wr (v3 + 1)).toNat), gp_r v2]) (s' := s51) 4 rfl ?_
      refine gs_E.ck (pc' := 510) (ls' := [gp_r (some q1), gp_r (some q50), gp_r v2, gp_i v3]) (st' := [gp_i (gp_I s51 q1 (gp_wr (v3 + 2)).toNat), gp_i (gp_I s51 q1 (gp_wr (v3 + 1)).toNat), gp_r v2]) (s' := s51) rfl (Or.inr H.1) ?_
      replace H := H.2
      obtain ⟨q53, hq, H⟩ := H
      rw [hq]
      refine gs_E.callV (args := [gp_r (some q53), gp_i (gp_I s51 q1 (gp_wr (v3 + 1)).toNat), gp_i (gp_I s51 q1 (gp_wr (v3 + 2)).toNat)]) (m := 4) (y' := 3150) (st' := []) rfl H.1 H.2 (fun r s54 H => ?_)
      obtain ⟨x55, rfl, H⟩ := H
      show gs_E L (d + 1) 4352 513 [gp_r (some q1), gp_r (some q50), gp_r (some q53), gp_i v3] [gp_i x55] s54 K
      refine gs_E.stp (pc' := 1249) (ls' := [gp_r (some q1), gp_r (some q50), gp_r (some q53), gp_i v3]) (st' := []) (s' := s54) 2 rfl ?_
      exact H
    · replace H := H.2.2.2.2.2.2.2.2.2.1 hsw
      refine gs_E.swi (v := 9) (pc' := 517) (ls' := [gp_r (some q1), gp_r v1, gp_r v2, gp_i v3]) (st' := []) hsw rfl ?_
      refine gs_E.stp (pc' := 522) (ls' := [gp_r (some q1), gp_r v1, gp_r v2, gp_i v3]) (st' := [gp_i (gp_wr (v3 + 1)), gp_r (some q1), gp_r v1]) (s' := s) 5 rfl ?_
      refine gs_E.ck (pc' := 523) (ls' := [gp_r (some q1), gp_r v1, gp_r v2, gp_i v3]) (st' := [gp_i (gp_I s q1 (gp_wr (v3 + 1)).toNat), gp_r v1]) (s' := s) rfl (Or.inr H.1) ?_
      replace H := H.2
      refine gs_E.stp (pc' := 527) (ls' := [gp_r (some q1), gp_r v1, gp_r v2, gp_i v3]) (st' := [gp_i (gp_wr (v3 + 2)), gp_r (some q1), gp_i (gp_I s q1 (gp_wr (v3 + 1)).toNat), gp_r v1]) (s' := s) 4 rfl ?_
      refine gs_E.ck (pc' := 528) (ls' := [gp_r (some q1), gp_r v1, gp_r v2, gp_i v3]) (st' := [gp_i (gp_I s q1 (gp_wr (v3 + 2)).toNat), gp_i (gp_I s q1 (gp_wr (v3 + 1)).toNat), gp_r v1]) (s' := s) rfl (Or.inr H.1) ?_
      replace H := H.2
      obtain ⟨q56, hq, H⟩ := H
      rw [hq]
      refine gs_E.callV (args := [gp_r (some q56), gp_i (gp_I s q1 (gp_wr (v3 + 1)).toNat), gp_i (gp_I s q1 (gp_wr (v3 + 2)).toNat)]) (m := 3) (y' := 2827) (st' := []) rfl H.1 H.2 (fun r s57 H => ?_)
      obtain ⟨x58, rfl, H⟩ := H
      show gs_E L (d + 1) 4352 531 [gp_r (some q1), gp_r (some q56), gp_r v2, gp_i v3] [gp_i x58] s57 K
      refine gs_E.stp (pc' := 537) (ls' := [gp_r (some q1), gp_r (some q56), gp_r v2, gp_i v3]) (st' := [gp_i (gp_wr (v3 + 1)), gp_r (some q1), gp_r v2]) (s' := s57) 6 rfl ?_
      refine gs_E.ck (pc' := 538) (ls' := [gp_r (some q1), gp_r (some q56), gp_r v2, gp_i v3]) (st' := [gp_i (gp_I s57 q1 (gp_wr (v3 + 1)).toNat), gp_r v2]) (s' := s57) rfl (Or.inr H.1) ?_
      replace H := H.2
      refine gs_E.stp (pc' := 542) (ls' := [gp_r (some q1), gp_r (some q56), gp_r v2, gp_i v3]) (st' := [gp_i (gp_wr (v3 + 2)), gp_r (some q1), gp_i (gp_I s57 q1 (gp_wr (v3 + 1)).toNat), gp_r v2]) (s' := s57) 4 rfl ?_
      refine gs_E.ck (pc' := 543) (ls' := [gp_r (some q1), gp_r (some q56), gp_r v2, gp_i v3]) (st' := [gp_i (gp_I s57 q1 (gp_wr (v3 + 2)).toNat), gp_i (gp_I s57 q1 (gp_wr (v3 + 1)).toNat), gp_r v2]) (s' := s57) rfl (Or.inr H.1) ?_
      replace H := H.2
      obtain ⟨q59, hq, H⟩ := H
      rw [hq]
      refine gs_E.callV (args := [gp_r (some q59), gp_i (gp_I s57 q1 (gp_wr (v3 + 1)).toNat), gp_i (gp_I s57 q1 (gp_wr (v3 + 2)).toNat)]) (m := 3) (y' := 3151) (st' := []) rfl H.1 H.2 (fun r s60 H => ?_)
      obtain ⟨x61, rfl, H⟩ := H
      show gs_E L (d + 1) 4352 546 [gp_r (some q1), gp_r (some q56), gp_r (some q59), gp_i v3] [gp_i x61] s60 K
      refine gs_E.stp (pc' := 1249) (ls' := [gp_r (some q1), gp_r (some q56), gp_r (some q59), gp_i v3]) (st' := []) (s' := s60) 2 rfl ?_
      exact H
    · replace H := H.2.2.2.2.2.2.2.2.2.2.1 hsw
      refine gs_E.swi (v := 10) (pc' := 550) (ls' := [gp_r (some q1), gp_r v1, gp_r v2, gp_i v3]) (st' := []) hsw rfl ?_
      refine gs_E.stp (pc' := 555) (ls' := [gp_r (some q1), gp_r v1, gp_r v2, gp_i v3]) (st' := [gp_i (gp_wr (v3 + 1)), gp_r (some q1), gp_r v1]) (s' := s) 5 rfl ?_
      refine gs_E.ck (pc' := 556) (ls' := [gp_r (some q1), gp_r v1, gp_r v2, gp_i v3]) (st' := [gp_i (gp_I s q1 (gp_wr (v3 + 1)).toNat), gp_r v1]) (s' := s) rfl (Or.inr H.1) ?_
      replace H := H.2
      refine gs_E.stp (pc' := 560) (ls' := [gp_r (some q1), gp_r v1, gp_r v2, gp_i v3]) (st' := [gp_i (gp_wr (v3 + 2)), gp_r (some q1), gp_i (gp_I s q1 (gp_wr (v3 + 1)).toNat), gp_r v1]) (s' := s) 4 rfl ?_
      refine gs_E.ck (pc' := 561) (ls' := [gp_r (some q1), gp_r v1, gp_r v2, gp_i v3]) (st' := [gp_i (gp_I s q1 (gp_wr (v3 + 2)).toNat), gp_i (gp_I s q1 (gp_wr (v3 + 1)).toNat), gp_r v1]) (s' := s) rfl (Or.inr H.1) ?_
      replace H := H.2
      obtain ⟨q62, hq, H⟩ := H
      rw [hq]
      refine gs_E.callV (args := [gp_r (some q62), gp_i (gp_I s q1 (gp_wr (v3 + 1)).toNat), gp_i (gp_I s q1 (gp_wr (v3 + 2)).toNat)]) (m := 4) (y' := 2828) (st' := []) rfl H.1 H.2 (fun r s63 H => ?_)
      obtain ⟨x64, rfl, H⟩ := H
      show gs_E L (d + 1) 4352 564 [gp_r (some q1), gp_r (some q62), gp_r v2, gp_i v3] [gp_i x64] s63 K
      refine gs_E.stp (pc' := 570) (ls' := [gp_r (some q1), gp_r (some q62), gp_r v2, gp_i v3]) (st' := [gp_i (gp_wr (v3 + 1)), gp_r (some q1), gp_r v2]) (s' := s63) 6 rfl ?_
      refine gs_E.ck (pc' := 571) (ls' := [gp_r (some q1), gp_r (some q62), gp_r v2, gp_i v3]) (st' := [gp_i (gp_I s63 q1 (gp_wr (v3 + 1)).toNat), gp_r v2]) (s' := s63) rfl (Or.inr H.1) ?_
      replace H := H.2
      refine gs_E.stp (pc' := 575) (ls' := [gp_r (some q1), gp_r (some q62), gp_r v2, gp_i v3]) (st' := [gp_i (gp_wr (v3 + 2)), gp_r (some q1), gp_i (gp_I s63 q1 (gp_wr (v3 + 1)).toNat), gp_r v2]) (s' := s63) 4 rfl ?_
      refine gs_E.ck (pc' := 576) (ls' := [gp_r (some q1), gp_r (some q62), gp_r v2, gp_i v3]) (st' := [gp_i (gp_I s63 q1 (gp_wr (v3 + 2)).toNat), gp_i (gp_I s63 q1 (gp_wr (v3 + 1)).toNat), gp_r v2]) (s' := s63) rfl (Or.inr H.1) ?_
      replace H := H.2
      obtain ⟨q65, hq, H⟩ := H
      rw [hq]
      refine gs_E.callV (args := [gp_r (some q65), gp_i (gp_I s63 q1 (gp_wr (v3 + 1)).toNat), gp_i (gp_I s63 q1 (gp_wr (v3 + 2)).toNat)]) (m := 4) (y' := 3152) (st' := []) rfl H.1 H.2 (fun r s66 H => ?_)
      obtain ⟨x67, rfl, H⟩ := H
      show gs_E L (d + 1) 4352 579 [gp_r (some q1), gp_r (some q62), gp_r (some q65), gp_i v3] [gp_i x67] s66 K
      refine gs_E.stp (pc' := 1249) (ls' := [gp_r (some q1), gp_r (some q62), gp_r (some q65), gp_i v3]) (st' := []) (s' := s66) 2 rfl ?_
      exact H
    · replace H := H.2.2.2.2.2.2.2.2.2.2.2.1 hsw
      refine gs_E.swi (v := 11) (pc' := 583) (ls' := [gp_r (some q1), gp_r v1, gp_r v2, gp_i v3]) (st' := []) hsw rfl ?_
      refine gs_E.stp (pc' := 588) (ls' := [gp_r (some q1), gp_r v1, gp_r v2, gp_i v3]) (st' := [gp_i (gp_wr (v3 + 1)), gp_r (some q1), gp_r v1]) (s' := s) 5 rfl ?_
      refine gs_E.ck (pc' := 589) (ls' := [gp_r (some q1), gp_r v1, gp_r v2, gp_i v3]) (st' := [gp_i (gp_I s q1 (gp_wr (v3 + 1)).toNat), gp_r v1]) (s' := s) rfl (Or.inr H.1) ?_
      replace H := H.2
      refine gs_E.stp (pc' := 593) (ls' := [gp_r (some q1), gp_r v1, gp_r v2, gp_i v3]) (st' := [gp_i (gp_wr (v3 + 2)), gp_r (some q1), gp_i (gp_I s q1 (gp_wr (v3 + 1)).toNat), gp_r v1]) (s' := s) 4 rfl ?_
      refine gs_E.ck (pc' := 594) (ls' := [gp_r (some q1), gp_r v1, gp_r v2, gp_i v3]) (st' := [gp_i (gp_I s q1 (gp_wr (v3 + 2)).toNat), gp_i (gp_I s q1 (gp_wr (v3 + 1)).toNat), gp_r v1]) (s' := s) rfl (Or.inr H.1) ?_
      replace H := H.2
      refine gs_E.stp (pc' := 598) (ls' := [gp_r (some q1), gp_r v1, gp_r v2, gp_i v3]) (st' := [gp_i (gp_wr (v3 + 3)), gp_r (some q1), gp_i (gp_I s q1 (gp_wr (v3 + 2)).toNat), gp_i (gp_I s q1 (gp_wr (v3 + 1)).toNat), gp_r v1]) (s' := s) 4 rfl ?_
      refine gs_E.ck (pc' := 599) (ls' := [gp_r (some q1), gp_r v1, gp_r v2, gp_i v3]) (st' := [gp_i (gp_I s q1 (gp_wr (v3 + 3)).toNat), gp_i (gp_I s q1 (gp_wr (v3 + 2)).toNat), gp_i (gp_I s q1 (gp_wr (v3 + 1)).toNat), gp_r v1]) (s' := s) rfl (Or.inr H.1) ?_
      replace H := H.2
      refine gs_E.stp (pc' := 603) (ls' := [gp_r (some q1), gp_r v1, gp_r v2, gp_i v3]) (st' := [gp_i (gp_wr (v3 + 4)), gp_r (some q1), gp_i (gp_I s q1 (gp_wr (v3 + 3)).toNat), gp_i (gp_I s q1 (gp_wr (v3 + 2)).toNat), gp_i (gp_I s q1 (gp_wr (v3 + 1)).toNat), gp_r v1]) (s' := s) 4 rfl ?_
      refine gs_E.ck (pc' := 604) (ls' := [gp_r (some q1), gp_r v1, gp_r v2, gp_i v3]) (st' := [gp_i (gp_I s q1 (gp_wr (v3 + 4)).toNat), gp_i (gp_I s q1 (gp_wr (v3 + 3)).toNat), gp_i (gp_I s q1 (gp_wr (v3 + 2)).toNat), gp_i (gp_I s q1 (gp_wr (v3 + 1)).toNat), gp_r v1]) (s' := s) rfl (Or.inr H.1) ?_
      replace H := H.2
      obtain ⟨q68, hq, H⟩ := H
      rw [hq]
      refine gs_E.callV (args := [gp_r (some q68), gp_i (gp_I s q1 (gp_wr (v3 + 1)).toNat), gp_i (gp_I s q1 (gp_wr (v3 + 2)).toNat), gp_i (gp_I s q1 (gp_wr (v3 + 3)).toNat), gp_i (gp_I s q1 (gp_wr (v3 + 4)).toNat)]) (m := 11) (y' := 2830) (st' := []) rfl H.1 H.2 (fun r s69 H => ?_)
      obtain ⟨x70, rfl, H⟩ := H
      show gs_E L (d + 1) 4352 607 [gp_r (some q1), gp_r (some q68), gp_r v2, gp_i v3] [gp_i x70] s69 K
      refine gs_E.stp (pc' := 613) (ls' := [gp_r (some q1), gp_r (some q68), gp_r v2, gp_i v3]) (st' := [gp_i (gp_wr (v3 + 1)), gp_r (some q1), gp_r v2]) (s' := s69) 6 rfl ?_
      refine gs_E.ck (pc' := 614) (ls' := [gp_r (some q1), gp_r (some q68), gp_r v2, gp_i v3]) (st' := [gp_i (gp_I s69 q1 (gp_wr (v3 + 1)).toNat), gp_r v2]) (s' := s69) rfl (Or.inr H.1) ?_
      replace H := H.2
      refine gs_E.stp (pc' := 618) (ls' := [gp_r (some q1), gp_r (some q68), gp_r v2, gp_i v3]) (st' := [gp_i (gp_wr (v3 + 2)), gp_r (some q1), gp_i (gp_I s69 q1 (gp_wr (v3 + 1)).toNat), gp_r v2]) (s' := s69) 4 rfl ?_
      refine gs_E.ck (pc' := 619) (ls' := [gp_r (some q1), gp_r (some q68), gp_r v2, gp_i v3]) (st' := [gp_i (gp_I s69 q1 (gp_wr (v3 + 2)).toNat), gp_i (gp_I s69 q1 (gp_wr (v3 + 1)).toNat), gp_r v2]) (s' := s69) rfl (Or.inr H.1) ?_
      replace H := H.2
      refine gs_E.stp (pc' := 623) (ls' := [gp_r (some q1), gp_r (some q68), gp_r v2, gp_i v3]) (st' := [gp_i (gp_wr (v3 + 3)), gp_r (some q1), gp_i (gp_I s69 q1 (gp_wr (v3 + 2)).toNat), gp_i (gp_I s69 q1 (gp_wr (v3 + 1)).toNat), gp_r v2]) (s' := s69) 4 rfl ?_
      refine gs_E.ck (pc' := 624) (ls' := [gp_r (some q1), gp_r (some q68), gp_r v2, gp_i v3]) (st' := [gp_i (gp_I s69 q1 (gp_wr (v3 + 3)).toNat), gp_i (gp_I s69 q1 (gp_wr (v3 + 2)).toNat), gp_i (gp_I s69 q1 (gp_wr (v3 + 1)).toNat), gp_r v2]) (s' := s69) rfl (Or.inr H.1) ?_
      replace H := H.2
      refine gs_E.stp (pc' := 628) (ls' := [gp_r (some q1), gp_r (some q68), gp_r v2, gp_i v3]) (st' := [gp_i (gp_wr (v3 + 4)), gp_r (some q1), gp_i (gp_I s69 q1 (gp_wr (v3 + 3)).toNat), gp_i (gp_I s69 q1 (gp_wr (v3 + 2)).toNat), gp_i (gp_I s69 q1 (gp_wr (v3 + 1)).toNat), gp_r v2]) (s' := s69) 4 rfl ?_
      refine gs_E.ck (pc' := 629) (ls' := [gp_r (some q1), gp_r (some q68), gp_r v2, gp_i v3]) (st' := [gp_i (gp_I s69 q1 (gp_wr (v3 + 4)).toNat), gp_i (gp_I s69 q1 (gp_wr (v3 + 3)).toNat), gp_i (gp_I s69 q1 (gp_wr (v3 + 2)).toNat), gp_i (gp_I s69 q1 (gp_wr (v3 + 1)).toNat), gp_r v2]) (s' := s69) rfl (Or.inr H.1) ?_
      replace H := H.2
      obtain ⟨q71, hq, H⟩ := H
      rw [hq]
      refine gs_E.callV (args := [gp_r (some q71), gp_i (gp_I s69 q1 (gp_wr (v3 + 1)).toNat), gp_i (gp_I s69 q1 (gp_wr (v3 + 2)).toNat), gp_i (gp_I s69 q1 (gp_wr (v3 + 3)).toNat), gp_i (gp_I s69 q1 (gp_wr (v3 + 4)).toNat)]) (m := 8) (y' := 3153) (st' := []) rfl H.1 H.2 (fun r s72 H => ?_)
      obtain ⟨x73, rfl, H⟩ := H
      show gs_E L (d + 1) 4352 632 [gp_r (some q1), gp_r (some q68), gp_r (some q71), gp_i v3] [gp_i x73] s72 K
      refine gs_E.stp (pc' := 1249) (ls' := [gp_r (some q1), gp_r (some q68), gp_r (some q71), gp_i v3]) (st' := []) (s' := s72) 2 rfl ?_
      exact H
    · replace H := H.2.2.2.2.2.2.2.2.2.2.2.2.1 hsw
      refine gs_E.swi (v := 12) (pc' := 636) (ls' := [gp_r (some q1), gp_r v1, gp_r v2, gp_i v3]) (st' := []) hsw rfl ?_
      refine gs_E.stp (pc' := 641) (ls' := [gp_r (some q1), gp_r v1, gp_r v2, gp_i v3]) (st' := [gp_i (gp_wr (v3 + 1)), gp_r (some q1), gp_r v1]) (s' := s) 5 rfl ?_
      refine gs_E.ck (pc' := 642) (ls' := [gp_r (some q1), gp_r v1, gp_r v2, gp_i v3]) (st' := [gp_i (gp_I s q1 (gp_wr (v3 + 1)).toNat), gp_r v1]) (s' := s) rfl (Or.inr H.1) ?_
      replace H := H.2
      refine gs_E.stp (pc' := 646) (ls' := [gp_r (some q1), gp_r v1, gp_r v2, gp_i v3]) (st' := [gp_i (gp_wr (v3 + 2)), gp_r (some q1), gp_i (gp_I s q1 (gp_wr (v3 + 1)).toNat), gp_r v1]) (s' := s) 4 rfl ?_
      refine gs_E.ck (pc' := 647) (ls' := [gp_r (some q1), gp_r v1, gp_r v2, gp_i v3]) (st' := [gp_i (gp_I s q1 (gp_wr (v3 + 2)).toNat), gp_i (gp_I s q1 (gp_wr (v3 + 1)).toNat), gp_r v1]) (s' := s) rfl (Or.inr H.1) ?_
      replace H := H.2
      obtain ⟨q74, hq, H⟩ := H
      rw [hq]
      refine gs_E.callV (args := [gp_r (some q74), gp_i (gp_I s q1 (gp_wr (v3 + 1)).toNat), gp_i (gp_I s q1 (gp_wr (v3 + 2)).toNat)]) (m := 3) (y' := 2831) (st' := []) rfl H.1 H.2 (fun r s75 H => ?_)
      obtain ⟨x76, rfl, H⟩ := H
      show gs_E L (d + 1) 4352 650 [gp_r (some q1), gp_r (some q74), gp_r v2, gp_i v3] [gp_i x76] s75 K
      refine gs_E.stp (pc' := 656) (ls' := [gp_r (some q1), gp_r (some q74), gp_r v2, gp_i v3]) (st' := [gp_i (gp_wr (v3 + 1)), gp_r (some q1), gp_r v2]) (s' := s75) 6 rfl ?_
      refine gs_E.ck (pc' := 657) (ls' := [gp_r (some q1), gp_r (some q74), gp_r v2, gp_i v3]) (st' := [gp_i (gp_I s75 q1 (gp_wr (v3 + 1)).toNat), gp_r v2]) (s' := s75) rfl (Or.inr H.1) ?_
      replace H := H.2
      refine gs_E.stp (pc' := 661) (ls' := [gp_r (some q1), gp_r (some q74), gp_r v2, gp_i v3]) (st' := [gp_i (gp_wr (v3 + 2)), gp_r (some q1), gp_i (gp_I s75 q1 (gp_wr (v3 + 1)).toNat), gp_r v2]) (s' := s75) 4 rfl ?_
      refine gs_E.ck (pc' := 662) (ls' := [gp_r (some q1), gp_r (some q74), gp_r v2, gp_i v3]) (st' := [gp_i (gp_I s75 q1 (gp_wr (v3 + 2)).toNat), gp_i (gp_I s75 q1 (gp_wr (v3 + 1)).toNat), gp_r v2]) (s' := s75) rfl (Or.inr H.1) ?_
      replace H := H.2
      obtain ⟨q77, hq, H⟩ := H
      rw [hq]
      refine gs_E.callV (args := [gp_r (some q77), gp_i (gp_I s75 q1 (gp_wr (v3 + 1)).toNat), gp_i (gp_I s75 q1 (gp_wr (v3 + 2)).toNat)]) (m := 3) (y' := 3154) (st' := []) rfl H.1 H.2 (fun r s78 H => ?_)
      obtain ⟨x79, rfl, H⟩ := H
      show gs_E L (d + 1) 4352 665 [gp_r (some q1), gp_r (some q74), gp_r (some q77), gp_i v3] [gp_i x79] s78 K
      refine gs_E.stp (pc' := 1249) (ls' := [gp_r (some q1), gp_r (some q74), gp_r (some q77), gp_i v3]) (st' := []) (s' := s78) 2 rfl ?_
      exact H
    · replace H := H.2.2.2.2.2.2.2.2.2.2.2.2.2.1 hsw
      refine gs_E.swi (v := 13) (pc' := 669) (ls' := [gp_r (some q1), gp_r v1, gp_r v2, gp_i v3]) (st' := []) hsw rfl ?_
      refine gs_E.stp (pc' := 674) (ls' := [gp_r (some q1), gp_r v1, gp_r v2, gp_i v3]) (st' := [gp_i (gp_wr (v3 + 1)), gp_r (some q1), gp_r v1]) (s' := s) 5 rfl ?_
      refine gs_E.ck (pc' := 675) (ls' := [gp_r (some q1), gp_r v1, gp_r v2, gp_i v3]) (st' := [gp_i (gp_I s q1 (gp_wr (v3 + 1)).toNat), gp_r v1]) (s' := s) rfl (Or.inr H.1) ?_
      replace H := H.2
      refine gs_E.stp (pc' := 679) (ls' := [gp_r (some q1), gp_r v1, gp_r v2, gp_i v3]) (st' := [gp_i (gp_wr (v3 + 2)), gp_r (some q1), gp_i (gp_I s q1 (gp_wr (v3 + 1)).toNat), gp_r v1]) (s' := s) 4 rfl ?_
      refine gs_E.ck (pc' := 680) (ls' := [gp_r (some q1), gp_r v1, gp_r v2, gp_i v3]) (st' := [gp_i (gp_I s q1 (gp_wr (v3 + 2)).toNat), gp_i (gp_I s q1 (gp_wr (v3 + 1)).toNat), gp_r v1]) (s' := s) rfl (Or.inr H.1) ?_
      replace H := H.2
      obtain ⟨q80, hq, H⟩ := H
      rw [hq]
      refine gs_E.callV (args := [gp_r (some q80), gp_i (gp_I s q1 (gp_wr (v3 + 1)).toNat), gp_i (gp_I s q1 (gp_wr (v3 + 2)).toNat)]) (m := 3) (y' := 2832) (st' := []) rfl H.1 H.2 (fun r s81 H => ?_)
      obtain ⟨x82, rfl, H⟩ := H
      show gs_E L (d + 1) 4352 683 [gp_r (some q1), gp_r (some q80), gp_r v2, gp_i v3] [gp_i x82] s81 K
      refine gs_E.stp (pc' := 689) (ls' := [gp_r (some q1), gp_r (some q80), gp_r v2, gp_i v3]) (st' := [gp_i (gp_wr (v3 + 1)), gp_r (some q1), gp_r v2]) (s' := s81) 6 rfl ?_
      refine gs_E.ck (pc' := 690) (ls' := [gp_r (some q1), gp_r (some q80), gp_r v2, gp_i v3]) (st' := [gp_i (gp_I s81 q1 (gp_wr (v3 + 1)).toNat), gp_r v2]) (s' := s81) rfl (Or.inr H.1) ?_
      replace H := H.2
      refine gs_E.stp (pc' := 694) (ls' := [gp_r (some q1), gp_r (some q80), gp_r v2, gp_i v3]) (st' := [gp_i (gp_wr (v3 + 2)), gp_r (some q1), gp_i (gp_I s81 q1 (gp_wr (v3 + 1)).toNat), gp_r v2]) (s' := s81) 4 rfl ?_
      refine gs_E.ck (pc' := 695) (ls' := [gp_r (some q1), gp_r (some q80), gp_r v2, gp_i v3]) (st' := [gp_i (gp_I s81 q1 (gp_wr (v3 + 2)).toNat), gp_i (gp_I s81 q1 (gp_wr (v3 + 1)).toNat), gp_r v2]) (s' := s81) rfl (Or.inr H.1) ?_
      replace H := H.2
      obtain ⟨q83, hq, H⟩ := H
      rw [hq]
      refine gs_E.callV (args := [gp_r (some q83), gp_i (gp_I s81 q1 (gp_wr (v3 + 1)).toNat), gp_i (gp_I s81 q1 (gp_wr (v3 + 2)).toNat)]) (m := 3) (y' := 3162) (st' := []) rfl H.1 H.2 (fun r s84 H => ?_)
      obtain ⟨x85, rfl, H⟩ := H
      show gs_E L (d + 1) 4352 698 [gp_r (some q1), gp_r (some q80), gp_r (some q83), gp_i v3] [gp_i x85] s84 K
      refine gs_E.stp (pc' := 1249) (ls' := [gp_r (some q1), gp_r (some q80), gp_r (some q83), gp_i v3]) (st' := []) (s' := s84) 2 rfl ?_
      exact H
    · replace H := H.2.2.2.2.2.2.2.2.2.2.2.2.2.2.1 hsw
      refine gs_E.swi (v := 14) (pc' := 702) (ls' := [gp_r (some q1), gp_r v1, gp_r v2, gp_i v3]) (st' := []) hsw rfl ?_
      refine gs_E.stp (pc' := 707) (ls' := [gp_r (some q1), gp_r v1, gp_r v2, gp_i v3]) (st' := [gp_i (gp_wr (v3 + 1)), gp_r (some q1), gp_r v1]) (s' := s) 5 rfl ?_
      refine gs_E.ck (pc' := 708) (ls' := [gp_r (some q1), gp_r v1, gp_r v2, gp_i v3]) (st' := [gp_i (gp_I s q1 (gp_wr (v3 + 1)).toNat), gp_r v1]) (s' := s) rfl (Or.inr H.1) ?_
      replace H := H.2
      refine gs_E.stp (pc' := 712) (ls' := [gp_r (some q1), gp_r v1, gp_r v2, gp_i v3]) (st' := [gp_i (gp_wr (v3 + 2)), gp_r (some q1), gp_i (gp_I s q1 (gp_wr (v3 + 1)).toNat), gp_r v1]) (s' := s) 4 rfl ?_
      refine gs_E.ck (pc' := 713) (ls' := [gp_r (some q1), gp_r v1, gp_r v2, gp_i v3]) (st' := [gp_i (gp_I s q1 (gp_wr (v3 + 2)).toNat), gp_i (gp_I s q1 (gp_wr (v3 + 1)).toNat), gp_r v1]) (s' := s) rfl (Or.inr H.1) ?_
      replace H := H.2
      obtain ⟨q86, hq, H⟩ := H
      rw [hq]
      refine gs_E.callV (args := [gp_r (some q86), gp_i (gp_I s q1 (gp_wr (v3 + 1)).toNat), gp_i (gp_I s q1 (gp_wr (v3 + 2)).toNat)]) (m := 4) (y' := 2833) (st' := []) rfl H.1 H.2 (fun r s87 H => ?_)
      obtain ⟨x88, rfl, H⟩ := H
      show gs_E L (d + 1) 4352 716 [gp_r (some q1), gp_r (some q86), gp_r v2, gp_i v3] [gp_i x88] s87 K
      refine gs_E.stp (pc' := 722) (ls' := [gp_r (some q1), gp_r (some q86), gp_r v2, gp_i v3]) (st' := [gp_i (gp_wr (v3 + 1)), gp_r (some q1), gp_r v2]) (s' := s87) 6 rfl ?_
      refine gs_E.ck (pc' := 723) (ls' := [gp_r (some q1), gp_r (some q86), gp_r v2, gp_i v3]) (st' := [gp_i (gp_I s87 q1 (gp_wr (v3 + 1)).toNat), gp_r v2]) (s' := s87) rfl (Or.inr H.1) ?_
      replace H := H.2
      refine gs_E.stp (pc' := 727) (ls' := [gp_r (some q1), gp_r (some q86), gp_r v2, gp_i v3]) (st' := [gp_i (gp_wr (v3 + 2)), gp_r (some q1), gp_i (gp_I s87 q1 (gp_wr (v3 + 1)).toNat), gp_r v2]) (s' := s87) 4 rfl ?_
      refine gs_E.ck (pc' := 728) (ls' := [gp_r (some q1), gp_r (some q86), gp_r v2, gp_i v3]) (st' := [gp_i (gp_I s87 q1 (gp_wr (v3 + 2)).toNat), gp_i (gp_I s87 q1 (gp_wr (v3 + 1)).toNat), gp_r v2]) (s' := s87) rfl (Or.inr H.1) ?_
      replace H := H.2
      obtain ⟨q89, hq, H⟩ := H
      rw [hq]
      refine gs_E.callV (args := [gp_r (some q89), gp_i (gp_I s87 q1 (gp_wr (v3 + 1)).toNat), gp_i (gp_I s87 q1 (gp_wr (v3 + 2)).toNat)]) (m := 4) (y' := 3163) (st' := []) rfl H.1 H.2 (fun r s90 H => ?_)
      obtain ⟨x91, rfl, H⟩ := H
      show gs_E L (d + 1) 4352 731 [gp_r (some q1), gp_r (some q86), gp_r (some q89), gp_i v3] [gp_i x91] s90 K
      refine gs_E.stp (pc' := 1249) (ls' := [gp_r (some q1), gp_r (some q86), gp_r (some q89), gp_i v3]) (st' := []) (s' := s90) 2 rfl ?_
      exact H
    · replace H := H.2.2.2.2.2.2.2.2.2.2.2.2.2.2.2.1 hsw
      refine gs_E.swi (v := 15) (pc' := 735) (ls' := [gp_r (some q1), gp_r v1, gp_r v2, gp_i v3]) (st' := []) hsw rfl ?_
      refine gs_E.stp (pc' := 740) (ls' := [gp_r (some q1), gp_r v1, gp_r v2, gp_i v3]) (st' := [gp_i (gp_wr (v3 + 1)), gp_r (some q1), gp_r v1]) (s' := s) 5 rfl ?_
      refine gs_E.ck (pc' := 741) (ls' := [gp_r (some q1), gp_r v1, gp_r v2, gp_i v3]) (st' := [gp_i (gp_I s q1 (gp_wr (v3 + 1)).toNat), gp_r v1]) (s' := s) rfl (Or.inr H.1) ?_
      replace H := H.2
      refine gs_E.stp (pc' := 745) (ls' := [gp_r (some q1), gp_r v1, gp_r v2, gp_i v3]) (st' := [gp_i (gp_wr (v3 + 2)), gp_r (some q1), gp_i (gp_I s q1 (gp_wr (v3 + 1)).toNat), gp_r v1]) (s' := s) 4 rfl ?_
      refine gs_E.ck (pc' := 746) (ls' := [gp_r (some q1), gp_r v1, gp_r v2, gp_i v3]) (st' := [gp_i (gp_I s q1 (gp_wr (v3 + 2)).toNat), gp_i (gp_I s q1 (gp_wr (v3 + 1)).toNat), gp_r v1]) (s' := s) rfl (Or.inr H.1) ?_
      replace H := H.2
      obtain ⟨q92, hq, H⟩ := H
      rw [hq]
      refine gs_E.callV (args := [gp_r (some q92), gp_i (gp_I s q1 (gp_wr (v3 + 1)).toNat), gp_i (gp_I s q1 (gp_wr (v3 + 2)).toNat)]) (m := 3) (y' := 2834) (st' := []) rfl H.1 H.2 (fun r s93 H => ?_)
      obtain ⟨x94, rfl, H⟩ := H
      show gs_E L (d + 1) 4352 749 [gp_r (some q1), gp_r (some q92), gp_r v2, gp_i v3] [gp_i x94] s93 K
      refine gs_E.stp (pc' := 755) (ls' := [gp_r (some q1), gp_r (some q92), gp_r v2, gp_i v3]) (st' := [gp_i (gp_wr (v3 + 1)), gp_r (some q1), gp_r v2]) (s' := s93) 6 rfl ?_
      refine gs_E.ck (pc' := 756) (ls' := [gp_r (some q1), gp_r (some q92), gp_r v2, gp_i v3]) (st' := [gp_i (gp_I s93 q1 (gp_wr (v3 + 1)).toNat), gp_r v2]) (s' := s93) rfl (Or.inr H.1) ?_
      replace H := H.2
      refine gs_E.stp (pc' := 760) (ls' := [gp_r (some q1), gp_r (some q92), gp_r v2, gp_i v3]) (st' := [gp_i (gp_wr (v3 + 2)), gp_r (some q1), gp_i (gp_I s93 q1 (gp_wr (v3 + 1)).toNat), gp_r v2]) (s' := s93) 4 rfl ?_
      refine gs_E.ck (pc' := 761) (ls' := [gp_r (some q1), gp_r (some q92), gp_r v2, gp_i v3]) (st' := [gp_i (gp_I s93 q1 (gp_wr (v3 + 2)).toNat), gp_i (gp_I s93 q1 (gp_wr (v3 + 1)).toNat), gp_r v2]) (s' := s93) rfl (Or.inr H.1) ?_
      replace H := H.2
      obtain ⟨q95, hq, H⟩ := H
      rw [hq]
      refine gs_E.callV (args := [gp_r (some q95), gp_i (gp_I s93 q1 (gp_wr (v3 + 1)).toNat), gp_i (gp_I s93 q1 (gp_wr (v3 + 2)).toNat)]) (m := 4) (y' := 3168) (st' := []) rfl H.1 H.2 (fun r s96 H => ?_)
      obtain ⟨x97, rfl, H⟩ := H
      show gs_E L (d + 1) 4352 764 [gp_r (some q1), gp_r (some q92), gp_r (some q95), gp_i v3] [gp_i x97] s96 K
      refine gs_E.stp (pc' := 1249) (ls' := [gp_r (some q1), gp_r (some q92), gp_r (some q95), gp_i v3]) (st' := []) (s' := s96) 2 rfl ?_
      exact H
    · replace H := H.2.2.2.2.2.2.2.2.2.2.2.2.2.2.2.2.1 hsw
      refine gs_E.swi (v := 16) (pc' := 768) (ls' := [gp_r (some q1), gp_r v1, gp_r v2, gp_i v3]) (st' := []) hsw rfl ?_
      refine gs_E.stp (pc' := 773) (ls' := [gp_r (some q1), gp_r v1, gp_r v2, gp_i v3]) (st' := [gp_i (gp_wr (v3 + 1)), gp_r (some q1), gp_r v1]) (s' := s) 5 rfl ?_
      refine gs_E.ck (pc' := 774) (ls' := [gp_r (some q1), gp_r v1, gp_r v2, gp_i v3]) (st' := [gp_i (gp_I s q1 (gp_wr (v3 + 1)).toNat), gp_r v1]) (s' := s) rfl (Or.inr H.1) ?_
      replace H := H.2
      refine gs_E.stp (pc' := 778) (ls' := [gp_r (some q1), gp_r v1, gp_r v2, gp_i v3]) (st' := [gp_i (gp_wr (v3 + 2)), gp_r (some q1), gp_i (gp_I s q1 (gp_wr (v3 + 1)).toNat), gp_r v1]) (s' := s) 4 rfl ?_
      refine gs_E.ck (pc' := 779) (ls' := [gp_r (some q1), gp_r v1, gp_r v2, gp_i v3]) (st' := [gp_i (gp_I s q1 (gp_wr (v3 + 2)).toNat), gp_i (gp_I s q1 (gp_wr (v3 + 1)).toNat), gp_r v1]) (s' := s) rfl (Or.inr H.1) ?_
      replace H := H.2
      obtain ⟨q98, hq, H⟩ := H
      rw [hq]
      refine gs_E.callV (args := [gp_r (some q98), gp_i (gp_I s q1 (gp_wr (v3 + 1)).toNat), gp_i (gp_I s q1 (gp_wr (v3 + 2)).toNat)]) (m := 4) (y' := 2835) (st' := []) rfl H.1 H.2 (fun r s99 H => ?_)
      obtain ⟨x100, rfl, H⟩ := H
      show gs_E L (d + 1) 4352 782 [gp_r (some q1), gp_r (some q98), gp_r v2, gp_i v3] [gp_i x100] s99 K
      refine gs_E.stp (pc' := 788) (ls' := [gp_r (some q1), gp_r (some q98), gp_r v2, gp_i v3]) (st' := [gp_i (gp_wr (v3 + 1)), gp_r (some q1), gp_r v2]) (s' := s99) 6 rfl ?_
      refine gs_E.ck (pc' := 789) (ls' := [gp_r (some q1), gp_r (some q98), gp_r v2, gp_i v3]) (st' := [gp_i (gp_I s99 q1 (gp_wr (v3 + 1)).toNat), gp_r v2]) (s' := s99) rfl (Or.inr H.1) ?_
      replace H := H.2
      refine gs_E.stp (pc' := 793) (ls' := [gp_r (some q1), gp_r (some q98), gp_r v2, gp_i v3]) (st' := [gp_i (gp_wr (v3 + 2)), gp_r (some q1), gp_i (gp_I s99 q1 (gp_wr (v3 + 1)).toNat), gp_r v2]) (s' := s99) 4 rfl ?_
      refine gs_E.ck (pc' := 794) (ls' := [gp_r (some q1), gp_r (some q98), gp_r v2, gp_i v3]) (st' := [gp_i (gp_I s99 q1 (gp_wr (v3 + 2)).toNat), gp_i (gp_I s99 q1 (gp_wr (v3 + 1)).toNat), gp_r v2]) (s' := s99) rfl (Or.inr H.1) ?_
      replace H := H.2
      obtain ⟨q101, hq, H⟩ := H
      rw [hq]
      refine gs_E.callV (args := [gp_r (some q101), gp_i (gp_I s99 q1 (gp_wr (v3 + 1)).toNat), gp_i (gp_I s99 q1 (gp_wr (v3 + 2)).toNat)]) (m := 4) (y' := 3171) (st' := []) rfl H.1 H.2 (fun r s102 H => ?_)
      obtain ⟨x103, rfl, H⟩ := H
      show gs_E L (d + 1) 4352 797 [gp_r (some q1), gp_r (some q98), gp_r (some q101), gp_i v3] [gp_i x103] s102 K
      refine gs_E.stp (pc' := 1249) (ls' := [gp_r (some q1), gp_r (some q98), gp_r (some q101), gp_i v3]) (st' := []) (s' := s102) 2 rfl ?_
      exact H
    · replace H := H.2.2.2.2.2.2.2.2.2.2.2.2.2.2.2.2.2.1 hsw
      refine gs_E.swi (v := 17) (pc' := 801) (ls' := [gp_r (some q1), gp_r v1, gp_r v2, gp_i v3]) (st' := []) hsw rfl ?_
      refine gs_E.stp (pc' := 806) (ls' := [gp_r (some q1), gp_r v1, gp_r v2, gp_i v3]) (st' := [gp_i (gp_wr (v3 + 1)), gp_r (some q1), gp_r v1]) (s' := s) 5 rfl ?_
      refine gs_E.ck (pc' := 807) (ls' := [gp_r (some q1), gp_r v1, gp_r v2, gp_i v3]) (st' := [gp_i (gp_I s q1 (gp_wr (v3 + 1)).toNat), gp_r v1]) (s' := s) rfl (Or.inr H.1) ?_
      replace H := H.2
      obtain ⟨q104, hq, H⟩ := H
      rw [hq]
      refine gs_E.callV (args := [gp_r (some q104), gp_i (gp_I s q1 (gp_wr (v3 + 1)).toNat)]) (m := 3) (y' := 2836) (st' := []) rfl H.1 H.2 (fun r s105 H => ?_)
      obtain ⟨x106, rfl, H⟩ := H
      show gs_E L (d + 1) 4352 810 [gp_r (some q1), gp_r (some q104), gp_r v2, gp_i v3] [gp_i x106] s105 K
      refine gs_E.stp (pc' := 816) (ls' := [gp_r (some q1), gp_r (some q104), gp_r v2, gp_i v3]) (st' := [gp_i (gp_wr (v3 + 1)), gp_r (some q1), gp_r v2]) (s' := s105) 6 rfl ?_
      refine gs_E.ck (pc' := 817) (ls' := [gp_r (some q1), gp_r (some q104), gp_r v2, gp_i v3]) (st' := [gp_i (gp_I s105 q1 (gp_wr (v3 + 1)).toNat), gp_r v2]) (s' := s105) rfl (Or.inr H.1) ?_
      replace H := H.2
      obtain ⟨q107, hq, H⟩ := H
      rw [hq]
      refine gs_E.callV (args := [gp_r (some q107), gp_i (gp_I s105 q1 (gp_wr (v3 + 1)).toNat)]) (m := 4) (y' := 3172) (st' := []) rfl H.1 H.2 (fun r s108 H => ?_)
      obtain ⟨x109, rfl, H⟩ := H
      show gs_E L (d + 1) 4352 820 [gp_r (some q1), gp_r (some q104), gp_r (some q107), gp_i v3] [gp_i x109] s108 K
      refine gs_E.stp (pc' := 1249) (ls' := [gp_r (some q1), gp_r (some q104), gp_r (some q107), gp_i v3]) (st' := []) (s' := s108) 2 rfl ?_
      exact H
    · replace H := H.2.2.2.2.2.2.2.2.2.2.2.2.2.2.2.2.2.2.1 hsw
      refine gs_E.swi (v := 18) (pc' := 824) (ls' := [gp_r (some q1), gp_r v1, gp_r v2, gp_i v3]) (st' := []) hsw rfl ?_
      refine gs_E.stp (pc' := 829) (ls' := [gp_r (some q1), gp_r v1, gp_r v2, gp_i v3]) (st' := [gp_i (gp_wr (v3 + 1)), gp_r (some q1), gp_r v1]) (s' := s) 5 rfl ?_
      refine gs_E.ck (pc' := 830) (ls' := [gp_r (some q1), gp_r v1, gp_r v2, gp_i v3]) (st' := [gp_i (gp_I s q1 (gp_wr (v3 + 1)).toNat), gp_r v1]) (s' := s) rfl (Or.inr H.1) ?_
      replace H := H.2
      obtain ⟨q110, hq, H⟩ := H
      rw [hq]
      refine gs_E.callV (args := [gp_r (some q110), gp_i (gp_I s q1 (gp_wr (v3 + 1)).toNat)]) (m := 3) (y' := 2837) (st' := []) rfl H.1 H.2 (fun r s111 H => ?_)
      obtain ⟨x112, rfl, H⟩ := H
      show gs_E L (d + 1) 4352 833 [gp_r (some q1), gp_r (some q110), gp_r v2, gp_i v3] [gp_i x112] s111 K
      refine gs_E.stp (pc' := 839) (ls' := [gp_r (some q1), gp_r (some q110), gp_r v2, gp_i v3]) (st' := [gp_i (gp_wr (v3 + 1)), gp_r (some q1), gp_r v2]) (s' := s111) 6 rfl ?_
      refine gs_E.ck (pc' := 840) (ls' := [gp_r (some q1), gp_r (some q110), gp_r v2, gp_i v3]) (st' := [gp_i (gp_I s111 q1 (gp_wr (v3 + 1)).toNat), gp_r v2]) (s' := s111) rfl (Or.inr H.1) ?_
      replace H := H.2
      obtain ⟨q113, hq, H⟩ := H
      rw [hq]
      refine gs_E.callV (args := [gp_r (some q113), gp_i (gp_I s111 q1 (gp_wr (v3 + 1)).toNat)]) (m := 5) (y' := 3173) (st' := []) rfl H.1 H.2 (fun r s114 H => ?_)
      obtain ⟨x115, rfl, H⟩ := H
      show gs_E L (d + 1) 4352 843 [gp_r (some q1), gp_r (some q110), gp_r (some q113), gp_i v3] [gp_i x115] s114 K
      refine gs_E.stp (pc' := 1249) (ls' := [gp_r (some q1), gp_r (some q110), gp_r (some q113), gp_i v3]) (st' := []) (s' := s114) 2 rfl ?_
      exact H
    · replace H := H.2.2.2.2.2.2.2.2.2.2.2.2.2.2.2.2.2.2.2.1 hsw
      refine gs_E.swi (v := 19) (pc' := 847) (ls' := [gp_r (some q1), gp_r v1, gp_r v2, gp_i v3]) (st' := []) hsw rfl ?_
      refine gs_E.stp (pc' := 848) (ls' := [gp_r (some q1), gp_r v1, gp_r v2, gp_i v3]) (st' := [gp_r v1]) (s' := s) 1 rfl ?_
      obtain ⟨q116, hq, H⟩ := H
      rw [hq]
      refine gs_E.callV (args := [gp_r (some q116)]) (m := 1) (y' := 2838) (st' := []) rfl H.1 H.2 (fun r s117 H => ?_)
      obtain ⟨x118, rfl, H⟩ := H
      show gs_E L (d + 1) 4352 851 [gp_r (some q1), gp_r (some q116), gp_r v2, gp_i v3] [gp_i x118] s117 K
      refine gs_E.stp (pc' := 853) (ls' := [gp_r (some q1), gp_r (some q116), gp_r v2, gp_i v3]) (st' := [gp_r v2]) (s' := s117) 2 rfl ?_
      obtain ⟨q119, hq, H⟩ := H
      rw [hq]
      refine gs_E.callV (args := [gp_r (some q119)]) (m := 1) (y' := 3174) (st' := []) rfl H.1 H.2 (fun r s120 H => ?_)
      obtain ⟨x121, rfl, H⟩ := H
      show gs_E L (d + 1) 4352 856 [gp_r (some q1), gp_r (some q116), gp_r (some q119), gp_i v3] [gp_i x121] s120 K
      refine gs_E.stp (pc' := 1249) (ls' := [gp_r (some q1), gp_r (some q116), gp_r (some q119), gp_i v3]) (st' := []) (s' := s120) 2 rfl ?_
      exact H
    · replace H := H.2.2.2.2.2.2.2.2.2.2.2.2.2.2.2.2.2.2.2.2.1 hsw
      refine gs_E.swi (v := 20) (pc' := 860) (ls' := [gp_r (some q1), gp_r v1, gp_r v2, gp_i v3]) (st' := []) hsw rfl ?_
      refine gs_E.stp (pc' := 865) (ls' := [gp_r (some q1), gp_r v1, gp_r v2, gp_i v3]) (st' := [gp_i (gp_wr (v3 + 1)), gp_r (some q1), gp_r v1]) (s' := s) 5 rfl ?_
      refine gs_E.ck (pc' := 866) (ls' := [gp_r (some q1), gp_r v1, gp_r v2, gp_i v3]) (st' := [gp_i (gp_I s q1 (gp_wr (v3 + 1)).toNat), gp_r v1]) (s' := s) rfl (Or.inr H.1) ?_
      replace H := H.2
      obtain ⟨q122, hq, H⟩ := H
      rw [hq]
      refine gs_E.callV (args := [gp_r (some q122), gp_i (gp_I s q1 (gp_wr (v3 + 1)).toNat)]) (m := 2) (y' := 2839) (st' := []) rfl H.1 H.2 (fun r s123 H => ?_)
      obtain ⟨x124, rfl, H⟩ := H
      show gs_E L (d + 1) 4352 869 [gp_r (some q1), gp_r (some q122), gp_r v2, gp_i v3] [gp_i x124] s123 K
      refine gs_E.stp (pc' := 875) (ls' := [gp_r (some q1), gp_r (some q122), gp_r v2, gp_i v3]) (st' := [gp_i (gp_wr (v3 + 1)), gp_r (some q1), gp_r v2]) (s' := s123) 6 rfl ?_
      refine gs_E.ck (pc' := 876) (ls' := [gp_r (some q1), gp_r (some q122), gp_r v2, gp_i v3]) (st' := [gp_i (gp_I s123 q1 (gp_wr (v3 + 1)).toNat), gp_r v2]) (s' := s123) rfl (Or.inr H.1) ?_
      replace H := H.2
      obtain ⟨q125, hq, H⟩ := H
      rw [hq]
      refine gs_E.callV (args := [gp_r (some q125), gp_i (gp_I s123 q1 (gp_wr (v3 + 1)).toNat)]) (m := 4) (y' := 3175) (st' := []) rfl H.1 H.2 (fun r s126 H => ?_)
      obtain ⟨x127, rfl, H⟩ := H
      show gs_E L (d + 1) 4352 879 [gp_r (some q1), gp_r (some q122), gp_r (some q125), gp_i v3] [gp_i x127] s126 K
      refine gs_E.stp (pc' := 1249) (ls' := [gp_r (some q1), gp_r (some q122), gp_r (some q125), gp_i v3]) (st' := []) (s' := s126) 2 rfl ?_
      exact H
    · replace H := H.2.2.2.2.2.2.2.2.2.2.2.2.2.2.2.2.2.2.2.2.2.1 hsw
      refine gs_E.swi (v := 21) (pc' := 883) (ls' := [gp_r (some q1), gp_r v1, gp_r v2, gp_i v3]) (st' := []) hsw rfl ?_
      refine gs_E.stp (pc' := 888) (ls' := [gp_r (some q1), gp_r v1, gp_r v2, gp_i v3]) (st' := [gp_i (gp_wr (v3 + 1)), gp_r (some q1), gp_r v1]) (s' := s) 5 rfl ?_
      refine gs_E.ck (pc' := 889) (ls' := [gp_r (some q1), gp_r v1, gp_r v2, gp_i v3]) (st' := [gp_i (gp_I s q1 (gp_wr (v3 + 1)).toNat), gp_r v1]) (s' := s) rfl (Or.inr H.1) ?_
      replace H := H.2
      obtain ⟨q128, hq, H⟩ := H
      rw [hq]
      refine gs_E.callV (args := [gp_r (some q128), gp_i (gp_I s q1 (gp_wr (v3 + 1)).toNat)]) (m := 2) (y' := 2840) (st' := []) rfl H.1 H.2 (fun r s129 H => ?_)
      obtain ⟨x130, rfl, H⟩ := H
      show gs_E L (d + 1) 4352 892 [gp_r (some q1), gp_r (some q128), gp_r v2, gp_i v3] [gp_i x130] s129 K
      refine gs_E.stp (pc' := 898) (ls' := [gp_r (some q1), gp_r (some q128), gp_r v2, gp_i v3]) (st' := [gp_i (gp_wr (v3 + 1)), gp_r (some q1), gp_r v2]) (s' := s129) 6 rfl ?_
      refine gs_E.ck (pc' := 899) (ls' := [gp_r (some q1), gp_r (some q128), gp_r v2, gp_i v3]) (st' := [gp_i (gp_I s129 q1 (gp_wr (v3 + 1)).toNat), gp_r v2]) (s' := s129) rfl (Or.inr H.1) ?_
      replace H := H.2
      obtain ⟨q131, hq, H⟩ := H
      rw [hq]
      refine gs_E.callV (args := [gp_r (some q131), gp_i (gp_I s129 q1 (gp_wr (v3 + 1)).toNat)]) (m := 2) (y' := 3176) (st' := []) rfl H.1 H.2 (fun r s132 H => ?_)
      obtain ⟨x133, rfl, H⟩ := H
      show gs_E L (d + 1) 4352 902 [gp_r (some q1), gp_r (some q128), gp_r (some q131), gp_i v3] [gp_i x133] s132 K
      refine gs_E.stp (pc' := 1249) (ls' := [gp_r (some q1), gp_r (some q128), gp_r (some q131), gp_i v3]) (st' := []) (s' := s132) 2 rfl ?_
      exact H
    · replace H := H.2.2.2.2.2.2.2.2.2.2.2.2.2.2.2.2.2.2.2.2.2.2.1 hsw
      refine gs_E.swi (v := 22) (pc' := 906) (ls' := [gp_r (some q1), gp_r v1, gp_r v2, gp_i v3]) (st' := []) hsw rfl ?_
      refine gs_E.stp (pc' := 911) (ls' := [gp_r (some q1), gp_r v1, gp_r v2, gp_i v3]) (st' := [gp_i (gp_wr (v3 + 1)), gp_r (some q1), gp_r v1]) (s' := s) 5 rfl ?_
      refine gs_E.ck (pc' := 912) (ls' := [gp_r (some q1), gp_r v1, gp_r v2, gp_i v3]) (st' := [gp_i (gp_I s q1 (gp_wr (v3 + 1)).toNat), gp_r v1]) (s' := s) rfl (Or.inr H.1) ?_
      replace H := H.2
      refine gs_E.stp (pc' := 916) (ls' := [gp_r (some q1), gp_r v1, gp_r v2, gp_i v3]) (st' := [gp_i (gp_wr (v3 + 2)), gp_r (some q1), gp_i (gp_I s q1 (gp_wr (v3 + 1)).toNat), gp_r v1]) (s' := s) 4 rfl ?_
      refine gs_E.ck (pc' := 917) (ls' := [gp_r (some q1), gp_r v1, gp_r v2, gp_i v3]) (st' := [gp_i (gp_I s q1 (gp_wr (v3 + 2)).toNat), gp_i (gp_I s q1 (gp_wr (v3 + 1)).toNat), gp_r v1]) (s' := s) rfl (Or.inr H.1) ?_
      replace H := H.2
      obtain ⟨q134, hq, H⟩ := H
      rw [hq]
      refine gs_E.callV (args := [gp_r (some q134), gp_i (gp_I s q1 (gp_wr (v3 + 1)).toNat), gp_i (gp_I s q1 (gp_wr (v3 + 2)).toNat)]) (m := 4) (y' := 2841) (st' := []) rfl H.1 H.2 (fun r s135 H => ?_)
      obtain ⟨x136, rfl, H⟩ := H
      show gs_E L (d + 1) 4352 920 [gp_r (some q1), gp_r (some q134), gp_r v2, gp_i v3] [gp_i x136] s135 K
      refine gs_E.stp (pc' := 926) (ls' := [gp_r (some q1), gp_r (some q134), gp_r v2, gp_i v3]) (st' := [gp_i (gp_wr (v3 + 1)), gp_r (some q1), gp_r v2]) (s' := s135) 6 rfl ?_
      refine gs_E.ck (pc' := 927) (ls' := [gp_r (some q1), gp_r (some q134), gp_r v2, gp_i v3]) (st' := [gp_i (gp_I s135 q1 (gp_wr (v3 + 1)).toNat), gp_r v2]) (s' := s135) rfl (Or.inr H.1) ?_
      replace H := H.2
      refine gs_E.stp (pc' := 931) (ls' := [gp_r (some q1), gp_r (some q134), gp_r v2, gp_i v3]) (st' := [gp_i (gp_wr (v3 + 2)), gp_r (some q1), gp_i (gp_I s135 q1 (gp_wr (v3 + 1)).toNat), gp_r v2]) (s' := s135) 4 rfl ?_
      refine gs_E.ck (pc' := 932) (ls' := [gp_r (some q1), gp_r (some q134), gp_r v2, gp_i v3]) (st' := [gp_i (gp_I s135 q1 (gp_wr (v3 + 2)).toNat), gp_i (gp_I s135 q1 (gp_wr (v3 + 1)).toNat), gp_r v2]) (s' := s135) rfl (Or.inr H.1) ?_
      replace H := H.2
      obtain ⟨q137, hq, H⟩ := H
      rw [hq]
      refine gs_E.callV (args := [gp_r (some q137), gp_i (gp_I s135 q1 (gp_wr (v3 + 1)).toNat), gp_i (gp_I s135 q1 (gp_wr (v3 + 2)).toNat)]) (m := 4) (y' := 3177) (st' := []) rfl H.1 H.2 (fun r s138 H => ?_)
      obtain ⟨x139, rfl, H⟩ := H
      show gs_E L (d + 1) 4352 935 [gp_r (some q1), gp_r (some q134), gp_r (some q137), gp_i v3] [gp_i x139] s138 K
      refine gs_E.stp (pc' := 1249) (ls' := [gp_r (some q1), gp_r (some q134), gp_r (some q137), gp_i v3]) (st' := []) (s' := s138) 2 rfl ?_
      exact H
    · replace H := H.2.2.2.2.2.2.2.2.2.2.2.2.2.2.2.2.2.2.2.2.2.2.2.1 hsw
      refine gs_E.swi (v := 23) (pc' := 939) (ls' := [gp_r (some q1), gp_r v1, gp_r v2, gp_i v3]) (st' := []) hsw rfl ?_
      refine gs_E.stp (pc' := 944) (ls' := [gp_r (some q1), gp_r v1, gp_r v2, gp_i v3]) (st' := [gp_i (gp_wr (v3 + 1)), gp_r (some q1), gp_r v1]) (s' := s) 5 rfl ?_
      refine gs_E.ck (pc' := 945) (ls' := [gp_r (some q1), gp_r v1, gp_r v2, gp_i v3]) (st' := [gp_i (gp_I s q1 (gp_wr (v3 + 1)).toNat), gp_r v1]) (s' := s) rfl (Or.inr H.1) ?_
      replace H := H.2
      refine gs_E.stp (pc' := 949) (ls' := [gp_r (some q1), gp_r v1, gp_r v2, gp_i v3]) (st' := [gp_i (gp_wr (v3 + 2)), gp_r (some q1), gp_i (gp_I s q1 (gp_wr (v3 + 1)).toNat), gp_r v1]) (s' := s) 4 rfl ?_
      refine gs_E.ck (pc' := 950) (ls' := [gp_r (some q1), gp_r v1, gp_r v2, gp_i v3]) (st' := [gp_i (gp_I s q1 (gp_wr (v3 + 2)).toNat), gp_i (gp_I s q1 (gp_wr (v3 + 1)).toNat), gp_r v1]) (s' := s) rfl (Or.inr H.1) ?_
      replace H := H.2
      refine gs_E.stp (pc' := 954) (ls' := [gp_r (some q1), gp_r v1, gp_r v2, gp_i v3]) (st' := [gp_i (gp_wr (v3 + 3)), gp_r (some q1), gp_i (gp_I s q1 (gp_wr (v3 + 2)).toNat), gp_i (gp_I s q1 (gp_wr (v3 + 1)).toNat), gp_r v1]) (s' := s) 4 rfl ?_
      refine gs_E.ck (pc' := 955) (ls' := [gp_r (some q1), gp_r v1, gp_r v2, gp_i v3]) (st' := [gp_i (gp_I s q1 (gp_wr (v3 + 3)).toNat), gp_i (gp_I s q1 (gp_wr (v3 + 2)).toNat), gp_i (gp_I s q1 (gp_wr (v3 + 1)).toNat), gp_r v1]) (s' := s) rfl (Or.inr H.1) ?_
      replace H := H.2
      obtain ⟨q140, hq, H⟩ := H
      rw [hq]
      refine gs_E.callV (args := [gp_r (some q140), gp_i (gp_I s q1 (gp_wr (v3 + 1)).toNat), gp_i (gp_I s q1 (gp_wr (v3 + 2)).toNat), gp_i (gp_I s q1 (gp_wr (v3 + 3)).toNat)]) (m := 4) (y' := 2842) (st' := []) rfl H.1 H.2 (fun r s141 H => ?_)
      obtain ⟨x142, rfl, H⟩ := H
      show gs_E L (d + 1) 4352 958 [gp_r (some q1), gp_r (some q140), gp_r v2, gp_i v3] [gp_i x142] s141 K
      refine gs_E.stp (pc' := 964) (ls' := [gp_r (some q1), gp_r (some q140), gp_r v2, gp_i v3]) (st' := [gp_i (gp_wr (v3 + 1)), gp_r (some q1), gp_r v2]) (s' := s141) 6 rfl ?_
      refine gs_E.ck (pc' := 965) (ls' := [gp_r (some q1), gp_r (some q140), gp_r v2, gp_i v3]) (st' := [gp_i (gp_I s141 q1 (gp_wr (v3 + 1)).toNat), gp_r v2]) (s' := s141) rfl (Or.inr H.1) ?_
      replace H := H.2
      refine gs_E.stp (pc' := 969) (ls' := [gp_r (some q1), gp_r (some q140), gp_r v2, gp_i v3]) (st' := [gp_i (gp_wr (v3 + 2)), gp_r (some q1), gp_i (gp_I s141 q1 (gp_wr (v3 + 1)).toNat), gp_r v2]) (s' := s141) 4 rfl ?_
      refine gs_E.ck (pc' := 970) (ls' := [gp_r (some q1), gp_r (some q140), gp_r v2, gp_i v3]) (st' := [gp_i (gp_I s141 q1 (gp_wr (v3 + 2)).toNat), gp_i (gp_I s141 q1 (gp_wr (v3 + 1)).toNat), gp_r v2]) (s' := s141) rfl (Or.inr H.1) ?_
      replace H := H.2
      refine gs_E.stp (pc' := 974) (ls' := [gp_r (some q1), gp_r (some q140), gp_r v2, gp_i v3]) (st' := [gp_i (gp_wr (v3 + 3)), gp_r (some q1), gp_i (gp_I s141 q1 (gp_wr (v3 + 2)).toNat), gp_i (gp_I s141 q1 (gp_wr (v3 + 1)).toNat), gp_r v2]) (s' := s141) 4 rfl ?_
      refine gs_E.ck (pc' := 975) (ls' := [gp_r (some q1), gp_r (some q140), gp_r v2, gp_i v3]) (st' := [gp_i (gp_I s141 q1 (gp_wr (v3 + 3)).toNat), gp_i (gp_I s141 q1 (gp_wr (v3 + 2)).toNat), gp_i (gp_I s141 q1 (gp_wr (v3 + 1)).toNat), gp_r v2]) (s' := s141) rfl (Or.inr H.1) ?_
      replace H := H.2
      obtain ⟨q143, hq, H⟩ := H
      rw [hq]
      refine gs_E.callV (args := [gp_r (some q143), gp_i (gp_I s141 q1 (gp_wr (v3 + 1)).toNat), gp_i (gp_I s141 q1 (gp_wr (v3 + 2)).toNat), gp_i (gp_I s141 q1 (gp_wr (v3 + 3)).toNat)]) (m := 5) (y' := 3178) (st' := []) rfl H.1 H.2 (fun r s144 H => ?_)
      obtain ⟨x145, rfl, H⟩ := H
      show gs_E L (d + 1) 4352 978 [gp_r (some q1), gp_r (some q140), gp_r (some q143), gp_i v3] [gp_i x145] s144 K
      refine gs_E.stp (pc' := 1249) (ls' := [gp_r (some q1), gp_r (some q140), gp_r (some q143), gp_i v3]) (st' := []) (s' := s144) 2 rfl ?_
      exact H
    · replace H := H.2.2.2.2.2.2.2.2.2.2.2.2.2.2.2.2.2.2.2.2.2.2.2.2.1 hsw
      refine gs_E.swi (v := 24) (pc' := 982) (ls' := [gp_r (some q1), gp_r v1, gp_r v2, gp_i v3]) (st' := []) hsw rfl ?_
      refine gs_E.stp (pc' := 987) (ls' := [gp_r (some q1), gp_r v1, gp_r v2, gp_i v3]) (st' := [gp_i (gp_wr (v3 + 1)), gp_r (some q1), gp_r v1]) (s' := s) 5 rfl ?_
      refine gs_E.ck (pc' := 988) (ls' := [gp_r (some q1), gp_r v1, gp_r v2, gp_i v3]) (st' := [gp_i (gp_I s q1 (gp_wr (v3 + 1)).toNat), gp_r v1]) (s' := s) rfl (Or.inr H.1) ?_
      replace H := H.2
      refine gs_E.stp (pc' := 992) (ls' := [gp_r (some q1), gp_r v1, gp_r v2, gp_i v3]) (st' := [gp_i (gp_wr (v3 + 2)), gp_r (some q1), gp_i (gp_I s q1 (gp_wr (v3 + 1)).toNat), gp_r v1]) (s' := s) 4 rfl ?_
      refine gs_E.ck (pc' := 993) (ls' := [gp_r (some q1), gp_r v1, gp_r v2, gp_i v3]) (st' := [gp_i (gp_I s q1 (gp_wr (v3 + 2)).toNat), gp_i (gp_I s q1 (gp_wr (v3 + 1)).toNat), gp_r v1]) (s' := s) rfl (Or.inr H.1) ?_
      replace H := H.2
      refine gs_E.stp (pc' := 997) (ls' := [gp_r (some q1), gp_r v1, gp_r v2, gp_i v3]) (st' := [gp_i (gp_wr (v3 + 3)), gp_r (some q1), gp_i (gp_I s q1 (gp_wr (v3 + 2)).toNat), gp_i (gp_I s q1 (gp_wr (v3 + 1)).toNat), gp_r v1]) (s' := s) 4 rfl ?_
      refine gs_E.ck (pc' := 998) (ls' := [gp_r (some q1), gp_r v1, gp_r v2, gp_i v3]) (st' := [gp_i (gp_I s q1 (gp_wr (v3 + 3)).toNat), gp_i (gp_I s q1 (gp_wr (v3 + 2)).toNat), gp_i (gp_I s q1 (gp_wr (v3 + 1)).toNat), gp_r v1]) (s' := s) rfl (Or.inr H.1) ?_
      replace H := H.2
      obtain ⟨q146, hq, H⟩ := H
      rw [hq]
      refine gs_E.callV (args := [gp_r (some q146), gp_i (gp_I s q1 (gp_wr (v3 + 1)).toNat), gp_i (gp_I s q1 (gp_wr (v3 + 2)).toNat), gp_i (gp_I s q1 (gp_wr (v3 + 3)).toNat)]) (m := 4) (y' := 2843) (st' := []) rfl H.1 H.2 (fun r s147 H => ?_)
      obtain ⟨x148, rfl, H⟩ := H
      show gs_E L (d + 1) 4352 1001 [gp_r (some q1), gp_r (some q146), gp_r v2, gp_i v3] [gp_i x148] s147 K
      refine gs_E.stp (pc' := 1007) (ls' := [gp_r (some q1), gp_r (some q146), gp_r v2, gp_i v3]) (st' := [gp_i (gp_wr (v3 + 1)), gp_r (some q1), gp_r v2]) (s' := s147) 6 rfl ?_
      refine gs_E.ck (pc' := 1008) (ls' := [gp_r (some q1), gp_r (some q146), gp_r v2, gp_i v3]) (st' := [gp_i (gp_I s147 q1 (gp_wr (v3 + 1)).toNat), gp_r v2]) (s' := s147) rfl (Or.inr H.1) ?_
      replace H := H.2
      refine gs_E.stp (pc' := 1012) (ls' := [gp_r (some q1), gp_r (some q146), gp_r v2, gp_i v3]) (st' := [gp_i (gp_wr (v3 + 2)), gp_r (some q1), gp_i (gp_I s147 q1 (gp_wr (v3 + 1)).toNat), gp_r v2]) (s' := s147) 4 rfl ?_
      refine gs_E.ck (pc' := 1013) (ls' := [gp_r (some q1), gp_r (some q146), gp_r v2, gp_i v3]) (st' := [gp_i (gp_I s147 q1 (gp_wr (v3 + 2)).toNat), gp_i (gp_I s147 q1 (gp_wr (v3 + 1)).toNat), gp_r v2]) (s' := s147) rfl (Or.inr H.1) ?_
      replace H := H.2
      refine gs_E.stp (pc' := 1017) (ls' := [gp_r (some q1), gp_r (some q146), gp_r v2, gp_i v3]) (st' := [gp_i (gp_wr (v3 + 3)), gp_r (some q1), gp_i (gp_I s147 q1 (gp_wr (v3 + 2)).toNat), gp_i (gp_I s147 q1 (gp_wr (v3 + 1)).toNat), gp_r v2]) (s' := s147) 4 rfl ?_
      refine gs_E.ck (pc' := 1018) (ls' := [gp_r (some q1), gp_r (some q146), gp_r v2, gp_i v3]) (st' := [gp_i (gp_I s147 q1 (gp_wr (v3 + 3)).toNat), gp_i (gp_I s147 q1 (gp_wr (v3 + 2)).toNat), gp_i (gp_I s147 q1 (gp_wr (v3 + 1)).toNat), gp_r v2]) (s' := s147) rfl (Or.inr H.1) ?_
      replace H := H.2
      obtain ⟨q149, hq, H⟩ := H
      rw [hq]
      refine gs_E.callV (args := [gp_r (some q149), gp_i (gp_I s147 q1 (gp_wr (v3 + 1)).toNat), gp_i (gp_I s147 q1 (gp_wr (v3 + 2)).toNat), gp_i (gp_I s147 q1 (gp_wr (v3 + 3)).toNat)]) (m := 6) (y' := 3180) (st' := []) rfl H.1 H.2 (fun r s150 H => ?_)
      obtain ⟨x151, rfl, H⟩ := H
      show gs_E L (d + 1) 4352 1021 [gp_r (some q1), gp_r (some q146), gp_r (some q149), gp_i v3] [gp_i x151] s150 K
      refine gs_E.stp (pc' := 1249) (ls' := [gp_r (some q1), gp_r (some q146), gp_r (some q149), gp_i v3]) (st' := []) (s' := s150) 2 rfl ?_
      exact H
    · replace H := H.2.2.2.2.2.2.2.2.2.2.2.2.2.2.2.2.2.2.2.2.2.2.2.2.2.1 hsw
      refine gs_E.swi (v := 25) (pc' := 1025) (ls' := [gp_r (some q1), gp_r v1, gp_r v2, gp_i v3]) (st' := []) hsw rfl ?_
      refine gs_E.stp (pc' := 1030) (ls' := [gp_r (some q1), gp_r v1, gp_r v2, gp_i v3]) (st' := [gp_i (gp_wr (v3 + 1)), gp_r (some q1), gp_r v1]) (s' := s) 5 rfl ?_
      refine gs_E.ck (pc' := 1031) (ls' := [gp_r (some q1), gp_r v1, gp_r v2, gp_i v3]) (st' := [gp_i (gp_I s q1 (gp_wr (v3 + 1)).toNat), gp_r v1]) (s' := s) rfl (Or.inr H.1) ?_
      replace H := H.2
      refine gs_E.stp (pc' := 1035) (ls' := [gp_r (some q1), gp_r v1, gp_r v2, gp_i v3]) (st' := [gp_i (gp_wr (v3 + 2)), gp_r (some q1), gp_i (gp_I s q1 (gp_wr (v3 + 1)).toNat), gp_r v1]) (s' := s) 4 rfl ?_
      refine gs_E.ck (pc' := 1036) (ls' := [gp_r (some q1), gp_r v1, gp_r v2, gp_i v3]) (st' := [gp_i (gp_I s q1 (gp_wr (v3 + 2)).toNat), gp_i (gp_I s q1 (gp_wr (v3 + 1)).toNat), gp_r v1]) (s' := s) rfl (Or.inr H.1) ?_
      replace H := H.2
      obtain ⟨q152, hq, H⟩ := H
      rw [hq]
      refine gs_E.callV (args := [gp_r (some q152), gp_i (gp_I s q1 (gp_wr (v3 + 1)).toNat), gp_i (gp_I s q1 (gp_wr (v3 + 2)).toNat)]) (m := 3) (y' := 2844) (st' := []) rfl H.1 H.2 (fun r s153 H => ?_)
      obtain ⟨x154, rfl, H⟩ := H
      show gs_E L (d + 1) 4352 1039 [gp_r (some q1), gp_r (some q152), gp_r v2, gp_i v3] [gp_i x154] s153 K
      refine gs_E.stp (pc' := 1045) (ls' := [gp_r (some q1), gp_r (some q152), gp_r v2, gp_i v3]) (st' := [gp_i (gp_wr (v3 + 1)), gp_r (some q1), gp_r v2]) (s' := s153) 6 rfl ?_
      refine gs_E.ck (pc' := 1046) (ls' := [gp_r (some q1), gp_r (some q152), gp_r v2, gp_i v3]) (st' := [gp_i (gp_I s153 q1 (gp_wr (v3 + 1)).toNat), gp_r v2]) (s' := s153) rfl (Or.inr H.1) ?_
      replace H := H.2
      refine gs_E.stp (pc' := 1050) (ls' := [gp_r (some q1), gp_r (some q152), gp_r v2, gp_i v3]) (st' := [gp_i (gp_wr (v3 + 2)), gp_r (some q1), gp_i (gp_I s153 q1 (gp_wr (v3 + 1)).toNat), gp_r v2]) (s' := s153) 4 rfl ?_
      refine gs_E.ck (pc' := 1051) (ls' := [gp_r (some q1), gp_r (some q152), gp_r v2, gp_i v3]) (st' := [gp_i (gp_I s153 q1 (gp_wr (v3 + 2)).toNat), gp_i (gp_I s153 q1 (gp_wr (v3 + 1)).toNat), gp_r v2]) (s' := s153) rfl (Or.inr H.1) ?_
      replace H := H.2
      obtain ⟨q155, hq, H⟩ := H
      rw [hq]
      refine gs_E.callV (args := [gp_r (some q155), gp_i (gp_I s153 q1 (gp_wr (v3 + 1)).toNat), gp_i (gp_I s153 q1 (gp_wr (v3 + 2)).toNat)]) (m := 4) (y' := 3181) (st' := []) rfl H.1 H.2 (fun r s156 H => ?_)
      obtain ⟨x157, rfl, H⟩ := H
      show gs_E L (d + 1) 4352 1054 [gp_r (some q1), gp_r (some q152), gp_r (some q155), gp_i v3] [gp_i x157] s156 K
      refine gs_E.stp (pc' := 1249) (ls' := [gp_r (some q1), gp_r (some q152), gp_r (some q155), gp_i v3]) (st' := []) (s' := s156) 2 rfl ?_
      exact H
    · replace H := H.2.2.2.2.2.2.2.2.2.2.2.2.2.2.2.2.2.2.2.2.2.2.2.2.2.2.1 hsw
      refine gs_E.swi (v := 26) (pc' := 1058) (ls' := [gp_r (some q1), gp_r v1, gp_r v2, gp_i v3]) (st' := []) hsw rfl ?_
      refine gs_E.stp (pc' := 1063) (ls' := [gp_r (some q1), gp_r v1, gp_r v2, gp_i v3]) (st' := [gp_i (gp_wr (v3 + 1)), gp_r (some q1), gp_r v1]) (s' := s) 5 rfl ?_
      refine gs_E.ck (pc' := 1064) (ls' := [gp_r (some q1), gp_r v1, gp_r v2, gp_i v3]) (st' := [gp_i (gp_I s q1 (gp_wr (v3 + 1)).toNat), gp_r v1]) (s' := s) rfl (Or.inr H.1) ?_
      replace H := H.2
      refine gs_E.stp (pc' := 1068) (ls' := [gp_r (some q1), gp_r v1, gp_r v2, gp_i v3]) (st' := [gp_i (gp_wr (v3 + 2)), gp_r (some q1), gp_i (gp_I s q1 (gp_wr (v3 + 1)).toNat), gp_r v1]) (s' := s) 4 rfl ?_
      refine gs_E.ck (pc' := 1069) (ls' := [gp_r (some q1), gp_r v1, gp_r v2, gp_i v3]) (st' := [gp_i (gp_I s q1 (gp_wr (v3 + 2)).toNat), gp_i (gp_I s q1 (gp_wr (v3 + 1)).toNat), gp_r v1]) (s' := s) rfl (Or.inr H.1) ?_
      replace H := H.2
      refine gs_E.stp (pc' := 1073) (ls' := [gp_r (some q1), gp_r v1, gp_r v2, gp_i v3]) (st' := [gp_i (gp_wr (v3 + 3)), gp_r (some q1), gp_i (gp_I s q1 (gp_wr (v3 + 2)).toNat), gp_i (gp_I s q1 (gp_wr (v3 + 1)).toNat), gp_r v1]) (s' := s) 4 rfl ?_
      refine gs_E.ck (pc' := 1074) (ls' := [gp_r (some q1), gp_r v1, gp_r v2, gp_i v3]) (st' := [gp_i (gp_I s q1 (gp_wr (v3 + 3)).toNat), gp_i (gp_I s q1 (gp_wr (v3 + 2)).toNat), gp_i (gp_I s q1 (gp_wr (v3 + 1)).toNat), gp_r v1]) (s' := s) rfl (Or.inr H.1) ?_
      replace H := H.2
      refine gs_E.stp (pc' := 1078) (ls' := [gp_r (some q1), gp_r v1, gp_r v2, gp_i v3]) (st' := [gp_i (gp_wr (v3 + 4)), gp_r (some q1), gp_i (gp_I s q1 (gp_wr (v3 + 3)).toNat), gp_i (gp_I s q1 (gp_wr (v3 + 2)).toNat), gp_i (gp_I s q1 (gp_wr (v3 + 1)).toNat), gp_r v1]) (s' := s) 4 rfl ?_
      refine gs_E.ck (pc' := 1079) (ls' := [gp_r (some q1), gp_r v1, gp_r v2, gp_i v3]) (st' := [gp_i (gp_I s q1 (gp_wr (v3 + 4)).toNat), gp_i (gp_I s q1 (gp_wr (v3 + 3)).toNat), gp_i (gp_I s q1 (gp_wr (v3 + 2)).toNat), gp_i (gp_I s q1 (gp_wr (v3 + 1)).toNat), gp_r v1]) (s' := s) rfl (Or.inr H.1) ?_
      replace H := H.2
      refine gs_E.stp (pc' := 1083) (ls' := [gp_r (some q1), gp_r v1, gp_r v2, gp_i v3]) (st' := [gp_i (gp_wr (v3 + 5)), gp_r (some q1), gp_i (gp_I s q1 (gp_wr (v3 + 4)).toNat), gp_i (gp_I s q1 (gp_wr (v3 + 3)).toNat), gp_i (gp_I s q1 (gp_wr (v3 + 2)).toNat), gp_i (gp_I s q1 (gp_wr (v3 + 1)).toNat), gp_r v1]) (s' := s) 4 rfl ?_
      refine gs_E.ck (pc' := 1084) (ls' := [gp_r (some q1), gp_r v1, gp_r v2, gp_i v3]) (st' := [gp_i (gp_I s q1 (gp_wr (v3 + 5)).toNat), gp_i (gp_I s q1 (gp_wr (v3 + 4)).toNat), gp_i (gp_I s q1 (gp_wr (v3 + 3)).toNat), gp_i (gp_I s q1 (gp_wr (v3 + 2)).toNat), gp_i (gp_I s q1 (gp_wr (v3 + 1)).toNat), gp_r v1]) (s' := s) rfl (Or.inr H.1) ?_
      replace H := H.2
      obtain ⟨q158, hq, H⟩ := H
      rw [hq]
      refine gs_E.callV (args := [gp_r (some q158), gp_i (gp_I s q1 (gp_wr (v3 + 1)).toNat), gp_i (gp_I s q1 (gp_wr (v3 + 2)).toNat), gp_i (gp_I s q1 (gp_wr (v3 + 3)).toNat), gp_i (gp_I s q1 (gp_wr (v3 + 4)).toNat), gp_i (gp_I s q1 (gp_wr (v3 + 5)).toNat)]) (m := 6) (y' := 2845) (st' := []) rfl H.1 H.2 (fun r s159 H => ?_)
      obtain ⟨x160, rfl, H⟩ := H
      show gs_E L (d + 1) 4352 1087 [gp_r (some q1), gp_r (some q158), gp_r v2, gp_i v3] [gp_i x160] s159 K
      refine gs_E.stp (pc' := 1093) (ls' := [gp_r (some q1), gp_r (some q158), gp_r v2, gp_i v3]) (st' := [gp_i (gp_wr (v3 + 1)), gp_r (some q1), gp_r v2]) (s' := s159) 6 rfl ?_
      refine gs_E.ck (pc' := 1094) (ls' := [gp_r (some q1), gp_r (some q158), gp_r v2, gp_i v3]) (st' := [gp_i (gp_I s159 q1 (gp_wr (v3 + 1)).toNat), gp_r v2]) (s' := s159) rfl (Or.inr H.1) ?_
      replace H := H.2
      refine gs_E.stp (pc' := 1098) (ls' := [gp_r (some q1), gp_r (some q158), gp_r v2, gp_i v3]) (st' := [gp_i (gp_wr (v3 + 2)), gp_r (some q1), gp_i (gp_I s159 q1 (gp_wr (v3 + 1)).toNat), gp_r v2]) (s' := s159) 4 rfl ?_
      refine gs_E.ck (pc' := 1099) (ls' := [gp_r (some q1), gp_r (some q158), gp_r v2, gp_i v3]) (st' := [gp_i (gp_I s159 q1 (gp_wr (v3 + 2)).toNat), gp_i (gp_I s159 q1 (gp_wr (v3 + 1)).toNat), gp_r v2]) (s' := s159) rfl (Or.inr H.1) ?_
      replace H := H.2
      refine gs_E.stp (pc' := 1103) (ls' := [gp_r (some q1), gp_r (some q158), gp_r v2, gp_i v3]) (st' := [gp_i (gp_wr (v3 + 3)), gp_r (some q1), gp_i (gp_I s159 q1 (gp_wr (v3 + 2)).toNat), gp_i (gp_I s159 q1 (gp_wr (v3 + 1)).toNat), gp_r v2]) (s' := s159) 4 rfl ?_
      refine gs_E.ck (pc' := 1104) (ls' := [gp_r (some q1), gp_r (some q158), gp_r v2, gp_i v3]) (st' := [gp_i (gp_I s159 q1 (gp_wr (v3 + 3)).toNat), gp_i (gp_I s159 q1 (gp_wr (v3 + 2)).toNat), gp_i (gp_I s159 q1 (gp_wr (v3 + 1)).toNat), gp_r v2]) (s' := s159) rfl (Or.inr H.1) ?_
      replace H := H.2
      refine gs_E.stp (pc' := 1108) (ls' := [gp_r (some q1), gp_r (some q158), gp_r v2, gp_i v3]) (st' := [gp_i (gp_wr (v3 + 4)), gp_r (some q1), gp_i (gp_I s159 q1 (gp_wr (v3 + 3)).toNat), gp_i (gp_I s159 q1 (gp_wr (v3 + 2)).toNat), gp_i (gp_I s159 q1 (gp_wr (v3 + 1)).toNat), gp_r v2]) (s' := s159) 4 rfl ?_
      refine gs_E.ck (pc' := 1109) (ls' := [gp_r (some q1), gp_r (some q158), gp_r v2, gp_i v3]) (st' := [gp_i (gp_I s159 q1 (gp_wr (v3 + 4)).toNat), gp_i (gp_I s159 q1 (gp_wr (v3 + 3)).toNat), gp_i (gp_I s159 q1 (gp_wr (v3 + 2)).toNat), gp_i (gp_I s159 q1 (gp_wr (v3 + 1)).toNat), gp_r v2]) (s' := s159) rfl (Or.inr H.1) ?_
      replace H := H.2
      refine gs_E.stp (pc' := 1113) (ls' := [gp_r (some q1), gp_r (some q158), gp_r v2, gp_i v3]) (st' := [gp_i (gp_wr (v3 + 5)), gp_r (some q1), gp_i (gp_I s159 q1 (gp_wr (v3 + 4)).toNat), gp_i (gp_I s159 q1 (gp_wr (v3 + 3)).toNat), gp_i (gp_I s159 q1 (gp_wr (v3 + 2)).toNat), gp_i (gp_I s159 q1 (gp_wr (v3 + 1)).toNat), gp_r v2]) (s' := s159) 4 rfl ?_
      refine gs_E.ck (pc' := 1114) (ls' := [gp_r (some q1), gp_r (some q158), gp_r v2, gp_i v3]) (st' := [gp_i (gp_I s159 q1 (gp_wr (v3 + 5)).toNat), gp_i (gp_I s159 q1 (gp_wr (v3 + 4)).toNat), gp_i (gp_I s159 q1 (gp_wr (v3 + 3)).toNat), gp_i (gp_I s159 q1 (gp_wr (v3 + 2)).toNat), gp_i (gp_I s159 q1 (gp_wr (v3 + 1)).toNat), gp_r v2]) (s' := s159) rfl (Or.inr H.1) ?_
      replace H := H.2
      obtain ⟨q161, hq, H⟩ := H
      rw [hq]
      refine gs_E.callV (args := [gp_r (some q161), gp_i (gp_I s159 q1 (gp_wr (v3 + 1)).toNat), gp_i (gp_I s159 q1 (gp_wr (v3 + 2)).toNat), gp_i (gp_I s159 q1 (gp_wr (v3 + 3)).toNat), gp_i (gp_I s159 q1 (gp_wr (v3 + 4)).toNat), gp_i (gp_I s159 q1 (gp_wr (v3 + 5)).toNat)]) (m := 7) (y' := 3182) (st' := []) rfl H.1 H.2 (fun r s162 H => ?_)
      obtain ⟨x163, rfl, H⟩ := H
      show gs_E L (d + 1) 4352 1117 [gp_r (some q1), gp_r (some q158), gp_r (some q161), gp_i v3] [gp_i x163] s162 K
      refine gs_E.stp (pc' := 1249) (ls' := [gp_r (some q1), gp_r (some q158), gp_r (some q161), gp_i v3]) (st' := []) (s' := s162) 2 rfl ?_
      exact H
    · replace H := H.2.2.2.2.2.2.2.2.2.2.2.2.2.2.2.2.2.2.2.2.2.2.2.2.2.2.2.1 hsw
      refine gs_E.swi (v := 27) (pc' := 1121) (ls' := [gp_r (some q1), gp_r v1, gp_r v2, gp_i v3]) (st' := []) hsw rfl ?_
      refine gs_E.stp (pc' := 1126) (ls' := [gp_r (some q1), gp_r v1, gp_r v2, gp_i v3]) (st' := [gp_i (gp_wr (v3 + 1)), gp_r (some q1), gp_r v1]) (s' := s) 5 rfl ?_
      refine gs_E.ck (pc' := 1127) (ls' := [gp_r (some q1), gp_r v1, gp_r v2, gp_i v3]) (st' := [gp_i (gp_I s q1 (gp_wr (v3 + 1)).toNat), gp_r v1]) (s' := s) rfl (Or.inr H.1) ?_
      replace H := H.2
      refine gs_E.stp (pc' := 1131) (ls' := [gp_r (some q1), gp_r v1, gp_r v2, gp_i v3]) (st' := [gp_i (gp_wr (v3 + 2)), gp_r (some q1), gp_i (gp_I s q1 (gp_wr (v3 + 1)).toNat), gp_r v1]) (s' := s) 4 rfl ?_
      refine gs_E.ck (pc' := 1132) (ls' := [gp_r (some q1), gp_r v1, gp_r v2, gp_i v3]) (st' := [gp_i (gp_I s q1 (gp_wr (v3 + 2)).toNat), gp_i (gp_I s q1 (gp_wr (v3 + 1)).toNat), gp_r v1]) (s' := s) rfl (Or.inr H.1) ?_
      replace H := H.2
      obtain ⟨q164, hq, H⟩ := H
      rw [hq]
      refine gs_E.callV (args := [gp_r (some q164), gp_i (gp_I s q1 (gp_wr (v3 + 1)).toNat), gp_i (gp_I s q1 (gp_wr (v3 + 2)).toNat)]) (m := 4) (y' := 2846) (st' := []) rfl H.1 H.2 (fun r s165 H => ?_)
      obtain ⟨x166, rfl, H⟩ := H
      show gs_E L (d + 1) 4352 1135 [gp_r (some q1), gp_r (some q164), gp_r v2, gp_i v3] [gp_i x166] s165 K
      refine gs_E.stp (pc' := 1141) (ls' := [gp_r (some q1), gp_r (some q164), gp_r v2, gp_i v3]) (st' := [gp_i (gp_wr (v3 + 1)), gp_r (some q1), gp_r v2]) (s' := s165) 6 rfl ?_
      refine gs_E.ck (pc' := 1142) (ls' := [gp_r (some q1), gp_r (some q164), gp_r v2, gp_i v3]) (st' := [gp_i (gp_I s165 q1 (gp_wr (v3 + 1)).toNat), gp_r v2]) (s' := s165) rfl (Or.inr H.1) ?_
      replace H := H.2
      refine gs_E.stp (pc' := 1146) (ls' := [gp_r (some q1), gp_r (some q164), gp_r v2, gp_i v3]) (st' := [gp_i (gp_wr (v3 + 2)), gp_r (some q1), gp_i (gp_I s165 q1 (gp_wr (v3 + 1)).toNat), gp_r v2]) (s' := s165) 4 rfl ?_
      refine gs_E.ck (pc' := 1147) (ls' := [gp_r (some q1), gp_r (some q164), gp_r v2, gp_i v3]) (st' := [gp_i (gp_I s165 q1 (gp_wr (v3 + 2)).toNat), gp_i (gp_I s165 q1 (gp_wr (v3 + 1)).toNat), gp_r v2]) (s' := s165) rfl (Or.inr H.1) ?_
      replace H := H.2
      obtain ⟨q167, hq, H⟩ := H
      rw [hq]
      refine gs_E.callV (args := [gp_r (some q167), gp_i (gp_I s165 q1 (gp_wr (v3 + 1)).toNat), gp_i (gp_I s165 q1 (gp_wr (v3 + 2)).toNat)]) (m := 4) (y' := 3183) (st' := []) rfl H.1 H.2 (fun r s168 H => ?_)
      obtain ⟨x169, rfl, H⟩ := H
      show gs_E L (d + 1) 4352 1150 [gp_r (some q1), gp_r (some q164), gp_r (some q167), gp_i v3] [gp_i x169] s168 K
      refine gs_E.stp (pc' := 1249) (ls' := [gp_r (some q1), gp_r (some q164), gp_r (some q167), gp_i v3]) (st' := []) (s' := s168) 2 rfl ?_
      exact H
    · replace H := H.2.2.2.2.2.2.2.2.2.2.2.2.2.2.2.2.2.2.2.2.2.2.2.2.2.2.2.2.1 hsw
      refine gs_E.swi (v := 28) (pc' := 1154) (ls' := [gp_r (some q1), gp_r v1, gp_r v2, gp_i v3]) (st' := []) hsw rfl ?_
      refine gs_E.stp (pc' := 1159) (ls' := [gp_r (some q1), gp_r v1, gp_r v2, gp_i v3]) (st' := [gp_i (gp_wr (v3 + 1)), gp_r (some q1), gp_r v1]) (s' := s) 5 rfl ?_
      refine gs_E.ck (pc' := 1160) (ls' := [gp_r (some q1), gp_r v1, gp_r v2, gp_i v3]) (st' := [gp_i (gp_I s q1 (gp_wr (v3 + 1)).toNat), gp_r v1]) (s' := s) rfl (Or.inr H.1) ?_
      replace H := H.2
      obtain ⟨q170, hq, H⟩ := H
      rw [hq]
      refine gs_E.callV (args := [gp_r (some q170), gp_i (gp_I s q1 (gp_wr (v3 + 1)).toNat)]) (m := 3) (y' := 2847) (st' := []) rfl H.1 H.2 (fun r s171 H => ?_)
      obtain ⟨x172, rfl, H⟩ := H
      show gs_E L (d + 1) 4352 1163 [gp_r (some q1), gp_r (some q170), gp_r v2, gp_i v3] [gp_i x172] s171 K
      refine gs_E.stp (pc' := 1169) (ls' := [gp_r (some q1), gp_r (some q170), gp_r v2, gp_i v3]) (st' := [gp_i (gp_wr (v3 + 1)), gp_r (some q1), gp_r v2]) (s' := s171) 6 rfl ?_
      refine gs_E.ck (pc' := 1170) (ls' := [gp_r (some q1), gp_r (some q170), gp_r v2, gp_i v3]) (st' := [gp_i (gp_I s171 q1 (gp_wr (v3 + 1)).toNat), gp_r v2]) (s' := s171) rfl (Or.inr H.1) ?_
      replace H := H.2
      obtain ⟨q173, hq, H⟩ := H
      rw [hq]
      refine gs_E.callV (args := [gp_r (some q173), gp_i (gp_I s171 q1 (gp_wr (v3 + 1)).toNat)]) (m := 3) (y' := 3184) (st' := []) rfl H.1 H.2 (fun r s174 H => ?_)
      obtain ⟨x175, rfl, H⟩ := H
      show gs_E L (d + 1) 4352 1173 [gp_r (some q1), gp_r (some q170), gp_r (some q173), gp_i v3] [gp_i x175] s174 K
      refine gs_E.stp (pc' := 1249) (ls' := [gp_r (some q1), gp_r (some q170), gp_r (some q173), gp_i v3]) (st' := []) (s' := s174) 2 rfl ?_
      exact H
    · replace H := H.2.2.2.2.2.2.2.2.2.2.2.2.2.2.2.2.2.2.2.2.2.2.2.2.2.2.2.2.2.1 hsw
      refine gs_E.swi (v := 29) (pc' := 1177) (ls' := [gp_r (some q1), gp_r v1, gp_r v2, gp_i v3]) (st' := []) hsw rfl ?_
      refine gs_E.stp (pc' := 1178) (ls' := [gp_r (some q1), gp_r v1, gp_r v2, gp_i v3]) (st' := [gp_r v1]) (s' := s) 1 rfl ?_
      obtain ⟨q176, hq, H⟩ := H
      rw [hq]
      refine gs_E.callV (args := [gp_r (some q176)]) (m := 2) (y' := 2848) (st' := []) rfl H.1 H.2 (fun r s177 H => ?_)
      obtain ⟨x178, rfl, H⟩ := H
      show gs_E L (d + 1) 4352 1181 [gp_r (some q1), gp_r (some q176), gp_r v2, gp_i v3] [gp_i x178] s177 K
      refine gs_E.stp (pc' := 1183) (ls' := [gp_r (some q1), gp_r (some q176), gp_r v2, gp_i v3]) (st' := [gp_r v2]) (s' := s177) 2 rfl ?_
      obtain ⟨q179, hq, H⟩ := H
      rw [hq]
      refine gs_E.callV (args := [gp_r (some q179)]) (m := 2) (y' := 3186) (st' := []) rfl H.1 H.2 (fun r s180 H => ?_)
      obtain ⟨x181, rfl, H⟩ := H
      show gs_E L (d + 1) 4352 1186 [gp_r (some q1), gp_r (some q176), gp_r (some q179), gp_i v3] [gp_i x181] s180 K
      refine gs_E.stp (pc' := 1249) (ls' := [gp_r (some q1), gp_r (some q176), gp_r (some q179), gp_i v3]) (st' := []) (s' := s180) 2 rfl ?_
      exact H
    · replace H := H.2.2.2.2.2.2.2.2.2.2.2.2.2.2.2.2.2.2.2.2.2.2.2.2.2.2.2.2.2.2.1 hsw
      refine gs_E.swi (v := 30) (pc' := 1190) (ls' := [gp_r (some q1), gp_r v1, gp_r v2, gp_i v3]) (st' := []) hsw rfl ?_
      refine gs_E.stp (pc' := 1191) (ls' := [gp_r (some q1), gp_r v1, gp_r v2, gp_i v3]) (st' := [gp_r v1]) (s' := s) 1 rfl ?_
      obtain ⟨q182, hq, H⟩ := H
      rw [hq]
      refine gs_E.callV (args := [gp_r (some q182)]) (m := 2) (y' := 2849) (st' := []) rfl H.1 H.2 (fun r s183 H => ?_)
      obtain ⟨x184, rfl, H⟩ := H
      show gs_E L (d + 1) 4352 1194 [gp_r (some q1), gp_r (some q182), gp_r v2, gp_i v3] [gp_i x184] s183 K
      refine gs_E.stp (pc' := 1196) (ls' := [gp_r (some q1), gp_r (some q182), gp_r v2, gp_i v3]) (st' := [gp_r v2]) (s' := s183) 2 rfl ?_
      obtain ⟨q185, hq, H⟩ := H
      rw [hq]
      refine gs_E.callV (args := [gp_r (some q185)]) (m := 2) (y' := 3187) (st' := []) rfl H.1 H.2 (fun r s186 H => ?_)
      obtain ⟨x187, rfl, H⟩ := H
      show gs_E L (d + 1) 4352 1199 [gp_r (some q1), gp_r (some q182), gp_r (some q185), gp_i v3] [gp_i x187] s186 K
      refine gs_E.stp (pc' := 1249) (ls' := [gp_r (some q1), gp_r (some q182), gp_r (some q185), gp_i v3]) (st' := []) (s' := s186) 2 rfl ?_
      exact H
    · replace H := H.2.2.2.2.2.2.2.2.2.2.2.2.2.2.2.2.2.2.2.2.2.2.2.2.2.2.2.2.2.2.2.1 hsw
      refine gs_E.swi (v := 31) (pc' := 1203) (ls' := [gp_r (some q1), gp_r v1, gp_r v2, gp_i v3]) (st' := []) hsw rfl ?_
      refine gs_E.stp (pc' := 1208) (ls' := [gp_r (some q1), gp_r v1, gp_r v2, gp_i v3]) (st' := [gp_i (gp_wr (v3 + 1)), gp_r (some q1), gp_r v1]) (s' := s) 5 rfl ?_
      refine gs_E.ck (pc' := 1209) (ls' := [gp_r (some q1), gp_r v1, gp_r v2, gp_i v3]) (st' := [gp_i (gp_I s q1 (gp_wr (v3 + 1)).toNat), gp_r v1]) (s' := s) rfl (Or.inr H.1) ?_
      replace H := H.2
      obtain ⟨q188, hq, H⟩ := H
      rw [hq]
      refine gs_E.callV (args := [gp_r (some q188), gp_i (gp_I s q1 (gp_wr (v3 + 1)).toNat)]) (m := 2) (y' := 2850) (st' := []) rfl H.1 H.2 (fun r s189 H => ?_)
      obtain ⟨x190, rfl, H⟩ := H
      show gs_E L (d + 1) 4352 1212 [gp_r (some q1), gp_r (some q188), gp_r v2, gp_i v3] [gp_i x190] s189 K
      refine gs_E.stp (pc' := 1218) (ls' := [gp_r (some q1), gp_r (some q188), gp_r v2, gp_i v3]) (st' := [gp_i (gp_wr (v3 + 1)), gp_r (some q1), gp_r v2]) (s' := s189) 6 rfl ?_
      refine gs_E.ck (pc' := 1219) (ls' := [gp_r (some q1), gp_r (some q188), gp_r v2, gp_i v3]) (st' := [gp_i (gp_I s189 q1 (gp_wr (v3 + 1)).toNat), gp_r v2]) (s' := s189) rfl (Or.inr H.1) ?_
      replace H := H.2
      obtain ⟨q191, hq, H⟩ := H
      rw [hq]
      refine gs_E.callV (args := [gp_r (some q191), gp_i (gp_I s189 q1 (gp_wr (v3 + 1)).toNat)]) (m := 4) (y' := 3188) (st' := []) rfl H.1 H.2 (fun r s192 H => ?_)
      obtain ⟨x193, rfl, H⟩ := H
      show gs_E L (d + 1) 4352 1222 [gp_r (some q1), gp_r (some q188), gp_r (some q191), gp_i v3] [gp_i x193] s192 K
      refine gs_E.stp (pc' := 1249) (ls' := [gp_r (some q1), gp_r (some q188), gp_r (some q191), gp_i v3]) (st' := []) (s' := s192) 2 rfl ?_
      exact H
    · replace H := H.2.2.2.2.2.2.2.2.2.2.2.2.2.2.2.2.2.2.2.2.2.2.2.2.2.2.2.2.2.2.2.2.1 hsw
      refine gs_E.swi (v := 32) (pc' := 1226) (ls' := [gp_r (some q1), gp_r v1, gp_r v2, gp_i v3]) (st' := []) hsw rfl ?_
      refine gs_E.stp (pc' := 1231) (ls' := [gp_r (some q1), gp_r v1, gp_r v2, gp_i v3]) (st' := [gp_i (gp_wr (v3 + 1)), gp_r (some q1), gp_r v1]) (s' := s) 5 rfl ?_
      refine gs_E.ck (pc' := 1232) (ls' := [gp_r (some q1), gp_r v1, gp_r v2, gp_i v3]) (st' := [gp_i (gp_I s q1 (gp_wr (v3 + 1)).toNat), gp_r v1]) (s' := s) rfl (Or.inr H.1) ?_
      replace H := H.2
      obtain ⟨q194, hq, H⟩ := H
      rw [hq]
      refine gs_E.callV (args := [gp_r (some q194), gp_i (gp_I s q1 (gp_wr (v3 + 1)).toNat)]) (m := 2) (y' := 2851) (st' := []) rfl H.1 H.2 (fun r s195 H => ?_)
      obtain ⟨x196, rfl, H⟩ := H
      show gs_E L (d + 1) 4352 1235 [gp_r (some q1), gp_r (some q194), gp_r v2, gp_i v3] [gp_i x196] s195 K
      refine gs_E.stp (pc' := 1241) (ls' := [gp_r (some q1), gp_r (some q194), gp_r v2, gp_i v3]) (st' := [gp_i (gp_wr (v3 + 1)), gp_r (some q1), gp_r v2]) (s' := s195) 6 rfl ?_
      refine gs_E.ck (pc' := 1242) (ls' := [gp_r (some q1), gp_r (some q194), gp_r v2, gp_i v3]) (st' := [gp_i (gp_I s195 q1 (gp_wr (v3 + 1)).toNat), gp_r v2]) (s' := s195) rfl (Or.inr H.1) ?_
      replace H := H.2
      obtain ⟨q197, hq, H⟩ := H
      rw [hq]
      refine gs_E.callV (args := [gp_r (some q197), gp_i (gp_I s195 q1 (gp_wr (v3 + 1)).toNat)]) (m := 2) (y' := 3189) (st' := []) rfl H.1 H.2 (fun r s198 H => ?_)
      obtain ⟨x199, rfl, H⟩ := H
      show gs_E L (d + 1) 4352 1245 [gp_r (some q1), gp_r (some q194), gp_r (some q197), gp_i v3] [gp_i x199] s198 K
      refine gs_E.stp (pc' := 1249) (ls' := [gp_r (some q1), gp_r (some q194), gp_r (some q197), gp_i v3]) (st' := []) (s' := s198) 2 rfl ?_
      exact H
    · replace H := H.2.2.2.2.2.2.2.2.2.2.2.2.2.2.2.2.2.2.2.2.2.2.2.2.2.2.2.2.2.2.2.2.2 hsw
      refine gs_E.swo (pc' := 1249) (ls' := [gp_r (some q1), gp_r v1, gp_r v2, gp_i v3]) (st' := []) (C := (gp_and (gp_I s q1 v3.toNat) 63) < 0 ∨ 32 < (gp_and (gp_I s q1 v3.toNat) 63)) (B := _) rfl hsw ?_
      exact H
set_option maxRecDepth 100000 in
/-- GatheredPointsLaw.law, pc 1249 -/
theorem s_4352_1249 {L d : Nat} {K : Option gV → gH → Prop} {s : gH} (v0 : Option Nat) (v1 : Option Nat) (v2 : Option Nat) (v3 : Int) (H : gs_E L (d + 1) 4352 18 [gp_r v0, gp_r v1, gp_r v2, gp_i (gp_wr (v3 + 6))] [] s K) : gs_E L (d + 1) 4352 1249 [gp_r v0, gp_r v1, gp_r v2, gp_i v3] [] s K := by
  refine gs_E.stp (pc' := 18) (ls' := [gp_r v0, gp_r v1, gp_r v2, gp_i (gp_wr (v3 + 6))]) (st' := []) (s' := s) 2 rfl ?_
  exact H
def LWK : Option gV → gH → Prop := fun r s => r = some (gp_i 1) ∧ gp_sz s ≤ 600001 ∧ gp_us s ≤ 7302250
/-- what holds ahead of call i -/
def LI (L : Nat) (xs : Nat → Int32) (i : Nat) (s : gH) : Prop := ∃ A B : Nat, XW L A B s ∧ MW s ∧ (∀ k, gp_I s 0 k = (xs k).toInt) ∧ gp_I s 1 2 = gp_I s 74 11 ∧ gp_I s 1 6 = gp_I s 74 9 ∧ (EQV s ∧ TPE s) ∧ (gp_sz s : Int) + 6 * gp_I s 1 2 ≤ 117 + 100 * (i : Int) ∧ (gp_us s : Int) + 310 * gp_I s 1 2 + 2 * (pot A : Nat) + 2 * (pot B : Nat) ≤ 3198887 + 2500 * (i : Int)
set_option maxRecDepth 1000000 in
theorem LI_0 (L : Nat) (xs : Nat → Int32) : LI L xs 0 (cH263 L xs) := by
  have e1 : gp_I (cH263 L xs) 1 2 = 0 := rfl
  have e2 : gp_I (cH263 L xs) 74 11 = 0 := rfl
  have e3 : gp_sz (cH263 L xs) = 117 := rfl
  have e4 : gp_us (cH263 L xs) = 606895 := rfl
  have e5 : pot 1 = 647998 := rfl
  have e6 : gp_I (cH263 L xs) 1 6 = 0 := rfl
  have e7 : gp_I (cH263 L xs) 74 9 = 0 := rfl
  refine ⟨1, 1, cf_xw L xs, cf_mw L xs, fun k => rfl, e1.trans e2.symm, e6.trans e7.symm, ⟨⟨fun i hi => ⟨?_, ?_⟩, fun i k hi hk => ?_⟩, fun k hk => by rw [e1] at hk; omega⟩, by omega, by omega⟩
  · have a1 : gp_I (cH263 L xs) 72 i = 0 := rfl
    have a2 : gp_I (cH263 L xs) 84 i = 0 := rfl
    rw [a1, a2]
  · have a1 : gp_I (cH263 L xs) 73 i = 0 := rfl
    have a2 : gp_I (cH263 L xs) 85 i = 0 := rfl
    rw [a1, a2]
  · have a2 : mV (cH263 L xs) i k = 0 := rfl
    rw [a2]
    have hc : i = 0 ∨ i = 1 ∨ i = 2 ∨ i = 3 := by omega
    rcases hc with h | h | h | h <;> subst h <;> rfl
theorem LI_s {L i : Nat} {xs : Nat → Int32} {s t u : gH} {A B A1 B1 : Nat} (h0 : ∀ k, gp_I s 0 k = (xs k).toInt) (r1 : (gp_sz s : Int) + 6 * gp_I s 1 2 ≤ 117 + 100 * (i : Int)) (r2 : (gp_us s : Int) + 310 * gp_I s 1 2 + 2 * (pot A : Nat) + 2 * (pot B : Nat) ≤ 3198887 + 2500 * (i : Int)) (hX1 : XW L A1 B1 t) (hR : XR s t A B A1 B1) (hM2 : MW u) (hMX : MXX L t u) (hT : gp_I u 1 2 = gp_I u 74 11) (hI : gp_I u 1 6 = gp_I u 74 9) (hE : EQV u) (hB : TPE u) : LI L xs (i + 1) u := by
  have m1 := hMX.2.1.1
  have m2 := hMX.2.1.2
  have m3 := hMX.2.2 1 2 (by decide)
  have q1 := hR.1.1
  have q2 := hR.1.2
  exact ⟨A1, B1, hMX.1 _ _ hX1, hM2, fun k => by rw [hMX.2.2 0 k (by decide), (hR.2 0 k (Or.inl rfl) (by decide)).1]; exact h0 k, hT, hI, ⟨hE, hB⟩, by push_cast; omega, by push_cast; omega⟩
theorem LI_s0 {L i : Nat} {xs : Nat → Int32} {s : gH} (h : LI L xs i s) : LI L xs (i + 1) s := by
  obtain ⟨A, B, hX, hM, h0, hT, hI, hE, r1, r2⟩ := h
  exact ⟨A, B, hX, hM, h0, hT, hI, hE, by push_cast; omega, by push_cast; omega⟩
theorem lw_end {L d i : Nat} {xs : Nat → Int32} {s : gH} (hL : L ≤ 3072) (hc : L < 6 * i + 6) (hi : i ≤ 512) (h : LI L xs i s) : gs_E L (d + 601) 4352 18 [gp_r (some 0), gp_r (some 1), gp_r (some 74), gp_i ((6 * i : Nat) : Int)] [] s LWK := by
  obtain ⟨A, B, hX, hM, h0, hT, hI, hE, r1, r2⟩ := h
  have ht := xr1_2 hX.1
  refine s_4352_18 _ _ _ _ ⟨0, rfl, ⟨⟨by show 100 ≤ 105; omega, by show 105 ≤ 105; omega⟩, by show ((L : Nat) : Int) < 2147483648; omega⟩, fun _ => ⟨rfl, by omega, by omega⟩, fun hh => absurd ?_ hh⟩
  show gp_wr (((L : Nat) : Int) - 6) < _
  rw [gp_wr_id (by omega) (by omega)]
  omega
set_option maxRecDepth 100000 in
set_option maxHeartbeats 8000000 in
theorem lw_loop {L d : Nat} (xs : Nat → Int32) (hL : L ≤ 3072) : ∀ (n i : Nat) (s : gH), L < 6 * i + n → i ≤ 512 → LI L xs i s → gs_E L (d + 601) 4352 18 [gp_r (some 0), gp_r (some 1), gp_r (some 74), gp_i ((6 * i : Nat) : Int)] [] s LWK := by
  intro n
  induction n with
  | zero => intro i s h1 h2 h3; exact lw_end hL (by omega) h2 h3
  | succ n ih =>
    intro i s h1 h2 h3
    by_cases hc : L < 6 * i + 6
    · exact lw_end hL hc h2 h3
    have nxt : ∀ u, LI L xs (i + 1) u → gs_E L (d + 601) 4352 1249 [gp_r (some 0), gp_r (some 1), gp_r (some 74), gp_i ((6 * i : Nat) : Int)] [] u LWK := fun u hu => by
      refine s_4352_1249 _ _ _ _ ?_
      rw [gp_wr_id (by omega) (by omega), show ((6 * i : Nat) : Int) + 6 = ((6 * (i + 1) : Nat) : Int) by omega]
      exact ih (i + 1) u (by omega) (by omega) hu
    obtain ⟨A, B, hX, hM, h0, hT, hI, ⟨hE, hB⟩, r1, rr2⟩ := h3
    have hl : ∀ k : Nat, gp_I s 73 k ≤ 20 := fun k => (xr73 hX.1 k).2
    have sr : ∀ k, -2147483648 ≤ gp_I s 0 k ∧ gp_I s 0 k ≤ 2147483647 := fun k => by
      rw [h0]
      have q1 := Int32.le_toInt (xs k)
      have q2 := Int32.toInt_lt (xs k)
      omega
    obtain ⟨v, hv⟩ : ∃ v : Int, v = ((6 * i : Nat) : Int) := ⟨_, rfl⟩
    rw [← hv] at nxt ⊢
    have g0 : ∀ s1, gp_in (gp_mk L s1) 105 0 v := fun s1 => ⟨rfl, by omega, by show v < (L : Int); omega⟩
    have g1 : ∀ s1, gp_in (gp_mk L s1) 105 0 (gp_wr (v + 1)) := fun s1 => by rw [gp_wr_id (by omega) (by omega)]; exact ⟨rfl, by omega, by show _ < (L : Int); omega⟩
    have g2 : ∀ s1, gp_in (gp_mk L s1) 105 0 (gp_wr (v + 2)) := fun s1 => by rw [gp_wr_id (by omega) (by omega)]; exact ⟨rfl, by omega, by show _ < (L : Int); omega⟩
    have g3 : ∀ s1, gp_in (gp_mk L s1) 105 0 (gp_wr (v + 3)) := fun s1 => by rw [gp_wr_id (by omega) (by omega)]; exact ⟨rfl, by omega, by show _ < (L : Int); omega⟩
    have g4 : ∀ s1, gp_in (gp_mk L s1) 105 0 (gp_wr (v + 4)) := fun s1 => by rw [gp_wr_id (by omega) (by omega)]; exact ⟨rfl, by omega, by show _ < (L : Int); omega⟩
    have g5 : ∀ s1, gp_in (gp_mk L s1) 105 0 (gp_wr (v + 5)) := fun s1 => by rw [gp_wr_id (by omega) (by omega)]; exact ⟨rfl, by omega, by show _ < (L : Int); omega⟩
    refine s_4352_18 _ _ _ _ ⟨0, rfl, ⟨⟨by show 100 ≤ 105; omega, by show 105 ≤ 105; omega⟩, by show ((L : Nat) : Int) < 2147483648; omega⟩, fun hh => absurd (show gp_wr (((L : Nat) : Int) - 6) < v from hh) (by rw [gp_wr_id (by omega) (by omega)]; omega), fun _ => ⟨g0 _, fun hw => ?_, fun hw => ?_, fun hw => ?_, fun hw => ?_, fun hw => ?_, fun hw => ?_, fun hw => ?_, fun hw => ?_, fun hw => ?_, fun hw => ?_, fun hw => ?_, fun hw => ?_, fun hw => ?_, fun hw => ?_, fun hw => ?_, fun hw => ?_, fun hw => ?_, fun hw => ?_, fun hw => ?_, fun hw => ?_, fun hw => ?_, fun hw => ?_, fun hw => ?_, fun hw => ?_, fun hw => ?_, fun hw => ?_, fun hw => ?_, fun hw => ?_, fun hw => ?_, fun hw => ?_, fun hw => ?_, fun hw => ?_, fun hw => ?_, fun hw => ?_⟩⟩
    · refine ⟨g1 _, g2 _, g3 _, 1, rfl, rfl, xu_feed _ _ hX (sr _) (fun r t A1 B1 hX1 hR e0 e1 e2 ei es ea => ?_)⟩
      have hs1 : ∀ k, gp_I t 0 k = gp_I s 0 k := fun k => (hR.2 0 k (Or.inl rfl) (by decide)).1
      have hR2 : ∀ a k, 74 ≤ a → a < 117 → gp_I t a k = gp_I s a k := fun a k a1 a2 => (hR.2 a k (Or.inr a1) a2).1
      have hq1 := hR2 74 11 (by decide) (by decide)
      have hq3 := hR2 74 9 (by decide) (by decide)
      refine ⟨r, rfl, g1 _, g2 _, g3 _, 74, rfl, rfl, ?_⟩
      simp only [hs1]
      refine mu_feed _ _ (MW_XR hM hR) (sr _) (fun r2 u hM2 hMX f0 f1 f2 fi fs fa => ⟨r2, rfl, ?_⟩)
      have hq2 := hMX.2.2 1 2 (by decide)
      have hq4 := hMX.2.2 1 6 (by decide)
      have hE2 := EQV_KP hE hR2 hMX.2.2 es fs
      have hrr : r = r2 := by omega
      have hI2 : gp_I u 1 6 = gp_I u 74 9 := by omega
      have hB2 : TPE u := TPE_feed hB hT (xr1_2 hX.1).1 ea hR2 fa hMX.2.2 (fun h9 => by omega) (fun h9 => by omega)
      exact nxt u (LI_s h0 r1 rr2 hX1 hR hM2 hMX (by omega) hI2 hE2 hB2)
    · refine ⟨g1 _, 1, rfl, rfl, xu_game _ hX (sr _) (fun r t A1 B1 hX1 hR e0 e1 ei es ea el0 => ?_)⟩
      have hs1 : ∀ k, gp_I t 0 k = gp_I s 0 k := fun k => (hR.2 0 k (Or.inl rfl) (by decide)).1
      have hR2 : ∀ a k, 74 ≤ a → a < 117 → gp_I t a k = gp_I s a k := fun a k a1 a2 => (hR.2 a k (Or.inr a1) a2).1
      have hq1 := hR2 74 11 (by decide) (by decide)
      have hq3 := hR2 74 9 (by decide) (by decide)
      refine ⟨r, rfl, g1 _, 74, rfl, rfl, ?_⟩
      simp only [hs1]
      refine mu_game _ (MW_XR hM hR) (sr _) (GM_RQ hB hT (xr1_2 hX.1).1 hR2 el0) (fun r2 u hM2 hMX f0 f1 fi fs fa fl0 => ⟨r2, rfl, ?_⟩)
      have hq2 := hMX.2.2 1 2 (by decide)
      have hq4 := hMX.2.2 1 6 (by decide)
      have hE2 := EQV_KP hE hR2 hMX.2.2 es fs
      have hI2 : gp_I u 1 6 = gp_I u 74 9 := by omega
      have hrr : r = r2 := GM_EQ hB hT (xr1_2 hX.1).1 hR2 el0 fl0
      have hB2 : TPE u := TPE_k hB ea hR2 fa hMX.2.2 (by omega)
      exact ⟨fun _ => nxt u (LI_s h0 r1 rr2 hX1 hR hM2 hMX (by omega) hI2 hE2 hB2), fun hne => absurd hrr hne⟩
    · refine ⟨g1 _, 1, rfl, rfl, xu_strip _ hX (sr _) (fun r t A1 B1 hX1 hR e0 e1 ei es ea => ?_)⟩
      have hs1 : ∀ k, gp_I t 0 k = gp_I s 0 k := fun k => (hR.2 0 k (Or.inl rfl) (by decide)).1
      have hR2 : ∀ a k, 74 ≤ a → a < 117 → gp_I t a k = gp_I s a k := fun a k a1 a2 => (hR.2 a k (Or.inr a1) a2).1
      have hq1 := hR2 74 11 (by decide) (by decide)
      have hq3 := hR2 74 9 (by decide) (by decide)
      refine ⟨r, rfl, g1 _, 74, rfl, rfl, ?_⟩
      simp only [hs1]
      refine mu_strip _ (MW_XR hM hR) (sr _) (fun r2 u hM2 hMX f0 f1 fi fs fa => ⟨r2, rfl, ?_⟩)
      have hq2 := hMX.2.2 1 2 (by decide)
      have hq4 := hMX.2.2 1 6 (by decide)
      have hE2 := EQV_KP hE hR2 hMX.2.2 es fs
      have hI2 : gp_I u 1 6 = gp_I u 74 9 := by omega
      have hB2 : TPE u := TPE_k hB ea hR2 fa hMX.2.2 (by omega)
      exact nxt u (LI_s h0 r1 rr2 hX1 hR hM2 hMX (by omega) hI2 hE2 hB2)
    · refine ⟨g1 _, g2 _, 1, rfl, rfl, xu_ladder _ _ hX (sr _) (sr _) (fun r t A1 B1 hX1 hR e0 ei es ea => ?_)⟩
      have hs1 : ∀ k, gp_I t 0 k = gp_I s 0 k := fun k => (hR.2 0 k (Or.inl rfl) (by decide)).1
      have hR2 : ∀ a k, 74 ≤ a → a < 117 → gp_I t a k = gp_I s a k := fun a k a1 a2 => (hR.2 a k (Or.inr a1) a2).1
      have hq1 := hR2 74 11 (by decide) (by decide)
      have hq3 := hR2 74 9 (by decide) (by decide)
      refine ⟨r, rfl, g1 _, g2 _, 74, rfl, rfl, ?_⟩
      simp only [hs1]
      refine mu_ladder _ _ (MW_XR hM hR) (sr _) (sr _) (fun r2 u hM2 hMX f0 fi fs fa => ⟨r2, rfl, ?_⟩)
      have hq2 := hMX.2.2 1 2 (by decide)
      have hq4 := hMX.2.2 1 6 (by decide)
      have hE2 := EQV_KP hE hR2 hMX.2.2 es fs
      have hI2 : gp_I u 1 6 = gp_I u 74 9 := by omega
      have hB2 : TPE u := TPE_k hB ea hR2 fa hMX.2.2 (by omega)
      exact nxt u (LI_s h0 r1 rr2 hX1 hR hM2 hMX (by omega) hI2 hE2 hB2)
    · refine ⟨g1 _, g2 _, 1, rfl, rfl, xu_waits _ _ hX (sr _) (sr _) (fun r t A1 B1 hX1 hR e0 ei es ew0 ew1 ea => ?_)⟩
      have hs1 : ∀ k, gp_I t 0 k = gp_I s 0 k := fun k => (hR.2 0 k (Or.inl rfl) (by decide)).1
      have hR2 : ∀ a k, 74 ≤ a → a < 117 → gp_I t a k = gp_I s a k := fun a k a1 a2 => (hR.2 a k (Or.inr a1) a2).1
      have hq1 := hR2 74 11 (by decide) (by decide)
      have hq3 := hR2 74 9 (by decide) (by decide)
      refine ⟨r, rfl, g1 _, g2 _, 74, rfl, rfl, ?_⟩
      simp only [hs1]
      refine mu_waits _ _ (MW_XR hM hR) (sr _) (sr _) (fun r2 u hM2 hMX f0 fi fs fw0 fw1 fa => ⟨r2, rfl, ?_⟩)
      have hq2 := hMX.2.2 1 2 (by decide)
      have hq4 := hMX.2.2 1 6 (by decide)
      have hE2 := EQV_KP hE hR2 hMX.2.2 es fs
      have hrr : r = r2 := by omega
      have hI2 : gp_I u 1 6 = gp_I u 74 9 := by omega
      have hB2 : TPE u := TPE_k hB ea hR2 fa hMX.2.2 (by omega)
      exact nxt u (LI_s h0 r1 rr2 hX1 hR hM2 hMX (by omega) hI2 hE2 hB2)
    · refine ⟨g1 _, g2 _, g3 _, 1, rfl, rfl, xu_join _ _ _ hX (sr _) (sr _) (sr _) (fun r t A1 B1 hX1 hR e0 ei es ea => ?_)⟩
      have hs1 : ∀ k, gp_I t 0 k = gp_I s 0 k := fun k => (hR.2 0 k (Or.inl rfl) (by decide)).1
      have hR2 : ∀ a k, 74 ≤ a → a < 117 → gp_I t a k = gp_I s a k := fun a k a1 a2 => (hR.2 a k (Or.inr a1) a2).1
      have hq1 := hR2 74 11 (by decide) (by decide)
      have hq3 := hR2 74 9 (by decide) (by decide)
      refine ⟨r, rfl, g1 _, g2 _, g3 _, 74, rfl, rfl, ?_⟩
      simp only [hs1]
      refine mu_join _ _ _ (MW_XR hM hR) (sr _) (sr _) (sr _) (fun r2 u hM2 hMX f0 fi fs fa => ⟨r2, rfl, ?_⟩)
      have hq2 := hMX.2.2 1 2 (by decide)
      have hq4 := hMX.2.2 1 6 (by decide)
      have hE2 := EQV_KP hE hR2 hMX.2.2 es fs
      have hI2 : gp_I u 1 6 = gp_I u 74 9 := by omega
      have hB2 : TPE u := TPE_k hB ea hR2 fa hMX.2.2 (by omega)
      exact nxt u (LI_s h0 r1 rr2 hX1 hR hM2 hMX (by omega) hI2 hE2 hB2)
    · refine ⟨g1 _, g2 _, 1, rfl, rfl, xu_negate _ _ hX (sr _) (sr _) (fun r t A1 B1 hX1 hR e0 ei es ea => ?_)⟩
      have hs1 : ∀ k, gp_I t 0 k = gp_I s 0 k := fun k => (hR.2 0 k (Or.inl rfl) (by decide)).1
      have hR2 : ∀ a k, 74 ≤ a → a < 117 → gp_I t a k = gp_I s a k := fun a k a1 a2 => (hR.2 a k (Or.inr a1) a2).1
      have hq1 := hR2 74 11 (by decide) (by decide)
      have hq3 := hR2 74 9 (by decide) (by decide)
      refine ⟨r, rfl, g1 _, g2 _, 74, rfl, rfl, ?_⟩
      simp only [hs1]
      refine mu_negate _ _ (MW_XR hM hR) (sr _) (sr _) (fun r2 u hM2 hMX f0 fi fs fa => ⟨r2, rfl, ?_⟩)
      have hq2 := hMX.2.2 1 2 (by decide)
      have hq4 := hMX.2.2 1 6 (by decide)
      have hE2 := EQV_KP hE hR2 hMX.2.2 es fs
      have hI2 : gp_I u 1 6 = gp_I u 74 9 := by omega
      have hB2 : TPE u := TPE_k hB ea hR2 fa hMX.2.2 (by omega)
      exact nxt u (LI_s h0 r1 rr2 hX1 hR hM2 hMX (by omega) hI2 hE2 hB2)
    · refine ⟨g1 _, g2 _, g3 _, g4 _, 1, rfl, rfl, xu_option _ _ _ _ hX (sr _) (sr _) (sr _) (sr _) (fun r t A1 B1 hX1 hR e0 ei es ea => ?_)⟩
      have hs1 : ∀ k, gp_I t 0 k = gp_I s 0 k := fun k => (hR.2 0 k (Or.inl rfl) (by decide)).1
      have hR2 : ∀ a k, 74 ≤ a → a < 117 → gp_I t a k = gp_I s a k := fun a k a1 a2 => (hR.2 a k (Or.inr a1) a2).1
      have hq1 := hR2 74 11 (by decide) (by decide)
      have hq3 := hR2 74 9 (by decide) (by decide)
      refine ⟨r, rfl, g1 _, g2 _, g3 _, g4 _, 74, rfl, rfl, ?_⟩
      simp only [hs1]
      refine mu_option _ _ _ _ (MW_XR hM hR) (sr _) (sr _) (sr _) (sr _) (fun r2 u hM2 hMX f0 fi fs fa => ⟨r2, rfl, ?_⟩)
      have hq2 := hMX.2.2 1 2 (by decide)
      have hq4 := hMX.2.2 1 6 (by decide)
      have hE2 := EQV_KP hE hR2 hMX.2.2 es fs
      have hI2 : gp_I u 1 6 = gp_I u 74 9 := by omega
      have hB2 : TPE u := TPE_k hB ea hR2 fa hMX.2.2 (by omega)
      exact nxt u (LI_s h0 r1 rr2 hX1 hR hM2 hMX (by omega) hI2 hE2 hB2)
    · refine ⟨g1 _, g2 _, 1, rfl, rfl, xu_gameOf _ _ hX (sr _) (sr _) (fun r t A1 B1 hX1 hR e0 ei es ea => ?_)⟩
      have hs1 : ∀ k, gp_I t 0 k = gp_I s 0 k := fun k => (hR.2 0 k (Or.inl rfl) (by decide)).1
      have hR2 : ∀ a k, 74 ≤ a → a < 117 → gp_I t a k = gp_I s a k := fun a k a1 a2 => (hR.2 a k (Or.inr a1) a2).1
      have hq1 := hR2 74 11 (by decide) (by decide)
      have hq3 := hR2 74 9 (by decide) (by decide)
      refine ⟨r, rfl, g1 _, g2 _, 74, rfl, rfl, ?_⟩
      simp only [hs1]
      refine mu_gameOf _ _ (MW_XR hM hR) (sr _) (sr _) (fun r2 u hM2 hMX f0 fi fs fa => ⟨r2, rfl, ?_⟩)
      have hq2 := hMX.2.2 1 2 (by decide)
      have hq4 := hMX.2.2 1 6 (by decide)
      have hE2 := EQV_KP hE hR2 hMX.2.2 es fs
      have hI2 : gp_I u 1 6 = gp_I u 74 9 := by omega
      have hB2 : TPE u := TPE_k hB ea hR2 fa hMX.2.2 (by omega)
      exact nxt u (LI_s h0 r1 rr2 hX1 hR hM2 hMX (by omega) hI2 hE2 hB2)
    · refine ⟨g1 _, g2 _, 1, rfl, rfl, xu_order _ _ hX (sr _) (sr _) (fun r t A1 B1 hX1 hR e0 ei es ea => ?_)⟩
      have hs1 : ∀ k, gp_I t 0 k = gp_I s 0 k := fun k => (hR.2 0 k (Or.inl rfl) (by decide)).1
      have hR2 : ∀ a k, 74 ≤ a → a < 117 → gp_I t a k = gp_I s a k := fun a k a1 a2 => (hR.2 a k (Or.inr a1) a2).1
      have hq1 := hR2 74 11 (by decide) (by decide)
      have hq3 := hR2 74 9 (by decide) (by decide)
      refine ⟨r, rfl, g1 _, g2 _, 74, rfl, rfl, ?_⟩
      simp only [hs1]
      refine mu_order _ _ (MW_XR hM hR) (sr _) (sr _) (fun r2 u hM2 hMX f0 fi fs fa => ⟨r2, rfl, ?_⟩)
      have hq2 := hMX.2.2 1 2 (by decide)
      have hq4 := hMX.2.2 1 6 (by decide)
      have hE2 := EQV_KP hE hR2 hMX.2.2 es fs
      have hI2 : gp_I u 1 6 = gp_I u 74 9 := by omega
      have hB2 : TPE u := TPE_k hB ea hR2 fa hMX.2.2 (by omega)
      exact nxt u (LI_s h0 r1 rr2 hX1 hR hM2 hMX (by omega) hI2 hE2 hB2)
    · refine ⟨g1 _, g2 _, 1, rfl, rfl, xu_compare _ _ hX (sr _) (sr _) (fun r t A1 B1 hX1 hR e0 ei es ea => ?_)⟩
      have hs1 : ∀ k, gp_I t 0 k = gp_I s 0 k := fun k => (hR.2 0 k (Or.inl rfl) (by decide)).1
      have hR2 : ∀ a k, 74 ≤ a → a < 117 → gp_I t a k = gp_I s a k := fun a k a1 a2 => (hR.2 a k (Or.inr a1) a2).1
      have hq1 := hR2 74 11 (by decide) (by decide)
      have hq3 := hR2 74 9 (by decide) (by decide)
      refine ⟨r, rfl, g1 _, g2 _, 74, rfl, rfl, ?_⟩
      simp only [hs1]
      refine mu_compare _ _ (MW_XR hM hR) (sr _) (sr _) (fun r2 u hM2 hMX f0 fi fs fa => ⟨r2, rfl, ?_⟩)
      have hq2 := hMX.2.2 1 2 (by decide)
      have hq4 := hMX.2.2 1 6 (by decide)
      have hE2 := EQV_KP hE hR2 hMX.2.2 es fs
      have hI2 : gp_I u 1 6 = gp_I u 74 9 := by omega
      have hB2 : TPE u := TPE_k hB ea hR2 fa hMX.2.2 (by omega)
      exact nxt u (LI_s h0 r1 rr2 hX1 hR hM2 hMX (by omega) hI2 hE2 hB2)
    · refine ⟨g1 _, g2 _, g3 _, g4 _, 1, rfl, rfl, xu_answer _ _ _ _ hX (sr _) (sr _) (sr _) (sr _) (fun r t A1 B1 hX1 hR e0 ei es ea => ?_)⟩
      have hs1 : ∀ k, gp_I t 0 k = gp_I s 0 k := fun k => (hR.2 0 k (Or.inl rfl) (by decide)).1
      have hR2 : ∀ a k, 74 ≤ a → a < 117 → gp_I t a k = gp_I s a k := fun a k a1 a2 => (hR.2 a k (Or.inr a1) a2).1
      have hq1 := hR2 74 11 (by decide) (by decide)
      have hq3 := hR2 74 9 (by decide) (by decide)
      refine ⟨r, rfl, g1 _, g2 _, g3 _, g4 _, 74, rfl, rfl, ?_⟩
      simp only [hs1]
      refine mu_answer _ _ _ _ (MW_XR hM hR) (sr _) (sr _) (sr _) (sr _) (fun r2 u hM2 hMX f0 fi fs fa => ⟨r2, rfl, ?_⟩)
      have hq2 := hMX.2.2 1 2 (by decide)
      have hq4 := hMX.2.2 1 6 (by decide)
      have hE2 := EQV_KP hE hR2 hMX.2.2 es fs
      have hI2 : gp_I u 1 6 = gp_I u 74 9 := by omega
      have hB2 : TPE u := TPE_k hB ea hR2 fa hMX.2.2 (by omega)
      exact nxt u (LI_s h0 r1 rr2 hX1 hR hM2 hMX (by omega) hI2 hE2 hB2)
    · refine ⟨g1 _, g2 _, 1, rfl, rfl, xu_reduce _ _ hX (sr _) (sr _) (fun r t A1 B1 hX1 hR e0 ei es ea => ?_)⟩
      have hs1 : ∀ k, gp_I t 0 k = gp_I s 0 k := fun k => (hR.2 0 k (Or.inl rfl) (by decide)).1
      have hR2 : ∀ a k, 74 ≤ a → a < 117 → gp_I t a k = gp_I s a k := fun a k a1 a2 => (hR.2 a k (Or.inr a1) a2).1
      have hq1 := hR2 74 11 (by decide) (by decide)
      have hq3 := hR2 74 9 (by decide) (by decide)
      refine ⟨r, rfl, g1 _, g2 _, 74, rfl, rfl, ?_⟩
      simp only [hs1]
      refine mu_reduce _ _ (MW_XR hM hR) (sr _) (sr _) (fun r2 u hM2 hMX f0 fi fs fa => ⟨r2, rfl, ?_⟩)
      have hq2 := hMX.2.2 1 2 (by decide)
      have hq4 := hMX.2.2 1 6 (by decide)
      have hE2 := EQV_KP hE hR2 hMX.2.2 es fs
      have hI2 : gp_I u 1 6 = gp_I u 74 9 := by omega
      have hB2 : TPE u := TPE_k hB ea hR2 fa hMX.2.2 (by omega)
      exact nxt u (LI_s h0 r1 rr2 hX1 hR hM2 hMX (by omega) hI2 hE2 hB2)
    · refine ⟨g1 _, g2 _, 1, rfl, rfl, xu_score _ _ hX (sr _) (sr _) (fun r t A1 B1 hX1 hR e0 ei es ea => ?_)⟩
      have hs1 : ∀ k, gp_I t 0 k = gp_I s 0 k := fun k => (hR.2 0 k (Or.inl rfl) (by decide)).1
      have hR2 : ∀ a k, 74 ≤ a → a < 117 → gp_I t a k = gp_I s a k := fun a k a1 a2 => (hR.2 a k (Or.inr a1) a2).1
      have hq1 := hR2 74 11 (by decide) (by decide)
      have hq3 := hR2 74 9 (by decide) (by decide)
      refine ⟨r, rfl, g1 _, g2 _, 74, rfl, rfl, ?_⟩
      simp only [hs1]
      refine mu_score _ _ (MW_XR hM hR) (sr _) (sr _) (fun r2 u hM2 hMX f0 fi fs fa => ⟨r2, rfl, ?_⟩)
      have hq2 := hMX.2.2 1 2 (by decide)
      have hq4 := hMX.2.2 1 6 (by decide)
      have hE2 := EQV_KP hE hR2 hMX.2.2 es fs
      have hI2 : gp_I u 1 6 = gp_I u 74 9 := by omega
      have hB2 : TPE u := TPE_k hB ea hR2 fa hMX.2.2 (by omega)
      exact nxt u (LI_s h0 r1 rr2 hX1 hR hM2 hMX (by omega) hI2 hE2 hB2)
    · refine ⟨g1 _, g2 _, 1, rfl, rfl, xu_best _ _ hX (sr _) (sr _) (fun r t A1 B1 hX1 hR e0 ei es ea => ?_)⟩
      have hs1 : ∀ k, gp_I t 0 k = gp_I s 0 k := fun k => (hR.2 0 k (Or.inl rfl) (by decide)).1
      have hR2 : ∀ a k, 74 ≤ a → a < 117 → gp_I t a k = gp_I s a k := fun a k a1 a2 => (hR.2 a k (Or.inr a1) a2).1
      have hq1 := hR2 74 11 (by decide) (by decide)
      have hq3 := hR2 74 9 (by decide) (by decide)
      refine ⟨r, rfl, g1 _, g2 _, 74, rfl, rfl, ?_⟩
      simp only [hs1]
      refine mu_best _ _ (MW_XR hM hR) (sr _) (sr _) (fun r2 u hM2 hMX f0 fi fs fa => ⟨r2, rfl, ?_⟩)
      have hq2 := hMX.2.2 1 2 (by decide)
      have hq4 := hMX.2.2 1 6 (by decide)
      have hE2 := EQV_KP hE hR2 hMX.2.2 es fs
      have hI2 : gp_I u 1 6 = gp_I u 74 9 := by omega
      have hB2 : TPE u := TPE_k hB ea hR2 fa hMX.2.2 (by omega)
      exact nxt u (LI_s h0 r1 rr2 hX1 hR hM2 hMX (by omega) hI2 hE2 hB2)
    · refine ⟨g1 _, g2 _, 1, rfl, rfl, xu_begin _ _ hX (sr _) (sr _) (fun r t A1 B1 hX1 hR e0 ei es ea => ?_)⟩
      have hs1 : ∀ k, gp_I t 0 k = gp_I s 0 k := fun k => (hR.2 0 k (Or.inl rfl) (by decide)).1
      have hR2 : ∀ a k, 74 ≤ a → a < 117 → gp_I t a k = gp_I s a k := fun a k a1 a2 => (hR.2 a k (Or.inr a1) a2).1
      have hq1 := hR2 74 11 (by decide) (by decide)
      have hq3 := hR2 74 9 (by decide) (by decide)
      refine ⟨r, rfl, g1 _, g2 _, 74, rfl, rfl, ?_⟩
      simp only [hs1]
      refine mu_begin _ _ (MW_XR hM hR) (sr _) (sr _) (fun r2 u hM2 hMX f0 fi fs fa => ⟨r2, rfl, ?_⟩)
      have hq2 := hMX.2.2 1 2 (by decide)
      have hq4 := hMX.2.2 1 6 (by decide)
      have hE2 := EQV_KP hE hR2 hMX.2.2 es fs
      have hI2 : gp_I u 1 6 = gp_I u 74 9 := by omega
      have hB2 : TPE u := TPE_k hB ea hR2 fa hMX.2.2 (by omega)
      exact nxt u (LI_s h0 r1 rr2 hX1 hR hM2 hMX (by omega) hI2 hE2 hB2)
    · refine ⟨g1 _, g2 _, 1, rfl, rfl, xu_go _ _ hX (sr _) (sr _) (fun r t A1 B1 hX1 hR e0 ei es ea => ?_)⟩
      have hs1 : ∀ k, gp_I t 0 k = gp_I s 0 k := fun k => (hR.2 0 k (Or.inl rfl) (by decide)).1
      have hR2 : ∀ a k, 74 ≤ a → a < 117 → gp_I t a k = gp_I s a k := fun a k a1 a2 => (hR.2 a k (Or.inr a1) a2).1
      have hq1 := hR2 74 11 (by decide) (by decide)
      have hq3 := hR2 74 9 (by decide) (by decide)
      refine ⟨r, rfl, g1 _, g2 _, 74, rfl, rfl, ?_⟩
      simp only [hs1]
      refine mu_go _ _ (MW_XR hM hR) (sr _) (sr _) (fun r2 u hM2 hMX f0 fi fs fa => ⟨r2, rfl, ?_⟩)
      have hq2 := hMX.2.2 1 2 (by decide)
      have hq4 := hMX.2.2 1 6 (by decide)
      have hE2 := EQV_KP hE hR2 hMX.2.2 es fs
      have hI2 : gp_I u 1 6 = gp_I u 74 9 := by omega
      have hB2 : TPE u := TPE_k hB ea hR2 fa hMX.2.2 (by omega)
      exact nxt u (LI_s h0 r1 rr2 hX1 hR hM2 hMX (by omega) hI2 hE2 hB2)
    · refine ⟨g1 _, 1, rfl, rfl, xu_play _ hX (sr _) (fun r t A1 B1 hX1 hR e0 ei es ea => ?_)⟩
      have hs1 : ∀ k, gp_I t 0 k = gp_I s 0 k := fun k => (hR.2 0 k (Or.inl rfl) (by decide)).1
      have hR2 : ∀ a k, 74 ≤ a → a < 117 → gp_I t a k = gp_I s a k := fun a k a1 a2 => (hR.2 a k (Or.inr a1) a2).1
      have hq1 := hR2 74 11 (by decide) (by decide)
      have hq3 := hR2 74 9 (by decide) (by decide)
      refine ⟨r, rfl, g1 _, 74, rfl, rfl, ?_⟩
      simp only [hs1]
      refine mu_play _ (MW_XR hM hR) (sr _) (fun r2 u hM2 hMX f0 fi fs fa => ⟨r2, rfl, ?_⟩)
      have hq2 := hMX.2.2 1 2 (by decide)
      have hq4 := hMX.2.2 1 6 (by decide)
      have hE2 := EQV_KP hE hR2 hMX.2.2 es fs
      have hI2 : gp_I u 1 6 = gp_I u 74 9 := by omega
      have hB2 : TPE u := TPE_k hB ea hR2 fa hMX.2.2 (by omega)
      exact nxt u (LI_s h0 r1 rr2 hX1 hR hM2 hMX (by omega) hI2 hE2 hB2)
    · refine ⟨g1 _, 1, rfl, rfl, xu_loose _ hX (sr _) (fun r t A1 B1 hX1 hR e0 ei es ea => ?_)⟩
      have hs1 : ∀ k, gp_I t 0 k = gp_I s 0 k := fun k => (hR.2 0 k (Or.inl rfl) (by decide)).1
      have hR2 : ∀ a k, 74 ≤ a → a < 117 → gp_I t a k = gp_I s a k := fun a k a1 a2 => (hR.2 a k (Or.inr a1) a2).1
      have hq1 := hR2 74 11 (by decide) (by decide)
      have hq3 := hR2 74 9 (by decide) (by decide)
      refine ⟨r, rfl, g1 _, 74, rfl, rfl, ?_⟩
      simp only [hs1]
      refine mu_loose _ (MW_XR hM hR) (sr _) (fun r2 u hM2 hMX f0 fi fs fa => ⟨r2, rfl, ?_⟩)
      have hq2 := hMX.2.2 1 2 (by decide)
      have hq4 := hMX.2.2 1 6 (by decide)
      have hE2 := EQV_KP hE hR2 hMX.2.2 es fs
      have hI2 : gp_I u 1 6 = gp_I u 74 9 := by omega
      have hB2 : TPE u := TPE_k hB ea hR2 fa hMX.2.2 (by omega)
      exact nxt u (LI_s h0 r1 rr2 hX1 hR hM2 hMX (by omega) hI2 hE2 hB2)
    · refine ⟨1, rfl, rfl, xu_back hX (fun r t A1 B1 hX1 hR e0 ei es ea => ?_)⟩
      have hs1 : ∀ k, gp_I t 0 k = gp_I s 0 k := fun k => (hR.2 0 k (Or.inl rfl) (by decide)).1
      have hR2 : ∀ a k, 74 ≤ a → a < 117 → gp_I t a k = gp_I s a k := fun a k a1 a2 => (hR.2 a k (Or.inr a1) a2).1
      have hq1 := hR2 74 11 (by decide) (by decide)
      have hq3 := hR2 74 9 (by decide) (by decide)
      refine ⟨r, rfl, 74, rfl, rfl, ?_⟩
      refine mu_back (MW_XR hM hR) (fun r2 u hM2 hMX f0 fi fs fa => ⟨r2, rfl, ?_⟩)
      have hq2 := hMX.2.2 1 2 (by decide)
      have hq4 := hMX.2.2 1 6 (by decide)
      have hE2 := EQV_KP hE hR2 hMX.2.2 es fs
      have hI2 : gp_I u 1 6 = gp_I u 74 9 := by omega
      have hB2 : TPE u := TPE_k hB ea hR2 fa hMX.2.2 (by omega)
      exact nxt u (LI_s h0 r1 rr2 hX1 hR hM2 hMX (by omega) hI2 hE2 hB2)
    · refine ⟨g1 _, 1, rfl, rfl, xu_matchOf _ hX (sr _) (fun r t A1 B1 hX1 hR e0 ei es ea => ?_)⟩
      have hs1 : ∀ k, gp_I t 0 k = gp_I s 0 k := fun k => (hR.2 0 k (Or.inl rfl) (by decide)).1
      have hR2 : ∀ a k, 74 ≤ a → a < 117 → gp_I t a k = gp_I s a k := fun a k a1 a2 => (hR.2 a k (Or.inr a1) a2).1
      have hq1 := hR2 74 11 (by decide) (by decide)
      have hq3 := hR2 74 9 (by decide) (by decide)
      refine ⟨r, rfl, g1 _, 74, rfl, rfl, ?_⟩
      simp only [hs1]
      refine mu_matchOf _ (MW_XR hM hR) (sr _) (fun r2 u hM2 hMX f0 fi fs fa => ⟨r2, rfl, ?_⟩)
      have hq2 := hMX.2.2 1 2 (by decide)
      have hq4 := hMX.2.2 1 6 (by decide)
      have hE2 := EQV_KP hE hR2 hMX.2.2 es fs
      have hI2 : gp_I u 1 6 = gp_I u 74 9 := by omega
      have hB2 : TPE u := TPE_k hB ea hR2 fa hMX.2.2 (by omega)
      exact nxt u (LI_s h0 r1 rr2 hX1 hR hM2 hMX (by omega) hI2 hE2 hB2)
    · refine ⟨g1 _, 1, rfl, rfl, xu_moved _ hX (sr _) (fun r t A1 B1 hX1 hR e0 ei es ea => ?_)⟩
      have hs1 : ∀ k, gp_I t 0 k = gp_I s 0 k := fun k => (hR.2 0 k (Or.inl rfl) (by decide)).1
      have hR2 : ∀ a k, 74 ≤ a → a < 117 → gp_I t a k = gp_I s a k := fun a k a1 a2 => (hR.2 a k (Or.inr a1) a2).1
      have hq1 := hR2 74 11 (by decide) (by decide)
      have hq3 := hR2 74 9 (by decide) (by decide)
      refine ⟨r, rfl, g1 _, 74, rfl, rfl, ?_⟩
      simp only [hs1]
      refine mu_moved _ (MW_XR hM hR) (sr _) (fun r2 u hM2 hMX f0 fi fs fa => ⟨r2, rfl, ?_⟩)
      have hq2 := hMX.2.2 1 2 (by decide)
      have hq4 := hMX.2.2 1 6 (by decide)
      have hE2 := EQV_KP hE hR2 hMX.2.2 es fs
      have hI2 : gp_I u 1 6 = gp_I u 74 9 := by omega
      have hB2 : TPE u := TPE_k hB ea hR2 fa hMX.2.2 (by omega)
      exact nxt u (LI_s h0 r1 rr2 hX1 hR hM2 hMX (by omega) hI2 hE2 hB2)
    · refine ⟨g1 _, g2 _, 1, rfl, rfl, xu_board _ _ hX (sr _) (sr _) (fun r t A1 B1 hX1 hR e0 ei es ea => ?_)⟩
      have hs1 : ∀ k, gp_I t 0 k = gp_I s 0 k := fun k => (hR.2 0 k (Or.inl rfl) (by decide)).1
      have hR2 : ∀ a k, 74 ≤ a → a < 117 → gp_I t a k = gp_I s a k := fun a k a1 a2 => (hR.2 a k (Or.inr a1) a2).1
      have hq1 := hR2 74 11 (by decide) (by decide)
      have hq3 := hR2 74 9 (by decide) (by decide)
      refine ⟨r, rfl, g1 _, g2 _, 74, rfl, rfl, ?_⟩
      simp only [hs1]
      refine mu_board _ _ (MW_XR hM hR) (sr _) (sr _) (fun r2 u hM2 hMX f0 fi fs fa => ⟨r2, rfl, ?_⟩)
      have hq2 := hMX.2.2 1 2 (by decide)
      have hq4 := hMX.2.2 1 6 (by decide)
      have hE2 := EQV_KP hE hR2 hMX.2.2 es fs
      have hI2 : gp_I u 1 6 = gp_I u 74 9 := by omega
      have hB2 : TPE u := TPE_k hB ea hR2 fa hMX.2.2 (by omega)
      exact nxt u (LI_s h0 r1 rr2 hX1 hR hM2 hMX (by omega) hI2 hE2 hB2)
    · refine ⟨g1 _, g2 _, g3 _, 1, rfl, rfl, xu_sheet _ _ _ hX (sr _) (sr _) (sr _) (fun r t A1 B1 hX1 hR e0 ei es ea => ?_)⟩
      have hs1 : ∀ k, gp_I t 0 k = gp_I s 0 k := fun k => (hR.2 0 k (Or.inl rfl) (by decide)).1
      have hR2 : ∀ a k, 74 ≤ a → a < 117 → gp_I t a k = gp_I s a k := fun a k a1 a2 => (hR.2 a k (Or.inr a1) a2).1
      have hq1 := hR2 74 11 (by decide) (by decide)
      have hq3 := hR2 74 9 (by decide) (by decide)
      refine ⟨r, rfl, g1 _, g2 _, g3 _, 74, rfl, rfl, ?_⟩
      simp only [hs1]
      refine mu_sheet _ _ _ (MW_XR hM hR) (sr _) (sr _) (sr _) (fun r2 u hM2 hMX f0 fi fs fa => ⟨r2, rfl, ?_⟩)
      have hq2 := hMX.2.2 1 2 (by decide)
      have hq4 := hMX.2.2 1 6 (by decide)
      obtain ⟨hrr, hE2⟩ := SHP_eq hE hR2 hMX.2.2 es fs
      have hI2 : gp_I u 1 6 = gp_I u 74 9 := by omega
      have hB2 : TPE u := TPE_k hB ea hR2 fa hMX.2.2 (by omega)
      exact nxt u (LI_s h0 r1 rr2 hX1 hR hM2 hMX (by omega) hI2 hE2 hB2)
    · refine ⟨g1 _, g2 _, g3 _, 1, rfl, rfl, xu_put _ _ _ hX (sr _) (sr _) (sr _) (fun r t A1 B1 hX1 hR e0 ei es ea => ?_)⟩
      have hs1 : ∀ k, gp_I t 0 k = gp_I s 0 k := fun k => (hR.2 0 k (Or.inl rfl) (by decide)).1
      have hR2 : ∀ a k, 74 ≤ a → a < 117 → gp_I t a k = gp_I s a k := fun a k a1 a2 => (hR.2 a k (Or.inr a1) a2).1
      have hq1 := hR2 74 11 (by decide) (by decide)
      have hq3 := hR2 74 9 (by decide) (by decide)
      refine ⟨r, rfl, g1 _, g2 _, g3 _, 74, rfl, rfl, ?_⟩
      simp only [hs1]
      refine mu_put _ _ _ (MW_XR hM hR) (sr _) (sr _) (sr _) (fun r2 u hM2 hMX f0 fi fs fa => ⟨r2, rfl, ?_⟩)
      have hq2 := hMX.2.2 1 2 (by decide)
      have hq4 := hMX.2.2 1 6 (by decide)
      obtain ⟨hrr, hE2⟩ := PTP_eq hE hR2 hMX.2.2 es fs
      have hI2 : gp_I u 1 6 = gp_I u 74 9 := by omega
      have hB2 : TPE u := TPE_k hB ea hR2 fa hMX.2.2 (by omega)
      exact nxt u (LI_s h0 r1 rr2 hX1 hR hM2 hMX (by omega) hI2 hE2 hB2)
    · refine ⟨g1 _, g2 _, 1, rfl, rfl, xu_number _ _ hX (sr _) (sr _) (fun r t A1 B1 hX1 hR e0 ei es ea => ?_)⟩
      have hs1 : ∀ k, gp_I t 0 k = gp_I s 0 k := fun k => (hR.2 0 k (Or.inl rfl) (by decide)).1
      have hR2 : ∀ a k, 74 ≤ a → a < 117 → gp_I t a k = gp_I s a k := fun a k a1 a2 => (hR.2 a k (Or.inr a1) a2).1
      have hq1 := hR2 74 11 (by decide) (by decide)
      have hq3 := hR2 74 9 (by decide) (by decide)
      refine ⟨r, rfl, g1 _, g2 _, 74, rfl, rfl, ?_⟩
      simp only [hs1]
      refine mu_number _ _ (MW_XR hM hR) (sr _) (sr _) (fun r2 u hM2 hMX f0 fi fs fa => ⟨r2, rfl, ?_⟩)
      have hq2 := hMX.2.2 1 2 (by decide)
      have hq4 := hMX.2.2 1 6 (by decide)
      obtain ⟨hrr, hE2⟩ := NBP_eq hE hR2 hMX.2.2 hl es fs
      have hI2 : gp_I u 1 6 = gp_I u 74 9 := by omega
      have hB2 : TPE u := TPE_k hB ea hR2 fa hMX.2.2 (by omega)
      exact nxt u (LI_s h0 r1 rr2 hX1 hR hM2 hMX (by omega) hI2 hE2 hB2)
    · refine ⟨g1 _, g2 _, g3 _, g4 _, g5 _, 1, rfl, rfl, xu_shift _ _ _ _ _ hX (sr _) (sr _) (sr _) (sr _) (sr _) (fun r t A1 B1 hX1 hR e0 ei es ea => ?_)⟩
      have hs1 : ∀ k, gp_I t 0 k = gp_I s 0 k := fun k => (hR.2 0 k (Or.inl rfl) (by decide)).1
      have hR2 : ∀ a k, 74 ≤ a → a < 117 → gp_I t a k = gp_I s a k := fun a k a1 a2 => (hR.2 a k (Or.inr a1) a2).1
      have hq1 := hR2 74 11 (by decide) (by decide)
      have hq3 := hR2 74 9 (by decide) (by decide)
      refine ⟨r, rfl, g1 _, g2 _, g3 _, g4 _, g5 _, 74, rfl, rfl, ?_⟩
      simp only [hs1]
      refine mu_shift _ _ _ _ _ (MW_XR hM hR) (sr _) (sr _) (sr _) (sr _) (sr _) (fun r2 u hM2 hMX f0 fi fs fa => ⟨r2, rfl, ?_⟩)
      have hq2 := hMX.2.2 1 2 (by decide)
      have hq4 := hMX.2.2 1 6 (by decide)
      obtain ⟨hrr, hE2⟩ := SFP_eq hE hR2 hMX.2.2 hl es fs
      have hI2 : gp_I u 1 6 = gp_I u 74 9 := by omega
      have hB2 : TPE u := TPE_k hB ea hR2 fa hMX.2.2 (by omega)
      exact nxt u (LI_s h0 r1 rr2 hX1 hR hM2 hMX (by omega) hI2 hE2 hB2)
    · refine ⟨g1 _, g2 _, 1, rfl, rfl, xu_judge _ _ hX (sr _) (sr _) (fun r t A1 B1 hX1 hR e0 ei es ea => ?_)⟩
      have hs1 : ∀ k, gp_I t 0 k = gp_I s 0 k := fun k => (hR.2 0 k (Or.inl rfl) (by decide)).1
      have hR2 : ∀ a k, 74 ≤ a → a < 117 → gp_I t a k = gp_I s a k := fun a k a1 a2 => (hR.2 a k (Or.inr a1) a2).1
      have hq1 := hR2 74 11 (by decide) (by decide)
      have hq3 := hR2 74 9 (by decide) (by decide)
      refine ⟨r, rfl, g1 _, g2 _, 74, rfl, rfl, ?_⟩
      simp only [hs1]
      refine mu_judge _ _ (MW_XR hM hR) (sr _) (sr _) (fun r2 u hM2 hMX f0 fi fs fa => ⟨r2, rfl, ?_⟩)
      have hq2 := hMX.2.2 1 2 (by decide)
      have hq4 := hMX.2.2 1 6 (by decide)
      have hE2 := EQV_KP hE hR2 hMX.2.2 es fs
      have hI2 : gp_I u 1 6 = gp_I u 74 9 := by omega
      have hB2 : TPE u := TPE_k hB ea hR2 fa hMX.2.2 (by omega)
      exact nxt u (LI_s h0 r1 rr2 hX1 hR hM2 hMX (by omega) hI2 hE2 hB2)
    · refine ⟨g1 _, 1, rfl, rfl, xu_seed _ hX (sr _) (fun r t A1 B1 hX1 hR e0 ei es ea => ?_)⟩
      have hs1 : ∀ k, gp_I t 0 k = gp_I s 0 k := fun k => (hR.2 0 k (Or.inl rfl) (by decide)).1
      have hR2 : ∀ a k, 74 ≤ a → a < 117 → gp_I t a k = gp_I s a k := fun a k a1 a2 => (hR.2 a k (Or.inr a1) a2).1
      have hq1 := hR2 74 11 (by decide) (by decide)
      have hq3 := hR2 74 9 (by decide) (by decide)
      refine ⟨r, rfl, g1 _, 74, rfl, rfl, ?_⟩
      simp only [hs1]
      refine mu_seed _ (MW_XR hM hR) (sr _) (fun r2 u hM2 hMX f0 fi fs fa => ⟨r2, rfl, ?_⟩)
      have hq2 := hMX.2.2 1 2 (by decide)
      have hq4 := hMX.2.2 1 6 (by decide)
      have hE2 := EQV_KP hE hR2 hMX.2.2 es fs
      have hI2 : gp_I u 1 6 = gp_I u 74 9 := by omega
      have hB2 : TPE u := TPE_k hB ea hR2 fa hMX.2.2 (by omega)
      exact nxt u (LI_s h0 r1 rr2 hX1 hR hM2 hMX (by omega) hI2 hE2 hB2)
    · refine ⟨1, rfl, rfl, xu_image hX (fun r t A1 B1 hX1 hR e0 ei es ea => ?_)⟩
      have hs1 : ∀ k, gp_I t 0 k = gp_I s 0 k := fun k => (hR.2 0 k (Or.inl rfl) (by decide)).1
      have hR2 : ∀ a k, 74 ≤ a → a < 117 → gp_I t a k = gp_I s a k := fun a k a1 a2 => (hR.2 a k (Or.inr a1) a2).1
      have hq1 := hR2 74 11 (by decide) (by decide)
      have hq3 := hR2 74 9 (by decide) (by decide)
      refine ⟨r, rfl, 74, rfl, rfl, ?_⟩
      refine mu_image (MW_XR hM hR) (fun r2 u hM2 hMX f0 fi fs fa => ⟨r2, rfl, ?_⟩)
      have hq2 := hMX.2.2 1 2 (by decide)
      have hq4 := hMX.2.2 1 6 (by decide)
      have hE2 := EQV_KP hE hR2 hMX.2.2 es fs
      have hrr : r = r2 := by rw [ei.1, fi.1, hq3, ← hI]
      have hI2 : gp_I u 1 6 = gp_I u 74 9 := by omega
      have hB2 : TPE u := TPE_k hB ea hR2 fa hMX.2.2 (by omega)
      exact nxt u (LI_s h0 r1 rr2 hX1 hR hM2 hMX (by omega) hI2 hE2 hB2)
    · refine ⟨1, rfl, rfl, xu_restore hX (fun r t A1 B1 hX1 hR e0 ei es ea => ?_)⟩
      have hs1 : ∀ k, gp_I t 0 k = gp_I s 0 k := fun k => (hR.2 0 k (Or.inl rfl) (by decide)).1
      have hR2 : ∀ a k, 74 ≤ a → a < 117 → gp_I t a k = gp_I s a k := fun a k a1 a2 => (hR.2 a k (Or.inr a1) a2).1
      have hq1 := hR2 74 11 (by decide) (by decide)
      have hq3 := hR2 74 9 (by decide) (by decide)
      refine ⟨r, rfl, 74, rfl, rfl, ?_⟩
      refine mu_restore (MW_XR hM hR) (fun r2 u hM2 hMX f0 fi fs fa => ⟨r2, rfl, ?_⟩)
      have hq2 := hMX.2.2 1 2 (by decide)
      have hq4 := hMX.2.2 1 6 (by decide)
      have hE2 := EQV_KP hE hR2 hMX.2.2 es fs
      have hI2 : gp_I u 1 6 = gp_I u 74 9 := by omega
      have hB2 : TPE u := TPE_k hB ea hR2 fa hMX.2.2 (by omega)
      exact nxt u (LI_s h0 r1 rr2 hX1 hR hM2 hMX (by omega) hI2 hE2 hB2)
    · refine ⟨g1 _, 1, rfl, rfl, xu_count _ hX (sr _) (fun r t A1 B1 hX1 hR e0 ei es ea => ?_)⟩
      have hs1 : ∀ k, gp_I t 0 k = gp_I s 0 k := fun k => (hR.2 0 k (Or.inl rfl) (by decide)).1
      have hR2 : ∀ a k, 74 ≤ a → a < 117 → gp_I t a k = gp_I s a k := fun a k a1 a2 => (hR.2 a k (Or.inr a1) a2).1
      have hq1 := hR2 74 11 (by decide) (by decide)
      have hq3 := hR2 74 9 (by decide) (by decide)
      refine ⟨r, rfl, g1 _, 74, rfl, rfl, ?_⟩
      simp only [hs1]
      refine mu_count _ (MW_XR hM hR) (sr _) (fun r2 u hM2 hMX f0 fi fs fa => ⟨r2, rfl, ?_⟩)
      have hq2 := hMX.2.2 1 2 (by decide)
      have hq4 := hMX.2.2 1 6 (by decide)
      have hE2 := EQV_KP hE hR2 hMX.2.2 es fs
      have hI2 : gp_I u 1 6 = gp_I u 74 9 := by omega
      have hB2 : TPE u := TPE_k hB ea hR2 fa hMX.2.2 (by omega)
      exact nxt u (LI_s h0 r1 rr2 hX1 hR hM2 hMX (by omega) hI2 hE2 hB2)
    · refine ⟨g1 _, 1, rfl, rfl, xu_told _ hX (sr _) (fun r t A1 B1 hX1 hR e0 ei es ea => ?_)⟩
      have hs1 : ∀ k, gp_I t 0 k = gp_I s 0 k := fun k => (hR.2 0 k (Or.inl rfl) (by decide)).1
      have hR2 : ∀ a k, 74 ≤ a → a < 117 → gp_I t a k = gp_I s a k := fun a k a1 a2 => (hR.2 a k (Or.inr a1) a2).1
      have hq1 := hR2 74 11 (by decide) (by decide)
      have hq3 := hR2 74 9 (by decide) (by decide)
      refine ⟨r, rfl, g1 _, 74, rfl, rfl, ?_⟩
      simp only [hs1]
      refine mu_told _ (MW_XR hM hR) (sr _) (fun r2 u hM2 hMX f0 fi fs fa => ⟨r2, rfl, ?_⟩)
      have hq2 := hMX.2.2 1 2 (by decide)
      have hq4 := hMX.2.2 1 6 (by decide)
      have hE2 := EQV_KP hE hR2 hMX.2.2 es fs
      have hI2 : gp_I u 1 6 = gp_I u 74 9 := by omega
      have hB2 : TPE u := TPE_k hB ea hR2 fa hMX.2.2 (by omega)
      exact nxt u (LI_s h0 r1 rr2 hX1 hR hM2 hMX (by omega) hI2 hE2 hB2)
    · exact nxt s (LI_s0 ⟨A, B, hX, hM, h0, hT, hI, ⟨hE, hB⟩, r1, rr2⟩)
theorem lw_hrun (L : Nat) (xs : Nat → Int32) (hL : L ≤ 3072) : ∃ (n : Nat) (h' : gH), gp_run n 800 4352 0 [gp_r (some 0), gp_n, gp_n, gp_n] [] (gp_start L xs) = some (some (gp_i 1), h') ∧ gp_sz h' ≤ 600001 ∧ gp_us h' ≤ 7302250 := by
  have hm := lw_loop (L := L) (d := 199) xs hL (L + 1) 0 (cH263 L xs) (by omega) (by omega) (LI_0 L xs)
  have hE : gp_E 800 4352 0 [gp_r (some 0), gp_n, gp_n, gp_n] [] (gp_start L xs) (fun r h' => ∃ s', h' = gp_mk L s' ∧ (r = some (gp_i 1) ∧ gp_sz s' ≤ 600001 ∧ gp_us s' ≤ 7302250)) := by
    refine ct_law (d := 797) L xs ?_
    rw [← cf_mk L xs]
    exact hm
  obtain ⟨n, r, h', e, s', rfl, rfl, z1, z2⟩ := hE
  exact ⟨n, _, e, z1, z2⟩
