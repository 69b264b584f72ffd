def UN (m : Nat) : Prop := ∀ (L D : Nat) (K : Option gV → gH → Prop) (s : gH) (τ : Nat → Int) (n : Int) , ((4 * m + 190 ≤ D)) → (MI s) → (TPn τ n s) → (PI s) → (2 * gp_I s 74 42 ≤ gp_I s 74 38) → (gp_I s 74 38 ≤ gp_I s 74 39) → (9 ≤ gp_I s 74 41 + m) → (∀ (t : gH), MI t → gF [76, 77, 78, 79, 80, 81, 86, 87, 88, 89, 105] [15, 38, 40, 41, 42, 43, 45] s t → (gp_I s 74 38 ≤ gp_I t 74 38 ∧ gp_I t 74 38 ≤ gp_I t 74 39) → (gp_I s 74 42 ≤ gp_I t 74 42 ∧ 2 * gp_I t 74 42 ≤ gp_I t 74 38 + 1) → (gp_I t 74 40 < 0 → gp_I s 74 40 < 0) → (gp_I t 74 43 = 0 → gp_I s 74 43 = 0) → (gp_I t 74 41 = gp_I s 74 41 ∧ gp_I t 74 44 = gp_I s 74 44) → (TPn τ n t) → (kq s t) → (PI t) → (gp_I t 74 44 ≠ 0 → gp_I t 74 40 < 0 → gp_I t 74 43 = 0 → gp_I t 74 42 = gp_I s 74 42 + 1) → (gp_I t 74 43 = 0 → EV τ n 0 (gp_I s 74 41) (gp_I s 74 38) (gp_I s 74 40) (gp_I t 74 38) (gp_I t 74 40)) → (gp_I s 74 44 = 0 → gp_I t 74 43 = gp_I s 74 43) → K none t) → gs_C L D 3134 2 [gp_r (some 74)] s K
def EX (m : Nat) : Prop := ∀ (L D : Nat) (K : Option gV → gH → Prop) (s : gH) (τ : Nat → Int) (n : Int) , ((4 * m + 191 ≤ D)) → (MI s) → (TPn τ n s) → (PI s) → (2 * gp_I s 74 42 ≤ gp_I s 74 38) → (gp_I s 74 38 ≤ gp_I s 74 39) → (9 ≤ gp_I s 74 41 + m) → (∀ (t : gH), MI t → gF [76, 77, 78, 79, 80, 81, 86, 87, 88, 89, 105] [15, 38, 40, 41, 42, 43, 45] s t → (gp_I s 74 38 ≤ gp_I t 74 38 ∧ gp_I t 74 38 ≤ gp_I t 74 39) → (gp_I s 74 42 ≤ gp_I t 74 42 ∧ 2 * gp_I t 74 42 ≤ gp_I t 74 38 + 1) → (gp_I t 74 40 < 0 → gp_I s 74 40 < 0) → (gp_I t 74 43 = 0 → gp_I s 74 43 = 0) → (gp_I t 74 41 = gp_I s 74 41 ∧ gp_I t 74 44 = gp_I s 74 44) → (TPn τ n t) → (kq s t) → (PI t) → (gp_I t 74 44 ≠ 0 → gp_I t 74 40 < 0 → gp_I t 74 43 = 0 → gp_I t 74 42 = gp_I s 74 42 + 1) → (gp_I t 74 43 = 0 → EV τ n 1 (gp_I s 74 41) (gp_I s 74 38) (gp_I s 74 40) (gp_I t 74 38) (gp_I t 74 40)) → (gp_I s 74 44 = 0 → gp_I t 74 43 = gp_I s 74 43) → K none t) → gs_C L D 3137 1 [gp_r (some 74)] s K
def SI (m : Nat) : Prop := ∀ (L D : Nat) (K : Option gV → gH → Prop) (s : gH) (τ : Nat → Int) (n : Int) , ((4 * m + 192 ≤ D)) → (MI s) → (TPn τ n s) → (PI s) → (2 * gp_I s 74 42 ≤ gp_I s 74 38) → (gp_I s 74 38 ≤ gp_I s 74 39) → (9 ≤ gp_I s 74 41 + m) → (∀ (r : Int), ∀ (t : gH), MI t → gF [76, 77, 78, 79, 80, 81, 86, 87, 88, 89, 105] [15, 38, 40, 41, 42, 43, 45] s t → (0 ≤ r ∧ r ≤ 101) → (gp_I s 74 38 ≤ gp_I t 74 38 ∧ gp_I t 74 38 ≤ gp_I t 74 39) → (gp_I s 74 42 ≤ gp_I t 74 42 ∧ 2 * gp_I t 74 42 ≤ gp_I t 74 38 + 1) → (gp_I t 74 40 < 0 → gp_I s 74 40 < 0) → (gp_I t 74 43 = 0 → gp_I s 74 43 = 0) → (gp_I t 74 41 = gp_I s 74 41 ∧ gp_I t 74 44 = gp_I s 74 44) → (TPn τ n t) → (kq s t) → (PI t) → (gp_I t 74 44 ≠ 0 → gp_I t 74 40 < 0 → gp_I t 74 43 = 0 → gp_I t 74 42 = gp_I s 74 42 + r) → (gp_I t 74 43 = 0 → EV τ n 3 (gp_I s 74 41) (gp_I s 74 38) (gp_I s 74 40) (gp_I t 74 38) (gp_I t 74 40)) → (gp_I s 74 44 = 0 → gp_I t 74 43 = gp_I s 74 43) → K (some (gp_i r)) t) → gs_C L D 3135 3 [gp_r (some 74)] s K
def SS (m : Nat) : Prop := ∀ (L D : Nat) (K : Option gV → gH → Prop) (s : gH) (τ : Nat → Int) (n : Int) , ((4 * m + 193 ≤ D)) → (MI s) → (TPn τ n s) → (PI s) → (2 * gp_I s 74 42 ≤ gp_I s 74 38) → (gp_I s 74 38 ≤ gp_I s 74 39) → (9 ≤ gp_I s 74 41 + m) → (∀ (t : gH), MI t → gF [76, 77, 78, 79, 80, 81, 86, 87, 88, 89, 105] [15, 38, 40, 41, 42, 43, 45] s t → (gp_I s 74 38 ≤ gp_I t 74 38 ∧ gp_I t 74 38 ≤ gp_I t 74 39) → (gp_I s 74 42 ≤ gp_I t 74 42 ∧ 2 * gp_I t 74 42 ≤ gp_I t 74 38 + 1) → (gp_I t 74 40 < 0 → gp_I s 74 40 < 0) → (gp_I t 74 43 = 0 → gp_I s 74 43 = 0) → (gp_I t 74 41 = gp_I s 74 41 ∧ gp_I t 74 44 = gp_I s 74 44) → (TPn τ n t) → (kq s t) → (PI t) → (gp_I t 74 44 ≠ 0 → gp_I t 74 40 < 0 → gp_I t 74 43 = 0 → gp_I t 74 42 = gp_I s 74 42 + 1) → (gp_I t 74 43 = 0 → EV τ n 4 (gp_I s 74 41) (gp_I s 74 38) (gp_I s 74 40) (gp_I t 74 38) (gp_I t 74 40)) → (gp_I s 74 44 = 0 → gp_I t 74 43 = gp_I s 74 43) → K none t) → gs_C L D 3136 11 [gp_r (some 74)] s K
set_option maxRecDepth 100000 in
/-- GatheredPointsModel.unit -/
theorem vm_unit (m : Nat) (ihU : UN m) (ihB : SS m) : UN (m + 1) := by
  intro L D K s τ n hD hs q0 q1 q2 q3 q4 k
  obtain ⟨d, rfl⟩ : ∃ d, D = d + 188 := ⟨D - 188, by omega⟩
  have f_1 := mr74_38 hs
  have f_2 := mr74_39 hs
  have f_3 := mr74_40 hs
  have f_4 := mr74_41 hs
  have f_5 := mr74_42 hs
  have f_6 := mr74_43 hs
  have f_7 := mr74_44 hs
  have f_8 := mr81 hs 19
  refine s_3134_e ?_
  have hkq0 := kq.refl s
  refine vm_goesOn hs (fun x_9 p_10 p_11 => ⟨_, rfl, ?_⟩)
  refine ⟨fun h_12 => ?_, fun h_12 => ?_⟩
  · exact k s hs (gF.refl _ _ _) (by first | omega | assumption) (by first | omega | assumption) (by first | omega | assumption) (by first | omega | assumption) (by first | omega | assumption) (q0) (hkq0) (q1) (by first | omega | assumption) (fun h9 => EV.u0 (by omega) rfl rfl) (by first | omega | assumption)
  · refine vm_isDigit τ n hs (q0) (fun x_13 p_14 p_15 => ⟨_, rfl, ?_⟩)
    refine ⟨fun h_16 => ?_, fun h_16 => ?_⟩
    · have hb_17 := hasF p_15 h_16
      refine vm_takes τ n _ hs (by omega) (q0) (by first | omega | assumption) (fun x_18 s_19 hs_20 hf_21 p_22 p_23 p_24 => ⟨_, rfl, ?_⟩)
      have hf_25 : gF [76, 77, 78, 79, 80, 81, 86, 87, 88, 89, 105] [15, 38, 40, 41, 42, 43, 45] s s_19 := gF.sub hf_21 rfl rfl
      have pd_26 : TPn τ n s_19 := TP_fr q0 hf_21 rfl rfl
      have pd_27 : PI s_19 := PI_fr q1 hf_21 rfl rfl rfl rfl rfl
      have pd_28 : kq s s_19 := kq_fr hkq0 hf_21 rfl
      have q_29 := (hf_21.2 74 39 rfl (fun _ => rfl)).1
      have q_30 := (hf_21.2 74 40 rfl (fun _ => rfl)).1
      have q_31 := (hf_21.2 74 41 rfl (fun _ => rfl)).1
      have q_32 := (hf_21.2 74 42 rfl (fun _ => rfl)).1
      have q_33 := (hf_21.2 74 43 rfl (fun _ => rfl)).1
      have q_34 := (hf_21.2 74 44 rfl (fun _ => rfl)).1
      have q_35 := (hf_21.2 81 19 rfl (fun h => absurd h (by decide))).1
      refine ⟨fun h_36 => ?_, fun h_36 => ?_⟩
      · refine vm_byteAt τ n hs_20 (pd_26) (fun x_37 p_38 p_39 => ⟨_, rfl, ?_⟩)
        have hbs : bA τ n (gp_I s_19 74 38) = bA τ n (gp_I s 74 38) := by rw [show gp_I s_19 74 38 = gp_I s 74 38 by omega]
        have hb8 := @bA_m1 τ n (gp_I s_19 74 38)
        have he8 := (pd_26).2
        refine ⟨fun h_40 => ?_, fun h_40 => ?_⟩
        · refine s_3134_103 _ _ ?_
          refine ⟨fun h_41 => ?_, fun h_41 => ?_⟩
          · exfalso; omega
          · refine s_3134_117 _ ?_
            have f_42 := mr74_41 hs_20
            refine ⟨fun h_43 => ?_, fun h_43 => ?_⟩
            · refine s_3134_126 _ ?_
              refine vm_fails hs_20 (fun s_44 hs_45 hf_46 p_47 => ⟨rfl, ?_⟩)
              have hf_48 : gF [76, 77, 78, 79, 80, 81, 86, 87, 88, 89, 105] [15, 38, 40, 41, 42, 43, 45] s s_44 := gF.trans hf_25 hf_46 rfl rfl
              have pd_49 : TPn τ n s_44 := TP_fr pd_26 hf_46 rfl rfl
              have pd_50 : kq s s_44 := kq_fr pd_28 hf_46 rfl
              have q_51 := (hf_46.2 74 38 rfl (fun _ => rfl)).1
              have q_52 := (hf_46.2 74 39 rfl (fun _ => rfl)).1
              have q_53 := (hf_46.2 74 41 rfl (fun _ => rfl)).1
              have q_54 := (hf_46.2 74 42 rfl (fun _ => rfl)).1
              have q_55 := (hf_46.2 74 43 rfl (fun _ => rfl)).1
              have q_56 := (hf_46.2 74 44 rfl (fun _ => rfl)).1
              have q_57 := (hf_46.2 81 19 rfl (fun h => absurd h (by decide))).1
              have hPI9 : PI s_44 := by first | exact (by assumption) | exact PI_q q1 pd_50 (fun o => okI (by have := o.1; omega) (by have := o.2.1; omega) (by have := o.2.2; omega)) (fun o9 => by have := o9.1; have := o9.2.1; have := o9.2.2; omega) (fun o9 e9 => by have := o9.1; have := o9.2.1; have := o9.2.2; first | (exfalso; omega) | (skip))
              exact k s_44 hs_45 hf_48 (by first | omega | assumption) (by first | omega | assumption) (by first | omega | assumption) (by first | omega | assumption) (by first | omega | assumption) (pd_49) (pd_50) (hPI9) (by first | omega | assumption) (fun h9 => EV.ub (by omega) (by omega) (by omega) (by omega) (by omega) (by omega)) (by first | omega | assumption)
            · have f_58 := mr74_38 hs_20
              try rw [show gp_wr ((gp_I s_19 74 38) + 1) = (gp_I s_19 74 38) + 1 from gp_wr_id (by omega) (by omega)]
              intro s_59 e_60
              have hs_61 : MI s_59 := by rw [e_60]; exact mw74_38 hs_20 _ (by omega)
              have hf_62 : gF [76, 77, 78, 79, 80, 81, 86, 87, 88, 89, 105] [15, 38, 40, 41, 42, 43, 45] s s_59 := by rw [e_60]; exact gF.wI hf_25 (Or.inr ⟨rfl, rfl⟩)
              have q_63 : gp_I s_59 74 38 = (gp_I s_19 74 38) + 1 := by rw [e_60]; exact (gz_rw _ _ _ _ _).1 rfl
              have q_64 : gp_I s_59 74 39 = gp_I s_19 74 39 := by rw [e_60] <;> rfl
              have q_65 : gp_I s_59 74 40 = gp_I s_19 74 40 := by rw [e_60] <;> rfl
              have q_66 : gp_I s_59 74 41 = gp_I s_19 74 41 := by rw [e_60] <;> rfl
              have q_67 : gp_I s_59 74 42 = gp_I s_19 74 42 := by rw [e_60] <;> rfl
              have q_68 : gp_I s_59 74 43 = gp_I s_19 74 43 := by rw [e_60] <;> rfl
              have q_69 : gp_I s_59 74 44 = gp_I s_19 74 44 := by rw [e_60] <;> rfl
              have q_70 : gp_I s_59 81 19 = gp_I s_19 81 19 := by rw [e_60] <;> rfl
              have pd_71 : TPn τ n s_59 := by rw [e_60]; exact TP_fr pd_26 (gF.wI (gF.refl [] [38] _) (Or.inr ⟨rfl, rfl⟩)) rfl rfl
              have pd_72 : PI s_59 := by rw [e_60]; exact PI_fr pd_27 (gF.wI (gF.refl [] [38] _) (Or.inr ⟨rfl, rfl⟩)) rfl rfl rfl rfl rfl
              have pd_73 : kq s s_59 := by rw [e_60]; exact kq_fr pd_28 (gF.wI (gF.refl [] [38] _) (Or.inr ⟨rfl, rfl⟩)) rfl
              have f_74 := mr74_41 hs_61
              try rw [show gp_wr ((gp_I s_59 74 41) + 1) = (gp_I s_59 74 41) + 1 from gp_wr_id (by omega) (by omega)]
              intro s_75 e_76
              have hs_77 : MI s_75 := by rw [e_76]; exact mw74_41 hs_61 _ (by omega)
              have hf_78 : gF [76, 77, 78, 79, 80, 81, 86, 87, 88, 89, 105] [15, 38, 40, 41, 42, 43, 45] s s_75 := by rw [e_76]; exact gF.wI hf_62 (Or.inr ⟨rfl, rfl⟩)
              have q_79 : gp_I s_75 74 38 = gp_I s_59 74 38 := by rw [e_76] <;> rfl
              have q_80 : gp_I s_75 74 39 = gp_I s_59 74 39 := by rw [e_76] <;> rfl
              have q_81 : gp_I s_75 74 40 = gp_I s_59 74 40 := by rw [e_76] <;> rfl
              have q_82 : gp_I s_75 74 41 = (gp_I s_59 74 41) + 1 := by rw [e_76]; exact (gz_rw _ _ _ _ _).1 rfl
              have q_83 : gp_I s_75 74 42 = gp_I s_59 74 42 := by rw [e_76] <;> rfl
              have q_84 : gp_I s_75 74 43 = gp_I s_59 74 43 := by rw [e_76] <;> rfl
              have q_85 : gp_I s_75 74 44 = gp_I s_59 74 44 := by rw [e_76] <;> rfl
              have q_86 : gp_I s_75 81 19 = gp_I s_59 81 19 := by rw [e_76] <;> rfl
              have pd_87 : TPn τ n s_75 := by rw [e_76]; exact TP_fr pd_71 (gF.wI (gF.refl [] [41] _) (Or.inr ⟨rfl, rfl⟩)) rfl rfl
              have pd_88 : PI s_75 := by rw [e_76]; exact PI_fr pd_72 (gF.wI (gF.refl [] [41] _) (Or.inr ⟨rfl, rfl⟩)) rfl rfl rfl rfl rfl
              have pd_89 : kq s s_75 := by rw [e_76]; exact kq_fr pd_73 (gF.wI (gF.refl [] [41] _) (Or.inr ⟨rfl, rfl⟩)) rfl
              refine ⟨fun h_90 => ?_, fun h_90 => ?_⟩
              · exfalso; omega
              · have hk155 := pd_89
                refine ihU _ _ _ _ τ n (by omega) hs_77 (pd_87) (pd_88) (by first | omega | assumption) (by first | omega | assumption) (by first | omega | assumption) (fun s_91 hs_92 hf_93 p_94 p_95 p_96 p_97 p_98 p_99 p_100 p_101 p_102 p_103 p_104 => ⟨rfl, ?_⟩)
                have hf_105 : gF [76, 77, 78, 79, 80, 81, 86, 87, 88, 89, 105] [15, 38, 40, 41, 42, 43, 45] s s_91 := gF.trans hf_78 hf_93 rfl rfl
                have q_106 := (hf_93.2 74 39 rfl (fun _ => rfl)).1
                have q_107 := (hf_93.2 74 44 rfl (fun _ => rfl)).1
                have hk159 : kq s s_91 := kq.trans hk155 p_100 (by omega)
                have hev := p_103
                have f_108 := mr74_44 hs_92
                refine ⟨fun h_109 => ?_, fun h_109 => ?_⟩
                · refine s_3134_207 _ ?_
                  have hk207 : kq s s_91 := by first | exact hk159 | exact kq.trans hk203 p_100 (by omega)
                  have hev := p_103
                  have f_110 := mr74_41 hs_92
                  try rw [show gp_wr ((gp_I s_91 74 41) - 1) = (gp_I s_91 74 41) - 1 from gp_wr_id (by omega) (by omega)]
                  intro s_111 e_112
                  have hs_113 : MI s_111 := by rw [e_112]; exact mw74_41 hs_92 _ (by omega)
                  have hf_114 : gF [76, 77, 78, 79, 80, 81, 86, 87, 88, 89, 105] [15, 38, 40, 41, 42, 43, 45] s s_111 := by rw [e_112]; exact gF.wI hf_105 (Or.inr ⟨rfl, rfl⟩)
                  have q_115 : gp_I s_111 74 38 = gp_I s_91 74 38 := by rw [e_112] <;> rfl
                  have q_116 : gp_I s_111 74 39 = gp_I s_91 74 39 := by rw [e_112] <;> rfl
                  have q_117 : gp_I s_111 74 40 = gp_I s_91 74 40 := by rw [e_112] <;> rfl
                  have q_118 : gp_I s_111 74 41 = (gp_I s_91 74 41) - 1 := by rw [e_112]; exact (gz_rw _ _ _ _ _).1 rfl
                  have q_119 : gp_I s_111 74 42 = gp_I s_91 74 42 := by rw [e_112] <;> rfl
                  have q_120 : gp_I s_111 74 43 = gp_I s_91 74 43 := by rw [e_112] <;> rfl
                  have q_121 : gp_I s_111 74 44 = gp_I s_91 74 44 := by rw [e_112] <;> rfl
                  have q_122 : gp_I s_111 81 19 = gp_I s_91 81 19 := by rw [e_112] <;> rfl
                  have pd_123 : TPn τ n s_111 := by rw [e_112]; exact TP_fr p_99 (gF.wI (gF.refl [] [41] _) (Or.inr ⟨rfl, rfl⟩)) rfl rfl
                  have pd_124 : PI s_111 := by rw [e_112]; exact PI_fr p_101 (gF.wI (gF.refl [] [41] _) (Or.inr ⟨rfl, rfl⟩)) rfl rfl rfl rfl rfl
                  have pd_125 : kq s s_111 := by rw [e_112]; exact kq_fr hk207 (gF.wI (gF.refl [] [41] _) (Or.inr ⟨rfl, rfl⟩)) rfl
                  exact k s_111 hs_113 hf_114 (by first | omega | assumption) (by first | omega | assumption) (by first | omega | assumption) (by first | omega | assumption) (by first | omega | assumption) (pd_123) (pd_125) (pd_124) (by first | omega | assumption) (fun h9 => by first | exact EV.un (by omega) (by omega) (by omega) rfl rfl rfl (EV.cg (hev (by omega)) (by omega) (by omega) (by omega) (by omega) (by omega)) | exact EV.us (by omega) (by omega) (by omega) rfl rfl rfl (EV.cg (hev (by omega)) (by omega) (by omega) (by omega) (by omega) (by omega))) (by first | omega | assumption)
                · refine vm_goesOn hs_92 (fun x_126 p_127 p_128 => ⟨_, rfl, ?_⟩)
                  refine ⟨fun h_129 => ?_, fun h_129 => ?_⟩
                  · refine s_3134_207 _ ?_
                    have hk207 : kq s s_91 := by first | exact hk159 | exact kq.trans hk203 p_100 (by omega)
                    have hev := p_103
                    have f_130 := mr74_41 hs_92
                    try rw [show gp_wr ((gp_I s_91 74 41) - 1) = (gp_I s_91 74 41) - 1 from gp_wr_id (by omega) (by omega)]
                    intro s_131 e_132
                    have hs_133 : MI s_131 := by rw [e_132]; exact mw74_41 hs_92 _ (by omega)
                    have hf_134 : gF [76, 77, 78, 79, 80, 81, 86, 87, 88, 89, 105] [15, 38, 40, 41, 42, 43, 45] s s_131 := by rw [e_132]; exact gF.wI hf_105 (Or.inr ⟨rfl, rfl⟩)
                    have q_135 : gp_I s_131 74 38 = gp_I s_91 74 38 := by rw [e_132] <;> rfl
                    have q_136 : gp_I s_131 74 39 = gp_I s_91 74 39 := by rw [e_132] <;> rfl
                    have q_137 : gp_I s_131 74 40 = gp_I s_91 74 40 := by rw [e_132] <;> rfl
                    have q_138 : gp_I s_131 74 41 = (gp_I s_91 74 41) - 1 := by rw [e_132]; exact (gz_rw _ _ _ _ _).1 rfl
                    have q_139 : gp_I s_131 74 42 = gp_I s_91 74 42 := by rw [e_132] <;> rfl
                    have q_140 : gp_I s_131 74 43 = gp_I s_91 74 43 := by rw [e_132] <;> rfl
                    have q_141 : gp_I s_131 74 44 = gp_I s_91 74 44 := by rw [e_132] <;> rfl
                    have q_142 : gp_I s_131 81 19 = gp_I s_91 81 19 := by rw [e_132] <;> rfl
                    have pd_143 : TPn τ n s_131 := by rw [e_132]; exact TP_fr p_99 (gF.wI (gF.refl [] [41] _) (Or.inr ⟨rfl, rfl⟩)) rfl rfl
                    have pd_144 : PI s_131 := by rw [e_132]; exact PI_fr p_101 (gF.wI (gF.refl [] [41] _) (Or.inr ⟨rfl, rfl⟩)) rfl rfl rfl rfl rfl
                    have pd_145 : kq s s_131 := by rw [e_132]; exact kq_fr hk207 (gF.wI (gF.refl [] [41] _) (Or.inr ⟨rfl, rfl⟩)) rfl
                    exact k s_131 hs_133 hf_134 (by first | omega | assumption) (by first | omega | assumption) (by first | omega | assumption) (by first | omega | assumption) (by first | omega | assumption) (pd_143) (pd_145) (pd_144) (by first | omega | assumption) (fun h9 => by first | exact EV.un (by omega) (by omega) (by omega) rfl rfl rfl (EV.cg (hev (by omega)) (by omega) (by omega) (by omega) (by omega) (by omega)) | exact EV.us (by omega) (by omega) (by omega) rfl rfl rfl (EV.cg (hev (by omega)) (by omega) (by omega) (by omega) (by omega) (by omega))) (by first | omega | assumption)
                  · have f_146 := mr74_42 hs_92
                    try rw [show gp_wr (21 + (gp_I s_91 74 42)) = 21 + (gp_I s_91 74 42) from gp_wr_id (by omega) (by omega)]
                    try rw [show gp_wr ((21 + (gp_I s_91 74 42)) - 1) = (21 + (gp_I s_91 74 42)) - 1 from gp_wr_id (by omega) (by omega)]
                    have hpi9 := p_101 (okI (by omega) (by omega) (by omega)) (Int.toNat ((21 + (gp_I s_91 74 42)) - 1)) (by omega) (by omega)
                    refine vm_negates _ hs_92 (by omega) (by first | omega | assumption) (by first | omega | assumption) (fun s_147 hs_148 hf_149 p_150 p_151 => ⟨rfl, ?_⟩)
                    have hf_152 : gF [76, 77, 78, 79, 80, 81, 86, 87, 88, 89, 105] [15, 38, 40, 41, 42, 43, 45] s s_147 := gF.trans hf_105 hf_149 rfl rfl
                    have pd_153 : TPn τ n s_147 := TP_fr p_99 hf_149 rfl rfl
                    have q_154 := (hf_149.2 74 38 rfl (fun _ => rfl)).1
                    have q_155 := (hf_149.2 74 39 rfl (fun _ => rfl)).1
                    have q_156 := (hf_149.2 74 40 rfl (fun _ => rfl)).1
                    have q_157 := (hf_149.2 74 41 rfl (fun _ => rfl)).1
                    have q_158 := (hf_149.2 74 42 rfl (fun _ => rfl)).1
                    have q_159 := (hf_149.2 74 43 rfl (fun _ => rfl)).1
                    have q_160 := (hf_149.2 74 44 rfl (fun _ => rfl)).1
                    have hk186 : kq s s_147 := kq_K hk159 p_151
                    have f_161 := mr74_42 hs_148
                    try rw [show gp_wr ((gp_I s_147 74 42) - 1) = (gp_I s_147 74 42) - 1 from gp_wr_id (by omega) (by omega)]
                    intro s_162 e_163
                    have hs_164 : MI s_162 := by rw [e_163]; exact mw74_42 hs_148 _ (by omega)
                    have hf_165 : gF [76, 77, 78, 79, 80, 81, 86, 87, 88, 89, 105] [15, 38, 40, 41, 42, 43, 45] s s_162 := by rw [e_163]; exact gF.wI hf_152 (Or.inr ⟨rfl, rfl⟩)
                    have q_166 : gp_I s_162 74 38 = gp_I s_147 74 38 := by rw [e_163] <;> rfl
                    have q_167 : gp_I s_162 74 39 = gp_I s_147 74 39 := by rw [e_163] <;> rfl
                    have q_168 : gp_I s_162 74 40 = gp_I s_147 74 40 := by rw [e_163] <;> rfl
                    have q_169 : gp_I s_162 74 41 = gp_I s_147 74 41 := by rw [e_163] <;> rfl
                    have q_170 : gp_I s_162 74 42 = (gp_I s_147 74 42) - 1 := by rw [e_163]; exact (gz_rw _ _ _ _ _).1 rfl
                    have q_171 : gp_I s_162 74 43 = gp_I s_147 74 43 := by rw [e_163] <;> rfl
                    have q_172 : gp_I s_162 74 44 = gp_I s_147 74 44 := by rw [e_163] <;> rfl
                    have q_173 : gp_I s_162 81 19 = gp_I s_147 81 19 := by rw [e_163] <;> rfl
                    have pd_174 : TPn τ n s_162 := by rw [e_163]; exact TP_fr pd_153 (gF.wI (gF.refl [] [42] _) (Or.inr ⟨rfl, rfl⟩)) rfl rfl
                    have pd_175 : kq s s_162 := by rw [e_163]; exact kq_fr hk186 (gF.wI (gF.refl [] [42] _) (Or.inr ⟨rfl, rfl⟩)) rfl
                    have hk197 := pd_175
                    refine vm_piles hs_164 (by first | omega | assumption) (fun s_176 hs_177 hf_178 p_179 p_180 p_181 => ⟨rfl, ?_⟩)
                    have hf_182 : gF [76, 77, 78, 79, 80, 81, 86, 87, 88, 89, 105] [15, 38, 40, 41, 42, 43, 45] s s_176 := gF.trans hf_165 hf_178 rfl rfl
                    have pd_183 : TPn τ n s_176 := TP_fr pd_174 hf_178 rfl rfl
                    have q_184 := (hf_178.2 74 38 rfl (fun _ => rfl)).1
                    have q_185 := (hf_178.2 74 39 rfl (fun _ => rfl)).1
                    have q_186 := (hf_178.2 74 40 rfl (fun _ => rfl)).1
                    have q_187 := (hf_178.2 74 41 rfl (fun _ => rfl)).1
                    have q_188 := (hf_178.2 74 43 rfl (fun _ => rfl)).1
                    have q_189 := (hf_178.2 74 44 rfl (fun _ => rfl)).1
                    have hk200 : kq s s_176 := kq_p hk197 p_180 (by omega)
                    have hPI9 : PI s_176 := by first | exact (by assumption) | exact PI_q q1 hk200 (fun o => okI (by have := o.1; omega) (by have := o.2.1; omega) (by have := o.2.2; omega)) (fun o9 => by have := o9.1; have := o9.2.1; have := o9.2.2; omega) (fun o9 e9 => by have := o9.1; have := o9.2.1; have := o9.2.2; first | (exfalso; omega) | (have h8 := p_181; rw [show gp_I s 74 42 = gp_I s_162 74 42 by omega, h8]; omega))
                    refine s_3134_207 _ ?_
                    have hk207 : kq s s_176 := by first | exact hk200 | exact kq.trans hk203 p_100 (by omega)
                    have hev := p_103
                    have f_190 := mr74_41 hs_177
                    try rw [show gp_wr ((gp_I s_176 74 41) - 1) = (gp_I s_176 74 41) - 1 from gp_wr_id (by omega) (by omega)]
                    intro s_191 e_192
                    have hs_193 : MI s_191 := by rw [e_192]; exact mw74_41 hs_177 _ (by omega)
                    have hf_194 : gF [76, 77, 78, 79, 80, 81, 86, 87, 88, 89, 105] [15, 38, 40, 41, 42, 43, 45] s s_191 := by rw [e_192]; exact gF.wI hf_182 (Or.inr ⟨rfl, rfl⟩)
                    have q_195 : gp_I s_191 74 38 = gp_I s_176 74 38 := by rw [e_192] <;> rfl
                    have q_196 : gp_I s_191 74 39 = gp_I s_176 74 39 := by rw [e_192] <;> rfl
                    have q_197 : gp_I s_191 74 40 = gp_I s_176 74 40 := by rw [e_192] <;> rfl
                    have q_198 : gp_I s_191 74 41 = (gp_I s_176 74 41) - 1 := by rw [e_192]; exact (gz_rw _ _ _ _ _).1 rfl
                    have q_199 : gp_I s_191 74 42 = gp_I s_176 74 42 := by rw [e_192] <;> rfl
                    have q_200 : gp_I s_191 74 43 = gp_I s_176 74 43 := by rw [e_192] <;> rfl
                    have q_201 : gp_I s_191 74 44 = gp_I s_176 74 44 := by rw [e_192] <;> rfl
                    have q_202 : gp_I s_191 81 19 = gp_I s_176 81 19 := by rw [e_192] <;> rfl
                    have pd_203 : TPn τ n s_191 := by rw [e_192]; exact TP_fr pd_183 (gF.wI (gF.refl [] [41] _) (Or.inr ⟨rfl, rfl⟩)) rfl rfl
                    have pd_204 : PI s_191 := by rw [e_192]; exact PI_fr hPI9 (gF.wI (gF.refl [] [41] _) (Or.inr ⟨rfl, rfl⟩)) rfl rfl rfl rfl rfl
                    have pd_205 : kq s s_191 := by rw [e_192]; exact kq_fr hk207 (gF.wI (gF.refl [] [41] _) (Or.inr ⟨rfl, rfl⟩)) rfl
                    exact k s_191 hs_193 hf_194 (by first | omega | assumption) (by first | omega | assumption) (by first | omega | assumption) (by first | omega | assumption) (by first | omega | assumption) (pd_203) (pd_205) (pd_204) (by first | omega | assumption) (fun h9 => by first | exact EV.un (by omega) (by omega) (by omega) rfl rfl rfl (EV.cg (hev (by omega)) (by omega) (by omega) (by omega) (by omega) (by omega)) | exact EV.us (by omega) (by omega) (by omega) rfl rfl rfl (EV.cg (hev (by omega)) (by omega) (by omega) (by omega) (by omega) (by omega))) (by first | omega | assumption)
        · refine s_3134_103 _ _ ?_
          refine ⟨fun h_206 => ?_, fun h_206 => ?_⟩
          · refine vm_byteAt τ n hs_20 (pd_26) (fun x_207 p_208 p_209 => ⟨_, rfl, ?_⟩)
            refine ⟨fun h_210 => ?_, fun h_210 => ?_⟩
            · refine s_3134_117 _ ?_
              have f_211 := mr74_41 hs_20
              refine ⟨fun h_212 => ?_, fun h_212 => ?_⟩
              · refine s_3134_126 _ ?_
                refine vm_fails hs_20 (fun s_213 hs_214 hf_215 p_216 => ⟨rfl, ?_⟩)
                have hf_217 : gF [76, 77, 78, 79, 80, 81, 86, 87, 88, 89, 105] [15, 38, 40, 41, 42, 43, 45] s s_213 := gF.trans hf_25 hf_215 rfl rfl
                have pd_218 : TPn τ n s_213 := TP_fr pd_26 hf_215 rfl rfl
                have pd_219 : kq s s_213 := kq_fr pd_28 hf_215 rfl
                have q_220 := (hf_215.2 74 38 rfl (fun _ => rfl)).1
                have q_221 := (hf_215.2 74 39 rfl (fun _ => rfl)).1
                have q_222 := (hf_215.2 74 41 rfl (fun _ => rfl)).1
                have q_223 := (hf_215.2 74 42 rfl (fun _ => rfl)).1
                have q_224 := (hf_215.2 74 43 rfl (fun _ => rfl)).1
                have q_225 := (hf_215.2 74 44 rfl (fun _ => rfl)).1
                have q_226 := (hf_215.2 81 19 rfl (fun h => absurd h (by decide))).1
                have hPI9 : PI s_213 := by first | exact (by assumption) | exact PI_q q1 pd_219 (fun o => okI (by have := o.1; omega) (by have := o.2.1; omega) (by have := o.2.2; omega)) (fun o9 => by have := o9.1; have := o9.2.1; have := o9.2.2; omega) (fun o9 e9 => by have := o9.1; have := o9.2.1; have := o9.2.2; first | (exfalso; omega) | (skip))
                exact k s_213 hs_214 hf_217 (by first | omega | assumption) (by first | omega | assumption) (by first | omega | assumption) (by first | omega | assumption) (by first | omega | assumption) (pd_218) (pd_219) (hPI9) (by first | omega | assumption) (fun h9 => EV.ub (by omega) (by omega) (by omega) (by omega) (by omega) (by omega)) (by first | omega | assumption)
              · have f_227 := mr74_38 hs_20
                try rw [show gp_wr ((gp_I s_19 74 38) + 1) = (gp_I s_19 74 38) + 1 from gp_wr_id (by omega) (by omega)]
                intro s_228 e_229
                have hs_230 : MI s_228 := by rw [e_229]; exact mw74_38 hs_20 _ (by omega)
                have hf_231 : gF [76, 77, 78, 79, 80, 81, 86, 87, 88, 89, 105] [15, 38, 40, 41, 42, 43, 45] s s_228 := by rw [e_229]; exact gF.wI hf_25 (Or.inr ⟨rfl, rfl⟩)
                have q_232 : gp_I s_228 74 38 = (gp_I s_19 74 38) + 1 := by rw [e_229]; exact (gz_rw _ _ _ _ _).1 rfl
                have q_233 : gp_I s_228 74 39 = gp_I s_19 74 39 := by rw [e_229] <;> rfl
                have q_234 : gp_I s_228 74 40 = gp_I s_19 74 40 := by rw [e_229] <;> rfl
                have q_235 : gp_I s_228 74 41 = gp_I s_19 74 41 := by rw [e_229] <;> rfl
                have q_236 : gp_I s_228 74 42 = gp_I s_19 74 42 := by rw [e_229] <;> rfl
                have q_237 : gp_I s_228 74 43 = gp_I s_19 74 43 := by rw [e_229] <;> rfl
                have q_238 : gp_I s_228 74 44 = gp_I s_19 74 44 := by rw [e_229] <;> rfl
                have q_239 : gp_I s_228 81 19 = gp_I s_19 81 19 := by rw [e_229] <;> rfl
                have pd_240 : TPn τ n s_228 := by rw [e_229]; exact TP_fr pd_26 (gF.wI (gF.refl [] [38] _) (Or.inr ⟨rfl, rfl⟩)) rfl rfl
                have pd_241 : PI s_228 := by rw [e_229]; exact PI_fr pd_27 (gF.wI (gF.refl [] [38] _) (Or.inr ⟨rfl, rfl⟩)) rfl rfl rfl rfl rfl
                have pd_242 : kq s s_228 := by rw [e_229]; exact kq_fr pd_28 (gF.wI (gF.refl [] [38] _) (Or.inr ⟨rfl, rfl⟩)) rfl
                have f_243 := mr74_41 hs_230
                try rw [show gp_wr ((gp_I s_228 74 41) + 1) = (gp_I s_228 74 41) + 1 from gp_wr_id (by omega) (by omega)]
                intro s_244 e_245
                have hs_246 : MI s_244 := by rw [e_245]; exact mw74_41 hs_230 _ (by omega)
                have hf_247 : gF [76, 77, 78, 79, 80, 81, 86, 87, 88, 89, 105] [15, 38, 40, 41, 42, 43, 45] s s_244 := by rw [e_245]; exact gF.wI hf_231 (Or.inr ⟨rfl, rfl⟩)
                have q_248 : gp_I s_244 74 38 = gp_I s_228 74 38 := by rw [e_245] <;> rfl
                have q_249 : gp_I s_244 74 39 = gp_I s_228 74 39 := by rw [e_245] <;> rfl
                have q_250 : gp_I s_244 74 40 = gp_I s_228 74 40 := by rw [e_245] <;> rfl
                have q_251 : gp_I s_244 74 41 = (gp_I s_228 74 41) + 1 := by rw [e_245]; exact (gz_rw _ _ _ _ _).1 rfl
                have q_252 : gp_I s_244 74 42 = gp_I s_228 74 42 := by rw [e_245] <;> rfl
                have q_253 : gp_I s_244 74 43 = gp_I s_228 74 43 := by rw [e_245] <;> rfl
                have q_254 : gp_I s_244 74 44 = gp_I s_228 74 44 := by rw [e_245] <;> rfl
                have q_255 : gp_I s_244 81 19 = gp_I s_228 81 19 := by rw [e_245] <;> rfl
                have pd_256 : TPn τ n s_244 := by rw [e_245]; exact TP_fr pd_240 (gF.wI (gF.refl [] [41] _) (Or.inr ⟨rfl, rfl⟩)) rfl rfl
                have pd_257 : PI s_244 := by rw [e_245]; exact PI_fr pd_241 (gF.wI (gF.refl [] [41] _) (Or.inr ⟨rfl, rfl⟩)) rfl rfl rfl rfl rfl
                have pd_258 : kq s s_244 := by rw [e_245]; exact kq_fr pd_242 (gF.wI (gF.refl [] [41] _) (Or.inr ⟨rfl, rfl⟩)) rfl
                refine ⟨fun h_259 => ?_, fun h_259 => ?_⟩
                · have hk203 := pd_258
                  refine ihB _ _ _ _ τ n (by omega) hs_246 (pd_256) (pd_257) (by first | omega | assumption) (by first | omega | assumption) (by first | omega | assumption) (fun s_260 hs_261 hf_262 p_263 p_264 p_265 p_266 p_267 p_268 p_269 p_270 p_271 p_272 p_273 => ⟨rfl, ?_⟩)
                  have hf_274 : gF [76, 77, 78, 79, 80, 81, 86, 87, 88, 89, 105] [15, 38, 40, 41, 42, 43, 45] s s_260 := gF.trans hf_247 hf_262 rfl rfl
                  have q_275 := (hf_262.2 74 39 rfl (fun _ => rfl)).1
                  have q_276 := (hf_262.2 74 44 rfl (fun _ => rfl)).1
                  refine s_3134_207 _ ?_
                  have hk207 : kq s s_260 := by first | exact (by assumption) | exact kq.trans hk203 p_269 (by omega)
                  have hev := p_272
                  have f_277 := mr74_41 hs_261
                  try rw [show gp_wr ((gp_I s_260 74 41) - 1) = (gp_I s_260 74 41) - 1 from gp_wr_id (by omega) (by omega)]
                  intro s_278 e_279
                  have hs_280 : MI s_278 := by rw [e_279]; exact mw74_41 hs_261 _ (by omega)
                  have hf_281 : gF [76, 77, 78, 79, 80, 81, 86, 87, 88, 89, 105] [15, 38, 40, 41, 42, 43, 45] s s_278 := by rw [e_279]; exact gF.wI hf_274 (Or.inr ⟨rfl, rfl⟩)
                  have q_282 : gp_I s_278 74 38 = gp_I s_260 74 38 := by rw [e_279] <;> rfl
                  have q_283 : gp_I s_278 74 39 = gp_I s_260 74 39 := by rw [e_279] <;> rfl
                  have q_284 : gp_I s_278 74 40 = gp_I s_260 74 40 := by rw [e_279] <;> rfl
                  have q_285 : gp_I s_278 74 41 = (gp_I s_260 74 41) - 1 := by rw [e_279]; exact (gz_rw _ _ _ _ _).1 rfl
                  have q_286 : gp_I s_278 74 42 = gp_I s_260 74 42 := by rw [e_279] <;> rfl
                  have q_287 : gp_I s_278 74 43 = gp_I s_260 74 43 := by rw [e_279] <;> rfl
                  have q_288 : gp_I s_278 74 44 = gp_I s_260 74 44 := by rw [e_279] <;> rfl
                  have q_289 : gp_I s_278 81 19 = gp_I s_260 81 19 := by rw [e_279] <;> rfl
                  have pd_290 : TPn τ n s_278 := by rw [e_279]; exact TP_fr p_268 (gF.wI (gF.refl [] [41] _) (Or.inr ⟨rfl, rfl⟩)) rfl rfl
                  have pd_291 : PI s_278 := by rw [e_279]; exact PI_fr p_270 (gF.wI (gF.refl [] [41] _) (Or.inr ⟨rfl, rfl⟩)) rfl rfl rfl rfl rfl
                  have pd_292 : kq s s_278 := by rw [e_279]; exact kq_fr hk207 (gF.wI (gF.refl [] [41] _) (Or.inr ⟨rfl, rfl⟩)) rfl
                  exact k s_278 hs_280 hf_281 (by first | omega | assumption) (by first | omega | assumption) (by first | omega | assumption) (by first | omega | assumption) (by first | omega | assumption) (pd_290) (pd_292) (pd_291) (by first | omega | assumption) (fun h9 => by first | exact EV.un (by omega) (by omega) (by omega) rfl rfl rfl (EV.cg (hev (by omega)) (by omega) (by omega) (by omega) (by omega) (by omega)) | exact EV.us (by omega) (by omega) (by omega) rfl rfl rfl (EV.cg (hev (by omega)) (by omega) (by omega) (by omega) (by omega) (by omega))) (by first | omega | assumption)
                · exfalso; omega
            · refine s_3134_126 _ ?_
              refine vm_fails hs_20 (fun s_293 hs_294 hf_295 p_296 => ⟨rfl, ?_⟩)
              have hf_297 : gF [76, 77, 78, 79, 80, 81, 86, 87, 88, 89, 105] [15, 38, 40, 41, 42, 43, 45] s s_293 := gF.trans hf_25 hf_295 rfl rfl
              have pd_298 : TPn τ n s_293 := TP_fr pd_26 hf_295 rfl rfl
              have pd_299 : kq s s_293 := kq_fr pd_28 hf_295 rfl
              have q_300 := (hf_295.2 74 38 rfl (fun _ => rfl)).1
              have q_301 := (hf_295.2 74 39 rfl (fun _ => rfl)).1
              have q_302 := (hf_295.2 74 41 rfl (fun _ => rfl)).1
              have q_303 := (hf_295.2 74 42 rfl (fun _ => rfl)).1
              have q_304 := (hf_295.2 74 43 rfl (fun _ => rfl)).1
              have q_305 := (hf_295.2 74 44 rfl (fun _ => rfl)).1
              have q_306 := (hf_295.2 81 19 rfl (fun h => absurd h (by decide))).1
              have hPI9 : PI s_293 := by first | exact (by assumption) | exact PI_q q1 pd_299 (fun o => okI (by have := o.1; omega) (by have := o.2.1; omega) (by have := o.2.2; omega)) (fun o9 => by have := o9.1; have := o9.2.1; have := o9.2.2; omega) (fun o9 e9 => by have := o9.1; have := o9.2.1; have := o9.2.2; first | (exfalso; omega) | (skip))
              exact k s_293 hs_294 hf_297 (by first | omega | assumption) (by first | omega | assumption) (by first | omega | assumption) (by first | omega | assumption) (by first | omega | assumption) (pd_298) (pd_299) (hPI9) (by first | omega | assumption) (fun h9 => EV.ub (by omega) (by omega) (by omega) (by omega) (by omega) (by omega)) (by first | omega | assumption)
          · exfalso; omega
      · have hA42 : gp_I s_19 74 38 = gp_I s 74 38 + 1 := by omega
        refine vm_isDigit τ n hs_20 (pd_26) (fun x_307 p_308 p_309 => ⟨_, rfl, ?_⟩)
        refine ⟨fun h_310 => ?_, fun h_310 => ?_⟩
        · have hb_311 := hasF p_309 h_310
          refine vm_fails hs_20 (fun s_312 hs_313 hf_314 p_315 => ⟨rfl, ?_⟩)
          have hf_316 : gF [76, 77, 78, 79, 80, 81, 86, 87, 88, 89, 105] [15, 38, 40, 41, 42, 43, 45] s s_312 := gF.trans hf_25 hf_314 rfl rfl
          have pd_317 : TPn τ n s_312 := TP_fr pd_26 hf_314 rfl rfl
          have pd_318 : kq s s_312 := kq_fr pd_28 hf_314 rfl
          have q_319 := (hf_314.2 74 38 rfl (fun _ => rfl)).1
          have q_320 := (hf_314.2 74 39 rfl (fun _ => rfl)).1
          have q_321 := (hf_314.2 74 41 rfl (fun _ => rfl)).1
          have q_322 := (hf_314.2 74 42 rfl (fun _ => rfl)).1
          have q_323 := (hf_314.2 74 43 rfl (fun _ => rfl)).1
          have q_324 := (hf_314.2 74 44 rfl (fun _ => rfl)).1
          have q_325 := (hf_314.2 81 19 rfl (fun h => absurd h (by decide))).1
          have hPI9 : PI s_312 := by first | exact (by assumption) | exact PI_q q1 pd_318 (fun o => okI (by have := o.1; omega) (by have := o.2.1; omega) (by have := o.2.2; omega)) (fun o9 => by have := o9.1; have := o9.2.1; have := o9.2.2; omega) (fun o9 e9 => by have := o9.1; have := o9.2.1; have := o9.2.2; first | (exfalso; omega) | (skip))
          exact k s_312 hs_313 hf_316 (by first | omega | assumption) (by first | omega | assumption) (by first | omega | assumption) (by first | omega | assumption) (by first | omega | assumption) (pd_317) (pd_318) (hPI9) (by first | omega | assumption) (fun h9 => EV.uwn (by omega) (by omega) (by omega) hA42 (by omega) (by omega) (by omega)) (by first | omega | assumption)
        · have hb_326 := hasT p_309 h_310
          have hb8 := @bA_m1 τ n (gp_I s_19 74 38)
          have he8 := (pd_26).2
          refine vm_byteAt τ n hs_20 (pd_26) (fun x_327 p_328 p_329 => ⟨_, rfl, ?_⟩)
          try rw [show gp_wr (x_327 - 48) = x_327 - 48 from gp_wr_id (by omega) (by omega)]
          have f_330 := mr74_38 hs_20
          try rw [show gp_wr ((gp_I s_19 74 38) + 1) = (gp_I s_19 74 38) + 1 from gp_wr_id (by omega) (by omega)]
          intro s_331 e_332
          have hs_333 : MI s_331 := by rw [e_332]; exact mw74_38 hs_20 _ (by omega)
          have hf_334 : gF [76, 77, 78, 79, 80, 81, 86, 87, 88, 89, 105] [15, 38, 40, 41, 42, 43, 45] s s_331 := by rw [e_332]; exact gF.wI hf_25 (Or.inr ⟨rfl, rfl⟩)
          have q_335 : gp_I s_331 74 38 = (gp_I s_19 74 38) + 1 := by rw [e_332]; exact (gz_rw _ _ _ _ _).1 rfl
          have q_336 : gp_I s_331 74 39 = gp_I s_19 74 39 := by rw [e_332] <;> rfl
          have q_337 : gp_I s_331 74 40 = gp_I s_19 74 40 := by rw [e_332] <;> rfl
          have q_338 : gp_I s_331 74 41 = gp_I s_19 74 41 := by rw [e_332] <;> rfl
          have q_339 : gp_I s_331 74 42 = gp_I s_19 74 42 := by rw [e_332] <;> rfl
          have q_340 : gp_I s_331 74 43 = gp_I s_19 74 43 := by rw [e_332] <;> rfl
          have q_341 : gp_I s_331 74 44 = gp_I s_19 74 44 := by rw [e_332] <;> rfl
          have q_342 : gp_I s_331 81 19 = gp_I s_19 81 19 := by rw [e_332] <;> rfl
          have pd_343 : TPn τ n s_331 := by rw [e_332]; exact TP_fr pd_26 (gF.wI (gF.refl [] [38] _) (Or.inr ⟨rfl, rfl⟩)) rfl rfl
          have pd_344 : PI s_331 := by rw [e_332]; exact PI_fr pd_27 (gF.wI (gF.refl [] [38] _) (Or.inr ⟨rfl, rfl⟩)) rfl rfl rfl rfl rfl
          have pd_345 : kq s s_331 := by rw [e_332]; exact kq_fr pd_28 (gF.wI (gF.refl [] [38] _) (Or.inr ⟨rfl, rfl⟩)) rfl
          have f_346 := mr74_44 hs_333
          refine ⟨fun h_347 => ?_, fun h_347 => ?_⟩
          · refine s_3134_88 _ ?_
            have hkq9 : kq s s_331 := by first | exact pd_345 | exact kq_p hkq84 p_24 (by omega)
            have hPI9 : PI s_331 := by first | exact pd_344 | exact PI_q q1 hkq9 (fun o => okI (by have := o.1; omega) (by have := o.2.1; omega) (by have := o.2.2; omega)) (fun o9 => by have := o9.1; have := o9.2.1; have := o9.2.2; omega) (fun o9 e9 => by have := o9.1; have := o9.2.1; have := o9.2.2; first | (exfalso; omega) | (have h8 := {pn2}; rw [show gp_I s 74 42 = gp_I s_19 74 42 by omega, h8]; omega))
            exact k s_331 hs_333 hf_334 (by first | omega | assumption) (by first | omega | assumption) (by first | omega | assumption) (by first | omega | assumption) (by first | omega | assumption) (pd_343) (hkq9) (hPI9) (by first | omega | assumption) (fun h9 => EV.uw (by omega) (by omega) (by omega) hA42 (by omega) (by omega) (by omega)) (by first | omega | assumption)
          · have hk79 := pd_345
            refine vm_waitsOf _ hs_333 (by omega) (fun s_348 hs_349 hf_350 p_351 p_352 => ⟨rfl, ?_⟩)
            have hf_353 : gF [76, 77, 78, 79, 80, 81, 86, 87, 88, 89, 105] [15, 38, 40, 41, 42, 43, 45] s s_348 := gF.trans hf_334 hf_350 rfl rfl
            have pd_354 : TPn τ n s_348 := TP_fr pd_343 hf_350 rfl rfl
            have q_355 := (hf_350.2 74 38 rfl (fun _ => rfl)).1
            have q_356 := (hf_350.2 74 39 rfl (fun _ => rfl)).1
            have q_357 := (hf_350.2 74 40 rfl (fun _ => rfl)).1
            have q_358 := (hf_350.2 74 41 rfl (fun _ => rfl)).1
            have q_359 := (hf_350.2 74 42 rfl (fun _ => rfl)).1
            have q_360 := (hf_350.2 74 43 rfl (fun _ => rfl)).1
            have q_361 := (hf_350.2 74 44 rfl (fun _ => rfl)).1
            have hkq84 : kq s s_348 := kq_K hk79 p_352
            refine vm_piles hs_349 (by first | omega | assumption) (fun s_362 hs_363 hf_364 p_365 p_366 p_367 => ⟨rfl, ?_⟩)
            have hf_368 : gF [76, 77, 78, 79, 80, 81, 86, 87, 88, 89, 105] [15, 38, 40, 41, 42, 43, 45] s s_362 := gF.trans hf_353 hf_364 rfl rfl
            have pd_369 : TPn τ n s_362 := TP_fr pd_354 hf_364 rfl rfl
            have q_370 := (hf_364.2 74 38 rfl (fun _ => rfl)).1
            have q_371 := (hf_364.2 74 39 rfl (fun _ => rfl)).1
            have q_372 := (hf_364.2 74 40 rfl (fun _ => rfl)).1
            have q_373 := (hf_364.2 74 41 rfl (fun _ => rfl)).1
            have q_374 := (hf_364.2 74 43 rfl (fun _ => rfl)).1
            have q_375 := (hf_364.2 74 44 rfl (fun _ => rfl)).1
            refine s_3134_88 _ ?_
            have hkq9 : kq s s_362 := by first | exact (by assumption) | exact kq_p hkq84 p_366 (by omega)
            have hPI9 : PI s_362 := by first | exact (by assumption) | exact PI_q q1 hkq9 (fun o => okI (by have := o.1; omega) (by have := o.2.1; omega) (by have := o.2.2; omega)) (fun o9 => by have := o9.1; have := o9.2.1; have := o9.2.2; omega) (fun o9 e9 => by have := o9.1; have := o9.2.1; have := o9.2.2; first | (exfalso; omega) | (have h8 := p_367; rw [show gp_I s 74 42 = gp_I s_348 74 42 by omega, h8]; omega))
            exact k s_362 hs_363 hf_368 (by first | omega | assumption) (by first | omega | assumption) (by first | omega | assumption) (by first | omega | assumption) (by first | omega | assumption) (pd_369) (hkq9) (hPI9) (by first | omega | assumption) (fun h9 => EV.uw (by omega) (by omega) (by omega) hA42 (by omega) (by omega) (by omega)) (by first | omega | assumption)
    · have hb_376 := hasT p_15 h_16
      refine vm_number τ n hs (q0) (by first | omega | assumption) (fun x_377 s_378 hs_379 hf_380 p_381 p_382 p_383 => ⟨_, rfl, ?_⟩)
      have hf_384 : gF [76, 77, 78, 79, 80, 81, 86, 87, 88, 89, 105] [15, 38, 40, 41, 42, 43, 45] s s_378 := gF.sub hf_380 rfl rfl
      have pd_385 : TPn τ n s_378 := TP_fr q0 hf_380 rfl rfl
      have pd_386 : kq s s_378 := kq_fr hkq0 hf_380 rfl
      have q_387 := (hf_380.2 74 39 rfl (fun _ => rfl)).1
      have q_388 := (hf_380.2 74 41 rfl (fun _ => rfl)).1
      have q_389 := (hf_380.2 74 42 rfl (fun _ => rfl)).1
      have q_390 := (hf_380.2 74 43 rfl (fun _ => rfl)).1
      have q_391 := (hf_380.2 74 44 rfl (fun _ => rfl)).1
      have q_392 := (hf_380.2 81 19 rfl (fun h => absurd h (by decide))).1
      have hA9 : gp_I s_378 74 38 = aN τ n (gp_I s 74 38) := p_382
      have f_393 := mr74_44 hs_379
      refine ⟨fun h_394 => ?_, fun h_394 => ?_⟩
      · refine s_3134_32 _ ?_
        have hkq9 : kq s s_378 := by first | exact pd_386 | exact kq.trans hk27 p_382 (by omega)
        have hPI9 : PI s_378 := by first | exact (by assumption) | exact PI_q q1 hkq9 (fun o => okI (by have := o.1; omega) (by have := o.2.1; omega) (by have := o.2.2; omega)) (fun o9 => by have := o9.1; have := o9.2.1; have := o9.2.2; omega) (fun o9 e9 => by have := o9.1; have := o9.2.1; have := o9.2.2; first | (exfalso; omega) | (have h8 := p_383; rw [show gp_I s 74 42 = gp_I s 74 42 by omega]; exact h8))
        exact k s_378 hs_379 hf_384 (by first | omega | assumption) (by first | omega | assumption) (by first | omega | assumption) (by first | omega | assumption) (by first | omega | assumption) (pd_385) (hkq9) (hPI9) (by first | omega | assumption) (fun h9 => EV.ud (by omega) (by omega) (by omega) (by omega)) (by first | omega | assumption)
      · have hk27 := pd_386
        refine vm_pilesNumber _ hs_379 (by first | omega | assumption) (fun s_395 hs_396 hf_397 p_398 p_399 p_400 => ⟨rfl, ?_⟩)
        have hf_401 : gF [76, 77, 78, 79, 80, 81, 86, 87, 88, 89, 105] [15, 38, 40, 41, 42, 43, 45] s s_395 := gF.trans hf_384 hf_397 rfl rfl
        have pd_402 : TPn τ n s_395 := TP_fr pd_385 hf_397 rfl rfl
        have q_403 := (hf_397.2 74 38 rfl (fun _ => rfl)).1
        have q_404 := (hf_397.2 74 39 rfl (fun _ => rfl)).1
        have q_405 := (hf_397.2 74 40 rfl (fun _ => rfl)).1
        have q_406 := (hf_397.2 74 41 rfl (fun _ => rfl)).1
        have q_407 := (hf_397.2 74 43 rfl (fun _ => rfl)).1
        have q_408 := (hf_397.2 74 44 rfl (fun _ => rfl)).1
        refine s_3134_32 _ ?_
        have hkq9 : kq s s_395 := by first | exact (by assumption) | exact kq.trans hk27 p_399 (by omega)
        have hPI9 : PI s_395 := by first | exact (by assumption) | exact PI_q q1 hkq9 (fun o => okI (by have := o.1; omega) (by have := o.2.1; omega) (by have := o.2.2; omega)) (fun o9 => by have := o9.1; have := o9.2.1; have := o9.2.2; omega) (fun o9 e9 => by have := o9.1; have := o9.2.1; have := o9.2.2; first | (exfalso; omega) | (have h8 := p_400; rw [show gp_I s 74 42 = gp_I s_378 74 42 by omega]; exact h8))
        exact k s_395 hs_396 hf_401 (by first | omega | assumption) (by first | omega | assumption) (by first | omega | assumption) (by first | omega | assumption) (by first | omega | assumption) (pd_402) (hkq9) (hPI9) (by first | omega | assumption) (fun h9 => EV.ud (by omega) (by omega) (by omega) (by omega)) (by first | omega | assumption)
