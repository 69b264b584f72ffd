theorem UN_all : ∀ m, UN m
  | 0 => by
    intro L D K s τ n hD hs q0 q1 q2 q3 q4 k
    have := mr74_41 hs
    omega
  | m + 1 => vm_unit m (UN_all m) (vm_sides m (vm_sideR m (vm_expression m (UN_all m))))
theorem EX_all (m : Nat) : EX m := vm_expression m (UN_all m)
theorem vm_expr9 {L d : Nat} {K : Option gV → gH → Prop} {s : gH} (τ : Nat → Int) (n : Int) (hs : MI s) (q0 : TPn τ n s) (q1 : PI s) (q2 : 2 * gp_I s 74 42 ≤ gp_I s 74 38) (q3 : gp_I s 74 38 ≤ gp_I s 74 39) (k : ∀ (t : gH), MI t → gF [76, 77, 78, 79, 80, 81, 86, 87, 88, 89, 105] [15, 38, 40, 41, 42, 43, 45] s t → (gp_I s 74 38 ≤ gp_I t 74 38 ∧ gp_I t 74 38 ≤ gp_I t 74 39) → (gp_I s 74 42 ≤ gp_I t 74 42 ∧ 2 * gp_I t 74 42 ≤ gp_I t 74 38 + 1) → (gp_I t 74 40 < 0 → gp_I s 74 40 < 0) → (gp_I t 74 43 = 0 → gp_I s 74 43 = 0) → (gp_I t 74 41 = gp_I s 74 41 ∧ gp_I t 74 44 = gp_I s 74 44) → (TPn τ n t) → (kq s t) → (PI t) → (gp_I t 74 44 ≠ 0 → gp_I t 74 40 < 0 → gp_I t 74 43 = 0 → gp_I t 74 42 = gp_I s 74 42 + 1) → (gp_I t 74 43 = 0 → EV τ n 1 (gp_I s 74 41) (gp_I s 74 38) (gp_I s 74 40) (gp_I t 74 38) (gp_I t 74 40)) → (gp_I s 74 44 = 0 → gp_I t 74 43 = gp_I s 74 43) → K none t) : gs_C L (d + 227) 3137 1 [gp_r (some 74)] s K := EX_all 9 _ _ _ _ τ n (by omega) hs q0 q1 q2 q3 (by have := mr74_41 hs; omega) k
set_option maxRecDepth 100000 in
/-- GatheredPointsModel.reads -/
theorem vm_reads  {L d : Nat} {K : Option gV → gH → Prop} {s : gH} (τ : Nat → Int) (n : Int) (p0 : Int) (hs : MI s) (h_p0 : 0 ≤ p0 ∧ p0 ≤ 1) (q0 : TPn τ n s) (k : ∀ (t : gH), MI t → gF [76, 77, 78, 79, 80, 81, 86, 87, 88, 89, 105] [15, 38, 40, 41, 42, 43, 44, 45] s t → (p0 ≠ 0 → gp_I t 74 40 < 0 → gp_I t 74 43 = 0 → 1 ≤ gp_I t 81 21) → (gp_I t 74 43 = 0 → rf τ n (gp_I t 74 40)) → (p0 = 0 → gp_I t 74 43 = 0) → (TPn τ n t) → (∀ k : Nat, 8 ≤ k → k < 19 → gp_I t 81 k = gp_I s 81 k) → (-1 ≤ gp_I t 74 40) → K none t) : gs_C L (d + 228) 3138 2 [gp_r (some 74), gp_i p0] s K := by
  have f_1 := mr74_38 hs
  have f_2 := mr74_39 hs
  have f_3 := mr74_40 hs
  have f_4 := mr74_41 hs
  have f_5 := mr74_42 hs
  have f_6 := mr74_43 hs
  have f_7 := mr74_44 hs
  refine s_3138_e _ ?_
  have hkq0 := kq.refl s
  refine ⟨by omega, ?_⟩
  intro s_8 e_9
  have hs_10 : MI s_8 := by rw [e_9]; exact mw74_44 hs _ (by omega)
  have hf_11 : gF [76, 77, 78, 79, 80, 81, 86, 87, 88, 89, 105] [15, 38, 40, 41, 42, 43, 44, 45] s s_8 := by rw [e_9]; exact gF.wI (gF.refl _ _ _) (Or.inr ⟨rfl, rfl⟩)
  have q_12 : gp_I s_8 74 38 = gp_I s 74 38 := by rw [e_9] <;> rfl
  have q_13 : gp_I s_8 74 39 = gp_I s 74 39 := by rw [e_9] <;> rfl
  have q_14 : gp_I s_8 74 40 = gp_I s 74 40 := by rw [e_9] <;> rfl
  have q_15 : gp_I s_8 74 41 = gp_I s 74 41 := by rw [e_9] <;> rfl
  have q_16 : gp_I s_8 74 42 = gp_I s 74 42 := by rw [e_9] <;> rfl
  have q_17 : gp_I s_8 74 43 = gp_I s 74 43 := by rw [e_9] <;> rfl
  have q_18 : gp_I s_8 74 44 = p0 := by rw [e_9]; exact (gz_rw _ _ _ _ _).1 rfl
  have pd_19 : TPn τ n s_8 := by rw [e_9]; exact TP_fr q0 (gF.wI (gF.refl [] [44] _) (Or.inr ⟨rfl, rfl⟩)) rfl rfl
  have pd_20 : kq s s_8 := by rw [e_9]; exact kq_fr hkq0 (gF.wI (gF.refl [] [44] _) (Or.inr ⟨rfl, rfl⟩)) rfl
  intro s_21 e_22
  have hs_23 : MI s_21 := by rw [e_22]; exact mw74_38 hs_10 _ (by omega)
  have hf_24 : gF [76, 77, 78, 79, 80, 81, 86, 87, 88, 89, 105] [15, 38, 40, 41, 42, 43, 44, 45] s s_21 := by rw [e_22]; exact gF.wI hf_11 (Or.inr ⟨rfl, rfl⟩)
  have q_25 : gp_I s_21 74 38 = 0 := by rw [e_22]; exact (gz_rw _ _ _ _ _).1 rfl
  have q_26 : gp_I s_21 74 39 = gp_I s_8 74 39 := by rw [e_22] <;> rfl
  have q_27 : gp_I s_21 74 40 = gp_I s_8 74 40 := by rw [e_22] <;> rfl
  have q_28 : gp_I s_21 74 41 = gp_I s_8 74 41 := by rw [e_22] <;> rfl
  have q_29 : gp_I s_21 74 42 = gp_I s_8 74 42 := by rw [e_22] <;> rfl
  have q_30 : gp_I s_21 74 43 = gp_I s_8 74 43 := by rw [e_22] <;> rfl
  have q_31 : gp_I s_21 74 44 = gp_I s_8 74 44 := by rw [e_22] <;> rfl
  have pd_32 : TPn τ n s_21 := by rw [e_22]; exact TP_fr pd_19 (gF.wI (gF.refl [] [38] _) (Or.inr ⟨rfl, rfl⟩)) rfl rfl
  have pd_33 : kq s s_21 := by rw [e_22]; exact kq_fr pd_20 (gF.wI (gF.refl [] [38] _) (Or.inr ⟨rfl, rfl⟩)) rfl
  intro s_34 e_35
  have hs_36 : MI s_34 := by rw [e_35]; exact mw74_40 hs_23 _ (by omega)
  have hf_37 : gF [76, 77, 78, 79, 80, 81, 86, 87, 88, 89, 105] [15, 38, 40, 41, 42, 43, 44, 45] s s_34 := by rw [e_35]; exact gF.wI hf_24 (Or.inr ⟨rfl, rfl⟩)
  have q_38 : gp_I s_34 74 38 = gp_I s_21 74 38 := by rw [e_35] <;> rfl
  have q_39 : gp_I s_34 74 39 = gp_I s_21 74 39 := by rw [e_35] <;> rfl
  have q_40 : gp_I s_34 74 40 = (-1) := by rw [e_35]; exact (gz_rw _ _ _ _ _).1 rfl
  have q_41 : gp_I s_34 74 41 = gp_I s_21 74 41 := by rw [e_35] <;> rfl
  have q_42 : gp_I s_34 74 42 = gp_I s_21 74 42 := by rw [e_35] <;> rfl
  have q_43 : gp_I s_34 74 43 = gp_I s_21 74 43 := by rw [e_35] <;> rfl
  have q_44 : gp_I s_34 74 44 = gp_I s_21 74 44 := by rw [e_35] <;> rfl
  have pd_45 : TPn τ n s_34 := by rw [e_35]; exact TP_fr pd_32 (gF.wI (gF.refl [] [40] _) (Or.inr ⟨rfl, rfl⟩)) rfl rfl
  have pd_46 : kq s s_34 := by rw [e_35]; exact kq_fr pd_33 (gF.wI (gF.refl [] [40] _) (Or.inr ⟨rfl, rfl⟩)) rfl
  intro s_47 e_48
  have hs_49 : MI s_47 := by rw [e_48]; exact mw74_41 hs_36 _ (by omega)
  have hf_50 : gF [76, 77, 78, 79, 80, 81, 86, 87, 88, 89, 105] [15, 38, 40, 41, 42, 43, 44, 45] s s_47 := by rw [e_48]; exact gF.wI hf_37 (Or.inr ⟨rfl, rfl⟩)
  have q_51 : gp_I s_47 74 38 = gp_I s_34 74 38 := by rw [e_48] <;> rfl
  have q_52 : gp_I s_47 74 39 = gp_I s_34 74 39 := by rw [e_48] <;> rfl
  have q_53 : gp_I s_47 74 40 = gp_I s_34 74 40 := by rw [e_48] <;> rfl
  have q_54 : gp_I s_47 74 41 = 0 := by rw [e_48]; exact (gz_rw _ _ _ _ _).1 rfl
  have q_55 : gp_I s_47 74 42 = gp_I s_34 74 42 := by rw [e_48] <;> rfl
  have q_56 : gp_I s_47 74 43 = gp_I s_34 74 43 := by rw [e_48] <;> rfl
  have q_57 : gp_I s_47 74 44 = gp_I s_34 74 44 := by rw [e_48] <;> rfl
  have pd_58 : TPn τ n s_47 := by rw [e_48]; exact TP_fr pd_45 (gF.wI (gF.refl [] [41] _) (Or.inr ⟨rfl, rfl⟩)) rfl rfl
  have pd_59 : kq s s_47 := by rw [e_48]; exact kq_fr pd_46 (gF.wI (gF.refl [] [41] _) (Or.inr ⟨rfl, rfl⟩)) rfl
  intro s_60 e_61
  have hs_62 : MI s_60 := by rw [e_61]; exact mw74_42 hs_49 _ (by omega)
  have hf_63 : gF [76, 77, 78, 79, 80, 81, 86, 87, 88, 89, 105] [15, 38, 40, 41, 42, 43, 44, 45] s s_60 := by rw [e_61]; exact gF.wI hf_50 (Or.inr ⟨rfl, rfl⟩)
  have q_64 : gp_I s_60 74 38 = gp_I s_47 74 38 := by rw [e_61] <;> rfl
  have q_65 : gp_I s_60 74 39 = gp_I s_47 74 39 := by rw [e_61] <;> rfl
  have q_66 : gp_I s_60 74 40 = gp_I s_47 74 40 := by rw [e_61] <;> rfl
  have q_67 : gp_I s_60 74 41 = gp_I s_47 74 41 := by rw [e_61] <;> rfl
  have q_68 : gp_I s_60 74 42 = 0 := by rw [e_61]; exact (gz_rw _ _ _ _ _).1 rfl
  have q_69 : gp_I s_60 74 43 = gp_I s_47 74 43 := by rw [e_61] <;> rfl
  have q_70 : gp_I s_60 74 44 = gp_I s_47 74 44 := by rw [e_61] <;> rfl
  have pd_71 : TPn τ n s_60 := by rw [e_61]; exact TP_fr pd_58 (gF.wI (gF.refl [] [42] _) (Or.inr ⟨rfl, rfl⟩)) rfl rfl
  have pd_72 : kq s s_60 := by rw [e_61]; exact kq_fr pd_59 (gF.wI (gF.refl [] [42] _) (Or.inr ⟨rfl, rfl⟩)) rfl
  intro s_73 e_74
  have hs_75 : MI s_73 := by rw [e_74]; exact mw74_43 hs_62 _ (by omega)
  have hf_76 : gF [76, 77, 78, 79, 80, 81, 86, 87, 88, 89, 105] [15, 38, 40, 41, 42, 43, 44, 45] s s_73 := by rw [e_74]; exact gF.wI hf_63 (Or.inr ⟨rfl, rfl⟩)
  have q_77 : gp_I s_73 74 38 = gp_I s_60 74 38 := by rw [e_74] <;> rfl
  have q_78 : gp_I s_73 74 39 = gp_I s_60 74 39 := by rw [e_74] <;> rfl
  have q_79 : gp_I s_73 74 40 = gp_I s_60 74 40 := by rw [e_74] <;> rfl
  have q_80 : gp_I s_73 74 41 = gp_I s_60 74 41 := by rw [e_74] <;> rfl
  have q_81 : gp_I s_73 74 42 = gp_I s_60 74 42 := by rw [e_74] <;> rfl
  have q_82 : gp_I s_73 74 43 = 0 := by rw [e_74]; exact (gz_rw _ _ _ _ _).1 rfl
  have q_83 : gp_I s_73 74 44 = gp_I s_60 74 44 := by rw [e_74] <;> rfl
  have pd_84 : TPn τ n s_73 := by rw [e_74]; exact TP_fr pd_71 (gF.wI (gF.refl [] [43] _) (Or.inr ⟨rfl, rfl⟩)) rfl rfl
  have pd_85 : kq s s_73 := by rw [e_74]; exact kq_fr pd_72 (gF.wI (gF.refl [] [43] _) (Or.inr ⟨rfl, rfl⟩)) rfl
  have hk30 := pd_85
  have hPI30 : PI s_73 := PI_0 (by omega)
  refine vm_expr9 τ n hs_75 (pd_84) (by assumption) (by first | omega | assumption) (by first | omega | assumption) (fun s_86 hs_87 hf_88 p_89 p_90 p_91 p_92 p_93 p_94 p_95 p_96 p_97 p_98 p_99 => ⟨rfl, ?_⟩)
  have hf_100 : gF [76, 77, 78, 79, 80, 81, 86, 87, 88, 89, 105] [15, 38, 40, 41, 42, 43, 44, 45] s s_86 := gF.trans hf_76 hf_88 rfl rfl
  have q_101 := (hf_88.2 74 39 rfl (fun _ => rfl)).1
  have q_102 := (hf_88.2 74 44 rfl (fun _ => rfl)).1
  have hpo := p_96
  have hev := p_98
  have hkr := p_95
  have hke : ∀ k : Nat, 8 ≤ k → k < 19 → gp_I s_86 81 k = gp_I s 81 k := fun k h1 h2 => (hkr k h1 (by omega) (by omega) (by omega)).trans (hk30 k h1 (by omega) (by omega) (by omega))
  have he9 := (p_94).2
  have h99 : gp_I s_73 74 41 = 0 ∧ gp_I s_73 74 38 = 0 ∧ gp_I s_73 74 40 = -1 := by omega
  rw [h99.1, h99.2.1, h99.2.2] at hev
  have hp21 : gp_I s_86 74 44 ≠ 0 → gp_I s_86 74 40 < 0 → gp_I s_86 74 43 = 0 → 1 ≤ gp_I s_86 81 21 := fun a b c => hpo (okI a b c) 21 (by omega) (by omega)
  refine vm_goesOn hs_87 (fun x_103 p_104 p_105 => ⟨_, rfl, ?_⟩)
  refine ⟨fun h_106 => ?_, fun h_106 => ?_⟩
  · refine s_3138_56 _ ?_
    exact k s_86 hs_87 hf_100 (fun a b c => by first | (exfalso; omega) | exact hp21 (by omega) (by omega) (by omega)) (fun a => ⟨_, _, hev (by omega), by omega⟩) (by first | omega | assumption) (p_94) (by first | exact hke | exact fun k h1 h2 => ((hf_88.2 81 k rfl (fun h => absurd h (by decide))).1).trans (hke k h1 h2)) (by have := mr74_40 hs_87; omega)
  · have f_107 := mr74_38 hs_87
    have f_108 := mr74_39 hs_87
    refine ⟨fun h_109 => ?_, fun h_109 => ?_⟩
    · refine vm_fails hs_87 (fun s_110 hs_111 hf_112 p_113 => ⟨rfl, ?_⟩)
      have hf_114 : gF [76, 77, 78, 79, 80, 81, 86, 87, 88, 89, 105] [15, 38, 40, 41, 42, 43, 44, 45] s s_110 := gF.trans hf_100 hf_112 rfl rfl
      have pd_115 : TPn τ n s_110 := TP_fr p_94 hf_112 rfl rfl
      have q_116 := (hf_112.2 74 38 rfl (fun _ => rfl)).1
      have q_117 := (hf_112.2 74 39 rfl (fun _ => rfl)).1
      have q_118 := (hf_112.2 74 41 rfl (fun _ => rfl)).1
      have q_119 := (hf_112.2 74 42 rfl (fun _ => rfl)).1
      have q_120 := (hf_112.2 74 43 rfl (fun _ => rfl)).1
      have q_121 := (hf_112.2 74 44 rfl (fun _ => rfl)).1
      refine s_3138_56 _ ?_
      exact k s_110 hs_111 hf_114 (fun a b c => by first | (exfalso; omega) | exact hp21 (by omega) (by omega) (by omega)) (fun a => ⟨_, _, hev (by omega), by omega⟩) (by first | omega | assumption) (pd_115) (by first | exact hke | exact fun k h1 h2 => ((hf_112.2 81 k rfl (fun h => absurd h (by decide))).1).trans (hke k h1 h2)) (by have := mr74_40 hs_111; omega)
    · refine s_3138_56 _ ?_
      exact k s_86 hs_87 hf_100 (fun a b c => by first | (exfalso; omega) | exact hp21 (by omega) (by omega) (by omega)) (fun a => ⟨_, _, hev (by omega), by omega⟩) (by first | omega | assumption) (p_94) (by first | exact hke | exact fun k h1 h2 => ((hf_88.2 81 k rfl (fun h => absurd h (by decide))).1).trans (hke k h1 h2)) (by have := mr74_40 hs_87; omega)
set_option maxRecDepth 100000 in
/-- GatheredPointsModel.game -/
theorem wp_game  {L d : Nat} {K : Option gV → gH → Prop} {s : gH} (τ : Nat → Int) (n : Int) (p0 : Int) (hs : MI s) (h_p0 : (-2147483648) ≤ p0 ∧ p0 ≤ 2147483647) (q0 : gp_I s 82 = τ) (q1 : gp_I s 74 11 = n) (k : ∀ (r : Int), ∀ (t : gH), MI t → gF [75, 76, 77, 78, 79, 80, 81, 86, 87, 88, 89, 105] [11, 15, 38, 39, 40, 41, 42, 43, 44, 45] s t → (mK8 s t) → (0 ≤ p0 ∧ p0 ≤ 7 → gp_I t 74 11 = 0) → (p0 < 0 ∨ 7 < p0 → gp_I t 74 11 = gp_I s 74 11) → K (some (gp_i r)) t) : gs_C L (d + 229) 3139 2 [gp_r (some 74), gp_i p0] s K := by
  have f_1 := mr74_38 hs
  have f_2 := mr74_39 hs
  have f_3 := mr74_40 hs
  have f_4 := mr74_41 hs
  have f_5 := mr74_42 hs
  have f_6 := mr74_43 hs
  have f_7 := mr74_44 hs
  have f_8 := mr74_11 hs
  have f_9 := mr81 hs p0.toNat
  refine s_3139_e _ ?_
  refine vm_isSlot _ (fun x_10 p_11 p_12 p_13 => ⟨_, rfl, ?_⟩)
  refine ⟨fun h_14 => ?_, fun h_14 => ?_⟩
  · refine vm_finds _ hs (by omega) (fun x_15 s_16 hs_17 hf_18 p_19 p_20 => ⟨_, rfl, ?_⟩)
    have hf_21 : gF [75, 76, 77, 78, 79, 80, 81, 86, 87, 88, 89, 105] [11, 15, 38, 39, 40, 41, 42, 43, 44, 45] s s_16 := gF.sub hf_18 rfl rfl
    have q_22 := (hf_18.2 74 38 rfl (fun _ => rfl)).1
    have q_23 := (hf_18.2 74 39 rfl (fun _ => rfl)).1
    have q_24 := (hf_18.2 74 40 rfl (fun _ => rfl)).1
    have q_25 := (hf_18.2 74 41 rfl (fun _ => rfl)).1
    have q_26 := (hf_18.2 74 42 rfl (fun _ => rfl)).1
    have q_27 := (hf_18.2 74 43 rfl (fun _ => rfl)).1
    have q_28 := (hf_18.2 74 44 rfl (fun _ => rfl)).1
    have q_29 := (hf_18.2 74 11 rfl (fun _ => rfl)).1
    have q_30 := (hf_18.2 81 p0.toNat rfl (fun h => absurd h (by decide))).1
    exact k _ s_16 hs_17 hf_21 (by first | exact fun k h1 h2 => (hf_18.2 81 k rfl (fun h => absurd h (by decide))).1 | exact fun k h1 h2 => (hk0 k h1 h2).trans (by subst_vars; rfl) | exact fun k h1 h2 => ((hf_18.2 81 k rfl (fun h => absurd h (by decide))).1).trans ((hk1 k h1 h2).trans ((hk0 k h1 h2).trans (by subst_vars; rfl))) | exact fun k h1 h2 => (p_13 k (by omega)).trans ((hk1 k h1 h2).trans ((hk0 k h1 h2).trans (by subst_vars; rfl)))) (by first | omega | assumption) (by first | omega | assumption)
  · have f_31 := mr74_11 hs
    intro s_32 e_33
    have hs_34 : MI s_32 := by rw [e_33]; exact mw74_39 hs _ (by omega)
    have hf_35 : gF [75, 76, 77, 78, 79, 80, 81, 86, 87, 88, 89, 105] [11, 15, 38, 39, 40, 41, 42, 43, 44, 45] s s_32 := by rw [e_33]; exact gF.wI (gF.refl _ _ _) (Or.inr ⟨rfl, rfl⟩)
    have q_36 : gp_I s_32 74 38 = gp_I s 74 38 := by rw [e_33] <;> rfl
    have q_37 : gp_I s_32 74 39 = gp_I s 74 11 := by rw [e_33]; exact (gz_rw _ _ _ _ _).1 rfl
    have q_38 : gp_I s_32 74 40 = gp_I s 74 40 := by rw [e_33] <;> rfl
    have q_39 : gp_I s_32 74 41 = gp_I s 74 41 := by rw [e_33] <;> rfl
    have q_40 : gp_I s_32 74 42 = gp_I s 74 42 := by rw [e_33] <;> rfl
    have q_41 : gp_I s_32 74 43 = gp_I s 74 43 := by rw [e_33] <;> rfl
    have q_42 : gp_I s_32 74 44 = gp_I s 74 44 := by rw [e_33] <;> rfl
    have q_43 : gp_I s_32 74 11 = gp_I s 74 11 := by rw [e_33] <;> rfl
    have q_44 : gp_I s_32 81 p0.toNat = gp_I s 81 p0.toNat := by rw [e_33] <;> rfl
    intro s_45 e_46
    have hs_47 : MI s_45 := by rw [e_46]; exact mw74_11 hs_34 _ (by omega)
    have hf_48 : gF [75, 76, 77, 78, 79, 80, 81, 86, 87, 88, 89, 105] [11, 15, 38, 39, 40, 41, 42, 43, 44, 45] s s_45 := by rw [e_46]; exact gF.wI hf_35 (Or.inr ⟨rfl, rfl⟩)
    have q_49 : gp_I s_45 74 38 = gp_I s_32 74 38 := by rw [e_46] <;> rfl
    have q_50 : gp_I s_45 74 39 = gp_I s_32 74 39 := by rw [e_46] <;> rfl
    have q_51 : gp_I s_45 74 40 = gp_I s_32 74 40 := by rw [e_46] <;> rfl
    have q_52 : gp_I s_45 74 41 = gp_I s_32 74 41 := by rw [e_46] <;> rfl
    have q_53 : gp_I s_45 74 42 = gp_I s_32 74 42 := by rw [e_46] <;> rfl
    have q_54 : gp_I s_45 74 43 = gp_I s_32 74 43 := by rw [e_46] <;> rfl
    have q_55 : gp_I s_45 74 44 = gp_I s_32 74 44 := by rw [e_46] <;> rfl
    have q_56 : gp_I s_45 74 11 = 0 := by rw [e_46]; exact (gz_rw _ _ _ _ _).1 rfl
    have q_57 : gp_I s_45 81 p0.toNat = gp_I s_32 81 p0.toNat := by rw [e_46] <;> rfl
    have hTP : TPn τ n s_45 := ⟨by subst_vars; rfl, by omega⟩
    refine vm_reads τ n _ hs_47 (by omega) (hTP) (fun s_58 hs_59 hf_60 p_61 p_62 p_63 p_64 p_65 p_66 => ⟨rfl, ?_⟩)
    have hf_67 : gF [75, 76, 77, 78, 79, 80, 81, 86, 87, 88, 89, 105] [11, 15, 38, 39, 40, 41, 42, 43, 44, 45] s s_58 := gF.trans hf_48 hf_60 rfl rfl
    have q_68 := (hf_60.2 74 39 rfl (fun _ => rfl)).1
    have q_69 := (hf_60.2 74 11 rfl (fun _ => rfl)).1
    have hrf0 := p_62
    have hl0 := p_63
    have hk0 := p_65
    have f_70 := mr74_40 hs_59
    refine ⟨fun h_71 => ?_, fun h_71 => ?_⟩
    · refine vm_reads τ n _ hs_59 (by omega) (p_64) (fun s_72 hs_73 hf_74 p_75 p_76 p_77 p_78 p_79 p_80 => ⟨rfl, ?_⟩)
      have hf_81 : gF [75, 76, 77, 78, 79, 80, 81, 86, 87, 88, 89, 105] [11, 15, 38, 39, 40, 41, 42, 43, 44, 45] s s_72 := gF.trans hf_67 hf_74 rfl rfl
      have q_82 := (hf_74.2 74 39 rfl (fun _ => rfl)).1
      have q_83 := (hf_74.2 74 11 rfl (fun _ => rfl)).1
      have hrf1 := p_76
      have hm1 := p_75
      have hk1 := p_79
      have f_84 := mr74_43 hs_73
      refine ⟨fun h_85 => ?_, fun h_85 => ?_⟩
      · have hsame := rf_det (hrf0 (by omega)) (hrf1 (by omega))
        have hm21 := hm1 (by omega) (by omega) (by omega)
        refine vm_copies _ _ hs_73 (by omega) (by omega) (by first | omega | assumption) (by show (p0 < 8 → 1 ≤ gp_I s_72 81 21); first | omega | assumption) (fun s_86 hs_87 hf_88 p_89 p_90 => ⟨rfl, ?_⟩)
        have hf_91 : gF [75, 76, 77, 78, 79, 80, 81, 86, 87, 88, 89, 105] [11, 15, 38, 39, 40, 41, 42, 43, 44, 45] s s_86 := gF.trans hf_81 hf_88 rfl rfl
        have pd_92 : TPn τ n s_86 := TP_fr p_78 hf_88 rfl rfl
        have q_93 := (hf_88.2 74 38 rfl (fun _ => rfl)).1
        have q_94 := (hf_88.2 74 39 rfl (fun _ => rfl)).1
        have q_95 := (hf_88.2 74 40 rfl (fun _ => rfl)).1
        have q_96 := (hf_88.2 74 41 rfl (fun _ => rfl)).1
        have q_97 := (hf_88.2 74 42 rfl (fun _ => rfl)).1
        have q_98 := (hf_88.2 74 43 rfl (fun _ => rfl)).1
        have q_99 := (hf_88.2 74 44 rfl (fun _ => rfl)).1
        have q_100 := (hf_88.2 74 11 rfl (fun _ => rfl)).1
        have p_101 : gp_I s_86 81 p0.toNat = gp_I s_72 81 21 := p_89
        refine ⟨by omega, ?_⟩
        have f_102 := mr81 hs_87 (Int.toNat p0)
        have f_103 := mr81s hs_87 (Int.toNat p0) (by omega)
        exact k _ s_86 hs_87 hf_91 (by first | exact fun k h1 h2 => (hf_88.2 81 k rfl (fun h => absurd h (by decide))).1 | exact fun k h1 h2 => (hk0 k h1 h2).trans (by subst_vars; rfl) | exact fun k h1 h2 => ((hf_88.2 81 k rfl (fun h => absurd h (by decide))).1).trans ((hk1 k h1 h2).trans ((hk0 k h1 h2).trans (by subst_vars; rfl))) | exact fun k h1 h2 => (p_90 k (by omega)).trans ((hk1 k h1 h2).trans ((hk0 k h1 h2).trans (by subst_vars; rfl)))) (by first | omega | assumption) (by first | omega | assumption)
      · have f_104 := mr74_43 hs_73
        refine vm_finds _ hs_73 (by omega) (fun x_105 s_106 hs_107 hf_108 p_109 p_110 => ⟨_, rfl, ?_⟩)
        have hf_111 : gF [75, 76, 77, 78, 79, 80, 81, 86, 87, 88, 89, 105] [11, 15, 38, 39, 40, 41, 42, 43, 44, 45] s s_106 := gF.trans hf_81 hf_108 rfl rfl
        have pd_112 : TPn τ n s_106 := TP_fr p_78 hf_108 rfl rfl
        have q_113 := (hf_108.2 74 38 rfl (fun _ => rfl)).1
        have q_114 := (hf_108.2 74 39 rfl (fun _ => rfl)).1
        have q_115 := (hf_108.2 74 40 rfl (fun _ => rfl)).1
        have q_116 := (hf_108.2 74 41 rfl (fun _ => rfl)).1
        have q_117 := (hf_108.2 74 42 rfl (fun _ => rfl)).1
        have q_118 := (hf_108.2 74 43 rfl (fun _ => rfl)).1
        have q_119 := (hf_108.2 74 44 rfl (fun _ => rfl)).1
        have q_120 := (hf_108.2 74 11 rfl (fun _ => rfl)).1
        have q_121 := (hf_108.2 81 p0.toNat rfl (fun h => absurd h (by decide))).1
        exact k _ s_106 hs_107 hf_111 (by first | exact fun k h1 h2 => (hf_108.2 81 k rfl (fun h => absurd h (by decide))).1 | exact fun k h1 h2 => (hk0 k h1 h2).trans (by subst_vars; rfl) | exact fun k h1 h2 => ((hf_108.2 81 k rfl (fun h => absurd h (by decide))).1).trans ((hk1 k h1 h2).trans ((hk0 k h1 h2).trans (by subst_vars; rfl))) | exact fun k h1 h2 => (p_76 k (by omega)).trans ((hk1 k h1 h2).trans ((hk0 k h1 h2).trans (by subst_vars; rfl)))) (by first | omega | assumption) (by first | omega | assumption)
    · have f_122 := mr74_40 hs_59
      try rw [show gp_wr ((-10) - (gp_I s_58 74 40)) = (-10) - (gp_I s_58 74 40) from gp_wr_id (by omega) (by omega)]
      exact k _ s_58 hs_59 hf_67 (by first | exact fun k h1 h2 => (hf_60.2 81 k rfl (fun h => absurd h (by decide))).1 | exact fun k h1 h2 => (hk0 k h1 h2).trans (by subst_vars; rfl) | exact fun k h1 h2 => ((hf_60.2 81 k rfl (fun h => absurd h (by decide))).1).trans ((hk1 k h1 h2).trans ((hk0 k h1 h2).trans (by subst_vars; rfl))) | exact fun k h1 h2 => (p_62 k (by omega)).trans ((hk1 k h1 h2).trans ((hk0 k h1 h2).trans (by subst_vars; rfl)))) (by first | omega | assumption) (by first | omega | assumption)
