/-! the heap that the constructors leave: its shapes, cell by cell -/
def cSS (L a : Nat) : Nat × Nat := cond (Nat.beq a 0) (105, L) (cond (Nat.blt a 117) (gp_ss a) (999, 0))
def cQ (L j : Nat) (h : gH) : Prop := ∀ a, gp_sh h a = if a ≤ j then cSS L a else (999, 0)
theorem cQ_w {L j : Nat} {h g : gH} {z u : Nat} {I : Nat → Nat → Int} {J : Nat → Nat → BitVec 64} {R : Nat → Nat → Option Nat} (q : cQ L j h) (e : g = (z, u, gp_sh h, I, J, R)) : cQ L j g := by
  subst e
  exact fun a => q a
theorem cQ_new {L j : Nat} {h g : gH} {z u : Nat} {I : Nat → Nat → Int} {J : Nat → Nat → BitVec 64} {R : Nat → Nat → Option Nat} {v : Nat × Nat} (q : cQ L j h) (e : g = (z, u, gp_u1 (gp_sh h) (j + 1) v, I, J, R)) (hv : cSS L (j + 1) = v) : cQ L (j + 1) g := fun a => by
  subst e
  show cond (Nat.beq a (j + 1)) v (gp_sh h a) = _
  by_cases c : a = j + 1
  · subst c
    rw [Nat.beq_refl, if_pos (Nat.le_refl _)]
    exact hv.symm
  · have z : Nat.beq a (j + 1) = false := by
      cases q : Nat.beq a (j + 1) with
      | false => rfl
      | true => exact absurd (Nat.eq_of_beq_eq_true q) c
    rw [z]
    show gp_sh h a = _
    rw [q a]
    by_cases c2 : a ≤ j
    · rw [if_pos c2, if_pos (by omega)]
    · rw [if_neg c2, if_neg (by omega)]
theorem cQ_mna {L j : Nat} {h0 g : gH} {z u : Nat} {I : Nat → Nat → Int} {J : Nat → Nat → BitVec 64} {R : Nat → Nat → Option Nat} (h : cQ L j h0) (e : g = (z, u, gp_sh (gp_mna h0 4 20), I, J, R)) (hz : h0.1 = j + 1) (v0 : cSS L (j + 1) = (104, 4)) (v1 : ∀ i, i < 4 → cSS L (j + 2 + i) = (100, 20)) : cQ L (j + 5) g := fun a => by
  subst e
  show cond (Nat.beq a h0.1) (104, 4) (cond (Nat.blt h0.1 a && Nat.ble a (h0.1 + 4)) (100, 20) (gp_sh h0 a)) = _
  rw [hz]
  by_cases c : a = j + 1
  · subst c
    rw [Nat.beq_refl, if_pos (by omega)]
    exact v0.symm
  · have z : Nat.beq a (j + 1) = false := by
      cases q : Nat.beq a (j + 1) with
      | false => rfl
      | true => exact absurd (Nat.eq_of_beq_eq_true q) c
    rw [z]
    by_cases c2 : j + 1 < a ∧ a ≤ j + 5
    · have z2 : (Nat.blt (j + 1) a && Nat.ble a (j + 1 + 4)) = true := by
        rw [Bool.and_eq_true]
        exact ⟨Nat.blt_eq.mpr c2.1, Nat.ble_eq.mpr (by omega)⟩
      rw [z2, if_pos c2.2]
      have := v1 (a - (j + 2)) (by omega)
      rw [show j + 2 + (a - (j + 2)) = a by omega] at this
      exact this.symm
    · have z2 : (Nat.blt (j + 1) a && Nat.ble a (j + 1 + 4)) = false := by
        cases q : (Nat.blt (j + 1) a && Nat.ble a (j + 1 + 4)) with
        | false => rfl
        | true =>
          rw [Bool.and_eq_true] at q
          have q1 := Nat.blt_eq.mp q.1
          have q2 := Nat.ble_eq.mp q.2
          exact absurd ⟨q1, by omega⟩ c2
      rw [z2]
      show gp_sh h0 a = _
      rw [h a]
      by_cases c3 : a ≤ j
      · rw [if_pos c3, if_pos (by omega)]
      · rw [if_neg c3, if_neg (by omega)]
theorem cq_0 (L : Nat) (xs : Nat → Int32) : cQ L 0 (cH0 L xs) := fun a => by
  show cond (Nat.beq a 0) (105, L) (999, 0) = _
  cases a with
  | zero => rfl
  | succ a => rw [if_neg (by omega)]; rfl
theorem cq_1 (L : Nat) (xs : Nat → Int32) : cQ L 1 (cH1 L xs) := cQ_new (j := 0) (cq_0 L xs) rfl rfl
theorem cq_2 (L : Nat) (xs : Nat → Int32) : cQ L 2 (cH2 L xs) := cQ_new (j := 1) (cq_1 L xs) rfl rfl
theorem cq_3 (L : Nat) (xs : Nat → Int32) : cQ L 2 (cH3 L xs) := cQ_w (cq_2 L xs) rfl
theorem cq_4 (L : Nat) (xs : Nat → Int32) : cQ L 3 (cH4 L xs) := cQ_new (j := 2) (cq_3 L xs) rfl rfl
theorem cq_5 (L : Nat) (xs : Nat → Int32) : cQ L 3 (cH5 L xs) := cQ_w (cq_4 L xs) rfl
theorem cq_6 (L : Nat) (xs : Nat → Int32) : cQ L 4 (cH6 L xs) := cQ_new (j := 3) (cq_5 L xs) rfl rfl
theorem cq_7 (L : Nat) (xs : Nat → Int32) : cQ L 4 (cH7 L xs) := cQ_w (cq_6 L xs) rfl
theorem cq_8 (L : Nat) (xs : Nat → Int32) : cQ L 5 (cH8 L xs) := cQ_new (j := 4) (cq_7 L xs) rfl rfl
theorem cq_9 (L : Nat) (xs : Nat → Int32) : cQ L 5 (cH9 L xs) := cQ_w (cq_8 L xs) rfl
theorem cq_10 (L : Nat) (xs : Nat → Int32) : cQ L 6 (cH10 L xs) := cQ_new (j := 5) (cq_9 L xs) rfl rfl
theorem cq_11 (L : Nat) (xs : Nat → Int32) : cQ L 7 (cH11 L xs) := cQ_new (j := 6) (cq_10 L xs) rfl rfl
theorem cq_12 (L : Nat) (xs : Nat → Int32) : cQ L 7 (cH12 L xs) := cQ_w (cq_11 L xs) rfl
theorem cq_13 (L : Nat) (xs : Nat → Int32) : cQ L 8 (cH13 L xs) := cQ_new (j := 7) (cq_12 L xs) rfl rfl
theorem cq_14 (L : Nat) (xs : Nat → Int32) : cQ L 8 (cH14 L xs) := cQ_w (cq_13 L xs) rfl
theorem cq_15 (L : Nat) (xs : Nat → Int32) : cQ L 9 (cH15 L xs) := cQ_new (j := 8) (cq_14 L xs) rfl rfl
theorem cq_16 (L : Nat) (xs : Nat → Int32) : cQ L 9 (cH16 L xs) := cQ_w (cq_15 L xs) rfl
theorem cq_17 (L : Nat) (xs : Nat → Int32) : cQ L 10 (cH17 L xs) := cQ_new (j := 9) (cq_16 L xs) rfl rfl
theorem cq_18 (L : Nat) (xs : Nat → Int32) : cQ L 10 (cH18 L xs) := cQ_w (cq_17 L xs) rfl
theorem cq_19 (L : Nat) (xs : Nat → Int32) : cQ L 11 (cH19 L xs) := cQ_new (j := 10) (cq_18 L xs) rfl rfl
theorem cq_20 (L : Nat) (xs : Nat → Int32) : cQ L 11 (cH20 L xs) := cQ_w (cq_19 L xs) rfl
theorem cq_21 (L : Nat) (xs : Nat → Int32) : cQ L 12 (cH21 L xs) := cQ_new (j := 11) (cq_20 L xs) rfl rfl
theorem cq_22 (L : Nat) (xs : Nat → Int32) : cQ L 12 (cH22 L xs) := cQ_w (cq_21 L xs) rfl
theorem cq_23 (L : Nat) (xs : Nat → Int32) : cQ L 12 (cH23 L xs) := cQ_w (cq_22 L xs) rfl
theorem cq_24 (L : Nat) (xs : Nat → Int32) : cQ L 13 (cH24 L xs) := cQ_new (j := 12) (cq_23 L xs) rfl rfl
theorem cq_25 (L : Nat) (xs : Nat → Int32) : cQ L 13 (cH25 L xs) := cQ_w (cq_24 L xs) rfl
theorem cq_26 (L : Nat) (xs : Nat → Int32) : cQ L 14 (cH26 L xs) := cQ_new (j := 13) (cq_25 L xs) rfl rfl
theorem cq_27 (L : Nat) (xs : Nat → Int32) : cQ L 14 (cH27 L xs) := cQ_w (cq_26 L xs) rfl
theorem cq_28 (L : Nat) (xs : Nat → Int32) : cQ L 15 (cH28 L xs) := cQ_new (j := 14) (cq_27 L xs) rfl rfl
theorem cq_29 (L : Nat) (xs : Nat → Int32) : cQ L 15 (cH29 L xs) := cQ_w (cq_28 L xs) rfl
theorem cq_30 (L : Nat) (xs : Nat → Int32) : cQ L 16 (cH30 L xs) := cQ_new (j := 15) (cq_29 L xs) rfl rfl
theorem cq_31 (L : Nat) (xs : Nat → Int32) : cQ L 16 (cH31 L xs) := cQ_w (cq_30 L xs) rfl
theorem cq_32 (L : Nat) (xs : Nat → Int32) : cQ L 17 (cH32 L xs) := cQ_new (j := 16) (cq_31 L xs) rfl rfl
theorem cq_33 (L : Nat) (xs : Nat → Int32) : cQ L 17 (cH33 L xs) := cQ_w (cq_32 L xs) rfl
theorem cq_34 (L : Nat) (xs : Nat → Int32) : cQ L 18 (cH34 L xs) := cQ_new (j := 17) (cq_33 L xs) rfl rfl
theorem cq_35 (L : Nat) (xs : Nat → Int32) : cQ L 18 (cH35 L xs) := cQ_w (cq_34 L xs) rfl
theorem cq_36 (L : Nat) (xs : Nat → Int32) : cQ L 19 (cH36 L xs) := cQ_new (j := 18) (cq_35 L xs) rfl rfl
theorem cq_37 (L : Nat) (xs : Nat → Int32) : cQ L 19 (cH37 L xs) := cQ_w (cq_36 L xs) rfl
theorem cq_38 (L : Nat) (xs : Nat → Int32) : cQ L 19 (cH38 L xs) := cQ_w (cq_37 L xs) rfl
theorem cq_39 (L : Nat) (xs : Nat → Int32) : cQ L 20 (cH39 L xs) := cQ_new (j := 19) (cq_38 L xs) rfl rfl
theorem cq_40 (L : Nat) (xs : Nat → Int32) : cQ L 21 (cH40 L xs) := cQ_new (j := 20) (cq_39 L xs) rfl rfl
theorem cq_41 (L : Nat) (xs : Nat → Int32) : cQ L 21 (cH41 L xs) := cQ_w (cq_40 L xs) rfl
theorem cq_42 (L : Nat) (xs : Nat → Int32) : cQ L 22 (cH42 L xs) := cQ_new (j := 21) (cq_41 L xs) rfl rfl
theorem cq_43 (L : Nat) (xs : Nat → Int32) : cQ L 22 (cH43 L xs) := cQ_w (cq_42 L xs) rfl
theorem cq_44 (L : Nat) (xs : Nat → Int32) : cQ L 23 (cH44 L xs) := cQ_new (j := 22) (cq_43 L xs) rfl rfl
theorem cq_45 (L : Nat) (xs : Nat → Int32) : cQ L 23 (cH45 L xs) := cQ_w (cq_44 L xs) rfl
theorem cq_46 (L : Nat) (xs : Nat → Int32) : cQ L 24 (cH46 L xs) := cQ_new (j := 23) (cq_45 L xs) rfl rfl
theorem cq_47 (L : Nat) (xs : Nat → Int32) : cQ L 24 (cH47 L xs) := cQ_w (cq_46 L xs) rfl
theorem cq_48 (L : Nat) (xs : Nat → Int32) : cQ L 25 (cH48 L xs) := cQ_new (j := 24) (cq_47 L xs) rfl rfl
theorem cq_49 (L : Nat) (xs : Nat → Int32) : cQ L 25 (cH49 L xs) := cQ_w (cq_48 L xs) rfl
theorem cq_50 (L : Nat) (xs : Nat → Int32) : cQ L 26 (cH50 L xs) := cQ_new (j := 25) (cq_49 L xs) rfl rfl
theorem cq_51 (L : Nat) (xs : Nat → Int32) : cQ L 26 (cH51 L xs) := cQ_w (cq_50 L xs) rfl
theorem cq_52 (L : Nat) (xs : Nat → Int32) : cQ L 27 (cH52 L xs) := cQ_new (j := 26) (cq_51 L xs) rfl rfl
theorem cq_53 (L : Nat) (xs : Nat → Int32) : cQ L 27 (cH53 L xs) := cQ_w (cq_52 L xs) rfl
theorem cq_54 (L : Nat) (xs : Nat → Int32) : cQ L 28 (cH54 L xs) := cQ_new (j := 27) (cq_53 L xs) rfl rfl
theorem cq_55 (L : Nat) (xs : Nat → Int32) : cQ L 28 (cH55 L xs) := cQ_w (cq_54 L xs) rfl
theorem cq_56 (L : Nat) (xs : Nat → Int32) : cQ L 29 (cH56 L xs) := cQ_new (j := 28) (cq_55 L xs) rfl rfl
theorem cq_57 (L : Nat) (xs : Nat → Int32) : cQ L 29 (cH57 L xs) := cQ_w (cq_56 L xs) rfl
theorem cq_58 (L : Nat) (xs : Nat → Int32) : cQ L 30 (cH58 L xs) := cQ_new (j := 29) (cq_57 L xs) rfl rfl
theorem cq_59 (L : Nat) (xs : Nat → Int32) : cQ L 30 (cH59 L xs) := cQ_w (cq_58 L xs) rfl
theorem cq_60 (L : Nat) (xs : Nat → Int32) : cQ L 30 (cH60 L xs) := cQ_w (cq_59 L xs) rfl
theorem cq_61 (L : Nat) (xs : Nat → Int32) : cQ L 30 (cH61 L xs) := cQ_w (cq_60 L xs) rfl
theorem cq_62 (L : Nat) (xs : Nat → Int32) : cQ L 30 (cH62 L xs) := cQ_w (cq_61 L xs) rfl
theorem cq_63 (L : Nat) (xs : Nat → Int32) : cQ L 31 (cH63 L xs) := cQ_new (j := 30) (cq_62 L xs) rfl rfl
theorem cq_64 (L : Nat) (xs : Nat → Int32) : cQ L 32 (cH64 L xs) := cQ_new (j := 31) (cq_63 L xs) rfl rfl
theorem cq_65 (L : Nat) (xs : Nat → Int32) : cQ L 32 (cH65 L xs) := cQ_w (cq_64 L xs) rfl
theorem cq_66 (L : Nat) (xs : Nat → Int32) : cQ L 33 (cH66 L xs) := cQ_new (j := 32) (cq_65 L xs) rfl rfl
theorem cq_67 (L : Nat) (xs : Nat → Int32) : cQ L 33 (cH67 L xs) := cQ_w (cq_66 L xs) rfl
theorem cq_68 (L : Nat) (xs : Nat → Int32) : cQ L 34 (cH68 L xs) := cQ_new (j := 33) (cq_67 L xs) rfl rfl
theorem cq_69 (L : Nat) (xs : Nat → Int32) : cQ L 34 (cH69 L xs) := cQ_w (cq_68 L xs) rfl
theorem cq_70 (L : Nat) (xs : Nat → Int32) : cQ L 35 (cH70 L xs) := cQ_new (j := 34) (cq_69 L xs) rfl rfl
theorem cq_71 (L : Nat) (xs : Nat → Int32) : cQ L 35 (cH71 L xs) := cQ_w (cq_70 L xs) rfl
theorem cq_72 (L : Nat) (xs : Nat → Int32) : cQ L 36 (cH72 L xs) := cQ_new (j := 35) (cq_71 L xs) rfl rfl
theorem cq_73 (L : Nat) (xs : Nat → Int32) : cQ L 36 (cH73 L xs) := cQ_w (cq_72 L xs) rfl
theorem cq_74 (L : Nat) (xs : Nat → Int32) : cQ L 37 (cH74 L xs) := cQ_new (j := 36) (cq_73 L xs) rfl rfl
theorem cq_75 (L : Nat) (xs : Nat → Int32) : cQ L 37 (cH75 L xs) := cQ_w (cq_74 L xs) rfl
theorem cq_76 (L : Nat) (xs : Nat → Int32) : cQ L 37 (cH76 L xs) := cQ_w (cq_75 L xs) rfl
theorem cq_77 (L : Nat) (xs : Nat → Int32) : cQ L 38 (cH77 L xs) := cQ_new (j := 37) (cq_76 L xs) rfl rfl
theorem cq_78 (L : Nat) (xs : Nat → Int32) : cQ L 39 (cH78 L xs) := cQ_new (j := 38) (cq_77 L xs) rfl rfl
theorem cq_79 (L : Nat) (xs : Nat → Int32) : cQ L 39 (cH79 L xs) := cQ_w (cq_78 L xs) rfl
theorem cq_80 (L : Nat) (xs : Nat → Int32) : cQ L 40 (cH80 L xs) := cQ_new (j := 39) (cq_79 L xs) rfl rfl
theorem cq_81 (L : Nat) (xs : Nat → Int32) : cQ L 40 (cH81 L xs) := cQ_w (cq_80 L xs) rfl
theorem cq_82 (L : Nat) (xs : Nat → Int32) : cQ L 40 (cH82 L xs) := cQ_w (cq_81 L xs) rfl
theorem cq_83 (L : Nat) (xs : Nat → Int32) : cQ L 41 (cH83 L xs) := cQ_new (j := 40) (cq_82 L xs) rfl rfl
theorem cq_84 (L : Nat) (xs : Nat → Int32) : cQ L 42 (cH84 L xs) := cQ_new (j := 41) (cq_83 L xs) rfl rfl
theorem cq_85 (L : Nat) (xs : Nat → Int32) : cQ L 43 (cH85 L xs) := cQ_new (j := 42) (cq_84 L xs) rfl rfl
theorem cq_86 (L : Nat) (xs : Nat → Int32) : cQ L 43 (cH86 L xs) := cQ_w (cq_85 L xs) rfl
theorem cq_87 (L : Nat) (xs : Nat → Int32) : cQ L 44 (cH87 L xs) := cQ_new (j := 43) (cq_86 L xs) rfl rfl
theorem cq_88 (L : Nat) (xs : Nat → Int32) : cQ L 44 (cH88 L xs) := cQ_w (cq_87 L xs) rfl
theorem cq_89 (L : Nat) (xs : Nat → Int32) : cQ L 44 (cH89 L xs) := cQ_w (cq_88 L xs) rfl
theorem cq_90 (L : Nat) (xs : Nat → Int32) : cQ L 45 (cH90 L xs) := cQ_new (j := 44) (cq_89 L xs) rfl rfl
theorem cq_91 (L : Nat) (xs : Nat → Int32) : cQ L 45 (cH91 L xs) := cQ_w (cq_90 L xs) rfl
theorem cq_92 (L : Nat) (xs : Nat → Int32) : cQ L 45 (cH92 L xs) := cQ_w (cq_91 L xs) rfl
theorem cq_93 (L : Nat) (xs : Nat → Int32) : cQ L 45 (cH93 L xs) := cQ_w (cq_92 L xs) rfl
theorem cq_94 (L : Nat) (xs : Nat → Int32) : cQ L 45 (cH94 L xs) := cQ_w (cq_93 L xs) rfl
theorem cq_95 (L : Nat) (xs : Nat → Int32) : cQ L 46 (cH95 L xs) := cQ_new (j := 45) (cq_94 L xs) rfl rfl
theorem cq_96 (L : Nat) (xs : Nat → Int32) : cQ L 47 (cH96 L xs) := cQ_new (j := 46) (cq_95 L xs) rfl rfl
theorem cq_97 (L : Nat) (xs : Nat → Int32) : cQ L 47 (cH97 L xs) := cQ_w (cq_96 L xs) rfl
theorem cq_98 (L : Nat) (xs : Nat → Int32) : cQ L 47 (cH98 L xs) := cQ_w (cq_97 L xs) rfl
theorem cq_99 (L : Nat) (xs : Nat → Int32) : cQ L 47 (cH99 L xs) := cQ_w (cq_98 L xs) rfl
theorem cq_100 (L : Nat) (xs : Nat → Int32) : cQ L 47 (cH100 L xs) := cQ_w (cq_99 L xs) rfl
theorem cq_101 (L : Nat) (xs : Nat → Int32) : cQ L 48 (cH101 L xs) := cQ_new (j := 47) (cq_100 L xs) rfl rfl
theorem cq_102 (L : Nat) (xs : Nat → Int32) : cQ L 49 (cH102 L xs) := cQ_new (j := 48) (cq_101 L xs) rfl rfl
theorem cq_103 (L : Nat) (xs : Nat → Int32) : cQ L 49 (cH103 L xs) := cQ_w (cq_102 L xs) rfl
theorem cq_104 (L : Nat) (xs : Nat → Int32) : cQ L 50 (cH104 L xs) := cQ_new (j := 49) (cq_103 L xs) rfl rfl
theorem cq_105 (L : Nat) (xs : Nat → Int32) : cQ L 50 (cH105 L xs) := cQ_w (cq_104 L xs) rfl
theorem cq_106 (L : Nat) (xs : Nat → Int32) : cQ L 50 (cH106 L xs) := cQ_w (cq_105 L xs) rfl
theorem cq_107 (L : Nat) (xs : Nat → Int32) : cQ L 50 (cH107 L xs) := cQ_w (cq_106 L xs) rfl
theorem cq_108 (L : Nat) (xs : Nat → Int32) : cQ L 51 (cH108 L xs) := cQ_new (j := 50) (cq_107 L xs) rfl rfl
theorem cq_109 (L : Nat) (xs : Nat → Int32) : cQ L 52 (cH109 L xs) := cQ_new (j := 51) (cq_108 L xs) rfl rfl
theorem cq_110 (L : Nat) (xs : Nat → Int32) : cQ L 52 (cH110 L xs) := cQ_w (cq_109 L xs) rfl
theorem cq_111 (L : Nat) (xs : Nat → Int32) : cQ L 53 (cH111 L xs) := cQ_new (j := 52) (cq_110 L xs) rfl rfl
theorem cq_112 (L : Nat) (xs : Nat → Int32) : cQ L 53 (cH112 L xs) := cQ_w (cq_111 L xs) rfl
theorem cq_113 (L : Nat) (xs : Nat → Int32) : cQ L 54 (cH113 L xs) := cQ_new (j := 53) (cq_112 L xs) rfl rfl
theorem cq_114 (L : Nat) (xs : Nat → Int32) : cQ L 54 (cH114 L xs) := cQ_w (cq_113 L xs) rfl
theorem cq_115 (L : Nat) (xs : Nat → Int32) : cQ L 55 (cH115 L xs) := cQ_new (j := 54) (cq_114 L xs) rfl rfl
theorem cq_116 (L : Nat) (xs : Nat → Int32) : cQ L 55 (cH116 L xs) := cQ_w (cq_115 L xs) rfl
theorem cq_117 (L : Nat) (xs : Nat → Int32) : cQ L 56 (cH117 L xs) := cQ_new (j := 55) (cq_116 L xs) rfl rfl
theorem cq_118 (L : Nat) (xs : Nat → Int32) : cQ L 56 (cH118 L xs) := cQ_w (cq_117 L xs) rfl
theorem cq_119 (L : Nat) (xs : Nat → Int32) : cQ L 56 (cH119 L xs) := cQ_w (cq_118 L xs) rfl
theorem cq_120 (L : Nat) (xs : Nat → Int32) : cQ L 56 (cH120 L xs) := cQ_w (cq_119 L xs) rfl
theorem cq_121 (L : Nat) (xs : Nat → Int32) : cQ L 56 (cH121 L xs) := cQ_w (cq_120 L xs) rfl
theorem cq_122 (L : Nat) (xs : Nat → Int32) : cQ L 56 (cH122 L xs) := cQ_w (cq_121 L xs) rfl
theorem cq_123 (L : Nat) (xs : Nat → Int32) : cQ L 56 (cH123 L xs) := cQ_w (cq_122 L xs) rfl
theorem cq_124 (L : Nat) (xs : Nat → Int32) : cQ L 57 (cH124 L xs) := cQ_new (j := 56) (cq_123 L xs) rfl rfl
theorem cq_125 (L : Nat) (xs : Nat → Int32) : cQ L 58 (cH125 L xs) := cQ_new (j := 57) (cq_124 L xs) rfl rfl
theorem cq_126 (L : Nat) (xs : Nat → Int32) : cQ L 58 (cH126 L xs) := cQ_w (cq_125 L xs) rfl
theorem cq_127 (L : Nat) (xs : Nat → Int32) : cQ L 59 (cH127 L xs) := cQ_new (j := 58) (cq_126 L xs) rfl rfl
theorem cq_128 (L : Nat) (xs : Nat → Int32) : cQ L 59 (cH128 L xs) := cQ_w (cq_127 L xs) rfl
theorem cq_129 (L : Nat) (xs : Nat → Int32) : cQ L 60 (cH129 L xs) := cQ_new (j := 59) (cq_128 L xs) rfl rfl
theorem cq_130 (L : Nat) (xs : Nat → Int32) : cQ L 61 (cH130 L xs) := cQ_new (j := 60) (cq_129 L xs) rfl rfl
theorem cq_131 (L : Nat) (xs : Nat → Int32) : cQ L 61 (cH131 L xs) := cQ_w (cq_130 L xs) rfl
theorem cq_132 (L : Nat) (xs : Nat → Int32) : cQ L 62 (cH132 L xs) := cQ_new (j := 61) (cq_131 L xs) rfl rfl
theorem cq_133 (L : Nat) (xs : Nat → Int32) : cQ L 62 (cH133 L xs) := cQ_w (cq_132 L xs) rfl
theorem cq_134 (L : Nat) (xs : Nat → Int32) : cQ L 63 (cH134 L xs) := cQ_new (j := 62) (cq_133 L xs) rfl rfl
theorem cq_135 (L : Nat) (xs : Nat → Int32) : cQ L 63 (cH135 L xs) := cQ_w (cq_134 L xs) rfl
theorem cq_136 (L : Nat) (xs : Nat → Int32) : cQ L 64 (cH136 L xs) := cQ_new (j := 63) (cq_135 L xs) rfl rfl
theorem cq_137 (L : Nat) (xs : Nat → Int32) : cQ L 64 (cH137 L xs) := cQ_w (cq_136 L xs) rfl
theorem cq_138 (L : Nat) (xs : Nat → Int32) : cQ L 65 (cH138 L xs) := cQ_new (j := 64) (cq_137 L xs) rfl rfl
theorem cq_139 (L : Nat) (xs : Nat → Int32) : cQ L 65 (cH139 L xs) := cQ_w (cq_138 L xs) rfl
theorem cq_140 (L : Nat) (xs : Nat → Int32) : cQ L 65 (cH140 L xs) := cQ_w (cq_139 L xs) rfl
theorem cq_141 (L : Nat) (xs : Nat → Int32) : cQ L 65 (cH141 L xs) := cQ_w (cq_140 L xs) rfl
theorem cq_142 (L : Nat) (xs : Nat → Int32) : cQ L 65 (cH142 L xs) := cQ_w (cq_141 L xs) rfl
theorem cq_143 (L : Nat) (xs : Nat → Int32) : cQ L 65 (cH143 L xs) := cQ_w (cq_142 L xs) rfl
theorem cq_144 (L : Nat) (xs : Nat → Int32) : cQ L 65 (cH144 L xs) := cQ_w (cq_143 L xs) rfl
theorem cq_145 (L : Nat) (xs : Nat → Int32) : cQ L 65 (cH145 L xs) := cQ_w (cq_144 L xs) rfl
theorem cq_146 (L : Nat) (xs : Nat → Int32) : cQ L 66 (cH146 L xs) := cQ_new (j := 65) (cq_145 L xs) rfl rfl
theorem cq_147 (L : Nat) (xs : Nat → Int32) : cQ L 71 (cH147 L xs) := cQ_mna (j := 66) (cq_146 L xs) rfl rfl rfl (fun i hi => by
  have hc : i = 0 ∨ i = 1 ∨ i = 2 ∨ i = 3 := by omega
  rcases hc with h | h | h | h <;> subst h <;> rfl)
theorem cq_148 (L : Nat) (xs : Nat → Int32) : cQ L 71 (cH148 L xs) := cQ_w (cq_147 L xs) rfl
theorem cq_149 (L : Nat) (xs : Nat → Int32) : cQ L 72 (cH149 L xs) := cQ_new (j := 71) (cq_148 L xs) rfl rfl
theorem cq_150 (L : Nat) (xs : Nat → Int32) : cQ L 72 (cH150 L xs) := cQ_w (cq_149 L xs) rfl
theorem cq_151 (L : Nat) (xs : Nat → Int32) : cQ L 73 (cH151 L xs) := cQ_new (j := 72) (cq_150 L xs) rfl rfl
theorem cq_152 (L : Nat) (xs : Nat → Int32) : cQ L 73 (cH152 L xs) := cQ_w (cq_151 L xs) rfl
theorem cq_153 (L : Nat) (xs : Nat → Int32) : cQ L 73 (cH153 L xs) := cQ_w (cq_152 L xs) rfl
theorem cq_154 (L : Nat) (xs : Nat → Int32) : cQ L 73 (cH154 L xs) := cQ_w (cq_153 L xs) rfl
theorem cq_155 (L : Nat) (xs : Nat → Int32) : cQ L 73 (cH155 L xs) := cQ_w (cq_154 L xs) rfl
theorem cq_156 (L : Nat) (xs : Nat → Int32) : cQ L 73 (cH156 L xs) := cQ_w (cq_155 L xs) rfl
theorem cq_157 (L : Nat) (xs : Nat → Int32) : cQ L 73 (cH157 L xs) := cQ_w (cq_156 L xs) rfl
theorem cq_158 (L : Nat) (xs : Nat → Int32) : cQ L 73 (cH158 L xs) := cQ_w (cq_157 L xs) rfl
theorem cq_159 (L : Nat) (xs : Nat → Int32) : cQ L 73 (cH159 L xs) := cQ_w (cq_158 L xs) rfl
theorem cq_160 (L : Nat) (xs : Nat → Int32) : cQ L 73 (cH160 L xs) := cQ_w (cq_159 L xs) rfl
theorem cq_161 (L : Nat) (xs : Nat → Int32) : cQ L 73 (cH161 L xs) := cQ_w (cq_160 L xs) rfl
theorem cq_162 (L : Nat) (xs : Nat → Int32) : cQ L 73 (cH162 L xs) := cQ_w (cq_161 L xs) rfl
theorem cq_163 (L : Nat) (xs : Nat → Int32) : cQ L 73 (cH163 L xs) := cQ_w (cq_162 L xs) rfl
theorem cq_164 (L : Nat) (xs : Nat → Int32) : cQ L 73 (cH164 L xs) := cQ_w (cq_163 L xs) rfl
theorem cq_165 (L : Nat) (xs : Nat → Int32) : cQ L 73 (cH165 L xs) := cQ_w (cq_164 L xs) rfl
theorem cq_166 (L : Nat) (xs : Nat → Int32) : cQ L 73 (cH166 L xs) := cQ_w (cq_165 L xs) rfl
theorem cq_167 (L : Nat) (xs : Nat → Int32) : cQ L 73 (cH167 L xs) := cQ_w (cq_166 L xs) rfl
theorem cq_168 (L : Nat) (xs : Nat → Int32) : cQ L 73 (cH168 L xs) := cQ_w (cq_167 L xs) rfl
theorem cq_169 (L : Nat) (xs : Nat → Int32) : cQ L 73 (cH169 L xs) := cQ_w (cq_168 L xs) rfl
theorem cq_170 (L : Nat) (xs : Nat → Int32) : cQ L 74 (cH170 L xs) := cQ_new (j := 73) (cq_169 L xs) rfl rfl
theorem cq_171 (L : Nat) (xs : Nat → Int32) : cQ L 75 (cH171 L xs) := cQ_new (j := 74) (cq_170 L xs) rfl rfl
theorem cq_172 (L : Nat) (xs : Nat → Int32) : cQ L 75 (cH172 L xs) := cQ_w (cq_171 L xs) rfl
theorem cq_173 (L : Nat) (xs : Nat → Int32) : cQ L 76 (cH173 L xs) := cQ_new (j := 75) (cq_172 L xs) rfl rfl
theorem cq_174 (L : Nat) (xs : Nat → Int32) : cQ L 76 (cH174 L xs) := cQ_w (cq_173 L xs) rfl
theorem cq_175 (L : Nat) (xs : Nat → Int32) : cQ L 77 (cH175 L xs) := cQ_new (j := 76) (cq_174 L xs) rfl rfl
theorem cq_176 (L : Nat) (xs : Nat → Int32) : cQ L 77 (cH176 L xs) := cQ_w (cq_175 L xs) rfl
theorem cq_177 (L : Nat) (xs : Nat → Int32) : cQ L 78 (cH177 L xs) := cQ_new (j := 77) (cq_176 L xs) rfl rfl
theorem cq_178 (L : Nat) (xs : Nat → Int32) : cQ L 78 (cH178 L xs) := cQ_w (cq_177 L xs) rfl
theorem cq_179 (L : Nat) (xs : Nat → Int32) : cQ L 79 (cH179 L xs) := cQ_new (j := 78) (cq_178 L xs) rfl rfl
theorem cq_180 (L : Nat) (xs : Nat → Int32) : cQ L 79 (cH180 L xs) := cQ_w (cq_179 L xs) rfl
theorem cq_181 (L : Nat) (xs : Nat → Int32) : cQ L 80 (cH181 L xs) := cQ_new (j := 79) (cq_180 L xs) rfl rfl
theorem cq_182 (L : Nat) (xs : Nat → Int32) : cQ L 80 (cH182 L xs) := cQ_w (cq_181 L xs) rfl
theorem cq_183 (L : Nat) (xs : Nat → Int32) : cQ L 81 (cH183 L xs) := cQ_new (j := 80) (cq_182 L xs) rfl rfl
theorem cq_184 (L : Nat) (xs : Nat → Int32) : cQ L 81 (cH184 L xs) := cQ_w (cq_183 L xs) rfl
theorem cq_185 (L : Nat) (xs : Nat → Int32) : cQ L 81 (cH185 L xs) := cQ_w (cq_184 L xs) rfl
theorem cq_186 (L : Nat) (xs : Nat → Int32) : cQ L 82 (cH186 L xs) := cQ_new (j := 81) (cq_185 L xs) rfl rfl
theorem cq_187 (L : Nat) (xs : Nat → Int32) : cQ L 82 (cH187 L xs) := cQ_w (cq_186 L xs) rfl
theorem cq_188 (L : Nat) (xs : Nat → Int32) : cQ L 83 (cH188 L xs) := cQ_new (j := 82) (cq_187 L xs) rfl rfl
theorem cq_189 (L : Nat) (xs : Nat → Int32) : cQ L 83 (cH189 L xs) := cQ_w (cq_188 L xs) rfl
theorem cq_190 (L : Nat) (xs : Nat → Int32) : cQ L 84 (cH190 L xs) := cQ_new (j := 83) (cq_189 L xs) rfl rfl
theorem cq_191 (L : Nat) (xs : Nat → Int32) : cQ L 84 (cH191 L xs) := cQ_w (cq_190 L xs) rfl
theorem cq_192 (L : Nat) (xs : Nat → Int32) : cQ L 85 (cH192 L xs) := cQ_new (j := 84) (cq_191 L xs) rfl rfl
theorem cq_193 (L : Nat) (xs : Nat → Int32) : cQ L 85 (cH193 L xs) := cQ_w (cq_192 L xs) rfl
theorem cq_194 (L : Nat) (xs : Nat → Int32) : cQ L 86 (cH194 L xs) := cQ_new (j := 85) (cq_193 L xs) rfl rfl
theorem cq_195 (L : Nat) (xs : Nat → Int32) : cQ L 86 (cH195 L xs) := cQ_w (cq_194 L xs) rfl
theorem cq_196 (L : Nat) (xs : Nat → Int32) : cQ L 87 (cH196 L xs) := cQ_new (j := 86) (cq_195 L xs) rfl rfl
theorem cq_197 (L : Nat) (xs : Nat → Int32) : cQ L 87 (cH197 L xs) := cQ_w (cq_196 L xs) rfl
theorem cq_198 (L : Nat) (xs : Nat → Int32) : cQ L 88 (cH198 L xs) := cQ_new (j := 87) (cq_197 L xs) rfl rfl
theorem cq_199 (L : Nat) (xs : Nat → Int32) : cQ L 88 (cH199 L xs) := cQ_w (cq_198 L xs) rfl
theorem cq_200 (L : Nat) (xs : Nat → Int32) : cQ L 89 (cH200 L xs) := cQ_new (j := 88) (cq_199 L xs) rfl rfl
theorem cq_201 (L : Nat) (xs : Nat → Int32) : cQ L 89 (cH201 L xs) := cQ_w (cq_200 L xs) rfl
theorem cq_202 (L : Nat) (xs : Nat → Int32) : cQ L 90 (cH202 L xs) := cQ_new (j := 89) (cq_201 L xs) rfl rfl
theorem cq_203 (L : Nat) (xs : Nat → Int32) : cQ L 90 (cH203 L xs) := cQ_w (cq_202 L xs) rfl
theorem cq_204 (L : Nat) (xs : Nat → Int32) : cQ L 91 (cH204 L xs) := cQ_new (j := 90) (cq_203 L xs) rfl rfl
theorem cq_205 (L : Nat) (xs : Nat → Int32) : cQ L 91 (cH205 L xs) := cQ_w (cq_204 L xs) rfl
theorem cq_206 (L : Nat) (xs : Nat → Int32) : cQ L 92 (cH206 L xs) := cQ_new (j := 91) (cq_205 L xs) rfl rfl
theorem cq_207 (L : Nat) (xs : Nat → Int32) : cQ L 92 (cH207 L xs) := cQ_w (cq_206 L xs) rfl
theorem cq_208 (L : Nat) (xs : Nat → Int32) : cQ L 93 (cH208 L xs) := cQ_new (j := 92) (cq_207 L xs) rfl rfl
theorem cq_209 (L : Nat) (xs : Nat → Int32) : cQ L 93 (cH209 L xs) := cQ_w (cq_208 L xs) rfl
theorem cq_210 (L : Nat) (xs : Nat → Int32) : cQ L 94 (cH210 L xs) := cQ_new (j := 93) (cq_209 L xs) rfl rfl
theorem cq_211 (L : Nat) (xs : Nat → Int32) : cQ L 94 (cH211 L xs) := cQ_w (cq_210 L xs) rfl
theorem cq_212 (L : Nat) (xs : Nat → Int32) : cQ L 95 (cH212 L xs) := cQ_new (j := 94) (cq_211 L xs) rfl rfl
theorem cq_213 (L : Nat) (xs : Nat → Int32) : cQ L 95 (cH213 L xs) := cQ_w (cq_212 L xs) rfl
theorem cq_214 (L : Nat) (xs : Nat → Int32) : cQ L 96 (cH214 L xs) := cQ_new (j := 95) (cq_213 L xs) rfl rfl
theorem cq_215 (L : Nat) (xs : Nat → Int32) : cQ L 96 (cH215 L xs) := cQ_w (cq_214 L xs) rfl
theorem cq_216 (L : Nat) (xs : Nat → Int32) : cQ L 97 (cH216 L xs) := cQ_new (j := 96) (cq_215 L xs) rfl rfl
theorem cq_217 (L : Nat) (xs : Nat → Int32) : cQ L 97 (cH217 L xs) := cQ_w (cq_216 L xs) rfl
theorem cq_218 (L : Nat) (xs : Nat → Int32) : cQ L 98 (cH218 L xs) := cQ_new (j := 97) (cq_217 L xs) rfl rfl
theorem cq_219 (L : Nat) (xs : Nat → Int32) : cQ L 98 (cH219 L xs) := cQ_w (cq_218 L xs) rfl
theorem cq_220 (L : Nat) (xs : Nat → Int32) : cQ L 99 (cH220 L xs) := cQ_new (j := 98) (cq_219 L xs) rfl rfl
theorem cq_221 (L : Nat) (xs : Nat → Int32) : cQ L 99 (cH221 L xs) := cQ_w (cq_220 L xs) rfl
theorem cq_222 (L : Nat) (xs : Nat → Int32) : cQ L 100 (cH222 L xs) := cQ_new (j := 99) (cq_221 L xs) rfl rfl
theorem cq_223 (L : Nat) (xs : Nat → Int32) : cQ L 100 (cH223 L xs) := cQ_w (cq_222 L xs) rfl
theorem cq_224 (L : Nat) (xs : Nat → Int32) : cQ L 101 (cH224 L xs) := cQ_new (j := 100) (cq_223 L xs) rfl rfl
theorem cq_225 (L : Nat) (xs : Nat → Int32) : cQ L 101 (cH225 L xs) := cQ_w (cq_224 L xs) rfl
theorem cq_226 (L : Nat) (xs : Nat → Int32) : cQ L 102 (cH226 L xs) := cQ_new (j := 101) (cq_225 L xs) rfl rfl
theorem cq_227 (L : Nat) (xs : Nat → Int32) : cQ L 102 (cH227 L xs) := cQ_w (cq_226 L xs) rfl
theorem cq_228 (L : Nat) (xs : Nat → Int32) : cQ L 103 (cH228 L xs) := cQ_new (j := 102) (cq_227 L xs) rfl rfl
theorem cq_229 (L : Nat) (xs : Nat → Int32) : cQ L 103 (cH229 L xs) := cQ_w (cq_228 L xs) rfl
theorem cq_230 (L : Nat) (xs : Nat → Int32) : cQ L 104 (cH230 L xs) := cQ_new (j := 103) (cq_229 L xs) rfl rfl
theorem cq_231 (L : Nat) (xs : Nat → Int32) : cQ L 104 (cH231 L xs) := cQ_w (cq_230 L xs) rfl
theorem cq_232 (L : Nat) (xs : Nat → Int32) : cQ L 105 (cH232 L xs) := cQ_new (j := 104) (cq_231 L xs) rfl rfl
theorem cq_233 (L : Nat) (xs : Nat → Int32) : cQ L 105 (cH233 L xs) := cQ_w (cq_232 L xs) rfl
theorem cq_234 (L : Nat) (xs : Nat → Int32) : cQ L 106 (cH234 L xs) := cQ_new (j := 105) (cq_233 L xs) rfl rfl
theorem cq_235 (L : Nat) (xs : Nat → Int32) : cQ L 106 (cH235 L xs) := cQ_w (cq_234 L xs) rfl
theorem cq_236 (L : Nat) (xs : Nat → Int32) : cQ L 107 (cH236 L xs) := cQ_new (j := 106) (cq_235 L xs) rfl rfl
theorem cq_237 (L : Nat) (xs : Nat → Int32) : cQ L 107 (cH237 L xs) := cQ_w (cq_236 L xs) rfl
theorem cq_238 (L : Nat) (xs : Nat → Int32) : cQ L 108 (cH238 L xs) := cQ_new (j := 107) (cq_237 L xs) rfl rfl
theorem cq_239 (L : Nat) (xs : Nat → Int32) : cQ L 108 (cH239 L xs) := cQ_w (cq_238 L xs) rfl
theorem cq_240 (L : Nat) (xs : Nat → Int32) : cQ L 109 (cH240 L xs) := cQ_new (j := 108) (cq_239 L xs) rfl rfl
theorem cq_241 (L : Nat) (xs : Nat → Int32) : cQ L 109 (cH241 L xs) := cQ_w (cq_240 L xs) rfl
theorem cq_242 (L : Nat) (xs : Nat → Int32) : cQ L 110 (cH242 L xs) := cQ_new (j := 109) (cq_241 L xs) rfl rfl
theorem cq_243 (L : Nat) (xs : Nat → Int32) : cQ L 110 (cH243 L xs) := cQ_w (cq_242 L xs) rfl
theorem cq_244 (L : Nat) (xs : Nat → Int32) : cQ L 111 (cH244 L xs) := cQ_new (j := 110) (cq_243 L xs) rfl rfl
theorem cq_245 (L : Nat) (xs : Nat → Int32) : cQ L 111 (cH245 L xs) := cQ_w (cq_244 L xs) rfl
theorem cq_246 (L : Nat) (xs : Nat → Int32) : cQ L 112 (cH246 L xs) := cQ_new (j := 111) (cq_245 L xs) rfl rfl
theorem cq_247 (L : Nat) (xs : Nat → Int32) : cQ L 112 (cH247 L xs) := cQ_w (cq_246 L xs) rfl
theorem cq_248 (L : Nat) (xs : Nat → Int32) : cQ L 113 (cH248 L xs) := cQ_new (j := 112) (cq_247 L xs) rfl rfl
theorem cq_249 (L : Nat) (xs : Nat → Int32) : cQ L 113 (cH249 L xs) := cQ_w (cq_248 L xs) rfl
theorem cq_250 (L : Nat) (xs : Nat → Int32) : cQ L 114 (cH250 L xs) := cQ_new (j := 113) (cq_249 L xs) rfl rfl
theorem cq_251 (L : Nat) (xs : Nat → Int32) : cQ L 114 (cH251 L xs) := cQ_w (cq_250 L xs) rfl
theorem cq_252 (L : Nat) (xs : Nat → Int32) : cQ L 115 (cH252 L xs) := cQ_new (j := 114) (cq_251 L xs) rfl rfl
theorem cq_253 (L : Nat) (xs : Nat → Int32) : cQ L 115 (cH253 L xs) := cQ_w (cq_252 L xs) rfl
theorem cq_254 (L : Nat) (xs : Nat → Int32) : cQ L 116 (cH254 L xs) := cQ_new (j := 115) (cq_253 L xs) rfl rfl
theorem cq_255 (L : Nat) (xs : Nat → Int32) : cQ L 116 (cH255 L xs) := cQ_w (cq_254 L xs) rfl
theorem cq_256 (L : Nat) (xs : Nat → Int32) : cQ L 116 (cH256 L xs) := cQ_w (cq_255 L xs) rfl
theorem cq_257 (L : Nat) (xs : Nat → Int32) : cQ L 116 (cH257 L xs) := cQ_w (cq_256 L xs) rfl
theorem cq_258 (L : Nat) (xs : Nat → Int32) : cQ L 116 (cH258 L xs) := cQ_w (cq_257 L xs) rfl
theorem cq_259 (L : Nat) (xs : Nat → Int32) : cQ L 116 (cH259 L xs) := cQ_w (cq_258 L xs) rfl
theorem cq_260 (L : Nat) (xs : Nat → Int32) : cQ L 116 (cH260 L xs) := cQ_w (cq_259 L xs) rfl
theorem cq_261 (L : Nat) (xs : Nat → Int32) : cQ L 116 (cH261 L xs) := cQ_w (cq_260 L xs) rfl
theorem cq_262 (L : Nat) (xs : Nat → Int32) : cQ L 116 (cH262 L xs) := cQ_w (cq_261 L xs) rfl
theorem cq_263 (L : Nat) (xs : Nat → Int32) : cQ L 116 (cH263 L xs) := cQ_w (cq_262 L xs) rfl
theorem cq_end (L : Nat) (xs : Nat → Int32) : cQ L 116 (cH263 L xs) := cq_263 L xs
theorem cf_sh (L : Nat) (xs : Nat → Int32) (a : Nat) : gp_sh (gp_mk L (cH263 L xs)) a = gp_sh (cH263 L xs) a := by
  show cond (Nat.beq a 0) (105, L) (cond (Nat.blt a 117) (gp_ss a) (gp_sh (cH263 L xs) a)) = gp_sh (cH263 L xs) a
  rw [cq_end L xs a]
  by_cases c : a ≤ 116
  · rw [if_pos c]
    have z : Nat.blt a 117 = true := Nat.blt_eq.mpr (by omega)
    unfold cSS
    rw [z]
    rfl
  · rw [if_neg c]
    have z : Nat.blt a 117 = false := by
      cases q : Nat.blt a 117 with
      | false => rfl
      | true => exact absurd (Nat.blt_eq.mp q) (by omega)
    have z0 : Nat.beq a 0 = false := by
      cases q : Nat.beq a 0 with
      | false => rfl
      | true => exact absurd (Nat.eq_of_beq_eq_true q) (by omega)
    rw [z, z0]
    rfl
theorem cs_big (L : Nat) (xs : Nat → Int32) (j : Nat) : gp_sh (cH263 L xs) (j + 117) = (999, 0) := by
  rw [cq_end L xs (j + 117), if_neg (by omega)]
set_option maxHeartbeats 1000000 in
set_option maxRecDepth 1000000 in
theorem cf_R1 {L : Nat} {xs : Nat → Int32} {k : Nat} {r : Option Nat} (h : cond (Nat.blt k 10) (cond (Nat.blt k 4) (cond (Nat.blt k 1) (cond (Nat.beq k 0) (some (some 2)) none) (cond (Nat.blt k 3) (cond (Nat.beq k 1) (some (some 3)) none) (cond (Nat.beq k 3) (some (some 4)) none))) (cond (Nat.blt k 8) (cond (Nat.beq k 4) (some (some 5)) none) (cond (Nat.blt k 9) (cond (Nat.beq k 8) (some (some 20)) none) (cond (Nat.beq k 9) (some (some 31)) none)))) (cond (Nat.blt k 13) (cond (Nat.blt k 11) (cond (Nat.beq k 10) (some (some 38)) none) (cond (Nat.blt k 12) (cond (Nat.beq k 11) (some (some 41)) none) (cond (Nat.beq k 12) (some (some 46)) none))) (cond (Nat.blt k 15) (cond (Nat.blt k 14) (cond (Nat.beq k 13) (some (some 48)) none) (cond (Nat.beq k 14) (some (some 51)) none)) (cond (Nat.blt k 16) (cond (Nat.beq k 15) (some (some 57)) none) (cond (Nat.beq k 16) (some (some 66)) none)))) = some r) : gp_R (cH263 L xs) 1 k = r := (gp_tn (P := fun r => gp_R (cH263 L xs) 1 k = r) (gp_tn (P := fun r => gp_R (cH263 L xs) 1 k = r) (gp_tn (P := fun r => gp_R (cH263 L xs) 1 k = r) (fun e => by have z := gp_cond_none e; have ek := Nat.eq_of_beq_eq_true z.1; subst ek; have er := Option.some.inj z.2; subst er; rfl) (gp_tn (P := fun r => gp_R (cH263 L xs) 1 k = r) (fun e => by have z := gp_cond_none e; have ek := Nat.eq_of_beq_eq_true z.1; subst ek; have er := Option.some.inj z.2; subst er; rfl) (fun e => by have z := gp_cond_none e; have ek := Nat.eq_of_beq_eq_true z.1; subst ek; have er := Option.some.inj z.2; subst er; rfl))) (gp_tn (P := fun r => gp_R (cH263 L xs) 1 k = r) (fun e => by have z := gp_cond_none e; have ek := Nat.eq_of_beq_eq_true z.1; subst ek; have er := Option.some.inj z.2; subst er; rfl) (gp_tn (P := fun r => gp_R (cH263 L xs) 1 k = r) (fun e => by have z := gp_cond_none e; have ek := Nat.eq_of_beq_eq_true z.1; subst ek; have er := Option.some.inj z.2; subst er; rfl) (fun e => by have z := gp_cond_none e; have ek := Nat.eq_of_beq_eq_true z.1; subst ek; have er := Option.some.inj z.2; subst er; rfl)))) (gp_tn (P := fun r => gp_R (cH263 L xs) 1 k = r) (gp_tn (P := fun r => gp_R (cH263 L xs) 1 k = r) (fun e => by have z := gp_cond_none e; have ek := Nat.eq_of_beq_eq_true z.1; subst ek; have er := Option.some.inj z.2; subst er; rfl) (gp_tn (P := fun r => gp_R (cH263 L xs) 1 k = r) (fun e => by have z := gp_cond_none e; have ek := Nat.eq_of_beq_eq_true z.1; subst ek; have er := Option.some.inj z.2; subst er; rfl) (fun e => by have z := gp_cond_none e; have ek := Nat.eq_of_beq_eq_true z.1; subst ek; have er := Option.some.inj z.2; subst er; rfl))) (gp_tn (P := fun r => gp_R (cH263 L xs) 1 k = r) (gp_tn (P := fun r => gp_R (cH263 L xs) 1 k = r) (fun e => by have z := gp_cond_none e; have ek := Nat.eq_of_beq_eq_true z.1; subst ek; have er := Option.some.inj z.2; subst er; rfl) (fun e => by have z := gp_cond_none e; have ek := Nat.eq_of_beq_eq_true z.1; subst ek; have er := Option.some.inj z.2; subst er; rfl)) (gp_tn (P := fun r => gp_R (cH263 L xs) 1 k = r) (fun e => by have z := gp_cond_none e; have ek := Nat.eq_of_beq_eq_true z.1; subst ek; have er := Option.some.inj z.2; subst er; rfl) (fun e => by have z := gp_cond_none e; have ek := Nat.eq_of_beq_eq_true z.1; subst ek; have er := Option.some.inj z.2; subst er; rfl))))) h
set_option maxHeartbeats 1000000 in
set_option maxRecDepth 1000000 in
theorem cf_R6 {L : Nat} {xs : Nat → Int32} {k : Nat} {r : Option Nat} (h : cond (Nat.blt k 2) (cond (Nat.blt k 1) (cond (Nat.beq k 0) (some (some 7)) none) (cond (Nat.beq k 1) (some (some 13)) none)) (cond (Nat.blt k 3) (cond (Nat.beq k 2) (some (some 14)) none) (cond (Nat.beq k 3) (some (some 15)) none)) = some r) : gp_R (cH263 L xs) 6 k = r := (gp_tn (P := fun r => gp_R (cH263 L xs) 6 k = r) (gp_tn (P := fun r => gp_R (cH263 L xs) 6 k = r) (fun e => by have z := gp_cond_none e; have ek := Nat.eq_of_beq_eq_true z.1; subst ek; have er := Option.some.inj z.2; subst er; rfl) (fun e => by have z := gp_cond_none e; have ek := Nat.eq_of_beq_eq_true z.1; subst ek; have er := Option.some.inj z.2; subst er; rfl)) (gp_tn (P := fun r => gp_R (cH263 L xs) 6 k = r) (fun e => by have z := gp_cond_none e; have ek := Nat.eq_of_beq_eq_true z.1; subst ek; have er := Option.some.inj z.2; subst er; rfl) (fun e => by have z := gp_cond_none e; have ek := Nat.eq_of_beq_eq_true z.1; subst ek; have er := Option.some.inj z.2; subst er; rfl))) h
set_option maxHeartbeats 1000000 in
set_option maxRecDepth 1000000 in
theorem cf_R7 {L : Nat} {xs : Nat → Int32} {k : Nat} {r : Option Nat} (h : cond (Nat.blt k 5) (cond (Nat.blt k 3) (cond (Nat.blt k 2) (cond (Nat.beq k 1) (some (some 8)) none) (cond (Nat.beq k 2) (some (some 9)) none)) (cond (Nat.blt k 4) (cond (Nat.beq k 3) (some (some 10)) none) (cond (Nat.beq k 4) (some (some 11)) none))) (cond (Nat.blt k 7) (cond (Nat.blt k 6) (cond (Nat.beq k 5) (some (some 12)) none) (cond (Nat.beq k 6) (some (some 16)) none)) (cond (Nat.blt k 8) (cond (Nat.beq k 7) (some (some 17)) none) (cond (Nat.blt k 9) (cond (Nat.beq k 8) (some (some 18)) none) (cond (Nat.beq k 9) (some (some 19)) none)))) = some r) : gp_R (cH263 L xs) 7 k = r := (gp_tn (P := fun r => gp_R (cH263 L xs) 7 k = r) (gp_tn (P := fun r => gp_R (cH263 L xs) 7 k = r) (gp_tn (P := fun r => gp_R (cH263 L xs) 7 k = r) (fun e => by have z := gp_cond_none e; have ek := Nat.eq_of_beq_eq_true z.1; subst ek; have er := Option.some.inj z.2; subst er; rfl) (fun e => by have z := gp_cond_none e; have ek := Nat.eq_of_beq_eq_true z.1; subst ek; have er := Option.some.inj z.2; subst er; rfl)) (gp_tn (P := fun r => gp_R (cH263 L xs) 7 k = r) (fun e => by have z := gp_cond_none e; have ek := Nat.eq_of_beq_eq_true z.1; subst ek; have er := Option.some.inj z.2; subst er; rfl) (fun e => by have z := gp_cond_none e; have ek := Nat.eq_of_beq_eq_true z.1; subst ek; have er := Option.some.inj z.2; subst er; rfl))) (gp_tn (P := fun r => gp_R (cH263 L xs) 7 k = r) (gp_tn (P := fun r => gp_R (cH263 L xs) 7 k = r) (fun e => by have z := gp_cond_none e; have ek := Nat.eq_of_beq_eq_true z.1; subst ek; have er := Option.some.inj z.2; subst er; rfl) (fun e => by have z := gp_cond_none e; have ek := Nat.eq_of_beq_eq_true z.1; subst ek; have er := Option.some.inj z.2; subst er; rfl)) (gp_tn (P := fun r => gp_R (cH263 L xs) 7 k = r) (fun e => by have z := gp_cond_none e; have ek := Nat.eq_of_beq_eq_true z.1; subst ek; have er := Option.some.inj z.2; subst er; rfl) (gp_tn (P := fun r => gp_R (cH263 L xs) 7 k = r) (fun e => by have z := gp_cond_none e; have ek := Nat.eq_of_beq_eq_true z.1; subst ek; have er := Option.some.inj z.2; subst er; rfl) (fun e => by have z := gp_cond_none e; have ek := Nat.eq_of_beq_eq_true z.1; subst ek; have er := Option.some.inj z.2; subst er; rfl))))) h
set_option maxHeartbeats 1000000 in
set_option maxRecDepth 1000000 in
theorem cf_R20 {L : Nat} {xs : Nat → Int32} {k : Nat} {r : Option Nat} (h : cond (Nat.blt k 3) (cond (Nat.blt k 1) (cond (Nat.beq k 0) (some (some 6)) none) (cond (Nat.blt k 2) (cond (Nat.beq k 1) (some (some 21)) none) (cond (Nat.beq k 2) (some (some 22)) none))) (cond (Nat.blt k 4) (cond (Nat.beq k 3) (some (some 23)) none) (cond (Nat.blt k 5) (cond (Nat.beq k 4) (some (some 24)) none) (cond (Nat.beq k 5) (some (some 25)) none))) = some r) : gp_R (cH263 L xs) 20 k = r := (gp_tn (P := fun r => gp_R (cH263 L xs) 20 k = r) (gp_tn (P := fun r => gp_R (cH263 L xs) 20 k = r) (fun e => by have z := gp_cond_none e; have ek := Nat.eq_of_beq_eq_true z.1; subst ek; have er := Option.some.inj z.2; subst er; rfl) (gp_tn (P := fun r => gp_R (cH263 L xs) 20 k = r) (fun e => by have z := gp_cond_none e; have ek := Nat.eq_of_beq_eq_true z.1; subst ek; have er := Option.some.inj z.2; subst er; rfl) (fun e => by have z := gp_cond_none e; have ek := Nat.eq_of_beq_eq_true z.1; subst ek; have er := Option.some.inj z.2; subst er; rfl))) (gp_tn (P := fun r => gp_R (cH263 L xs) 20 k = r) (fun e => by have z := gp_cond_none e; have ek := Nat.eq_of_beq_eq_true z.1; subst ek; have er := Option.some.inj z.2; subst er; rfl) (gp_tn (P := fun r => gp_R (cH263 L xs) 20 k = r) (fun e => by have z := gp_cond_none e; have ek := Nat.eq_of_beq_eq_true z.1; subst ek; have er := Option.some.inj z.2; subst er; rfl) (fun e => by have z := gp_cond_none e; have ek := Nat.eq_of_beq_eq_true z.1; subst ek; have er := Option.some.inj z.2; subst er; rfl)))) h
set_option maxHeartbeats 1000000 in
set_option maxRecDepth 1000000 in
theorem cf_R25 {L : Nat} {xs : Nat → Int32} {k : Nat} {r : Option Nat} (h : cond (Nat.blt k 3) (cond (Nat.blt k 2) (cond (Nat.beq k 1) (some (some 26)) none) (cond (Nat.beq k 2) (some (some 27)) none)) (cond (Nat.blt k 4) (cond (Nat.beq k 3) (some (some 28)) none) (cond (Nat.blt k 5) (cond (Nat.beq k 4) (some (some 29)) none) (cond (Nat.beq k 5) (some (some 30)) none))) = some r) : gp_R (cH263 L xs) 25 k = r := (gp_tn (P := fun r => gp_R (cH263 L xs) 25 k = r) (gp_tn (P := fun r => gp_R (cH263 L xs) 25 k = r) (fun e => by have z := gp_cond_none e; have ek := Nat.eq_of_beq_eq_true z.1; subst ek; have er := Option.some.inj z.2; subst er; rfl) (fun e => by have z := gp_cond_none e; have ek := Nat.eq_of_beq_eq_true z.1; subst ek; have er := Option.some.inj z.2; subst er; rfl)) (gp_tn (P := fun r => gp_R (cH263 L xs) 25 k = r) (fun e => by have z := gp_cond_none e; have ek := Nat.eq_of_beq_eq_true z.1; subst ek; have er := Option.some.inj z.2; subst er; rfl) (gp_tn (P := fun r => gp_R (cH263 L xs) 25 k = r) (fun e => by have z := gp_cond_none e; have ek := Nat.eq_of_beq_eq_true z.1; subst ek; have er := Option.some.inj z.2; subst er; rfl) (fun e => by have z := gp_cond_none e; have ek := Nat.eq_of_beq_eq_true z.1; subst ek; have er := Option.some.inj z.2; subst er; rfl)))) h
set_option maxHeartbeats 1000000 in
set_option maxRecDepth 1000000 in
theorem cf_R31 {L : Nat} {xs : Nat → Int32} {k : Nat} {r : Option Nat} (h : cond (Nat.blt k 3) (cond (Nat.blt k 1) (cond (Nat.beq k 0) (some (some 32)) none) (cond (Nat.blt k 2) (cond (Nat.beq k 1) (some (some 33)) none) (cond (Nat.beq k 2) (some (some 34)) none))) (cond (Nat.blt k 4) (cond (Nat.beq k 3) (some (some 35)) none) (cond (Nat.blt k 5) (cond (Nat.beq k 4) (some (some 36)) none) (cond (Nat.beq k 5) (some (some 37)) none))) = some r) : gp_R (cH263 L xs) 31 k = r := (gp_tn (P := fun r => gp_R (cH263 L xs) 31 k = r) (gp_tn (P := fun r => gp_R (cH263 L xs) 31 k = r) (fun e => by have z := gp_cond_none e; have ek := Nat.eq_of_beq_eq_true z.1; subst ek; have er := Option.some.inj z.2; subst er; rfl) (gp_tn (P := fun r => gp_R (cH263 L xs) 31 k = r) (fun e => by have z := gp_cond_none e; have ek := Nat.eq_of_beq_eq_true z.1; subst ek; have er := Option.some.inj z.2; subst er; rfl) (fun e => by have z := gp_cond_none e; have ek := Nat.eq_of_beq_eq_true z.1; subst ek; have er := Option.some.inj z.2; subst er; rfl))) (gp_tn (P := fun r => gp_R (cH263 L xs) 31 k = r) (fun e => by have z := gp_cond_none e; have ek := Nat.eq_of_beq_eq_true z.1; subst ek; have er := Option.some.inj z.2; subst er; rfl) (gp_tn (P := fun r => gp_R (cH263 L xs) 31 k = r) (fun e => by have z := gp_cond_none e; have ek := Nat.eq_of_beq_eq_true z.1; subst ek; have er := Option.some.inj z.2; subst er; rfl) (fun e => by have z := gp_cond_none e; have ek := Nat.eq_of_beq_eq_true z.1; subst ek; have er := Option.some.inj z.2; subst er; rfl)))) h
set_option maxHeartbeats 1000000 in
set_option maxRecDepth 1000000 in
theorem cf_R38 {L : Nat} {xs : Nat → Int32} {k : Nat} {r : Option Nat} (h : cond (Nat.blt k 1) (cond (Nat.beq k 0) (some (some 39)) none) (cond (Nat.beq k 1) (some (some 40)) none) = some r) : gp_R (cH263 L xs) 38 k = r := (gp_tn (P := fun r => gp_R (cH263 L xs) 38 k = r) (fun e => by have z := gp_cond_none e; have ek := Nat.eq_of_beq_eq_true z.1; subst ek; have er := Option.some.inj z.2; subst er; rfl) (fun e => by have z := gp_cond_none e; have ek := Nat.eq_of_beq_eq_true z.1; subst ek; have er := Option.some.inj z.2; subst er; rfl)) h
set_option maxHeartbeats 1000000 in
set_option maxRecDepth 1000000 in
theorem cf_R41 {L : Nat} {xs : Nat → Int32} {k : Nat} {r : Option Nat} (h : cond (Nat.blt k 2) (cond (Nat.blt k 1) (cond (Nat.beq k 0) (some (some 6)) none) (cond (Nat.beq k 1) (some (some 31)) none)) (cond (Nat.blt k 3) (cond (Nat.beq k 2) (some (some 42)) none) (cond (Nat.beq k 3) (some (some 45)) none)) = some r) : gp_R (cH263 L xs) 41 k = r := (gp_tn (P := fun r => gp_R (cH263 L xs) 41 k = r) (gp_tn (P := fun r => gp_R (cH263 L xs) 41 k = r) (fun e => by have z := gp_cond_none e; have ek := Nat.eq_of_beq_eq_true z.1; subst ek; have er := Option.some.inj z.2; subst er; rfl) (fun e => by have z := gp_cond_none e; have ek := Nat.eq_of_beq_eq_true z.1; subst ek; have er := Option.some.inj z.2; subst er; rfl)) (gp_tn (P := fun r => gp_R (cH263 L xs) 41 k = r) (fun e => by have z := gp_cond_none e; have ek := Nat.eq_of_beq_eq_true z.1; subst ek; have er := Option.some.inj z.2; subst er; rfl) (fun e => by have z := gp_cond_none e; have ek := Nat.eq_of_beq_eq_true z.1; subst ek; have er := Option.some.inj z.2; subst er; rfl))) h
set_option maxHeartbeats 1000000 in
set_option maxRecDepth 1000000 in
theorem cf_R42 {L : Nat} {xs : Nat → Int32} {k : Nat} {r : Option Nat} (h : cond (Nat.blt k 1) (cond (Nat.beq k 0) (some (some 43)) none) (cond (Nat.beq k 1) (some (some 44)) none) = some r) : gp_R (cH263 L xs) 42 k = r := (gp_tn (P := fun r => gp_R (cH263 L xs) 42 k = r) (fun e => by have z := gp_cond_none e; have ek := Nat.eq_of_beq_eq_true z.1; subst ek; have er := Option.some.inj z.2; subst er; rfl) (fun e => by have z := gp_cond_none e; have ek := Nat.eq_of_beq_eq_true z.1; subst ek; have er := Option.some.inj z.2; subst er; rfl)) h
set_option maxHeartbeats 1000000 in
set_option maxRecDepth 1000000 in
theorem cf_R46 {L : Nat} {xs : Nat → Int32} {k : Nat} {r : Option Nat} (h : cond (Nat.blt k 1) (cond (Nat.beq k 0) (some (some 6)) none) (cond (Nat.blt k 2) (cond (Nat.beq k 1) (some (some 20)) none) (cond (Nat.beq k 2) (some (some 47)) none)) = some r) : gp_R (cH263 L xs) 46 k = r := (gp_tn (P := fun r => gp_R (cH263 L xs) 46 k = r) (fun e => by have z := gp_cond_none e; have ek := Nat.eq_of_beq_eq_true z.1; subst ek; have er := Option.some.inj z.2; subst er; rfl) (gp_tn (P := fun r => gp_R (cH263 L xs) 46 k = r) (fun e => by have z := gp_cond_none e; have ek := Nat.eq_of_beq_eq_true z.1; subst ek; have er := Option.some.inj z.2; subst er; rfl) (fun e => by have z := gp_cond_none e; have ek := Nat.eq_of_beq_eq_true z.1; subst ek; have er := Option.some.inj z.2; subst er; rfl))) h
set_option maxHeartbeats 1000000 in
set_option maxRecDepth 1000000 in
theorem cf_R48 {L : Nat} {xs : Nat → Int32} {k : Nat} {r : Option Nat} (h : cond (Nat.blt k 1) (cond (Nat.beq k 0) (some (some 6)) none) (cond (Nat.blt k 3) (cond (Nat.beq k 1) (some (some 49)) none) (cond (Nat.beq k 3) (some (some 50)) none)) = some r) : gp_R (cH263 L xs) 48 k = r := (gp_tn (P := fun r => gp_R (cH263 L xs) 48 k = r) (fun e => by have z := gp_cond_none e; have ek := Nat.eq_of_beq_eq_true z.1; subst ek; have er := Option.some.inj z.2; subst er; rfl) (gp_tn (P := fun r => gp_R (cH263 L xs) 48 k = r) (fun e => by have z := gp_cond_none e; have ek := Nat.eq_of_beq_eq_true z.1; subst ek; have er := Option.some.inj z.2; subst er; rfl) (fun e => by have z := gp_cond_none e; have ek := Nat.eq_of_beq_eq_true z.1; subst ek; have er := Option.some.inj z.2; subst er; rfl))) h
set_option maxHeartbeats 1000000 in
set_option maxRecDepth 1000000 in
theorem cf_R51 {L : Nat} {xs : Nat → Int32} {k : Nat} {r : Option Nat} (h : cond (Nat.blt k 3) (cond (Nat.blt k 1) (cond (Nat.beq k 0) (some (some 52)) none) (cond (Nat.beq k 1) (some (some 53)) none)) (cond (Nat.blt k 5) (cond (Nat.beq k 3) (some (some 54)) none) (cond (Nat.beq k 5) (some (some 25)) none)) = some r) : gp_R (cH263 L xs) 51 k = r := (gp_tn (P := fun r => gp_R (cH263 L xs) 51 k = r) (gp_tn (P := fun r => gp_R (cH263 L xs) 51 k = r) (fun e => by have z := gp_cond_none e; have ek := Nat.eq_of_beq_eq_true z.1; subst ek; have er := Option.some.inj z.2; subst er; rfl) (fun e => by have z := gp_cond_none e; have ek := Nat.eq_of_beq_eq_true z.1; subst ek; have er := Option.some.inj z.2; subst er; rfl)) (gp_tn (P := fun r => gp_R (cH263 L xs) 51 k = r) (fun e => by have z := gp_cond_none e; have ek := Nat.eq_of_beq_eq_true z.1; subst ek; have er := Option.some.inj z.2; subst er; rfl) (fun e => by have z := gp_cond_none e; have ek := Nat.eq_of_beq_eq_true z.1; subst ek; have er := Option.some.inj z.2; subst er; rfl))) h
set_option maxHeartbeats 1000000 in
set_option maxRecDepth 1000000 in
theorem cf_R57 {L : Nat} {xs : Nat → Int32} {k : Nat} {r : Option Nat} (h : cond (Nat.blt k 4) (cond (Nat.beq k 0) (some (some 60)) none) (cond (Nat.blt k 5) (cond (Nat.beq k 4) (some (some 58)) none) (cond (Nat.beq k 5) (some (some 59)) none)) = some r) : gp_R (cH263 L xs) 57 k = r := (gp_tn (P := fun r => gp_R (cH263 L xs) 57 k = r) (fun e => by have z := gp_cond_none e; have ek := Nat.eq_of_beq_eq_true z.1; subst ek; have er := Option.some.inj z.2; subst er; rfl) (gp_tn (P := fun r => gp_R (cH263 L xs) 57 k = r) (fun e => by have z := gp_cond_none e; have ek := Nat.eq_of_beq_eq_true z.1; subst ek; have er := Option.some.inj z.2; subst er; rfl) (fun e => by have z := gp_cond_none e; have ek := Nat.eq_of_beq_eq_true z.1; subst ek; have er := Option.some.inj z.2; subst er; rfl))) h
set_option maxHeartbeats 1000000 in
set_option maxRecDepth 1000000 in
theorem cf_R60 {L : Nat} {xs : Nat → Int32} {k : Nat} {r : Option Nat} (h : cond (Nat.blt k 3) (cond (Nat.blt k 1) (cond (Nat.beq k 0) (some (some 61)) none) (cond (Nat.beq k 1) (some (some 62)) none)) (cond (Nat.blt k 5) (cond (Nat.beq k 3) (some (some 63)) none) (cond (Nat.beq k 5) (some (some 25)) none)) = some r) : gp_R (cH263 L xs) 60 k = r := (gp_tn (P := fun r => gp_R (cH263 L xs) 60 k = r) (gp_tn (P := fun r => gp_R (cH263 L xs) 60 k = r) (fun e => by have z := gp_cond_none e; have ek := Nat.eq_of_beq_eq_true z.1; subst ek; have er := Option.some.inj z.2; subst er; rfl) (fun e => by have z := gp_cond_none e; have ek := Nat.eq_of_beq_eq_true z.1; subst ek; have er := Option.some.inj z.2; subst er; rfl)) (gp_tn (P := fun r => gp_R (cH263 L xs) 60 k = r) (fun e => by have z := gp_cond_none e; have ek := Nat.eq_of_beq_eq_true z.1; subst ek; have er := Option.some.inj z.2; subst er; rfl) (fun e => by have z := gp_cond_none e; have ek := Nat.eq_of_beq_eq_true z.1; subst ek; have er := Option.some.inj z.2; subst er; rfl))) h
set_option maxHeartbeats 1000000 in
set_option maxRecDepth 1000000 in
theorem cf_R66 {L : Nat} {xs : Nat → Int32} {k : Nat} {r : Option Nat} (h : cond (Nat.blt k 1) (cond (Nat.beq k 0) (some (some 67)) none) (cond (Nat.blt k 2) (cond (Nat.beq k 1) (some (some 72)) none) (cond (Nat.beq k 2) (some (some 73)) none)) = some r) : gp_R (cH263 L xs) 66 k = r := (gp_tn (P := fun r => gp_R (cH263 L xs) 66 k = r) (fun e => by have z := gp_cond_none e; have ek := Nat.eq_of_beq_eq_true z.1; subst ek; have er := Option.some.inj z.2; subst er; rfl) (gp_tn (P := fun r => gp_R (cH263 L xs) 66 k = r) (fun e => by have z := gp_cond_none e; have ek := Nat.eq_of_beq_eq_true z.1; subst ek; have er := Option.some.inj z.2; subst er; rfl) (fun e => by have z := gp_cond_none e; have ek := Nat.eq_of_beq_eq_true z.1; subst ek; have er := Option.some.inj z.2; subst er; rfl))) h
set_option maxHeartbeats 1000000 in
set_option maxRecDepth 1000000 in
theorem cf_R67 {L : Nat} {xs : Nat → Int32} {k : Nat} {r : Option Nat} (h : cond (Nat.blt k 2) (cond (Nat.blt k 1) (cond (Nat.beq k 0) (some (some 68)) none) (cond (Nat.beq k 1) (some (some 69)) none)) (cond (Nat.blt k 3) (cond (Nat.beq k 2) (some (some 70)) none) (cond (Nat.beq k 3) (some (some 71)) none)) = some r) : gp_R (cH263 L xs) 67 k = r := (gp_tn (P := fun r => gp_R (cH263 L xs) 67 k = r) (gp_tn (P := fun r => gp_R (cH263 L xs) 67 k = r) (fun e => by have z := gp_cond_none e; have ek := Nat.eq_of_beq_eq_true z.1; subst ek; have er := Option.some.inj z.2; subst er; rfl) (fun e => by have z := gp_cond_none e; have ek := Nat.eq_of_beq_eq_true z.1; subst ek; have er := Option.some.inj z.2; subst er; rfl)) (gp_tn (P := fun r => gp_R (cH263 L xs) 67 k = r) (fun e => by have z := gp_cond_none e; have ek := Nat.eq_of_beq_eq_true z.1; subst ek; have er := Option.some.inj z.2; subst er; rfl) (fun e => by have z := gp_cond_none e; have ek := Nat.eq_of_beq_eq_true z.1; subst ek; have er := Option.some.inj z.2; subst er; rfl))) h
set_option maxHeartbeats 1000000 in
set_option maxRecDepth 1000000 in
theorem cf_R74 {L : Nat} {xs : Nat → Int32} {k : Nat} {r : Option Nat} (h : cond (Nat.blt k 26) (cond (Nat.blt k 14) (cond (Nat.blt k 5) (cond (Nat.blt k 2) (cond (Nat.blt k 1) (cond (Nat.beq k 0) (some (some 75)) none) (cond (Nat.beq k 1) (some (some 76)) none)) (cond (Nat.blt k 3) (cond (Nat.beq k 2) (some (some 77)) none) (cond (Nat.blt k 4) (cond (Nat.beq k 3) (some (some 78)) none) (cond (Nat.beq k 4) (some (some 79)) none)))) (cond (Nat.blt k 10) (cond (Nat.blt k 6) (cond (Nat.beq k 5) (some (some 80)) none) (cond (Nat.beq k 6) (some (some 81)) none)) (cond (Nat.blt k 12) (cond (Nat.beq k 10) (some (some 82)) none) (cond (Nat.blt k 13) (cond (Nat.beq k 12) (some (some 83)) none) (cond (Nat.beq k 13) (some (some 84)) none))))) (cond (Nat.blt k 20) (cond (Nat.blt k 17) (cond (Nat.blt k 16) (cond (Nat.beq k 14) (some (some 85)) none) (cond (Nat.beq k 16) (some (some 86)) none)) (cond (Nat.blt k 18) (cond (Nat.beq k 17) (some (some 87)) none) (cond (Nat.blt k 19) (cond (Nat.beq k 18) (some (some 88)) none) (cond (Nat.beq k 19) (some (some 89)) none)))) (cond (Nat.blt k 23) (cond (Nat.blt k 21) (cond (Nat.beq k 20) (some (some 90)) none) (cond (Nat.blt k 22) (cond (Nat.beq k 21) (some (some 91)) none) (cond (Nat.beq k 22) (some (some 92)) none))) (cond (Nat.blt k 24) (cond (Nat.beq k 23) (some (some 93)) none) (cond (Nat.blt k 25) (cond (Nat.beq k 24) (some (some 94)) none) (cond (Nat.beq k 25) (some (some 95)) none)))))) (cond (Nat.blt k 47) (cond (Nat.blt k 31) (cond (Nat.blt k 28) (cond (Nat.blt k 27) (cond (Nat.beq k 26) (some (some 96)) none) (cond (Nat.beq k 27) (some (some 97)) none)) (cond (Nat.blt k 29) (cond (Nat.beq k 28) (some (some 98)) none) (cond (Nat.blt k 30) (cond (Nat.beq k 29) (some (some 99)) none) (cond (Nat.beq k 30) (some (some 100)) none)))) (cond (Nat.blt k 33) (cond (Nat.blt k 32) (cond (Nat.beq k 31) (some (some 101)) none) (cond (Nat.beq k 32) (some (some 102)) none)) (cond (Nat.blt k 34) (cond (Nat.beq k 33) (some (some 103)) none) (cond (Nat.blt k 37) (cond (Nat.beq k 34) (some (some 104)) none) (cond (Nat.beq k 37) (some (some 105)) none))))) (cond (Nat.blt k 53) (cond (Nat.blt k 50) (cond (Nat.blt k 48) (cond (Nat.beq k 47) (some (some 106)) none) (cond (Nat.beq k 48) (some (some 107)) none)) (cond (Nat.blt k 51) (cond (Nat.beq k 50) (some (some 108)) none) (cond (Nat.blt k 52) (cond (Nat.beq k 51) (some (some 109)) none) (cond (Nat.beq k 52) (some (some 110)) none)))) (cond (Nat.blt k 60) (cond (Nat.blt k 54) (cond (Nat.beq k 53) (some (some 111)) none) (cond (Nat.blt k 59) (cond (Nat.beq k 54) (some (some 112)) none) (cond (Nat.beq k 59) (some (some 113)) none))) (cond (Nat.blt k 61) (cond (Nat.beq k 60) (some (some 114)) none) (cond (Nat.blt k 62) (cond (Nat.beq k 61) (some (some 115)) none) (cond (Nat.beq k 62) (some (some 116)) none)))))) = some r) : gp_R (cH263 L xs) 74 k = r := (gp_tn (P := fun r => gp_R (cH263 L xs) 74 k = r) (gp_tn (P := fun r => gp_R (cH263 L xs) 74 k = r) (gp_tn (P := fun r => gp_R (cH263 L xs) 74 k = r) (gp_tn (P := fun r => gp_R (cH263 L xs) 74 k = r) (gp_tn (P := fun r => gp_R (cH263 L xs) 74 k = r) (fun e => by have z := gp_cond_none e; have ek := Nat.eq_of_beq_eq_true z.1; subst ek; have er := Option.some.inj z.2; subst er; rfl) (fun e => by have z := gp_cond_none e; have ek := Nat.eq_of_beq_eq_true z.1; subst ek; have er := Option.some.inj z.2; subst er; rfl)) (gp_tn (P := fun r => gp_R (cH263 L xs) 74 k = r) (fun e => by have z := gp_cond_none e; have ek := Nat.eq_of_beq_eq_true z.1; subst ek; have er := Option.some.inj z.2; subst er; rfl) (gp_tn (P := fun r => gp_R (cH263 L xs) 74 k = r) (fun e => by have z := gp_cond_none e; have ek := Nat.eq_of_beq_eq_true z.1; subst ek; have er := Option.some.inj z.2; subst er; rfl) (fun e => by have z := gp_cond_none e; have ek := Nat.eq_of_beq_eq_true z.1; subst ek; have er := Option.some.inj z.2; subst er; rfl)))) (gp_tn (P := fun r => gp_R (cH263 L xs) 74 k = r) (gp_tn (P := fun r => gp_R (cH263 L xs) 74 k = r) (fun e => by have z := gp_cond_none e; have ek := Nat.eq_of_beq_eq_true z.1; subst ek; have er := Option.some.inj z.2; subst er; rfl) (fun e => by have z := gp_cond_none e; have ek := Nat.eq_of_beq_eq_true z.1; subst ek; have er := Option.some.inj z.2; subst er; rfl)) (gp_tn (P := fun r => gp_R (cH263 L xs) 74 k = r) (fun e => by have z := gp_cond_none e; have ek := Nat.eq_of_beq_eq_true z.1; subst ek; have er := Option.some.inj z.2; subst er; rfl) (gp_tn (P := fun r => gp_R (cH263 L xs) 74 k = r) (fun e => by have z := gp_cond_none e; have ek := Nat.eq_of_beq_eq_true z.1; subst ek; have er := Option.some.inj z.2; subst er; rfl) (fun e => by have z := gp_cond_none e; have ek := Nat.eq_of_beq_eq_true z.1; subst ek; have er := Option.some.inj z.2; subst er; rfl))))) (gp_tn (P := fun r => gp_R (cH263 L xs) 74 k = r) (gp_tn (P := fun r => gp_R (cH263 L xs) 74 k = r) (gp_tn (P := fun r => gp_R (cH263 L xs) 74 k = r) (fun e => by have z := gp_cond_none e; have ek := Nat.eq_of_beq_eq_true z.1; subst ek; have er := Option.some.inj z.2; subst er; rfl) (fun e => by have z := gp_cond_none e; have ek := Nat.eq_of_beq_eq_true z.1; subst ek; have er := Option.some.inj z.2; subst er; rfl)) (gp_tn (P := fun r => gp_R (cH263 L xs) 74 k = r) (fun e => by have z := gp_cond_none e; have ek := Nat.eq_of_beq_eq_true z.1; subst ek; have er := Option.some.inj z.2; subst er; rfl) (gp_tn (P := fun r => gp_R (cH263 L xs) 74 k = r) (fun e => by have z := gp_cond_none e; have ek := Nat.eq_of_beq_eq_true z.1; subst ek; have er := Option.some.inj z.2; subst er; rfl) (fun e => by have z := gp_cond_none e; have ek := Nat.eq_of_beq_eq_true z.1; subst ek; have er := Option.some.inj z.2; subst er; rfl)))) (gp_tn (P := fun r => gp_R (cH263 L xs) 74 k = r) (gp_tn (P := fun r => gp_R (cH263 L xs) 74 k = r) (fun e => by have z := gp_cond_none e; have ek := Nat.eq_of_beq_eq_true z.1; subst ek; have er := Option.some.inj z.2; subst er; rfl) (gp_tn (P := fun r => gp_R (cH263 L xs) 74 k = r) (fun e => by have z := gp_cond_none e; have ek := Nat.eq_of_beq_eq_true z.1; subst ek; have er := Option.some.inj z.2; subst er; rfl) (fun e => by have z := gp_cond_none e; have ek := Nat.eq_of_beq_eq_true z.1; subst ek; have er := Option.some.inj z.2; subst er; rfl))) (gp_tn (P := fun r => gp_R (cH263 L xs) 74 k = r) (fun e => by have z := gp_cond_none e; have ek := Nat.eq_of_beq_eq_true z.1; subst ek; have er := Option.some.inj z.2; subst er; rfl) (gp_tn (P := fun r => gp_R (cH263 L xs) 74 k = r) (fun e => by have z := gp_cond_none e; have ek := Nat.eq_of_beq_eq_true z.1; subst ek; have er := Option.some.inj z.2; subst er; rfl) (fun e => by have z := gp_cond_none e; have ek := Nat.eq_of_beq_eq_true z.1; subst ek; have er := Option.some.inj z.2; subst er; rfl)))))) (gp_tn (P := fun r => gp_R (cH263 L xs) 74 k = r) (gp_tn (P := fun r => gp_R (cH263 L xs) 74 k = r) (gp_tn (P := fun r => gp_R (cH263 L xs) 74 k = r) (gp_tn (P := fun r => gp_R (cH263 L xs) 74 k = r) (fun e => by have z := gp_cond_none e; have ek := Nat.eq_of_beq_eq_true z.1; subst ek; have er := Option.some.inj z.2; subst er; rfl) (fun e => by have z := gp_cond_none e; have ek := Nat.eq_of_beq_eq_true z.1; subst ek; have er := Option.some.inj z.2; subst er; rfl)) (gp_tn (P := fun r => gp_R (cH263 L xs) 74 k = r) (fun e => by have z := gp_cond_none e; have ek := Nat.eq_of_beq_eq_true z.1; subst ek; have er := Option.some.inj z.2; subst er; rfl) (gp_tn (P := fun r => gp_R (cH263 L xs) 74 k = r) (fun e => by have z := gp_cond_none e; have ek := Nat.eq_of_beq_eq_true z.1; subst ek; have er := Option.some.inj z.2; subst er; rfl) (fun e => by have z := gp_cond_none e; have ek := Nat.eq_of_beq_eq_true z.1; subst ek; have er := Option.some.inj z.2; subst er; rfl)))) (gp_tn (P := fun r => gp_R (cH263 L xs) 74 k = r) (gp_tn (P := fun r => gp_R (cH263 L xs) 74 k = r) (fun e => by have z := gp_cond_none e; have ek := Nat.eq_of_beq_eq_true z.1; subst ek; have er := Option.some.inj z.2; subst er; rfl) (fun e => by have z := gp_cond_none e; have ek := Nat.eq_of_beq_eq_true z.1; subst ek; have er := Option.some.inj z.2; subst er; rfl)) (gp_tn (P := fun r => gp_R (cH263 L xs) 74 k = r) (fun e => by have z := gp_cond_none e; have ek := Nat.eq_of_beq_eq_true z.1; subst ek; have er := Option.some.inj z.2; subst er; rfl) (gp_tn (P := fun r => gp_R (cH263 L xs) 74 k = r) (fun e => by have z := gp_cond_none e; have ek := Nat.eq_of_beq_eq_true z.1; subst ek; have er := Option.some.inj z.2; subst er; rfl) (fun e => by have z := gp_cond_none e; have ek := Nat.eq_of_beq_eq_true z.1; subst ek; have er := Option.some.inj z.2; subst er; rfl))))) (gp_tn (P := fun r => gp_R (cH263 L xs) 74 k = r) (gp_tn (P := fun r => gp_R (cH263 L xs) 74 k = r) (gp_tn (P := fun r => gp_R (cH263 L xs) 74 k = r) (fun e => by have z := gp_cond_none e; have ek := Nat.eq_of_beq_eq_true z.1; subst ek; have er := Option.some.inj z.2; subst er; rfl) (fun e => by have z := gp_cond_none e; have ek := Nat.eq_of_beq_eq_true z.1; subst ek; have er := Option.some.inj z.2; subst er; rfl)) (gp_tn (P := fun r => gp_R (cH263 L xs) 74 k = r) (fun e => by have z := gp_cond_none e; have ek := Nat.eq_of_beq_eq_true z.1; subst ek; have er := Option.some.inj z.2; subst er; rfl) (gp_tn (P := fun r => gp_R (cH263 L xs) 74 k = r) (fun e => by have z := gp_cond_none e; have ek := Nat.eq_of_beq_eq_true z.1; subst ek; have er := Option.some.inj z.2; subst er; rfl) (fun e => by have z := gp_cond_none e; have ek := Nat.eq_of_beq_eq_true z.1; subst ek; have er := Option.some.inj z.2; subst er; rfl)))) (gp_tn (P := fun r => gp_R (cH263 L xs) 74 k = r) (gp_tn (P := fun r => gp_R (cH263 L xs) 74 k = r) (fun e => by have z := gp_cond_none e; have ek := Nat.eq_of_beq_eq_true z.1; subst ek; have er := Option.some.inj z.2; subst er; rfl) (gp_tn (P := fun r => gp_R (cH263 L xs) 74 k = r) (fun e => by have z := gp_cond_none e; have ek := Nat.eq_of_beq_eq_true z.1; subst ek; have er := Option.some.inj z.2; subst er; rfl) (fun e => by have z := gp_cond_none e; have ek := Nat.eq_of_beq_eq_true z.1; subst ek; have er := Option.some.inj z.2; subst er; rfl))) (gp_tn (P := fun r => gp_R (cH263 L xs) 74 k = r) (fun e => by have z := gp_cond_none e; have ek := Nat.eq_of_beq_eq_true z.1; subst ek; have er := Option.some.inj z.2; subst er; rfl) (gp_tn (P := fun r => gp_R (cH263 L xs) 74 k = r) (fun e => by have z := gp_cond_none e; have ek := Nat.eq_of_beq_eq_true z.1; subst ek; have er := Option.some.inj z.2; subst er; rfl) (fun e => by have z := gp_cond_none e; have ek := Nat.eq_of_beq_eq_true z.1; subst ek; have er := Option.some.inj z.2; subst er; rfl))))))) h
set_option maxHeartbeats 1000000 in
theorem cf_R {L : Nat} {xs : Nat → Int32} {a k : Nat} {r : Option Nat} (h : gp_sR a k = some r) : gp_R (cH263 L xs) a k = r := by
  unfold gp_sR at h
  exact (gp_tn (P := fun r => gp_R (cH263 L xs) a k = r) (gp_tn (P := fun r => gp_R (cH263 L xs) a k = r) (gp_tn (P := fun r => gp_R (cH263 L xs) a k = r) (gp_tn (P := fun r => gp_R (cH263 L xs) a k = r) (fun e => by have z := gp_cond_none e; have ea := Nat.eq_of_beq_eq_true z.1; subst ea; exact cf_R1 z.2) (fun e => by have z := gp_cond_none e; have ea := Nat.eq_of_beq_eq_true z.1; subst ea; exact cf_R6 z.2)) (gp_tn (P := fun r => gp_R (cH263 L xs) a k = r) (fun e => by have z := gp_cond_none e; have ea := Nat.eq_of_beq_eq_true z.1; subst ea; exact cf_R7 z.2) (fun e => by have z := gp_cond_none e; have ea := Nat.eq_of_beq_eq_true z.1; subst ea; exact cf_R20 z.2))) (gp_tn (P := fun r => gp_R (cH263 L xs) a k = r) (gp_tn (P := fun r => gp_R (cH263 L xs) a k = r) (fun e => by have z := gp_cond_none e; have ea := Nat.eq_of_beq_eq_true z.1; subst ea; exact cf_R25 z.2) (fun e => by have z := gp_cond_none e; have ea := Nat.eq_of_beq_eq_true z.1; subst ea; exact cf_R31 z.2)) (gp_tn (P := fun r => gp_R (cH263 L xs) a k = r) (fun e => by have z := gp_cond_none e; have ea := Nat.eq_of_beq_eq_true z.1; subst ea; exact cf_R38 z.2) (fun e => by have z := gp_cond_none e; have ea := Nat.eq_of_beq_eq_true z.1; subst ea; exact cf_R41 z.2)))) (gp_tn (P := fun r => gp_R (cH263 L xs) a k = r) (gp_tn (P := fun r => gp_R (cH263 L xs) a k = r) (gp_tn (P := fun r => gp_R (cH263 L xs) a k = r) (fun e => by have z := gp_cond_none e; have ea := Nat.eq_of_beq_eq_true z.1; subst ea; exact cf_R42 z.2) (fun e => by have z := gp_cond_none e; have ea := Nat.eq_of_beq_eq_true z.1; subst ea; exact cf_R46 z.2)) (gp_tn (P := fun r => gp_R (cH263 L xs) a k = r) (fun e => by have z := gp_cond_none e; have ea := Nat.eq_of_beq_eq_true z.1; subst ea; exact cf_R48 z.2) (fun e => by have z := gp_cond_none e; have ea := Nat.eq_of_beq_eq_true z.1; subst ea; exact cf_R51 z.2))) (gp_tn (P := fun r => gp_R (cH263 L xs) a k = r) (gp_tn (P := fun r => gp_R (cH263 L xs) a k = r) (fun e => by have z := gp_cond_none e; have ea := Nat.eq_of_beq_eq_true z.1; subst ea; exact cf_R57 z.2) (fun e => by have z := gp_cond_none e; have ea := Nat.eq_of_beq_eq_true z.1; subst ea; exact cf_R60 z.2)) (gp_tn (P := fun r => gp_R (cH263 L xs) a k = r) (fun e => by have z := gp_cond_none e; have ea := Nat.eq_of_beq_eq_true z.1; subst ea; exact cf_R66 z.2) (gp_tn (P := fun r => gp_R (cH263 L xs) a k = r) (fun e => by have z := gp_cond_none e; have ea := Nat.eq_of_beq_eq_true z.1; subst ea; exact cf_R67 z.2) (fun e => by have z := gp_cond_none e; have ea := Nat.eq_of_beq_eq_true z.1; subst ea; exact cf_R74 z.2)))))) h
set_option maxHeartbeats 1000000 in
theorem cf_mk (L : Nat) (xs : Nat → Int32) : gp_mk L (cH263 L xs) = cH263 L xs := by
  have e1 : gp_sh (gp_mk L (cH263 L xs)) = gp_sh (cH263 L xs) := funext (cf_sh L xs)
  have e2 : gp_R (gp_mk L (cH263 L xs)) = gp_R (cH263 L xs) := by
    funext a k
    show (match gp_sR a k with | some r => r | none => gp_R (cH263 L xs) a k) = gp_R (cH263 L xs) a k
    cases e : gp_sR a k with
    | none => rfl
    | some r => exact (cf_R e).symm
  show ((cH263 L xs).1, (cH263 L xs).2.1, gp_sh (gp_mk L (cH263 L xs)), gp_I (cH263 L xs), gp_L (cH263 L xs), gp_R (gp_mk L (cH263 L xs))) = _
  rw [e1, e2]
