/-! the heap that the constructors leave -/
theorem gz_b0 {a k : Nat} (h : a ≠ k) : Nat.beq a k = false := by
  cases z : Nat.beq a k with
  | false => rfl
  | true => exact absurd (Nat.eq_of_beq_eq_true z) h
set_option maxHeartbeats 1000000 in
set_option maxRecDepth 1000000 in
theorem cf_sh (L : Nat) (xs : Nat → Int32) (a : Nat) : gp_sh (gp_mk L (cH263 L xs)) a = gp_sh (cH263 L xs) a := by
  by_cases h : a < 117
  · have hc : a = 0 ∨ a = 1 ∨ a = 2 ∨ a = 3 ∨ a = 4 ∨ a = 5 ∨ a = 6 ∨ a = 7 ∨ a = 8 ∨ a = 9 ∨ a = 10 ∨ a = 11 ∨ a = 12 ∨ a = 13 ∨ a = 14 ∨ a = 15 ∨ a = 16 ∨ a = 17 ∨ a = 18 ∨ a = 19 ∨ a = 20 ∨ a = 21 ∨ a = 22 ∨ a = 23 ∨ a = 24 ∨ a = 25 ∨ a = 26 ∨ a = 27 ∨ a = 28 ∨ a = 29 ∨ a = 30 ∨ a = 31 ∨ a = 32 ∨ a = 33 ∨ a = 34 ∨ a = 35 ∨ a = 36 ∨ a = 37 ∨ a = 38 ∨ a = 39 ∨ a = 40 ∨ a = 41 ∨ a = 42 ∨ a = 43 ∨ a = 44 ∨ a = 45 ∨ a = 46 ∨ a = 47 ∨ a = 48 ∨ a = 49 ∨ a = 50 ∨ a = 51 ∨ a = 52 ∨ a = 53 ∨ a = 54 ∨ a = 55 ∨ a = 56 ∨ a = 57 ∨ a = 58 ∨ a = 59 ∨ a = 60 ∨ a = 61 ∨ a = 62 ∨ a = 63 ∨ a = 64 ∨ a = 65 ∨ a = 66 ∨ a = 67 ∨ a = 68 ∨ a = 69 ∨ a = 70 ∨ a = 71 ∨ a = 72 ∨ a = 73 ∨ a = 74 ∨ a = 75 ∨ a = 76 ∨ a = 77 ∨ a = 78 ∨ a = 79 ∨ a = 80 ∨ a = 81 ∨ a = 82 ∨ a = 83 ∨ a = 84 ∨ a = 85 ∨ a = 86 ∨ a = 87 ∨ a = 88 ∨ a = 89 ∨ a = 90 ∨ a = 91 ∨ a = 92 ∨ a = 93 ∨ a = 94 ∨ a = 95 ∨ a = 96 ∨ a = 97 ∨ a = 98 ∨ a = 99 ∨ a = 100 ∨ a = 101 ∨ a = 102 ∨ a = 103 ∨ a = 104 ∨ a = 105 ∨ a = 106 ∨ a = 107 ∨ a = 108 ∨ a = 109 ∨ a = 110 ∨ a = 111 ∨ a = 112 ∨ a = 113 ∨ a = 114 ∨ a = 115 ∨ a = 116 := by omega
    rcases hc with h | h | h | h | h | h | h | h | h | h | h | h | h | h | h | h | h | h | h | h | h | h | h | h | h | h | h | h | h | h | h | h | h | h | h | h | h | h | h | h | h | h | h | h | h | h | h | h | h | h | h | h | h | h | h | h | h | h | h | h | h | h | h | h | h | h | h | h | h | h | h | h | h | h | h | h | h | h | h | h | h | h | h | h | h | h | h | h | h | h | h | h | h | h | h | h | h | h | h | h | h | h | h | h | h | h | h | h | h | h | h | h | h | h | h | h | h
    · subst h; rfl
    · subst h; rfl
    · subst h; rfl
    · subst h; rfl
    · subst h; rfl
    · subst h; rfl
    · subst h; rfl
    · subst h; rfl
    · subst h; rfl
    · subst h; rfl
    · subst h; rfl
    · subst h; rfl
    · subst h; rfl
    · subst h; rfl
    · subst h; rfl
    · subst h; rfl
    · subst h; rfl
    · subst h; rfl
    · subst h; rfl
    · subst h; rfl
    · subst h; rfl
    · subst h; rfl
    · subst h; rfl
    · subst h; rfl
    · subst h; rfl
    · subst h; rfl
    · subst h; rfl
    · subst h; rfl
    · subst h; rfl
    · subst h; rfl
    · subst h; rfl
    · subst h; rfl
    · subst h; rfl
    · subst h; rfl
    · subst h; rfl
    · subst h; rfl
    · subst h; rfl
    · subst h; rfl
    · subst h; rfl
    · subst h; rfl
    · subst h; rfl
    · subst h; rfl
    · subst h; rfl
    · subst h; rfl
    · subst h; rfl
    · subst h; rfl
    · subst h; rfl
    · subst h; rfl
    · subst h; rfl
    · subst h; rfl
    · subst h; rfl
    · subst h; rfl
    · subst h; rfl
    · subst h; rfl
    · subst h; rfl
    · subst h; rfl
    · subst h; rfl
    · subst h; rfl
    · subst h; rfl
    · subst h; rfl
    · subst h; rfl
    · subst h; rfl
    · subst h; rfl
    · subst h; rfl
    · subst h; rfl
    · subst h; rfl
    · subst h; rfl
    · subst h; rfl
    · subst h; rfl
    · subst h; rfl
    · subst h; rfl
    · subst h; rfl
    · subst h; rfl
    · subst h; rfl
    · subst h; rfl
    · subst h; rfl
    · subst h; rfl
    · subst h; rfl
    · subst h; rfl
    · subst h; rfl
    · subst h; rfl
    · subst h; rfl
    · subst h; rfl
    · subst h; rfl
    · subst h; rfl
    · subst h; rfl
    · subst h; rfl
    · subst h; rfl
    · subst h; rfl
    · subst h; rfl
    · subst h; rfl
    · subst h; rfl
    · subst h; rfl
    · subst h; rfl
    · subst h; rfl
    · subst h; rfl
    · subst h; rfl
    · subst h; rfl
    · subst h; rfl
    · subst h; rfl
    · subst h; rfl
    · subst h; rfl
    · subst h; rfl
    · subst h; rfl
    · subst h; rfl
    · subst h; rfl
    · subst h; rfl
    · subst h; rfl
    · subst h; rfl
    · subst h; rfl
    · subst h; rfl
    · subst h; rfl
    · subst h; rfl
    · subst h; rfl
    · subst h; rfl
    · subst h; rfl
    · subst h; rfl
  · show cond (Nat.beq a 0) (105, L) (cond (Nat.blt a 117) (gp_ss a) (gp_sh (cH263 L xs) a)) = gp_sh (cH263 L xs) a
    have n1 : Nat.blt a 117 = false := by cases z : Nat.blt a 117 with
      | false => rfl
      | true => exact absurd (Nat.blt_eq.mp z) h
    rw [gz_b0 (by omega), n1]; rfl
set_option maxHeartbeats 1000000 in
set_option maxRecDepth 1000000 in
theorem cf_R1 {L : Nat} {xs : Nat → Int32} {k : Nat} {r : Option Nat} (h : cond (Nat.blt k 10) (cond (Nat.blt k 4) (cond (Nat.blt k 1) (cond (Nat.beq k 0) (some (some 2)) none) (cond (Nat.blt k 3) (cond (Nat.beq k 1) (some (some 3)) none) (cond (Nat.beq k 3) (some (some 4)) none))) (cond (Nat.blt k 8) (cond (Nat.beq k 4) (some (some 5)) none) (cond (Nat.blt k 9) (cond (Nat.beq k 8) (some (some 20)) none) (cond (Nat.beq k 9) (some (some 31)) none)))) (cond (Nat.blt k 13) (cond (Nat.blt k 11) (cond (Nat.beq k 10) (some (some 38)) none) (cond (Nat.blt k 12) (cond (Nat.beq k 11) (some (some 41)) none) (cond (Nat.beq k 12) (some (some 46)) none))) (cond (Nat.blt k 15) (cond (Nat.blt k 14) (cond (Nat.beq k 13) (some (some 48)) none) (cond (Nat.beq k 14) (some (some 51)) none)) (cond (Nat.blt k 16) (cond (Nat.beq k 15) (some (some 57)) none) (cond (Nat.beq k 16) (some (some 66)) none)))) = some r) : gp_R (cH263 L xs) 1 k = r := (gp_tn (P := fun r => gp_R (cH263 L xs) 1 k = r) (gp_tn (P := fun r => gp_R (cH263 L xs) 1 k = r) (gp_tn (P := fun r => gp_R (cH263 L xs) 1 k = r) (fun e => by have z := gp_cond_none e; have ek := Nat.eq_of_beq_eq_true z.1; subst ek; have er := Option.some.inj z.2; subst er; rfl) (gp_tn (P := fun r => gp_R (cH263 L xs) 1 k = r) (fun e => by have z := gp_cond_none e; have ek := Nat.eq_of_beq_eq_true z.1; subst ek; have er := Option.some.inj z.2; subst er; rfl) (fun e => by have z := gp_cond_none e; have ek := Nat.eq_of_beq_eq_true z.1; subst ek; have er := Option.some.inj z.2; subst er; rfl))) (gp_tn (P := fun r => gp_R (cH263 L xs) 1 k = r) (fun e => by have z := gp_cond_none e; have ek := Nat.eq_of_beq_eq_true z.1; subst ek; have er := Option.some.inj z.2; subst er; rfl) (gp_tn (P := fun r => gp_R (cH263 L xs) 1 k = r) (fun e => by have z := gp_cond_none e; have ek := Nat.eq_of_beq_eq_true z.1; subst ek; have er := Option.some.inj z.2; subst er; rfl) (fun e => by have z := gp_cond_none e; have ek := Nat.eq_of_beq_eq_true z.1; subst ek; have er := Option.some.inj z.2; subst er; rfl)))) (gp_tn (P := fun r => gp_R (cH263 L xs) 1 k = r) (gp_tn (P := fun r => gp_R (cH263 L xs) 1 k = r) (fun e => by have z := gp_cond_none e; have ek := Nat.eq_of_beq_eq_true z.1; subst ek; have er := Option.some.inj z.2; subst er; rfl) (gp_tn (P := fun r => gp_R (cH263 L xs) 1 k = r) (fun e => by have z := gp_cond_none e; have ek := Nat.eq_of_beq_eq_true z.1; subst ek; have er := Option.some.inj z.2; subst er; rfl) (fun e => by have z := gp_cond_none e; have ek := Nat.eq_of_beq_eq_true z.1; subst ek; have er := Option.some.inj z.2; subst er; rfl))) (gp_tn (P := fun r => gp_R (cH263 L xs) 1 k = r) (gp_tn (P := fun r => gp_R (cH263 L xs) 1 k = r) (fun e => by have z := gp_cond_none e; have ek := Nat.eq_of_beq_eq_true z.1; subst ek; have er := Option.some.inj z.2; subst er; rfl) (fun e => by have z := gp_cond_none e; have ek := Nat.eq_of_beq_eq_true z.1; subst ek; have er := Option.some.inj z.2; subst er; rfl)) (gp_tn (P := fun r => gp_R (cH263 L xs) 1 k = r) (fun e => by have z := gp_cond_none e; have ek := Nat.eq_of_beq_eq_true z.1; subst ek; have er := Option.some.inj z.2; subst er; rfl) (fun e => by have z := gp_cond_none e; have ek := Nat.eq_of_beq_eq_true z.1; subst ek; have er := Option.some.inj z.2; subst er; rfl))))) h
set_option maxHeartbeats 1000000 in
set_option maxRecDepth 1000000 in
theorem cf_R6 {L : Nat} {xs : Nat → Int32} {k : Nat} {r : Option Nat} (h : cond (Nat.blt k 2) (cond (Nat.blt k 1) (cond (Nat.beq k 0) (some (some 7)) none) (cond (Nat.beq k 1) (some (some 13)) none)) (cond (Nat.blt k 3) (cond (Nat.beq k 2) (some (some 14)) none) (cond (Nat.beq k 3) (some (some 15)) none)) = some r) : gp_R (cH263 L xs) 6 k = r := (gp_tn (P := fun r => gp_R (cH263 L xs) 6 k = r) (gp_tn (P := fun r => gp_R (cH263 L xs) 6 k = r) (fun e => by have z := gp_cond_none e; have ek := Nat.eq_of_beq_eq_true z.1; subst ek; have er := Option.some.inj z.2; subst er; rfl) (fun e => by have z := gp_cond_none e; have ek := Nat.eq_of_beq_eq_true z.1; subst ek; have er := Option.some.inj z.2; subst er; rfl)) (gp_tn (P := fun r => gp_R (cH263 L xs) 6 k = r) (fun e => by have z := gp_cond_none e; have ek := Nat.eq_of_beq_eq_true z.1; subst ek; have er := Option.some.inj z.2; subst er; rfl) (fun e => by have z := gp_cond_none e; have ek := Nat.eq_of_beq_eq_true z.1; subst ek; have er := Option.some.inj z.2; subst er; rfl))) h
set_option maxHeartbeats 1000000 in
set_option maxRecDepth 1000000 in
theorem cf_R7 {L : Nat} {xs : Nat → Int32} {k : Nat} {r : Option Nat} (h : cond (Nat.blt k 5) (cond (Nat.blt k 3) (cond (Nat.blt k 2) (cond (Nat.beq k 1) (some (some 8)) none) (cond (Nat.beq k 2) (some (some 9)) none)) (cond (Nat.blt k 4) (cond (Nat.beq k 3) (some (some 10)) none) (cond (Nat.beq k 4) (some (some 11)) none))) (cond (Nat.blt k 7) (cond (Nat.blt k 6) (cond (Nat.beq k 5) (some (some 12)) none) (cond (Nat.beq k 6) (some (some 16)) none)) (cond (Nat.blt k 8) (cond (Nat.beq k 7) (some (some 17)) none) (cond (Nat.blt k 9) (cond (Nat.beq k 8) (some (some 18)) none) (cond (Nat.beq k 9) (some (some 19)) none)))) = some r) : gp_R (cH263 L xs) 7 k = r := (gp_tn (P := fun r => gp_R (cH263 L xs) 7 k = r) (gp_tn (P := fun r => gp_R (cH263 L xs) 7 k = r) (gp_tn (P := fun r => gp_R (cH263 L xs) 7 k = r) (fun e => by have z := gp_cond_none e; have ek := Nat.eq_of_beq_eq_true z.1; subst ek; have er := Option.some.inj z.2; subst er; rfl) (fun e => by have z := gp_cond_none e; have ek := Nat.eq_of_beq_eq_true z.1; subst ek; have er := Option.some.inj z.2; subst er; rfl)) (gp_tn (P := fun r => gp_R (cH263 L xs) 7 k = r) (fun e => by have z := gp_cond_none e; have ek := Nat.eq_of_beq_eq_true z.1; subst ek; have er := Option.some.inj z.2; subst er; rfl) (fun e => by have z := gp_cond_none e; have ek := Nat.eq_of_beq_eq_true z.1; subst ek; have er := Option.some.inj z.2; subst er; rfl))) (gp_tn (P := fun r => gp_R (cH263 L xs) 7 k = r) (gp_tn (P := fun r => gp_R (cH263 L xs) 7 k = r) (fun e => by have z := gp_cond_none e; have ek := Nat.eq_of_beq_eq_true z.1; subst ek; have er := Option.some.inj z.2; subst er; rfl) (fun e => by have z := gp_cond_none e; have ek := Nat.eq_of_beq_eq_true z.1; subst ek; have er := Option.some.inj z.2; subst er; rfl)) (gp_tn (P := fun r => gp_R (cH263 L xs) 7 k = r) (fun e => by have z := gp_cond_none e; have ek := Nat.eq_of_beq_eq_true z.1; subst ek; have er := Option.some.inj z.2; subst er; rfl) (gp_tn (P := fun r => gp_R (cH263 L xs) 7 k = r) (fun e => by have z := gp_cond_none e; have ek := Nat.eq_of_beq_eq_true z.1; subst ek; have er := Option.some.inj z.2; subst er; rfl) (fun e => by have z := gp_cond_none e; have ek := Nat.eq_of_beq_eq_true z.1; subst ek; have er := Option.some.inj z.2; subst er; rfl))))) h
set_option maxHeartbeats 1000000 in
set_option maxRecDepth 1000000 in
theorem cf_R20 {L : Nat} {xs : Nat → Int32} {k : Nat} {r : Option Nat} (h : cond (Nat.blt k 3) (cond (Nat.blt k 1) (cond (Nat.beq k 0) (some (some 6)) none) (cond (Nat.blt k 2) (cond (Nat.beq k 1) (some (some 21)) none) (cond (Nat.beq k 2) (some (some 22)) none))) (cond (Nat.blt k 4) (cond (Nat.beq k 3) (some (some 23)) none) (cond (Nat.blt k 5) (cond (Nat.beq k 4) (some (some 24)) none) (cond (Nat.beq k 5) (some (some 25)) none))) = some r) : gp_R (cH263 L xs) 20 k = r := (gp_tn (P := fun r => gp_R (cH263 L xs) 20 k = r) (gp_tn (P := fun r => gp_R (cH263 L xs) 20 k = r) (fun e => by have z := gp_cond_none e; have ek := Nat.eq_of_beq_eq_true z.1; subst ek; have er := Option.some.inj z.2; subst er; rfl) (gp_tn (P := fun r => gp_R (cH263 L xs) 20 k = r) (fun e => by have z := gp_cond_none e; have ek := Nat.eq_of_beq_eq_true z.1; subst ek; have er := Option.some.inj z.2; subst er; rfl) (fun e => by have z := gp_cond_none e; have ek := Nat.eq_of_beq_eq_true z.1; subst ek; have er := Option.some.inj z.2; subst er; rfl))) (gp_tn (P := fun r => gp_R (cH263 L xs) 20 k = r) (fun e => by have z := gp_cond_none e; have ek := Nat.eq_of_beq_eq_true z.1; subst ek; have er := Option.some.inj z.2; subst er; rfl) (gp_tn (P := fun r => gp_R (cH263 L xs) 20 k = r) (fun e => by have z := gp_cond_none e; have ek := Nat.eq_of_beq_eq_true z.1; subst ek; have er := Option.some.inj z.2; subst er; rfl) (fun e => by have z := gp_cond_none e; have ek := Nat.eq_of_beq_eq_true z.1; subst ek; have er := Option.some.inj z.2; subst er; rfl)))) h
set_option maxHeartbeats 1000000 in
set_option maxRecDepth 1000000 in
theorem cf_R25 {L : Nat} {xs : Nat → Int32} {k : Nat} {r : Option Nat} (h : cond (Nat.blt k 3) (cond (Nat.blt k 2) (cond (Nat.beq k 1) (some (some 26)) none) (cond (Nat.beq k 2) (some (some 27)) none)) (cond (Nat.blt k 4) (cond (Nat.beq k 3) (some (some 28)) none) (cond (Nat.blt k 5) (cond (Nat.beq k 4) (some (some 29)) none) (cond (Nat.beq k 5) (some (some 30)) none))) = some r) : gp_R (cH263 L xs) 25 k = r := (gp_tn (P := fun r => gp_R (cH263 L xs) 25 k = r) (gp_tn (P := fun r => gp_R (cH263 L xs) 25 k = r) (fun e => by have z := gp_cond_none e; have ek := Nat.eq_of_beq_eq_true z.1; subst ek; have er := Option.some.inj z.2; subst er; rfl) (fun e => by have z := gp_cond_none e; have ek := Nat.eq_of_beq_eq_true z.1; subst ek; have er := Option.some.inj z.2; subst er; rfl)) (gp_tn (P := fun r => gp_R (cH263 L xs) 25 k = r) (fun e => by have z := gp_cond_none e; have ek := Nat.eq_of_beq_eq_true z.1; subst ek; have er := Option.some.inj z.2; subst er; rfl) (gp_tn (P := fun r => gp_R (cH263 L xs) 25 k = r) (fun e => by have z := gp_cond_none e; have ek := Nat.eq_of_beq_eq_true z.1; subst ek; have er := Option.some.inj z.2; subst er; rfl) (fun e => by have z := gp_cond_none e; have ek := Nat.eq_of_beq_eq_true z.1; subst ek; have er := Option.some.inj z.2; subst er; rfl)))) h
set_option maxHeartbeats 1000000 in
set_option maxRecDepth 1000000 in
theorem cf_R31 {L : Nat} {xs : Nat → Int32} {k : Nat} {r : Option Nat} (h : cond (Nat.blt k 3) (cond (Nat.blt k 1) (cond (Nat.beq k 0) (some (some 32)) none) (cond (Nat.blt k 2) (cond (Nat.beq k 1) (some (some 33)) none) (cond (Nat.beq k 2) (some (some 34)) none))) (cond (Nat.blt k 4) (cond (Nat.beq k 3) (some (some 35)) none) (cond (Nat.blt k 5) (cond (Nat.beq k 4) (some (some 36)) none) (cond (Nat.beq k 5) (some (some 37)) none))) = some r) : gp_R (cH263 L xs) 31 k = r := (gp_tn (P := fun r => gp_R (cH263 L xs) 31 k = r) (gp_tn (P := fun r => gp_R (cH263 L xs) 31 k = r) (fun e => by have z := gp_cond_none e; have ek := Nat.eq_of_beq_eq_true z.1; subst ek; have er := Option.some.inj z.2; subst er; rfl) (gp_tn (P := fun r => gp_R (cH263 L xs) 31 k = r) (fun e => by have z := gp_cond_none e; have ek := Nat.eq_of_beq_eq_true z.1; subst ek; have er := Option.some.inj z.2; subst er; rfl) (fun e => by have z := gp_cond_none e; have ek := Nat.eq_of_beq_eq_true z.1; subst ek; have er := Option.some.inj z.2; subst er; rfl))) (gp_tn (P := fun r => gp_R (cH263 L xs) 31 k = r) (fun e => by have z := gp_cond_none e; have ek := Nat.eq_of_beq_eq_true z.1; subst ek; have er := Option.some.inj z.2; subst er; rfl) (gp_tn (P := fun r => gp_R (cH263 L xs) 31 k = r) (fun e => by have z := gp_cond_none e; have ek := Nat.eq_of_beq_eq_true z.1; subst ek; have er := Option.some.inj z.2; subst er; rfl) (fun e => by have z := gp_cond_none e; have ek := Nat.eq_of_beq_eq_true z.1; subst ek; have er := Option.some.inj z.2; subst er; rfl)))) h
set_option maxHeartbeats 1000000 in
set_option maxRecDepth 1000000 in
theorem cf_R38 {L : Nat} {xs : Nat → Int32} {k : Nat} {r : Option Nat} (h : cond (Nat.blt k 1) (cond (Nat.beq k 0) (some (some 39)) none) (cond (Nat.beq k 1) (some (some 40)) none) = some r) : gp_R (cH263 L xs) 38 k = r := (gp_tn (P := fun r => gp_R (cH263 L xs) 38 k = r) (fun e => by have z := gp_cond_none e; have ek := Nat.eq_of_beq_eq_true z.1; subst ek; have er := Option.some.inj z.2; subst er; rfl) (fun e => by have z := gp_cond_none e; have ek := Nat.eq_of_beq_eq_true z.1; subst ek; have er := Option.some.inj z.2; subst er; rfl)) h
set_option maxHeartbeats 1000000 in
set_option maxRecDepth 1000000 in
theorem cf_R41 {L : Nat} {xs : Nat → Int32} {k : Nat} {r : Option Nat} (h : cond (Nat.blt k 2) (cond (Nat.blt k 1) (cond (Nat.beq k 0) (some (some 6)) none) (cond (Nat.beq k 1) (some (some 31)) none)) (cond (Nat.blt k 3) (cond (Nat.beq k 2) (some (some 42)) none) (cond (Nat.beq k 3) (some (some 45)) none)) = some r) : gp_R (cH263 L xs) 41 k = r := (gp_tn (P := fun r => gp_R (cH263 L xs) 41 k = r) (gp_tn (P := fun r => gp_R (cH263 L xs) 41 k = r) (fun e => by have z := gp_cond_none e; have ek := Nat.eq_of_beq_eq_true z.1; subst ek; have er := Option.some.inj z.2; subst er; rfl) (fun e => by have z := gp_cond_none e; have ek := Nat.eq_of_beq_eq_true z.1; subst ek; have er := Option.some.inj z.2; subst er; rfl)) (gp_tn (P := fun r => gp_R (cH263 L xs) 41 k = r) (fun e => by have z := gp_cond_none e; have ek := Nat.eq_of_beq_eq_true z.1; subst ek; have er := Option.some.inj z.2; subst er; rfl) (fun e => by have z := gp_cond_none e; have ek := Nat.eq_of_beq_eq_true z.1; subst ek; have er := Option.some.inj z.2; subst er; rfl))) h
set_option maxHeartbeats 1000000 in
set_option maxRecDepth 1000000 in
theorem cf_R42 {L : Nat} {xs : Nat → Int32} {k : Nat} {r : Option Nat} (h : cond (Nat.blt k 1) (cond (Nat.beq k 0) (some (some 43)) none) (cond (Nat.beq k 1) (some (some 44)) none) = some r) : gp_R (cH263 L xs) 42 k = r := (gp_tn (P := fun r => gp_R (cH263 L xs) 42 k = r) (fun e => by have z := gp_cond_none e; have ek := Nat.eq_of_beq_eq_true z.1; subst ek; have er := Option.some.inj z.2; subst er; rfl) (fun e => by have z := gp_cond_none e; have ek := Nat.eq_of_beq_eq_true z.1; subst ek; have er := Option.some.inj z.2; subst er; rfl)) h
set_option maxHeartbeats 1000000 in
set_option maxRecDepth 1000000 in
theorem cf_R46 {L : Nat} {xs : Nat → Int32} {k : Nat} {r : Option Nat} (h : cond (Nat.blt k 1) (cond (Nat.beq k 0) (some (some 6)) none) (cond (Nat.blt k 2) (cond (Nat.beq k 1) (some (some 20)) none) (cond (Nat.beq k 2) (some (some 47)) none)) = some r) : gp_R (cH263 L xs) 46 k = r := (gp_tn (P := fun r => gp_R (cH263 L xs) 46 k = r) (fun e => by have z := gp_cond_none e; have ek := Nat.eq_of_beq_eq_true z.1; subst ek; have er := Option.some.inj z.2; subst er; rfl) (gp_tn (P := fun r => gp_R (cH263 L xs) 46 k = r) (fun e => by have z := gp_cond_none e; have ek := Nat.eq_of_beq_eq_true z.1; subst ek; have er := Option.some.inj z.2; subst er; rfl) (fun e => by have z := gp_cond_none e; have ek := Nat.eq_of_beq_eq_true z.1; subst ek; have er := Option.some.inj z.2; subst er; rfl))) h
set_option maxHeartbeats 1000000 in
set_option maxRecDepth 1000000 in
theorem cf_R48 {L : Nat} {xs : Nat → Int32} {k : Nat} {r : Option Nat} (h : cond (Nat.blt k 1) (cond (Nat.beq k 0) (some (some 6)) none) (cond (Nat.blt k 3) (cond (Nat.beq k 1) (some (some 49)) none) (cond (Nat.beq k 3) (some (some 50)) none)) = some r) : gp_R (cH263 L xs) 48 k = r := (gp_tn (P := fun r => gp_R (cH263 L xs) 48 k = r) (fun e => by have z := gp_cond_none e; have ek := Nat.eq_of_beq_eq_true z.1; subst ek; have er := Option.some.inj z.2; subst er; rfl) (gp_tn (P := fun r => gp_R (cH263 L xs) 48 k = r) (fun e => by have z := gp_cond_none e; have ek := Nat.eq_of_beq_eq_true z.1; subst ek; have er := Option.some.inj z.2; subst er; rfl) (fun e => by have z := gp_cond_none e; have ek := Nat.eq_of_beq_eq_true z.1; subst ek; have er := Option.some.inj z.2; subst er; rfl))) h
set_option maxHeartbeats 1000000 in
set_option maxRecDepth 1000000 in
theorem cf_R51 {L : Nat} {xs : Nat → Int32} {k : Nat} {r : Option Nat} (h : cond (Nat.blt k 3) (cond (Nat.blt k 1) (cond (Nat.beq k 0) (some (some 52)) none) (cond (Nat.beq k 1) (some (some 53)) none)) (cond (Nat.blt k 5) (cond (Nat.beq k 3) (some (some 54)) none) (cond (Nat.beq k 5) (some (some 25)) none)) = some r) : gp_R (cH263 L xs) 51 k = r := (gp_tn (P := fun r => gp_R (cH263 L xs) 51 k = r) (gp_tn (P := fun r => gp_R (cH263 L xs) 51 k = r) (fun e => by have z := gp_cond_none e; have ek := Nat.eq_of_beq_eq_true z.1; subst ek; have er := Option.some.inj z.2; subst er; rfl) (fun e => by have z := gp_cond_none e; have ek := Nat.eq_of_beq_eq_true z.1; subst ek; have er := Option.some.inj z.2; subst er; rfl)) (gp_tn (P := fun r => gp_R (cH263 L xs) 51 k = r) (fun e => by have z := gp_cond_none e; have ek := Nat.eq_of_beq_eq_true z.1; subst ek; have er := Option.some.inj z.2; subst er; rfl) (fun e => by have z := gp_cond_none e; have ek := Nat.eq_of_beq_eq_true z.1; subst ek; have er := Option.some.inj z.2; subst er; rfl))) h
set_option maxHeartbeats 1000000 in
set_option maxRecDepth 1000000 in
theorem cf_R57 {L : Nat} {xs : Nat → Int32} {k : Nat} {r : Option Nat} (h : cond (Nat.blt k 4) (cond (Nat.beq k 0) (some (some 60)) none) (cond (Nat.blt k 5) (cond (Nat.beq k 4) (some (some 58)) none) (cond (Nat.beq k 5) (some (some 59)) none)) = some r) : gp_R (cH263 L xs) 57 k = r := (gp_tn (P := fun r => gp_R (cH263 L xs) 57 k = r) (fun e => by have z := gp_cond_none e; have ek := Nat.eq_of_beq_eq_true z.1; subst ek; have er := Option.some.inj z.2; subst er; rfl) (gp_tn (P := fun r => gp_R (cH263 L xs) 57 k = r) (fun e => by have z := gp_cond_none e; have ek := Nat.eq_of_beq_eq_true z.1; subst ek; have er := Option.some.inj z.2; subst er; rfl) (fun e => by have z := gp_cond_none e; have ek := Nat.eq_of_beq_eq_true z.1; subst ek; have er := Option.some.inj z.2; subst er; rfl))) h
set_option maxHeartbeats 1000000 in
set_option maxRecDepth 1000000 in
theorem cf_R60 {L : Nat} {xs : Nat → Int32} {k : Nat} {r : Option Nat} (h : cond (Nat.blt k 3) (cond (Nat.blt k 1) (cond (Nat.beq k 0) (some (some 61)) none) (cond (Nat.beq k 1) (some (some 62)) none)) (cond (Nat.blt k 5) (cond (Nat.beq k 3) (some (some 63)) none) (cond (Nat.beq k 5) (some (some 25)) none)) = some r) : gp_R (cH263 L xs) 60 k = r := (gp_tn (P := fun r => gp_R (cH263 L xs) 60 k = r) (gp_tn (P := fun r => gp_R (cH263 L xs) 60 k = r) (fun e => by have z := gp_cond_none e; have ek := Nat.eq_of_beq_eq_true z.1; subst ek; have er := Option.some.inj z.2; subst er; rfl) (fun e => by have z := gp_cond_none e; have ek := Nat.eq_of_beq_eq_true z.1; subst ek; have er := Option.some.inj z.2; subst er; rfl)) (gp_tn (P := fun r => gp_R (cH263 L xs) 60 k = r) (fun e => by have z := gp_cond_none e; have ek := Nat.eq_of_beq_eq_true z.1; subst ek; have er := Option.some.inj z.2; subst er; rfl) (fun e => by have z := gp_cond_none e; have ek := Nat.eq_of_beq_eq_true z.1; subst ek; have er := Option.some.inj z.2; subst er; rfl))) h
set_option maxHeartbeats 1000000 in
set_option maxRecDepth 1000000 in
theorem cf_R66 {L : Nat} {xs : Nat → Int32} {k : Nat} {r : Option Nat} (h : cond (Nat.blt k 1) (cond (Nat.beq k 0) (some (some 67)) none) (cond (Nat.blt k 2) (cond (Nat.beq k 1) (some (some 72)) none) (cond (Nat.beq k 2) (some (some 73)) none)) = some r) : gp_R (cH263 L xs) 66 k = r := (gp_tn (P := fun r => gp_R (cH263 L xs) 66 k = r) (fun e => by have z := gp_cond_none e; have ek := Nat.eq_of_beq_eq_true z.1; subst ek; have er := Option.some.inj z.2; subst er; rfl) (gp_tn (P := fun r => gp_R (cH263 L xs) 66 k = r) (fun e => by have z := gp_cond_none e; have ek := Nat.eq_of_beq_eq_true z.1; subst ek; have er := Option.some.inj z.2; subst er; rfl) (fun e => by have z := gp_cond_none e; have ek := Nat.eq_of_beq_eq_true z.1; subst ek; have er := Option.some.inj z.2; subst er; rfl))) h
set_option maxHeartbeats 1000000 in
set_option maxRecDepth 1000000 in
theorem cf_R67 {L : Nat} {xs : Nat → Int32} {k : Nat} {r : Option Nat} (h : cond (Nat.blt k 2) (cond (Nat.blt k 1) (cond (Nat.beq k 0) (some (some 68)) none) (cond (Nat.beq k 1) (some (some 69)) none)) (cond (Nat.blt k 3) (cond (Nat.beq k 2) (some (some 70)) none) (cond (Nat.beq k 3) (some (some 71)) none)) = some r) : gp_R (cH263 L xs) 67 k = r := (gp_tn (P := fun r => gp_R (cH263 L xs) 67 k = r) (gp_tn (P := fun r => gp_R (cH263 L xs) 67 k = r) (fun e => by have z := gp_cond_none e; have ek := Nat.eq_of_beq_eq_true z.1; subst ek; have er := Option.some.inj z.2; subst er; rfl) (fun e => by have z := gp_cond_none e; have ek := Nat.eq_of_beq_eq_true z.1; subst ek; have er := Option.some.inj z.2; subst er; rfl)) (gp_tn (P := fun r => gp_R (cH263 L xs) 67 k = r) (fun e => by have z := gp_cond_none e; have ek := Nat.eq_of_beq_eq_true z.1; subst ek; have er := Option.some.inj z.2; subst er; rfl) (fun e => by have z := gp_cond_none e; have ek := Nat.eq_of_beq_eq_true z.1; subst ek; have er := Option.some.inj z.2; subst er; rfl))) h
set_option maxHeartbeats 1000000 in
set_option maxRecDepth 1000000 in
theorem cf_R74 {L : Nat} {xs : Nat → Int32} {k : Nat} {r : Option Nat} (h : cond (Nat.blt k 26) (cond (Nat.blt k 14) (cond (Nat.blt k 5) (cond (Nat.blt k 2) (cond (Nat.blt k 1) (cond (Nat.beq k 0) (some (some 75)) none) (cond (Nat.beq k 1) (some (some 76)) none)) (cond (Nat.blt k 3) (cond (Nat.beq k 2) (some (some 77)) none) (cond (Nat.blt k 4) (cond (Nat.beq k 3) (some (some 78)) none) (cond (Nat.beq k 4) (some (some 79)) none)))) (cond (Nat.blt k 10) (cond (Nat.blt k 6) (cond (Nat.beq k 5) (some (some 80)) none) (cond (Nat.beq k 6) (some (some 81)) none)) (cond (Nat.blt k 12) (cond (Nat.beq k 10) (some (some 82)) none) (cond (Nat.blt k 13) (cond (Nat.beq k 12) (some (some 83)) none) (cond (Nat.beq k 13) (some (some 84)) none))))) (cond (Nat.blt k 20) (cond (Nat.blt k 17) (cond (Nat.blt k 16) (cond (Nat.beq k 14) (some (some 85)) none) (cond (Nat.beq k 16) (some (some 86)) none)) (cond (Nat.blt k 18) (cond (Nat.beq k 17) (some (some 87)) none) (cond (Nat.blt k 19) (cond (Nat.beq k 18) (some (some 88)) none) (cond (Nat.beq k 19) (some (some 89)) none)))) (cond (Nat.blt k 23) (cond (Nat.blt k 21) (cond (Nat.beq k 20) (some (some 90)) none) (cond (Nat.blt k 22) (cond (Nat.beq k 21) (some (some 91)) none) (cond (Nat.beq k 22) (some (some 92)) none))) (cond (Nat.blt k 24) (cond (Nat.beq k 23) (some (some 93)) none) (cond (Nat.blt k 25) (cond (Nat.beq k 24) (some (some 94)) none) (cond (Nat.beq k 25) (some (some 95)) none)))))) (cond (Nat.blt k 47) (cond (Nat.blt k 31) (cond (Nat.blt k 28) (cond (Nat.blt k 27) (cond (Nat.beq k 26) (some (some 96)) none) (cond (Nat.beq k 27) (some (some 97)) none)) (cond (Nat.blt k 29) (cond (Nat.beq k 28) (some (some 98)) none) (cond (Nat.blt k 30) (cond (Nat.beq k 29) (some (some 99)) none) (cond (Nat.beq k 30) (some (some 100)) none)))) (cond (Nat.blt k 33) (cond (Nat.blt k 32) (cond (Nat.beq k 31) (some (some 101)) none) (cond (Nat.beq k 32) (some (some 102)) none)) (cond (Nat.blt k 34) (cond (Nat.beq k 33) (some (some 103)) none) (cond (Nat.blt k 37) (cond (Nat.beq k 34) (some (some 104)) none) (cond (Nat.beq k 37) (some (some 105)) none))))) (cond (Nat.blt k 53) (cond (Nat.blt k 50) (cond (Nat.blt k 48) (cond (Nat.beq k 47) (some (some 106)) none) (cond (Nat.beq k 48) (some (some 107)) none)) (cond (Nat.blt k 51) (cond (Nat.beq k 50) (some (some 108)) none) (cond (Nat.blt k 52) (cond (Nat.beq k 51) (some (some 109)) none) (cond (Nat.beq k 52) (some (some 110)) none)))) (cond (Nat.blt k 60) (cond (Nat.blt k 54) (cond (Nat.beq k 53) (some (some 111)) none) (cond (Nat.blt k 59) (cond (Nat.beq k 54) (some (some 112)) none) (cond (Nat.beq k 59) (some (some 113)) none))) (cond (Nat.blt k 61) (cond (Nat.beq k 60) (some (some 114)) none) (cond (Nat.blt k 62) (cond (Nat.beq k 61) (some (some 115)) none) (cond (Nat.beq k 62) (some (some 116)) none)))))) = some r) : gp_R (cH263 L xs) 74 k = r := (gp_tn (P := fun r => gp_R (cH263 L xs) 74 k = r) (gp_tn (P := fun r => gp_R (cH263 L xs) 74 k = r) (gp_tn (P := fun r => gp_R (cH263 L xs) 74 k = r) (gp_tn (P := fun r => gp_R (cH263 L xs) 74 k = r) (gp_tn (P := fun r => gp_R (cH263 L xs) 74 k = r) (fun e => by have z := gp_cond_none e; have ek := Nat.eq_of_beq_eq_true z.1; subst ek; have er := Option.some.inj z.2; subst er; rfl) (fun e => by have z := gp_cond_none e; have ek := Nat.eq_of_beq_eq_true z.1; subst ek; have er := Option.some.inj z.2; subst er; rfl)) (gp_tn (P := fun r => gp_R (cH263 L xs) 74 k = r) (fun e => by have z := gp_cond_none e; have ek := Nat.eq_of_beq_eq_true z.1; subst ek; have er := Option.some.inj z.2; subst er; rfl) (gp_tn (P := fun r => gp_R (cH263 L xs) 74 k = r) (fun e => by have z := gp_cond_none e; have ek := Nat.eq_of_beq_eq_true z.1; subst ek; have er := Option.some.inj z.2; subst er; rfl) (fun e => by have z := gp_cond_none e; have ek := Nat.eq_of_beq_eq_true z.1; subst ek; have er := Option.some.inj z.2; subst er; rfl)))) (gp_tn (P := fun r => gp_R (cH263 L xs) 74 k = r) (gp_tn (P := fun r => gp_R (cH263 L xs) 74 k = r) (fun e => by have z := gp_cond_none e; have ek := Nat.eq_of_beq_eq_true z.1; subst ek; have er := Option.some.inj z.2; subst er; rfl) (fun e => by have z := gp_cond_none e; have ek := Nat.eq_of_beq_eq_true z.1; subst ek; have er := Option.some.inj z.2; subst er; rfl)) (gp_tn (P := fun r => gp_R (cH263 L xs) 74 k = r) (fun e => by have z := gp_cond_none e; have ek := Nat.eq_of_beq_eq_true z.1; subst ek; have er := Option.some.inj z.2; subst er; rfl) (gp_tn (P := fun r => gp_R (cH263 L xs) 74 k = r) (fun e => by have z := gp_cond_none e; have ek := Nat.eq_of_beq_eq_true z.1; subst ek; have er := Option.some.inj z.2; subst er; rfl) (fun e => by have z := gp_cond_none e; have ek := Nat.eq_of_beq_eq_true z.1; subst ek; have er := Option.some.inj z.2; subst er; rfl))))) (gp_tn (P := fun r => gp_R (cH263 L xs) 74 k = r) (gp_tn (P := fun r => gp_R (cH263 L xs) 74 k = r) (gp_tn (P := fun r => gp_R (cH263 L xs) 74 k = r) (fun e => by have z := gp_cond_none e; have ek := Nat.eq_of_beq_eq_true z.1; subst ek; have er := Option.some.inj z.2; subst er; rfl) (fun e => by have z := gp_cond_none e; have ek := Nat.eq_of_beq_eq_true z.1; subst ek; have er := Option.some.inj z.2; subst er; rfl)) (gp_tn (P := fun r => gp_R (cH263 L xs) 74 k = r) (fun e => by have z := gp_cond_none e; have ek := Nat.eq_of_beq_eq_true z.1; subst ek; have er := Option.some.inj z.2; subst er; rfl) (gp_tn (P := fun r => gp_R (cH263 L xs) 74 k = r) (fun e => by have z := gp_cond_none e; have ek := Nat.eq_of_beq_eq_true z.1; subst ek; have er := Option.some.inj z.2; subst er; rfl) (fun e => by have z := gp_cond_none e; have ek := Nat.eq_of_beq_eq_true z.1; subst ek; have er := Option.some.inj z.2; subst er; rfl)))) (gp_tn (P := fun r => gp_R (cH263 L xs) 74 k = r) (gp_tn (P := fun r => gp_R (cH263 L xs) 74 k = r) (fun e => by have z := gp_cond_none e; have ek := Nat.eq_of_beq_eq_true z.1; subst ek; have er := Option.some.inj z.2; subst er; rfl) (gp_tn (P := fun r => gp_R (cH263 L xs) 74 k = r) (fun e => by have z := gp_cond_none e; have ek := Nat.eq_of_beq_eq_true z.1; subst ek; have er := Option.some.inj z.2; subst er; rfl) (fun e => by have z := gp_cond_none e; have ek := Nat.eq_of_beq_eq_true z.1; subst ek; have er := Option.some.inj z.2; subst er; rfl))) (gp_tn (P := fun r => gp_R (cH263 L xs) 74 k = r) (fun e => by have z := gp_cond_none e; have ek := Nat.eq_of_beq_eq_true z.1; subst ek; have er := Option.some.inj z.2; subst er; rfl) (gp_tn (P := fun r => gp_R (cH263 L xs) 74 k = r) (fun e => by have z := gp_cond_none e; have ek := Nat.eq_of_beq_eq_true z.1; subst ek; have er := Option.some.inj z.2; subst er; rfl) (fun e => by have z := gp_cond_none e; have ek := Nat.eq_of_beq_eq_true z.1; subst ek; have er := Option.some.inj z.2; subst er; rfl)))))) (gp_tn (P := fun r => gp_R (cH263 L xs) 74 k = r) (gp_tn (P := fun r => gp_R (cH263 L xs) 74 k = r) (gp_tn (P := fun r => gp_R (cH263 L xs) 74 k = r) (gp_tn (P := fun r => gp_R (cH263 L xs) 74 k = r) (fun e => by have z := gp_cond_none e; have ek := Nat.eq_of_beq_eq_true z.1; subst ek; have er := Option.some.inj z.2; subst er; rfl) (fun e => by have z := gp_cond_none e; have ek := Nat.eq_of_beq_eq_true z.1; subst ek; have er := Option.some.inj z.2; subst er; rfl)) (gp_tn (P := fun r => gp_R (cH263 L xs) 74 k = r) (fun e => by have z := gp_cond_none e; have ek := Nat.eq_of_beq_eq_true z.1; subst ek; have er := Option.some.inj z.2; subst er; rfl) (gp_tn (P := fun r => gp_R (cH263 L xs) 74 k = r) (fun e => by have z := gp_cond_none e; have ek := Nat.eq_of_beq_eq_true z.1; subst ek; have er := Option.some.inj z.2; subst er; rfl) (fun e => by have z := gp_cond_none e; have ek := Nat.eq_of_beq_eq_true z.1; subst ek; have er := Option.some.inj z.2; subst er; rfl)))) (gp_tn (P := fun r => gp_R (cH263 L xs) 74 k = r) (gp_tn (P := fun r => gp_R (cH263 L xs) 74 k = r) (fun e => by have z := gp_cond_none e; have ek := Nat.eq_of_beq_eq_true z.1; subst ek; have er := Option.some.inj z.2; subst er; rfl) (fun e => by have z := gp_cond_none e; have ek := Nat.eq_of_beq_eq_true z.1; subst ek; have er := Option.some.inj z.2; subst er; rfl)) (gp_tn (P := fun r => gp_R (cH263 L xs) 74 k = r) (fun e => by have z := gp_cond_none e; have ek := Nat.eq_of_beq_eq_true z.1; subst ek; have er := Option.some.inj z.2; subst er; rfl) (gp_tn (P := fun r => gp_R (cH263 L xs) 74 k = r) (fun e => by have z := gp_cond_none e; have ek := Nat.eq_of_beq_eq_true z.1; subst ek; have er := Option.some.inj z.2; subst er; rfl) (fun e => by have z := gp_cond_none e; have ek := Nat.eq_of_beq_eq_true z.1; subst ek; have er := Option.some.inj z.2; subst er; rfl))))) (gp_tn (P := fun r => gp_R (cH263 L xs) 74 k = r) (gp_tn (P := fun r => gp_R (cH263 L xs) 74 k = r) (gp_tn (P := fun r => gp_R (cH263 L xs) 74 k = r) (fun e => by have z := gp_cond_none e; have ek := Nat.eq_of_beq_eq_true z.1; subst ek; have er := Option.some.inj z.2; subst er; rfl) (fun e => by have z := gp_cond_none e; have ek := Nat.eq_of_beq_eq_true z.1; subst ek; have er := Option.some.inj z.2; subst er; rfl)) (gp_tn (P := fun r => gp_R (cH263 L xs) 74 k = r) (fun e => by have z := gp_cond_none e; have ek := Nat.eq_of_beq_eq_true z.1; subst ek; have er := Option.some.inj z.2; subst er; rfl) (gp_tn (P := fun r => gp_R (cH263 L xs) 74 k = r) (fun e => by have z := gp_cond_none e; have ek := Nat.eq_of_beq_eq_true z.1; subst ek; have er := Option.some.inj z.2; subst er; rfl) (fun e => by have z := gp_cond_none e; have ek := Nat.eq_of_beq_eq_true z.1; subst ek; have er := Option.some.inj z.2; subst er; rfl)))) (gp_tn (P := fun r => gp_R (cH263 L xs) 74 k = r) (gp_tn (P := fun r => gp_R (cH263 L xs) 74 k = r) (fun e => by have z := gp_cond_none e; have ek := Nat.eq_of_beq_eq_true z.1; subst ek; have er := Option.some.inj z.2; subst er; rfl) (gp_tn (P := fun r => gp_R (cH263 L xs) 74 k = r) (fun e => by have z := gp_cond_none e; have ek := Nat.eq_of_beq_eq_true z.1; subst ek; have er := Option.some.inj z.2; subst er; rfl) (fun e => by have z := gp_cond_none e; have ek := Nat.eq_of_beq_eq_true z.1; subst ek; have er := Option.some.inj z.2; subst er; rfl))) (gp_tn (P := fun r => gp_R (cH263 L xs) 74 k = r) (fun e => by have z := gp_cond_none e; have ek := Nat.eq_of_beq_eq_true z.1; subst ek; have er := Option.some.inj z.2; subst er; rfl) (gp_tn (P := fun r => gp_R (cH263 L xs) 74 k = r) (fun e => by have z := gp_cond_none e; have ek := Nat.eq_of_beq_eq_true z.1; subst ek; have er := Option.some.inj z.2; subst er; rfl) (fun e => by have z := gp_cond_none e; have ek := Nat.eq_of_beq_eq_true z.1; subst ek; have er := Option.some.inj z.2; subst er; rfl))))))) h
set_option maxHeartbeats 1000000 in
theorem cf_R {L : Nat} {xs : Nat → Int32} {a k : Nat} {r : Option Nat} (h : gp_sR a k = some r) : gp_R (cH263 L xs) a k = r := by
  unfold gp_sR at h
  exact (gp_tn (P := fun r => gp_R (cH263 L xs) a k = r) (gp_tn (P := fun r => gp_R (cH263 L xs) a k = r) (gp_tn (P := fun r => gp_R (cH263 L xs) a k = r) (gp_tn (P := fun r => gp_R (cH263 L xs) a k = r) (fun e => by have z := gp_cond_none e; have ea := Nat.eq_of_beq_eq_true z.1; subst ea; exact cf_R1 z.2) (fun e => by have z := gp_cond_none e; have ea := Nat.eq_of_beq_eq_true z.1; subst ea; exact cf_R6 z.2)) (gp_tn (P := fun r => gp_R (cH263 L xs) a k = r) (fun e => by have z := gp_cond_none e; have ea := Nat.eq_of_beq_eq_true z.1; subst ea; exact cf_R7 z.2) (fun e => by have z := gp_cond_none e; have ea := Nat.eq_of_beq_eq_true z.1; subst ea; exact cf_R20 z.2))) (gp_tn (P := fun r => gp_R (cH263 L xs) a k = r) (gp_tn (P := fun r => gp_R (cH263 L xs) a k = r) (fun e => by have z := gp_cond_none e; have ea := Nat.eq_of_beq_eq_true z.1; subst ea; exact cf_R25 z.2) (fun e => by have z := gp_cond_none e; have ea := Nat.eq_of_beq_eq_true z.1; subst ea; exact cf_R31 z.2)) (gp_tn (P := fun r => gp_R (cH263 L xs) a k = r) (fun e => by have z := gp_cond_none e; have ea := Nat.eq_of_beq_eq_true z.1; subst ea; exact cf_R38 z.2) (fun e => by have z := gp_cond_none e; have ea := Nat.eq_of_beq_eq_true z.1; subst ea; exact cf_R41 z.2)))) (gp_tn (P := fun r => gp_R (cH263 L xs) a k = r) (gp_tn (P := fun r => gp_R (cH263 L xs) a k = r) (gp_tn (P := fun r => gp_R (cH263 L xs) a k = r) (fun e => by have z := gp_cond_none e; have ea := Nat.eq_of_beq_eq_true z.1; subst ea; exact cf_R42 z.2) (fun e => by have z := gp_cond_none e; have ea := Nat.eq_of_beq_eq_true z.1; subst ea; exact cf_R46 z.2)) (gp_tn (P := fun r => gp_R (cH263 L xs) a k = r) (fun e => by have z := gp_cond_none e; have ea := Nat.eq_of_beq_eq_true z.1; subst ea; exact cf_R48 z.2) (fun e => by have z := gp_cond_none e; have ea := Nat.eq_of_beq_eq_true z.1; subst ea; exact cf_R51 z.2))) (gp_tn (P := fun r => gp_R (cH263 L xs) a k = r) (gp_tn (P := fun r => gp_R (cH263 L xs) a k = r) (fun e => by have z := gp_cond_none e; have ea := Nat.eq_of_beq_eq_true z.1; subst ea; exact cf_R57 z.2) (fun e => by have z := gp_cond_none e; have ea := Nat.eq_of_beq_eq_true z.1; subst ea; exact cf_R60 z.2)) (gp_tn (P := fun r => gp_R (cH263 L xs) a k = r) (fun e => by have z := gp_cond_none e; have ea := Nat.eq_of_beq_eq_true z.1; subst ea; exact cf_R66 z.2) (gp_tn (P := fun r => gp_R (cH263 L xs) a k = r) (fun e => by have z := gp_cond_none e; have ea := Nat.eq_of_beq_eq_true z.1; subst ea; exact cf_R67 z.2) (fun e => by have z := gp_cond_none e; have ea := Nat.eq_of_beq_eq_true z.1; subst ea; exact cf_R74 z.2)))))) h
set_option maxHeartbeats 1000000 in
theorem cf_mk (L : Nat) (xs : Nat → Int32) : gp_mk L (cH263 L xs) = cH263 L xs := by
  have e1 : gp_sh (gp_mk L (cH263 L xs)) = gp_sh (cH263 L xs) := funext (cf_sh L xs)
  have e2 : gp_R (gp_mk L (cH263 L xs)) = gp_R (cH263 L xs) := by
    funext a k
    show (match gp_sR a k with | some r => r | none => gp_R (cH263 L xs) a k) = gp_R (cH263 L xs) a k
    cases e : gp_sR a k with
    | none => rfl
    | some r => exact (cf_R e).symm
  show ((cH263 L xs).1, (cH263 L xs).2.1, gp_sh (gp_mk L (cH263 L xs)), gp_I (cH263 L xs), gp_L (cH263 L xs), gp_R (gp_mk L (cH263 L xs))) = _
  rw [e1, e2]
