theorem s4a {e0 e1 E1 E2 y : Nat} (q0 : e0 + 256 * E1 = y) (q1 : e1 + 256 * E2 = E1) : y + E1 = (e0 + e1) + 256 * (E1 + E2) := by omega
theorem s4b {f0 f1 Z : Nat} (h0 : f0 ≤ 28) (h1 : f1 ≤ 28) : (f0 + 256 * (f1 + 256 * Z)) / 65536 = Z := by omega
theorem s4c {a b c d A B : Nat} {f : Nat} (h : A = a + 256 * B) (g : c = d + 256 * f) : A + c = (a + d) + 256 * (B + f) := by omega
theorem s4d {g0 g1 g2 g3 Z : Nat} (h0 : g0 ≤ 56) (h1 : g1 ≤ 56) (h2 : g2 ≤ 56) (h3 : g3 ≤ 56) : (g0 + 256 * (g1 + 256 * (g2 + 256 * (g3 + 256 * Z)))) / 4294967296 = Z := by omega
theorem s4e {g0 g4 Z Z2 : Nat} (h0 : g0 + g4 ≤ 112) : (g0 + 256 * Z + (g4 + 256 * Z2)) % 128 = g0 + g4 := by omega
theorem s4f {e E B : Nat} {y : Nat} (q : e + 256 * E = y) (he : e ≤ 14) (hE : E ≤ B) : y ≤ 14 + 256 * B := by omega
theorem st4b {y : Nat} (h : b14 8 y) : ∃ y1 y2 y3, y1 = y + y / 256 ∧ y1 < 2 ^ 62 ∧ y2 = y1 + y1 / 65536 ∧ y2 < 2 ^ 63 ∧ y3 = y2 + y2 / 4294967296 ∧ y3 < 2 ^ 64 ∧ y3 % 128 = ds 256 8 y := by
  obtain ⟨a0, a1, a2, a3, a4, a5, a6, a7, a8⟩ := h
  have hd : ds 256 8 y = y % 256 + (y / 256 % 256 + (y / 256 / 256 % 256 + (y / 256 / 256 / 256 % 256 + (y / 256 / 256 / 256 / 256 % 256 + (y / 256 / 256 / 256 / 256 / 256 % 256 + (y / 256 / 256 / 256 / 256 / 256 / 256 % 256 + (y / 256 / 256 / 256 / 256 / 256 / 256 / 256 % 256 + 0))))))) := rfl
  rw [hd]
  clear hd
  have q0 := Nat.mod_add_div y 256
  generalize y % 256 = e0 at a0 q0 ⊢
  generalize y / 256 = E1 at a1 a2 a3 a4 a5 a6 a7 a8 q0 ⊢
  have q1 := Nat.mod_add_div E1 256
  generalize E1 % 256 = e1 at a1 q1 ⊢
  generalize E1 / 256 = E2 at a2 a3 a4 a5 a6 a7 a8 q1 ⊢
  have q2 := Nat.mod_add_div E2 256
  generalize E2 % 256 = e2 at a2 q2 ⊢
  generalize E2 / 256 = E3 at a3 a4 a5 a6 a7 a8 q2 ⊢
  have q3 := Nat.mod_add_div E3 256
  generalize E3 % 256 = e3 at a3 q3 ⊢
  generalize E3 / 256 = E4 at a4 a5 a6 a7 a8 q3 ⊢
  have q4 := Nat.mod_add_div E4 256
  generalize E4 % 256 = e4 at a4 q4 ⊢
  generalize E4 / 256 = E5 at a5 a6 a7 a8 q4 ⊢
  have q5 := Nat.mod_add_div E5 256
  generalize E5 % 256 = e5 at a5 q5 ⊢
  generalize E5 / 256 = E6 at a6 a7 a8 q5 ⊢
  have q6 := Nat.mod_add_div E6 256
  generalize E6 % 256 = e6 at a6 q6 ⊢
  generalize E6 / 256 = E7 at a7 a8 q6 ⊢
  have q7 := Nat.mod_add_div E7 256
  generalize E7 % 256 = e7 at a7 q7 ⊢
  generalize E7 / 256 = E8 at a8 q7
  have b7 : E7 ≤ 14 := by subst a8; clear q0 q1 q2 q3 q4 q5 q6; omega
  have b6 := s4f q6 a6 b7
  have b5 := s4f q5 a5 b6
  have b4 := s4f q4 a4 b5
  have b3 := s4f q3 a3 b4
  have b2 := s4f q2 a2 b3
  have b1 := s4f q1 a1 b2
  have b0 := s4f q0 a0 b1
  have f0 := s4a q0 q1
  have f1 := s4a q1 q2
  have f2 := s4a q2 q3
  have f3 := s4a q3 q4
  have f4 := s4a q4 q5
  have f5 := s4a q5 q6
  have f6 := s4a q6 q7
  clear q0 q1 q2 q3 q4 q5 q6 q7
  have r1 : (y + E1) / 65536 = E2 + E3 := by
    rw [f0, f1]
    exact s4b (by clear b0 b1 b2 b3 b4 b5 b6 b7 f0 f1 f2 f3 f4 f5 f6; omega) (by clear b0 b1 b2 b3 b4 b5 b6 b7 f0 f1 f2 f3 f4 f5 f6; omega)
  have g0 : y + E1 + (E2 + E3) = (e0 + e1 + (e2 + e3)) + 256 * (E1 + E2 + (E3 + E4)) := by rw [f0, f2]; clear b0 b1 b2 b3 b4 b5 b6 b7 f0 f1 f2 f3 f4 f5 f6 r1; omega
  have g1 : E1 + E2 + (E3 + E4) = (e1 + e2 + (e3 + e4)) + 256 * (E2 + E3 + (E4 + E5)) := by rw [f1, f3]; clear b0 b1 b2 b3 b4 b5 b6 b7 f0 f1 f2 f3 f4 f5 f6 r1 g0; omega
  have g2 : E2 + E3 + (E4 + E5) = (e2 + e3 + (e4 + e5)) + 256 * (E3 + E4 + (E5 + E6)) := by rw [f2, f4]; clear b0 b1 b2 b3 b4 b5 b6 b7 f0 f1 f2 f3 f4 f5 f6 r1 g0 g1; omega
  have g3 : E3 + E4 + (E5 + E6) = (e3 + e4 + (e5 + e6)) + 256 * (E4 + E5 + (E6 + E7)) := by rw [f3, f5]; clear b0 b1 b2 b3 b4 b5 b6 b7 f0 f1 f2 f3 f4 f5 f6 r1 g0 g1 g2; omega
  have g4 : E4 + E5 + (E6 + E7) = (e4 + e5 + (e6 + e7)) + 256 * (E5 + E6 + (E7 + E8)) := by rw [f4, f6]; clear b0 b1 b2 b3 b4 b5 b6 b7 f0 f1 f2 f3 f4 f5 f6 r1 g0 g1 g2 g3; omega
  have r2 : (y + E1 + (E2 + E3)) / 4294967296 = E4 + E5 + (E6 + E7) := by
    rw [g0, g1, g2, g3]
    clear b0 b1 b2 b3 b4 b5 b6 b7 f0 f1 f2 f3 f4 f5 f6 r1 g0 g1 g2 g3 g4
    exact s4d (by omega) (by omega) (by omega) (by omega)
  refine ⟨y + E1, y + E1 + (E2 + E3), y + E1 + (E2 + E3) + (E4 + E5 + (E6 + E7)), rfl, ?_, by rw [r1], ?_, by rw [r2], ?_, ?_⟩
  · clear f0 f1 f2 f3 f4 f5 f6 r1 g0 g1 g2 g3 g4 r2; omega
  · clear f0 f1 f2 f3 f4 f5 f6 r1 g0 g1 g2 g3 g4 r2; omega
  · clear f0 f1 f2 f3 f4 f5 f6 r1 g0 g1 g2 g3 g4 r2; omega
  · rw [g0, g4]
    clear b0 b1 b2 b3 b4 b5 b6 b7 f0 f1 f2 f3 f4 f5 f6 r1 g0 g1 g2 g3 g4 r2
    rw [s4e (by omega)]
    omega
