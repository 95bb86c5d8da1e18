/-! the class's heap: which cell is what (47 cells behind its constructor, then the doors) -/
def cSHl : List (Nat × Nat) := [(6, 12), (1, 5), (110, 4), (100, 6), (5, 5), (100, 160), (100, 3), (100, 40), (3, 3), (100, 6144), (101, 96), (2, 6), (100, 160), (115, 6), (114, 4), (4, 3), (100, 40), (4, 3), (100, 40), (4, 3), (100, 40), (4, 3), (100, 40), (5, 5), (100, 160), (100, 3), (100, 40), (5, 5), (100, 160), (100, 3), (100, 40), (5, 5), (100, 160), (100, 3), (100, 40), (5, 5), (100, 160), (100, 3), (100, 40), (5, 5), (100, 160), (100, 3), (100, 40), (5, 5), (100, 160), (100, 3), (100, 40)]
def cRRl : List (Nat × Nat × Nat) := [(0, 0, 1), (0, 1, 8), (0, 2, 11), (0, 3, 13), (0, 4, 14), (1, 2, 2), (1, 3, 3), (4, 0, 5), (4, 1, 6), (4, 2, 7), (8, 1, 9), (8, 2, 10), (11, 1, 12), (13, 0, 23), (13, 1, 27), (13, 2, 31), (13, 3, 35), (13, 4, 39), (13, 5, 43), (14, 0, 15), (14, 1, 17), (14, 2, 19), (14, 3, 21), (15, 2, 16), (17, 2, 18), (19, 2, 20), (21, 2, 22), (23, 0, 24), (23, 1, 25), (23, 2, 26), (27, 0, 28), (27, 1, 29), (27, 2, 30), (31, 0, 32), (31, 1, 33), (31, 2, 34), (35, 0, 36), (35, 1, 37), (35, 2, 38), (39, 0, 40), (39, 1, 41), (39, 2, 42), (43, 0, 44), (43, 1, 45), (43, 2, 46)]
/-- the shape and the references of the class's heap, with nd doors -/
def cK (nd : Nat) (sh : Nat → Nat × Nat) (R : Nat → Nat → Option Nat) : Prop := (∀ p ∈ cSHl.zipIdx, sh p.2 = p.1) ∧ (∀ i, i < nd → sh (47 + i) = (0, 7)) ∧ (∀ p ∈ cRRl, R p.1 p.2.1 = some p.2.2) ∧ (∀ i, i < nd → R 2 i = some (47 + i)) ∧ nd ≤ 4
section
variable {nd : Nat} {sh : Nat → Nat × Nat} {R : Nat → Nat → Option Nat}
theorem c_s0 (h : cK nd sh R) : sh 0 = (6, 12) := h.1 ((6, 12), 0) (by decide)
theorem c_s1 (h : cK nd sh R) : sh 1 = (1, 5) := h.1 ((1, 5), 1) (by decide)
theorem c_s2 (h : cK nd sh R) : sh 2 = (110, 4) := h.1 ((110, 4), 2) (by decide)
theorem c_s3 (h : cK nd sh R) : sh 3 = (100, 6) := h.1 ((100, 6), 3) (by decide)
theorem c_s4 (h : cK nd sh R) : sh 4 = (5, 5) := h.1 ((5, 5), 4) (by decide)
theorem c_s5 (h : cK nd sh R) : sh 5 = (100, 160) := h.1 ((100, 160), 5) (by decide)
theorem c_s6 (h : cK nd sh R) : sh 6 = (100, 3) := h.1 ((100, 3), 6) (by decide)
theorem c_s7 (h : cK nd sh R) : sh 7 = (100, 40) := h.1 ((100, 40), 7) (by decide)
theorem c_s8 (h : cK nd sh R) : sh 8 = (3, 3) := h.1 ((3, 3), 8) (by decide)
theorem c_s9 (h : cK nd sh R) : sh 9 = (100, 6144) := h.1 ((100, 6144), 9) (by decide)
theorem c_s10 (h : cK nd sh R) : sh 10 = (101, 96) := h.1 ((101, 96), 10) (by decide)
theorem c_s11 (h : cK nd sh R) : sh 11 = (2, 6) := h.1 ((2, 6), 11) (by decide)
theorem c_s12 (h : cK nd sh R) : sh 12 = (100, 160) := h.1 ((100, 160), 12) (by decide)
theorem c_s13 (h : cK nd sh R) : sh 13 = (115, 6) := h.1 ((115, 6), 13) (by decide)
theorem c_s14 (h : cK nd sh R) : sh 14 = (114, 4) := h.1 ((114, 4), 14) (by decide)
theorem c_s15 (h : cK nd sh R) : sh 15 = (4, 3) := h.1 ((4, 3), 15) (by decide)
theorem c_s16 (h : cK nd sh R) : sh 16 = (100, 40) := h.1 ((100, 40), 16) (by decide)
theorem c_s17 (h : cK nd sh R) : sh 17 = (4, 3) := h.1 ((4, 3), 17) (by decide)
theorem c_s18 (h : cK nd sh R) : sh 18 = (100, 40) := h.1 ((100, 40), 18) (by decide)
theorem c_s19 (h : cK nd sh R) : sh 19 = (4, 3) := h.1 ((4, 3), 19) (by decide)
theorem c_s20 (h : cK nd sh R) : sh 20 = (100, 40) := h.1 ((100, 40), 20) (by decide)
theorem c_s21 (h : cK nd sh R) : sh 21 = (4, 3) := h.1 ((4, 3), 21) (by decide)
theorem c_s22 (h : cK nd sh R) : sh 22 = (100, 40) := h.1 ((100, 40), 22) (by decide)
theorem c_s23 (h : cK nd sh R) : sh 23 = (5, 5) := h.1 ((5, 5), 23) (by decide)
theorem c_s24 (h : cK nd sh R) : sh 24 = (100, 160) := h.1 ((100, 160), 24) (by decide)
theorem c_s25 (h : cK nd sh R) : sh 25 = (100, 3) := h.1 ((100, 3), 25) (by decide)
theorem c_s26 (h : cK nd sh R) : sh 26 = (100, 40) := h.1 ((100, 40), 26) (by decide)
theorem c_s27 (h : cK nd sh R) : sh 27 = (5, 5) := h.1 ((5, 5), 27) (by decide)
theorem c_s28 (h : cK nd sh R) : sh 28 = (100, 160) := h.1 ((100, 160), 28) (by decide)
theorem c_s29 (h : cK nd sh R) : sh 29 = (100, 3) := h.1 ((100, 3), 29) (by decide)
theorem c_s30 (h : cK nd sh R) : sh 30 = (100, 40) := h.1 ((100, 40), 30) (by decide)
theorem c_s31 (h : cK nd sh R) : sh 31 = (5, 5) := h.1 ((5, 5), 31) (by decide)
theorem c_s32 (h : cK nd sh R) : sh 32 = (100, 160) := h.1 ((100, 160), 32) (by decide)
theorem c_s33 (h : cK nd sh R) : sh 33 = (100, 3) := h.1 ((100, 3), 33) (by decide)
theorem c_s34 (h : cK nd sh R) : sh 34 = (100, 40) := h.1 ((100, 40), 34) (by decide)
theorem c_s35 (h : cK nd sh R) : sh 35 = (5, 5) := h.1 ((5, 5), 35) (by decide)
theorem c_s36 (h : cK nd sh R) : sh 36 = (100, 160) := h.1 ((100, 160), 36) (by decide)
theorem c_s37 (h : cK nd sh R) : sh 37 = (100, 3) := h.1 ((100, 3), 37) (by decide)
theorem c_s38 (h : cK nd sh R) : sh 38 = (100, 40) := h.1 ((100, 40), 38) (by decide)
theorem c_s39 (h : cK nd sh R) : sh 39 = (5, 5) := h.1 ((5, 5), 39) (by decide)
theorem c_s40 (h : cK nd sh R) : sh 40 = (100, 160) := h.1 ((100, 160), 40) (by decide)
theorem c_s41 (h : cK nd sh R) : sh 41 = (100, 3) := h.1 ((100, 3), 41) (by decide)
theorem c_s42 (h : cK nd sh R) : sh 42 = (100, 40) := h.1 ((100, 40), 42) (by decide)
theorem c_s43 (h : cK nd sh R) : sh 43 = (5, 5) := h.1 ((5, 5), 43) (by decide)
theorem c_s44 (h : cK nd sh R) : sh 44 = (100, 160) := h.1 ((100, 160), 44) (by decide)
theorem c_s45 (h : cK nd sh R) : sh 45 = (100, 3) := h.1 ((100, 3), 45) (by decide)
theorem c_s46 (h : cK nd sh R) : sh 46 = (100, 40) := h.1 ((100, 40), 46) (by decide)
theorem c_r0_0 (h : cK nd sh R) : R 0 0 = some 1 := h.2.2.1 (0, 0, 1) (by decide)
theorem c_r0_1 (h : cK nd sh R) : R 0 1 = some 8 := h.2.2.1 (0, 1, 8) (by decide)
theorem c_r0_2 (h : cK nd sh R) : R 0 2 = some 11 := h.2.2.1 (0, 2, 11) (by decide)
theorem c_r0_3 (h : cK nd sh R) : R 0 3 = some 13 := h.2.2.1 (0, 3, 13) (by decide)
theorem c_r0_4 (h : cK nd sh R) : R 0 4 = some 14 := h.2.2.1 (0, 4, 14) (by decide)
theorem c_r1_2 (h : cK nd sh R) : R 1 2 = some 2 := h.2.2.1 (1, 2, 2) (by decide)
theorem c_r1_3 (h : cK nd sh R) : R 1 3 = some 3 := h.2.2.1 (1, 3, 3) (by decide)
theorem c_r4_0 (h : cK nd sh R) : R 4 0 = some 5 := h.2.2.1 (4, 0, 5) (by decide)
theorem c_r4_1 (h : cK nd sh R) : R 4 1 = some 6 := h.2.2.1 (4, 1, 6) (by decide)
theorem c_r4_2 (h : cK nd sh R) : R 4 2 = some 7 := h.2.2.1 (4, 2, 7) (by decide)
theorem c_r8_1 (h : cK nd sh R) : R 8 1 = some 9 := h.2.2.1 (8, 1, 9) (by decide)
theorem c_r8_2 (h : cK nd sh R) : R 8 2 = some 10 := h.2.2.1 (8, 2, 10) (by decide)
theorem c_r11_1 (h : cK nd sh R) : R 11 1 = some 12 := h.2.2.1 (11, 1, 12) (by decide)
theorem c_r13_0 (h : cK nd sh R) : R 13 0 = some 23 := h.2.2.1 (13, 0, 23) (by decide)
theorem c_r13_1 (h : cK nd sh R) : R 13 1 = some 27 := h.2.2.1 (13, 1, 27) (by decide)
theorem c_r13_2 (h : cK nd sh R) : R 13 2 = some 31 := h.2.2.1 (13, 2, 31) (by decide)
theorem c_r13_3 (h : cK nd sh R) : R 13 3 = some 35 := h.2.2.1 (13, 3, 35) (by decide)
theorem c_r13_4 (h : cK nd sh R) : R 13 4 = some 39 := h.2.2.1 (13, 4, 39) (by decide)
theorem c_r13_5 (h : cK nd sh R) : R 13 5 = some 43 := h.2.2.1 (13, 5, 43) (by decide)
theorem c_r14_0 (h : cK nd sh R) : R 14 0 = some 15 := h.2.2.1 (14, 0, 15) (by decide)
theorem c_r14_1 (h : cK nd sh R) : R 14 1 = some 17 := h.2.2.1 (14, 1, 17) (by decide)
theorem c_r14_2 (h : cK nd sh R) : R 14 2 = some 19 := h.2.2.1 (14, 2, 19) (by decide)
theorem c_r14_3 (h : cK nd sh R) : R 14 3 = some 21 := h.2.2.1 (14, 3, 21) (by decide)
theorem c_r15_2 (h : cK nd sh R) : R 15 2 = some 16 := h.2.2.1 (15, 2, 16) (by decide)
theorem c_r17_2 (h : cK nd sh R) : R 17 2 = some 18 := h.2.2.1 (17, 2, 18) (by decide)
theorem c_r19_2 (h : cK nd sh R) : R 19 2 = some 20 := h.2.2.1 (19, 2, 20) (by decide)
theorem c_r21_2 (h : cK nd sh R) : R 21 2 = some 22 := h.2.2.1 (21, 2, 22) (by decide)
theorem c_r23_0 (h : cK nd sh R) : R 23 0 = some 24 := h.2.2.1 (23, 0, 24) (by decide)
theorem c_r23_1 (h : cK nd sh R) : R 23 1 = some 25 := h.2.2.1 (23, 1, 25) (by decide)
theorem c_r23_2 (h : cK nd sh R) : R 23 2 = some 26 := h.2.2.1 (23, 2, 26) (by decide)
theorem c_r27_0 (h : cK nd sh R) : R 27 0 = some 28 := h.2.2.1 (27, 0, 28) (by decide)
theorem c_r27_1 (h : cK nd sh R) : R 27 1 = some 29 := h.2.2.1 (27, 1, 29) (by decide)
theorem c_r27_2 (h : cK nd sh R) : R 27 2 = some 30 := h.2.2.1 (27, 2, 30) (by decide)
theorem c_r31_0 (h : cK nd sh R) : R 31 0 = some 32 := h.2.2.1 (31, 0, 32) (by decide)
theorem c_r31_1 (h : cK nd sh R) : R 31 1 = some 33 := h.2.2.1 (31, 1, 33) (by decide)
theorem c_r31_2 (h : cK nd sh R) : R 31 2 = some 34 := h.2.2.1 (31, 2, 34) (by decide)
theorem c_r35_0 (h : cK nd sh R) : R 35 0 = some 36 := h.2.2.1 (35, 0, 36) (by decide)
theorem c_r35_1 (h : cK nd sh R) : R 35 1 = some 37 := h.2.2.1 (35, 1, 37) (by decide)
theorem c_r35_2 (h : cK nd sh R) : R 35 2 = some 38 := h.2.2.1 (35, 2, 38) (by decide)
theorem c_r39_0 (h : cK nd sh R) : R 39 0 = some 40 := h.2.2.1 (39, 0, 40) (by decide)
theorem c_r39_1 (h : cK nd sh R) : R 39 1 = some 41 := h.2.2.1 (39, 1, 41) (by decide)
theorem c_r39_2 (h : cK nd sh R) : R 39 2 = some 42 := h.2.2.1 (39, 2, 42) (by decide)
theorem c_r43_0 (h : cK nd sh R) : R 43 0 = some 44 := h.2.2.1 (43, 0, 44) (by decide)
theorem c_r43_1 (h : cK nd sh R) : R 43 1 = some 45 := h.2.2.1 (43, 1, 45) (by decide)
theorem c_r43_2 (h : cK nd sh R) : R 43 2 = some 46 := h.2.2.1 (43, 2, 46) (by decide)
theorem c_sD (h : cK nd sh R) {i : Nat} (hi : i < nd) : sh (47 + i) = (0, 7) := h.2.1 i hi
theorem c_rD (h : cK nd sh R) {i : Nat} (hi : i < nd) : R 2 i = some (47 + i) := h.2.2.2.1 i hi
theorem c_nd (h : cK nd sh R) : nd ≤ 4 := h.2.2.2.2
theorem c_sS (h : cK nd sh R) {i : Nat} (hi : i < 4) : sh (15 + 2 * i) = (4, 3) ∧ sh (16 + 2 * i) = (100, 40) ∧ R (15 + 2 * i) 2 = some (16 + 2 * i) ∧ R 14 i = some (15 + 2 * i) := by
  rcases (show i = 0 ∨ i = 1 ∨ i = 2 ∨ i = 3 by omega) with rfl | rfl | rfl | rfl
  · exact ⟨c_s15 h, c_s16 h, c_r15_2 h, c_r14_0 h⟩
  · exact ⟨c_s17 h, c_s18 h, c_r17_2 h, c_r14_1 h⟩
  · exact ⟨c_s19 h, c_s20 h, c_r19_2 h, c_r14_2 h⟩
  · exact ⟨c_s21 h, c_s22 h, c_r21_2 h, c_r14_3 h⟩
theorem c_sT (h : cK nd sh R) {i : Nat} (hi : i < 6) : sh (23 + 4 * i) = (5, 5) ∧ sh (24 + 4 * i) = (100, 160) ∧ sh (25 + 4 * i) = (100, 3) ∧ sh (26 + 4 * i) = (100, 40) ∧ R (23 + 4 * i) 0 = some (24 + 4 * i) ∧ R (23 + 4 * i) 1 = some (25 + 4 * i) ∧ R (23 + 4 * i) 2 = some (26 + 4 * i) ∧ R 13 i = some (23 + 4 * i) := by
  rcases (show i = 0 ∨ i = 1 ∨ i = 2 ∨ i = 3 ∨ i = 4 ∨ i = 5 by omega) with rfl | rfl | rfl | rfl | rfl | rfl
  · exact ⟨c_s23 h, c_s24 h, c_s25 h, c_s26 h, c_r23_0 h, c_r23_1 h, c_r23_2 h, c_r13_0 h⟩
  · exact ⟨c_s27 h, c_s28 h, c_s29 h, c_s30 h, c_r27_0 h, c_r27_1 h, c_r27_2 h, c_r13_1 h⟩
  · exact ⟨c_s31 h, c_s32 h, c_s33 h, c_s34 h, c_r31_0 h, c_r31_1 h, c_r31_2 h, c_r13_2 h⟩
  · exact ⟨c_s35 h, c_s36 h, c_s37 h, c_s38 h, c_r35_0 h, c_r35_1 h, c_r35_2 h, c_r13_3 h⟩
  · exact ⟨c_s39 h, c_s40 h, c_s41 h, c_s42 h, c_r39_0 h, c_r39_1 h, c_r39_2 h, c_r13_4 h⟩
  · exact ⟨c_s43 h, c_s44 h, c_s45 h, c_s46 h, c_r43_0 h, c_r43_1 h, c_r43_2 h, c_r13_5 h⟩
end
