/-! the model's small workings -/
section
variable {D : Nat → Nat → Nat} {d nd s : Nat} {n t : Nat} {sh : Nat → Nat × Nat} {I : Nat → Nat → Int32} {L : Nat → Nat → Int64} {R : Nat → Nat → Option Nat} {Q : Option Value → aH → Prop}
theorem k132 (hd : 1 ≤ d) (hM : mK sh R) (hn : nd ≤ 4) (hB : dB nd D) (hT : thS nd D s I) {i : Nat} (hi : i < nd) : aC d 132 [.ref 0, .int (nI i)] (n, t, sh, I, L, R) Q ↔ Q (some (.int (nI (nxt (D i 4) (stt s i))))) (n, t, sh, I, L, R) := by
  obtain ⟨d, rfl⟩ : ∃ e, d = e + 1 := ⟨d - 1, by omega⟩
  have m0 := mm_0 hM; have x7 := mm_x7 hM; have y7 := mm_y7 hM; have r10 := mm_r10 hM; have x8 := mm_x8 hM; have y8 := mm_y8 hM; have r11 := mm_r11 hM
  obtain ⟨b0, b1, b2, b3, b4⟩ := hB i hi
  obtain ⟨g1, g2⟩ := hT.2.2 i hi
  have hst : stt s i < 4 := stt_lt
  revert g1 g2 hst
  generalize stt s i = st
  intro g1 g2 hst
  by_cases h3 : st = 3
  · subst h3
    rcases (show D i 4 = 0 ∨ D i 4 = 1 ∨ D i 4 = 2 ∨ D i 4 = 3 ∨ D i 4 = 4 ∨ D i 4 = 5 by omega) with h | h | h | h | h | h <;> rw [h] at g2 ⊢ <;> simp (disch := first | assumption | exact ct_i | exact ct_r | exact ct_n | exact ct_h | omega | exact z_in (by omega) (by omega) | exact b01 | exact Or.inl rfl | exact Or.inr rfl) only [b132, e132_0, e132_1, e132_4, e132_5, e132_6, e132_7, e132_10, e132_11, e132_14, e132_15, e132_18, e132_19, e132_20, e132_21, e132_22, e132_23, e132_24, e132_27, e132_28, e132_29, e132_30, e132_33, e132_34, e132_37, e132_38, e132_41, e132_42, e132_43, e132_44, e132_45, e132_46, e132_47, e132_50, e132_51, e132_52, e132_84, e132_85, e132_86, e132_87, e132_88, e132_89, e132_90, e132_93, e132_94, e132_97, e132_98, e132_99, e132_100, e132_101, e132_104, e132_105, e132_108, e132_109, e132_110, e132_111, ct_i, ct_r, ct_n, ct_h, opt_v, opt_s, ref_s, ref_n, eq_self_iff_true, true_or, or_true, zl0, zl1, zl2, zl3, zl4, zl5, zl6, zl7, zl8, zl9, zl10, zl16, zl32, zl40, zl100, zl160, zIc1, zI_lt, zI_le, nI_eq, nI_add, z_sub, nI_clamp, zI_of, uu_eq, uu_ne, Nat.reduceLT, Nat.reduceLeDiff, Nat.reduceEqDiff, Nat.reduceAdd, Nat.reduceSub, Nat.reduceMul, Nat.not_lt_zero, Nat.lt_irrefl, Nat.le_refl, Bool.false_eq_true, false_and, and_false, true_and, and_true, if_pos, if_neg, if_true, if_false, not_true_eq_false, not_false_eq_true, m0, x7, y7, r10, x8, y8, r11, g1, g2] <;> exact Iff.rfl
  · by_cases h2 : st = 2
    · subst h2
      rcases (show D i 4 = 0 ∨ D i 4 = 1 ∨ D i 4 = 2 ∨ D i 4 = 3 ∨ D i 4 = 4 ∨ D i 4 = 5 by omega) with h | h | h | h | h | h <;> rw [h] at g2 ⊢ <;> simp (disch := first | assumption | exact ct_i | exact ct_r | exact ct_n | exact ct_h | omega | exact z_in (by omega) (by omega) | exact b01 | exact Or.inl rfl | exact Or.inr rfl) only [b132, e132_0, e132_1, e132_4, e132_5, e132_6, e132_7, e132_10, e132_11, e132_14, e132_15, e132_18, e132_19, e132_20, e132_21, e132_22, e132_23, e132_24, e132_27, e132_28, e132_29, e132_30, e132_33, e132_34, e132_37, e132_38, e132_41, e132_42, e132_43, e132_44, e132_45, e132_46, e132_47, e132_50, e132_51, e132_52, e132_84, e132_85, e132_86, e132_87, e132_88, e132_89, e132_90, e132_93, e132_94, e132_97, e132_98, e132_99, e132_100, e132_101, e132_104, e132_105, e132_108, e132_109, e132_110, e132_111, ct_i, ct_r, ct_n, ct_h, opt_v, opt_s, ref_s, ref_n, eq_self_iff_true, true_or, or_true, zl0, zl1, zl2, zl3, zl4, zl5, zl6, zl7, zl8, zl9, zl10, zl16, zl32, zl40, zl100, zl160, zIc1, zI_lt, zI_le, nI_eq, nI_add, z_sub, nI_clamp, zI_of, uu_eq, uu_ne, Nat.reduceLT, Nat.reduceLeDiff, Nat.reduceEqDiff, Nat.reduceAdd, Nat.reduceSub, Nat.reduceMul, Nat.not_lt_zero, Nat.lt_irrefl, Nat.le_refl, Bool.false_eq_true, false_and, and_false, true_and, and_true, if_pos, if_neg, if_true, if_false, not_true_eq_false, not_false_eq_true, m0, x7, y7, r10, x8, y8, r11, g1, g2] <;> exact Iff.rfl
    · have hz : min (st + 1) 3 = st + 1 := by omega
      have hz2 : (st + 1) % 4 = st + 1 := by omega
      have hz3 : min (st + 1) 2 = st + 1 := by omega
      have hz4 : ¬ st + 1 = 3 := by omega
      have hz5 : ¬ 2 < st + 1 := by omega
      rcases (show D i 4 = 0 ∨ D i 4 = 1 ∨ D i 4 = 2 ∨ D i 4 = 3 ∨ D i 4 = 4 ∨ D i 4 = 5 by omega) with h | h | h | h | h | h <;> rw [h] at g2 ⊢ <;> simp (disch := first | assumption | exact ct_i | exact ct_r | exact ct_n | exact ct_h | omega | exact z_in (by omega) (by omega) | exact b01 | exact Or.inl rfl | exact Or.inr rfl) only [b132, e132_0, e132_1, e132_4, e132_5, e132_6, e132_7, e132_10, e132_11, e132_14, e132_15, e132_18, e132_19, e132_20, e132_21, e132_22, e132_23, e132_24, e132_27, e132_28, e132_29, e132_30, e132_33, e132_34, e132_37, e132_38, e132_41, e132_42, e132_43, e132_44, e132_45, e132_46, e132_47, e132_50, e132_51, e132_52, e132_84, e132_85, e132_86, e132_87, e132_88, e132_89, e132_90, e132_93, e132_94, e132_97, e132_98, e132_99, e132_100, e132_101, e132_104, e132_105, e132_108, e132_109, e132_110, e132_111, ct_i, ct_r, ct_n, ct_h, opt_v, opt_s, ref_s, ref_n, eq_self_iff_true, true_or, or_true, zl0, zl1, zl2, zl3, zl4, zl5, zl6, zl7, zl8, zl9, zl10, zl16, zl32, zl40, zl100, zl160, zIc1, zI_lt, zI_le, nI_eq, nI_add, z_sub, nI_clamp, zI_of, uu_eq, uu_ne, Nat.reduceLT, Nat.reduceLeDiff, Nat.reduceEqDiff, Nat.reduceAdd, Nat.reduceSub, Nat.reduceMul, Nat.not_lt_zero, Nat.lt_irrefl, Nat.le_refl, Bool.false_eq_true, false_and, and_false, true_and, and_true, if_pos, if_neg, if_true, if_false, not_true_eq_false, not_false_eq_true, m0, x7, y7, r10, x8, y8, r11, g1, g2, h3, nxt, hz, hz2, hz3, hz4, hz5]
theorem k130 (hd : 1 ≤ d) (hM : mK sh R) (hD : dM nd D I) (hn : nd ≤ 4) (hB : dB nd D) {i rm : Nat} (hi : i < nd) (hr : rm < 6) : aC d 130 [.ref 0, .int (nI i), .int (nI rm)] (n, t, sh, I, L, R) Q ↔ Q (some (.int (nI (bey D i rm)))) (n, t, sh, I, L, R) := by
  obtain ⟨d, rfl⟩ : ∃ e, d = e + 1 := ⟨d - 1, by omega⟩
  have m0 := mm_0 hM; have x2 := mm_x2 hM; have y2 := mm_y2 hM; have r5 := mm_r5 hM; have x3 := mm_x3 hM; have y3 := mm_y3 hM; have r6 := mm_r6 hM
  obtain ⟨b0, b1, b2, b3, b4⟩ := hB i hi
  obtain ⟨g1, g2, g3, g4⟩ := hD.2 i hi
  unfold bey
  by_cases h : rm = D i 0
  · subst h
    simp (disch := first | assumption | exact ct_i | exact ct_r | exact ct_n | exact ct_h | omega | exact z_in (by omega) (by omega) | exact b01 | exact Or.inl rfl | exact Or.inr rfl) only [b130, e130_0, e130_1, e130_4, e130_5, e130_6, e130_7, e130_10, e130_11, e130_14, e130_15, e130_16, e130_19, e130_20, e130_23, e130_24, e130_25, ct_i, ct_r, ct_n, ct_h, opt_v, opt_s, ref_s, ref_n, eq_self_iff_true, true_or, or_true, zl0, zl1, zl2, zl3, zl4, zl5, zl6, zl7, zl8, zl9, zl10, zl16, zl32, zl40, zl100, zl160, zIc1, zI_lt, zI_le, nI_eq, nI_add, z_sub, nI_clamp, zI_of, uu_eq, uu_ne, Nat.reduceLT, Nat.reduceLeDiff, Nat.reduceEqDiff, Nat.reduceAdd, Nat.reduceSub, Nat.reduceMul, Nat.not_lt_zero, Nat.lt_irrefl, Nat.le_refl, Bool.false_eq_true, false_and, and_false, true_and, and_true, if_pos, if_neg, if_true, if_false, not_true_eq_false, not_false_eq_true, m0, x2, y2, r5, x3, y3, r6, g1, g2]
  · have h' : ¬ D i 0 = rm := fun e => h e.symm
    simp (disch := first | assumption | exact ct_i | exact ct_r | exact ct_n | exact ct_h | omega | exact z_in (by omega) (by omega) | exact b01 | exact Or.inl rfl | exact Or.inr rfl) only [b130, e130_0, e130_1, e130_4, e130_5, e130_6, e130_7, e130_10, e130_11, e130_14, e130_15, e130_16, e130_19, e130_20, e130_23, e130_24, e130_25, ct_i, ct_r, ct_n, ct_h, opt_v, opt_s, ref_s, ref_n, eq_self_iff_true, true_or, or_true, zl0, zl1, zl2, zl3, zl4, zl5, zl6, zl7, zl8, zl9, zl10, zl16, zl32, zl40, zl100, zl160, zIc1, zI_lt, zI_le, nI_eq, nI_add, z_sub, nI_clamp, zI_of, uu_eq, uu_ne, Nat.reduceLT, Nat.reduceLeDiff, Nat.reduceEqDiff, Nat.reduceAdd, Nat.reduceSub, Nat.reduceMul, Nat.not_lt_zero, Nat.lt_irrefl, Nat.le_refl, Bool.false_eq_true, false_and, and_false, true_and, and_true, if_pos, if_neg, if_true, if_false, not_true_eq_false, not_false_eq_true, m0, x2, y2, r5, x3, y3, r6, g1, g2, h, h']
theorem k135 (hd : 1 ≤ d) (hM : mK sh R) (hD : dM nd D I) (hn : nd ≤ 4) (hB : dB nd D) (hT : thS nd D s I) (hs : s < 6144) {i : Nat} (hi : i < nd) : aC d 135 [.ref 0, .int (nI i)] (n, t, sh, I, L, R) Q ↔ Q (some (.int (if rmo s = D i 0 ∨ rmo s = D i 1 then nI 1 else nI 0))) (n, t, sh, I, L, R) := by
  obtain ⟨d, rfl⟩ : ∃ e, d = e + 1 := ⟨d - 1, by omega⟩
  have m0 := mm_0 hM; have x2 := mm_x2 hM; have y2 := mm_y2 hM; have r5 := mm_r5 hM; have x3 := mm_x3 hM; have y3 := mm_y3 hM; have r6 := mm_r6 hM
  obtain ⟨b0, b1, b2, b3, b4⟩ := hB i hi
  obtain ⟨g1, g2, g3, g4⟩ := hD.2 i hi
  have t2 := hT.2.1
  have hr := rmo_lt hs
  by_cases h1 : D i 0 = rmo s
  · have h1' := h1.symm
    rw [if_pos (Or.inl h1')]
    simp (disch := first | assumption | exact ct_i | exact ct_r | exact ct_n | exact ct_h | omega | exact z_in (by omega) (by omega) | exact b01 | exact Or.inl rfl | exact Or.inr rfl) only [b135, e135_0, e135_1, e135_4, e135_5, e135_6, e135_7, e135_10, e135_13, e135_14, e135_17, e135_18, e135_19, e135_20, e135_23, e135_26, e135_27, e135_30, e135_31, ct_i, ct_r, ct_n, ct_h, opt_v, opt_s, ref_s, ref_n, eq_self_iff_true, true_or, or_true, zl0, zl1, zl2, zl3, zl4, zl5, zl6, zl7, zl8, zl9, zl10, zl16, zl32, zl40, zl100, zl160, zIc1, zI_lt, zI_le, nI_eq, nI_add, z_sub, nI_clamp, zI_of, uu_eq, uu_ne, Nat.reduceLT, Nat.reduceLeDiff, Nat.reduceEqDiff, Nat.reduceAdd, Nat.reduceSub, Nat.reduceMul, Nat.not_lt_zero, Nat.lt_irrefl, Nat.le_refl, Bool.false_eq_true, false_and, and_false, true_and, and_true, if_pos, if_neg, if_true, if_false, not_true_eq_false, not_false_eq_true, m0, x2, y2, r5, x3, y3, r6, g1, g2, t2, h1]
  · by_cases h2 : D i 1 = rmo s
    · have h2' := h2.symm
      rw [if_pos (Or.inr h2')]
      simp (disch := first | assumption | exact ct_i | exact ct_r | exact ct_n | exact ct_h | omega | exact z_in (by omega) (by omega) | exact b01 | exact Or.inl rfl | exact Or.inr rfl) only [b135, e135_0, e135_1, e135_4, e135_5, e135_6, e135_7, e135_10, e135_13, e135_14, e135_17, e135_18, e135_19, e135_20, e135_23, e135_26, e135_27, e135_30, e135_31, ct_i, ct_r, ct_n, ct_h, opt_v, opt_s, ref_s, ref_n, eq_self_iff_true, true_or, or_true, zl0, zl1, zl2, zl3, zl4, zl5, zl6, zl7, zl8, zl9, zl10, zl16, zl32, zl40, zl100, zl160, zIc1, zI_lt, zI_le, nI_eq, nI_add, z_sub, nI_clamp, zI_of, uu_eq, uu_ne, Nat.reduceLT, Nat.reduceLeDiff, Nat.reduceEqDiff, Nat.reduceAdd, Nat.reduceSub, Nat.reduceMul, Nat.not_lt_zero, Nat.lt_irrefl, Nat.le_refl, Bool.false_eq_true, false_and, and_false, true_and, and_true, if_pos, if_neg, if_true, if_false, not_true_eq_false, not_false_eq_true, m0, x2, y2, r5, x3, y3, r6, g1, g2, t2, h1, h2]
    · rw [if_neg (fun h => by omega)]
      simp (disch := first | assumption | exact ct_i | exact ct_r | exact ct_n | exact ct_h | omega | exact z_in (by omega) (by omega) | exact b01 | exact Or.inl rfl | exact Or.inr rfl) only [b135, e135_0, e135_1, e135_4, e135_5, e135_6, e135_7, e135_10, e135_13, e135_14, e135_17, e135_18, e135_19, e135_20, e135_23, e135_26, e135_27, e135_30, e135_31, ct_i, ct_r, ct_n, ct_h, opt_v, opt_s, ref_s, ref_n, eq_self_iff_true, true_or, or_true, zl0, zl1, zl2, zl3, zl4, zl5, zl6, zl7, zl8, zl9, zl10, zl16, zl32, zl40, zl100, zl160, zIc1, zI_lt, zI_le, nI_eq, nI_add, z_sub, nI_clamp, zI_of, uu_eq, uu_ne, Nat.reduceLT, Nat.reduceLeDiff, Nat.reduceEqDiff, Nat.reduceAdd, Nat.reduceSub, Nat.reduceMul, Nat.not_lt_zero, Nat.lt_irrefl, Nat.le_refl, Bool.false_eq_true, false_and, and_false, true_and, and_true, if_pos, if_neg, if_true, if_false, not_true_eq_false, not_false_eq_true, m0, x2, y2, r5, x3, y3, r6, g1, g2, t2, h1, h2]
def smS (s : Nat) : Nat → Nat
  | 0 => 0
  | k + 1 => smS s k + stt s k
theorem smS_4 (hn : nd ≤ 4) (hz : ∀ i, nd ≤ i → i < 4 → stt s i = 0) : smS s nd = sts s := by
  have e : smS s 4 = sts s := by simp [smS, sts]
  rw [← e]
  rcases (show nd = 0 ∨ nd = 1 ∨ nd = 2 ∨ nd = 3 ∨ nd = 4 by omega) with rfl | rfl | rfl | rfl | rfl
  · simp only [smS, hz 0 (by omega) (by omega), hz 1 (by omega) (by omega), hz 2 (by omega) (by omega), hz 3 (by omega) (by omega)]
  · simp only [smS, hz 1 (by omega) (by omega), hz 2 (by omega) (by omega), hz 3 (by omega) (by omega), Nat.add_zero]
  · simp only [smS, hz 2 (by omega) (by omega), hz 3 (by omega) (by omega), Nat.add_zero]
  · simp only [smS, hz 3 (by omega) (by omega), Nat.add_zero]
  · rfl
theorem smS_le : ∀ k, smS s k ≤ 3 * k
  | 0 => Nat.le_refl _
  | k + 1 => by have := smS_le k; have : stt s k < 4 := stt_lt; simp only [smS]; omega
theorem k129l (hM : mK sh R) (hD : dM nd D I) (hn : nd ≤ 4) (hT : thS nd D s I) : ∀ m i, i + m = nd → (aE (a_cl_ d) 129 (4, [.ref 0, .int (nI (smS s i)), .int (nI i)], [], (n, t, sh, I, L, R)) Q ↔ Q (some (.int (nI (smS s nd)))) (n, t, sh, I, L, R)) := by
  have m0 := mm_0 hM; have x7 := mm_x7 hM; have y7 := mm_y7 hM; have r10 := mm_r10 hM
  have h1 := hD.1
  intro m
  induction m with
  | zero =>
    intro i hi
    obtain rfl : i = nd := by omega
    rw [e129_4]
    simp (disch := first | assumption | exact ct_i | exact ct_r | exact ct_n | exact ct_h | omega | exact z_in (by omega) (by omega) | exact b01 | exact Or.inl rfl | exact Or.inr rfl) only [e129_0, e129_1, e129_2, e129_3, e129_5, e129_6, e129_9, e129_12, e129_13, e129_14, e129_17, e129_18, e129_19, e129_20, e129_21, e129_24, e129_27, e129_28, ct_i, ct_r, ct_n, ct_h, opt_v, opt_s, ref_s, ref_n, eq_self_iff_true, true_or, or_true, zl0, zl1, zl2, zl3, zl4, zl5, zl6, zl7, zl8, zl9, zl10, zl16, zl32, zl40, zl100, zl160, zIc1, zI_lt, zI_le, nI_eq, nI_add, z_sub, nI_clamp, zI_of, uu_eq, uu_ne, Nat.reduceLT, Nat.reduceLeDiff, Nat.reduceEqDiff, Nat.reduceAdd, Nat.reduceSub, Nat.reduceMul, Nat.not_lt_zero, Nat.lt_irrefl, Nat.le_refl, Bool.false_eq_true, false_and, and_false, true_and, and_true, if_pos, if_neg, if_true, if_false, not_true_eq_false, not_false_eq_true, m0, x7, y7, r10, h1]
  | succ m ih =>
    intro i hi
    have g := (hT.2.2 i (by omega)).1
    have := smS_le (s := s) i
    have hst : stt s i < 4 := stt_lt
    have q := ih (i + 1) (by omega)
    rw [e129_4]
    simp (disch := first | assumption | exact ct_i | exact ct_r | exact ct_n | exact ct_h | omega | exact z_in (by omega) (by omega) | exact b01 | exact Or.inl rfl | exact Or.inr rfl) only [e129_0, e129_1, e129_2, e129_3, e129_5, e129_6, e129_9, e129_12, e129_13, e129_14, e129_17, e129_18, e129_19, e129_20, e129_21, e129_24, e129_27, e129_28, ct_i, ct_r, ct_n, ct_h, opt_v, opt_s, ref_s, ref_n, eq_self_iff_true, true_or, or_true, zl0, zl1, zl2, zl3, zl4, zl5, zl6, zl7, zl8, zl9, zl10, zl16, zl32, zl40, zl100, zl160, zIc1, zI_lt, zI_le, nI_eq, nI_add, z_sub, nI_clamp, zI_of, uu_eq, uu_ne, Nat.reduceLT, Nat.reduceLeDiff, Nat.reduceEqDiff, Nat.reduceAdd, Nat.reduceSub, Nat.reduceMul, Nat.not_lt_zero, Nat.lt_irrefl, Nat.le_refl, Bool.false_eq_true, false_and, and_false, true_and, and_true, if_pos, if_neg, if_true, if_false, not_true_eq_false, not_false_eq_true, m0, x7, y7, r10, h1, g]
    exact q
theorem k129 (hd : 1 ≤ d) (hM : mK sh R) (hD : dM nd D I) (hn : nd ≤ 4) (hT : thS nd D s I) (hz : ∀ i, nd ≤ i → i < 4 → stt s i = 0) : aC d 129 [.ref 0] (n, t, sh, I, L, R) Q ↔ Q (some (.int (nI (sts s)))) (n, t, sh, I, L, R) := by
  obtain ⟨d, rfl⟩ : ∃ e, d = e + 1 := ⟨d - 1, by omega⟩
  rw [← smS_4 hn hz]
  simp (disch := first | assumption | exact ct_i | exact ct_r | exact ct_n | exact ct_h | omega | exact z_in (by omega) (by omega) | exact b01 | exact Or.inl rfl | exact Or.inr rfl) only [b129, e129_0, e129_1, e129_2, e129_3, e129_5, e129_6, e129_9, e129_12, e129_13, e129_14, e129_17, e129_18, e129_19, e129_20, e129_21, e129_24, e129_27, e129_28, ct_i, ct_r, ct_n, ct_h, opt_v, opt_s, ref_s, ref_n, eq_self_iff_true, true_or, or_true, zl0, zl1, zl2, zl3, zl4, zl5, zl6, zl7, zl8, zl9, zl10, zl16, zl32, zl40, zl100, zl160, zIc1, zI_lt, zI_le, nI_eq, nI_add, z_sub, nI_clamp, zI_of, uu_eq, uu_ne, Nat.reduceLT, Nat.reduceLeDiff, Nat.reduceEqDiff, Nat.reduceAdd, Nat.reduceSub, Nat.reduceMul, Nat.not_lt_zero, Nat.lt_irrefl, Nat.le_refl, Bool.false_eq_true, false_and, and_false, true_and, and_true, if_pos, if_neg, if_true, if_false, not_true_eq_false, not_false_eq_true]
  exact k129l hM hD hn hT nd 0 (by omega)
def sgn (j : Nat) : Int32 := match j with
  | 8 => 3 | 9 => 2 | 10 => 60 | 11 => 61 | 12 => 43 | 13 => 45 | _ => 42
theorem k131 (hd : 1 ≤ d) {i : Nat} {x y : Int32} (hi : i < 15) (h8 : 8 ≤ i) {h : aH} : aC d 131 [.int (sgn i), .int x, .int y] h Q ↔ Q (some (.int (ev2 i x y))) h := by
  obtain ⟨d, rfl⟩ : ∃ e, d = e + 1 := ⟨d - 1, by omega⟩
  rcases (show i = 8 ∨ i = 9 ∨ i = 10 ∨ i = 11 ∨ i = 12 ∨ i = 13 ∨ i = 14 by omega) with rfl | rfl | rfl | rfl | rfl | rfl | rfl
  all_goals simp +decide (disch := first | assumption | exact ct_i | exact ct_r | exact ct_n | exact ct_h | omega | exact z_in (by omega) (by omega) | exact b01 | exact Or.inl rfl | exact Or.inr rfl) only [b131, e131_0, e131_1, e131_60, e131_61, e131_62, e131_63, e131_64, e131_65, e131_66, e131_67, e131_68, e131_69, e131_70, e131_71, e131_72, e131_73, e131_74, e131_77, e131_78, e131_81, e131_82, e131_83, e131_84, e131_85, e131_88, e131_89, e131_92, e131_93, e131_94, e131_95, e131_98, e131_99, e131_102, e131_103, e131_106, e131_107, e131_108, e131_109, e131_112, e131_113, e131_116, e131_117, e131_120, e131_121, ct_i, ct_r, ct_n, ct_h, opt_v, opt_s, ref_s, ref_n, eq_self_iff_true, true_or, or_true, sgn, ev2, if_true, if_false]
  · by_cases h1 : x = 0 <;> by_cases h2 : y = 0 <;> simp [h1, h2]
  · by_cases h1 : x = 0 <;> by_cases h2 : y = 0 <;> simp [h1, h2]
  · split <;> exact Iff.rfl
  · by_cases h1 : x = y <;> simp [h1]
end
