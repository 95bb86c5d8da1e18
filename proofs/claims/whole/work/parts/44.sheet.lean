/-! the class's sheets -/
def sK (o a : Nat) (sh : Nat → Nat × Nat) (R : Nat → Nat → Option Nat) : Prop := (sh o).1 = 4 ∧ (sh a).1 = 100 ∧ (sh a).2 = 40 ∧ R o 2 = some a ∧ o ≠ a
section
variable {nd : Nat} {sh : Nat → Nat × Nat} {R : Nat → Nat → Option Nat}
theorem cPr (h : cK nd sh R) {j : Nat} (hj : j < 4) : sK (15 + 2 * j) (16 + 2 * j) sh R := by
  rcases (show j = 0 ∨ j = 1 ∨ j = 2 ∨ j = 3 by omega) with rfl | rfl | rfl | rfl
  · simp only [sK, Nat.reduceMul, Nat.reduceAdd, c_s15 h, c_s16 h, c_r15_2 h]; decide
  · simp only [sK, Nat.reduceMul, Nat.reduceAdd, c_s17 h, c_s18 h, c_r17_2 h]; decide
  · simp only [sK, Nat.reduceMul, Nat.reduceAdd, c_s19 h, c_s20 h, c_r19_2 h]; decide
  · simp only [sK, Nat.reduceMul, Nat.reduceAdd, c_s21 h, c_s22 h, c_r21_2 h]; decide
end
theorem dI_n {a b : Nat} (ha : a < 2 ^ 31) (hb : b < 2 ^ 30) : dI a = nI b ↔ a = b + 1 := by
  cases a with
  | zero =>
    constructor
    · intro h
      have h3 := congrArg Int32.toInt h
      rw [nI_toInt (by omega)] at h3
      have h4 : (dI 0).toInt = -1 := by decide
      omega
    · intro h; omega
  | succ a => rw [dI_s, nI_eq (by omega) (by omega)]; omega
theorem dI_m {a : Nat} (ha : a < 2 ^ 31) : dI a = -nI 1 ↔ a = 0 := by
  cases a with
  | zero => simp [dI]
  | succ a =>
    constructor
    · intro h
      rw [dI_s] at h
      have h3 := congrArg Int32.toInt h
      rw [nI_toInt (by omega)] at h3
      have h4 : (-nI 1).toInt = -1 := by decide
      omega
    · intro h; omega
/-- a number as a row of its sort keeps it -/
def ctv (so : Nat) (v : Int32) : Int32 := if so = 1 then v.toInt8.toInt32 else if so = 2 then v.toInt16.toInt32 else v
/-- so many from a place on are all there -/
def hsA (z : Nat) (x y : Int32) : Prop := ∃ i m, x = nI i ∧ y = nI m ∧ i + m ≤ z
section
variable {d o a : Nat} {n t : Nat} {sh : Nat → Nat × Nat} {I : Nat → Nat → Int32} {L : Nat → Nat → Int64} {R : Nat → Nat → Option Nat} {Q : Option Value → aH → Prop}
theorem k62 (hd : 1 ≤ d) (hS : sK o a sh R) {so : Nat} (h0 : I o 0 = dI so) (hso : so < 4) : aC d 62 [.ref o] (n, t, sh, I, L, R) Q ↔ Q (some (.int (if so = 0 then nI 1 else nI 0))) (n, t, sh, I, L, R) := by
  obtain ⟨d, rfl⟩ : ∃ e, d = e + 1 := ⟨d - 1, by omega⟩
  obtain ⟨h1, h2, h2', h3, h4⟩ := hS
  have e : dI so = -nI 1 ↔ so = 0 := dI_m (by omega)
  by_cases h : so = 0
  · subst h
    have e' : dI 0 = -nI 1 := rfl
    simp (disch := first | assumption | exact ct_i | exact ct_r | exact ct_n | exact ct_h | omega | exact z_in (by omega) (by omega) | exact b01 | exact Or.inl rfl | exact Or.inr rfl) only [b62, e62_0, e62_1, e62_4, e62_5, e62_8, e62_9, e62_12, e62_13, ct_i, ct_r, ct_n, ct_h, opt_v, opt_s, ref_s, ref_n, eq_self_iff_true, true_or, or_true, zl0, zl1, zl2, zl3, zl4, zl5, zl6, zl7, zl8, zl9, zl10, zl16, zl32, zl40, zl100, zl160, zIc1, zI_lt, zI_le, nI_eq, nI_add, z_sub, nI_clamp, zI_of, uu_eq, uu_ne, Nat.reduceLT, Nat.reduceLeDiff, Nat.reduceEqDiff, Nat.reduceAdd, Nat.reduceSub, Nat.reduceMul, Nat.not_lt_zero, Nat.lt_irrefl, Nat.le_refl, Bool.false_eq_true, false_and, and_false, true_and, and_true, if_pos, if_neg, if_true, if_false, not_true_eq_false, not_false_eq_true, h1, h0, e']
  · simp (disch := first | assumption | exact ct_i | exact ct_r | exact ct_n | exact ct_h | omega | exact z_in (by omega) (by omega) | exact b01 | exact Or.inl rfl | exact Or.inr rfl) only [b62, e62_0, e62_1, e62_4, e62_5, e62_8, e62_9, e62_12, e62_13, ct_i, ct_r, ct_n, ct_h, opt_v, opt_s, ref_s, ref_n, eq_self_iff_true, true_or, or_true, zl0, zl1, zl2, zl3, zl4, zl5, zl6, zl7, zl8, zl9, zl10, zl16, zl32, zl40, zl100, zl160, zIc1, zI_lt, zI_le, nI_eq, nI_add, z_sub, nI_clamp, zI_of, uu_eq, uu_ne, Nat.reduceLT, Nat.reduceLeDiff, Nat.reduceEqDiff, Nat.reduceAdd, Nat.reduceSub, Nat.reduceMul, Nat.not_lt_zero, Nat.lt_irrefl, Nat.le_refl, Bool.false_eq_true, false_and, and_false, true_and, and_true, if_pos, if_neg, if_true, if_false, not_true_eq_false, not_false_eq_true, h1, h0, e, h]
theorem k64 (hd : 1 ≤ d) (hS : sK o a sh R) {z i : Nat} (h0 : I o 1 = nI z) (hz : z ≤ 40) (hi : i < z) : aC d 64 [.ref o, .int (nI i)] (n, t, sh, I, L, R) Q ↔ Q (some (.int (nI 1))) (n, t, sh, I, L, R) := by
  obtain ⟨d, rfl⟩ : ∃ e, d = e + 1 := ⟨d - 1, by omega⟩
  obtain ⟨h1, h2, h2', h3, h4⟩ := hS
  simp (disch := first | assumption | exact ct_i | exact ct_r | exact ct_n | exact ct_h | omega | exact z_in (by omega) (by omega) | exact b01 | exact Or.inl rfl | exact Or.inr rfl) only [b64, e64_0, e64_1, e64_4, e64_5, e64_6, e64_9, e64_12, e64_13, e64_16, e64_17, ct_i, ct_r, ct_n, ct_h, opt_v, opt_s, ref_s, ref_n, eq_self_iff_true, true_or, or_true, zl0, zl1, zl2, zl3, zl4, zl5, zl6, zl7, zl8, zl9, zl10, zl16, zl32, zl40, zl100, zl160, zIc1, zI_lt, zI_le, nI_eq, nI_add, z_sub, nI_clamp, zI_of, uu_eq, uu_ne, Nat.reduceLT, Nat.reduceLeDiff, Nat.reduceEqDiff, Nat.reduceAdd, Nat.reduceSub, Nat.reduceMul, Nat.not_lt_zero, Nat.lt_irrefl, Nat.le_refl, Bool.false_eq_true, false_and, and_false, true_and, and_true, if_pos, if_neg, if_true, if_false, not_true_eq_false, not_false_eq_true, h1, h0]
theorem k64n (hd : 1 ≤ d) (hS : sK o a sh R) {z : Nat} (h0 : I o 1 = nI z) (hz : z ≤ 40) {x : Int32} (hx : x < nI 0 ∨ nI z ≤ x) : aC d 64 [.ref o, .int x] (n, t, sh, I, L, R) Q ↔ Q (some (.int (nI 0))) (n, t, sh, I, L, R) := by
  obtain ⟨d, rfl⟩ : ∃ e, d = e + 1 := ⟨d - 1, by omega⟩
  obtain ⟨h1, h2, h2', h3, h4⟩ := hS
  rcases hx with hx | hx
  · simp (disch := first | assumption | exact ct_i | exact ct_r | exact ct_n | exact ct_h | omega | exact z_in (by omega) (by omega) | exact b01 | exact Or.inl rfl | exact Or.inr rfl) only [b64, e64_0, e64_1, e64_4, e64_5, e64_6, e64_9, e64_12, e64_13, e64_16, e64_17, ct_i, ct_r, ct_n, ct_h, opt_v, opt_s, ref_s, ref_n, eq_self_iff_true, true_or, or_true, zl0, zl1, zl2, zl3, zl4, zl5, zl6, zl7, zl8, zl9, zl10, zl16, zl32, zl40, zl100, zl160, zIc1, zI_lt, zI_le, nI_eq, nI_add, z_sub, nI_clamp, zI_of, uu_eq, uu_ne, Nat.reduceLT, Nat.reduceLeDiff, Nat.reduceEqDiff, Nat.reduceAdd, Nat.reduceSub, Nat.reduceMul, Nat.not_lt_zero, Nat.lt_irrefl, Nat.le_refl, Bool.false_eq_true, false_and, and_false, true_and, and_true, if_pos, if_neg, if_true, if_false, not_true_eq_false, not_false_eq_true, h1, h0, hx]
  · simp (disch := first | assumption | exact ct_i | exact ct_r | exact ct_n | exact ct_h | omega | exact z_in (by omega) (by omega) | exact b01 | exact Or.inl rfl | exact Or.inr rfl) only [b64, e64_0, e64_1, e64_4, e64_5, e64_6, e64_9, e64_12, e64_13, e64_16, e64_17, ct_i, ct_r, ct_n, ct_h, opt_v, opt_s, ref_s, ref_n, eq_self_iff_true, true_or, or_true, zl0, zl1, zl2, zl3, zl4, zl5, zl6, zl7, zl8, zl9, zl10, zl16, zl32, zl40, zl100, zl160, zIc1, zI_lt, zI_le, nI_eq, nI_add, z_sub, nI_clamp, zI_of, uu_eq, uu_ne, Nat.reduceLT, Nat.reduceLeDiff, Nat.reduceEqDiff, Nat.reduceAdd, Nat.reduceSub, Nat.reduceMul, Nat.not_lt_zero, Nat.lt_irrefl, Nat.le_refl, Bool.false_eq_true, false_and, and_false, true_and, and_true, if_pos, if_neg, if_true, if_false, not_true_eq_false, not_false_eq_true, h1, h0, hx, ite_self]
theorem k63 (hd : 2 ≤ d) (hS : sK o a sh R) {z i : Nat} (h0 : I o 1 = nI z) (hz : z ≤ 40) (hi : i < z) : aC d 63 [.ref o, .int (nI i)] (n, t, sh, I, L, R) Q ↔ Q (some (.int (I a i))) (n, t, sh, I, L, R) := by
  obtain ⟨d, rfl⟩ : ∃ e, d = e + 1 := ⟨d - 1, by omega⟩
  obtain ⟨h1, h2, h2', h3, h4⟩ := id hS
  simp (disch := first | assumption | exact ct_i | exact ct_r | exact ct_n | exact ct_h | omega | exact z_in (by omega) (by omega) | exact b01 | exact Or.inl rfl | exact Or.inr rfl) only [b63, e63_0, e63_1, e63_2, e63_5, e63_8, e63_9, e63_12, e63_13, e63_14, e63_17, e63_18, ct_i, ct_r, ct_n, ct_h, opt_v, opt_s, ref_s, ref_n, eq_self_iff_true, true_or, or_true, zl0, zl1, zl2, zl3, zl4, zl5, zl6, zl7, zl8, zl9, zl10, zl16, zl32, zl40, zl100, zl160, zIc1, zI_lt, zI_le, nI_eq, nI_add, z_sub, nI_clamp, zI_of, uu_eq, uu_ne, Nat.reduceLT, Nat.reduceLeDiff, Nat.reduceEqDiff, Nat.reduceAdd, Nat.reduceSub, Nat.reduceMul, Nat.not_lt_zero, Nat.lt_irrefl, Nat.le_refl, Bool.false_eq_true, false_and, and_false, true_and, and_true, if_pos, if_neg, if_true, if_false, not_true_eq_false, not_false_eq_true, h1, h2, h2', h3, k64 (show 1 ≤ d by omega) hS h0 hz hi]
theorem k66 (hd : 2 ≤ d) (hS : sK o a sh R) {z i so : Nat} {v : Int32} (h0 : I o 1 = nI z) (hz : z ≤ 40) (hi : i < z) (h5 : I o 0 = dI so) (hso : so < 4) (hs0 : so ≠ 0) : aC d 66 [.ref o, .int (nI i), .int v] (n, t, sh, I, L, R) Q ↔ Q none (n, t, sh, u2 I a i (ctv so v), L, R) := by
  obtain ⟨d, rfl⟩ : ∃ e, d = e + 1 := ⟨d - 1, by omega⟩
  obtain ⟨h1, h2, h2', h3, h4⟩ := id hS
  rcases (show so = 1 ∨ so = 2 ∨ so = 3 by omega) with rfl | rfl | rfl
  · simp (disch := first | assumption | exact ct_i | exact ct_r | exact ct_n | exact ct_h | omega | exact z_in (by omega) (by omega) | exact b01 | exact Or.inl rfl | exact Or.inr rfl) only [b66, e66_0, e66_1, e66_2, e66_5, e66_8, e66_9, e66_10, e66_13, e66_16, e66_17, e66_20, e66_21, e66_22, e66_23, e66_24, e66_27, e66_28, e66_31, e66_32, e66_35, e66_36, e66_39, e66_40, e66_41, e66_42, e66_43, e66_46, e66_47, e66_50, e66_51, e66_52, e66_53, ct_i, ct_r, ct_n, ct_h, opt_v, opt_s, ref_s, ref_n, eq_self_iff_true, true_or, or_true, zl0, zl1, zl2, zl3, zl4, zl5, zl6, zl7, zl8, zl9, zl10, zl16, zl32, zl40, zl100, zl160, zIc1, zI_lt, zI_le, nI_eq, nI_add, z_sub, nI_clamp, zI_of, uu_eq, uu_ne, Nat.reduceLT, Nat.reduceLeDiff, Nat.reduceEqDiff, Nat.reduceAdd, Nat.reduceSub, Nat.reduceMul, Nat.not_lt_zero, Nat.lt_irrefl, Nat.le_refl, Bool.false_eq_true, false_and, and_false, true_and, and_true, if_pos, if_neg, if_true, if_false, not_true_eq_false, not_false_eq_true, h1, h2, h2', h3, k64 (show 1 ≤ d by omega) hS h0 hz hi, h5, dI, ctv]
  · simp (disch := first | assumption | exact ct_i | exact ct_r | exact ct_n | exact ct_h | omega | exact z_in (by omega) (by omega) | exact b01 | exact Or.inl rfl | exact Or.inr rfl) only [b66, e66_0, e66_1, e66_2, e66_5, e66_8, e66_9, e66_10, e66_13, e66_16, e66_17, e66_20, e66_21, e66_22, e66_23, e66_24, e66_27, e66_28, e66_31, e66_32, e66_35, e66_36, e66_39, e66_40, e66_41, e66_42, e66_43, e66_46, e66_47, e66_50, e66_51, e66_52, e66_53, ct_i, ct_r, ct_n, ct_h, opt_v, opt_s, ref_s, ref_n, eq_self_iff_true, true_or, or_true, zl0, zl1, zl2, zl3, zl4, zl5, zl6, zl7, zl8, zl9, zl10, zl16, zl32, zl40, zl100, zl160, zIc1, zI_lt, zI_le, nI_eq, nI_add, z_sub, nI_clamp, zI_of, uu_eq, uu_ne, Nat.reduceLT, Nat.reduceLeDiff, Nat.reduceEqDiff, Nat.reduceAdd, Nat.reduceSub, Nat.reduceMul, Nat.not_lt_zero, Nat.lt_irrefl, Nat.le_refl, Bool.false_eq_true, false_and, and_false, true_and, and_true, if_pos, if_neg, if_true, if_false, not_true_eq_false, not_false_eq_true, h1, h2, h2', h3, k64 (show 1 ≤ d by omega) hS h0 hz hi, h5, dI, ctv]
  · simp (disch := first | assumption | exact ct_i | exact ct_r | exact ct_n | exact ct_h | omega | exact z_in (by omega) (by omega) | exact b01 | exact Or.inl rfl | exact Or.inr rfl) only [b66, e66_0, e66_1, e66_2, e66_5, e66_8, e66_9, e66_10, e66_13, e66_16, e66_17, e66_20, e66_21, e66_22, e66_23, e66_24, e66_27, e66_28, e66_31, e66_32, e66_35, e66_36, e66_39, e66_40, e66_41, e66_42, e66_43, e66_46, e66_47, e66_50, e66_51, e66_52, e66_53, ct_i, ct_r, ct_n, ct_h, opt_v, opt_s, ref_s, ref_n, eq_self_iff_true, true_or, or_true, zl0, zl1, zl2, zl3, zl4, zl5, zl6, zl7, zl8, zl9, zl10, zl16, zl32, zl40, zl100, zl160, zIc1, zI_lt, zI_le, nI_eq, nI_add, z_sub, nI_clamp, zI_of, uu_eq, uu_ne, Nat.reduceLT, Nat.reduceLeDiff, Nat.reduceEqDiff, Nat.reduceAdd, Nat.reduceSub, Nat.reduceMul, Nat.not_lt_zero, Nat.lt_irrefl, Nat.le_refl, Bool.false_eq_true, false_and, and_false, true_and, and_true, if_pos, if_neg, if_true, if_false, not_true_eq_false, not_false_eq_true, h1, h2, h2', h3, k64 (show 1 ≤ d by omega) hS h0 hz hi, h5, dI, ctv]
theorem k65 (hd : 2 ≤ d) (hS : sK o a sh R) {x : Int32} {z : Nat} (hz : z ≤ 40) : aC d 65 [.ref o, .int x, .int (nI z)] (n, t, sh, I, L, R) Q ↔ Q none (n, t, sh, fI (u2 (u2 I o 0 x) o 1 (nI z)) a 40 (nI 0), L, R) := by
  obtain ⟨d, rfl⟩ : ∃ e, d = e + 1 := ⟨d - 1, by omega⟩
  obtain ⟨h1, h2, h2', h3, h4⟩ := hS
  have e1 : (if nI 40 < nI z then nI 40 else nI z) = nI z := if_neg (by rw [zI_lt (by omega) (by omega)]; omega)
  have e2 : (if nI 0 < nI z then nI z else nI 0) = nI z := by
    by_cases h : z = 0
    · subst h; rfl
    · exact if_pos ((zI_lt (by omega) (by omega)).mpr (by omega))
  simp (disch := first | assumption | exact ct_i | exact ct_r | exact ct_n | exact ct_h | omega | exact z_in (by omega) (by omega) | exact b01 | exact Or.inl rfl | exact Or.inr rfl) only [b65, e65_0, e65_1, e65_2, e65_5, e65_6, e65_7, e65_8, e65_10, e65_13, e65_16, e65_19, e65_20, e65_23, e65_24, e65_27, ct_i, ct_r, ct_n, ct_h, opt_v, opt_s, ref_s, ref_n, eq_self_iff_true, true_or, or_true, zl0, zl40, e1, e2, h1, h3, k215 (show 1 ≤ d by omega) h2 h2']
theorem k67 (hd : 1 ≤ d) (hS : sK o a sh R) {z i m : Nat} (h0 : I o 1 = nI z) (hz : z ≤ 40) (hi : i + m ≤ z) : aC d 67 [.ref o, .int (nI i), .int (nI m)] (n, t, sh, I, L, R) Q ↔ Q (some (.int (nI 1))) (n, t, sh, I, L, R) := by
  obtain ⟨d, rfl⟩ : ∃ e, d = e + 1 := ⟨d - 1, by omega⟩
  obtain ⟨h1, h2, h2', h3, h4⟩ := hS
  simp (disch := first | assumption | exact ct_i | exact ct_r | exact ct_n | exact ct_h | omega | exact z_in (by omega) (by omega) | exact b01 | exact Or.inl rfl | exact Or.inr rfl) only [b67, e67_0, e67_1, e67_4, e67_5, e67_8, e67_9, e67_10, e67_13, e67_16, e67_17, e67_18, e67_21, e67_22, e67_23, e67_26, e67_27, e67_30, e67_31, ct_i, ct_r, ct_n, ct_h, opt_v, opt_s, ref_s, ref_n, eq_self_iff_true, true_or, or_true, zl0, zl1, zl2, zl3, zl4, zl5, zl6, zl7, zl8, zl9, zl10, zl16, zl32, zl40, zl100, zl160, zIc1, zI_lt, zI_le, nI_eq, nI_add, z_sub, nI_clamp, zI_of, uu_eq, uu_ne, Nat.reduceLT, Nat.reduceLeDiff, Nat.reduceEqDiff, Nat.reduceAdd, Nat.reduceSub, Nat.reduceMul, Nat.not_lt_zero, Nat.lt_irrefl, Nat.le_refl, Bool.false_eq_true, false_and, and_false, true_and, and_true, if_pos, if_neg, if_true, if_false, not_true_eq_false, not_false_eq_true, h1, h0]
theorem k67n (hd : 1 ≤ d) (hS : sK o a sh R) {z : Nat} (h0 : I o 1 = nI z) (hz : z ≤ 40) {x y : Int32} (hx : ¬ hsA z x y) : aC d 67 [.ref o, .int x, .int y] (n, t, sh, I, L, R) Q ↔ Q (some (.int (nI 0))) (n, t, sh, I, L, R) := by
  obtain ⟨d, rfl⟩ : ∃ e, d = e + 1 := ⟨d - 1, by omega⟩
  obtain ⟨h1, h2, h2', h3, h4⟩ := hS
  by_cases hy0 : y < nI 0
  · simp (disch := first | assumption | exact ct_i | exact ct_r | exact ct_n | exact ct_h | omega | exact z_in (by omega) (by omega) | exact b01 | exact Or.inl rfl | exact Or.inr rfl) only [b67, e67_0, e67_1, e67_4, e67_5, e67_8, e67_9, e67_10, e67_13, e67_16, e67_17, e67_18, e67_21, e67_22, e67_23, e67_26, e67_27, e67_30, e67_31, ct_i, ct_r, ct_n, ct_h, opt_v, opt_s, ref_s, ref_n, eq_self_iff_true, true_or, or_true, zl0, zl1, zl2, zl3, zl4, zl5, zl6, zl7, zl8, zl9, zl10, zl16, zl32, zl40, zl100, zl160, zIc1, zI_lt, zI_le, nI_eq, nI_add, z_sub, nI_clamp, zI_of, uu_eq, uu_ne, Nat.reduceLT, Nat.reduceLeDiff, Nat.reduceEqDiff, Nat.reduceAdd, Nat.reduceSub, Nat.reduceMul, Nat.not_lt_zero, Nat.lt_irrefl, Nat.le_refl, Bool.false_eq_true, false_and, and_false, true_and, and_true, if_pos, if_neg, if_true, if_false, not_true_eq_false, not_false_eq_true, h1, h0, hy0]
  · by_cases hx0 : x < nI 0
    · simp (disch := first | assumption | exact ct_i | exact ct_r | exact ct_n | exact ct_h | omega | exact z_in (by omega) (by omega) | exact b01 | exact Or.inl rfl | exact Or.inr rfl) only [b67, e67_0, e67_1, e67_4, e67_5, e67_8, e67_9, e67_10, e67_13, e67_16, e67_17, e67_18, e67_21, e67_22, e67_23, e67_26, e67_27, e67_30, e67_31, ct_i, ct_r, ct_n, ct_h, opt_v, opt_s, ref_s, ref_n, eq_self_iff_true, true_or, or_true, zl0, zl1, zl2, zl3, zl4, zl5, zl6, zl7, zl8, zl9, zl10, zl16, zl32, zl40, zl100, zl160, zIc1, zI_lt, zI_le, nI_eq, nI_add, z_sub, nI_clamp, zI_of, uu_eq, uu_ne, Nat.reduceLT, Nat.reduceLeDiff, Nat.reduceEqDiff, Nat.reduceAdd, Nat.reduceSub, Nat.reduceMul, Nat.not_lt_zero, Nat.lt_irrefl, Nat.le_refl, Bool.false_eq_true, false_and, and_false, true_and, and_true, if_pos, if_neg, if_true, if_false, not_true_eq_false, not_false_eq_true, h1, h0, hy0, hx0]
    · obtain ⟨i, hi, rfl⟩ := nI_of hx0
      obtain ⟨m, hm, rfl⟩ := nI_of hy0
      have : ¬ i + m ≤ z := fun h => hx ⟨i, m, rfl, rfl, h⟩
      by_cases hiz : z < i
      · simp (disch := first | assumption | exact ct_i | exact ct_r | exact ct_n | exact ct_h | omega | exact z_in (by omega) (by omega) | exact b01 | exact Or.inl rfl | exact Or.inr rfl) only [b67, e67_0, e67_1, e67_4, e67_5, e67_8, e67_9, e67_10, e67_13, e67_16, e67_17, e67_18, e67_21, e67_22, e67_23, e67_26, e67_27, e67_30, e67_31, ct_i, ct_r, ct_n, ct_h, opt_v, opt_s, ref_s, ref_n, eq_self_iff_true, true_or, or_true, zl0, zl1, zl2, zl3, zl4, zl5, zl6, zl7, zl8, zl9, zl10, zl16, zl32, zl40, zl100, zl160, zIc1, zI_lt, zI_le, nI_eq, nI_add, z_sub, nI_clamp, zI_of, uu_eq, uu_ne, Nat.reduceLT, Nat.reduceLeDiff, Nat.reduceEqDiff, Nat.reduceAdd, Nat.reduceSub, Nat.reduceMul, Nat.not_lt_zero, Nat.lt_irrefl, Nat.le_refl, Bool.false_eq_true, false_and, and_false, true_and, and_true, if_pos, if_neg, if_true, if_false, not_true_eq_false, not_false_eq_true, h1, h0]
      · simp (disch := first | assumption | exact ct_i | exact ct_r | exact ct_n | exact ct_h | omega | exact z_in (by omega) (by omega) | exact b01 | exact Or.inl rfl | exact Or.inr rfl) only [b67, e67_0, e67_1, e67_4, e67_5, e67_8, e67_9, e67_10, e67_13, e67_16, e67_17, e67_18, e67_21, e67_22, e67_23, e67_26, e67_27, e67_30, e67_31, ct_i, ct_r, ct_n, ct_h, opt_v, opt_s, ref_s, ref_n, eq_self_iff_true, true_or, or_true, zl0, zl1, zl2, zl3, zl4, zl5, zl6, zl7, zl8, zl9, zl10, zl16, zl32, zl40, zl100, zl160, zIc1, zI_lt, zI_le, nI_eq, nI_add, z_sub, nI_clamp, zI_of, uu_eq, uu_ne, Nat.reduceLT, Nat.reduceLeDiff, Nat.reduceEqDiff, Nat.reduceAdd, Nat.reduceSub, Nat.reduceMul, Nat.not_lt_zero, Nat.lt_irrefl, Nat.le_refl, Bool.false_eq_true, false_and, and_false, true_and, and_true, if_pos, if_neg, if_true, if_false, not_true_eq_false, not_false_eq_true, h1, h0]
end
