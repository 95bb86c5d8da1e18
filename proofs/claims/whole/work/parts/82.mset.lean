/-! the model's calls: set, the image, back -/
section
variable {T0 : Nat} {Z : Nat → Nat} {D : Nat → Nat → Nat} {tx : Nat → Nat → List Nat} {tp so sz : Nat → Nat} {it : Nat → Nat → Int32} {d : Nat} {n t : Nat} {sh : Nat → Nat × Nat} {I : Nat → Nat → Int32} {L : Nat → Nat → Int64} {R : Nat → Nat → Option Nat} {I' : Nat → Nat → Int32} {Q : Option Value → aH → Prop}
theorem MI_0 {z : Nat} (h : MI Z D tx tp so sz it I) : MI (u1 Z 0 z) D tx tp so sz it (u2 I 0 0 (nI z)) := by
  obtain ⟨⟨a1, a2⟩, ⟨b1, b2, b3⟩, c1, ⟨d1, d2⟩, ⟨e1, e2⟩, f1, ⟨g1, g2⟩, i1, j1⟩ := h
  have e : ∀ x k, ¬ (x = 0 ∧ k = 0) → u2 I 0 0 (nI z) x k = I x k := fun x k hx => uu_ne _ _ _ _ (fun g => hx g)
  unfold MI
  simp (disch := omega) only [u1_ne, u1_eq]
  refine ⟨⟨?_, fun d hd => ⟨?_, ?_, ?_, ?_⟩⟩, ⟨uu_eq _ _ _ _, ?_, ?_⟩, fun d hd => ⟨?_, ?_⟩, ⟨?_, fun k hk => ?_⟩, ⟨?_, ?_⟩, fun i hi => ?_, ⟨?_, fun hq => ?_⟩, fun j hj => ⟨?_, ?_, fun k hk => ?_⟩, fun j hj => ?_⟩
  · exact (e _ _ (by omega)).trans a1
  · exact (e _ _ (by omega)).trans (a2 d hd).1
  · exact (e _ _ (by omega)).trans (a2 d hd).2.1
  · exact (e _ _ (by omega)).trans (a2 d hd).2.2.1
  · exact (e _ _ (by omega)).trans (a2 d hd).2.2.2
  · exact (e _ _ (by omega)).trans b2
  · exact (e _ _ (by omega)).trans b3
  · exact (e _ _ (by omega)).trans (c1 d hd).1
  · exact (e _ _ (by omega)).trans (c1 d hd).2
  · exact (e _ _ (by omega)).trans d1
  · exact (e _ _ (by omega)).trans (d2 k hk)
  · exact (e _ _ (by omega)).trans e1
  · exact (e _ _ (by omega)).trans e2
  · exact txM_fr (f1 i hi) (fun x k hx => e x k (by omega))
  · exact (e _ _ (by omega)).trans g1
  · obtain ⟨⟨q1, q2, q3, q4⟩, q5⟩ := g2 hq
    exact ⟨⟨(e _ _ (by omega)).trans q1, (e _ _ (by omega)).trans q2, (e _ _ (by omega)).trans q3, (e _ _ (by omega)).trans q4⟩, fun d hd => (e _ _ (by omega)).trans (q5 d hd)⟩
  · exact (e _ _ (by omega)).trans (i1 j hj).1
  · exact (e _ _ (by omega)).trans (i1 j hj).2.1
  · exact (e _ _ (by omega)).trans ((i1 j hj).2.2 k hk)
  · exact (e _ _ (by omega)).trans (j1 j hj)
theorem mxI_lt {x y z : Int32} : mxI x y < z ↔ x < z ∧ y < z := by
  unfold mxI
  split
  · rename_i h
    rw [Int32.lt_iff_toInt_lt] at h
    rw [Int32.lt_iff_toInt_lt, Int32.lt_iff_toInt_lt]
    omega
  · rename_i h
    rw [Int32.lt_iff_toInt_lt] at h
    rw [Int32.lt_iff_toInt_lt, Int32.lt_iff_toInt_lt]
    omega
theorem hiF_lt {r : Nat} (hr : r < 10) (hB : ∀ i, D i 0 < 10 ∧ D i 1 < 10 ∨ True) : ∀ k, (∀ i, i < k → D i 0 < 10 ∧ D i 1 < 10) → (hiF D k < nI r ↔ ∀ i, i < k → D i 0 < r ∧ D i 1 < r)
  | 0, _ => by
    refine ⟨fun _ i hi => by omega, fun _ => ?_⟩
    simp only [hiF]
    rw [Int32.lt_iff_toInt_lt, nI_toInt (by omega), show (-nI 1).toInt = -1 by decide]; omega
  | k + 1, h => by
    obtain ⟨b0, b1⟩ := h k (by omega)
    simp only [hiF]
    rw [mxI_lt, mxI_lt, zI_lt (by omega) (by omega), zI_lt (by omega) (by omega), hiF_lt hr hB k (fun i hi => h i (by omega))]
    constructor
    · rintro ⟨h1, h2⟩ i hi
      by_cases hk : i = k
      · subst hk; exact h2
      · exact h1 i (by omega)
    · intro h1
      exact ⟨fun i hi => h1 i (by omega), h1 k (by omega)⟩
theorem k122l (hM : mK sh R) {nd : Nat} (hD : dM nd D I) (hn : nd ≤ 4) (hB : dB nd D) {r : Nat} (hr : r < 7) {b : Bool} (H : Q (some (.int (if b = true then nI 1 else nI 0))) (n, t, sh, I, L, R)) :
    ∀ m i, i + m = nd → (b = true ↔ ∀ j, i ≤ j → j < nd → D j 0 < r ∧ D j 1 < r) → aE (a_cl_ d) 122 (24, [.ref 0, .int (nI r), .int (nI i)], [], (n, t, sh, I, L, R)) Q := by
  have m0 := mm_0 hM; have x2 := mm_x2 hM; have y2 := mm_y2 hM; have r5 := mm_r5 hM; have x3 := mm_x3 hM; have y3 := mm_y3 hM; have r6 := mm_r6 hM
  have h1 := hD.1
  intro m
  induction m with
  | zero =>
    intro i hi hb
    obtain rfl : i = nd := by omega
    have : b = true := hb.mpr (fun j h1 h2 => by omega)
    subst this
    simp only [if_true] at H
    rw [e122_24]
    simp (disch := first | assumption | exact ct_i | exact ct_r | exact ct_n | exact ct_h | omega | exact z_in (by omega) (by omega) | exact b01 | exact Or.inl rfl | exact Or.inr rfl) only [e122_0, e122_1, e122_2, e122_3, e122_6, e122_9, e122_12, e122_13, e122_16, e122_17, e122_20, e122_21, e122_22, e122_23, e122_25, e122_26, e122_29, e122_32, e122_33, e122_36, e122_37, e122_38, e122_39, e122_42, e122_43, e122_46, e122_47, e122_48, e122_49, e122_52, e122_53, e122_54, e122_57, e122_60, e122_61, ct_i, ct_r, ct_n, ct_h, opt_v, opt_s, ref_s, ref_n, eq_self_iff_true, true_or, or_true, zl0, zl1, zl2, zl3, zl4, zl5, zl6, zl7, zl8, zl9, zl10, zl16, zl32, zl40, zl100, zl160, zIc1, zI_lt, zI_le, nI_eq, nI_add, z_sub, nI_clamp, zI_of, uu_eq, uu_ne, Nat.reduceLT, Nat.reduceLeDiff, Nat.reduceEqDiff, Nat.reduceAdd, Nat.reduceSub, Nat.reduceMul, Nat.not_lt_zero, Nat.lt_irrefl, Nat.le_refl, Bool.false_eq_true, false_and, and_false, true_and, and_true, if_pos, if_neg, if_true, if_false, not_true_eq_false, not_false_eq_true, m0, x2, y2, r5, x3, y3, r6, h1]
    exact H
  | succ m ih =>
    intro i hi hb
    have hlt : i < nd := by omega
    obtain ⟨g1, g2, g3, g4⟩ := hD.2 i hlt
    obtain ⟨b0, b1, b2, b3, b4⟩ := hB i hlt
    rw [e122_24]
    by_cases c1 : D i 0 < r
    · by_cases c2 : D i 1 < r
      · have q := ih (i + 1) (by omega) (hb.trans ⟨fun h j h1 h2 => h j (by omega) h2, fun h j h1 h2 => by
          by_cases hj : j = i
          · subst hj; exact ⟨c1, c2⟩
          · exact h j (by omega) h2⟩)
        simp (disch := first | assumption | exact ct_i | exact ct_r | exact ct_n | exact ct_h | omega | exact z_in (by omega) (by omega) | exact b01 | exact Or.inl rfl | exact Or.inr rfl) only [e122_0, e122_1, e122_2, e122_3, e122_6, e122_9, e122_12, e122_13, e122_16, e122_17, e122_20, e122_21, e122_22, e122_23, e122_25, e122_26, e122_29, e122_32, e122_33, e122_36, e122_37, e122_38, e122_39, e122_42, e122_43, e122_46, e122_47, e122_48, e122_49, e122_52, e122_53, e122_54, e122_57, e122_60, e122_61, ct_i, ct_r, ct_n, ct_h, opt_v, opt_s, ref_s, ref_n, eq_self_iff_true, true_or, or_true, zl0, zl1, zl2, zl3, zl4, zl5, zl6, zl7, zl8, zl9, zl10, zl16, zl32, zl40, zl100, zl160, zIc1, zI_lt, zI_le, nI_eq, nI_add, z_sub, nI_clamp, zI_of, uu_eq, uu_ne, Nat.reduceLT, Nat.reduceLeDiff, Nat.reduceEqDiff, Nat.reduceAdd, Nat.reduceSub, Nat.reduceMul, Nat.not_lt_zero, Nat.lt_irrefl, Nat.le_refl, Bool.false_eq_true, false_and, and_false, true_and, and_true, if_pos, if_neg, if_true, if_false, not_true_eq_false, not_false_eq_true, m0, x2, y2, r5, x3, y3, r6, h1, g1, g2, c1, c2]
        exact q
      · have : ¬ b = true := fun h => c2 (hb.mp h i (Nat.le_refl _) hlt).2
        rw [Bool.not_eq_true] at this
        subst this
        simp only [Bool.false_eq_true, if_false] at H
        simp (disch := first | assumption | exact ct_i | exact ct_r | exact ct_n | exact ct_h | omega | exact z_in (by omega) (by omega) | exact b01 | exact Or.inl rfl | exact Or.inr rfl) only [e122_0, e122_1, e122_2, e122_3, e122_6, e122_9, e122_12, e122_13, e122_16, e122_17, e122_20, e122_21, e122_22, e122_23, e122_25, e122_26, e122_29, e122_32, e122_33, e122_36, e122_37, e122_38, e122_39, e122_42, e122_43, e122_46, e122_47, e122_48, e122_49, e122_52, e122_53, e122_54, e122_57, e122_60, e122_61, ct_i, ct_r, ct_n, ct_h, opt_v, opt_s, ref_s, ref_n, eq_self_iff_true, true_or, or_true, zl0, zl1, zl2, zl3, zl4, zl5, zl6, zl7, zl8, zl9, zl10, zl16, zl32, zl40, zl100, zl160, zIc1, zI_lt, zI_le, nI_eq, nI_add, z_sub, nI_clamp, zI_of, uu_eq, uu_ne, Nat.reduceLT, Nat.reduceLeDiff, Nat.reduceEqDiff, Nat.reduceAdd, Nat.reduceSub, Nat.reduceMul, Nat.not_lt_zero, Nat.lt_irrefl, Nat.le_refl, Bool.false_eq_true, false_and, and_false, true_and, and_true, if_pos, if_neg, if_true, if_false, not_true_eq_false, not_false_eq_true, m0, x2, y2, r5, x3, y3, r6, h1, g1, g2, c1, c2]
        exact H
    · have : ¬ b = true := fun h => c1 (hb.mp h i (Nat.le_refl _) hlt).1
      rw [Bool.not_eq_true] at this
      subst this
      simp only [Bool.false_eq_true, if_false] at H
      simp (disch := first | assumption | exact ct_i | exact ct_r | exact ct_n | exact ct_h | omega | exact z_in (by omega) (by omega) | exact b01 | exact Or.inl rfl | exact Or.inr rfl) only [e122_0, e122_1, e122_2, e122_3, e122_6, e122_9, e122_12, e122_13, e122_16, e122_17, e122_20, e122_21, e122_22, e122_23, e122_25, e122_26, e122_29, e122_32, e122_33, e122_36, e122_37, e122_38, e122_39, e122_42, e122_43, e122_46, e122_47, e122_48, e122_49, e122_52, e122_53, e122_54, e122_57, e122_60, e122_61, ct_i, ct_r, ct_n, ct_h, opt_v, opt_s, ref_s, ref_n, eq_self_iff_true, true_or, or_true, zl0, zl1, zl2, zl3, zl4, zl5, zl6, zl7, zl8, zl9, zl10, zl16, zl32, zl40, zl100, zl160, zIc1, zI_lt, zI_le, nI_eq, nI_add, z_sub, nI_clamp, zI_of, uu_eq, uu_ne, Nat.reduceLT, Nat.reduceLeDiff, Nat.reduceEqDiff, Nat.reduceAdd, Nat.reduceSub, Nat.reduceMul, Nat.not_lt_zero, Nat.lt_irrefl, Nat.le_refl, Bool.false_eq_true, false_and, and_false, true_and, and_true, if_pos, if_neg, if_true, if_false, not_true_eq_false, not_false_eq_true, m0, x2, y2, r5, x3, y3, r6, h1, g1, g2, c1]
      exact H
def mayR (Z : Nat → Nat) (D : Nat → Nat → Nat) (v : Int32) : Bool := match dec v 7 with
  | some r => decide (1 ≤ r ∧ rmo (Z 2) < r ∧ hiF D (Z 1) < nI r)
  | none => false
theorem k122 (hd : 2 ≤ d) (hk : RM T0 Z D tx tp so sz it (n, t, sh, I, L, R)) {v : Int32} (H : Q (some (.int (if mayR Z D v = true then nI 1 else nI 0))) (n, t, sh, I, L, R)) : aC d 122 [.ref 0, .int v] (n, t, sh, I, L, R) Q := by
  obtain ⟨d, rfl⟩ : ∃ e, d = e + 1 := ⟨d - 1, by omega⟩
  obtain ⟨hM, hD, hn4, hB, hR⟩ := RM_B hk
  have m0 := mm_0 hM
  obtain ⟨_, _, _, _, m1, m2, m3, m4, m5, m6, m7⟩ := id hk
  simp only [] at m2
  have g3 := m2.2.2
  have o3 := hk.1.2.2.1
  have hrm := rmo_lt o3.1
  unfold mayR at H
  cases hv : dec v 7 with
  | none =>
    simp only [hv, Bool.false_eq_true, if_false] at H
    have h7 : ¬ (nI 1 ≤ v ∧ v ≤ nI 6) := fun h => by
      have e1 : (nI 1).toInt = 1 := by decide
      have e6 : (nI 6).toInt = 6 := by decide
      have e7 : (nI 7).toInt = 7 := by decide
      have e0 : (nI 0).toInt = 0 := by decide
      rw [Int32.le_iff_toInt_le, Int32.le_iff_toInt_le] at h
      rcases dec_none hv with g | g
      · rw [Int32.lt_iff_toInt_lt] at g; omega
      · rw [Int32.le_iff_toInt_le] at g; omega
    simp (disch := first | assumption | exact ct_i | exact ct_r | exact ct_n | exact ct_h | omega | exact z_in (by omega) (by omega) | exact b01 | exact Or.inl rfl | exact Or.inr rfl) only [b122, e122_0, e122_1, e122_2, e122_3, e122_6, e122_9, e122_12, e122_13, e122_16, e122_17, e122_20, e122_21, e122_22, e122_23, e122_24, e122_25, e122_26, e122_29, e122_32, e122_33, e122_36, e122_37, e122_38, e122_39, e122_42, e122_43, e122_46, e122_47, e122_48, e122_49, e122_52, e122_53, e122_54, e122_57, e122_60, e122_61, ct_i, ct_r, ct_n, ct_h, opt_v, opt_s, ref_s, ref_n, eq_self_iff_true, true_or, or_true, zl0, zl1, zl2, zl3, zl4, zl5, zl6, zl7, zl8, zl9, zl10, zl16, zl32, zl40, zl100, zl160, zIc1, zI_lt, zI_le, nI_eq, nI_add, z_sub, nI_clamp, zI_of, uu_eq, uu_ne, Nat.reduceLT, Nat.reduceLeDiff, Nat.reduceEqDiff, Nat.reduceAdd, Nat.reduceSub, Nat.reduceMul, Nat.not_lt_zero, Nat.lt_irrefl, Nat.le_refl, Bool.false_eq_true, false_and, and_false, true_and, and_true, if_pos, if_neg, if_true, if_false, not_true_eq_false, not_false_eq_true, m0, ll1, ll6, k118 (show 1 ≤ d by omega), h7]
    exact H
  | some r =>
    obtain ⟨rfl, hr⟩ := dec_some (by decide) hv
    simp only [hv] at H
    by_cases h1 : 1 ≤ r
    · have h7 : nI 1 ≤ nI r ∧ nI r ≤ nI 6 := by
        rw [zI_le (by decide) (by omega), zI_le (by omega) (by decide)]; omega
      by_cases h2 : rmo (Z 2) < r
      · simp (disch := first | assumption | exact ct_i | exact ct_r | exact ct_n | exact ct_h | omega | exact z_in (by omega) (by omega) | exact b01 | exact Or.inl rfl | exact Or.inr rfl) only [b122, e122_0, e122_1, e122_2, e122_3, e122_6, e122_9, e122_12, e122_13, e122_16, e122_17, e122_20, e122_21, e122_22, e122_23, e122_25, e122_26, e122_29, e122_32, e122_33, e122_36, e122_37, e122_38, e122_39, e122_42, e122_43, e122_46, e122_47, e122_48, e122_49, e122_52, e122_53, e122_54, e122_57, e122_60, e122_61, ct_i, ct_r, ct_n, ct_h, opt_v, opt_s, ref_s, ref_n, eq_self_iff_true, true_or, or_true, zl0, zl1, zl2, zl3, zl4, zl5, zl6, zl7, zl8, zl9, zl10, zl16, zl32, zl40, zl100, zl160, zIc1, zI_lt, zI_le, nI_eq, nI_add, z_sub, nI_clamp, zI_of, uu_eq, uu_ne, Nat.reduceLT, Nat.reduceLeDiff, Nat.reduceEqDiff, Nat.reduceAdd, Nat.reduceSub, Nat.reduceMul, Nat.not_lt_zero, Nat.lt_irrefl, Nat.le_refl, Bool.false_eq_true, false_and, and_false, true_and, and_true, if_pos, if_neg, if_true, if_false, not_true_eq_false, not_false_eq_true, m0, ll1, ll6, k118 (show 1 ≤ d by omega), h7, g3, h2]
        refine k122l hM hD hn4 hB hr H (Z 1) 0 (by omega) ?_
        rw [decide_eq_true_iff, hiF_lt (by omega) (fun _ => Or.inr trivial) (Z 1) (fun i hi => by have := hB i hi; omega)]
        exact ⟨fun h j _ hj => h.2.2 j hj, fun h => ⟨h1, h2, fun i hi => h i (Nat.zero_le _) hi⟩⟩
      · rw [show decide (1 ≤ r ∧ rmo (Z 2) < r ∧ hiF D (Z 1) < nI r) = false from decide_eq_false (fun h => h2 h.2.1)] at H
        simp only [Bool.false_eq_true, if_false] at H
        simp (disch := first | assumption | exact ct_i | exact ct_r | exact ct_n | exact ct_h | omega | exact z_in (by omega) (by omega) | exact b01 | exact Or.inl rfl | exact Or.inr rfl) only [b122, e122_0, e122_1, e122_2, e122_3, e122_6, e122_9, e122_12, e122_13, e122_16, e122_17, e122_20, e122_21, e122_22, e122_23, e122_25, e122_26, e122_29, e122_32, e122_33, e122_36, e122_37, e122_38, e122_39, e122_42, e122_43, e122_46, e122_47, e122_48, e122_49, e122_52, e122_53, e122_54, e122_57, e122_60, e122_61, ct_i, ct_r, ct_n, ct_h, opt_v, opt_s, ref_s, ref_n, eq_self_iff_true, true_or, or_true, zl0, zl1, zl2, zl3, zl4, zl5, zl6, zl7, zl8, zl9, zl10, zl16, zl32, zl40, zl100, zl160, zIc1, zI_lt, zI_le, nI_eq, nI_add, z_sub, nI_clamp, zI_of, uu_eq, uu_ne, Nat.reduceLT, Nat.reduceLeDiff, Nat.reduceEqDiff, Nat.reduceAdd, Nat.reduceSub, Nat.reduceMul, Nat.not_lt_zero, Nat.lt_irrefl, Nat.le_refl, Bool.false_eq_true, false_and, and_false, true_and, and_true, if_pos, if_neg, if_true, if_false, not_true_eq_false, not_false_eq_true, m0, ll1, ll6, k118 (show 1 ≤ d by omega), h7, g3, h2]
        exact H
    · have h7 : ¬ (nI 1 ≤ nI r ∧ nI r ≤ nI 6) := by
        rw [zI_le (by decide) (by omega), zI_le (by omega) (by decide)]; omega
      rw [show decide (1 ≤ r ∧ rmo (Z 2) < r ∧ hiF D (Z 1) < nI r) = false from decide_eq_false (fun h => h1 h.1)] at H
      simp only [Bool.false_eq_true, if_false] at H
      simp (disch := first | assumption | exact ct_i | exact ct_r | exact ct_n | exact ct_h | omega | exact z_in (by omega) (by omega) | exact b01 | exact Or.inl rfl | exact Or.inr rfl) only [b122, e122_0, e122_1, e122_2, e122_3, e122_6, e122_9, e122_12, e122_13, e122_16, e122_17, e122_20, e122_21, e122_22, e122_23, e122_24, e122_25, e122_26, e122_29, e122_32, e122_33, e122_36, e122_37, e122_38, e122_39, e122_42, e122_43, e122_46, e122_47, e122_48, e122_49, e122_52, e122_53, e122_54, e122_57, e122_60, e122_61, ct_i, ct_r, ct_n, ct_h, opt_v, opt_s, ref_s, ref_n, eq_self_iff_true, true_or, or_true, zl0, zl1, zl2, zl3, zl4, zl5, zl6, zl7, zl8, zl9, zl10, zl16, zl32, zl40, zl100, zl160, zIc1, zI_lt, zI_le, nI_eq, nI_add, z_sub, nI_clamp, zI_of, uu_eq, uu_ne, Nat.reduceLT, Nat.reduceLeDiff, Nat.reduceEqDiff, Nat.reduceAdd, Nat.reduceSub, Nat.reduceMul, Nat.not_lt_zero, Nat.lt_irrefl, Nat.le_refl, Bool.false_eq_true, false_and, and_false, true_and, and_true, if_pos, if_neg, if_true, if_false, not_true_eq_false, not_false_eq_true, m0, ll1, ll6, k118 (show 1 ≤ d by omega), h7]
      exact H
theorem k120 (hd : 4 ≤ d) (hk : RM T0 Z D tx tp so sz it (n, t, sh, I, L, R)) {w x v : Int32} (H : ∀ h', RMh T0 (setS Z D w x v).2 D tx tp so sz it h' → Q (some (.int (setS Z D w x v).1)) h') : aC d 120 [.ref 0, .int w, .int x, .int v] (n, t, sh, I, L, R) Q := by
  obtain ⟨d, rfl⟩ : ∃ e, d = e + 1 := ⟨d - 1, by omega⟩
  obtain ⟨hM, hD, hn4, hB, hR⟩ := RM_B hk
  have m0 := mm_0 hM; have x6 := mm_x6 hM; have y6 := mm_y6 hM; have r9 := mm_r9 hM
  obtain ⟨_, _, _, _, m1, m2, m3, m4, m5, m6, m7⟩ := id hk
  simp only [] at m1 m2 m3 m5
  obtain ⟨g0, g2, g3⟩ := m2
  have o3 := hk.1.2.2.1
  have o1 := hk.1.1
  have l3 : (3 : Int64) = (nI 3).toInt64 := rfl
  have e1 := fun Q => k121 (Q := Q) (n := n) (t := t) (L := L) (show 2 ≤ d by omega) hM hD hn4 (x := x)
  have e2 := fun Q => k119 (Q := Q) (n := n) (t := t) (L := L) (show 2 ≤ d by omega) hM g0 o1.2 (x := v)
  unfold setS at H
  by_cases w0 : w = nI 0
  · subst w0
    rw [if_pos rfl] at H
    unfold setZ at H
    cases hx : dec x (Z 1) with
    | none =>
      simp only [hx] at H
      have q := H _ hk.2
      simp only [hx, Option.isSome_none, Bool.false_eq_true, if_false] at e1
      simp (disch := first | assumption | exact ct_i | exact ct_r | exact ct_n | exact ct_h | omega | exact z_in (by omega) (by omega) | exact b01 | exact Or.inl rfl | exact Or.inr rfl) only [b120, e120_0, e120_2, e120_4, e120_5, e120_36, e120_37, e120_38, e120_41, e120_44, e120_45, e120_46, e120_47, e120_50, e120_53, e120_56, e120_57, e120_60, e120_61, e120_62, e120_64, e120_65, e120_68, e120_69, e120_70, e120_71, e120_73, e120_74, e120_75, e120_76, e120_77, e120_80, e120_83, e120_86, e120_87, e120_90, e120_92, e120_93, e120_94, e120_97, e120_99, e120_100, e120_101, e120_102, e120_105, e120_108, e120_109, e120_112, e120_114, e120_115, e120_116, e120_119, e120_121, e120_122, e120_123, e120_124, e120_127, e120_130, e120_131, e120_134, e120_136, e120_137, e120_138, e120_141, e120_143, e120_144, e120_146, ct_i, ct_r, ct_n, ct_h, opt_v, opt_s, ref_s, ref_n, eq_self_iff_true, true_or, or_true, zl0, zl1, zl2, zl3, zl4, zl5, zl6, zl7, zl8, zl9, zl10, zl16, zl32, zl40, zl100, zl160, zIc1, zI_lt, zI_le, nI_eq, nI_add, z_sub, nI_clamp, zI_of, uu_eq, uu_ne, Nat.reduceLT, Nat.reduceLeDiff, Nat.reduceEqDiff, Nat.reduceAdd, Nat.reduceSub, Nat.reduceMul, Nat.not_lt_zero, Nat.lt_irrefl, Nat.le_refl, Bool.false_eq_true, false_and, and_false, true_and, and_true, if_pos, if_neg, if_true, if_false, not_true_eq_false, not_false_eq_true, m0, e1]
      exact q
    | some i =>
      obtain ⟨rfl, hi⟩ := dec_some (by omega) hx
      simp only [hx] at H
      simp only [hx, Option.isSome_some, if_true] at e1
      cases hv : dec v 4 with
      | none =>
        simp only [hv] at H
        have q := H _ hk.2
        simp (disch := first | assumption | exact ct_i | exact ct_r | exact ct_n | exact ct_h | omega | exact z_in (by omega) (by omega) | exact b01 | exact Or.inl rfl | exact Or.inr rfl) only [b120, e120_0, e120_2, e120_4, e120_5, e120_36, e120_37, e120_38, e120_41, e120_44, e120_45, e120_46, e120_47, e120_50, e120_53, e120_56, e120_57, e120_60, e120_61, e120_62, e120_64, e120_65, e120_68, e120_69, e120_70, e120_71, e120_73, e120_74, e120_75, e120_76, e120_77, e120_80, e120_83, e120_86, e120_87, e120_90, e120_92, e120_93, e120_94, e120_97, e120_99, e120_100, e120_101, e120_102, e120_105, e120_108, e120_109, e120_112, e120_114, e120_115, e120_116, e120_119, e120_121, e120_122, e120_123, e120_124, e120_127, e120_130, e120_131, e120_134, e120_136, e120_137, e120_138, e120_141, e120_143, e120_144, e120_146, ct_i, ct_r, ct_n, ct_h, opt_v, opt_s, ref_s, ref_n, eq_self_iff_true, true_or, or_true, zl0, zl1, zl2, zl3, zl4, zl5, zl6, zl7, zl8, zl9, zl10, zl16, zl32, zl40, zl100, zl160, zIc1, zI_lt, zI_le, nI_eq, nI_add, z_sub, nI_clamp, zI_of, uu_eq, uu_ne, Nat.reduceLT, Nat.reduceLeDiff, Nat.reduceEqDiff, Nat.reduceAdd, Nat.reduceSub, Nat.reduceMul, Nat.not_lt_zero, Nat.lt_irrefl, Nat.le_refl, Bool.false_eq_true, false_and, and_false, true_and, and_true, if_pos, if_neg, if_true, if_false, not_true_eq_false, not_false_eq_true, m0, e1, ll0, l3, k118 (show 1 ≤ d by omega), in_d4, hv, Option.isSome_none, Bool.false_eq_true, if_false]
        exact q
      | some u =>
        obtain ⟨rfl, hu⟩ := dec_some (by omega) hv
        simp only [hv] at H
        have gi := (m3 i hi).2
        simp (disch := first | assumption | exact ct_i | exact ct_r | exact ct_n | exact ct_h | omega | exact z_in (by omega) (by omega) | exact b01 | exact Or.inl rfl | exact Or.inr rfl) only [b120, e120_0, e120_2, e120_4, e120_5, e120_36, e120_37, e120_38, e120_41, e120_44, e120_45, e120_46, e120_47, e120_50, e120_53, e120_56, e120_57, e120_60, e120_61, e120_62, e120_64, e120_65, e120_68, e120_69, e120_70, e120_71, e120_73, e120_74, e120_75, e120_76, e120_77, e120_80, e120_83, e120_86, e120_87, e120_90, e120_92, e120_93, e120_94, e120_97, e120_99, e120_100, e120_101, e120_102, e120_105, e120_108, e120_109, e120_112, e120_114, e120_115, e120_116, e120_119, e120_121, e120_122, e120_123, e120_124, e120_127, e120_130, e120_131, e120_134, e120_136, e120_137, e120_138, e120_141, e120_143, e120_144, e120_146, ct_i, ct_r, ct_n, ct_h, opt_v, opt_s, ref_s, ref_n, eq_self_iff_true, true_or, or_true, zl0, zl1, zl2, zl3, zl4, zl5, zl6, zl7, zl8, zl9, zl10, zl16, zl32, zl40, zl100, zl160, zIc1, zI_lt, zI_le, nI_eq, nI_add, z_sub, nI_clamp, zI_of, uu_eq, uu_ne, Nat.reduceLT, Nat.reduceLeDiff, Nat.reduceEqDiff, Nat.reduceAdd, Nat.reduceSub, Nat.reduceMul, Nat.not_lt_zero, Nat.lt_irrefl, Nat.le_refl, Bool.false_eq_true, false_and, and_false, true_and, and_true, if_pos, if_neg, if_true, if_false, not_true_eq_false, not_false_eq_true, m0, x6, y6, r9, e1, ll0, l3, k118 (show 1 ≤ d by omega), in_d4, hv, Option.isSome_some, if_true, gi]
        refine H _ ⟨hk.2.1, hk.2.2.1, hk.2.2.2.1, MI_24 hk.2.2.2.2 (fun k hk => u1_ne _ _ _ (by omega)) (fun x k hx => uu_ne _ _ _ _ (fun e => hx (by omega))) ?_ ?_ ?_ (fun j hj => ?_)⟩
        · try dsimp only
          rw [u1_eq, uu_ne _ _ _ _ (by omega), tno_wst (by omega) hu]; exact g2
        · try dsimp only
          rw [u1_eq, uu_ne _ _ _ _ (by omega), rmo_wst (by omega) hu]; exact g3
        · try dsimp only
          rw [u1_ne _ _ _ (by decide), uu_ne _ _ _ _ (by omega)]; exact m5.2
        · try dsimp only
          rw [u1_eq, stt_wst (by omega) (by omega) hu]
          by_cases hj2 : j = i
          · subst hj2; rw [uu_eq, if_pos rfl]
          · rw [uu_ne _ _ _ _ (by omega), if_neg hj2]; exact (m3 j hj).2
  rw [if_neg w0] at H
  by_cases w1 : w = nI 1
  · subst w1
    rw [if_pos rfl] at H
    unfold setT at H
    cases hv : dec v 4 with
    | none =>
      simp only [hv] at H
      have q := H _ hk.2
      simp (disch := first | assumption | exact ct_i | exact ct_r | exact ct_n | exact ct_h | omega | exact z_in (by omega) (by omega) | exact b01 | exact Or.inl rfl | exact Or.inr rfl) only [b120, e120_0, e120_2, e120_4, e120_5, e120_36, e120_37, e120_38, e120_41, e120_44, e120_45, e120_46, e120_47, e120_50, e120_53, e120_56, e120_57, e120_60, e120_61, e120_62, e120_64, e120_65, e120_68, e120_69, e120_70, e120_71, e120_73, e120_74, e120_75, e120_76, e120_77, e120_80, e120_83, e120_86, e120_87, e120_90, e120_92, e120_93, e120_94, e120_97, e120_99, e120_100, e120_101, e120_102, e120_105, e120_108, e120_109, e120_112, e120_114, e120_115, e120_116, e120_119, e120_121, e120_122, e120_123, e120_124, e120_127, e120_130, e120_131, e120_134, e120_136, e120_137, e120_138, e120_141, e120_143, e120_144, e120_146, ct_i, ct_r, ct_n, ct_h, opt_v, opt_s, ref_s, ref_n, eq_self_iff_true, true_or, or_true, zl0, zl1, zl2, zl3, zl4, zl5, zl6, zl7, zl8, zl9, zl10, zl16, zl32, zl40, zl100, zl160, zIc1, zI_lt, zI_le, nI_eq, nI_add, z_sub, nI_clamp, zI_of, uu_eq, uu_ne, Nat.reduceLT, Nat.reduceLeDiff, Nat.reduceEqDiff, Nat.reduceAdd, Nat.reduceSub, Nat.reduceMul, Nat.not_lt_zero, Nat.lt_irrefl, Nat.le_refl, Bool.false_eq_true, false_and, and_false, true_and, and_true, if_pos, if_neg, if_true, if_false, not_true_eq_false, not_false_eq_true, m0, ll0, l3, k118 (show 1 ≤ d by omega), in_d4, hv, Option.isSome_none, Bool.false_eq_true, if_false]
      exact q
    | some u =>
      obtain ⟨rfl, hu⟩ := dec_some (by omega) hv
      simp only [hv] at H
      simp (disch := first | assumption | exact ct_i | exact ct_r | exact ct_n | exact ct_h | omega | exact z_in (by omega) (by omega) | exact b01 | exact Or.inl rfl | exact Or.inr rfl) only [b120, e120_0, e120_2, e120_4, e120_5, e120_36, e120_37, e120_38, e120_41, e120_44, e120_45, e120_46, e120_47, e120_50, e120_53, e120_56, e120_57, e120_60, e120_61, e120_62, e120_64, e120_65, e120_68, e120_69, e120_70, e120_71, e120_73, e120_74, e120_75, e120_76, e120_77, e120_80, e120_83, e120_86, e120_87, e120_90, e120_92, e120_93, e120_94, e120_97, e120_99, e120_100, e120_101, e120_102, e120_105, e120_108, e120_109, e120_112, e120_114, e120_115, e120_116, e120_119, e120_121, e120_122, e120_123, e120_124, e120_127, e120_130, e120_131, e120_134, e120_136, e120_137, e120_138, e120_141, e120_143, e120_144, e120_146, ct_i, ct_r, ct_n, ct_h, opt_v, opt_s, ref_s, ref_n, eq_self_iff_true, true_or, or_true, zl0, zl1, zl2, zl3, zl4, zl5, zl6, zl7, zl8, zl9, zl10, zl16, zl32, zl40, zl100, zl160, zIc1, zI_lt, zI_le, nI_eq, nI_add, z_sub, nI_clamp, zI_of, uu_eq, uu_ne, Nat.reduceLT, Nat.reduceLeDiff, Nat.reduceEqDiff, Nat.reduceAdd, Nat.reduceSub, Nat.reduceMul, Nat.not_lt_zero, Nat.lt_irrefl, Nat.le_refl, Bool.false_eq_true, false_and, and_false, true_and, and_true, if_pos, if_neg, if_true, if_false, not_true_eq_false, not_false_eq_true, m0, ll0, l3, k118 (show 1 ≤ d by omega), in_d4, hv, Option.isSome_some, if_true, g2]
      refine H _ ⟨hk.2.1, hk.2.2.1, hk.2.2.2.1, MI_24 hk.2.2.2.2 (fun k hk => u1_ne _ _ _ (by omega)) (fun x k hx => uu_ne _ _ _ _ (fun e => hx (by omega))) ?_ ?_ ?_ (fun j hj => ?_)⟩
      · try dsimp only
        rw [u1_eq, uu_eq, tno_wtn hu]
      · try dsimp only
        rw [u1_eq, uu_ne _ _ _ _ (by omega), rmo_wtn hu]; exact g3
      · try dsimp only
        rw [u1_ne _ _ _ (by decide), uu_ne _ _ _ _ (by omega)]; exact m5.2
      · try dsimp only
        rw [u1_eq, uu_ne _ _ _ _ (by omega), stt_wtn (by omega) hu]; exact (m3 j hj).2
  rw [if_neg w1] at H
  by_cases w2 : w = nI 2
  · subst w2
    rw [if_pos rfl] at H
    unfold setR at H
    cases hv : dec v (Z 0) with
    | none =>
      simp only [hv] at H
      have q := H _ hk.2
      simp only [hv, Option.isSome_none, Bool.false_eq_true, if_false] at e2
      simp (disch := first | assumption | exact ct_i | exact ct_r | exact ct_n | exact ct_h | omega | exact z_in (by omega) (by omega) | exact b01 | exact Or.inl rfl | exact Or.inr rfl) only [b120, e120_0, e120_2, e120_4, e120_5, e120_36, e120_37, e120_38, e120_41, e120_44, e120_45, e120_46, e120_47, e120_50, e120_53, e120_56, e120_57, e120_60, e120_61, e120_62, e120_64, e120_65, e120_68, e120_69, e120_70, e120_71, e120_73, e120_74, e120_75, e120_76, e120_77, e120_80, e120_83, e120_86, e120_87, e120_90, e120_92, e120_93, e120_94, e120_97, e120_99, e120_100, e120_101, e120_102, e120_105, e120_108, e120_109, e120_112, e120_114, e120_115, e120_116, e120_119, e120_121, e120_122, e120_123, e120_124, e120_127, e120_130, e120_131, e120_134, e120_136, e120_137, e120_138, e120_141, e120_143, e120_144, e120_146, ct_i, ct_r, ct_n, ct_h, opt_v, opt_s, ref_s, ref_n, eq_self_iff_true, true_or, or_true, zl0, zl1, zl2, zl3, zl4, zl5, zl6, zl7, zl8, zl9, zl10, zl16, zl32, zl40, zl100, zl160, zIc1, zI_lt, zI_le, nI_eq, nI_add, z_sub, nI_clamp, zI_of, uu_eq, uu_ne, Nat.reduceLT, Nat.reduceLeDiff, Nat.reduceEqDiff, Nat.reduceAdd, Nat.reduceSub, Nat.reduceMul, Nat.not_lt_zero, Nat.lt_irrefl, Nat.le_refl, Bool.false_eq_true, false_and, and_false, true_and, and_true, if_pos, if_neg, if_true, if_false, not_true_eq_false, not_false_eq_true, m0, e2]
      exact q
    | some u =>
      obtain ⟨rfl, hu⟩ := dec_some (by omega) hv
      simp only [hv] at H
      simp only [hv, Option.isSome_some, if_true] at e2
      simp (disch := first | assumption | exact ct_i | exact ct_r | exact ct_n | exact ct_h | omega | exact z_in (by omega) (by omega) | exact b01 | exact Or.inl rfl | exact Or.inr rfl) only [b120, e120_0, e120_2, e120_4, e120_5, e120_36, e120_37, e120_38, e120_41, e120_44, e120_45, e120_46, e120_47, e120_50, e120_53, e120_56, e120_57, e120_60, e120_61, e120_62, e120_64, e120_65, e120_68, e120_69, e120_70, e120_71, e120_73, e120_74, e120_75, e120_76, e120_77, e120_80, e120_83, e120_86, e120_87, e120_90, e120_92, e120_93, e120_94, e120_97, e120_99, e120_100, e120_101, e120_102, e120_105, e120_108, e120_109, e120_112, e120_114, e120_115, e120_116, e120_119, e120_121, e120_122, e120_123, e120_124, e120_127, e120_130, e120_131, e120_134, e120_136, e120_137, e120_138, e120_141, e120_143, e120_144, e120_146, ct_i, ct_r, ct_n, ct_h, opt_v, opt_s, ref_s, ref_n, eq_self_iff_true, true_or, or_true, zl0, zl1, zl2, zl3, zl4, zl5, zl6, zl7, zl8, zl9, zl10, zl16, zl32, zl40, zl100, zl160, zIc1, zI_lt, zI_le, nI_eq, nI_add, z_sub, nI_clamp, zI_of, uu_eq, uu_ne, Nat.reduceLT, Nat.reduceLeDiff, Nat.reduceEqDiff, Nat.reduceAdd, Nat.reduceSub, Nat.reduceMul, Nat.not_lt_zero, Nat.lt_irrefl, Nat.le_refl, Bool.false_eq_true, false_and, and_false, true_and, and_true, if_pos, if_neg, if_true, if_false, not_true_eq_false, not_false_eq_true, m0, e2, g3]
      refine H _ ⟨hk.2.1, hk.2.2.1, hk.2.2.2.1, MI_24 hk.2.2.2.2 (fun k hk => u1_ne _ _ _ (by omega)) (fun x k hx => uu_ne _ _ _ _ (fun e => hx (by omega))) ?_ ?_ ?_ (fun j hj => ?_)⟩
      · try dsimp only
        rw [u1_eq, uu_ne _ _ _ _ (by omega), tno_wrm]; exact g2
      · try dsimp only
        rw [u1_eq, uu_eq, rmo_wrm]
      · try dsimp only
        rw [u1_ne _ _ _ (by decide), uu_ne _ _ _ _ (by omega)]; exact m5.2
      · try dsimp only
        rw [u1_eq, uu_ne _ _ _ _ (by omega), stt_wrm (by omega)]; exact (m3 j hj).2
  rw [if_neg w2] at H
  by_cases w3 : w = nI 3
  · subst w3
    rw [if_pos rfl] at H
    simp (disch := first | assumption | exact ct_i | exact ct_r | exact ct_n | exact ct_h | omega | exact z_in (by omega) (by omega) | exact b01 | exact Or.inl rfl | exact Or.inr rfl) only [b120, e120_0, e120_2, e120_4, e120_5, e120_36, e120_37, e120_38, e120_41, e120_44, e120_45, e120_46, e120_47, e120_50, e120_53, e120_56, e120_57, e120_60, e120_61, e120_62, e120_64, e120_65, e120_68, e120_69, e120_70, e120_71, e120_73, e120_74, e120_75, e120_76, e120_77, e120_80, e120_83, e120_86, e120_87, e120_90, e120_92, e120_93, e120_94, e120_97, e120_99, e120_100, e120_101, e120_102, e120_105, e120_108, e120_109, e120_112, e120_114, e120_115, e120_116, e120_119, e120_121, e120_122, e120_123, e120_124, e120_127, e120_130, e120_131, e120_134, e120_136, e120_137, e120_138, e120_141, e120_143, e120_144, e120_146, ct_i, ct_r, ct_n, ct_h, opt_v, opt_s, ref_s, ref_n, eq_self_iff_true, true_or, or_true, zl0, zl1, zl2, zl3, zl4, zl5, zl6, zl7, zl8, zl9, zl10, zl16, zl32, zl40, zl100, zl160, zIc1, zI_lt, zI_le, nI_eq, nI_add, z_sub, nI_clamp, zI_of, uu_eq, uu_ne, Nat.reduceLT, Nat.reduceLeDiff, Nat.reduceEqDiff, Nat.reduceAdd, Nat.reduceSub, Nat.reduceMul, Nat.not_lt_zero, Nat.lt_irrefl, Nat.le_refl, Bool.false_eq_true, false_and, and_false, true_and, and_true, if_pos, if_neg, if_true, if_false, not_true_eq_false, not_false_eq_true, m0]
    refine k122 (by omega) hk ?_
    unfold setN at H
    unfold mayR
    cases hv : dec v 7 with
    | none =>
      simp only [hv] at H
      have q := H _ hk.2
      simp (disch := first | assumption | exact ct_i | exact ct_r | exact ct_n | exact ct_h | omega | exact z_in (by omega) (by omega) | exact b01 | exact Or.inl rfl | exact Or.inr rfl) only [e120_0, e120_2, e120_4, e120_5, e120_36, e120_37, e120_38, e120_41, e120_44, e120_45, e120_46, e120_47, e120_50, e120_53, e120_56, e120_57, e120_60, e120_61, e120_62, e120_64, e120_65, e120_68, e120_69, e120_70, e120_71, e120_73, e120_74, e120_75, e120_76, e120_77, e120_80, e120_83, e120_86, e120_87, e120_90, e120_92, e120_93, e120_94, e120_97, e120_99, e120_100, e120_101, e120_102, e120_105, e120_108, e120_109, e120_112, e120_114, e120_115, e120_116, e120_119, e120_121, e120_122, e120_123, e120_124, e120_127, e120_130, e120_131, e120_134, e120_136, e120_137, e120_138, e120_141, e120_143, e120_144, e120_146, ct_i, ct_r, ct_n, ct_h, opt_v, opt_s, ref_s, ref_n, eq_self_iff_true, true_or, or_true, zl0, zl1, zl2, zl3, zl4, zl5, zl6, zl7, zl8, zl9, zl10, zl16, zl32, zl40, zl100, zl160, zIc1, zI_lt, zI_le, nI_eq, nI_add, z_sub, nI_clamp, zI_of, uu_eq, uu_ne, Nat.reduceLT, Nat.reduceLeDiff, Nat.reduceEqDiff, Nat.reduceAdd, Nat.reduceSub, Nat.reduceMul, Nat.not_lt_zero, Nat.lt_irrefl, Nat.le_refl, Bool.false_eq_true, false_and, and_false, true_and, and_true, if_pos, if_neg, if_true, if_false, not_true_eq_false, not_false_eq_true, m0, Bool.false_eq_true, if_false]
      exact q
    | some u =>
      obtain ⟨rfl, hu⟩ := dec_some (by omega) hv
      simp only [hv] at H
      by_cases hc : 1 ≤ u ∧ rmo (Z 2) < u ∧ hiF D (Z 1) < nI u
      · rw [if_pos hc] at H
        simp only [decide_eq_true hc, if_true]
        simp (disch := first | assumption | exact ct_i | exact ct_r | exact ct_n | exact ct_h | omega | exact z_in (by omega) (by omega) | exact b01 | exact Or.inl rfl | exact Or.inr rfl) only [e120_0, e120_2, e120_4, e120_5, e120_36, e120_37, e120_38, e120_41, e120_44, e120_45, e120_46, e120_47, e120_50, e120_53, e120_56, e120_57, e120_60, e120_61, e120_62, e120_64, e120_65, e120_68, e120_69, e120_70, e120_71, e120_73, e120_74, e120_75, e120_76, e120_77, e120_80, e120_83, e120_86, e120_87, e120_90, e120_92, e120_93, e120_94, e120_97, e120_99, e120_100, e120_101, e120_102, e120_105, e120_108, e120_109, e120_112, e120_114, e120_115, e120_116, e120_119, e120_121, e120_122, e120_123, e120_124, e120_127, e120_130, e120_131, e120_134, e120_136, e120_137, e120_138, e120_141, e120_143, e120_144, e120_146, ct_i, ct_r, ct_n, ct_h, opt_v, opt_s, ref_s, ref_n, eq_self_iff_true, true_or, or_true, zl0, zl1, zl2, zl3, zl4, zl5, zl6, zl7, zl8, zl9, zl10, zl16, zl32, zl40, zl100, zl160, zIc1, zI_lt, zI_le, nI_eq, nI_add, z_sub, nI_clamp, zI_of, uu_eq, uu_ne, Nat.reduceLT, Nat.reduceLeDiff, Nat.reduceEqDiff, Nat.reduceAdd, Nat.reduceSub, Nat.reduceMul, Nat.not_lt_zero, Nat.lt_irrefl, Nat.le_refl, Bool.false_eq_true, false_and, and_false, true_and, and_true, if_pos, if_neg, if_true, if_false, not_true_eq_false, not_false_eq_true, m0, g0]
        exact H _ ⟨hk.2.1, hk.2.2.1, hk.2.2.2.1, MI_0 hk.2.2.2.2⟩
      · rw [if_neg hc] at H
        have q := H _ hk.2
        simp only [decide_eq_false hc, Bool.false_eq_true, if_false]
        simp (disch := first | assumption | exact ct_i | exact ct_r | exact ct_n | exact ct_h | omega | exact z_in (by omega) (by omega) | exact b01 | exact Or.inl rfl | exact Or.inr rfl) only [e120_0, e120_2, e120_4, e120_5, e120_36, e120_37, e120_38, e120_41, e120_44, e120_45, e120_46, e120_47, e120_50, e120_53, e120_56, e120_57, e120_60, e120_61, e120_62, e120_64, e120_65, e120_68, e120_69, e120_70, e120_71, e120_73, e120_74, e120_75, e120_76, e120_77, e120_80, e120_83, e120_86, e120_87, e120_90, e120_92, e120_93, e120_94, e120_97, e120_99, e120_100, e120_101, e120_102, e120_105, e120_108, e120_109, e120_112, e120_114, e120_115, e120_116, e120_119, e120_121, e120_122, e120_123, e120_124, e120_127, e120_130, e120_131, e120_134, e120_136, e120_137, e120_138, e120_141, e120_143, e120_144, e120_146, ct_i, ct_r, ct_n, ct_h, opt_v, opt_s, ref_s, ref_n, eq_self_iff_true, true_or, or_true, zl0, zl1, zl2, zl3, zl4, zl5, zl6, zl7, zl8, zl9, zl10, zl16, zl32, zl40, zl100, zl160, zIc1, zI_lt, zI_le, nI_eq, nI_add, z_sub, nI_clamp, zI_of, uu_eq, uu_ne, Nat.reduceLT, Nat.reduceLeDiff, Nat.reduceEqDiff, Nat.reduceAdd, Nat.reduceSub, Nat.reduceMul, Nat.not_lt_zero, Nat.lt_irrefl, Nat.le_refl, Bool.false_eq_true, false_and, and_false, true_and, and_true, if_pos, if_neg, if_true, if_false, not_true_eq_false, not_false_eq_true, m0]
        exact q
  rw [if_neg w3] at H
  have q := H _ hk.2
  simp (disch := first | assumption | exact ct_i | exact ct_r | exact ct_n | exact ct_h | omega | exact z_in (by omega) (by omega) | exact b01 | exact Or.inl rfl | exact Or.inr rfl) only [b120, e120_0, e120_2, e120_4, e120_5, e120_36, e120_37, e120_38, e120_41, e120_44, e120_45, e120_46, e120_47, e120_50, e120_53, e120_56, e120_57, e120_60, e120_61, e120_62, e120_64, e120_65, e120_68, e120_69, e120_70, e120_71, e120_73, e120_74, e120_75, e120_76, e120_77, e120_80, e120_83, e120_86, e120_87, e120_90, e120_92, e120_93, e120_94, e120_97, e120_99, e120_100, e120_101, e120_102, e120_105, e120_108, e120_109, e120_112, e120_114, e120_115, e120_116, e120_119, e120_121, e120_122, e120_123, e120_124, e120_127, e120_130, e120_131, e120_134, e120_136, e120_137, e120_138, e120_141, e120_143, e120_144, e120_146, ct_i, ct_r, ct_n, ct_h, opt_v, opt_s, ref_s, ref_n, eq_self_iff_true, true_or, or_true, zl0, zl1, zl2, zl3, zl4, zl5, zl6, zl7, zl8, zl9, zl10, zl16, zl32, zl40, zl100, zl160, zIc1, zI_lt, zI_le, nI_eq, nI_add, z_sub, nI_clamp, zI_of, uu_eq, uu_ne, Nat.reduceLT, Nat.reduceLeDiff, Nat.reduceEqDiff, Nat.reduceAdd, Nat.reduceSub, Nat.reduceMul, Nat.not_lt_zero, Nat.lt_irrefl, Nat.le_refl, Bool.false_eq_true, false_and, and_false, true_and, and_true, if_true, if_false, not_true_eq_false, not_false_eq_true, m0, if_neg w0, if_neg w1, if_neg w2, if_neg w3]
  exact q
end
