/-! the class's calls: situations of beginning; the image again; what is under what -/
section
variable {T0 : Nat} {Z : Nat → Nat} {D : Nat → Nat → Nat} {tx : Nat → Nat → List Nat} {tp so sz : Nat → Nat} {it : Nat → Nat → Int32} {d : Nat} {n t : Nat} {sh : Nat → Nat × Nat} {I : Nat → Nat → Int32} {L : Nat → Nat → Int64} {R : Nat → Nat → Option Nat} {I' : Nat → Nat → Int32} {Q : Option Value → aH → Prop}
theorem k104c (hd : 6 ≤ d) (hk : RK T0 Z D tx tp so sz it (n, t, sh, I, L, R)) {j r tn b : Nat} (hj : j < 4) (hr : r < 6) (ht : tn < 4) (hb : b + 256 ≤ 6144) : ∀ m i, i + m = 4 ^ Z 1 →
    (aE (a_cl_ d) 104 (41, [.ref 0, .ref (15 + 2 * j), .int (nI (4 ^ Z 1)), .int (nI (b + hmC Z D tx sz it j (r * 4 + tn) i)), .int (nI r), .int (nI tn), .int (nI i)], [], (n, t, sh, I, L, R)) Q ↔
      aE (a_cl_ d) 104 (73, [.ref 0, .ref (15 + 2 * j), .int (nI (4 ^ Z 1)), .int (nI (b + hmC Z D tx sz it j (r * 4 + tn) (4 ^ Z 1))), .int (nI r), .int (nI tn), .int (nI (4 ^ Z 1))], [], (n, t, sh, I, L, R)) Q) := by
  obtain ⟨⟨o1, ⟨o2, hB⟩, o3, o4, o5, o6, o7⟩, hn, hK, hcl, hD', hM, h4, h5, h6, h7, h8, h9⟩ := id hk
  simp only [] at hn hK hcl hD' hM h4 h5 h6 h7 h8 h9
  obtain ⟨c1, c2, c3, c4, c5, c6, c7, c8, c9, c10⟩ := cP0 hK
  have hf := four_le o2
  intro m
  induction m with
  | zero =>
    intro i hi
    obtain rfl : i = 4 ^ Z 1 := by omega
    rw [e104_41]
    simp (disch := first | assumption | exact ct_i | exact ct_r | exact ct_n | exact ct_h | omega | exact z_in (by omega) (by omega) | exact b01 | exact Or.inl rfl | exact Or.inr rfl) only [e104_0, e104_1, e104_2, e104_3, e104_6, e104_9, e104_10, e104_11, e104_12, e104_13, e104_14, e104_15, e104_17, e104_19, e104_20, e104_23, e104_26, e104_29, e104_30, e104_32, e104_34, e104_35, e104_38, e104_39, e104_43, e104_44, e104_47, e104_48, e104_48n, e104_49, e104_51, e104_53, e104_55, e104_58, e104_61, e104_64, e104_67, e104_70, e104_76, e104_79, e104_82, e104_85, e104_86, ct_i, ct_r, ct_n, ct_h, opt_v, opt_s, ref_s, ref_n, eq_self_iff_true, true_or, or_true, zl0, zl1, zl2, zl3, zl4, zl5, zl6, zl7, zl8, zl9, zl10, zl16, zl32, zl40, zl100, zl160, zIc1, zI_lt, zI_le, nI_eq, nI_add, z_sub, nI_clamp, zI_of, uu_eq, uu_ne, Nat.reduceLT, Nat.reduceLeDiff, Nat.reduceEqDiff, Nat.reduceAdd, Nat.reduceSub, Nat.reduceMul, Nat.not_lt_zero, Nat.lt_irrefl, Nat.le_refl, Bool.false_eq_true, false_and, and_false, true_and, and_true, if_pos, if_neg, if_true, if_false, not_true_eq_false, not_false_eq_true]
  | succ m ih =>
    intro i hi
    have hil : i < 256 := by omega
    have hle : hmC Z D tx sz it j (r * 4 + tn) i ≤ i := cntP_le i
    have hs : r * 1024 + tn * 256 + i < 6144 := by omega
    have e0 : r * 1024 + tn * 256 + i = (r * 4 + tn) * 256 + i := by omega
    rw [e104_41, ← ih (i + 1) (by omega)]
    by_cases hc : (rwS Z D tx (it j) (sz j) (r * 1024 + tn * 256 + i)).1 = sz j
    · have e : hmC Z D tx sz it j (r * 4 + tn) (i + 1) = hmC Z D tx sz it j (r * 4 + tn) i + 1 := if_pos (decide_eq_true (by rw [← e0]; exact hc))
      simp (disch := first | assumption | exact ct_i | exact ct_r | exact ct_n | exact ct_h | omega | exact z_in (by omega) (by omega) | exact b01 | exact Or.inl rfl | exact Or.inr rfl) only [e104_0, e104_1, e104_2, e104_3, e104_6, e104_9, e104_10, e104_11, e104_12, e104_13, e104_14, e104_15, e104_17, e104_19, e104_20, e104_23, e104_26, e104_29, e104_30, e104_32, e104_34, e104_35, e104_38, e104_39, e104_43, e104_44, e104_47, e104_48, e104_48n, e104_49, e104_51, e104_53, e104_55, e104_58, e104_61, e104_64, e104_67, e104_70, e104_76, e104_79, e104_82, e104_85, e104_86, ct_i, ct_r, ct_n, ct_h, opt_v, opt_s, ref_s, ref_n, eq_self_iff_true, true_or, or_true, zl0, zl1, zl2, zl3, zl4, zl5, zl6, zl7, zl8, zl9, zl10, zl16, zl32, zl40, zl100, zl160, zIc1, zI_lt, zI_le, nI_eq, nI_add, z_sub, nI_clamp, zI_of, uu_eq, uu_ne, Nat.reduceLT, Nat.reduceLeDiff, Nat.reduceEqDiff, Nat.reduceAdd, Nat.reduceSub, Nat.reduceMul, Nat.not_lt_zero, Nat.lt_irrefl, Nat.le_refl, Bool.false_eq_true, false_and, and_false, true_and, and_true, if_pos, if_neg, if_true, if_false, not_true_eq_false, not_false_eq_true, c1, k201 (show 1 ≤ d by omega) hr ht hil, k103 (show 5 ≤ d by omega) hk hj hs, hc, e, (show b + (hmC Z D tx sz it j (r * 4 + tn) i + 1) = b + hmC Z D tx sz it j (r * 4 + tn) i + 1 from rfl)]
    · have e : hmC Z D tx sz it j (r * 4 + tn) (i + 1) = hmC Z D tx sz it j (r * 4 + tn) i := if_neg (fun h => hc (by rw [e0]; exact of_decide_eq_true h))
      simp (disch := first | assumption | exact ct_i | exact ct_r | exact ct_n | exact ct_h | omega | exact z_in (by omega) (by omega) | exact b01 | exact Or.inl rfl | exact Or.inr rfl) only [e104_0, e104_1, e104_2, e104_3, e104_6, e104_9, e104_10, e104_11, e104_12, e104_13, e104_14, e104_15, e104_17, e104_19, e104_20, e104_23, e104_26, e104_29, e104_30, e104_32, e104_34, e104_35, e104_38, e104_39, e104_43, e104_44, e104_47, e104_48, e104_48n, e104_49, e104_51, e104_53, e104_55, e104_58, e104_61, e104_64, e104_67, e104_70, e104_76, e104_79, e104_82, e104_85, e104_86, ct_i, ct_r, ct_n, ct_h, opt_v, opt_s, ref_s, ref_n, eq_self_iff_true, true_or, or_true, zl0, zl1, zl2, zl3, zl4, zl5, zl6, zl7, zl8, zl9, zl10, zl16, zl32, zl40, zl100, zl160, zIc1, zI_lt, zI_le, nI_eq, nI_add, z_sub, nI_clamp, zI_of, uu_eq, uu_ne, Nat.reduceLT, Nat.reduceLeDiff, Nat.reduceEqDiff, Nat.reduceAdd, Nat.reduceSub, Nat.reduceMul, Nat.not_lt_zero, Nat.lt_irrefl, Nat.le_refl, Bool.false_eq_true, false_and, and_false, true_and, and_true, if_pos, if_neg, if_true, if_false, not_true_eq_false, not_false_eq_true, c1, k201 (show 1 ≤ d by omega) hr ht hil, k103 (show 5 ≤ d by omega) hk hj hs, hc, e]
theorem hmC_le (h4 : Z 1 ≤ 4) {j rt : Nat} : hmC Z D tx sz it j rt (4 ^ Z 1) ≤ 256 := Nat.le_trans (cntP_le _) (four_le h4)
theorem hmS_le (h4 : Z 1 ≤ 4) {j n : Nat} : hmS Z D tx sz it j n ≤ n * 256 := sumN_le (fun _ => hmC_le h4) n
theorem k104b (hd : 6 ≤ d) (hk : RK T0 Z D tx tp so sz it (n, t, sh, I, L, R)) {j r : Nat} (hj : j < 4) (hr : r < 6) (H : ∀ l6, aE (a_cl_ d) 104 (79, [.ref 0, .ref (15 + 2 * j), .int (nI (4 ^ Z 1)), .int (nI (hmS Z D tx sz it j (r * 4 + 4))), .int (nI r), .int (nI 4), l6], [], (n, t, sh, I, L, R)) Q) : ∀ m i l6, i + m = 4 →
    aE (a_cl_ d) 104 (32, [.ref 0, .ref (15 + 2 * j), .int (nI (4 ^ Z 1)), .int (nI (hmS Z D tx sz it j (r * 4 + i))), .int (nI r), .int (nI i), l6], [], (n, t, sh, I, L, R)) Q := by
  obtain ⟨⟨o1, ⟨o2, hB⟩, o3, o4, o5, o6, o7⟩, -⟩ := id hk
  intro m
  induction m with
  | zero =>
    intro i l6 hi
    obtain rfl : i = 4 := by omega
    rw [e104_32]
    simp (disch := first | assumption | exact ct_i | exact ct_r | exact ct_n | exact ct_h | omega | exact z_in (by omega) (by omega) | exact b01 | exact Or.inl rfl | exact Or.inr rfl) only [e104_0, e104_1, e104_2, e104_3, e104_6, e104_9, e104_10, e104_11, e104_12, e104_13, e104_14, e104_15, e104_17, e104_19, e104_20, e104_23, e104_26, e104_29, e104_30, e104_34, e104_35, e104_38, e104_39, e104_43, e104_44, e104_47, e104_48, e104_48n, e104_49, e104_51, e104_53, e104_55, e104_58, e104_61, e104_64, e104_67, e104_70, e104_73, e104_76, e104_82, e104_85, e104_86, ct_i, ct_r, ct_n, ct_h, opt_v, opt_s, ref_s, ref_n, eq_self_iff_true, true_or, or_true, zl0, zl1, zl2, zl3, zl4, zl5, zl6, zl7, zl8, zl9, zl10, zl16, zl32, zl40, zl100, zl160, zIc1, zI_lt, zI_le, nI_eq, nI_add, z_sub, nI_clamp, zI_of, uu_eq, uu_ne, Nat.reduceLT, Nat.reduceLeDiff, Nat.reduceEqDiff, Nat.reduceAdd, Nat.reduceSub, Nat.reduceMul, Nat.not_lt_zero, Nat.lt_irrefl, Nat.le_refl, Bool.false_eq_true, false_and, and_false, true_and, and_true, if_pos, if_neg, if_true, if_false, not_true_eq_false, not_false_eq_true]
    exact H _
  | succ m ih =>
    intro i l6 hi
    have hl : hmS Z D tx sz it j (r * 4 + i) ≤ (r * 4 + i) * 256 := hmS_le o2
    rw [e104_32]
    simp (disch := first | assumption | exact ct_i | exact ct_r | exact ct_n | exact ct_h | omega | exact z_in (by omega) (by omega) | exact b01 | exact Or.inl rfl | exact Or.inr rfl) only [e104_0, e104_1, e104_2, e104_3, e104_6, e104_9, e104_10, e104_11, e104_12, e104_13, e104_14, e104_15, e104_17, e104_19, e104_20, e104_23, e104_26, e104_29, e104_30, e104_34, e104_35, e104_38, e104_39, e104_43, e104_44, e104_47, e104_48, e104_48n, e104_49, e104_51, e104_53, e104_55, e104_58, e104_61, e104_64, e104_67, e104_70, e104_76, e104_79, e104_82, e104_85, e104_86, ct_i, ct_r, ct_n, ct_h, opt_v, opt_s, ref_s, ref_n, eq_self_iff_true, true_or, or_true, zl0, zl1, zl2, zl3, zl4, zl5, zl6, zl7, zl8, zl9, zl10, zl16, zl32, zl40, zl100, zl160, zIc1, zI_lt, zI_le, nI_eq, nI_add, z_sub, nI_clamp, zI_of, uu_eq, uu_ne, Nat.reduceLT, Nat.reduceLeDiff, Nat.reduceEqDiff, Nat.reduceAdd, Nat.reduceSub, Nat.reduceMul, Nat.not_lt_zero, Nat.lt_irrefl, Nat.le_refl, Bool.false_eq_true, false_and, and_false, true_and, and_true, if_pos, if_neg, if_true, if_false, not_true_eq_false, not_false_eq_true]
    have key := (k104c (Q := Q) hd hk hj hr (show i < 4 by omega) (b := hmS Z D tx sz it j (r * 4 + i)) (by omega) (4 ^ Z 1) 0 (by omega)).mpr
    refine key ?_
    simp (disch := first | assumption | exact ct_i | exact ct_r | exact ct_n | exact ct_h | omega | exact z_in (by omega) (by omega) | exact b01 | exact Or.inl rfl | exact Or.inr rfl) only [e104_0, e104_1, e104_2, e104_3, e104_6, e104_9, e104_10, e104_11, e104_12, e104_13, e104_14, e104_15, e104_17, e104_19, e104_20, e104_23, e104_26, e104_29, e104_30, e104_34, e104_35, e104_38, e104_39, e104_43, e104_44, e104_47, e104_48, e104_48n, e104_49, e104_51, e104_53, e104_55, e104_58, e104_61, e104_64, e104_67, e104_70, e104_73, e104_76, e104_79, e104_82, e104_85, e104_86, ct_i, ct_r, ct_n, ct_h, opt_v, opt_s, ref_s, ref_n, eq_self_iff_true, true_or, or_true, zl0, zl1, zl2, zl3, zl4, zl5, zl6, zl7, zl8, zl9, zl10, zl16, zl32, zl40, zl100, zl160, zIc1, zI_lt, zI_le, nI_eq, nI_add, z_sub, nI_clamp, zI_of, uu_eq, uu_ne, Nat.reduceLT, Nat.reduceLeDiff, Nat.reduceEqDiff, Nat.reduceAdd, Nat.reduceSub, Nat.reduceMul, Nat.not_lt_zero, Nat.lt_irrefl, Nat.le_refl, Bool.false_eq_true, false_and, and_false, true_and, and_true, if_pos, if_neg, if_true, if_false, not_true_eq_false, not_false_eq_true]
    exact ih (i + 1) _ (by omega)
theorem k104a (hd : 6 ≤ d) (hk : RK T0 Z D tx tp so sz it (n, t, sh, I, L, R)) {j : Nat} (hj : j < 4) (H : Q (some (.int (nI (hmS Z D tx sz it j (Z 0 * 4))))) (n, t, sh, I, L, R)) : ∀ m i l5 l6, i + m = Z 0 →
    aE (a_cl_ d) 104 (17, [.ref 0, .ref (15 + 2 * j), .int (nI (4 ^ Z 1)), .int (nI (hmS Z D tx sz it j (i * 4))), .int (nI i), l5, l6], [], (n, t, sh, I, L, R)) Q := by
  obtain ⟨⟨o1, ⟨o2, hB⟩, o3, o4, o5, o6, o7⟩, hn, hK, hcl, hD', hM, h4, h5, h6, h7, h8, h9⟩ := id hk
  simp only [] at hn hK hcl hD' hM h4 h5 h6 h7 h8 h9
  obtain ⟨c1, c2, c3, c4, c5, c6, c7, c8, c9, c10⟩ := cP0 hK
  have s2 := (cPh hK).1
  intro m
  induction m with
  | zero =>
    intro i l5 l6 hi
    obtain rfl : i = Z 0 := by omega
    rw [e104_17]
    simp (disch := first | assumption | exact ct_i | exact ct_r | exact ct_n | exact ct_h | omega | exact z_in (by omega) (by omega) | exact b01 | exact Or.inl rfl | exact Or.inr rfl) only [e104_0, e104_1, e104_2, e104_3, e104_6, e104_9, e104_10, e104_11, e104_12, e104_13, e104_14, e104_15, e104_19, e104_20, e104_23, e104_26, e104_29, e104_30, e104_34, e104_35, e104_38, e104_39, e104_41, e104_43, e104_44, e104_47, e104_48, e104_48n, e104_49, e104_51, e104_53, e104_55, e104_58, e104_61, e104_64, e104_67, e104_70, e104_73, e104_76, e104_79, e104_82, e104_85, e104_86, ct_i, ct_r, ct_n, ct_h, opt_v, opt_s, ref_s, ref_n, eq_self_iff_true, true_or, or_true, zl0, zl1, zl2, zl3, zl4, zl5, zl6, zl7, zl8, zl9, zl10, zl16, zl32, zl40, zl100, zl160, zIc1, zI_lt, zI_le, nI_eq, nI_add, z_sub, nI_clamp, zI_of, uu_eq, uu_ne, Nat.reduceLT, Nat.reduceLeDiff, Nat.reduceEqDiff, Nat.reduceAdd, Nat.reduceSub, Nat.reduceMul, Nat.not_lt_zero, Nat.lt_irrefl, Nat.le_refl, Bool.false_eq_true, false_and, and_false, true_and, and_true, if_pos, if_neg, if_true, if_false, not_true_eq_false, not_false_eq_true, c1, c6, s2, h5]
    exact H
  | succ m ih =>
    intro i l5 l6 hi
    rw [e104_17]
    simp (disch := first | assumption | exact ct_i | exact ct_r | exact ct_n | exact ct_h | omega | exact z_in (by omega) (by omega) | exact b01 | exact Or.inl rfl | exact Or.inr rfl) only [e104_0, e104_1, e104_2, e104_3, e104_6, e104_9, e104_10, e104_11, e104_12, e104_13, e104_14, e104_15, e104_19, e104_20, e104_23, e104_26, e104_29, e104_30, e104_34, e104_35, e104_38, e104_39, e104_41, e104_43, e104_44, e104_47, e104_48, e104_48n, e104_49, e104_51, e104_53, e104_55, e104_58, e104_61, e104_64, e104_67, e104_70, e104_73, e104_76, e104_79, e104_82, e104_85, e104_86, ct_i, ct_r, ct_n, ct_h, opt_v, opt_s, ref_s, ref_n, eq_self_iff_true, true_or, or_true, zl0, zl1, zl2, zl3, zl4, zl5, zl6, zl7, zl8, zl9, zl10, zl16, zl32, zl40, zl100, zl160, zIc1, zI_lt, zI_le, nI_eq, nI_add, z_sub, nI_clamp, zI_of, uu_eq, uu_ne, Nat.reduceLT, Nat.reduceLeDiff, Nat.reduceEqDiff, Nat.reduceAdd, Nat.reduceSub, Nat.reduceMul, Nat.not_lt_zero, Nat.lt_irrefl, Nat.le_refl, Bool.false_eq_true, false_and, and_false, true_and, and_true, if_pos, if_neg, if_true, if_false, not_true_eq_false, not_false_eq_true, c1, c6, s2, h5]
    refine k104b hd hk hj (show i < 6 by omega) (fun l6 => ?_) 4 0 _ (by omega)
    simp (disch := first | assumption | exact ct_i | exact ct_r | exact ct_n | exact ct_h | omega | exact z_in (by omega) (by omega) | exact b01 | exact Or.inl rfl | exact Or.inr rfl) only [e104_0, e104_1, e104_2, e104_3, e104_6, e104_9, e104_10, e104_11, e104_12, e104_13, e104_14, e104_15, e104_19, e104_20, e104_23, e104_26, e104_29, e104_30, e104_34, e104_35, e104_38, e104_39, e104_41, e104_43, e104_44, e104_47, e104_48, e104_48n, e104_49, e104_51, e104_53, e104_55, e104_58, e104_61, e104_64, e104_67, e104_70, e104_73, e104_76, e104_79, e104_82, e104_85, e104_86, ct_i, ct_r, ct_n, ct_h, opt_v, opt_s, ref_s, ref_n, eq_self_iff_true, true_or, or_true, zl0, zl1, zl2, zl3, zl4, zl5, zl6, zl7, zl8, zl9, zl10, zl16, zl32, zl40, zl100, zl160, zIc1, zI_lt, zI_le, nI_eq, nI_add, z_sub, nI_clamp, zI_of, uu_eq, uu_ne, Nat.reduceLT, Nat.reduceLeDiff, Nat.reduceEqDiff, Nat.reduceAdd, Nat.reduceSub, Nat.reduceMul, Nat.not_lt_zero, Nat.lt_irrefl, Nat.le_refl, Bool.false_eq_true, false_and, and_false, true_and, and_true, if_pos, if_neg, if_true, if_false, not_true_eq_false, not_false_eq_true]
    have := ih (i + 1) (.int (nI 4)) l6 (by omega)
    rw [show (i + 1) * 4 = i * 4 + 4 by omega] at this
    exact this
theorem k104 (hd : 7 ≤ d) (hk : RK T0 Z D tx tp so sz it (n, t, sh, I, L, R)) {j : Nat} (hj : j < 4) (H : Q (some (.int (nI (hmS Z D tx sz it j (Z 0 * 4))))) (n, t, sh, I, L, R)) : aC d 104 [.ref 0, .ref (15 + 2 * j)] (n, t, sh, I, L, R) Q := by
  obtain ⟨d, rfl⟩ : ∃ e, d = e + 1 := ⟨d - 1, by omega⟩
  obtain ⟨⟨o1, ⟨o2, hB⟩, o3, o4, o5, o6, o7⟩, hn, hK, hcl, hD', hM, h4, h5, h6, h7, h8, h9⟩ := id hk
  simp only [] at hn hK hcl hD' hM h4 h5 h6 h7 h8 h9
  obtain ⟨c1, c2, c3, c4, c5, c6, c7, c8, c9, c10⟩ := cP0 hK
  have s2 := (cPh hK).1
  simp (disch := first | assumption | exact ct_i | exact ct_r | exact ct_n | exact ct_h | omega | exact z_in (by omega) (by omega) | exact b01 | exact Or.inl rfl | exact Or.inr rfl) only [b104, e104_0, e104_1, e104_2, e104_3, e104_6, e104_9, e104_10, e104_11, e104_12, e104_13, e104_14, e104_15, e104_19, e104_20, e104_23, e104_26, e104_29, e104_30, e104_32, e104_34, e104_35, e104_38, e104_39, e104_41, e104_43, e104_44, e104_47, e104_48, e104_48n, e104_49, e104_51, e104_53, e104_55, e104_58, e104_61, e104_64, e104_67, e104_70, e104_73, e104_76, e104_79, e104_82, e104_85, e104_86, ct_i, ct_r, ct_n, ct_h, opt_v, opt_s, ref_s, ref_n, eq_self_iff_true, true_or, or_true, zl0, zl1, zl2, zl3, zl4, zl5, zl6, zl7, zl8, zl9, zl10, zl16, zl32, zl40, zl100, zl160, zIc1, zI_lt, zI_le, nI_eq, nI_add, z_sub, nI_clamp, zI_of, uu_eq, uu_ne, Nat.reduceLT, Nat.reduceLeDiff, Nat.reduceEqDiff, Nat.reduceAdd, Nat.reduceSub, Nat.reduceMul, Nat.not_lt_zero, Nat.lt_irrefl, Nat.le_refl, Bool.false_eq_true, false_and, and_false, true_and, and_true, if_true, if_false, not_true_eq_false, not_false_eq_true, zI_mul, c1, c6, s2, hD'.1]
  have e : nI 1 <<< (nI (2 * Z 1) &&& 31) = nI (4 ^ Z 1) := by
    rw [← zI_mul]; exact z_four o2
  rw [e]
  exact k104a (by omega) hk hj H (Z 0) 0 a_hole a_hole (by omega)
theorem k101 (hd : 12 ≤ d) (hk : RK T0 Z D tx tp so sz it (n, t, sh, I, L, R)) {x w : Int32} (H : Q (some (.int (heaS Z D tx so sz it x w))) (n, t, sh, I, L, R)) : aC d 101 [.ref 0, .int x, .int w] (n, t, sh, I, L, R) Q := by
  obtain ⟨d, rfl⟩ : ∃ e, d = e + 1 := ⟨d - 1, by omega⟩
  obtain ⟨⟨o1, ⟨o2, hB⟩, o3, o4, o5, o6, o7⟩, hn, hK, hcl, hD', hM, h4, h5, h6, h7, h8, h9⟩ := id hk
  simp only [] at hn hK hcl hD' hM h4 h5 h6 h7 h8 h9
  obtain ⟨c1, c2, c3, c4, c5, c6, c7, c8, c9, c10⟩ := cP0 hK
  unfold heaS at H
  cases hx : dec x 4 with
  | none =>
    simp only [hx] at H
    simp (disch := first | assumption | exact ct_i | exact ct_r | exact ct_n | exact ct_h | omega | exact z_in (by omega) (by omega) | exact b01 | exact Or.inl rfl | exact Or.inr rfl) only [b101, e101_0, e101_1, e101_2, e101_5, e101_5n, e101_6, e101_6n, e101_7n, e101_7, e101_10, e101_11, e101_14, e101_15, e101_16, e101_19, e101_21, e101_22, e101_22n, e101_23, e101_26, e101_29, e101_31, e101_32, e101_33, e101_36, e101_37, e101_37n, e101_38, e101_41, e101_44, e101_45, e101_45n, e101_46, e101_49, ct_i, ct_r, ct_n, ct_h, opt_v, opt_s, ref_s, ref_n, eq_self_iff_true, true_or, or_true, zl0, zl1, zl2, zl3, zl4, zl5, zl6, zl7, zl8, zl9, zl10, zl16, zl32, zl40, zl100, zl160, zIc1, zI_lt, zI_le, nI_eq, nI_add, z_sub, nI_clamp, zI_of, uu_eq, uu_ne, Nat.reduceLT, Nat.reduceLeDiff, Nat.reduceEqDiff, Nat.reduceAdd, Nat.reduceSub, Nat.reduceMul, Nat.not_lt_zero, Nat.lt_irrefl, Nat.le_refl, Bool.false_eq_true, false_and, and_false, true_and, and_true, if_pos, if_neg, if_true, if_false, not_true_eq_false, not_false_eq_true, c1, k99n (show 1 ≤ d by omega) (dec_none hx)]
    exact H
  | some j =>
    obtain ⟨rfl, hj⟩ := dec_some (by decide) hx
    have hS := cPr hK hj
    have s4 := hS.1
    obtain ⟨p1, p2, p3⟩ := h9 j hj
    obtain ⟨q1, q2, q3⟩ := o7 j hj
    cases hw : dec w 2 with
    | none =>
      simp only [hx, hw] at H
      rcases z_lt2 hw with hv | hv
      · simp (disch := first | assumption | exact ct_i | exact ct_r | exact ct_n | exact ct_h | omega | exact z_in (by omega) (by omega) | exact b01 | exact Or.inl rfl | exact Or.inr rfl) only [b101, e101_0, e101_1, e101_2, e101_5, e101_5n, e101_6, e101_6n, e101_7n, e101_7, e101_10, e101_11, e101_14, e101_15, e101_16, e101_19, e101_21, e101_22, e101_22n, e101_23, e101_26, e101_29, e101_31, e101_32, e101_33, e101_36, e101_37, e101_37n, e101_38, e101_41, e101_44, e101_45, e101_45n, e101_46, e101_49, ct_i, ct_r, ct_n, ct_h, opt_v, opt_s, ref_s, ref_n, eq_self_iff_true, true_or, or_true, zl0, zl1, zl2, zl3, zl4, zl5, zl6, zl7, zl8, zl9, zl10, zl16, zl32, zl40, zl100, zl160, zIc1, zI_lt, zI_le, nI_eq, nI_add, z_sub, nI_clamp, zI_of, uu_eq, uu_ne, Nat.reduceLT, Nat.reduceLeDiff, Nat.reduceEqDiff, Nat.reduceAdd, Nat.reduceSub, Nat.reduceMul, Nat.not_lt_zero, Nat.lt_irrefl, Nat.le_refl, Bool.false_eq_true, false_and, and_false, true_and, and_true, if_pos, if_neg, if_true, if_false, not_true_eq_false, not_false_eq_true, c1, k99 (show 1 ≤ d by omega) hK hj, hv]
        exact H
      · simp (disch := first | assumption | exact ct_i | exact ct_r | exact ct_n | exact ct_h | omega | exact z_in (by omega) (by omega) | exact b01 | exact Or.inl rfl | exact Or.inr rfl) only [b101, e101_0, e101_1, e101_2, e101_5, e101_5n, e101_6, e101_6n, e101_7n, e101_7, e101_10, e101_11, e101_14, e101_15, e101_16, e101_19, e101_21, e101_22, e101_22n, e101_23, e101_26, e101_29, e101_31, e101_32, e101_33, e101_36, e101_37, e101_37n, e101_38, e101_41, e101_44, e101_45, e101_45n, e101_46, e101_49, ct_i, ct_r, ct_n, ct_h, opt_v, opt_s, ref_s, ref_n, eq_self_iff_true, true_or, or_true, zl0, zl1, zl2, zl3, zl4, zl5, zl6, zl7, zl8, zl9, zl10, zl16, zl32, zl40, zl100, zl160, zIc1, zI_lt, zI_le, nI_eq, nI_add, z_sub, nI_clamp, zI_of, uu_eq, uu_ne, Nat.reduceLT, Nat.reduceLeDiff, Nat.reduceEqDiff, Nat.reduceAdd, Nat.reduceSub, Nat.reduceMul, Nat.not_lt_zero, Nat.lt_irrefl, Nat.le_refl, Bool.false_eq_true, false_and, and_false, true_and, and_true, if_true, if_false, not_true_eq_false, not_false_eq_true, c1, k99 (show 1 ≤ d by omega) hK hj, hv, ite_self]
        exact H
    | some k =>
      obtain ⟨rfl, hk2⟩ := dec_some (by decide) hw
      by_cases hs : so j = 0
      · simp only [hx, hw, if_pos hs] at H
        simp (disch := first | assumption | exact ct_i | exact ct_r | exact ct_n | exact ct_h | omega | exact z_in (by omega) (by omega) | exact b01 | exact Or.inl rfl | exact Or.inr rfl) only [b101, e101_0, e101_1, e101_2, e101_5, e101_5n, e101_6, e101_6n, e101_7n, e101_7, e101_10, e101_11, e101_14, e101_15, e101_16, e101_19, e101_21, e101_22, e101_22n, e101_23, e101_26, e101_29, e101_31, e101_32, e101_33, e101_36, e101_37, e101_37n, e101_38, e101_41, e101_44, e101_45, e101_45n, e101_46, e101_49, ct_i, ct_r, ct_n, ct_h, opt_v, opt_s, ref_s, ref_n, eq_self_iff_true, true_or, or_true, zl0, zl1, zl2, zl3, zl4, zl5, zl6, zl7, zl8, zl9, zl10, zl16, zl32, zl40, zl100, zl160, zIc1, zI_lt, zI_le, nI_eq, nI_add, z_sub, nI_clamp, zI_of, uu_eq, uu_ne, Nat.reduceLT, Nat.reduceLeDiff, Nat.reduceEqDiff, Nat.reduceAdd, Nat.reduceSub, Nat.reduceMul, Nat.not_lt_zero, Nat.lt_irrefl, Nat.le_refl, Bool.false_eq_true, false_and, and_false, true_and, and_true, if_pos, if_neg, if_true, if_false, not_true_eq_false, not_false_eq_true, c1, s4, k99 (show 1 ≤ d by omega) hK hj, k62 (show 1 ≤ d by omega) hS p1 q1, hs]
        exact H
      · simp only [hx, hw, if_neg hs] at H
        rcases (show k = 0 ∨ k = 1 by omega) with rfl | rfl
        · simp (disch := first | assumption | exact ct_i | exact ct_r | exact ct_n | exact ct_h | omega | exact z_in (by omega) (by omega) | exact b01 | exact Or.inl rfl | exact Or.inr rfl) only [b101, e101_0, e101_1, e101_2, e101_5, e101_5n, e101_6, e101_6n, e101_7n, e101_7, e101_10, e101_11, e101_14, e101_15, e101_16, e101_19, e101_21, e101_22, e101_22n, e101_23, e101_26, e101_29, e101_31, e101_32, e101_33, e101_36, e101_37, e101_37n, e101_38, e101_41, e101_44, e101_45, e101_45n, e101_46, e101_49, ct_i, ct_r, ct_n, ct_h, opt_v, opt_s, ref_s, ref_n, eq_self_iff_true, true_or, or_true, zl0, zl1, zl2, zl3, zl4, zl5, zl6, zl7, zl8, zl9, zl10, zl16, zl32, zl40, zl100, zl160, zIc1, zI_lt, zI_le, nI_eq, nI_add, z_sub, nI_clamp, zI_of, uu_eq, uu_ne, Nat.reduceLT, Nat.reduceLeDiff, Nat.reduceEqDiff, Nat.reduceAdd, Nat.reduceSub, Nat.reduceMul, Nat.not_lt_zero, Nat.lt_irrefl, Nat.le_refl, Bool.false_eq_true, false_and, and_false, true_and, and_true, if_pos, if_neg, if_true, if_false, not_true_eq_false, not_false_eq_true, c1, s4, k99 (show 1 ≤ d by omega) hK hj, k62 (show 1 ≤ d by omega) hS p1 q1, hs, k102 (show 6 ≤ d by omega) hk hj]
          exact H
        · simp (disch := first | assumption | exact ct_i | exact ct_r | exact ct_n | exact ct_h | omega | exact z_in (by omega) (by omega) | exact b01 | exact Or.inl rfl | exact Or.inr rfl) only [b101, e101_0, e101_1, e101_2, e101_5, e101_5n, e101_6, e101_6n, e101_7n, e101_7, e101_10, e101_11, e101_14, e101_15, e101_16, e101_19, e101_21, e101_22, e101_22n, e101_23, e101_26, e101_29, e101_31, e101_32, e101_33, e101_36, e101_37, e101_37n, e101_38, e101_41, e101_44, e101_45, e101_45n, e101_46, e101_49, ct_i, ct_r, ct_n, ct_h, opt_v, opt_s, ref_s, ref_n, eq_self_iff_true, true_or, or_true, zl0, zl1, zl2, zl3, zl4, zl5, zl6, zl7, zl8, zl9, zl10, zl16, zl32, zl40, zl100, zl160, zIc1, zI_lt, zI_le, nI_eq, nI_add, z_sub, nI_clamp, zI_of, uu_eq, uu_ne, Nat.reduceLT, Nat.reduceLeDiff, Nat.reduceEqDiff, Nat.reduceAdd, Nat.reduceSub, Nat.reduceMul, Nat.not_lt_zero, Nat.lt_irrefl, Nat.le_refl, Bool.false_eq_true, false_and, and_false, true_and, and_true, if_pos, if_neg, if_true, if_false, not_true_eq_false, not_false_eq_true, c1, s4, k99 (show 1 ≤ d by omega) hK hj, k62 (show 1 ≤ d by omega) hS p1 q1, hs]
          refine k104 (by omega) hk hj ?_
          simp (disch := first | assumption | exact ct_i | exact ct_r | exact ct_n | exact ct_h | omega | exact z_in (by omega) (by omega) | exact b01 | exact Or.inl rfl | exact Or.inr rfl) only [e101_0, e101_1, e101_2, e101_5, e101_5n, e101_6, e101_6n, e101_7n, e101_7, e101_10, e101_11, e101_14, e101_15, e101_16, e101_19, e101_21, e101_22, e101_22n, e101_23, e101_26, e101_29, e101_31, e101_32, e101_33, e101_36, e101_37, e101_37n, e101_38, e101_41, e101_44, e101_45, e101_45n, e101_46, e101_49, ct_i, ct_r, ct_n, ct_h, opt_v, opt_s, ref_s, ref_n, eq_self_iff_true, true_or, or_true]
          exact H
end
