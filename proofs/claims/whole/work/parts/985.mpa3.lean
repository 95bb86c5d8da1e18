section
variable {tp : Nat → Nat} {s i : Nat} {n t : Nat} {sh : Nat → Nat × Nat} {I0 : Nat → Nat → Int32} {L : Nat → Nat → Int64} {R : Nat → Nat → Option Nat}

theorem u6 (hM : mK sh R) (hs160 : s ≤ 160) (hi : i < 6) {o p : Nat} {c : List Nat} (ht : tk tp s p = 311) (h5 : 5 ≤ o) : CM tp s i n t sh I0 L R 8 o p c false p c := by
  rw [CM_c (by decide)]
  have m0 := mm_0 hM
  have e45 : (45 : Int32) = nI 45 := rfl
  have e60 : (60 : Int32) = nI 60 := rfl
  have e61 : (61 : Int32) = nI 61 := rfl
  have e41 : (41 : Int32) = nI 41 := rfl
  intro ho d I Q hd hc hP H
  simp only [kD, Nat.reduceEqDiff, if_true, if_false] at hd
  show aC d 148 _ _ _
  obtain ⟨d, rfl⟩ : ∃ e, d = e + 1 := ⟨d - 1, by omega⟩
  have hT := tk_lt (tp := tp) (s := s) (p := p)
  have hps := hP.1.1
  have h27 := hP.2.2.1
  have h24 := hP.1.2.2.2.1
  obtain rfl : o = 5 := by omega
  simp (disch := first | assumption | exact ct_i | exact ct_r | exact ct_n | exact ct_h | omega | exact z_in (by omega) (by omega) | exact b01 | exact Or.inl rfl | exact Or.inr rfl) only [b148, e148_0, e148_1, e148_2, e148_5, e148_8, e148_9, e148_12, e148_15, e148_16, e148_19, e148_20, e148_22, e148_25, e148_26, e148_27, e148_30, e148_31, e148_32, e148_35, e148_36, e148_37, e148_40, e148_41, e148_43, e148_46, e148_49, e148_50, e148_52, e148_55, e148_58, e148_59, e148_62, e148_63, e148_64, e148_67, e148_68, e148_71, e148_72, e148_74, e148_75, e148_76, e148_79, ct_i, ct_r, ct_n, ct_h, opt_v, opt_s, ref_s, ref_n, eq_self_iff_true, true_or, or_true, zl0, zl1, zl2, zl3, zl4, zl5, zl6, zl7, zl8, zl9, zl10, zl16, zl32, zl40, zl100, zl160, zIc1, zI_lt, zI_le, nI_eq, nI_add, z_sub, nI_clamp, zI_of, uu_eq, uu_ne, Nat.reduceLT, Nat.reduceLeDiff, Nat.reduceEqDiff, Nat.reduceAdd, Nat.reduceSub, Nat.reduceMul, Nat.not_lt_zero, Nat.lt_irrefl, Nat.le_refl, Bool.false_eq_true, false_and, and_false, true_and, and_true, if_pos, if_neg, if_true, if_false, not_true_eq_false, not_false_eq_true, m0, k144p (show 1 ≤ d by omega) hM hP (show 5 < 90 by decide), ht]
  refine k149w (show 2 ≤ d by omega) hM hP (fun I' hW => ?_)
  have q := H I' (pQ_f.mpr ⟨_, hW, Nat.le_refl _⟩)
  simp (disch := first | assumption | exact ct_i | exact ct_r | exact ct_n | exact ct_h | omega | exact z_in (by omega) (by omega) | exact b01 | exact Or.inl rfl | exact Or.inr rfl) only [e148_0, e148_1, e148_2, e148_5, e148_8, e148_9, e148_12, e148_15, e148_16, e148_19, e148_20, e148_22, e148_25, e148_26, e148_27, e148_30, e148_31, e148_32, e148_35, e148_36, e148_37, e148_40, e148_41, e148_43, e148_46, e148_49, e148_50, e148_52, e148_55, e148_58, e148_59, e148_62, e148_63, e148_64, e148_67, e148_68, e148_71, e148_72, e148_74, e148_75, e148_76, e148_79, ct_i, ct_r, ct_n, ct_h, opt_v, opt_s, ref_s, ref_n, eq_self_iff_true, true_or, or_true, zl0, zl1, zl2, zl3, zl4, zl5, zl6, zl7, zl8, zl9, zl10, zl16, zl32, zl40, zl100, zl160, zIc1, zI_lt, zI_le, nI_eq, nI_add, z_sub, nI_clamp, zI_of, uu_eq, uu_ne, Nat.reduceLT, Nat.reduceLeDiff, Nat.reduceEqDiff, Nat.reduceAdd, Nat.reduceSub, Nat.reduceMul, Nat.not_lt_zero, Nat.lt_irrefl, Nat.le_refl, Bool.false_eq_true, false_and, and_false, true_and, and_true, if_pos, if_neg, if_true, if_false, not_true_eq_false, not_false_eq_true]
  exact q

theorem u7 (hM : mK sh R) (hs160 : s ≤ 160) (hi : i < 6) {o p : Nat} {c : List Nat} {p1 : Nat} {c1 : List Nat} (hp : p ≤ s) (ht : tk tp s p = 311) (h5 : ¬ 5 ≤ o) (B : Bd s (nx tp s p) c p1 c1) (g1 : CM tp s i n t sh I0 L R 8 (o + 1) (nx tp s p) c true p1 c1) : CM tp s i n t sh I0 L R 8 o p c true p1 (c1 ++ [10007]) := by
  rw [CM_c (by decide)]
  rw [CM_c (by decide)] at g1
  have m0 := mm_0 hM
  have e45 : (45 : Int32) = nI 45 := rfl
  have e60 : (60 : Int32) = nI 60 := rfl
  have e61 : (61 : Int32) = nI 61 := rfl
  have e41 : (41 : Int32) = nI 41 := rfl
  intro ho d I Q hd hc hP H
  simp only [kD, Nat.reduceEqDiff, if_true, if_false] at hd
  obtain ⟨B1, B2, B3, B4⟩ := B
  show aC d 148 _ _ _
  obtain ⟨d, rfl⟩ : ∃ e, d = e + 1 := ⟨d - 1, by omega⟩
  have hT := tk_lt (tp := tp) (s := s) (p := p)
  have hps := hP.1.1
  have h27 := hP.2.2.1
  have h24 := hP.1.2.2.2.1
  have hlt := tk_ne (tp := tp) (s := s) (p := p) (by omega)
  have hnx := nx_gt (tp := tp) hlt
  simp (disch := first | assumption | exact ct_i | exact ct_r | exact ct_n | exact ct_h | omega | exact z_in (by omega) (by omega) | exact b01 | exact Or.inl rfl | exact Or.inr rfl) only [b148, e148_0, e148_1, e148_2, e148_5, e148_8, e148_9, e148_12, e148_15, e148_16, e148_19, e148_20, e148_22, e148_25, e148_26, e148_27, e148_30, e148_31, e148_32, e148_35, e148_36, e148_37, e148_40, e148_41, e148_43, e148_46, e148_49, e148_50, e148_52, e148_55, e148_58, e148_59, e148_62, e148_63, e148_64, e148_67, e148_68, e148_71, e148_72, e148_74, e148_75, e148_76, e148_79, ct_i, ct_r, ct_n, ct_h, opt_v, opt_s, ref_s, ref_n, eq_self_iff_true, true_or, or_true, zl0, zl1, zl2, zl3, zl4, zl5, zl6, zl7, zl8, zl9, zl10, zl16, zl32, zl40, zl100, zl160, zIc1, zI_lt, zI_le, nI_eq, nI_add, z_sub, nI_clamp, zI_of, uu_eq, uu_ne, Nat.reduceLT, Nat.reduceLeDiff, Nat.reduceEqDiff, Nat.reduceAdd, Nat.reduceSub, Nat.reduceMul, Nat.not_lt_zero, Nat.lt_irrefl, Nat.le_refl, Bool.false_eq_true, false_and, and_false, true_and, and_true, if_pos, if_neg, if_true, if_false, not_true_eq_false, not_false_eq_true, m0, k144p (show 1 ≤ d by omega) hM hP (show 5 < 90 by decide), ht]
  refine k149p (show 5 ≤ d by omega) hM hP (by omega) (fun I' hP' => ?_)
  simp (disch := first | assumption | exact ct_i | exact ct_r | exact ct_n | exact ct_h | omega | exact z_in (by omega) (by omega) | exact b01 | exact Or.inl rfl | exact Or.inr rfl) only [e148_0, e148_1, e148_2, e148_5, e148_8, e148_9, e148_12, e148_15, e148_16, e148_19, e148_20, e148_22, e148_25, e148_26, e148_27, e148_30, e148_31, e148_32, e148_35, e148_36, e148_37, e148_40, e148_41, e148_43, e148_46, e148_49, e148_50, e148_52, e148_55, e148_58, e148_59, e148_62, e148_63, e148_64, e148_67, e148_68, e148_71, e148_72, e148_74, e148_75, e148_76, e148_79, ct_i, ct_r, ct_n, ct_h, opt_v, opt_s, ref_s, ref_n, eq_self_iff_true, true_or, or_true, zl0, zl1, zl2, zl3, zl4, zl5, zl6, zl7, zl8, zl9, zl10, zl16, zl32, zl40, zl100, zl160, zIc1, zI_lt, zI_le, nI_eq, nI_add, z_sub, nI_clamp, zI_of, uu_eq, uu_ne, Nat.reduceLT, Nat.reduceLeDiff, Nat.reduceEqDiff, Nat.reduceAdd, Nat.reduceSub, Nat.reduceMul, Nat.not_lt_zero, Nat.lt_irrefl, Nat.le_refl, Bool.false_eq_true, false_and, and_false, true_and, and_true, if_pos, if_neg, if_true, if_false, not_true_eq_false, not_false_eq_true, m0]
  refine g1 (by omega) d I' _ (by simp only [kD, Nat.reduceSub, Nat.reduceEqDiff, if_true, if_false] at hd ⊢; omega) (by omega) hP' (fun I2 hP2 => ?_)
  rw [pQ_t] at hP2
  simp (disch := first | assumption | exact ct_i | exact ct_r | exact ct_n | exact ct_h | omega | exact z_in (by omega) (by omega) | exact b01 | exact Or.inl rfl | exact Or.inr rfl) only [e148_0, e148_1, e148_2, e148_5, e148_8, e148_9, e148_12, e148_15, e148_16, e148_19, e148_20, e148_22, e148_25, e148_26, e148_27, e148_30, e148_31, e148_32, e148_35, e148_36, e148_37, e148_40, e148_41, e148_43, e148_46, e148_49, e148_50, e148_52, e148_55, e148_58, e148_59, e148_62, e148_63, e148_64, e148_67, e148_68, e148_71, e148_72, e148_74, e148_75, e148_76, e148_79, ct_i, ct_r, ct_n, ct_h, opt_v, opt_s, ref_s, ref_n, eq_self_iff_true, true_or, or_true, zl0, zl1, zl2, zl3, zl4, zl5, zl6, zl7, zl8, zl9, zl10, zl16, zl32, zl40, zl100, zl160, zIc1, zI_lt, zI_le, nI_eq, nI_add, z_sub, nI_clamp, zI_of, uu_eq, uu_ne, Nat.reduceLT, Nat.reduceLeDiff, Nat.reduceEqDiff, Nat.reduceAdd, Nat.reduceSub, Nat.reduceMul, Nat.not_lt_zero, Nat.lt_irrefl, Nat.le_refl, Bool.false_eq_true, false_and, and_false, true_and, and_true, if_pos, if_neg, if_true, if_false, not_true_eq_false, not_false_eq_true, m0]
  refine k150p (show 1 ≤ d by omega) hM hi hP2 (show c1.length < 160 by omega) (show -101 = mCell 10007 by decide) (fun I3 hP3 => ?_)
  have h26 := hP3.2.2.2.2.1
  have eo : nI (o + 1) - nI 1 = nI o := by rw [z_sub (by omega), Nat.add_sub_cancel]
  simp (disch := first | assumption | exact ct_i | exact ct_r | exact ct_n | exact ct_h | omega | exact z_in (by omega) (by omega) | exact b01 | exact Or.inl rfl | exact Or.inr rfl) only [e148_0, e148_1, e148_2, e148_5, e148_8, e148_9, e148_12, e148_15, e148_16, e148_19, e148_20, e148_22, e148_25, e148_26, e148_27, e148_30, e148_31, e148_32, e148_35, e148_36, e148_37, e148_40, e148_41, e148_43, e148_46, e148_49, e148_50, e148_52, e148_55, e148_58, e148_59, e148_62, e148_63, e148_64, e148_67, e148_68, e148_71, e148_72, e148_74, e148_75, e148_76, e148_79, ct_i, ct_r, ct_n, ct_h, opt_v, opt_s, ref_s, ref_n, eq_self_iff_true, true_or, or_true, zl0, zl1, zl2, zl3, zl4, zl5, zl6, zl7, zl8, zl9, zl10, zl16, zl32, zl40, zl100, zl160, zIc1, zI_lt, zI_le, nI_eq, nI_add, z_sub, nI_clamp, zI_of, uu_eq, uu_ne, Nat.reduceLT, Nat.reduceLeDiff, Nat.reduceEqDiff, Nat.reduceAdd, Nat.reduceSub, Nat.reduceMul, Nat.not_lt_zero, Nat.lt_irrefl, Nat.le_refl, Bool.false_eq_true, false_and, and_false, true_and, and_true, if_pos, if_neg, if_true, if_false, not_true_eq_false, not_false_eq_true, m0, h26, eo]
  exact H _ (pQ_t.mpr (pO_op hP3))

theorem u8 (hM : mK sh R) (hs160 : s ≤ 160) (hi : i < 6) {o p : Nat} {c : List Nat} {p1 : Nat} {c1 : List Nat} (hp : p ≤ s) (ht : tk tp s p = 311) (h5 : ¬ 5 ≤ o) (B : Bd s (nx tp s p) c p1 c1) (g1 : CM tp s i n t sh I0 L R 8 (o + 1) (nx tp s p) c false p1 c1) : CM tp s i n t sh I0 L R 8 o p c false p1 c1 := by
  rw [CM_c (by decide)]
  rw [CM_c (by decide)] at g1
  have m0 := mm_0 hM
  have e45 : (45 : Int32) = nI 45 := rfl
  have e60 : (60 : Int32) = nI 60 := rfl
  have e61 : (61 : Int32) = nI 61 := rfl
  have e41 : (41 : Int32) = nI 41 := rfl
  intro ho d I Q hd hc hP H
  simp only [kD, Nat.reduceEqDiff, if_true, if_false] at hd
  obtain ⟨B1, B2, B3, B4⟩ := B
  show aC d 148 _ _ _
  obtain ⟨d, rfl⟩ : ∃ e, d = e + 1 := ⟨d - 1, by omega⟩
  have hT := tk_lt (tp := tp) (s := s) (p := p)
  have hps := hP.1.1
  have h27 := hP.2.2.1
  have h24 := hP.1.2.2.2.1
  have hlt := tk_ne (tp := tp) (s := s) (p := p) (by omega)
  have hnx := nx_gt (tp := tp) hlt
  simp (disch := first | assumption | exact ct_i | exact ct_r | exact ct_n | exact ct_h | omega | exact z_in (by omega) (by omega) | exact b01 | exact Or.inl rfl | exact Or.inr rfl) only [b148, e148_0, e148_1, e148_2, e148_5, e148_8, e148_9, e148_12, e148_15, e148_16, e148_19, e148_20, e148_22, e148_25, e148_26, e148_27, e148_30, e148_31, e148_32, e148_35, e148_36, e148_37, e148_40, e148_41, e148_43, e148_46, e148_49, e148_50, e148_52, e148_55, e148_58, e148_59, e148_62, e148_63, e148_64, e148_67, e148_68, e148_71, e148_72, e148_74, e148_75, e148_76, e148_79, ct_i, ct_r, ct_n, ct_h, opt_v, opt_s, ref_s, ref_n, eq_self_iff_true, true_or, or_true, zl0, zl1, zl2, zl3, zl4, zl5, zl6, zl7, zl8, zl9, zl10, zl16, zl32, zl40, zl100, zl160, zIc1, zI_lt, zI_le, nI_eq, nI_add, z_sub, nI_clamp, zI_of, uu_eq, uu_ne, Nat.reduceLT, Nat.reduceLeDiff, Nat.reduceEqDiff, Nat.reduceAdd, Nat.reduceSub, Nat.reduceMul, Nat.not_lt_zero, Nat.lt_irrefl, Nat.le_refl, Bool.false_eq_true, false_and, and_false, true_and, and_true, if_pos, if_neg, if_true, if_false, not_true_eq_false, not_false_eq_true, m0, k144p (show 1 ≤ d by omega) hM hP (show 5 < 90 by decide), ht]
  refine k149p (show 5 ≤ d by omega) hM hP (by omega) (fun I' hP' => ?_)
  simp (disch := first | assumption | exact ct_i | exact ct_r | exact ct_n | exact ct_h | omega | exact z_in (by omega) (by omega) | exact b01 | exact Or.inl rfl | exact Or.inr rfl) only [e148_0, e148_1, e148_2, e148_5, e148_8, e148_9, e148_12, e148_15, e148_16, e148_19, e148_20, e148_22, e148_25, e148_26, e148_27, e148_30, e148_31, e148_32, e148_35, e148_36, e148_37, e148_40, e148_41, e148_43, e148_46, e148_49, e148_50, e148_52, e148_55, e148_58, e148_59, e148_62, e148_63, e148_64, e148_67, e148_68, e148_71, e148_72, e148_74, e148_75, e148_76, e148_79, ct_i, ct_r, ct_n, ct_h, opt_v, opt_s, ref_s, ref_n, eq_self_iff_true, true_or, or_true, zl0, zl1, zl2, zl3, zl4, zl5, zl6, zl7, zl8, zl9, zl10, zl16, zl32, zl40, zl100, zl160, zIc1, zI_lt, zI_le, nI_eq, nI_add, z_sub, nI_clamp, zI_of, uu_eq, uu_ne, Nat.reduceLT, Nat.reduceLeDiff, Nat.reduceEqDiff, Nat.reduceAdd, Nat.reduceSub, Nat.reduceMul, Nat.not_lt_zero, Nat.lt_irrefl, Nat.le_refl, Bool.false_eq_true, false_and, and_false, true_and, and_true, if_pos, if_neg, if_true, if_false, not_true_eq_false, not_false_eq_true, m0]
  refine g1 (by omega) d I' _ (by simp only [kD, Nat.reduceSub, Nat.reduceEqDiff, if_true, if_false] at hd ⊢; omega) (by omega) hP' (fun I2 hP2 => ?_)
  rw [pQ_f] at hP2
  obtain ⟨e, hW, he⟩ := hP2
  simp (disch := first | assumption | exact ct_i | exact ct_r | exact ct_n | exact ct_h | omega | exact z_in (by omega) (by omega) | exact b01 | exact Or.inl rfl | exact Or.inr rfl) only [e148_0, e148_1, e148_2, e148_5, e148_8, e148_9, e148_12, e148_15, e148_16, e148_19, e148_20, e148_22, e148_25, e148_26, e148_27, e148_30, e148_31, e148_32, e148_35, e148_36, e148_37, e148_40, e148_41, e148_43, e148_46, e148_49, e148_50, e148_52, e148_55, e148_58, e148_59, e148_62, e148_63, e148_64, e148_67, e148_68, e148_71, e148_72, e148_74, e148_75, e148_76, e148_79, ct_i, ct_r, ct_n, ct_h, opt_v, opt_s, ref_s, ref_n, eq_self_iff_true, true_or, or_true, zl0, zl1, zl2, zl3, zl4, zl5, zl6, zl7, zl8, zl9, zl10, zl16, zl32, zl40, zl100, zl160, zIc1, zI_lt, zI_le, nI_eq, nI_add, z_sub, nI_clamp, zI_of, uu_eq, uu_ne, Nat.reduceLT, Nat.reduceLeDiff, Nat.reduceEqDiff, Nat.reduceAdd, Nat.reduceSub, Nat.reduceMul, Nat.not_lt_zero, Nat.lt_irrefl, Nat.le_refl, Bool.false_eq_true, false_and, and_false, true_and, and_true, if_pos, if_neg, if_true, if_false, not_true_eq_false, not_false_eq_true, m0]
  refine k150w (show 1 ≤ d by omega) hM hi hW (show e < 170 by omega) (fun I3 hW3 => ?_)
  simp (disch := first | assumption | exact ct_i | exact ct_r | exact ct_n | exact ct_h | omega | exact z_in (by omega) (by omega) | exact b01 | exact Or.inl rfl | exact Or.inr rfl) only [e148_0, e148_1, e148_2, e148_5, e148_8, e148_9, e148_12, e148_15, e148_16, e148_19, e148_20, e148_22, e148_25, e148_26, e148_27, e148_30, e148_31, e148_32, e148_35, e148_36, e148_37, e148_40, e148_41, e148_43, e148_46, e148_49, e148_50, e148_52, e148_55, e148_58, e148_59, e148_62, e148_63, e148_64, e148_67, e148_68, e148_71, e148_72, e148_74, e148_75, e148_76, e148_79, ct_i, ct_r, ct_n, ct_h, opt_v, opt_s, ref_s, ref_n, eq_self_iff_true, true_or, or_true, zl0, zl1, zl2, zl3, zl4, zl5, zl6, zl7, zl8, zl9, zl10, zl16, zl32, zl40, zl100, zl160, zIc1, zI_lt, zI_le, nI_eq, nI_add, z_sub, nI_clamp, zI_of, uu_eq, uu_ne, Nat.reduceLT, Nat.reduceLeDiff, Nat.reduceEqDiff, Nat.reduceAdd, Nat.reduceSub, Nat.reduceMul, Nat.not_lt_zero, Nat.lt_irrefl, Nat.le_refl, Bool.false_eq_true, false_and, and_false, true_and, and_true, if_pos, if_neg, if_true, if_false, not_true_eq_false, not_false_eq_true, m0]
  exact H _ (pQ_f.mpr ⟨e + 1, pW_op hW3, by omega⟩)

theorem u9 (hM : mK sh R) (hs160 : s ≤ 160) (hi : i < 6) {o p : Nat} {c : List Nat} {p1 : Nat} {c1 : List Nat} {b : Bool} (ht : ¬ tk tp s p = 311) (g1 : CM tp s i n t sh I0 L R 9 o p c b p1 c1) : CM tp s i n t sh I0 L R 8 o p c b p1 c1 := by
  rw [CM_c (by decide)]
  rw [CM_9] at g1
  have m0 := mm_0 hM
  have e45 : (45 : Int32) = nI 45 := rfl
  have e60 : (60 : Int32) = nI 60 := rfl
  have e61 : (61 : Int32) = nI 61 := rfl
  have e41 : (41 : Int32) = nI 41 := rfl
  intro ho d I Q hd hc hP H
  simp only [kD, Nat.reduceEqDiff, if_true, if_false] at hd
  show aC d 148 _ _ _
  obtain ⟨d, rfl⟩ : ∃ e, d = e + 1 := ⟨d - 1, by omega⟩
  have hT := tk_lt (tp := tp) (s := s) (p := p)
  have hps := hP.1.1
  have h27 := hP.2.2.1
  have h24 := hP.1.2.2.2.1
  have ht' : ¬ tk tp s p = 306 + 5 := ht
  simp (disch := first | assumption | exact ct_i | exact ct_r | exact ct_n | exact ct_h | omega | exact z_in (by omega) (by omega) | exact b01 | exact Or.inl rfl | exact Or.inr rfl) only [b148, e148_0, e148_1, e148_2, e148_5, e148_8, e148_9, e148_12, e148_15, e148_16, e148_19, e148_20, e148_22, e148_25, e148_26, e148_27, e148_30, e148_31, e148_32, e148_35, e148_37, e148_40, e148_41, e148_43, e148_46, e148_49, e148_50, e148_52, e148_55, e148_58, e148_59, e148_62, e148_63, e148_64, e148_67, e148_68, e148_71, e148_72, e148_74, e148_75, e148_76, e148_79, ct_i, ct_r, ct_n, ct_h, opt_v, opt_s, ref_s, ref_n, eq_self_iff_true, true_or, or_true, zl0, zl1, zl2, zl3, zl4, zl5, zl6, zl7, zl8, zl9, zl10, zl16, zl32, zl40, zl100, zl160, zIc1, zI_lt, zI_le, nI_eq, nI_add, z_sub, nI_clamp, zI_of, uu_eq, uu_ne, Nat.reduceLT, Nat.reduceLeDiff, Nat.reduceEqDiff, Nat.reduceAdd, Nat.reduceSub, Nat.reduceMul, Nat.not_lt_zero, Nat.lt_irrefl, Nat.le_refl, Bool.false_eq_true, false_and, and_false, true_and, and_true, if_pos, if_neg, if_true, if_false, not_true_eq_false, not_false_eq_true, m0, k144p (show 1 ≤ d by omega) hM hP (show 5 < 90 by decide), ht']
  exact g1 ho d I Q _ (by omega) hc hP H

theorem u10 (hM : mK sh R) (hs160 : s ≤ 160) (hi : i < 6) {o p : Nat} {c : List Nat} {p1 : Nat} {c1 : List Nat} (g1 : CM tp s i n t sh I0 L R 4 o p c false p1 c1) : CM tp s i n t sh I0 L R 9 o p c false p1 c1 := by
  rw [CM_9]
  rw [CM_c (by decide)] at g1
  have m0 := mm_0 hM
  have e45 : (45 : Int32) = nI 45 := rfl
  have e60 : (60 : Int32) = nI 60 := rfl
  have e61 : (61 : Int32) = nI 61 := rfl
  have e41 : (41 : Int32) = nI 41 := rfl
  intro ho d I Q l1 hd hc hP H
  rw [e148_36]
  simp (disch := first | assumption | exact ct_i | exact ct_r | exact ct_n | exact ct_h | omega | exact z_in (by omega) (by omega) | exact b01 | exact Or.inl rfl | exact Or.inr rfl) only [e148_0, e148_1, e148_2, e148_5, e148_8, e148_9, e148_12, e148_15, e148_16, e148_19, e148_20, e148_22, e148_25, e148_26, e148_27, e148_30, e148_31, e148_32, e148_35, e148_37, e148_40, e148_41, e148_43, e148_46, e148_49, e148_50, e148_52, e148_55, e148_58, e148_59, e148_62, e148_63, e148_64, e148_67, e148_68, e148_71, e148_72, e148_74, e148_75, e148_76, e148_79, ct_i, ct_r, ct_n, ct_h, opt_v, opt_s, ref_s, ref_n, eq_self_iff_true, true_or, or_true, m0]
  refine g1 ho d I _ (by simp only [kD, Nat.reduceSub, Nat.reduceEqDiff, if_true, if_false] at hd ⊢; omega) hc hP (fun I' hP' => ?_)
  have q := H I' hP'
  rw [pQ_f] at hP'
  obtain ⟨e, hW, he⟩ := hP'
  simp (disch := first | assumption | exact ct_i | exact ct_r | exact ct_n | exact ct_h | omega | exact z_in (by omega) (by omega) | exact b01 | exact Or.inl rfl | exact Or.inr rfl) only [e148_0, e148_1, e148_2, e148_5, e148_8, e148_9, e148_12, e148_15, e148_16, e148_19, e148_20, e148_22, e148_25, e148_26, e148_27, e148_30, e148_31, e148_32, e148_35, e148_36, e148_37, e148_40, e148_41, e148_43, e148_46, e148_49, e148_50, e148_52, e148_55, e148_58, e148_59, e148_62, e148_63, e148_64, e148_67, e148_68, e148_71, e148_72, e148_74, e148_75, e148_76, e148_79, ct_i, ct_r, ct_n, ct_h, opt_v, opt_s, ref_s, ref_n, eq_self_iff_true, true_or, or_true, zl0, zl1, zl2, zl3, zl4, zl5, zl6, zl7, zl8, zl9, zl10, zl16, zl32, zl40, zl100, zl160, zIc1, zI_lt, zI_le, nI_eq, nI_add, z_sub, nI_clamp, zI_of, uu_eq, uu_ne, Nat.reduceLT, Nat.reduceLeDiff, Nat.reduceEqDiff, Nat.reduceAdd, Nat.reduceSub, Nat.reduceMul, Nat.not_lt_zero, Nat.lt_irrefl, Nat.le_refl, Bool.false_eq_true, false_and, and_false, true_and, and_true, if_pos, if_neg, if_true, if_false, not_true_eq_false, not_false_eq_true, m0, e60, e61, k154w (show 1 ≤ d by omega) hM hW]
  exact q

theorem u11 (hM : mK sh R) (hs160 : s ≤ 160) (hi : i < 6) {o p : Nat} {c : List Nat} {p1 : Nat} {c1 : List Nat} (g1 : CM tp s i n t sh I0 L R 4 o p c true p1 c1) (ht : ¬ (tk tp s p1 = 60 ∨ tk tp s p1 = 61)) : CM tp s i n t sh I0 L R 9 o p c true p1 c1 := by
  rw [CM_9]
  rw [CM_c (by decide)] at g1
  have m0 := mm_0 hM
  have e45 : (45 : Int32) = nI 45 := rfl
  have e60 : (60 : Int32) = nI 60 := rfl
  have e61 : (61 : Int32) = nI 61 := rfl
  have e41 : (41 : Int32) = nI 41 := rfl
  intro ho d I Q l1 hd hc hP H
  rw [e148_36]
  simp (disch := first | assumption | exact ct_i | exact ct_r | exact ct_n | exact ct_h | omega | exact z_in (by omega) (by omega) | exact b01 | exact Or.inl rfl | exact Or.inr rfl) only [e148_0, e148_1, e148_2, e148_5, e148_8, e148_9, e148_12, e148_15, e148_16, e148_19, e148_20, e148_22, e148_25, e148_26, e148_27, e148_30, e148_31, e148_32, e148_35, e148_37, e148_40, e148_41, e148_43, e148_46, e148_49, e148_50, e148_52, e148_55, e148_58, e148_59, e148_62, e148_63, e148_64, e148_67, e148_68, e148_71, e148_72, e148_74, e148_75, e148_76, e148_79, ct_i, ct_r, ct_n, ct_h, opt_v, opt_s, ref_s, ref_n, eq_self_iff_true, true_or, or_true, m0]
  refine g1 ho d I _ (by simp only [kD, Nat.reduceSub, Nat.reduceEqDiff, if_true, if_false] at hd ⊢; omega) hc hP (fun I' hP' => ?_)
  rw [pQ_t] at hP'
  have hT1 := tk_lt (tp := tp) (s := s) (p := p1)
  have ht1 : ¬ tk tp s p1 = 60 := fun h => ht (Or.inl h)
  have ht2 : ¬ tk tp s p1 = 61 := fun h => ht (Or.inr h)
  simp (disch := first | assumption | exact ct_i | exact ct_r | exact ct_n | exact ct_h | omega | exact z_in (by omega) (by omega) | exact b01 | exact Or.inl rfl | exact Or.inr rfl) only [e148_0, e148_1, e148_2, e148_5, e148_8, e148_9, e148_12, e148_15, e148_16, e148_19, e148_20, e148_22, e148_25, e148_26, e148_27, e148_30, e148_31, e148_32, e148_35, e148_36, e148_37, e148_40, e148_41, e148_43, e148_46, e148_49, e148_50, e148_52, e148_55, e148_58, e148_59, e148_62, e148_63, e148_64, e148_67, e148_68, e148_71, e148_72, e148_74, e148_75, e148_76, e148_79, ct_i, ct_r, ct_n, ct_h, opt_v, opt_s, ref_s, ref_n, eq_self_iff_true, true_or, or_true, zl0, zl1, zl2, zl3, zl4, zl5, zl6, zl7, zl8, zl9, zl10, zl16, zl32, zl40, zl100, zl160, zIc1, zI_lt, zI_le, nI_eq, nI_add, z_sub, nI_clamp, zI_of, uu_eq, uu_ne, Nat.reduceLT, Nat.reduceLeDiff, Nat.reduceEqDiff, Nat.reduceAdd, Nat.reduceSub, Nat.reduceMul, Nat.not_lt_zero, Nat.lt_irrefl, Nat.le_refl, Bool.false_eq_true, false_and, and_false, true_and, and_true, if_pos, if_neg, if_true, if_false, not_true_eq_false, not_false_eq_true, m0, e60, e61, k154p (show 1 ≤ d by omega) hM hP' (show 60 < 128 by decide), k154p (show 1 ≤ d by omega) hM hP' (show 61 < 128 by decide), ht1, ht2]
  exact H I' (pQ_t.mpr hP')

theorem u12 (hM : mK sh R) (hs160 : s ≤ 160) (hi : i < 6) {o p : Nat} {c : List Nat} {p1 : Nat} {c1 : List Nat} {p2 : Nat} {c2 : List Nat} (B : Bd s p c p1 c1) (g1 : CM tp s i n t sh I0 L R 4 o p c true p1 c1) (ht : tk tp s p1 = 60 ∨ tk tp s p1 = 61) (C : Bd s (nx tp s p1) c1 p2 c2) (g2 : CM tp s i n t sh I0 L R 4 o (nx tp s p1) c1 true p2 c2) : CM tp s i n t sh I0 L R 9 o p c true p2 (c2 ++ [if tk tp s p1 = 60 then 10010 else 10011]) := by
  rw [CM_9]
  rw [CM_c (by decide)] at g1
  rw [CM_c (by decide)] at g2
  have m0 := mm_0 hM
  have e45 : (45 : Int32) = nI 45 := rfl
  have e60 : (60 : Int32) = nI 60 := rfl
  have e61 : (61 : Int32) = nI 61 := rfl
  have e41 : (41 : Int32) = nI 41 := rfl
  intro ho d I Q l1 hd hc hP H
  obtain ⟨B1, B2, B3, B4⟩ := B
  obtain ⟨C1, C2, C3, C4⟩ := C
  rw [e148_36]
  simp (disch := first | assumption | exact ct_i | exact ct_r | exact ct_n | exact ct_h | omega | exact z_in (by omega) (by omega) | exact b01 | exact Or.inl rfl | exact Or.inr rfl) only [e148_0, e148_1, e148_2, e148_5, e148_8, e148_9, e148_12, e148_15, e148_16, e148_19, e148_20, e148_22, e148_25, e148_26, e148_27, e148_30, e148_31, e148_32, e148_35, e148_37, e148_40, e148_41, e148_43, e148_46, e148_49, e148_50, e148_52, e148_55, e148_58, e148_59, e148_62, e148_63, e148_64, e148_67, e148_68, e148_71, e148_72, e148_74, e148_75, e148_76, e148_79, ct_i, ct_r, ct_n, ct_h, opt_v, opt_s, ref_s, ref_n, eq_self_iff_true, true_or, or_true, m0]
  refine g1 ho d I _ (by simp only [kD, Nat.reduceSub, Nat.reduceEqDiff, if_true, if_false] at hd ⊢; omega) hc hP (fun I' hP' => ?_)
  rw [pQ_t] at hP'
  have hT1 := tk_lt (tp := tp) (s := s) (p := p1)
  have hlt := tk_ne (tp := tp) (s := s) (p := p1) (by omega)
  have hnx := nx_gt (tp := tp) hlt
  have ne : ¬ (61 : Nat) = 60 := by decide
  rcases ht with ht | ht
  · have h25 : I' 0 25 = nI 60 := by
      have := hP'.1.2.2.2.2 (by omega) (by omega)
      rw [ht] at this; exact this
    simp (disch := first | assumption | exact ct_i | exact ct_r | exact ct_n | exact ct_h | omega | exact z_in (by omega) (by omega) | exact b01 | exact Or.inl rfl | exact Or.inr rfl) only [e148_0, e148_1, e148_2, e148_5, e148_8, e148_9, e148_12, e148_15, e148_16, e148_19, e148_20, e148_22, e148_25, e148_26, e148_27, e148_30, e148_31, e148_32, e148_35, e148_36, e148_37, e148_40, e148_41, e148_43, e148_46, e148_49, e148_50, e148_52, e148_55, e148_58, e148_59, e148_62, e148_63, e148_64, e148_67, e148_68, e148_71, e148_72, e148_74, e148_75, e148_76, e148_79, ct_i, ct_r, ct_n, ct_h, opt_v, opt_s, ref_s, ref_n, eq_self_iff_true, true_or, or_true, zl0, zl1, zl2, zl3, zl4, zl5, zl6, zl7, zl8, zl9, zl10, zl16, zl32, zl40, zl100, zl160, zIc1, zI_lt, zI_le, nI_eq, nI_add, z_sub, nI_clamp, zI_of, uu_eq, uu_ne, Nat.reduceLT, Nat.reduceLeDiff, Nat.reduceEqDiff, Nat.reduceAdd, Nat.reduceSub, Nat.reduceMul, Nat.not_lt_zero, Nat.lt_irrefl, Nat.le_refl, Bool.false_eq_true, false_and, and_false, true_and, and_true, if_pos, if_neg, if_true, if_false, not_true_eq_false, not_false_eq_true, m0, e60, e61, k154p (show 1 ≤ d by omega) hM hP' (show 60 < 128 by decide), k154p (show 1 ≤ d by omega) hM hP' (show 61 < 128 by decide), ht, h25]
    refine k138p (show 4 ≤ d by omega) hM hP' (fun I2 hP2 => ?_)
    simp (disch := first | assumption | exact ct_i | exact ct_r | exact ct_n | exact ct_h | omega | exact z_in (by omega) (by omega) | exact b01 | exact Or.inl rfl | exact Or.inr rfl) only [e148_0, e148_1, e148_2, e148_5, e148_8, e148_9, e148_12, e148_15, e148_16, e148_19, e148_20, e148_22, e148_25, e148_26, e148_27, e148_30, e148_31, e148_32, e148_35, e148_36, e148_37, e148_40, e148_41, e148_43, e148_46, e148_49, e148_50, e148_52, e148_55, e148_58, e148_59, e148_62, e148_63, e148_64, e148_67, e148_68, e148_71, e148_72, e148_74, e148_75, e148_76, e148_79, ct_i, ct_r, ct_n, ct_h, opt_v, opt_s, ref_s, ref_n, eq_self_iff_true, true_or, or_true, zl0, zl1, zl2, zl3, zl4, zl5, zl6, zl7, zl8, zl9, zl10, zl16, zl32, zl40, zl100, zl160, zIc1, zI_lt, zI_le, nI_eq, nI_add, z_sub, nI_clamp, zI_of, uu_eq, uu_ne, Nat.reduceLT, Nat.reduceLeDiff, Nat.reduceEqDiff, Nat.reduceAdd, Nat.reduceSub, Nat.reduceMul, Nat.not_lt_zero, Nat.lt_irrefl, Nat.le_refl, Bool.false_eq_true, false_and, and_false, true_and, and_true, if_pos, if_neg, if_true, if_false, not_true_eq_false, not_false_eq_true, m0]
    refine g2 ho d I2 _ (by simp only [kD, Nat.reduceSub, Nat.reduceEqDiff, if_true, if_false] at hd ⊢; omega) (by omega) hP2 (fun I3 hP3 => ?_)
    rw [pQ_t] at hP3
    simp (disch := first | assumption | exact ct_i | exact ct_r | exact ct_n | exact ct_h | omega | exact z_in (by omega) (by omega) | exact b01 | exact Or.inl rfl | exact Or.inr rfl) only [e148_0, e148_1, e148_2, e148_5, e148_8, e148_9, e148_12, e148_15, e148_16, e148_19, e148_20, e148_22, e148_25, e148_26, e148_27, e148_30, e148_31, e148_32, e148_35, e148_36, e148_37, e148_40, e148_41, e148_43, e148_46, e148_49, e148_50, e148_52, e148_55, e148_58, e148_59, e148_62, e148_63, e148_64, e148_67, e148_68, e148_71, e148_72, e148_74, e148_75, e148_76, e148_79, ct_i, ct_r, ct_n, ct_h, opt_v, opt_s, ref_s, ref_n, eq_self_iff_true, true_or, or_true, zl0, zl1, zl2, zl3, zl4, zl5, zl6, zl7, zl8, zl9, zl10, zl16, zl32, zl40, zl100, zl160, zIc1, zI_lt, zI_le, nI_eq, nI_add, z_sub, nI_clamp, zI_of, uu_eq, uu_ne, Nat.reduceLT, Nat.reduceLeDiff, Nat.reduceEqDiff, Nat.reduceAdd, Nat.reduceSub, Nat.reduceMul, Nat.not_lt_zero, Nat.lt_irrefl, Nat.le_refl, Bool.false_eq_true, false_and, and_false, true_and, and_true, if_pos, if_neg, if_true, if_false, not_true_eq_false, not_false_eq_true, m0]
    refine k150p (show 1 ≤ d by omega) hM hi hP3 (show c2.length < 160 by omega) (show -nI 100 - nI 60 = mCell 10010 by decide) (fun I4 hP4 => ?_)
    simp (disch := first | assumption | exact ct_i | exact ct_r | exact ct_n | exact ct_h | omega | exact z_in (by omega) (by omega) | exact b01 | exact Or.inl rfl | exact Or.inr rfl) only [e148_0, e148_1, e148_2, e148_5, e148_8, e148_9, e148_12, e148_15, e148_16, e148_19, e148_20, e148_22, e148_25, e148_26, e148_27, e148_30, e148_31, e148_32, e148_35, e148_36, e148_37, e148_40, e148_41, e148_43, e148_46, e148_49, e148_50, e148_52, e148_55, e148_58, e148_59, e148_62, e148_63, e148_64, e148_67, e148_68, e148_71, e148_72, e148_74, e148_75, e148_76, e148_79, ct_i, ct_r, ct_n, ct_h, opt_v, opt_s, ref_s, ref_n, eq_self_iff_true, true_or, or_true, zl0, zl1, zl2, zl3, zl4, zl5, zl6, zl7, zl8, zl9, zl10, zl16, zl32, zl40, zl100, zl160, zIc1, zI_lt, zI_le, nI_eq, nI_add, z_sub, nI_clamp, zI_of, uu_eq, uu_ne, Nat.reduceLT, Nat.reduceLeDiff, Nat.reduceEqDiff, Nat.reduceAdd, Nat.reduceSub, Nat.reduceMul, Nat.not_lt_zero, Nat.lt_irrefl, Nat.le_refl, Bool.false_eq_true, false_and, and_false, true_and, and_true, if_pos, if_neg, if_true, if_false, not_true_eq_false, not_false_eq_true, m0]
    exact H I4 (pQ_t.mpr (by rw [if_pos ht]; exact hP4))
  · have h25 : I' 0 25 = nI 61 := by
      have := hP'.1.2.2.2.2 (by omega) (by omega)
      rw [ht] at this; exact this
    simp (disch := first | assumption | exact ct_i | exact ct_r | exact ct_n | exact ct_h | omega | exact z_in (by omega) (by omega) | exact b01 | exact Or.inl rfl | exact Or.inr rfl) only [e148_0, e148_1, e148_2, e148_5, e148_8, e148_9, e148_12, e148_15, e148_16, e148_19, e148_20, e148_22, e148_25, e148_26, e148_27, e148_30, e148_31, e148_32, e148_35, e148_36, e148_37, e148_40, e148_41, e148_43, e148_46, e148_49, e148_50, e148_52, e148_55, e148_58, e148_59, e148_62, e148_63, e148_64, e148_67, e148_68, e148_71, e148_72, e148_74, e148_75, e148_76, e148_79, ct_i, ct_r, ct_n, ct_h, opt_v, opt_s, ref_s, ref_n, eq_self_iff_true, true_or, or_true, zl0, zl1, zl2, zl3, zl4, zl5, zl6, zl7, zl8, zl9, zl10, zl16, zl32, zl40, zl100, zl160, zIc1, zI_lt, zI_le, nI_eq, nI_add, z_sub, nI_clamp, zI_of, uu_eq, uu_ne, Nat.reduceLT, Nat.reduceLeDiff, Nat.reduceEqDiff, Nat.reduceAdd, Nat.reduceSub, Nat.reduceMul, Nat.not_lt_zero, Nat.lt_irrefl, Nat.le_refl, Bool.false_eq_true, false_and, and_false, true_and, and_true, if_pos, if_neg, if_true, if_false, not_true_eq_false, not_false_eq_true, m0, e60, e61, k154p (show 1 ≤ d by omega) hM hP' (show 60 < 128 by decide), k154p (show 1 ≤ d by omega) hM hP' (show 61 < 128 by decide), ht, h25]
    refine k138p (show 4 ≤ d by omega) hM hP' (fun I2 hP2 => ?_)
    simp (disch := first | assumption | exact ct_i | exact ct_r | exact ct_n | exact ct_h | omega | exact z_in (by omega) (by omega) | exact b01 | exact Or.inl rfl | exact Or.inr rfl) only [e148_0, e148_1, e148_2, e148_5, e148_8, e148_9, e148_12, e148_15, e148_16, e148_19, e148_20, e148_22, e148_25, e148_26, e148_27, e148_30, e148_31, e148_32, e148_35, e148_36, e148_37, e148_40, e148_41, e148_43, e148_46, e148_49, e148_50, e148_52, e148_55, e148_58, e148_59, e148_62, e148_63, e148_64, e148_67, e148_68, e148_71, e148_72, e148_74, e148_75, e148_76, e148_79, ct_i, ct_r, ct_n, ct_h, opt_v, opt_s, ref_s, ref_n, eq_self_iff_true, true_or, or_true, zl0, zl1, zl2, zl3, zl4, zl5, zl6, zl7, zl8, zl9, zl10, zl16, zl32, zl40, zl100, zl160, zIc1, zI_lt, zI_le, nI_eq, nI_add, z_sub, nI_clamp, zI_of, uu_eq, uu_ne, Nat.reduceLT, Nat.reduceLeDiff, Nat.reduceEqDiff, Nat.reduceAdd, Nat.reduceSub, Nat.reduceMul, Nat.not_lt_zero, Nat.lt_irrefl, Nat.le_refl, Bool.false_eq_true, false_and, and_false, true_and, and_true, if_pos, if_neg, if_true, if_false, not_true_eq_false, not_false_eq_true, m0]
    refine g2 ho d I2 _ (by simp only [kD, Nat.reduceSub, Nat.reduceEqDiff, if_true, if_false] at hd ⊢; omega) (by omega) hP2 (fun I3 hP3 => ?_)
    rw [pQ_t] at hP3
    simp (disch := first | assumption | exact ct_i | exact ct_r | exact ct_n | exact ct_h | omega | exact z_in (by omega) (by omega) | exact b01 | exact Or.inl rfl | exact Or.inr rfl) only [e148_0, e148_1, e148_2, e148_5, e148_8, e148_9, e148_12, e148_15, e148_16, e148_19, e148_20, e148_22, e148_25, e148_26, e148_27, e148_30, e148_31, e148_32, e148_35, e148_36, e148_37, e148_40, e148_41, e148_43, e148_46, e148_49, e148_50, e148_52, e148_55, e148_58, e148_59, e148_62, e148_63, e148_64, e148_67, e148_68, e148_71, e148_72, e148_74, e148_75, e148_76, e148_79, ct_i, ct_r, ct_n, ct_h, opt_v, opt_s, ref_s, ref_n, eq_self_iff_true, true_or, or_true, zl0, zl1, zl2, zl3, zl4, zl5, zl6, zl7, zl8, zl9, zl10, zl16, zl32, zl40, zl100, zl160, zIc1, zI_lt, zI_le, nI_eq, nI_add, z_sub, nI_clamp, zI_of, uu_eq, uu_ne, Nat.reduceLT, Nat.reduceLeDiff, Nat.reduceEqDiff, Nat.reduceAdd, Nat.reduceSub, Nat.reduceMul, Nat.not_lt_zero, Nat.lt_irrefl, Nat.le_refl, Bool.false_eq_true, false_and, and_false, true_and, and_true, if_pos, if_neg, if_true, if_false, not_true_eq_false, not_false_eq_true, m0]
    refine k150p (show 1 ≤ d by omega) hM hi hP3 (show c2.length < 160 by omega) (show -nI 100 - nI 61 = mCell 10011 by decide) (fun I4 hP4 => ?_)
    simp (disch := first | assumption | exact ct_i | exact ct_r | exact ct_n | exact ct_h | omega | exact z_in (by omega) (by omega) | exact b01 | exact Or.inl rfl | exact Or.inr rfl) only [e148_0, e148_1, e148_2, e148_5, e148_8, e148_9, e148_12, e148_15, e148_16, e148_19, e148_20, e148_22, e148_25, e148_26, e148_27, e148_30, e148_31, e148_32, e148_35, e148_36, e148_37, e148_40, e148_41, e148_43, e148_46, e148_49, e148_50, e148_52, e148_55, e148_58, e148_59, e148_62, e148_63, e148_64, e148_67, e148_68, e148_71, e148_72, e148_74, e148_75, e148_76, e148_79, ct_i, ct_r, ct_n, ct_h, opt_v, opt_s, ref_s, ref_n, eq_self_iff_true, true_or, or_true, zl0, zl1, zl2, zl3, zl4, zl5, zl6, zl7, zl8, zl9, zl10, zl16, zl32, zl40, zl100, zl160, zIc1, zI_lt, zI_le, nI_eq, nI_add, z_sub, nI_clamp, zI_of, uu_eq, uu_ne, Nat.reduceLT, Nat.reduceLeDiff, Nat.reduceEqDiff, Nat.reduceAdd, Nat.reduceSub, Nat.reduceMul, Nat.not_lt_zero, Nat.lt_irrefl, Nat.le_refl, Bool.false_eq_true, false_and, and_false, true_and, and_true, if_pos, if_neg, if_true, if_false, not_true_eq_false, not_false_eq_true, m0]
    exact H I4 (pQ_t.mpr (by rw [if_neg (by omega)]; exact hP4))

theorem u13 (hM : mK sh R) (hs160 : s ≤ 160) (hi : i < 6) {o p : Nat} {c : List Nat} {p1 : Nat} {c1 : List Nat} {p2 : Nat} {c2 : List Nat} (B : Bd s p c p1 c1) (g1 : CM tp s i n t sh I0 L R 4 o p c true p1 c1) (ht : tk tp s p1 = 60 ∨ tk tp s p1 = 61) (C : Bd s (nx tp s p1) c1 p2 c2) (g2 : CM tp s i n t sh I0 L R 4 o (nx tp s p1) c1 false p2 c2) : CM tp s i n t sh I0 L R 9 o p c false p2 c2 := by
  rw [CM_9]
  rw [CM_c (by decide)] at g1
  rw [CM_c (by decide)] at g2
  have m0 := mm_0 hM
  have e45 : (45 : Int32) = nI 45 := rfl
  have e60 : (60 : Int32) = nI 60 := rfl
  have e61 : (61 : Int32) = nI 61 := rfl
  have e41 : (41 : Int32) = nI 41 := rfl
  intro ho d I Q l1 hd hc hP H
  obtain ⟨B1, B2, B3, B4⟩ := B
  obtain ⟨C1, C2, C3, C4⟩ := C
  rw [e148_36]
  simp (disch := first | assumption | exact ct_i | exact ct_r | exact ct_n | exact ct_h | omega | exact z_in (by omega) (by omega) | exact b01 | exact Or.inl rfl | exact Or.inr rfl) only [e148_0, e148_1, e148_2, e148_5, e148_8, e148_9, e148_12, e148_15, e148_16, e148_19, e148_20, e148_22, e148_25, e148_26, e148_27, e148_30, e148_31, e148_32, e148_35, e148_37, e148_40, e148_41, e148_43, e148_46, e148_49, e148_50, e148_52, e148_55, e148_58, e148_59, e148_62, e148_63, e148_64, e148_67, e148_68, e148_71, e148_72, e148_74, e148_75, e148_76, e148_79, ct_i, ct_r, ct_n, ct_h, opt_v, opt_s, ref_s, ref_n, eq_self_iff_true, true_or, or_true, m0]
  refine g1 ho d I _ (by simp only [kD, Nat.reduceSub, Nat.reduceEqDiff, if_true, if_false] at hd ⊢; omega) hc hP (fun I' hP' => ?_)
  rw [pQ_t] at hP'
  have hT1 := tk_lt (tp := tp) (s := s) (p := p1)
  have hlt := tk_ne (tp := tp) (s := s) (p := p1) (by omega)
  have hnx := nx_gt (tp := tp) hlt
  have ne : ¬ (61 : Nat) = 60 := by decide
  rcases ht with ht | ht
  · have h25 : I' 0 25 = nI 60 := by
      have := hP'.1.2.2.2.2 (by omega) (by omega)
      rw [ht] at this; exact this
    simp (disch := first | assumption | exact ct_i | exact ct_r | exact ct_n | exact ct_h | omega | exact z_in (by omega) (by omega) | exact b01 | exact Or.inl rfl | exact Or.inr rfl) only [e148_0, e148_1, e148_2, e148_5, e148_8, e148_9, e148_12, e148_15, e148_16, e148_19, e148_20, e148_22, e148_25, e148_26, e148_27, e148_30, e148_31, e148_32, e148_35, e148_36, e148_37, e148_40, e148_41, e148_43, e148_46, e148_49, e148_50, e148_52, e148_55, e148_58, e148_59, e148_62, e148_63, e148_64, e148_67, e148_68, e148_71, e148_72, e148_74, e148_75, e148_76, e148_79, ct_i, ct_r, ct_n, ct_h, opt_v, opt_s, ref_s, ref_n, eq_self_iff_true, true_or, or_true, zl0, zl1, zl2, zl3, zl4, zl5, zl6, zl7, zl8, zl9, zl10, zl16, zl32, zl40, zl100, zl160, zIc1, zI_lt, zI_le, nI_eq, nI_add, z_sub, nI_clamp, zI_of, uu_eq, uu_ne, Nat.reduceLT, Nat.reduceLeDiff, Nat.reduceEqDiff, Nat.reduceAdd, Nat.reduceSub, Nat.reduceMul, Nat.not_lt_zero, Nat.lt_irrefl, Nat.le_refl, Bool.false_eq_true, false_and, and_false, true_and, and_true, if_pos, if_neg, if_true, if_false, not_true_eq_false, not_false_eq_true, m0, e60, e61, k154p (show 1 ≤ d by omega) hM hP' (show 60 < 128 by decide), k154p (show 1 ≤ d by omega) hM hP' (show 61 < 128 by decide), ht, h25]
    refine k138p (show 4 ≤ d by omega) hM hP' (fun I2 hP2 => ?_)
    simp (disch := first | assumption | exact ct_i | exact ct_r | exact ct_n | exact ct_h | omega | exact z_in (by omega) (by omega) | exact b01 | exact Or.inl rfl | exact Or.inr rfl) only [e148_0, e148_1, e148_2, e148_5, e148_8, e148_9, e148_12, e148_15, e148_16, e148_19, e148_20, e148_22, e148_25, e148_26, e148_27, e148_30, e148_31, e148_32, e148_35, e148_36, e148_37, e148_40, e148_41, e148_43, e148_46, e148_49, e148_50, e148_52, e148_55, e148_58, e148_59, e148_62, e148_63, e148_64, e148_67, e148_68, e148_71, e148_72, e148_74, e148_75, e148_76, e148_79, ct_i, ct_r, ct_n, ct_h, opt_v, opt_s, ref_s, ref_n, eq_self_iff_true, true_or, or_true, zl0, zl1, zl2, zl3, zl4, zl5, zl6, zl7, zl8, zl9, zl10, zl16, zl32, zl40, zl100, zl160, zIc1, zI_lt, zI_le, nI_eq, nI_add, z_sub, nI_clamp, zI_of, uu_eq, uu_ne, Nat.reduceLT, Nat.reduceLeDiff, Nat.reduceEqDiff, Nat.reduceAdd, Nat.reduceSub, Nat.reduceMul, Nat.not_lt_zero, Nat.lt_irrefl, Nat.le_refl, Bool.false_eq_true, false_and, and_false, true_and, and_true, if_pos, if_neg, if_true, if_false, not_true_eq_false, not_false_eq_true, m0]
    refine g2 ho d I2 _ (by simp only [kD, Nat.reduceSub, Nat.reduceEqDiff, if_true, if_false] at hd ⊢; omega) (by omega) hP2 (fun I3 hP3 => ?_)
    rw [pQ_f] at hP3
    obtain ⟨e, hW, he⟩ := hP3
    simp (disch := first | assumption | exact ct_i | exact ct_r | exact ct_n | exact ct_h | omega | exact z_in (by omega) (by omega) | exact b01 | exact Or.inl rfl | exact Or.inr rfl) only [e148_0, e148_1, e148_2, e148_5, e148_8, e148_9, e148_12, e148_15, e148_16, e148_19, e148_20, e148_22, e148_25, e148_26, e148_27, e148_30, e148_31, e148_32, e148_35, e148_36, e148_37, e148_40, e148_41, e148_43, e148_46, e148_49, e148_50, e148_52, e148_55, e148_58, e148_59, e148_62, e148_63, e148_64, e148_67, e148_68, e148_71, e148_72, e148_74, e148_75, e148_76, e148_79, ct_i, ct_r, ct_n, ct_h, opt_v, opt_s, ref_s, ref_n, eq_self_iff_true, true_or, or_true, zl0, zl1, zl2, zl3, zl4, zl5, zl6, zl7, zl8, zl9, zl10, zl16, zl32, zl40, zl100, zl160, zIc1, zI_lt, zI_le, nI_eq, nI_add, z_sub, nI_clamp, zI_of, uu_eq, uu_ne, Nat.reduceLT, Nat.reduceLeDiff, Nat.reduceEqDiff, Nat.reduceAdd, Nat.reduceSub, Nat.reduceMul, Nat.not_lt_zero, Nat.lt_irrefl, Nat.le_refl, Bool.false_eq_true, false_and, and_false, true_and, and_true, if_pos, if_neg, if_true, if_false, not_true_eq_false, not_false_eq_true, m0]
    refine k150w (show 1 ≤ d by omega) hM hi hW (show e < 170 by omega) (fun I4 hW4 => ?_)
    simp (disch := first | assumption | exact ct_i | exact ct_r | exact ct_n | exact ct_h | omega | exact z_in (by omega) (by omega) | exact b01 | exact Or.inl rfl | exact Or.inr rfl) only [e148_0, e148_1, e148_2, e148_5, e148_8, e148_9, e148_12, e148_15, e148_16, e148_19, e148_20, e148_22, e148_25, e148_26, e148_27, e148_30, e148_31, e148_32, e148_35, e148_36, e148_37, e148_40, e148_41, e148_43, e148_46, e148_49, e148_50, e148_52, e148_55, e148_58, e148_59, e148_62, e148_63, e148_64, e148_67, e148_68, e148_71, e148_72, e148_74, e148_75, e148_76, e148_79, ct_i, ct_r, ct_n, ct_h, opt_v, opt_s, ref_s, ref_n, eq_self_iff_true, true_or, or_true, zl0, zl1, zl2, zl3, zl4, zl5, zl6, zl7, zl8, zl9, zl10, zl16, zl32, zl40, zl100, zl160, zIc1, zI_lt, zI_le, nI_eq, nI_add, z_sub, nI_clamp, zI_of, uu_eq, uu_ne, Nat.reduceLT, Nat.reduceLeDiff, Nat.reduceEqDiff, Nat.reduceAdd, Nat.reduceSub, Nat.reduceMul, Nat.not_lt_zero, Nat.lt_irrefl, Nat.le_refl, Bool.false_eq_true, false_and, and_false, true_and, and_true, if_pos, if_neg, if_true, if_false, not_true_eq_false, not_false_eq_true, m0]
    exact H I4 (pQ_f.mpr ⟨e + 1, hW4, by omega⟩)
  · have h25 : I' 0 25 = nI 61 := by
      have := hP'.1.2.2.2.2 (by omega) (by omega)
      rw [ht] at this; exact this
    simp (disch := first | assumption | exact ct_i | exact ct_r | exact ct_n | exact ct_h | omega | exact z_in (by omega) (by omega) | exact b01 | exact Or.inl rfl | exact Or.inr rfl) only [e148_0, e148_1, e148_2, e148_5, e148_8, e148_9, e148_12, e148_15, e148_16, e148_19, e148_20, e148_22, e148_25, e148_26, e148_27, e148_30, e148_31, e148_32, e148_35, e148_36, e148_37, e148_40, e148_41, e148_43, e148_46, e148_49, e148_50, e148_52, e148_55, e148_58, e148_59, e148_62, e148_63, e148_64, e148_67, e148_68, e148_71, e148_72, e148_74, e148_75, e148_76, e148_79, ct_i, ct_r, ct_n, ct_h, opt_v, opt_s, ref_s, ref_n, eq_self_iff_true, true_or, or_true, zl0, zl1, zl2, zl3, zl4, zl5, zl6, zl7, zl8, zl9, zl10, zl16, zl32, zl40, zl100, zl160, zIc1, zI_lt, zI_le, nI_eq, nI_add, z_sub, nI_clamp, zI_of, uu_eq, uu_ne, Nat.reduceLT, Nat.reduceLeDiff, Nat.reduceEqDiff, Nat.reduceAdd, Nat.reduceSub, Nat.reduceMul, Nat.not_lt_zero, Nat.lt_irrefl, Nat.le_refl, Bool.false_eq_true, false_and, and_false, true_and, and_true, if_pos, if_neg, if_true, if_false, not_true_eq_false, not_false_eq_true, m0, e60, e61, k154p (show 1 ≤ d by omega) hM hP' (show 60 < 128 by decide), k154p (show 1 ≤ d by omega) hM hP' (show 61 < 128 by decide), ht, h25]
    refine k138p (show 4 ≤ d by omega) hM hP' (fun I2 hP2 => ?_)
    simp (disch := first | assumption | exact ct_i | exact ct_r | exact ct_n | exact ct_h | omega | exact z_in (by omega) (by omega) | exact b01 | exact Or.inl rfl | exact Or.inr rfl) only [e148_0, e148_1, e148_2, e148_5, e148_8, e148_9, e148_12, e148_15, e148_16, e148_19, e148_20, e148_22, e148_25, e148_26, e148_27, e148_30, e148_31, e148_32, e148_35, e148_36, e148_37, e148_40, e148_41, e148_43, e148_46, e148_49, e148_50, e148_52, e148_55, e148_58, e148_59, e148_62, e148_63, e148_64, e148_67, e148_68, e148_71, e148_72, e148_74, e148_75, e148_76, e148_79, ct_i, ct_r, ct_n, ct_h, opt_v, opt_s, ref_s, ref_n, eq_self_iff_true, true_or, or_true, zl0, zl1, zl2, zl3, zl4, zl5, zl6, zl7, zl8, zl9, zl10, zl16, zl32, zl40, zl100, zl160, zIc1, zI_lt, zI_le, nI_eq, nI_add, z_sub, nI_clamp, zI_of, uu_eq, uu_ne, Nat.reduceLT, Nat.reduceLeDiff, Nat.reduceEqDiff, Nat.reduceAdd, Nat.reduceSub, Nat.reduceMul, Nat.not_lt_zero, Nat.lt_irrefl, Nat.le_refl, Bool.false_eq_true, false_and, and_false, true_and, and_true, if_pos, if_neg, if_true, if_false, not_true_eq_false, not_false_eq_true, m0]
    refine g2 ho d I2 _ (by simp only [kD, Nat.reduceSub, Nat.reduceEqDiff, if_true, if_false] at hd ⊢; omega) (by omega) hP2 (fun I3 hP3 => ?_)
    rw [pQ_f] at hP3
    obtain ⟨e, hW, he⟩ := hP3
    simp (disch := first | assumption | exact ct_i | exact ct_r | exact ct_n | exact ct_h | omega | exact z_in (by omega) (by omega) | exact b01 | exact Or.inl rfl | exact Or.inr rfl) only [e148_0, e148_1, e148_2, e148_5, e148_8, e148_9, e148_12, e148_15, e148_16, e148_19, e148_20, e148_22, e148_25, e148_26, e148_27, e148_30, e148_31, e148_32, e148_35, e148_36, e148_37, e148_40, e148_41, e148_43, e148_46, e148_49, e148_50, e148_52, e148_55, e148_58, e148_59, e148_62, e148_63, e148_64, e148_67, e148_68, e148_71, e148_72, e148_74, e148_75, e148_76, e148_79, ct_i, ct_r, ct_n, ct_h, opt_v, opt_s, ref_s, ref_n, eq_self_iff_true, true_or, or_true, zl0, zl1, zl2, zl3, zl4, zl5, zl6, zl7, zl8, zl9, zl10, zl16, zl32, zl40, zl100, zl160, zIc1, zI_lt, zI_le, nI_eq, nI_add, z_sub, nI_clamp, zI_of, uu_eq, uu_ne, Nat.reduceLT, Nat.reduceLeDiff, Nat.reduceEqDiff, Nat.reduceAdd, Nat.reduceSub, Nat.reduceMul, Nat.not_lt_zero, Nat.lt_irrefl, Nat.le_refl, Bool.false_eq_true, false_and, and_false, true_and, and_true, if_pos, if_neg, if_true, if_false, not_true_eq_false, not_false_eq_true, m0]
    refine k150w (show 1 ≤ d by omega) hM hi hW (show e < 170 by omega) (fun I4 hW4 => ?_)
    simp (disch := first | assumption | exact ct_i | exact ct_r | exact ct_n | exact ct_h | omega | exact z_in (by omega) (by omega) | exact b01 | exact Or.inl rfl | exact Or.inr rfl) only [e148_0, e148_1, e148_2, e148_5, e148_8, e148_9, e148_12, e148_15, e148_16, e148_19, e148_20, e148_22, e148_25, e148_26, e148_27, e148_30, e148_31, e148_32, e148_35, e148_36, e148_37, e148_40, e148_41, e148_43, e148_46, e148_49, e148_50, e148_52, e148_55, e148_58, e148_59, e148_62, e148_63, e148_64, e148_67, e148_68, e148_71, e148_72, e148_74, e148_75, e148_76, e148_79, ct_i, ct_r, ct_n, ct_h, opt_v, opt_s, ref_s, ref_n, eq_self_iff_true, true_or, or_true, zl0, zl1, zl2, zl3, zl4, zl5, zl6, zl7, zl8, zl9, zl10, zl16, zl32, zl40, zl100, zl160, zIc1, zI_lt, zI_le, nI_eq, nI_add, z_sub, nI_clamp, zI_of, uu_eq, uu_ne, Nat.reduceLT, Nat.reduceLeDiff, Nat.reduceEqDiff, Nat.reduceAdd, Nat.reduceSub, Nat.reduceMul, Nat.not_lt_zero, Nat.lt_irrefl, Nat.le_refl, Bool.false_eq_true, false_and, and_false, true_and, and_true, if_pos, if_neg, if_true, if_false, not_true_eq_false, not_false_eq_true, m0]
    exact H I4 (pQ_f.mpr ⟨e + 1, hW4, by omega⟩)

theorem u14 (hM : mK sh R) (hs160 : s ≤ 160) (hi : i < 6) {o p : Nat} {c : List Nat} (hp : p ≤ s) (ht : tk tp s p = 258) : CM tp s i n t sh I0 L R 10 o p c true (nx tp s p) (c ++ [nv tp s p]) := by
  rw [CM_c (by decide)]
  have m0 := mm_0 hM
  have e45 : (45 : Int32) = nI 45 := rfl
  have e60 : (60 : Int32) = nI 60 := rfl
  have e61 : (61 : Int32) = nI 61 := rfl
  have e41 : (41 : Int32) = nI 41 := rfl
  intro ho d I Q hd hc hP H
  simp only [kD, Nat.reduceEqDiff, if_true, if_false] at hd
  show aC d 153 _ _ _
  obtain ⟨d, rfl⟩ : ∃ e, d = e + 1 := ⟨d - 1, by omega⟩
  have hT := tk_lt (tp := tp) (s := s) (p := p)
  have hps := hP.1.1
  have h27 := hP.2.2.1
  have h24 := hP.1.2.2.2.1
  have hlt := tk_ne (tp := tp) (s := s) (p := p) (by omega)
  have hn := nv_lt ht
  have h25 : I 0 25 = nI (nv tp s p) := by
    have := hP.1.2.2.2.2 (by omega) (by omega)
    rw [ht] at this; exact this
  rw [ht] at h24
  have h24' : I 0 24 = nI 1 := h24
  simp (disch := first | assumption | exact ct_i | exact ct_r | exact ct_n | exact ct_h | omega | exact z_in (by omega) (by omega) | exact b01 | exact Or.inl rfl | exact Or.inr rfl) only [b153, e153_0, e153_1, e153_4, e153_7, e153_8, e153_9, e153_12, e153_13, e153_16, e153_17, e153_20, e153_21, e153_24, e153_25, e153_26, e153_29, e153_30, e153_33, e153_34, e153_37, e153_40, e153_41, e153_42, e153_45, e153_46, e153_49, e153_50, e153_53, e153_54, e153_55, e153_57, e153_60, e153_61, e153_62, e153_65, e153_66, e153_68, e153_71, e153_74, e153_75, e153_78, e153_79, e153_80, e153_83, e153_86, e153_87, e153_88, e153_91, e153_92, e153_95, e153_96, e153_98, e153_101, e153_102, e153_103, e153_106, e153_107, e153_108, e153_111, e153_112, e153_113, e153_116, e153_117, e153_119, e153_122, e153_125, e153_126, e153_129, e153_130, e153_131, e153_132, e153_135, e153_136, e153_137, e153_140, e153_141, e153_144, ct_i, ct_r, ct_n, ct_h, opt_v, opt_s, ref_s, ref_n, eq_self_iff_true, true_or, or_true, zl0, zl1, zl2, zl3, zl4, zl5, zl6, zl7, zl8, zl9, zl10, zl16, zl32, zl40, zl100, zl160, zIc1, zI_lt, zI_le, nI_eq, nI_add, z_sub, nI_clamp, zI_of, uu_eq, uu_ne, Nat.reduceLT, Nat.reduceLeDiff, Nat.reduceEqDiff, Nat.reduceAdd, Nat.reduceSub, Nat.reduceMul, Nat.not_lt_zero, Nat.lt_irrefl, Nat.le_refl, Bool.false_eq_true, false_and, and_false, true_and, and_true, if_pos, if_neg, if_true, if_false, not_true_eq_false, not_false_eq_true, m0, h27, h24', h25]
  refine k150p (show 1 ≤ d by omega) hM hi hP (show c.length < 160 by omega) (show nI (nv tp s p) = mCell (nv tp s p) from (if_pos hn).symm) (fun I' hP' => ?_)
  simp (disch := first | assumption | exact ct_i | exact ct_r | exact ct_n | exact ct_h | omega | exact z_in (by omega) (by omega) | exact b01 | exact Or.inl rfl | exact Or.inr rfl) only [e153_0, e153_1, e153_4, e153_7, e153_8, e153_9, e153_12, e153_13, e153_16, e153_17, e153_20, e153_21, e153_24, e153_25, e153_26, e153_29, e153_30, e153_33, e153_34, e153_37, e153_40, e153_41, e153_42, e153_45, e153_46, e153_49, e153_50, e153_53, e153_54, e153_55, e153_57, e153_60, e153_61, e153_62, e153_65, e153_66, e153_68, e153_71, e153_74, e153_75, e153_78, e153_79, e153_80, e153_83, e153_86, e153_87, e153_88, e153_91, e153_92, e153_95, e153_96, e153_98, e153_101, e153_102, e153_103, e153_106, e153_107, e153_108, e153_111, e153_112, e153_113, e153_116, e153_117, e153_119, e153_122, e153_125, e153_126, e153_129, e153_130, e153_131, e153_132, e153_135, e153_136, e153_137, e153_140, e153_141, e153_144, ct_i, ct_r, ct_n, ct_h, opt_v, opt_s, ref_s, ref_n, eq_self_iff_true, true_or, or_true, zl0, zl1, zl2, zl3, zl4, zl5, zl6, zl7, zl8, zl9, zl10, zl16, zl32, zl40, zl100, zl160, zIc1, zI_lt, zI_le, nI_eq, nI_add, z_sub, nI_clamp, zI_of, uu_eq, uu_ne, Nat.reduceLT, Nat.reduceLeDiff, Nat.reduceEqDiff, Nat.reduceAdd, Nat.reduceSub, Nat.reduceMul, Nat.not_lt_zero, Nat.lt_irrefl, Nat.le_refl, Bool.false_eq_true, false_and, and_false, true_and, and_true, if_pos, if_neg, if_true, if_false, not_true_eq_false, not_false_eq_true, m0]
  refine k138p (show 4 ≤ d by omega) hM hP' (fun I2 hP2 => ?_)
  simp (disch := first | assumption | exact ct_i | exact ct_r | exact ct_n | exact ct_h | omega | exact z_in (by omega) (by omega) | exact b01 | exact Or.inl rfl | exact Or.inr rfl) only [e153_0, e153_1, e153_4, e153_7, e153_8, e153_9, e153_12, e153_13, e153_16, e153_17, e153_20, e153_21, e153_24, e153_25, e153_26, e153_29, e153_30, e153_33, e153_34, e153_37, e153_40, e153_41, e153_42, e153_45, e153_46, e153_49, e153_50, e153_53, e153_54, e153_55, e153_57, e153_60, e153_61, e153_62, e153_65, e153_66, e153_68, e153_71, e153_74, e153_75, e153_78, e153_79, e153_80, e153_83, e153_86, e153_87, e153_88, e153_91, e153_92, e153_95, e153_96, e153_98, e153_101, e153_102, e153_103, e153_106, e153_107, e153_108, e153_111, e153_112, e153_113, e153_116, e153_117, e153_119, e153_122, e153_125, e153_126, e153_129, e153_130, e153_131, e153_132, e153_135, e153_136, e153_137, e153_140, e153_141, e153_144, ct_i, ct_r, ct_n, ct_h, opt_v, opt_s, ref_s, ref_n, eq_self_iff_true, true_or, or_true, zl0, zl1, zl2, zl3, zl4, zl5, zl6, zl7, zl8, zl9, zl10, zl16, zl32, zl40, zl100, zl160, zIc1, zI_lt, zI_le, nI_eq, nI_add, z_sub, nI_clamp, zI_of, uu_eq, uu_ne, Nat.reduceLT, Nat.reduceLeDiff, Nat.reduceEqDiff, Nat.reduceAdd, Nat.reduceSub, Nat.reduceMul, Nat.not_lt_zero, Nat.lt_irrefl, Nat.le_refl, Bool.false_eq_true, false_and, and_false, true_and, and_true, if_pos, if_neg, if_true, if_false, not_true_eq_false, not_false_eq_true, m0]
  exact H I2 (pQ_t.mpr hP2)

theorem u15 (hM : mK sh R) (hs160 : s ≤ 160) (hi : i < 6) {o p : Nat} {c : List Nat} {j : Nat} (hp : p ≤ s) (hj : j < 6) (ht : tk tp s p = 300 + j) : CM tp s i n t sh I0 L R 10 o p c true (nx tp s p) (c ++ [10000 + j]) := by
  rw [CM_c (by decide)]
  have m0 := mm_0 hM
  have e45 : (45 : Int32) = nI 45 := rfl
  have e60 : (60 : Int32) = nI 60 := rfl
  have e61 : (61 : Int32) = nI 61 := rfl
  have e41 : (41 : Int32) = nI 41 := rfl
  intro ho d I Q hd hc hP H
  simp only [kD, Nat.reduceEqDiff, if_true, if_false] at hd
  show aC d 153 _ _ _
  obtain ⟨d, rfl⟩ : ∃ e, d = e + 1 := ⟨d - 1, by omega⟩
  have hT := tk_lt (tp := tp) (s := s) (p := p)
  have hps := hP.1.1
  have h27 := hP.2.2.1
  have h24 := hP.1.2.2.2.1
  have hlt := tk_ne (tp := tp) (s := s) (p := p) (by omega)
  have h25 : I 0 25 = nI j := by
    have := hP.1.2.2.2.2 (by omega) (by omega)
    rw [ht] at this
    rw [this]; unfold woM; rw [if_neg (by omega), if_neg (by omega), if_pos (by omega), Nat.add_sub_cancel_left]
  have h24' : I 0 24 = nI 2 := by
    rw [h24, ht]; unfold tkM; rw [if_neg (by omega), if_neg (by omega), if_neg (by omega), if_neg (by omega), if_pos (by omega)]
  have hv : -nI 1 - nI j = mCell (10000 + j) := by unfold mCell; rw [if_neg (by omega), if_pos (by omega), Nat.add_sub_cancel_left]
  simp (disch := first | assumption | exact ct_i | exact ct_r | exact ct_n | exact ct_h | omega | exact z_in (by omega) (by omega) | exact b01 | exact Or.inl rfl | exact Or.inr rfl) only [b153, e153_0, e153_1, e153_4, e153_7, e153_8, e153_9, e153_12, e153_13, e153_16, e153_17, e153_20, e153_21, e153_24, e153_25, e153_26, e153_29, e153_30, e153_33, e153_34, e153_37, e153_40, e153_41, e153_42, e153_45, e153_46, e153_49, e153_50, e153_53, e153_54, e153_55, e153_57, e153_60, e153_61, e153_62, e153_65, e153_66, e153_68, e153_71, e153_74, e153_75, e153_78, e153_79, e153_80, e153_83, e153_86, e153_87, e153_88, e153_91, e153_92, e153_95, e153_96, e153_98, e153_101, e153_102, e153_103, e153_106, e153_107, e153_108, e153_111, e153_112, e153_113, e153_116, e153_117, e153_119, e153_122, e153_125, e153_126, e153_129, e153_130, e153_131, e153_132, e153_135, e153_136, e153_137, e153_140, e153_141, e153_144, ct_i, ct_r, ct_n, ct_h, opt_v, opt_s, ref_s, ref_n, eq_self_iff_true, true_or, or_true, zl0, zl1, zl2, zl3, zl4, zl5, zl6, zl7, zl8, zl9, zl10, zl16, zl32, zl40, zl100, zl160, zIc1, zI_lt, zI_le, nI_eq, nI_add, z_sub, nI_clamp, zI_of, uu_eq, uu_ne, Nat.reduceLT, Nat.reduceLeDiff, Nat.reduceEqDiff, Nat.reduceAdd, Nat.reduceSub, Nat.reduceMul, Nat.not_lt_zero, Nat.lt_irrefl, Nat.le_refl, Bool.false_eq_true, false_and, and_false, true_and, and_true, if_pos, if_neg, if_true, if_false, not_true_eq_false, not_false_eq_true, m0, h27, h24', h25]
  refine k150p (show 1 ≤ d by omega) hM hi hP (show c.length < 160 by omega) hv (fun I' hP' => ?_)
  simp (disch := first | assumption | exact ct_i | exact ct_r | exact ct_n | exact ct_h | omega | exact z_in (by omega) (by omega) | exact b01 | exact Or.inl rfl | exact Or.inr rfl) only [e153_0, e153_1, e153_4, e153_7, e153_8, e153_9, e153_12, e153_13, e153_16, e153_17, e153_20, e153_21, e153_24, e153_25, e153_26, e153_29, e153_30, e153_33, e153_34, e153_37, e153_40, e153_41, e153_42, e153_45, e153_46, e153_49, e153_50, e153_53, e153_54, e153_55, e153_57, e153_60, e153_61, e153_62, e153_65, e153_66, e153_68, e153_71, e153_74, e153_75, e153_78, e153_79, e153_80, e153_83, e153_86, e153_87, e153_88, e153_91, e153_92, e153_95, e153_96, e153_98, e153_101, e153_102, e153_103, e153_106, e153_107, e153_108, e153_111, e153_112, e153_113, e153_116, e153_117, e153_119, e153_122, e153_125, e153_126, e153_129, e153_130, e153_131, e153_132, e153_135, e153_136, e153_137, e153_140, e153_141, e153_144, ct_i, ct_r, ct_n, ct_h, opt_v, opt_s, ref_s, ref_n, eq_self_iff_true, true_or, or_true, zl0, zl1, zl2, zl3, zl4, zl5, zl6, zl7, zl8, zl9, zl10, zl16, zl32, zl40, zl100, zl160, zIc1, zI_lt, zI_le, nI_eq, nI_add, z_sub, nI_clamp, zI_of, uu_eq, uu_ne, Nat.reduceLT, Nat.reduceLeDiff, Nat.reduceEqDiff, Nat.reduceAdd, Nat.reduceSub, Nat.reduceMul, Nat.not_lt_zero, Nat.lt_irrefl, Nat.le_refl, Bool.false_eq_true, false_and, and_false, true_and, and_true, if_pos, if_neg, if_true, if_false, not_true_eq_false, not_false_eq_true, m0]
  refine k138p (show 4 ≤ d by omega) hM hP' (fun I2 hP2 => ?_)
  simp (disch := first | assumption | exact ct_i | exact ct_r | exact ct_n | exact ct_h | omega | exact z_in (by omega) (by omega) | exact b01 | exact Or.inl rfl | exact Or.inr rfl) only [e153_0, e153_1, e153_4, e153_7, e153_8, e153_9, e153_12, e153_13, e153_16, e153_17, e153_20, e153_21, e153_24, e153_25, e153_26, e153_29, e153_30, e153_33, e153_34, e153_37, e153_40, e153_41, e153_42, e153_45, e153_46, e153_49, e153_50, e153_53, e153_54, e153_55, e153_57, e153_60, e153_61, e153_62, e153_65, e153_66, e153_68, e153_71, e153_74, e153_75, e153_78, e153_79, e153_80, e153_83, e153_86, e153_87, e153_88, e153_91, e153_92, e153_95, e153_96, e153_98, e153_101, e153_102, e153_103, e153_106, e153_107, e153_108, e153_111, e153_112, e153_113, e153_116, e153_117, e153_119, e153_122, e153_125, e153_126, e153_129, e153_130, e153_131, e153_132, e153_135, e153_136, e153_137, e153_140, e153_141, e153_144, ct_i, ct_r, ct_n, ct_h, opt_v, opt_s, ref_s, ref_n, eq_self_iff_true, true_or, or_true, zl0, zl1, zl2, zl3, zl4, zl5, zl6, zl7, zl8, zl9, zl10, zl16, zl32, zl40, zl100, zl160, zIc1, zI_lt, zI_le, nI_eq, nI_add, z_sub, nI_clamp, zI_of, uu_eq, uu_ne, Nat.reduceLT, Nat.reduceLeDiff, Nat.reduceEqDiff, Nat.reduceAdd, Nat.reduceSub, Nat.reduceMul, Nat.not_lt_zero, Nat.lt_irrefl, Nat.le_refl, Bool.false_eq_true, false_and, and_false, true_and, and_true, if_pos, if_neg, if_true, if_false, not_true_eq_false, not_false_eq_true, m0]
  exact H I2 (pQ_t.mpr hP2)

theorem u16 (hM : mK sh R) (hs160 : s ≤ 160) (hi : i < 6) {o p : Nat} {c : List Nat} (t1 : ¬ tk tp s p = 258) (t2 : ¬ (300 ≤ tk tp s p ∧ tk tp s p < 306)) (t3 : ¬ (tk tp s p = 45 ∨ tk tp s p = 40) ∨ 5 ≤ o) : CM tp s i n t sh I0 L R 10 o p c false p c := by
  rw [CM_c (by decide)]
  have m0 := mm_0 hM
  have e45 : (45 : Int32) = nI 45 := rfl
  have e60 : (60 : Int32) = nI 60 := rfl
  have e61 : (61 : Int32) = nI 61 := rfl
  have e41 : (41 : Int32) = nI 41 := rfl
  intro ho d I Q hd hc hP H
  simp only [kD, Nat.reduceEqDiff, if_true, if_false] at hd
  show aC d 153 _ _ _
  obtain ⟨d, rfl⟩ : ∃ e, d = e + 1 := ⟨d - 1, by omega⟩
  have hT := tk_lt (tp := tp) (s := s) (p := p)
  have hps := hP.1.1
  have h27 := hP.2.2.1
  have h24 := hP.1.2.2.2.1
  have ht2' : tk tp s p < 259 ∨ 300 ≤ tk tp s p := by
    unfold tk
    have := wdT_c (tp := tp) (s := s) (p := p)
    repeat' split
    all_goals first | omega | (have := isS_lt (by assumption); omega)
  have hk1 : ¬ tkM (tk tp s p) = 1 := fun h => by
    unfold tkM at h
    repeat' split at h
    all_goals omega
  have hk2 : ¬ tkM (tk tp s p) = 2 := fun h => by
    unfold tkM at h
    repeat' split at h
    all_goals omega
  have hk6 := tkM_lt (T := tk tp s p)
  by_cases u2 : tk tp s p = 45
  · obtain rfl : o = 5 := by omega
    simp (disch := first | assumption | exact ct_i | exact ct_r | exact ct_n | exact ct_h | omega | exact z_in (by omega) (by omega) | exact b01 | exact Or.inl rfl | exact Or.inr rfl) only [b153, e153_0, e153_1, e153_4, e153_7, e153_8, e153_9, e153_12, e153_13, e153_16, e153_17, e153_20, e153_21, e153_24, e153_25, e153_26, e153_29, e153_30, e153_33, e153_34, e153_37, e153_40, e153_41, e153_42, e153_45, e153_46, e153_49, e153_50, e153_53, e153_54, e153_55, e153_57, e153_60, e153_61, e153_62, e153_65, e153_66, e153_68, e153_71, e153_74, e153_75, e153_78, e153_79, e153_80, e153_83, e153_86, e153_87, e153_88, e153_91, e153_92, e153_95, e153_96, e153_98, e153_101, e153_102, e153_103, e153_106, e153_107, e153_108, e153_111, e153_112, e153_113, e153_116, e153_117, e153_119, e153_122, e153_125, e153_126, e153_129, e153_130, e153_131, e153_132, e153_135, e153_136, e153_137, e153_140, e153_141, e153_144, ct_i, ct_r, ct_n, ct_h, opt_v, opt_s, ref_s, ref_n, eq_self_iff_true, true_or, or_true, zl0, zl1, zl2, zl3, zl4, zl5, zl6, zl7, zl8, zl9, zl10, zl16, zl32, zl40, zl100, zl160, zIc1, zI_lt, zI_le, nI_eq, nI_add, z_sub, nI_clamp, zI_of, uu_eq, uu_ne, Nat.reduceLT, Nat.reduceLeDiff, Nat.reduceEqDiff, Nat.reduceAdd, Nat.reduceSub, Nat.reduceMul, Nat.not_lt_zero, Nat.lt_irrefl, Nat.le_refl, Bool.false_eq_true, false_and, and_false, true_and, and_true, if_pos, if_neg, if_true, if_false, not_true_eq_false, not_false_eq_true, m0, h27, h24, hk1, hk2, e45, k154p (show 1 ≤ d by omega) hM hP (show 45 < 128 by decide), k154p (show 1 ≤ d by omega) hM hP (show 40 < 128 by decide), u2]
    refine k149w (show 2 ≤ d by omega) hM hP (fun I' hW => ?_)
    have q := H I' (pQ_f.mpr ⟨_, hW, Nat.le_refl _⟩)
    simp (disch := first | assumption | exact ct_i | exact ct_r | exact ct_n | exact ct_h | omega | exact z_in (by omega) (by omega) | exact b01 | exact Or.inl rfl | exact Or.inr rfl) only [e153_0, e153_1, e153_4, e153_7, e153_8, e153_9, e153_12, e153_13, e153_16, e153_17, e153_20, e153_21, e153_24, e153_25, e153_26, e153_29, e153_30, e153_33, e153_34, e153_37, e153_40, e153_41, e153_42, e153_45, e153_46, e153_49, e153_50, e153_53, e153_54, e153_55, e153_57, e153_60, e153_61, e153_62, e153_65, e153_66, e153_68, e153_71, e153_74, e153_75, e153_78, e153_79, e153_80, e153_83, e153_86, e153_87, e153_88, e153_91, e153_92, e153_95, e153_96, e153_98, e153_101, e153_102, e153_103, e153_106, e153_107, e153_108, e153_111, e153_112, e153_113, e153_116, e153_117, e153_119, e153_122, e153_125, e153_126, e153_129, e153_130, e153_131, e153_132, e153_135, e153_136, e153_137, e153_140, e153_141, e153_144, ct_i, ct_r, ct_n, ct_h, opt_v, opt_s, ref_s, ref_n, eq_self_iff_true, true_or, or_true, zl0, zl1, zl2, zl3, zl4, zl5, zl6, zl7, zl8, zl9, zl10, zl16, zl32, zl40, zl100, zl160, zIc1, zI_lt, zI_le, nI_eq, nI_add, z_sub, nI_clamp, zI_of, uu_eq, uu_ne, Nat.reduceLT, Nat.reduceLeDiff, Nat.reduceEqDiff, Nat.reduceAdd, Nat.reduceSub, Nat.reduceMul, Nat.not_lt_zero, Nat.lt_irrefl, Nat.le_refl, Bool.false_eq_true, false_and, and_false, true_and, and_true, if_pos, if_neg, if_true, if_false, not_true_eq_false, not_false_eq_true]
    exact q
  · by_cases u3 : tk tp s p = 40
    · obtain rfl : o = 5 := by omega
      simp (disch := first | assumption | exact ct_i | exact ct_r | exact ct_n | exact ct_h | omega | exact z_in (by omega) (by omega) | exact b01 | exact Or.inl rfl | exact Or.inr rfl) only [b153, e153_0, e153_1, e153_4, e153_7, e153_8, e153_9, e153_12, e153_13, e153_16, e153_17, e153_20, e153_21, e153_24, e153_25, e153_26, e153_29, e153_30, e153_33, e153_34, e153_37, e153_40, e153_41, e153_42, e153_45, e153_46, e153_49, e153_50, e153_53, e153_54, e153_55, e153_57, e153_60, e153_61, e153_62, e153_65, e153_66, e153_68, e153_71, e153_74, e153_75, e153_78, e153_79, e153_80, e153_83, e153_86, e153_87, e153_88, e153_91, e153_92, e153_95, e153_96, e153_98, e153_101, e153_102, e153_103, e153_106, e153_107, e153_108, e153_111, e153_112, e153_113, e153_116, e153_117, e153_119, e153_122, e153_125, e153_126, e153_129, e153_130, e153_131, e153_132, e153_135, e153_136, e153_137, e153_140, e153_141, e153_144, ct_i, ct_r, ct_n, ct_h, opt_v, opt_s, ref_s, ref_n, eq_self_iff_true, true_or, or_true, zl0, zl1, zl2, zl3, zl4, zl5, zl6, zl7, zl8, zl9, zl10, zl16, zl32, zl40, zl100, zl160, zIc1, zI_lt, zI_le, nI_eq, nI_add, z_sub, nI_clamp, zI_of, uu_eq, uu_ne, Nat.reduceLT, Nat.reduceLeDiff, Nat.reduceEqDiff, Nat.reduceAdd, Nat.reduceSub, Nat.reduceMul, Nat.not_lt_zero, Nat.lt_irrefl, Nat.le_refl, Bool.false_eq_true, false_and, and_false, true_and, and_true, if_pos, if_neg, if_true, if_false, not_true_eq_false, not_false_eq_true, m0, h27, h24, hk1, hk2, e45, k154p (show 1 ≤ d by omega) hM hP (show 45 < 128 by decide), k154p (show 1 ≤ d by omega) hM hP (show 40 < 128 by decide), u2, u3]
      refine k149w (show 2 ≤ d by omega) hM hP (fun I' hW => ?_)
      have q := H I' (pQ_f.mpr ⟨_, hW, Nat.le_refl _⟩)
      simp (disch := first | assumption | exact ct_i | exact ct_r | exact ct_n | exact ct_h | omega | exact z_in (by omega) (by omega) | exact b01 | exact Or.inl rfl | exact Or.inr rfl) only [e153_0, e153_1, e153_4, e153_7, e153_8, e153_9, e153_12, e153_13, e153_16, e153_17, e153_20, e153_21, e153_24, e153_25, e153_26, e153_29, e153_30, e153_33, e153_34, e153_37, e153_40, e153_41, e153_42, e153_45, e153_46, e153_49, e153_50, e153_53, e153_54, e153_55, e153_57, e153_60, e153_61, e153_62, e153_65, e153_66, e153_68, e153_71, e153_74, e153_75, e153_78, e153_79, e153_80, e153_83, e153_86, e153_87, e153_88, e153_91, e153_92, e153_95, e153_96, e153_98, e153_101, e153_102, e153_103, e153_106, e153_107, e153_108, e153_111, e153_112, e153_113, e153_116, e153_117, e153_119, e153_122, e153_125, e153_126, e153_129, e153_130, e153_131, e153_132, e153_135, e153_136, e153_137, e153_140, e153_141, e153_144, ct_i, ct_r, ct_n, ct_h, opt_v, opt_s, ref_s, ref_n, eq_self_iff_true, true_or, or_true, zl0, zl1, zl2, zl3, zl4, zl5, zl6, zl7, zl8, zl9, zl10, zl16, zl32, zl40, zl100, zl160, zIc1, zI_lt, zI_le, nI_eq, nI_add, z_sub, nI_clamp, zI_of, uu_eq, uu_ne, Nat.reduceLT, Nat.reduceLeDiff, Nat.reduceEqDiff, Nat.reduceAdd, Nat.reduceSub, Nat.reduceMul, Nat.not_lt_zero, Nat.lt_irrefl, Nat.le_refl, Bool.false_eq_true, false_and, and_false, true_and, and_true, if_pos, if_neg, if_true, if_false, not_true_eq_false, not_false_eq_true]
      exact q
    · simp (disch := first | assumption | exact ct_i | exact ct_r | exact ct_n | exact ct_h | omega | exact z_in (by omega) (by omega) | exact b01 | exact Or.inl rfl | exact Or.inr rfl) only [b153, e153_0, e153_1, e153_4, e153_7, e153_8, e153_9, e153_12, e153_13, e153_16, e153_17, e153_20, e153_21, e153_24, e153_25, e153_26, e153_29, e153_30, e153_33, e153_34, e153_37, e153_40, e153_41, e153_42, e153_45, e153_46, e153_49, e153_50, e153_53, e153_54, e153_55, e153_57, e153_60, e153_61, e153_62, e153_65, e153_66, e153_68, e153_71, e153_74, e153_75, e153_78, e153_79, e153_80, e153_83, e153_86, e153_87, e153_88, e153_91, e153_92, e153_95, e153_96, e153_98, e153_101, e153_102, e153_103, e153_106, e153_107, e153_108, e153_111, e153_112, e153_113, e153_116, e153_117, e153_119, e153_122, e153_125, e153_126, e153_129, e153_130, e153_131, e153_132, e153_135, e153_136, e153_137, e153_140, e153_141, e153_144, ct_i, ct_r, ct_n, ct_h, opt_v, opt_s, ref_s, ref_n, eq_self_iff_true, true_or, or_true, zl0, zl1, zl2, zl3, zl4, zl5, zl6, zl7, zl8, zl9, zl10, zl16, zl32, zl40, zl100, zl160, zIc1, zI_lt, zI_le, nI_eq, nI_add, z_sub, nI_clamp, zI_of, uu_eq, uu_ne, Nat.reduceLT, Nat.reduceLeDiff, Nat.reduceEqDiff, Nat.reduceAdd, Nat.reduceSub, Nat.reduceMul, Nat.not_lt_zero, Nat.lt_irrefl, Nat.le_refl, Bool.false_eq_true, false_and, and_false, true_and, and_true, if_pos, if_neg, if_true, if_false, not_true_eq_false, not_false_eq_true, m0, h27, h24, hk1, hk2, e45, k154p (show 1 ≤ d by omega) hM hP (show 45 < 128 by decide), k154p (show 1 ≤ d by omega) hM hP (show 40 < 128 by decide), u2, u3]
      refine k145p (show 1 ≤ d by omega) hM hP (fun I' hW => ?_)
      have q := H I' (pQ_f.mpr ⟨_, hW, Nat.le_refl _⟩)
      simp (disch := first | assumption | exact ct_i | exact ct_r | exact ct_n | exact ct_h | omega | exact z_in (by omega) (by omega) | exact b01 | exact Or.inl rfl | exact Or.inr rfl) only [e153_0, e153_1, e153_4, e153_7, e153_8, e153_9, e153_12, e153_13, e153_16, e153_17, e153_20, e153_21, e153_24, e153_25, e153_26, e153_29, e153_30, e153_33, e153_34, e153_37, e153_40, e153_41, e153_42, e153_45, e153_46, e153_49, e153_50, e153_53, e153_54, e153_55, e153_57, e153_60, e153_61, e153_62, e153_65, e153_66, e153_68, e153_71, e153_74, e153_75, e153_78, e153_79, e153_80, e153_83, e153_86, e153_87, e153_88, e153_91, e153_92, e153_95, e153_96, e153_98, e153_101, e153_102, e153_103, e153_106, e153_107, e153_108, e153_111, e153_112, e153_113, e153_116, e153_117, e153_119, e153_122, e153_125, e153_126, e153_129, e153_130, e153_131, e153_132, e153_135, e153_136, e153_137, e153_140, e153_141, e153_144, ct_i, ct_r, ct_n, ct_h, opt_v, opt_s, ref_s, ref_n, eq_self_iff_true, true_or, or_true, zl0, zl1, zl2, zl3, zl4, zl5, zl6, zl7, zl8, zl9, zl10, zl16, zl32, zl40, zl100, zl160, zIc1, zI_lt, zI_le, nI_eq, nI_add, z_sub, nI_clamp, zI_of, uu_eq, uu_ne, Nat.reduceLT, Nat.reduceLeDiff, Nat.reduceEqDiff, Nat.reduceAdd, Nat.reduceSub, Nat.reduceMul, Nat.not_lt_zero, Nat.lt_irrefl, Nat.le_refl, Bool.false_eq_true, false_and, and_false, true_and, and_true, if_pos, if_neg, if_true, if_false, not_true_eq_false, not_false_eq_true]
      exact q

theorem u17 (hM : mK sh R) (hs160 : s ≤ 160) (hi : i < 6) {o p : Nat} {c : List Nat} {p1 : Nat} {c1 : List Nat} (hp : p ≤ s) (ht : tk tp s p = 45) (h5 : ¬ 5 ≤ o) (B : Bd s (nx tp s p) c p1 c1) (g1 : CM tp s i n t sh I0 L R 10 (o + 1) (nx tp s p) c true p1 c1) : CM tp s i n t sh I0 L R 10 o p c true p1 (c1 ++ [10006]) := by
  rw [CM_c (by decide)]
  rw [CM_c (by decide)] at g1
  have m0 := mm_0 hM
  have e45 : (45 : Int32) = nI 45 := rfl
  have e60 : (60 : Int32) = nI 60 := rfl
  have e61 : (61 : Int32) = nI 61 := rfl
  have e41 : (41 : Int32) = nI 41 := rfl
  intro ho d I Q hd hc hP H
  simp only [kD, Nat.reduceEqDiff, if_true, if_false] at hd
  obtain ⟨B1, B2, B3, B4⟩ := B
  show aC d 153 _ _ _
  obtain ⟨d, rfl⟩ : ∃ e, d = e + 1 := ⟨d - 1, by omega⟩
  have hT := tk_lt (tp := tp) (s := s) (p := p)
  have hps := hP.1.1
  have h27 := hP.2.2.1
  have h24 := hP.1.2.2.2.1
  have hlt := tk_ne (tp := tp) (s := s) (p := p) (by omega)
  have hnx := nx_gt (tp := tp) hlt
  have h24' : I 0 24 = nI 4 := by rw [h24, ht]; rfl
  simp (disch := first | assumption | exact ct_i | exact ct_r | exact ct_n | exact ct_h | omega | exact z_in (by omega) (by omega) | exact b01 | exact Or.inl rfl | exact Or.inr rfl) only [b153, e153_0, e153_1, e153_4, e153_7, e153_8, e153_9, e153_12, e153_13, e153_16, e153_17, e153_20, e153_21, e153_24, e153_25, e153_26, e153_29, e153_30, e153_33, e153_34, e153_37, e153_40, e153_41, e153_42, e153_45, e153_46, e153_49, e153_50, e153_53, e153_54, e153_55, e153_57, e153_60, e153_61, e153_62, e153_65, e153_66, e153_68, e153_71, e153_74, e153_75, e153_78, e153_79, e153_80, e153_83, e153_86, e153_87, e153_88, e153_91, e153_92, e153_95, e153_96, e153_98, e153_101, e153_102, e153_103, e153_106, e153_107, e153_108, e153_111, e153_112, e153_113, e153_116, e153_117, e153_119, e153_122, e153_125, e153_126, e153_129, e153_130, e153_131, e153_132, e153_135, e153_136, e153_137, e153_140, e153_141, e153_144, ct_i, ct_r, ct_n, ct_h, opt_v, opt_s, ref_s, ref_n, eq_self_iff_true, true_or, or_true, zl0, zl1, zl2, zl3, zl4, zl5, zl6, zl7, zl8, zl9, zl10, zl16, zl32, zl40, zl100, zl160, zIc1, zI_lt, zI_le, nI_eq, nI_add, z_sub, nI_clamp, zI_of, uu_eq, uu_ne, Nat.reduceLT, Nat.reduceLeDiff, Nat.reduceEqDiff, Nat.reduceAdd, Nat.reduceSub, Nat.reduceMul, Nat.not_lt_zero, Nat.lt_irrefl, Nat.le_refl, Bool.false_eq_true, false_and, and_false, true_and, and_true, if_pos, if_neg, if_true, if_false, not_true_eq_false, not_false_eq_true, m0, h27, h24', e45, k154p (show 1 ≤ d by omega) hM hP (show 45 < 128 by decide), k154p (show 1 ≤ d by omega) hM hP (show 40 < 128 by decide), ht]
  refine k149p (show 5 ≤ d by omega) hM hP (by omega) (fun I' hP' => ?_)
  simp (disch := first | assumption | exact ct_i | exact ct_r | exact ct_n | exact ct_h | omega | exact z_in (by omega) (by omega) | exact b01 | exact Or.inl rfl | exact Or.inr rfl) only [e153_0, e153_1, e153_4, e153_7, e153_8, e153_9, e153_12, e153_13, e153_16, e153_17, e153_20, e153_21, e153_24, e153_25, e153_26, e153_29, e153_30, e153_33, e153_34, e153_37, e153_40, e153_41, e153_42, e153_45, e153_46, e153_49, e153_50, e153_53, e153_54, e153_55, e153_57, e153_60, e153_61, e153_62, e153_65, e153_66, e153_68, e153_71, e153_74, e153_75, e153_78, e153_79, e153_80, e153_83, e153_86, e153_87, e153_88, e153_91, e153_92, e153_95, e153_96, e153_98, e153_101, e153_102, e153_103, e153_106, e153_107, e153_108, e153_111, e153_112, e153_113, e153_116, e153_117, e153_119, e153_122, e153_125, e153_126, e153_129, e153_130, e153_131, e153_132, e153_135, e153_136, e153_137, e153_140, e153_141, e153_144, ct_i, ct_r, ct_n, ct_h, opt_v, opt_s, ref_s, ref_n, eq_self_iff_true, true_or, or_true, zl0, zl1, zl2, zl3, zl4, zl5, zl6, zl7, zl8, zl9, zl10, zl16, zl32, zl40, zl100, zl160, zIc1, zI_lt, zI_le, nI_eq, nI_add, z_sub, nI_clamp, zI_of, uu_eq, uu_ne, Nat.reduceLT, Nat.reduceLeDiff, Nat.reduceEqDiff, Nat.reduceAdd, Nat.reduceSub, Nat.reduceMul, Nat.not_lt_zero, Nat.lt_irrefl, Nat.le_refl, Bool.false_eq_true, false_and, and_false, true_and, and_true, if_pos, if_neg, if_true, if_false, not_true_eq_false, not_false_eq_true, m0]
  refine g1 (by omega) d I' _ (by simp only [kD, Nat.reduceSub, Nat.reduceEqDiff, if_true, if_false] at hd ⊢; omega) (by omega) hP' (fun I2 hP2 => ?_)
  rw [pQ_t] at hP2
  simp (disch := first | assumption | exact ct_i | exact ct_r | exact ct_n | exact ct_h | omega | exact z_in (by omega) (by omega) | exact b01 | exact Or.inl rfl | exact Or.inr rfl) only [e153_0, e153_1, e153_4, e153_7, e153_8, e153_9, e153_12, e153_13, e153_16, e153_17, e153_20, e153_21, e153_24, e153_25, e153_26, e153_29, e153_30, e153_33, e153_34, e153_37, e153_40, e153_41, e153_42, e153_45, e153_46, e153_49, e153_50, e153_53, e153_54, e153_55, e153_57, e153_60, e153_61, e153_62, e153_65, e153_66, e153_68, e153_71, e153_74, e153_75, e153_78, e153_79, e153_80, e153_83, e153_86, e153_87, e153_88, e153_91, e153_92, e153_95, e153_96, e153_98, e153_101, e153_102, e153_103, e153_106, e153_107, e153_108, e153_111, e153_112, e153_113, e153_116, e153_117, e153_119, e153_122, e153_125, e153_126, e153_129, e153_130, e153_131, e153_132, e153_135, e153_136, e153_137, e153_140, e153_141, e153_144, ct_i, ct_r, ct_n, ct_h, opt_v, opt_s, ref_s, ref_n, eq_self_iff_true, true_or, or_true, zl0, zl1, zl2, zl3, zl4, zl5, zl6, zl7, zl8, zl9, zl10, zl16, zl32, zl40, zl100, zl160, zIc1, zI_lt, zI_le, nI_eq, nI_add, z_sub, nI_clamp, zI_of, uu_eq, uu_ne, Nat.reduceLT, Nat.reduceLeDiff, Nat.reduceEqDiff, Nat.reduceAdd, Nat.reduceSub, Nat.reduceMul, Nat.not_lt_zero, Nat.lt_irrefl, Nat.le_refl, Bool.false_eq_true, false_and, and_false, true_and, and_true, if_pos, if_neg, if_true, if_false, not_true_eq_false, not_false_eq_true, m0]
  refine k150p (show 1 ≤ d by omega) hM hi hP2 (show c1.length < 160 by omega) (show -nI 100 = mCell 10006 by decide) (fun I3 hP3 => ?_)
  have h26 := hP3.2.2.2.2.1
  have eo : nI (o + 1) - nI 1 = nI o := by rw [z_sub (by omega), Nat.add_sub_cancel]
  simp (disch := first | assumption | exact ct_i | exact ct_r | exact ct_n | exact ct_h | omega | exact z_in (by omega) (by omega) | exact b01 | exact Or.inl rfl | exact Or.inr rfl) only [e153_0, e153_1, e153_4, e153_7, e153_8, e153_9, e153_12, e153_13, e153_16, e153_17, e153_20, e153_21, e153_24, e153_25, e153_26, e153_29, e153_30, e153_33, e153_34, e153_37, e153_40, e153_41, e153_42, e153_45, e153_46, e153_49, e153_50, e153_53, e153_54, e153_55, e153_57, e153_60, e153_61, e153_62, e153_65, e153_66, e153_68, e153_71, e153_74, e153_75, e153_78, e153_79, e153_80, e153_83, e153_86, e153_87, e153_88, e153_91, e153_92, e153_95, e153_96, e153_98, e153_101, e153_102, e153_103, e153_106, e153_107, e153_108, e153_111, e153_112, e153_113, e153_116, e153_117, e153_119, e153_122, e153_125, e153_126, e153_129, e153_130, e153_131, e153_132, e153_135, e153_136, e153_137, e153_140, e153_141, e153_144, ct_i, ct_r, ct_n, ct_h, opt_v, opt_s, ref_s, ref_n, eq_self_iff_true, true_or, or_true, zl0, zl1, zl2, zl3, zl4, zl5, zl6, zl7, zl8, zl9, zl10, zl16, zl32, zl40, zl100, zl160, zIc1, zI_lt, zI_le, nI_eq, nI_add, z_sub, nI_clamp, zI_of, uu_eq, uu_ne, Nat.reduceLT, Nat.reduceLeDiff, Nat.reduceEqDiff, Nat.reduceAdd, Nat.reduceSub, Nat.reduceMul, Nat.not_lt_zero, Nat.lt_irrefl, Nat.le_refl, Bool.false_eq_true, false_and, and_false, true_and, and_true, if_pos, if_neg, if_true, if_false, not_true_eq_false, not_false_eq_true, m0, h26, eo]
  exact H _ (pQ_t.mpr (pO_op hP3))

theorem u18 (hM : mK sh R) (hs160 : s ≤ 160) (hi : i < 6) {o p : Nat} {c : List Nat} {p1 : Nat} {c1 : List Nat} (hp : p ≤ s) (ht : tk tp s p = 45) (h5 : ¬ 5 ≤ o) (B : Bd s (nx tp s p) c p1 c1) (g1 : CM tp s i n t sh I0 L R 10 (o + 1) (nx tp s p) c false p1 c1) : CM tp s i n t sh I0 L R 10 o p c false p1 c1 := by
  rw [CM_c (by decide)]
  rw [CM_c (by decide)] at g1
  have m0 := mm_0 hM
  have e45 : (45 : Int32) = nI 45 := rfl
  have e60 : (60 : Int32) = nI 60 := rfl
  have e61 : (61 : Int32) = nI 61 := rfl
  have e41 : (41 : Int32) = nI 41 := rfl
  intro ho d I Q hd hc hP H
  simp only [kD, Nat.reduceEqDiff, if_true, if_false] at hd
  obtain ⟨B1, B2, B3, B4⟩ := B
  show aC d 153 _ _ _
  obtain ⟨d, rfl⟩ : ∃ e, d = e + 1 := ⟨d - 1, by omega⟩
  have hT := tk_lt (tp := tp) (s := s) (p := p)
  have hps := hP.1.1
  have h27 := hP.2.2.1
  have h24 := hP.1.2.2.2.1
  have hlt := tk_ne (tp := tp) (s := s) (p := p) (by omega)
  have hnx := nx_gt (tp := tp) hlt
  have h24' : I 0 24 = nI 4 := by rw [h24, ht]; rfl
  simp (disch := first | assumption | exact ct_i | exact ct_r | exact ct_n | exact ct_h | omega | exact z_in (by omega) (by omega) | exact b01 | exact Or.inl rfl | exact Or.inr rfl) only [b153, e153_0, e153_1, e153_4, e153_7, e153_8, e153_9, e153_12, e153_13, e153_16, e153_17, e153_20, e153_21, e153_24, e153_25, e153_26, e153_29, e153_30, e153_33, e153_34, e153_37, e153_40, e153_41, e153_42, e153_45, e153_46, e153_49, e153_50, e153_53, e153_54, e153_55, e153_57, e153_60, e153_61, e153_62, e153_65, e153_66, e153_68, e153_71, e153_74, e153_75, e153_78, e153_79, e153_80, e153_83, e153_86, e153_87, e153_88, e153_91, e153_92, e153_95, e153_96, e153_98, e153_101, e153_102, e153_103, e153_106, e153_107, e153_108, e153_111, e153_112, e153_113, e153_116, e153_117, e153_119, e153_122, e153_125, e153_126, e153_129, e153_130, e153_131, e153_132, e153_135, e153_136, e153_137, e153_140, e153_141, e153_144, ct_i, ct_r, ct_n, ct_h, opt_v, opt_s, ref_s, ref_n, eq_self_iff_true, true_or, or_true, zl0, zl1, zl2, zl3, zl4, zl5, zl6, zl7, zl8, zl9, zl10, zl16, zl32, zl40, zl100, zl160, zIc1, zI_lt, zI_le, nI_eq, nI_add, z_sub, nI_clamp, zI_of, uu_eq, uu_ne, Nat.reduceLT, Nat.reduceLeDiff, Nat.reduceEqDiff, Nat.reduceAdd, Nat.reduceSub, Nat.reduceMul, Nat.not_lt_zero, Nat.lt_irrefl, Nat.le_refl, Bool.false_eq_true, false_and, and_false, true_and, and_true, if_pos, if_neg, if_true, if_false, not_true_eq_false, not_false_eq_true, m0, h27, h24', e45, k154p (show 1 ≤ d by omega) hM hP (show 45 < 128 by decide), k154p (show 1 ≤ d by omega) hM hP (show 40 < 128 by decide), ht]
  refine k149p (show 5 ≤ d by omega) hM hP (by omega) (fun I' hP' => ?_)
  simp (disch := first | assumption | exact ct_i | exact ct_r | exact ct_n | exact ct_h | omega | exact z_in (by omega) (by omega) | exact b01 | exact Or.inl rfl | exact Or.inr rfl) only [e153_0, e153_1, e153_4, e153_7, e153_8, e153_9, e153_12, e153_13, e153_16, e153_17, e153_20, e153_21, e153_24, e153_25, e153_26, e153_29, e153_30, e153_33, e153_34, e153_37, e153_40, e153_41, e153_42, e153_45, e153_46, e153_49, e153_50, e153_53, e153_54, e153_55, e153_57, e153_60, e153_61, e153_62, e153_65, e153_66, e153_68, e153_71, e153_74, e153_75, e153_78, e153_79, e153_80, e153_83, e153_86, e153_87, e153_88, e153_91, e153_92, e153_95, e153_96, e153_98, e153_101, e153_102, e153_103, e153_106, e153_107, e153_108, e153_111, e153_112, e153_113, e153_116, e153_117, e153_119, e153_122, e153_125, e153_126, e153_129, e153_130, e153_131, e153_132, e153_135, e153_136, e153_137, e153_140, e153_141, e153_144, ct_i, ct_r, ct_n, ct_h, opt_v, opt_s, ref_s, ref_n, eq_self_iff_true, true_or, or_true, zl0, zl1, zl2, zl3, zl4, zl5, zl6, zl7, zl8, zl9, zl10, zl16, zl32, zl40, zl100, zl160, zIc1, zI_lt, zI_le, nI_eq, nI_add, z_sub, nI_clamp, zI_of, uu_eq, uu_ne, Nat.reduceLT, Nat.reduceLeDiff, Nat.reduceEqDiff, Nat.reduceAdd, Nat.reduceSub, Nat.reduceMul, Nat.not_lt_zero, Nat.lt_irrefl, Nat.le_refl, Bool.false_eq_true, false_and, and_false, true_and, and_true, if_pos, if_neg, if_true, if_false, not_true_eq_false, not_false_eq_true, m0]
  refine g1 (by omega) d I' _ (by simp only [kD, Nat.reduceSub, Nat.reduceEqDiff, if_true, if_false] at hd ⊢; omega) (by omega) hP' (fun I2 hP2 => ?_)
  rw [pQ_f] at hP2
  obtain ⟨e, hW, he⟩ := hP2
  simp (disch := first | assumption | exact ct_i | exact ct_r | exact ct_n | exact ct_h | omega | exact z_in (by omega) (by omega) | exact b01 | exact Or.inl rfl | exact Or.inr rfl) only [e153_0, e153_1, e153_4, e153_7, e153_8, e153_9, e153_12, e153_13, e153_16, e153_17, e153_20, e153_21, e153_24, e153_25, e153_26, e153_29, e153_30, e153_33, e153_34, e153_37, e153_40, e153_41, e153_42, e153_45, e153_46, e153_49, e153_50, e153_53, e153_54, e153_55, e153_57, e153_60, e153_61, e153_62, e153_65, e153_66, e153_68, e153_71, e153_74, e153_75, e153_78, e153_79, e153_80, e153_83, e153_86, e153_87, e153_88, e153_91, e153_92, e153_95, e153_96, e153_98, e153_101, e153_102, e153_103, e153_106, e153_107, e153_108, e153_111, e153_112, e153_113, e153_116, e153_117, e153_119, e153_122, e153_125, e153_126, e153_129, e153_130, e153_131, e153_132, e153_135, e153_136, e153_137, e153_140, e153_141, e153_144, ct_i, ct_r, ct_n, ct_h, opt_v, opt_s, ref_s, ref_n, eq_self_iff_true, true_or, or_true, zl0, zl1, zl2, zl3, zl4, zl5, zl6, zl7, zl8, zl9, zl10, zl16, zl32, zl40, zl100, zl160, zIc1, zI_lt, zI_le, nI_eq, nI_add, z_sub, nI_clamp, zI_of, uu_eq, uu_ne, Nat.reduceLT, Nat.reduceLeDiff, Nat.reduceEqDiff, Nat.reduceAdd, Nat.reduceSub, Nat.reduceMul, Nat.not_lt_zero, Nat.lt_irrefl, Nat.le_refl, Bool.false_eq_true, false_and, and_false, true_and, and_true, if_pos, if_neg, if_true, if_false, not_true_eq_false, not_false_eq_true, m0]
  refine k150w (show 1 ≤ d by omega) hM hi hW (show e < 170 by omega) (fun I3 hW3 => ?_)
  simp (disch := first | assumption | exact ct_i | exact ct_r | exact ct_n | exact ct_h | omega | exact z_in (by omega) (by omega) | exact b01 | exact Or.inl rfl | exact Or.inr rfl) only [e153_0, e153_1, e153_4, e153_7, e153_8, e153_9, e153_12, e153_13, e153_16, e153_17, e153_20, e153_21, e153_24, e153_25, e153_26, e153_29, e153_30, e153_33, e153_34, e153_37, e153_40, e153_41, e153_42, e153_45, e153_46, e153_49, e153_50, e153_53, e153_54, e153_55, e153_57, e153_60, e153_61, e153_62, e153_65, e153_66, e153_68, e153_71, e153_74, e153_75, e153_78, e153_79, e153_80, e153_83, e153_86, e153_87, e153_88, e153_91, e153_92, e153_95, e153_96, e153_98, e153_101, e153_102, e153_103, e153_106, e153_107, e153_108, e153_111, e153_112, e153_113, e153_116, e153_117, e153_119, e153_122, e153_125, e153_126, e153_129, e153_130, e153_131, e153_132, e153_135, e153_136, e153_137, e153_140, e153_141, e153_144, ct_i, ct_r, ct_n, ct_h, opt_v, opt_s, ref_s, ref_n, eq_self_iff_true, true_or, or_true, zl0, zl1, zl2, zl3, zl4, zl5, zl6, zl7, zl8, zl9, zl10, zl16, zl32, zl40, zl100, zl160, zIc1, zI_lt, zI_le, nI_eq, nI_add, z_sub, nI_clamp, zI_of, uu_eq, uu_ne, Nat.reduceLT, Nat.reduceLeDiff, Nat.reduceEqDiff, Nat.reduceAdd, Nat.reduceSub, Nat.reduceMul, Nat.not_lt_zero, Nat.lt_irrefl, Nat.le_refl, Bool.false_eq_true, false_and, and_false, true_and, and_true, if_pos, if_neg, if_true, if_false, not_true_eq_false, not_false_eq_true, m0]
  exact H _ (pQ_f.mpr ⟨e + 1, pW_op hW3, by omega⟩)

theorem u19 (hM : mK sh R) (hs160 : s ≤ 160) (hi : i < 6) {o p : Nat} {c : List Nat} {p1 : Nat} {c1 : List Nat} (hp : p ≤ s) (ht : tk tp s p = 40) (h5 : ¬ 5 ≤ o) (B : Bd s (nx tp s p) c p1 c1) (g1 : CM tp s i n t sh I0 L R 0 (o + 1) (nx tp s p) c true p1 c1) (ht1 : tk tp s p1 = 41) : CM tp s i n t sh I0 L R 10 o p c true (nx tp s p1) c1 := by
  rw [CM_c (by decide)]
  rw [CM_c (by decide)] at g1
  have m0 := mm_0 hM
  have e45 : (45 : Int32) = nI 45 := rfl
  have e60 : (60 : Int32) = nI 60 := rfl
  have e61 : (61 : Int32) = nI 61 := rfl
  have e41 : (41 : Int32) = nI 41 := rfl
  intro ho d I Q hd hc hP H
  simp only [kD, Nat.reduceEqDiff, if_true, if_false] at hd
  obtain ⟨B1, B2, B3, B4⟩ := B
  show aC d 153 _ _ _
  obtain ⟨d, rfl⟩ : ∃ e, d = e + 1 := ⟨d - 1, by omega⟩
  have hT := tk_lt (tp := tp) (s := s) (p := p)
  have hps := hP.1.1
  have h27 := hP.2.2.1
  have h24 := hP.1.2.2.2.1
  have hlt := tk_ne (tp := tp) (s := s) (p := p) (by omega)
  have hnx := nx_gt (tp := tp) hlt
  have h24' : I 0 24 = nI 4 := by rw [h24, ht]; rfl
  have ne : ¬ (40 : Nat) = 45 := by decide
  simp (disch := first | assumption | exact ct_i | exact ct_r | exact ct_n | exact ct_h | omega | exact z_in (by omega) (by omega) | exact b01 | exact Or.inl rfl | exact Or.inr rfl) only [b153, e153_0, e153_1, e153_4, e153_7, e153_8, e153_9, e153_12, e153_13, e153_16, e153_17, e153_20, e153_21, e153_24, e153_25, e153_26, e153_29, e153_30, e153_33, e153_34, e153_37, e153_40, e153_41, e153_42, e153_45, e153_46, e153_49, e153_50, e153_53, e153_54, e153_55, e153_57, e153_60, e153_61, e153_62, e153_65, e153_66, e153_68, e153_71, e153_74, e153_75, e153_78, e153_79, e153_80, e153_83, e153_86, e153_87, e153_88, e153_91, e153_92, e153_95, e153_96, e153_98, e153_101, e153_102, e153_103, e153_106, e153_107, e153_108, e153_111, e153_112, e153_113, e153_116, e153_117, e153_119, e153_122, e153_125, e153_126, e153_129, e153_130, e153_131, e153_132, e153_135, e153_136, e153_137, e153_140, e153_141, e153_144, ct_i, ct_r, ct_n, ct_h, opt_v, opt_s, ref_s, ref_n, eq_self_iff_true, true_or, or_true, zl0, zl1, zl2, zl3, zl4, zl5, zl6, zl7, zl8, zl9, zl10, zl16, zl32, zl40, zl100, zl160, zIc1, zI_lt, zI_le, nI_eq, nI_add, z_sub, nI_clamp, zI_of, uu_eq, uu_ne, Nat.reduceLT, Nat.reduceLeDiff, Nat.reduceEqDiff, Nat.reduceAdd, Nat.reduceSub, Nat.reduceMul, Nat.not_lt_zero, Nat.lt_irrefl, Nat.le_refl, Bool.false_eq_true, false_and, and_false, true_and, and_true, if_pos, if_neg, if_true, if_false, not_true_eq_false, not_false_eq_true, m0, h27, h24', e45, k154p (show 1 ≤ d by omega) hM hP (show 45 < 128 by decide), k154p (show 1 ≤ d by omega) hM hP (show 40 < 128 by decide), ht]
  refine k149p (show 5 ≤ d by omega) hM hP (by omega) (fun I' hP' => ?_)
  simp (disch := first | assumption | exact ct_i | exact ct_r | exact ct_n | exact ct_h | omega | exact z_in (by omega) (by omega) | exact b01 | exact Or.inl rfl | exact Or.inr rfl) only [e153_0, e153_1, e153_4, e153_7, e153_8, e153_9, e153_12, e153_13, e153_16, e153_17, e153_20, e153_21, e153_24, e153_25, e153_26, e153_29, e153_30, e153_33, e153_34, e153_37, e153_40, e153_41, e153_42, e153_45, e153_46, e153_49, e153_50, e153_53, e153_54, e153_55, e153_57, e153_60, e153_61, e153_62, e153_65, e153_66, e153_68, e153_71, e153_74, e153_75, e153_78, e153_79, e153_80, e153_83, e153_86, e153_87, e153_88, e153_91, e153_92, e153_95, e153_96, e153_98, e153_101, e153_102, e153_103, e153_106, e153_107, e153_108, e153_111, e153_112, e153_113, e153_116, e153_117, e153_119, e153_122, e153_125, e153_126, e153_129, e153_130, e153_131, e153_132, e153_135, e153_136, e153_137, e153_140, e153_141, e153_144, ct_i, ct_r, ct_n, ct_h, opt_v, opt_s, ref_s, ref_n, eq_self_iff_true, true_or, or_true, zl0, zl1, zl2, zl3, zl4, zl5, zl6, zl7, zl8, zl9, zl10, zl16, zl32, zl40, zl100, zl160, zIc1, zI_lt, zI_le, nI_eq, nI_add, z_sub, nI_clamp, zI_of, uu_eq, uu_ne, Nat.reduceLT, Nat.reduceLeDiff, Nat.reduceEqDiff, Nat.reduceAdd, Nat.reduceSub, Nat.reduceMul, Nat.not_lt_zero, Nat.lt_irrefl, Nat.le_refl, Bool.false_eq_true, false_and, and_false, true_and, and_true, if_pos, if_neg, if_true, if_false, not_true_eq_false, not_false_eq_true, m0]
  refine g1 (by omega) d I' _ (by simp only [kD, Nat.reduceSub, Nat.reduceEqDiff, if_true, if_false] at hd ⊢; omega) (by omega) hP' (fun I2 hP2 => ?_)
  have hT1 := tk_lt (tp := tp) (s := s) (p := p1)
  rw [pQ_t] at hP2
  have h26 := hP2.2.2.2.2.1
  have eo : nI (o + 1) - nI 1 = nI o := by rw [z_sub (by omega), Nat.add_sub_cancel]
  simp (disch := first | assumption | exact ct_i | exact ct_r | exact ct_n | exact ct_h | omega | exact z_in (by omega) (by omega) | exact b01 | exact Or.inl rfl | exact Or.inr rfl) only [e153_0, e153_1, e153_4, e153_7, e153_8, e153_9, e153_12, e153_13, e153_16, e153_17, e153_20, e153_21, e153_24, e153_25, e153_26, e153_29, e153_30, e153_33, e153_34, e153_37, e153_40, e153_41, e153_42, e153_45, e153_46, e153_49, e153_50, e153_53, e153_54, e153_55, e153_57, e153_60, e153_61, e153_62, e153_65, e153_66, e153_68, e153_71, e153_74, e153_75, e153_78, e153_79, e153_80, e153_83, e153_86, e153_87, e153_88, e153_91, e153_92, e153_95, e153_96, e153_98, e153_101, e153_102, e153_103, e153_106, e153_107, e153_108, e153_111, e153_112, e153_113, e153_116, e153_117, e153_119, e153_122, e153_125, e153_126, e153_129, e153_130, e153_131, e153_132, e153_135, e153_136, e153_137, e153_140, e153_141, e153_144, ct_i, ct_r, ct_n, ct_h, opt_v, opt_s, ref_s, ref_n, eq_self_iff_true, true_or, or_true, zl0, zl1, zl2, zl3, zl4, zl5, zl6, zl7, zl8, zl9, zl10, zl16, zl32, zl40, zl100, zl160, zIc1, zI_lt, zI_le, nI_eq, nI_add, z_sub, nI_clamp, zI_of, uu_eq, uu_ne, Nat.reduceLT, Nat.reduceLeDiff, Nat.reduceEqDiff, Nat.reduceAdd, Nat.reduceSub, Nat.reduceMul, Nat.not_lt_zero, Nat.lt_irrefl, Nat.le_refl, Bool.false_eq_true, false_and, and_false, true_and, and_true, if_pos, if_neg, if_true, if_false, not_true_eq_false, not_false_eq_true, m0, e41, k154p (show 1 ≤ d by omega) hM hP2 (show 41 < 128 by decide), ht1, h26, eo]
  refine k138p (show 4 ≤ d by omega) hM (pO_op hP2) (fun I3 hP3 => ?_)
  simp (disch := first | assumption | exact ct_i | exact ct_r | exact ct_n | exact ct_h | omega | exact z_in (by omega) (by omega) | exact b01 | exact Or.inl rfl | exact Or.inr rfl) only [e153_0, e153_1, e153_4, e153_7, e153_8, e153_9, e153_12, e153_13, e153_16, e153_17, e153_20, e153_21, e153_24, e153_25, e153_26, e153_29, e153_30, e153_33, e153_34, e153_37, e153_40, e153_41, e153_42, e153_45, e153_46, e153_49, e153_50, e153_53, e153_54, e153_55, e153_57, e153_60, e153_61, e153_62, e153_65, e153_66, e153_68, e153_71, e153_74, e153_75, e153_78, e153_79, e153_80, e153_83, e153_86, e153_87, e153_88, e153_91, e153_92, e153_95, e153_96, e153_98, e153_101, e153_102, e153_103, e153_106, e153_107, e153_108, e153_111, e153_112, e153_113, e153_116, e153_117, e153_119, e153_122, e153_125, e153_126, e153_129, e153_130, e153_131, e153_132, e153_135, e153_136, e153_137, e153_140, e153_141, e153_144, ct_i, ct_r, ct_n, ct_h, opt_v, opt_s, ref_s, ref_n, eq_self_iff_true, true_or, or_true, zl0, zl1, zl2, zl3, zl4, zl5, zl6, zl7, zl8, zl9, zl10, zl16, zl32, zl40, zl100, zl160, zIc1, zI_lt, zI_le, nI_eq, nI_add, z_sub, nI_clamp, zI_of, uu_eq, uu_ne, Nat.reduceLT, Nat.reduceLeDiff, Nat.reduceEqDiff, Nat.reduceAdd, Nat.reduceSub, Nat.reduceMul, Nat.not_lt_zero, Nat.lt_irrefl, Nat.le_refl, Bool.false_eq_true, false_and, and_false, true_and, and_true, if_pos, if_neg, if_true, if_false, not_true_eq_false, not_false_eq_true, m0]
  exact H I3 (pQ_t.mpr hP3)

theorem u20 (hM : mK sh R) (hs160 : s ≤ 160) (hi : i < 6) {o p : Nat} {c : List Nat} {p1 : Nat} {c1 : List Nat} (hp : p ≤ s) (ht : tk tp s p = 40) (h5 : ¬ 5 ≤ o) (B : Bd s (nx tp s p) c p1 c1) (g1 : CM tp s i n t sh I0 L R 0 (o + 1) (nx tp s p) c true p1 c1) (ht1 : ¬ tk tp s p1 = 41) : CM tp s i n t sh I0 L R 10 o p c false p1 c1 := by
  rw [CM_c (by decide)]
  rw [CM_c (by decide)] at g1
  have m0 := mm_0 hM
  have e45 : (45 : Int32) = nI 45 := rfl
  have e60 : (60 : Int32) = nI 60 := rfl
  have e61 : (61 : Int32) = nI 61 := rfl
  have e41 : (41 : Int32) = nI 41 := rfl
  intro ho d I Q hd hc hP H
  simp only [kD, Nat.reduceEqDiff, if_true, if_false] at hd
  obtain ⟨B1, B2, B3, B4⟩ := B
  show aC d 153 _ _ _
  obtain ⟨d, rfl⟩ : ∃ e, d = e + 1 := ⟨d - 1, by omega⟩
  have hT := tk_lt (tp := tp) (s := s) (p := p)
  have hps := hP.1.1
  have h27 := hP.2.2.1
  have h24 := hP.1.2.2.2.1
  have hlt := tk_ne (tp := tp) (s := s) (p := p) (by omega)
  have hnx := nx_gt (tp := tp) hlt
  have h24' : I 0 24 = nI 4 := by rw [h24, ht]; rfl
  have ne : ¬ (40 : Nat) = 45 := by decide
  simp (disch := first | assumption | exact ct_i | exact ct_r | exact ct_n | exact ct_h | omega | exact z_in (by omega) (by omega) | exact b01 | exact Or.inl rfl | exact Or.inr rfl) only [b153, e153_0, e153_1, e153_4, e153_7, e153_8, e153_9, e153_12, e153_13, e153_16, e153_17, e153_20, e153_21, e153_24, e153_25, e153_26, e153_29, e153_30, e153_33, e153_34, e153_37, e153_40, e153_41, e153_42, e153_45, e153_46, e153_49, e153_50, e153_53, e153_54, e153_55, e153_57, e153_60, e153_61, e153_62, e153_65, e153_66, e153_68, e153_71, e153_74, e153_75, e153_78, e153_79, e153_80, e153_83, e153_86, e153_87, e153_88, e153_91, e153_92, e153_95, e153_96, e153_98, e153_101, e153_102, e153_103, e153_106, e153_107, e153_108, e153_111, e153_112, e153_113, e153_116, e153_117, e153_119, e153_122, e153_125, e153_126, e153_129, e153_130, e153_131, e153_132, e153_135, e153_136, e153_137, e153_140, e153_141, e153_144, ct_i, ct_r, ct_n, ct_h, opt_v, opt_s, ref_s, ref_n, eq_self_iff_true, true_or, or_true, zl0, zl1, zl2, zl3, zl4, zl5, zl6, zl7, zl8, zl9, zl10, zl16, zl32, zl40, zl100, zl160, zIc1, zI_lt, zI_le, nI_eq, nI_add, z_sub, nI_clamp, zI_of, uu_eq, uu_ne, Nat.reduceLT, Nat.reduceLeDiff, Nat.reduceEqDiff, Nat.reduceAdd, Nat.reduceSub, Nat.reduceMul, Nat.not_lt_zero, Nat.lt_irrefl, Nat.le_refl, Bool.false_eq_true, false_and, and_false, true_and, and_true, if_pos, if_neg, if_true, if_false, not_true_eq_false, not_false_eq_true, m0, h27, h24', e45, k154p (show 1 ≤ d by omega) hM hP (show 45 < 128 by decide), k154p (show 1 ≤ d by omega) hM hP (show 40 < 128 by decide), ht]
  refine k149p (show 5 ≤ d by omega) hM hP (by omega) (fun I' hP' => ?_)
  simp (disch := first | assumption | exact ct_i | exact ct_r | exact ct_n | exact ct_h | omega | exact z_in (by omega) (by omega) | exact b01 | exact Or.inl rfl | exact Or.inr rfl) only [e153_0, e153_1, e153_4, e153_7, e153_8, e153_9, e153_12, e153_13, e153_16, e153_17, e153_20, e153_21, e153_24, e153_25, e153_26, e153_29, e153_30, e153_33, e153_34, e153_37, e153_40, e153_41, e153_42, e153_45, e153_46, e153_49, e153_50, e153_53, e153_54, e153_55, e153_57, e153_60, e153_61, e153_62, e153_65, e153_66, e153_68, e153_71, e153_74, e153_75, e153_78, e153_79, e153_80, e153_83, e153_86, e153_87, e153_88, e153_91, e153_92, e153_95, e153_96, e153_98, e153_101, e153_102, e153_103, e153_106, e153_107, e153_108, e153_111, e153_112, e153_113, e153_116, e153_117, e153_119, e153_122, e153_125, e153_126, e153_129, e153_130, e153_131, e153_132, e153_135, e153_136, e153_137, e153_140, e153_141, e153_144, ct_i, ct_r, ct_n, ct_h, opt_v, opt_s, ref_s, ref_n, eq_self_iff_true, true_or, or_true, zl0, zl1, zl2, zl3, zl4, zl5, zl6, zl7, zl8, zl9, zl10, zl16, zl32, zl40, zl100, zl160, zIc1, zI_lt, zI_le, nI_eq, nI_add, z_sub, nI_clamp, zI_of, uu_eq, uu_ne, Nat.reduceLT, Nat.reduceLeDiff, Nat.reduceEqDiff, Nat.reduceAdd, Nat.reduceSub, Nat.reduceMul, Nat.not_lt_zero, Nat.lt_irrefl, Nat.le_refl, Bool.false_eq_true, false_and, and_false, true_and, and_true, if_pos, if_neg, if_true, if_false, not_true_eq_false, not_false_eq_true, m0]
  refine g1 (by omega) d I' _ (by simp only [kD, Nat.reduceSub, Nat.reduceEqDiff, if_true, if_false] at hd ⊢; omega) (by omega) hP' (fun I2 hP2 => ?_)
  have hT1 := tk_lt (tp := tp) (s := s) (p := p1)
  rw [pQ_t] at hP2
  simp (disch := first | assumption | exact ct_i | exact ct_r | exact ct_n | exact ct_h | omega | exact z_in (by omega) (by omega) | exact b01 | exact Or.inl rfl | exact Or.inr rfl) only [e153_0, e153_1, e153_4, e153_7, e153_8, e153_9, e153_12, e153_13, e153_16, e153_17, e153_20, e153_21, e153_24, e153_25, e153_26, e153_29, e153_30, e153_33, e153_34, e153_37, e153_40, e153_41, e153_42, e153_45, e153_46, e153_49, e153_50, e153_53, e153_54, e153_55, e153_57, e153_60, e153_61, e153_62, e153_65, e153_66, e153_68, e153_71, e153_74, e153_75, e153_78, e153_79, e153_80, e153_83, e153_86, e153_87, e153_88, e153_91, e153_92, e153_95, e153_96, e153_98, e153_101, e153_102, e153_103, e153_106, e153_107, e153_108, e153_111, e153_112, e153_113, e153_116, e153_117, e153_119, e153_122, e153_125, e153_126, e153_129, e153_130, e153_131, e153_132, e153_135, e153_136, e153_137, e153_140, e153_141, e153_144, ct_i, ct_r, ct_n, ct_h, opt_v, opt_s, ref_s, ref_n, eq_self_iff_true, true_or, or_true, zl0, zl1, zl2, zl3, zl4, zl5, zl6, zl7, zl8, zl9, zl10, zl16, zl32, zl40, zl100, zl160, zIc1, zI_lt, zI_le, nI_eq, nI_add, z_sub, nI_clamp, zI_of, uu_eq, uu_ne, Nat.reduceLT, Nat.reduceLeDiff, Nat.reduceEqDiff, Nat.reduceAdd, Nat.reduceSub, Nat.reduceMul, Nat.not_lt_zero, Nat.lt_irrefl, Nat.le_refl, Bool.false_eq_true, false_and, and_false, true_and, and_true, if_pos, if_neg, if_true, if_false, not_true_eq_false, not_false_eq_true, m0, e41, k154p (show 1 ≤ d by omega) hM hP2 (show 41 < 128 by decide), ht1]
  refine k145p (show 1 ≤ d by omega) hM hP2 (fun I3 hW => ?_)
  have q := H I3 (pQ_f.mpr ⟨_, hW, by omega⟩)
  simp (disch := first | assumption | exact ct_i | exact ct_r | exact ct_n | exact ct_h | omega | exact z_in (by omega) (by omega) | exact b01 | exact Or.inl rfl | exact Or.inr rfl) only [e153_0, e153_1, e153_4, e153_7, e153_8, e153_9, e153_12, e153_13, e153_16, e153_17, e153_20, e153_21, e153_24, e153_25, e153_26, e153_29, e153_30, e153_33, e153_34, e153_37, e153_40, e153_41, e153_42, e153_45, e153_46, e153_49, e153_50, e153_53, e153_54, e153_55, e153_57, e153_60, e153_61, e153_62, e153_65, e153_66, e153_68, e153_71, e153_74, e153_75, e153_78, e153_79, e153_80, e153_83, e153_86, e153_87, e153_88, e153_91, e153_92, e153_95, e153_96, e153_98, e153_101, e153_102, e153_103, e153_106, e153_107, e153_108, e153_111, e153_112, e153_113, e153_116, e153_117, e153_119, e153_122, e153_125, e153_126, e153_129, e153_130, e153_131, e153_132, e153_135, e153_136, e153_137, e153_140, e153_141, e153_144, ct_i, ct_r, ct_n, ct_h, opt_v, opt_s, ref_s, ref_n, eq_self_iff_true, true_or, or_true, zl0, zl1, zl2, zl3, zl4, zl5, zl6, zl7, zl8, zl9, zl10, zl16, zl32, zl40, zl100, zl160, zIc1, zI_lt, zI_le, nI_eq, nI_add, z_sub, nI_clamp, zI_of, uu_eq, uu_ne, Nat.reduceLT, Nat.reduceLeDiff, Nat.reduceEqDiff, Nat.reduceAdd, Nat.reduceSub, Nat.reduceMul, Nat.not_lt_zero, Nat.lt_irrefl, Nat.le_refl, Bool.false_eq_true, false_and, and_false, true_and, and_true, if_pos, if_neg, if_true, if_false, not_true_eq_false, not_false_eq_true]
  exact q

theorem u21 (hM : mK sh R) (hs160 : s ≤ 160) (hi : i < 6) {o p : Nat} {c : List Nat} {p1 : Nat} {c1 : List Nat} (hp : p ≤ s) (ht : tk tp s p = 40) (h5 : ¬ 5 ≤ o) (B : Bd s (nx tp s p) c p1 c1) (g1 : CM tp s i n t sh I0 L R 0 (o + 1) (nx tp s p) c false p1 c1) : CM tp s i n t sh I0 L R 10 o p c false p1 c1 := by
  rw [CM_c (by decide)]
  rw [CM_c (by decide)] at g1
  have m0 := mm_0 hM
  have e45 : (45 : Int32) = nI 45 := rfl
  have e60 : (60 : Int32) = nI 60 := rfl
  have e61 : (61 : Int32) = nI 61 := rfl
  have e41 : (41 : Int32) = nI 41 := rfl
  intro ho d I Q hd hc hP H
  simp only [kD, Nat.reduceEqDiff, if_true, if_false] at hd
  obtain ⟨B1, B2, B3, B4⟩ := B
  show aC d 153 _ _ _
  obtain ⟨d, rfl⟩ : ∃ e, d = e + 1 := ⟨d - 1, by omega⟩
  have hT := tk_lt (tp := tp) (s := s) (p := p)
  have hps := hP.1.1
  have h27 := hP.2.2.1
  have h24 := hP.1.2.2.2.1
  have hlt := tk_ne (tp := tp) (s := s) (p := p) (by omega)
  have hnx := nx_gt (tp := tp) hlt
  have h24' : I 0 24 = nI 4 := by rw [h24, ht]; rfl
  have ne : ¬ (40 : Nat) = 45 := by decide
  simp (disch := first | assumption | exact ct_i | exact ct_r | exact ct_n | exact ct_h | omega | exact z_in (by omega) (by omega) | exact b01 | exact Or.inl rfl | exact Or.inr rfl) only [b153, e153_0, e153_1, e153_4, e153_7, e153_8, e153_9, e153_12, e153_13, e153_16, e153_17, e153_20, e153_21, e153_24, e153_25, e153_26, e153_29, e153_30, e153_33, e153_34, e153_37, e153_40, e153_41, e153_42, e153_45, e153_46, e153_49, e153_50, e153_53, e153_54, e153_55, e153_57, e153_60, e153_61, e153_62, e153_65, e153_66, e153_68, e153_71, e153_74, e153_75, e153_78, e153_79, e153_80, e153_83, e153_86, e153_87, e153_88, e153_91, e153_92, e153_95, e153_96, e153_98, e153_101, e153_102, e153_103, e153_106, e153_107, e153_108, e153_111, e153_112, e153_113, e153_116, e153_117, e153_119, e153_122, e153_125, e153_126, e153_129, e153_130, e153_131, e153_132, e153_135, e153_136, e153_137, e153_140, e153_141, e153_144, ct_i, ct_r, ct_n, ct_h, opt_v, opt_s, ref_s, ref_n, eq_self_iff_true, true_or, or_true, zl0, zl1, zl2, zl3, zl4, zl5, zl6, zl7, zl8, zl9, zl10, zl16, zl32, zl40, zl100, zl160, zIc1, zI_lt, zI_le, nI_eq, nI_add, z_sub, nI_clamp, zI_of, uu_eq, uu_ne, Nat.reduceLT, Nat.reduceLeDiff, Nat.reduceEqDiff, Nat.reduceAdd, Nat.reduceSub, Nat.reduceMul, Nat.not_lt_zero, Nat.lt_irrefl, Nat.le_refl, Bool.false_eq_true, false_and, and_false, true_and, and_true, if_pos, if_neg, if_true, if_false, not_true_eq_false, not_false_eq_true, m0, h27, h24', e45, k154p (show 1 ≤ d by omega) hM hP (show 45 < 128 by decide), k154p (show 1 ≤ d by omega) hM hP (show 40 < 128 by decide), ht]
  refine k149p (show 5 ≤ d by omega) hM hP (by omega) (fun I' hP' => ?_)
  simp (disch := first | assumption | exact ct_i | exact ct_r | exact ct_n | exact ct_h | omega | exact z_in (by omega) (by omega) | exact b01 | exact Or.inl rfl | exact Or.inr rfl) only [e153_0, e153_1, e153_4, e153_7, e153_8, e153_9, e153_12, e153_13, e153_16, e153_17, e153_20, e153_21, e153_24, e153_25, e153_26, e153_29, e153_30, e153_33, e153_34, e153_37, e153_40, e153_41, e153_42, e153_45, e153_46, e153_49, e153_50, e153_53, e153_54, e153_55, e153_57, e153_60, e153_61, e153_62, e153_65, e153_66, e153_68, e153_71, e153_74, e153_75, e153_78, e153_79, e153_80, e153_83, e153_86, e153_87, e153_88, e153_91, e153_92, e153_95, e153_96, e153_98, e153_101, e153_102, e153_103, e153_106, e153_107, e153_108, e153_111, e153_112, e153_113, e153_116, e153_117, e153_119, e153_122, e153_125, e153_126, e153_129, e153_130, e153_131, e153_132, e153_135, e153_136, e153_137, e153_140, e153_141, e153_144, ct_i, ct_r, ct_n, ct_h, opt_v, opt_s, ref_s, ref_n, eq_self_iff_true, true_or, or_true, zl0, zl1, zl2, zl3, zl4, zl5, zl6, zl7, zl8, zl9, zl10, zl16, zl32, zl40, zl100, zl160, zIc1, zI_lt, zI_le, nI_eq, nI_add, z_sub, nI_clamp, zI_of, uu_eq, uu_ne, Nat.reduceLT, Nat.reduceLeDiff, Nat.reduceEqDiff, Nat.reduceAdd, Nat.reduceSub, Nat.reduceMul, Nat.not_lt_zero, Nat.lt_irrefl, Nat.le_refl, Bool.false_eq_true, false_and, and_false, true_and, and_true, if_pos, if_neg, if_true, if_false, not_true_eq_false, not_false_eq_true, m0]
  refine g1 (by omega) d I' _ (by simp only [kD, Nat.reduceSub, Nat.reduceEqDiff, if_true, if_false] at hd ⊢; omega) (by omega) hP' (fun I2 hP2 => ?_)
  have hT1 := tk_lt (tp := tp) (s := s) (p := p1)
  rw [pQ_f] at hP2
  obtain ⟨e, hW, he⟩ := hP2
  have q := H I2 (pQ_f.mpr ⟨e, hW, by omega⟩)
  simp (disch := first | assumption | exact ct_i | exact ct_r | exact ct_n | exact ct_h | omega | exact z_in (by omega) (by omega) | exact b01 | exact Or.inl rfl | exact Or.inr rfl) only [e153_0, e153_1, e153_4, e153_7, e153_8, e153_9, e153_12, e153_13, e153_16, e153_17, e153_20, e153_21, e153_24, e153_25, e153_26, e153_29, e153_30, e153_33, e153_34, e153_37, e153_40, e153_41, e153_42, e153_45, e153_46, e153_49, e153_50, e153_53, e153_54, e153_55, e153_57, e153_60, e153_61, e153_62, e153_65, e153_66, e153_68, e153_71, e153_74, e153_75, e153_78, e153_79, e153_80, e153_83, e153_86, e153_87, e153_88, e153_91, e153_92, e153_95, e153_96, e153_98, e153_101, e153_102, e153_103, e153_106, e153_107, e153_108, e153_111, e153_112, e153_113, e153_116, e153_117, e153_119, e153_122, e153_125, e153_126, e153_129, e153_130, e153_131, e153_132, e153_135, e153_136, e153_137, e153_140, e153_141, e153_144, ct_i, ct_r, ct_n, ct_h, opt_v, opt_s, ref_s, ref_n, eq_self_iff_true, true_or, or_true, zl0, zl1, zl2, zl3, zl4, zl5, zl6, zl7, zl8, zl9, zl10, zl16, zl32, zl40, zl100, zl160, zIc1, zI_lt, zI_le, nI_eq, nI_add, z_sub, nI_clamp, zI_of, uu_eq, uu_ne, Nat.reduceLT, Nat.reduceLeDiff, Nat.reduceEqDiff, Nat.reduceAdd, Nat.reduceSub, Nat.reduceMul, Nat.not_lt_zero, Nat.lt_irrefl, Nat.le_refl, Bool.false_eq_true, false_and, and_false, true_and, and_true, if_pos, if_neg, if_true, if_false, not_true_eq_false, not_false_eq_true, m0, e41, k154w (show 1 ≤ d by omega) hM hW]
  refine k145w (show 1 ≤ d by omega) hM hW ?_
  simp (disch := first | assumption | exact ct_i | exact ct_r | exact ct_n | exact ct_h | omega | exact z_in (by omega) (by omega) | exact b01 | exact Or.inl rfl | exact Or.inr rfl) only [e153_0, e153_1, e153_4, e153_7, e153_8, e153_9, e153_12, e153_13, e153_16, e153_17, e153_20, e153_21, e153_24, e153_25, e153_26, e153_29, e153_30, e153_33, e153_34, e153_37, e153_40, e153_41, e153_42, e153_45, e153_46, e153_49, e153_50, e153_53, e153_54, e153_55, e153_57, e153_60, e153_61, e153_62, e153_65, e153_66, e153_68, e153_71, e153_74, e153_75, e153_78, e153_79, e153_80, e153_83, e153_86, e153_87, e153_88, e153_91, e153_92, e153_95, e153_96, e153_98, e153_101, e153_102, e153_103, e153_106, e153_107, e153_108, e153_111, e153_112, e153_113, e153_116, e153_117, e153_119, e153_122, e153_125, e153_126, e153_129, e153_130, e153_131, e153_132, e153_135, e153_136, e153_137, e153_140, e153_141, e153_144, ct_i, ct_r, ct_n, ct_h, opt_v, opt_s, ref_s, ref_n, eq_self_iff_true, true_or, or_true, zl0, zl1, zl2, zl3, zl4, zl5, zl6, zl7, zl8, zl9, zl10, zl16, zl32, zl40, zl100, zl160, zIc1, zI_lt, zI_le, nI_eq, nI_add, z_sub, nI_clamp, zI_of, uu_eq, uu_ne, Nat.reduceLT, Nat.reduceLeDiff, Nat.reduceEqDiff, Nat.reduceAdd, Nat.reduceSub, Nat.reduceMul, Nat.not_lt_zero, Nat.lt_irrefl, Nat.le_refl, Bool.false_eq_true, false_and, and_false, true_and, and_true, if_pos, if_neg, if_true, if_false, not_true_eq_false, not_false_eq_true]
  exact q

theorem par_m (hM : mK sh R) (hs160 : s ≤ 160) (hi : i < 6) : ∀ f lv o p c b p1 c1, lv < 11 → p ≤ s → pr tp s f lv o p c = some (b, p1, c1) → CM tp s i n t sh I0 L R lv o p c b p1 c1 := by
  refine pr_ind2 ?_ ?_ ?_ ?_ ?_ ?_ ?_ ?_ ?_ ?_ ?_ ?_ ?_ ?_ ?_ ?_ ?_ ?_ ?_ ?_ ?_
  · intro lv o p c p1 c1 b p2 c2 hp hb g1 g2
    rcases hb with rfl | rfl | rfl | rfl
    · exact u1_0 hM hs160 hi g1.1 g1.2 g2.2
    · exact u1_2 hM hs160 hi g1.1 g1.2 g2.2
    · exact u1_4 hM hs160 hi g1.1 g1.2 g2.2
    · exact u1_6 hM hs160 hi g1.1 g1.2 g2.2
  · intro lv o p c p1 c1 hp hb g1
    rcases hb with rfl | rfl | rfl | rfl
    · exact u2_0 hM hs160 hi g1.1 g1.2
    · exact u2_2 hM hs160 hi g1.1 g1.2
    · exact u2_4 hM hs160 hi g1.1 g1.2
    · exact u2_6 hM hs160 hi g1.1 g1.2
  · intro lv o p c hp hb ho
    rcases hb with rfl | rfl | rfl | rfl
    · exact u3_0 hM hs160 hi ho
    · exact u3_2 hM hs160 hi ho
    · exact u3_4 hM hs160 hi ho
    · exact u3_6 hM hs160 hi ho
  · intro lv o p c k p1 c1 b p2 c2 hp hb ho g1 g2
    rcases hb with rfl | rfl | rfl | rfl
    · exact u4_0 hM hs160 hi hp ho g1.1 g1.2 g2.2
    · exact u4_2 hM hs160 hi hp ho g1.1 g1.2 g2.2
    · exact u4_4 hM hs160 hi hp ho g1.1 g1.2 g2.2
    · exact u4_6 hM hs160 hi hp ho g1.1 g1.2 g2.2
  · intro lv o p c k p1 c1 hp hb ho g1
    rcases hb with rfl | rfl | rfl | rfl
    · exact u5_0 hM hs160 hi hp ho g1.1 g1.2
    · exact u5_2 hM hs160 hi hp ho g1.1 g1.2
    · exact u5_4 hM hs160 hi hp ho g1.1 g1.2
    · exact u5_6 hM hs160 hi hp ho g1.1 g1.2
  · intro o p c hp t h; exact u6 hM hs160 hi t h
  · intro o p c p1 c1 hp t h g; exact u7 hM hs160 hi hp t h g.1 g.2
  · intro o p c p1 c1 hp t h g; exact u8 hM hs160 hi hp t h g.1 g.2
  · intro o p c b p1 c1 hp t g; exact u9 hM hs160 hi t g.2
  · intro o p c p1 c1 hp g; exact u10 hM hs160 hi g.2
  · intro o p c p1 c1 hp g t; exact u11 hM hs160 hi g.2 t
  · intro o p c p1 c1 p2 c2 hp g t g2; exact u12 hM hs160 hi g.1 g.2 t g2.1 g2.2
  · intro o p c p1 c1 p2 c2 hp g t g2; exact u13 hM hs160 hi g.1 g.2 t g2.1 g2.2
  · intro o p c hp t; exact u14 hM hs160 hi hp t
  · intro o p c j hp hj t; exact u15 hM hs160 hi hp hj t
  · intro o p c hp t1 t2 t3; exact u16 hM hs160 hi t1 t2 t3
  · intro o p c p1 c1 hp t h g; exact u17 hM hs160 hi hp t h g.1 g.2
  · intro o p c p1 c1 hp t h g; exact u18 hM hs160 hi hp t h g.1 g.2
  · intro o p c p1 c1 hp t h g t1; exact u19 hM hs160 hi hp t h g.1 g.2 t1
  · intro o p c p1 c1 hp t h g t1; exact u20 hM hs160 hi hp t h g.1 g.2 t1
  · intro o p c p1 c1 hp t h g; exact u21 hM hs160 hi hp t h g.1 g.2
end
