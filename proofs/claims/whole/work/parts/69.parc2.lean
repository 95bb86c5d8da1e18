section
variable {tp : Nat → Nat} {s i nd : Nat} {n t : Nat} {sh : Nat → Nat × Nat} {I0 : Nat → Nat → Int32} {L : Nat → Nat → Int64} {R : Nat → Nat → Option Nat}

theorem q6 (hK : cK nd sh R) (hs : ∀ x, 1000000 ≤ x → sh x = (999, 0)) (hi : i < 6) {o p : Nat} {c : List Nat} (ht : tk tp s p = 311) (h5 : 5 ≤ o) : CG tp s i n t sh I0 L R 8 o p c false p c := by
  rw [CG_c (by decide)]
  obtain ⟨s1, s2, s3, s4⟩ := cPq hK
  have sT := (cPt hK hi).1
  have e311 : (311 : Int32) = nI 311 := rfl
  have e60 : (60 : Int32) = nI 60 := rfl
  have e61 : (61 : Int32) = nI 61 := rfl
  have e258 : (258 : Int32) = nI 258 := rfl
  have e300 : (300 : Int32) = nI 300 := rfl
  have e306 : (306 : Int32) = nI 306 := rfl
  have e45 : (45 : Int32) = nI 45 := rfl
  have e40 : (40 : Int32) = nI 40 := rfl
  have e41 : (41 : Int32) = nI 41 := rfl
  have e5 : (5 : Int32) = nI 5 := rfl
  intro ho d I Q hd hc hP H
  simp only [kD, Nat.reduceEqDiff, if_true, if_false] at hd
  show aC d 37 _ _ _
  obtain ⟨d, rfl⟩ : ∃ e, d = e + 1 := ⟨d - 1, by omega⟩
  have hT := tk_lt (tp := tp) (s := s) (p := p)
  have h3 := hP.1.2.2.1
  have h160 := hP.2.1.1
  have hps := hP.1.1
  have := H I hP
  simp (disch := first | assumption | exact ct_i | exact ct_r | exact ct_n | exact ct_h | omega | exact z_in (by omega) (by omega) | exact b01 | exact Or.inl rfl | exact Or.inr rfl) only [Bool.false_eq_true, if_false] at this
  simp (disch := first | assumption | exact ct_i | exact ct_r | exact ct_n | exact ct_h | omega | exact z_in (by omega) (by omega) | exact b01 | exact Or.inl rfl | exact Or.inr rfl) only [b37, e37_0, e37_1, e37_4, e37_7, e37_10, e37_11, e37_11n, e37_12, e37_13, e37_16, e37_17, e37_18, e37_19, e37_22, e37_23, e37_24, e37_25, e37_28, e37_29, e37_29n, e37_30, e37_31, e37_32, e37_33, e37_36, e37_39, e37_40, e37_41, e37_41n, e37_42, e37_44, e37_47, e37_48, ct_i, ct_r, ct_n, ct_h, opt_v, opt_s, ref_s, ref_n, eq_self_iff_true, true_or, or_true, zl0, zl1, zl2, zl3, zl4, zl5, zl6, zl7, zl8, zl9, zl10, zl16, zl32, zl40, zl100, zl160, zIc1, zI_lt, zI_le, nI_eq, nI_add, z_sub, nI_clamp, zI_of, uu_eq, uu_ne, Nat.reduceLT, Nat.reduceLeDiff, Nat.reduceEqDiff, Nat.reduceAdd, Nat.reduceSub, Nat.reduceMul, Nat.not_lt_zero, Nat.lt_irrefl, Nat.le_refl, Bool.false_eq_true, false_and, and_false, true_and, and_true, if_pos, if_neg, if_true, if_false, not_true_eq_false, not_false_eq_true, s1, h3, ht, e311, e5]
  exact this

theorem q7 (hK : cK nd sh R) (hs : ∀ x, 1000000 ≤ x → sh x = (999, 0)) (hi : i < 6) {o p : Nat} {c : List Nat} {p1 : Nat} {c1 : List Nat} (hp : p ≤ s) (ht : tk tp s p = 311) (h5 : ¬ 5 ≤ o) (B : Bd s (nx tp s p) c p1 c1) (g1 : CG tp s i n t sh I0 L R 8 (o + 1) (nx tp s p) c true p1 c1) : CG tp s i n t sh I0 L R 8 o p c true p1 (c1 ++ [10007]) := by
  rw [CG_c (by decide)] at g1 ⊢
  obtain ⟨s1, s2, s3, s4⟩ := cPq hK
  have sT := (cPt hK hi).1
  have e311 : (311 : Int32) = nI 311 := rfl
  have e60 : (60 : Int32) = nI 60 := rfl
  have e61 : (61 : Int32) = nI 61 := rfl
  have e258 : (258 : Int32) = nI 258 := rfl
  have e300 : (300 : Int32) = nI 300 := rfl
  have e306 : (306 : Int32) = nI 306 := rfl
  have e45 : (45 : Int32) = nI 45 := rfl
  have e40 : (40 : Int32) = nI 40 := rfl
  have e41 : (41 : Int32) = nI 41 := rfl
  have e5 : (5 : Int32) = nI 5 := rfl
  intro ho d I Q hd hc hP H
  simp only [kD, Nat.reduceEqDiff, if_true, if_false] at hd
  obtain ⟨B1, B2, B3, B4⟩ := B
  show aC d 37 _ _ _
  obtain ⟨d, rfl⟩ : ∃ e, d = e + 1 := ⟨d - 1, by omega⟩
  have hT := tk_lt (tp := tp) (s := s) (p := p)
  have h3 := hP.1.2.2.1
  have h160 := hP.2.1.1
  have hps := hP.1.1
  have hlt := tk_ne (tp := tp) (s := s) (p := p) (by omega)
  have hnx := nx_gt (tp := tp) hlt
  simp (disch := first | assumption | exact ct_i | exact ct_r | exact ct_n | exact ct_h | omega | exact z_in (by omega) (by omega) | exact b01 | exact Or.inl rfl | exact Or.inr rfl) only [b37, e37_0, e37_1, e37_4, e37_7, e37_10, e37_11, e37_11n, e37_12, e37_13, e37_16, e37_17, e37_18, e37_19, e37_22, e37_23, e37_24, e37_25, e37_28, e37_29, e37_29n, e37_30, e37_31, e37_32, e37_33, e37_36, e37_39, e37_40, e37_41, e37_41n, e37_42, e37_44, e37_47, e37_48, ct_i, ct_r, ct_n, ct_h, opt_v, opt_s, ref_s, ref_n, eq_self_iff_true, true_or, or_true, zl0, zl1, zl2, zl3, zl4, zl5, zl6, zl7, zl8, zl9, zl10, zl16, zl32, zl40, zl100, zl160, zIc1, zI_lt, zI_le, nI_eq, nI_add, z_sub, nI_clamp, zI_of, uu_eq, uu_ne, Nat.reduceLT, Nat.reduceLeDiff, Nat.reduceEqDiff, Nat.reduceAdd, Nat.reduceSub, Nat.reduceMul, Nat.not_lt_zero, Nat.lt_irrefl, Nat.le_refl, Bool.false_eq_true, false_and, and_false, true_and, and_true, if_pos, if_neg, if_true, if_false, not_true_eq_false, not_false_eq_true, s1, h3, ht, e311, e5]
  refine k27p (by omega) hK hs hi hP (fun I' hP' => ?_)
  simp (disch := first | assumption | exact ct_i | exact ct_r | exact ct_n | exact ct_h | omega | exact z_in (by omega) (by omega) | exact b01 | exact Or.inl rfl | exact Or.inr rfl) only [e37_0, e37_1, e37_4, e37_7, e37_10, e37_11, e37_11n, e37_12, e37_13, e37_16, e37_17, e37_18, e37_19, e37_22, e37_23, e37_24, e37_25, e37_28, e37_29, e37_29n, e37_30, e37_31, e37_32, e37_33, e37_36, e37_39, e37_40, e37_41, e37_41n, e37_42, e37_44, e37_47, e37_48, ct_i, ct_r, ct_n, ct_h, opt_v, opt_s, ref_s, ref_n, eq_self_iff_true, true_or, or_true, zl0, zl1, zl2, zl3, zl4, zl5, zl6, zl7, zl8, zl9, zl10, zl16, zl32, zl40, zl100, zl160, zIc1, zI_lt, zI_le, nI_eq, nI_add, z_sub, nI_clamp, zI_of, uu_eq, uu_ne, Nat.reduceLT, Nat.reduceLeDiff, Nat.reduceEqDiff, Nat.reduceAdd, Nat.reduceSub, Nat.reduceMul, Nat.not_lt_zero, Nat.lt_irrefl, Nat.le_refl, Bool.false_eq_true, false_and, and_false, true_and, and_true, if_pos, if_neg, if_true, if_false, not_true_eq_false, not_false_eq_true, s1]
  refine g1 (by omega) d I' _ (by simp only [kD, Nat.reduceSub, Nat.reduceEqDiff, if_true, if_false] at hd ⊢; omega) (by omega) hP' (fun I2 hP2 => ?_)
  simp (disch := first | assumption | exact ct_i | exact ct_r | exact ct_n | exact ct_h | omega | exact z_in (by omega) (by omega) | exact b01 | exact Or.inl rfl | exact Or.inr rfl) only [e37_0, e37_1, e37_4, e37_7, e37_10, e37_11, e37_11n, e37_12, e37_13, e37_16, e37_17, e37_18, e37_19, e37_22, e37_23, e37_24, e37_25, e37_28, e37_29, e37_29n, e37_30, e37_31, e37_32, e37_33, e37_36, e37_39, e37_40, e37_41, e37_41n, e37_42, e37_44, e37_47, e37_48, ct_i, ct_r, ct_n, ct_h, opt_v, opt_s, ref_s, ref_n, eq_self_iff_true, true_or, or_true, zl0, zl1, zl2, zl3, zl4, zl5, zl6, zl7, zl8, zl9, zl10, zl16, zl32, zl40, zl100, zl160, zIc1, zI_lt, zI_le, nI_eq, nI_add, z_sub, nI_clamp, zI_of, uu_eq, uu_ne, Nat.reduceLT, Nat.reduceLeDiff, Nat.reduceEqDiff, Nat.reduceAdd, Nat.reduceSub, Nat.reduceMul, Nat.not_lt_zero, Nat.lt_irrefl, Nat.le_refl, Bool.false_eq_true, false_and, and_false, true_and, and_true, if_pos, if_neg, if_true, if_false, not_true_eq_false, not_false_eq_true, s1]
  refine k70p (show 1 ≤ d by omega) hK hi hP2 (show c1.length < 160 by omega) (show -nI 8 = cCell 10007 by decide) (fun I3 hP3 => ?_)
  simp (disch := first | assumption | exact ct_i | exact ct_r | exact ct_n | exact ct_h | omega | exact z_in (by omega) (by omega) | exact b01 | exact Or.inl rfl | exact Or.inr rfl) only [e37_0, e37_1, e37_4, e37_7, e37_10, e37_11, e37_11n, e37_12, e37_13, e37_16, e37_17, e37_18, e37_19, e37_22, e37_23, e37_24, e37_25, e37_28, e37_29, e37_29n, e37_30, e37_31, e37_32, e37_33, e37_36, e37_39, e37_40, e37_41, e37_41n, e37_42, e37_44, e37_47, e37_48, ct_i, ct_r, ct_n, ct_h, opt_v, opt_s, ref_s, ref_n, eq_self_iff_true, true_or, or_true, zl0, zl1, zl2, zl3, zl4, zl5, zl6, zl7, zl8, zl9, zl10, zl16, zl32, zl40, zl100, zl160, zIc1, zI_lt, zI_le, nI_eq, nI_add, z_sub, nI_clamp, zI_of, uu_eq, uu_ne, Nat.reduceLT, Nat.reduceLeDiff, Nat.reduceEqDiff, Nat.reduceAdd, Nat.reduceSub, Nat.reduceMul, Nat.not_lt_zero, Nat.lt_irrefl, Nat.le_refl, Bool.false_eq_true, false_and, and_false, true_and, and_true, if_pos, if_neg, if_true, if_false, not_true_eq_false, not_false_eq_true, s1]
  exact H I3 hP3

theorem q8 (hK : cK nd sh R) (hs : ∀ x, 1000000 ≤ x → sh x = (999, 0)) (hi : i < 6) {o p : Nat} {c : List Nat} {p1 : Nat} {c1 : List Nat} (hp : p ≤ s) (ht : tk tp s p = 311) (h5 : ¬ 5 ≤ o) (B : Bd s (nx tp s p) c p1 c1) (g1 : CG tp s i n t sh I0 L R 8 (o + 1) (nx tp s p) c false p1 c1) : CG tp s i n t sh I0 L R 8 o p c false p1 c1 := by
  rw [CG_c (by decide)] at g1 ⊢
  obtain ⟨s1, s2, s3, s4⟩ := cPq hK
  have sT := (cPt hK hi).1
  have e311 : (311 : Int32) = nI 311 := rfl
  have e60 : (60 : Int32) = nI 60 := rfl
  have e61 : (61 : Int32) = nI 61 := rfl
  have e258 : (258 : Int32) = nI 258 := rfl
  have e300 : (300 : Int32) = nI 300 := rfl
  have e306 : (306 : Int32) = nI 306 := rfl
  have e45 : (45 : Int32) = nI 45 := rfl
  have e40 : (40 : Int32) = nI 40 := rfl
  have e41 : (41 : Int32) = nI 41 := rfl
  have e5 : (5 : Int32) = nI 5 := rfl
  intro ho d I Q hd hc hP H
  simp only [kD, Nat.reduceEqDiff, if_true, if_false] at hd
  obtain ⟨B1, B2, B3, B4⟩ := B
  show aC d 37 _ _ _
  obtain ⟨d, rfl⟩ : ∃ e, d = e + 1 := ⟨d - 1, by omega⟩
  have hT := tk_lt (tp := tp) (s := s) (p := p)
  have h3 := hP.1.2.2.1
  have h160 := hP.2.1.1
  have hps := hP.1.1
  have hlt := tk_ne (tp := tp) (s := s) (p := p) (by omega)
  have hnx := nx_gt (tp := tp) hlt
  simp (disch := first | assumption | exact ct_i | exact ct_r | exact ct_n | exact ct_h | omega | exact z_in (by omega) (by omega) | exact b01 | exact Or.inl rfl | exact Or.inr rfl) only [b37, e37_0, e37_1, e37_4, e37_7, e37_10, e37_11, e37_11n, e37_12, e37_13, e37_16, e37_17, e37_18, e37_19, e37_22, e37_23, e37_24, e37_25, e37_28, e37_29, e37_29n, e37_30, e37_31, e37_32, e37_33, e37_36, e37_39, e37_40, e37_41, e37_41n, e37_42, e37_44, e37_47, e37_48, ct_i, ct_r, ct_n, ct_h, opt_v, opt_s, ref_s, ref_n, eq_self_iff_true, true_or, or_true, zl0, zl1, zl2, zl3, zl4, zl5, zl6, zl7, zl8, zl9, zl10, zl16, zl32, zl40, zl100, zl160, zIc1, zI_lt, zI_le, nI_eq, nI_add, z_sub, nI_clamp, zI_of, uu_eq, uu_ne, Nat.reduceLT, Nat.reduceLeDiff, Nat.reduceEqDiff, Nat.reduceAdd, Nat.reduceSub, Nat.reduceMul, Nat.not_lt_zero, Nat.lt_irrefl, Nat.le_refl, Bool.false_eq_true, false_and, and_false, true_and, and_true, if_pos, if_neg, if_true, if_false, not_true_eq_false, not_false_eq_true, s1, h3, ht, e311, e5]
  refine k27p (by omega) hK hs hi hP (fun I' hP' => ?_)
  simp (disch := first | assumption | exact ct_i | exact ct_r | exact ct_n | exact ct_h | omega | exact z_in (by omega) (by omega) | exact b01 | exact Or.inl rfl | exact Or.inr rfl) only [e37_0, e37_1, e37_4, e37_7, e37_10, e37_11, e37_11n, e37_12, e37_13, e37_16, e37_17, e37_18, e37_19, e37_22, e37_23, e37_24, e37_25, e37_28, e37_29, e37_29n, e37_30, e37_31, e37_32, e37_33, e37_36, e37_39, e37_40, e37_41, e37_41n, e37_42, e37_44, e37_47, e37_48, ct_i, ct_r, ct_n, ct_h, opt_v, opt_s, ref_s, ref_n, eq_self_iff_true, true_or, or_true, zl0, zl1, zl2, zl3, zl4, zl5, zl6, zl7, zl8, zl9, zl10, zl16, zl32, zl40, zl100, zl160, zIc1, zI_lt, zI_le, nI_eq, nI_add, z_sub, nI_clamp, zI_of, uu_eq, uu_ne, Nat.reduceLT, Nat.reduceLeDiff, Nat.reduceEqDiff, Nat.reduceAdd, Nat.reduceSub, Nat.reduceMul, Nat.not_lt_zero, Nat.lt_irrefl, Nat.le_refl, Bool.false_eq_true, false_and, and_false, true_and, and_true, if_pos, if_neg, if_true, if_false, not_true_eq_false, not_false_eq_true, s1]
  refine g1 (by omega) d I' _ (by simp only [kD, Nat.reduceSub, Nat.reduceEqDiff, if_true, if_false] at hd ⊢; omega) (by omega) hP' (fun I2 hP2 => ?_)
  have := H I2 hP2
  simp (disch := first | assumption | exact ct_i | exact ct_r | exact ct_n | exact ct_h | omega | exact z_in (by omega) (by omega) | exact b01 | exact Or.inl rfl | exact Or.inr rfl) only [Bool.false_eq_true, if_false] at this
  simp (disch := first | assumption | exact ct_i | exact ct_r | exact ct_n | exact ct_h | omega | exact z_in (by omega) (by omega) | exact b01 | exact Or.inl rfl | exact Or.inr rfl) only [e37_0, e37_1, e37_4, e37_7, e37_10, e37_11, e37_11n, e37_12, e37_13, e37_16, e37_17, e37_18, e37_19, e37_22, e37_23, e37_24, e37_25, e37_28, e37_29, e37_29n, e37_30, e37_31, e37_32, e37_33, e37_36, e37_39, e37_40, e37_41, e37_41n, e37_42, e37_44, e37_47, e37_48, ct_i, ct_r, ct_n, ct_h, opt_v, opt_s, ref_s, ref_n, eq_self_iff_true, true_or, or_true, zl0, zl1, zl2, zl3, zl4, zl5, zl6, zl7, zl8, zl9, zl10, zl16, zl32, zl40, zl100, zl160, zIc1, zI_lt, zI_le, nI_eq, nI_add, z_sub, nI_clamp, zI_of, uu_eq, uu_ne, Nat.reduceLT, Nat.reduceLeDiff, Nat.reduceEqDiff, Nat.reduceAdd, Nat.reduceSub, Nat.reduceMul, Nat.not_lt_zero, Nat.lt_irrefl, Nat.le_refl, Bool.false_eq_true, false_and, and_false, true_and, and_true, if_pos, if_neg, if_true, if_false, not_true_eq_false, not_false_eq_true, s1]
  exact this

theorem q9 (hK : cK nd sh R) (hs : ∀ x, 1000000 ≤ x → sh x = (999, 0)) (hi : i < 6) {o p : Nat} {c : List Nat} {p1 : Nat} {c1 : List Nat} {b : Bool} (ht : ¬ tk tp s p = 311) (g1 : CG tp s i n t sh I0 L R 9 o p c b p1 c1) : CG tp s i n t sh I0 L R 8 o p c b p1 c1 := by
  rw [CG_c (by decide)] at g1 ⊢
  obtain ⟨s1, s2, s3, s4⟩ := cPq hK
  have sT := (cPt hK hi).1
  have e311 : (311 : Int32) = nI 311 := rfl
  have e60 : (60 : Int32) = nI 60 := rfl
  have e61 : (61 : Int32) = nI 61 := rfl
  have e258 : (258 : Int32) = nI 258 := rfl
  have e300 : (300 : Int32) = nI 300 := rfl
  have e306 : (306 : Int32) = nI 306 := rfl
  have e45 : (45 : Int32) = nI 45 := rfl
  have e40 : (40 : Int32) = nI 40 := rfl
  have e41 : (41 : Int32) = nI 41 := rfl
  have e5 : (5 : Int32) = nI 5 := rfl
  intro ho d I Q hd hc hP H
  simp only [kD, Nat.reduceEqDiff, if_true, if_false] at hd
  show aC d 37 _ _ _
  obtain ⟨d, rfl⟩ : ∃ e, d = e + 1 := ⟨d - 1, by omega⟩
  have hT := tk_lt (tp := tp) (s := s) (p := p)
  have h3 := hP.1.2.2.1
  have h160 := hP.2.1.1
  have hps := hP.1.1
  simp (disch := first | assumption | exact ct_i | exact ct_r | exact ct_n | exact ct_h | omega | exact z_in (by omega) (by omega) | exact b01 | exact Or.inl rfl | exact Or.inr rfl) only [b37, e37_0, e37_1, e37_4, e37_7, e37_10, e37_11, e37_11n, e37_12, e37_13, e37_16, e37_17, e37_18, e37_19, e37_22, e37_23, e37_24, e37_25, e37_28, e37_29, e37_29n, e37_30, e37_31, e37_32, e37_33, e37_36, e37_39, e37_40, e37_41, e37_41n, e37_42, e37_44, e37_47, e37_48, ct_i, ct_r, ct_n, ct_h, opt_v, opt_s, ref_s, ref_n, eq_self_iff_true, true_or, or_true, zl0, zl1, zl2, zl3, zl4, zl5, zl6, zl7, zl8, zl9, zl10, zl16, zl32, zl40, zl100, zl160, zIc1, zI_lt, zI_le, nI_eq, nI_add, z_sub, nI_clamp, zI_of, uu_eq, uu_ne, Nat.reduceLT, Nat.reduceLeDiff, Nat.reduceEqDiff, Nat.reduceAdd, Nat.reduceSub, Nat.reduceMul, Nat.not_lt_zero, Nat.lt_irrefl, Nat.le_refl, Bool.false_eq_true, false_and, and_false, true_and, and_true, if_pos, if_neg, if_true, if_false, not_true_eq_false, not_false_eq_true, s1, h3, ht, e311, e5]
  refine g1 ho d I _ (by simp only [kD, Nat.reduceSub, Nat.reduceEqDiff, if_true, if_false] at hd ⊢; omega) hc hP (fun I' hP' => ?_)
  simp (disch := first | assumption | exact ct_i | exact ct_r | exact ct_n | exact ct_h | omega | exact z_in (by omega) (by omega) | exact b01 | exact Or.inl rfl | exact Or.inr rfl) only [e37_0, e37_1, e37_4, e37_7, e37_10, e37_11, e37_11n, e37_12, e37_13, e37_16, e37_17, e37_18, e37_19, e37_22, e37_23, e37_24, e37_25, e37_28, e37_29, e37_29n, e37_30, e37_31, e37_32, e37_33, e37_36, e37_39, e37_40, e37_41, e37_41n, e37_42, e37_44, e37_47, e37_48, ct_i, ct_r, ct_n, ct_h, opt_v, opt_s, ref_s, ref_n, eq_self_iff_true, true_or, or_true]
  exact H I' hP'

theorem q10 (hK : cK nd sh R) (hs : ∀ x, 1000000 ≤ x → sh x = (999, 0)) (hi : i < 6) {o p : Nat} {c : List Nat} {p1 : Nat} {c1 : List Nat} (g1 : CG tp s i n t sh I0 L R 4 o p c false p1 c1) : CG tp s i n t sh I0 L R 9 o p c false p1 c1 := by
  rw [CG_c (by decide)] at g1 ⊢
  obtain ⟨s1, s2, s3, s4⟩ := cPq hK
  have sT := (cPt hK hi).1
  have e311 : (311 : Int32) = nI 311 := rfl
  have e60 : (60 : Int32) = nI 60 := rfl
  have e61 : (61 : Int32) = nI 61 := rfl
  have e258 : (258 : Int32) = nI 258 := rfl
  have e300 : (300 : Int32) = nI 300 := rfl
  have e306 : (306 : Int32) = nI 306 := rfl
  have e45 : (45 : Int32) = nI 45 := rfl
  have e40 : (40 : Int32) = nI 40 := rfl
  have e41 : (41 : Int32) = nI 41 := rfl
  have e5 : (5 : Int32) = nI 5 := rfl
  intro ho d I Q hd hc hP H
  simp only [kD, Nat.reduceEqDiff, if_true, if_false] at hd
  show aC d 38 _ _ _
  obtain ⟨d, rfl⟩ : ∃ e, d = e + 1 := ⟨d - 1, by omega⟩
  have hT := tk_lt (tp := tp) (s := s) (p := p)
  have h3 := hP.1.2.2.1
  have h160 := hP.2.1.1
  have hps := hP.1.1
  simp (disch := first | assumption | exact ct_i | exact ct_r | exact ct_n | exact ct_h | omega | exact z_in (by omega) (by omega) | exact b01 | exact Or.inl rfl | exact Or.inr rfl) only [b38, e38_0, e38_1, e38_1n, e38_2, e38_3, e38_6, e38_9, e38_10, e38_11, e38_12, e38_15, e38_17, e38_20, e38_21, e38_24, e38_26, e38_29, e38_30, e38_31, e38_32, e38_35, e38_37, e38_40, e38_42, e38_45, e38_47, e38_48, e38_49, e38_52, e38_53, e38_53n, e38_54, e38_55, e38_58, e38_61, e38_62, e38_63, e38_63n, e38_64, e38_65, e38_68, e38_69, ct_i, ct_r, ct_n, ct_h, opt_v, opt_s, ref_s, ref_n, eq_self_iff_true, true_or, or_true, s1]
  refine g1 ho d I _ (by simp only [kD, Nat.reduceSub, Nat.reduceEqDiff, if_true, if_false] at hd ⊢; omega) hc hP (fun I' hP' => ?_)
  have := H I' hP'
  simp (disch := first | assumption | exact ct_i | exact ct_r | exact ct_n | exact ct_h | omega | exact z_in (by omega) (by omega) | exact b01 | exact Or.inl rfl | exact Or.inr rfl) only [Bool.false_eq_true, if_false] at this
  simp (disch := first | assumption | exact ct_i | exact ct_r | exact ct_n | exact ct_h | omega | exact z_in (by omega) (by omega) | exact b01 | exact Or.inl rfl | exact Or.inr rfl) only [e38_0, e38_1, e38_1n, e38_2, e38_3, e38_6, e38_9, e38_10, e38_11, e38_12, e38_15, e38_17, e38_20, e38_21, e38_24, e38_26, e38_29, e38_30, e38_31, e38_32, e38_35, e38_37, e38_40, e38_42, e38_45, e38_47, e38_48, e38_49, e38_52, e38_53, e38_53n, e38_54, e38_55, e38_58, e38_61, e38_62, e38_63, e38_63n, e38_64, e38_65, e38_68, e38_69, ct_i, ct_r, ct_n, ct_h, opt_v, opt_s, ref_s, ref_n, eq_self_iff_true, true_or, or_true, zl0, zl1, zl2, zl3, zl4, zl5, zl6, zl7, zl8, zl9, zl10, zl16, zl32, zl40, zl100, zl160, zIc1, zI_lt, zI_le, nI_eq, nI_add, z_sub, nI_clamp, zI_of, uu_eq, uu_ne, Nat.reduceLT, Nat.reduceLeDiff, Nat.reduceEqDiff, Nat.reduceAdd, Nat.reduceSub, Nat.reduceMul, Nat.not_lt_zero, Nat.lt_irrefl, Nat.le_refl, Bool.false_eq_true, false_and, and_false, true_and, and_true, if_pos, if_neg, if_true, if_false, not_true_eq_false, not_false_eq_true, s1]
  exact this

theorem q11 (hK : cK nd sh R) (hs : ∀ x, 1000000 ≤ x → sh x = (999, 0)) (hi : i < 6) {o p : Nat} {c : List Nat} {p1 : Nat} {c1 : List Nat} (g1 : CG tp s i n t sh I0 L R 4 o p c true p1 c1) (ht : ¬ (tk tp s p1 = 60 ∨ tk tp s p1 = 61)) : CG tp s i n t sh I0 L R 9 o p c true p1 c1 := by
  rw [CG_c (by decide)] at g1 ⊢
  obtain ⟨s1, s2, s3, s4⟩ := cPq hK
  have sT := (cPt hK hi).1
  have e311 : (311 : Int32) = nI 311 := rfl
  have e60 : (60 : Int32) = nI 60 := rfl
  have e61 : (61 : Int32) = nI 61 := rfl
  have e258 : (258 : Int32) = nI 258 := rfl
  have e300 : (300 : Int32) = nI 300 := rfl
  have e306 : (306 : Int32) = nI 306 := rfl
  have e45 : (45 : Int32) = nI 45 := rfl
  have e40 : (40 : Int32) = nI 40 := rfl
  have e41 : (41 : Int32) = nI 41 := rfl
  have e5 : (5 : Int32) = nI 5 := rfl
  intro ho d I Q hd hc hP H
  simp only [kD, Nat.reduceEqDiff, if_true, if_false] at hd
  show aC d 38 _ _ _
  obtain ⟨d, rfl⟩ : ∃ e, d = e + 1 := ⟨d - 1, by omega⟩
  have hT := tk_lt (tp := tp) (s := s) (p := p)
  have h3 := hP.1.2.2.1
  have h160 := hP.2.1.1
  have hps := hP.1.1
  simp (disch := first | assumption | exact ct_i | exact ct_r | exact ct_n | exact ct_h | omega | exact z_in (by omega) (by omega) | exact b01 | exact Or.inl rfl | exact Or.inr rfl) only [b38, e38_0, e38_1, e38_1n, e38_2, e38_3, e38_6, e38_9, e38_10, e38_11, e38_12, e38_15, e38_17, e38_20, e38_21, e38_24, e38_26, e38_29, e38_30, e38_31, e38_32, e38_35, e38_37, e38_40, e38_42, e38_45, e38_47, e38_48, e38_49, e38_52, e38_53, e38_53n, e38_54, e38_55, e38_58, e38_61, e38_62, e38_63, e38_63n, e38_64, e38_65, e38_68, e38_69, ct_i, ct_r, ct_n, ct_h, opt_v, opt_s, ref_s, ref_n, eq_self_iff_true, true_or, or_true, s1]
  refine g1 ho d I _ (by simp only [kD, Nat.reduceSub, Nat.reduceEqDiff, if_true, if_false] at hd ⊢; omega) hc hP (fun I' hP' => ?_)
  have hT1 := tk_lt (tp := tp) (s := s) (p := p1)
  have h31 := hP'.1.2.2.1
  have hps1 := hP'.1.1
  have ht1 : ¬ tk tp s p1 = 60 := fun h => ht (Or.inl h)
  have ht2 : ¬ tk tp s p1 = 61 := fun h => ht (Or.inr h)
  simp (disch := first | assumption | exact ct_i | exact ct_r | exact ct_n | exact ct_h | omega | exact z_in (by omega) (by omega) | exact b01 | exact Or.inl rfl | exact Or.inr rfl) only [e38_0, e38_1, e38_1n, e38_2, e38_3, e38_6, e38_9, e38_10, e38_11, e38_12, e38_15, e38_17, e38_20, e38_21, e38_24, e38_26, e38_29, e38_30, e38_31, e38_32, e38_35, e38_37, e38_40, e38_42, e38_45, e38_47, e38_48, e38_49, e38_52, e38_53, e38_53n, e38_54, e38_55, e38_58, e38_61, e38_62, e38_63, e38_63n, e38_64, e38_65, e38_68, e38_69, ct_i, ct_r, ct_n, ct_h, opt_v, opt_s, ref_s, ref_n, eq_self_iff_true, true_or, or_true, zl0, zl1, zl2, zl3, zl4, zl5, zl6, zl7, zl8, zl9, zl10, zl16, zl32, zl40, zl100, zl160, zIc1, zI_lt, zI_le, nI_eq, nI_add, z_sub, nI_clamp, zI_of, uu_eq, uu_ne, Nat.reduceLT, Nat.reduceLeDiff, Nat.reduceEqDiff, Nat.reduceAdd, Nat.reduceSub, Nat.reduceMul, Nat.not_lt_zero, Nat.lt_irrefl, Nat.le_refl, Bool.false_eq_true, false_and, and_false, true_and, and_true, if_pos, if_neg, if_true, if_false, not_true_eq_false, not_false_eq_true, s1, h31, e60, e61, ht1, ht2]
  exact H I' hP'

theorem q12 (hK : cK nd sh R) (hs : ∀ x, 1000000 ≤ x → sh x = (999, 0)) (hi : i < 6) {o p : Nat} {c : List Nat} {p1 : Nat} {c1 : List Nat} {p2 : Nat} {c2 : List Nat} (B : Bd s p c p1 c1) (g1 : CG tp s i n t sh I0 L R 4 o p c true p1 c1) (ht : tk tp s p1 = 60 ∨ tk tp s p1 = 61) (C : Bd s (nx tp s p1) c1 p2 c2) (g2 : CG tp s i n t sh I0 L R 4 o (nx tp s p1) c1 true p2 c2) : CG tp s i n t sh I0 L R 9 o p c true p2 (c2 ++ [if tk tp s p1 = 60 then 10010 else 10011]) := by
  rw [CG_c (by decide)] at g1 g2 ⊢
  obtain ⟨s1, s2, s3, s4⟩ := cPq hK
  have sT := (cPt hK hi).1
  have e311 : (311 : Int32) = nI 311 := rfl
  have e60 : (60 : Int32) = nI 60 := rfl
  have e61 : (61 : Int32) = nI 61 := rfl
  have e258 : (258 : Int32) = nI 258 := rfl
  have e300 : (300 : Int32) = nI 300 := rfl
  have e306 : (306 : Int32) = nI 306 := rfl
  have e45 : (45 : Int32) = nI 45 := rfl
  have e40 : (40 : Int32) = nI 40 := rfl
  have e41 : (41 : Int32) = nI 41 := rfl
  have e5 : (5 : Int32) = nI 5 := rfl
  intro ho d I Q hd hc hP H
  simp only [kD, Nat.reduceEqDiff, if_true, if_false] at hd
  obtain ⟨B1, B2, B3, B4⟩ := B
  obtain ⟨C1, C2, C3, C4⟩ := C
  show aC d 38 _ _ _
  obtain ⟨d, rfl⟩ : ∃ e, d = e + 1 := ⟨d - 1, by omega⟩
  have hT := tk_lt (tp := tp) (s := s) (p := p)
  have h3 := hP.1.2.2.1
  have h160 := hP.2.1.1
  have hps := hP.1.1
  simp (disch := first | assumption | exact ct_i | exact ct_r | exact ct_n | exact ct_h | omega | exact z_in (by omega) (by omega) | exact b01 | exact Or.inl rfl | exact Or.inr rfl) only [b38, e38_0, e38_1, e38_1n, e38_2, e38_3, e38_6, e38_9, e38_10, e38_11, e38_12, e38_15, e38_17, e38_20, e38_21, e38_24, e38_26, e38_29, e38_30, e38_31, e38_32, e38_35, e38_37, e38_40, e38_42, e38_45, e38_47, e38_48, e38_49, e38_52, e38_53, e38_53n, e38_54, e38_55, e38_58, e38_61, e38_62, e38_63, e38_63n, e38_64, e38_65, e38_68, e38_69, ct_i, ct_r, ct_n, ct_h, opt_v, opt_s, ref_s, ref_n, eq_self_iff_true, true_or, or_true, s1]
  refine g1 ho d I _ (by simp only [kD, Nat.reduceSub, Nat.reduceEqDiff, if_true, if_false] at hd ⊢; omega) hc hP (fun I' hP' => ?_)
  have hT1 := tk_lt (tp := tp) (s := s) (p := p1)
  have h31 := hP'.1.2.2.1
  have hps1 := hP'.1.1
  have hlt := tk_ne (tp := tp) (s := s) (p := p1) (by omega)
  have hnx := nx_gt (tp := tp) hlt
  have ne : ¬ (61 : Nat) = 60 := by decide
  rcases ht with ht | ht
  · simp (disch := first | assumption | exact ct_i | exact ct_r | exact ct_n | exact ct_h | omega | exact z_in (by omega) (by omega) | exact b01 | exact Or.inl rfl | exact Or.inr rfl) only [e38_0, e38_1, e38_1n, e38_2, e38_3, e38_6, e38_9, e38_10, e38_11, e38_12, e38_15, e38_17, e38_20, e38_21, e38_24, e38_26, e38_29, e38_30, e38_31, e38_32, e38_35, e38_37, e38_40, e38_42, e38_45, e38_47, e38_48, e38_49, e38_52, e38_53, e38_53n, e38_54, e38_55, e38_58, e38_61, e38_62, e38_63, e38_63n, e38_64, e38_65, e38_68, e38_69, ct_i, ct_r, ct_n, ct_h, opt_v, opt_s, ref_s, ref_n, eq_self_iff_true, true_or, or_true, zl0, zl1, zl2, zl3, zl4, zl5, zl6, zl7, zl8, zl9, zl10, zl16, zl32, zl40, zl100, zl160, zIc1, zI_lt, zI_le, nI_eq, nI_add, z_sub, nI_clamp, zI_of, uu_eq, uu_ne, Nat.reduceLT, Nat.reduceLeDiff, Nat.reduceEqDiff, Nat.reduceAdd, Nat.reduceSub, Nat.reduceMul, Nat.not_lt_zero, Nat.lt_irrefl, Nat.le_refl, Bool.false_eq_true, false_and, and_false, true_and, and_true, if_pos, if_neg, if_true, if_false, not_true_eq_false, not_false_eq_true, s1, h31, e60, e61, ht]
    refine k27p (show 9 ≤ d by omega) hK hs hi hP' (fun I2 hP2 => ?_)
    simp (disch := first | assumption | exact ct_i | exact ct_r | exact ct_n | exact ct_h | omega | exact z_in (by omega) (by omega) | exact b01 | exact Or.inl rfl | exact Or.inr rfl) only [e38_0, e38_1, e38_1n, e38_2, e38_3, e38_6, e38_9, e38_10, e38_11, e38_12, e38_15, e38_17, e38_20, e38_21, e38_24, e38_26, e38_29, e38_30, e38_31, e38_32, e38_35, e38_37, e38_40, e38_42, e38_45, e38_47, e38_48, e38_49, e38_52, e38_53, e38_53n, e38_54, e38_55, e38_58, e38_61, e38_62, e38_63, e38_63n, e38_64, e38_65, e38_68, e38_69, ct_i, ct_r, ct_n, ct_h, opt_v, opt_s, ref_s, ref_n, eq_self_iff_true, true_or, or_true, zl0, zl1, zl2, zl3, zl4, zl5, zl6, zl7, zl8, zl9, zl10, zl16, zl32, zl40, zl100, zl160, zIc1, zI_lt, zI_le, nI_eq, nI_add, z_sub, nI_clamp, zI_of, uu_eq, uu_ne, Nat.reduceLT, Nat.reduceLeDiff, Nat.reduceEqDiff, Nat.reduceAdd, Nat.reduceSub, Nat.reduceMul, Nat.not_lt_zero, Nat.lt_irrefl, Nat.le_refl, Bool.false_eq_true, false_and, and_false, true_and, and_true, if_pos, if_neg, if_true, if_false, not_true_eq_false, not_false_eq_true, s1]
    refine g2 ho d I2 _ (by simp only [kD, Nat.reduceSub, Nat.reduceEqDiff, if_true, if_false] at hd ⊢; omega) (by omega) hP2 (fun I3 hP3 => ?_)
    simp (disch := first | assumption | exact ct_i | exact ct_r | exact ct_n | exact ct_h | omega | exact z_in (by omega) (by omega) | exact b01 | exact Or.inl rfl | exact Or.inr rfl) only [e38_0, e38_1, e38_1n, e38_2, e38_3, e38_6, e38_9, e38_10, e38_11, e38_12, e38_15, e38_17, e38_20, e38_21, e38_24, e38_26, e38_29, e38_30, e38_31, e38_32, e38_35, e38_37, e38_40, e38_42, e38_45, e38_47, e38_48, e38_49, e38_52, e38_53, e38_53n, e38_54, e38_55, e38_58, e38_61, e38_62, e38_63, e38_63n, e38_64, e38_65, e38_68, e38_69, ct_i, ct_r, ct_n, ct_h, opt_v, opt_s, ref_s, ref_n, eq_self_iff_true, true_or, or_true, zl0, zl1, zl2, zl3, zl4, zl5, zl6, zl7, zl8, zl9, zl10, zl16, zl32, zl40, zl100, zl160, zIc1, zI_lt, zI_le, nI_eq, nI_add, z_sub, nI_clamp, zI_of, uu_eq, uu_ne, Nat.reduceLT, Nat.reduceLeDiff, Nat.reduceEqDiff, Nat.reduceAdd, Nat.reduceSub, Nat.reduceMul, Nat.not_lt_zero, Nat.lt_irrefl, Nat.le_refl, Bool.false_eq_true, false_and, and_false, true_and, and_true, if_pos, if_neg, if_true, if_false, not_true_eq_false, not_false_eq_true, s1]
    refine k70p (show 1 ≤ d by omega) hK hi hP3 (show c2.length < 160 by omega) (show -11 = cCell 10010 by decide) (fun I4 hP4 => ?_)
    simp (disch := first | assumption | exact ct_i | exact ct_r | exact ct_n | exact ct_h | omega | exact z_in (by omega) (by omega) | exact b01 | exact Or.inl rfl | exact Or.inr rfl) only [e38_0, e38_1, e38_1n, e38_2, e38_3, e38_6, e38_9, e38_10, e38_11, e38_12, e38_15, e38_17, e38_20, e38_21, e38_24, e38_26, e38_29, e38_30, e38_31, e38_32, e38_35, e38_37, e38_40, e38_42, e38_45, e38_47, e38_48, e38_49, e38_52, e38_53, e38_53n, e38_54, e38_55, e38_58, e38_61, e38_62, e38_63, e38_63n, e38_64, e38_65, e38_68, e38_69, ct_i, ct_r, ct_n, ct_h, opt_v, opt_s, ref_s, ref_n, eq_self_iff_true, true_or, or_true, zl0, zl1, zl2, zl3, zl4, zl5, zl6, zl7, zl8, zl9, zl10, zl16, zl32, zl40, zl100, zl160, zIc1, zI_lt, zI_le, nI_eq, nI_add, z_sub, nI_clamp, zI_of, uu_eq, uu_ne, Nat.reduceLT, Nat.reduceLeDiff, Nat.reduceEqDiff, Nat.reduceAdd, Nat.reduceSub, Nat.reduceMul, Nat.not_lt_zero, Nat.lt_irrefl, Nat.le_refl, Bool.false_eq_true, false_and, and_false, true_and, and_true, if_pos, if_neg, if_true, if_false, not_true_eq_false, not_false_eq_true, s1]
    exact H I4 (by rw [if_pos ht]; exact hP4)
  · simp (disch := first | assumption | exact ct_i | exact ct_r | exact ct_n | exact ct_h | omega | exact z_in (by omega) (by omega) | exact b01 | exact Or.inl rfl | exact Or.inr rfl) only [e38_0, e38_1, e38_1n, e38_2, e38_3, e38_6, e38_9, e38_10, e38_11, e38_12, e38_15, e38_17, e38_20, e38_21, e38_24, e38_26, e38_29, e38_30, e38_31, e38_32, e38_35, e38_37, e38_40, e38_42, e38_45, e38_47, e38_48, e38_49, e38_52, e38_53, e38_53n, e38_54, e38_55, e38_58, e38_61, e38_62, e38_63, e38_63n, e38_64, e38_65, e38_68, e38_69, ct_i, ct_r, ct_n, ct_h, opt_v, opt_s, ref_s, ref_n, eq_self_iff_true, true_or, or_true, zl0, zl1, zl2, zl3, zl4, zl5, zl6, zl7, zl8, zl9, zl10, zl16, zl32, zl40, zl100, zl160, zIc1, zI_lt, zI_le, nI_eq, nI_add, z_sub, nI_clamp, zI_of, uu_eq, uu_ne, Nat.reduceLT, Nat.reduceLeDiff, Nat.reduceEqDiff, Nat.reduceAdd, Nat.reduceSub, Nat.reduceMul, Nat.not_lt_zero, Nat.lt_irrefl, Nat.le_refl, Bool.false_eq_true, false_and, and_false, true_and, and_true, if_pos, if_neg, if_true, if_false, not_true_eq_false, not_false_eq_true, s1, h31, e60, e61, ht]
    refine k27p (show 9 ≤ d by omega) hK hs hi hP' (fun I2 hP2 => ?_)
    simp (disch := first | assumption | exact ct_i | exact ct_r | exact ct_n | exact ct_h | omega | exact z_in (by omega) (by omega) | exact b01 | exact Or.inl rfl | exact Or.inr rfl) only [e38_0, e38_1, e38_1n, e38_2, e38_3, e38_6, e38_9, e38_10, e38_11, e38_12, e38_15, e38_17, e38_20, e38_21, e38_24, e38_26, e38_29, e38_30, e38_31, e38_32, e38_35, e38_37, e38_40, e38_42, e38_45, e38_47, e38_48, e38_49, e38_52, e38_53, e38_53n, e38_54, e38_55, e38_58, e38_61, e38_62, e38_63, e38_63n, e38_64, e38_65, e38_68, e38_69, ct_i, ct_r, ct_n, ct_h, opt_v, opt_s, ref_s, ref_n, eq_self_iff_true, true_or, or_true, zl0, zl1, zl2, zl3, zl4, zl5, zl6, zl7, zl8, zl9, zl10, zl16, zl32, zl40, zl100, zl160, zIc1, zI_lt, zI_le, nI_eq, nI_add, z_sub, nI_clamp, zI_of, uu_eq, uu_ne, Nat.reduceLT, Nat.reduceLeDiff, Nat.reduceEqDiff, Nat.reduceAdd, Nat.reduceSub, Nat.reduceMul, Nat.not_lt_zero, Nat.lt_irrefl, Nat.le_refl, Bool.false_eq_true, false_and, and_false, true_and, and_true, if_pos, if_neg, if_true, if_false, not_true_eq_false, not_false_eq_true, s1]
    refine g2 ho d I2 _ (by simp only [kD, Nat.reduceSub, Nat.reduceEqDiff, if_true, if_false] at hd ⊢; omega) (by omega) hP2 (fun I3 hP3 => ?_)
    simp (disch := first | assumption | exact ct_i | exact ct_r | exact ct_n | exact ct_h | omega | exact z_in (by omega) (by omega) | exact b01 | exact Or.inl rfl | exact Or.inr rfl) only [e38_0, e38_1, e38_1n, e38_2, e38_3, e38_6, e38_9, e38_10, e38_11, e38_12, e38_15, e38_17, e38_20, e38_21, e38_24, e38_26, e38_29, e38_30, e38_31, e38_32, e38_35, e38_37, e38_40, e38_42, e38_45, e38_47, e38_48, e38_49, e38_52, e38_53, e38_53n, e38_54, e38_55, e38_58, e38_61, e38_62, e38_63, e38_63n, e38_64, e38_65, e38_68, e38_69, ct_i, ct_r, ct_n, ct_h, opt_v, opt_s, ref_s, ref_n, eq_self_iff_true, true_or, or_true, zl0, zl1, zl2, zl3, zl4, zl5, zl6, zl7, zl8, zl9, zl10, zl16, zl32, zl40, zl100, zl160, zIc1, zI_lt, zI_le, nI_eq, nI_add, z_sub, nI_clamp, zI_of, uu_eq, uu_ne, Nat.reduceLT, Nat.reduceLeDiff, Nat.reduceEqDiff, Nat.reduceAdd, Nat.reduceSub, Nat.reduceMul, Nat.not_lt_zero, Nat.lt_irrefl, Nat.le_refl, Bool.false_eq_true, false_and, and_false, true_and, and_true, if_pos, if_neg, if_true, if_false, not_true_eq_false, not_false_eq_true, s1]
    refine k70p (show 1 ≤ d by omega) hK hi hP3 (show c2.length < 160 by omega) (show -12 = cCell 10011 by decide) (fun I4 hP4 => ?_)
    simp (disch := first | assumption | exact ct_i | exact ct_r | exact ct_n | exact ct_h | omega | exact z_in (by omega) (by omega) | exact b01 | exact Or.inl rfl | exact Or.inr rfl) only [e38_0, e38_1, e38_1n, e38_2, e38_3, e38_6, e38_9, e38_10, e38_11, e38_12, e38_15, e38_17, e38_20, e38_21, e38_24, e38_26, e38_29, e38_30, e38_31, e38_32, e38_35, e38_37, e38_40, e38_42, e38_45, e38_47, e38_48, e38_49, e38_52, e38_53, e38_53n, e38_54, e38_55, e38_58, e38_61, e38_62, e38_63, e38_63n, e38_64, e38_65, e38_68, e38_69, ct_i, ct_r, ct_n, ct_h, opt_v, opt_s, ref_s, ref_n, eq_self_iff_true, true_or, or_true, zl0, zl1, zl2, zl3, zl4, zl5, zl6, zl7, zl8, zl9, zl10, zl16, zl32, zl40, zl100, zl160, zIc1, zI_lt, zI_le, nI_eq, nI_add, z_sub, nI_clamp, zI_of, uu_eq, uu_ne, Nat.reduceLT, Nat.reduceLeDiff, Nat.reduceEqDiff, Nat.reduceAdd, Nat.reduceSub, Nat.reduceMul, Nat.not_lt_zero, Nat.lt_irrefl, Nat.le_refl, Bool.false_eq_true, false_and, and_false, true_and, and_true, if_pos, if_neg, if_true, if_false, not_true_eq_false, not_false_eq_true, s1]
    exact H I4 (by rw [if_neg (by omega)]; exact hP4)

theorem q13 (hK : cK nd sh R) (hs : ∀ x, 1000000 ≤ x → sh x = (999, 0)) (hi : i < 6) {o p : Nat} {c : List Nat} {p1 : Nat} {c1 : List Nat} {p2 : Nat} {c2 : List Nat} (B : Bd s p c p1 c1) (g1 : CG tp s i n t sh I0 L R 4 o p c true p1 c1) (ht : tk tp s p1 = 60 ∨ tk tp s p1 = 61) (C : Bd s (nx tp s p1) c1 p2 c2) (g2 : CG tp s i n t sh I0 L R 4 o (nx tp s p1) c1 false p2 c2) : CG tp s i n t sh I0 L R 9 o p c false p2 c2 := by
  rw [CG_c (by decide)] at g1 g2 ⊢
  obtain ⟨s1, s2, s3, s4⟩ := cPq hK
  have sT := (cPt hK hi).1
  have e311 : (311 : Int32) = nI 311 := rfl
  have e60 : (60 : Int32) = nI 60 := rfl
  have e61 : (61 : Int32) = nI 61 := rfl
  have e258 : (258 : Int32) = nI 258 := rfl
  have e300 : (300 : Int32) = nI 300 := rfl
  have e306 : (306 : Int32) = nI 306 := rfl
  have e45 : (45 : Int32) = nI 45 := rfl
  have e40 : (40 : Int32) = nI 40 := rfl
  have e41 : (41 : Int32) = nI 41 := rfl
  have e5 : (5 : Int32) = nI 5 := rfl
  intro ho d I Q hd hc hP H
  simp only [kD, Nat.reduceEqDiff, if_true, if_false] at hd
  obtain ⟨B1, B2, B3, B4⟩ := B
  obtain ⟨C1, C2, C3, C4⟩ := C
  show aC d 38 _ _ _
  obtain ⟨d, rfl⟩ : ∃ e, d = e + 1 := ⟨d - 1, by omega⟩
  have hT := tk_lt (tp := tp) (s := s) (p := p)
  have h3 := hP.1.2.2.1
  have h160 := hP.2.1.1
  have hps := hP.1.1
  simp (disch := first | assumption | exact ct_i | exact ct_r | exact ct_n | exact ct_h | omega | exact z_in (by omega) (by omega) | exact b01 | exact Or.inl rfl | exact Or.inr rfl) only [b38, e38_0, e38_1, e38_1n, e38_2, e38_3, e38_6, e38_9, e38_10, e38_11, e38_12, e38_15, e38_17, e38_20, e38_21, e38_24, e38_26, e38_29, e38_30, e38_31, e38_32, e38_35, e38_37, e38_40, e38_42, e38_45, e38_47, e38_48, e38_49, e38_52, e38_53, e38_53n, e38_54, e38_55, e38_58, e38_61, e38_62, e38_63, e38_63n, e38_64, e38_65, e38_68, e38_69, ct_i, ct_r, ct_n, ct_h, opt_v, opt_s, ref_s, ref_n, eq_self_iff_true, true_or, or_true, s1]
  refine g1 ho d I _ (by simp only [kD, Nat.reduceSub, Nat.reduceEqDiff, if_true, if_false] at hd ⊢; omega) hc hP (fun I' hP' => ?_)
  have hT1 := tk_lt (tp := tp) (s := s) (p := p1)
  have h31 := hP'.1.2.2.1
  have hps1 := hP'.1.1
  have hlt := tk_ne (tp := tp) (s := s) (p := p1) (by omega)
  have hnx := nx_gt (tp := tp) hlt
  have ne : ¬ (61 : Nat) = 60 := by decide
  rcases ht with ht | ht
  · simp (disch := first | assumption | exact ct_i | exact ct_r | exact ct_n | exact ct_h | omega | exact z_in (by omega) (by omega) | exact b01 | exact Or.inl rfl | exact Or.inr rfl) only [e38_0, e38_1, e38_1n, e38_2, e38_3, e38_6, e38_9, e38_10, e38_11, e38_12, e38_15, e38_17, e38_20, e38_21, e38_24, e38_26, e38_29, e38_30, e38_31, e38_32, e38_35, e38_37, e38_40, e38_42, e38_45, e38_47, e38_48, e38_49, e38_52, e38_53, e38_53n, e38_54, e38_55, e38_58, e38_61, e38_62, e38_63, e38_63n, e38_64, e38_65, e38_68, e38_69, ct_i, ct_r, ct_n, ct_h, opt_v, opt_s, ref_s, ref_n, eq_self_iff_true, true_or, or_true, zl0, zl1, zl2, zl3, zl4, zl5, zl6, zl7, zl8, zl9, zl10, zl16, zl32, zl40, zl100, zl160, zIc1, zI_lt, zI_le, nI_eq, nI_add, z_sub, nI_clamp, zI_of, uu_eq, uu_ne, Nat.reduceLT, Nat.reduceLeDiff, Nat.reduceEqDiff, Nat.reduceAdd, Nat.reduceSub, Nat.reduceMul, Nat.not_lt_zero, Nat.lt_irrefl, Nat.le_refl, Bool.false_eq_true, false_and, and_false, true_and, and_true, if_pos, if_neg, if_true, if_false, not_true_eq_false, not_false_eq_true, s1, h31, e60, e61, ht]
    refine k27p (show 9 ≤ d by omega) hK hs hi hP' (fun I2 hP2 => ?_)
    simp (disch := first | assumption | exact ct_i | exact ct_r | exact ct_n | exact ct_h | omega | exact z_in (by omega) (by omega) | exact b01 | exact Or.inl rfl | exact Or.inr rfl) only [e38_0, e38_1, e38_1n, e38_2, e38_3, e38_6, e38_9, e38_10, e38_11, e38_12, e38_15, e38_17, e38_20, e38_21, e38_24, e38_26, e38_29, e38_30, e38_31, e38_32, e38_35, e38_37, e38_40, e38_42, e38_45, e38_47, e38_48, e38_49, e38_52, e38_53, e38_53n, e38_54, e38_55, e38_58, e38_61, e38_62, e38_63, e38_63n, e38_64, e38_65, e38_68, e38_69, ct_i, ct_r, ct_n, ct_h, opt_v, opt_s, ref_s, ref_n, eq_self_iff_true, true_or, or_true, zl0, zl1, zl2, zl3, zl4, zl5, zl6, zl7, zl8, zl9, zl10, zl16, zl32, zl40, zl100, zl160, zIc1, zI_lt, zI_le, nI_eq, nI_add, z_sub, nI_clamp, zI_of, uu_eq, uu_ne, Nat.reduceLT, Nat.reduceLeDiff, Nat.reduceEqDiff, Nat.reduceAdd, Nat.reduceSub, Nat.reduceMul, Nat.not_lt_zero, Nat.lt_irrefl, Nat.le_refl, Bool.false_eq_true, false_and, and_false, true_and, and_true, if_pos, if_neg, if_true, if_false, not_true_eq_false, not_false_eq_true, s1]
    refine g2 ho d I2 _ (by simp only [kD, Nat.reduceSub, Nat.reduceEqDiff, if_true, if_false] at hd ⊢; omega) (by omega) hP2 (fun I3 hP3 => ?_)
    have := H I3 hP3
    simp (disch := first | assumption | exact ct_i | exact ct_r | exact ct_n | exact ct_h | omega | exact z_in (by omega) (by omega) | exact b01 | exact Or.inl rfl | exact Or.inr rfl) only [Bool.false_eq_true, if_false] at this
    simp (disch := first | assumption | exact ct_i | exact ct_r | exact ct_n | exact ct_h | omega | exact z_in (by omega) (by omega) | exact b01 | exact Or.inl rfl | exact Or.inr rfl) only [e38_0, e38_1, e38_1n, e38_2, e38_3, e38_6, e38_9, e38_10, e38_11, e38_12, e38_15, e38_17, e38_20, e38_21, e38_24, e38_26, e38_29, e38_30, e38_31, e38_32, e38_35, e38_37, e38_40, e38_42, e38_45, e38_47, e38_48, e38_49, e38_52, e38_53, e38_53n, e38_54, e38_55, e38_58, e38_61, e38_62, e38_63, e38_63n, e38_64, e38_65, e38_68, e38_69, ct_i, ct_r, ct_n, ct_h, opt_v, opt_s, ref_s, ref_n, eq_self_iff_true, true_or, or_true, zl0, zl1, zl2, zl3, zl4, zl5, zl6, zl7, zl8, zl9, zl10, zl16, zl32, zl40, zl100, zl160, zIc1, zI_lt, zI_le, nI_eq, nI_add, z_sub, nI_clamp, zI_of, uu_eq, uu_ne, Nat.reduceLT, Nat.reduceLeDiff, Nat.reduceEqDiff, Nat.reduceAdd, Nat.reduceSub, Nat.reduceMul, Nat.not_lt_zero, Nat.lt_irrefl, Nat.le_refl, Bool.false_eq_true, false_and, and_false, true_and, and_true, if_pos, if_neg, if_true, if_false, not_true_eq_false, not_false_eq_true, s1]
    exact this
  · simp (disch := first | assumption | exact ct_i | exact ct_r | exact ct_n | exact ct_h | omega | exact z_in (by omega) (by omega) | exact b01 | exact Or.inl rfl | exact Or.inr rfl) only [e38_0, e38_1, e38_1n, e38_2, e38_3, e38_6, e38_9, e38_10, e38_11, e38_12, e38_15, e38_17, e38_20, e38_21, e38_24, e38_26, e38_29, e38_30, e38_31, e38_32, e38_35, e38_37, e38_40, e38_42, e38_45, e38_47, e38_48, e38_49, e38_52, e38_53, e38_53n, e38_54, e38_55, e38_58, e38_61, e38_62, e38_63, e38_63n, e38_64, e38_65, e38_68, e38_69, ct_i, ct_r, ct_n, ct_h, opt_v, opt_s, ref_s, ref_n, eq_self_iff_true, true_or, or_true, zl0, zl1, zl2, zl3, zl4, zl5, zl6, zl7, zl8, zl9, zl10, zl16, zl32, zl40, zl100, zl160, zIc1, zI_lt, zI_le, nI_eq, nI_add, z_sub, nI_clamp, zI_of, uu_eq, uu_ne, Nat.reduceLT, Nat.reduceLeDiff, Nat.reduceEqDiff, Nat.reduceAdd, Nat.reduceSub, Nat.reduceMul, Nat.not_lt_zero, Nat.lt_irrefl, Nat.le_refl, Bool.false_eq_true, false_and, and_false, true_and, and_true, if_pos, if_neg, if_true, if_false, not_true_eq_false, not_false_eq_true, s1, h31, e60, e61, ht]
    refine k27p (show 9 ≤ d by omega) hK hs hi hP' (fun I2 hP2 => ?_)
    simp (disch := first | assumption | exact ct_i | exact ct_r | exact ct_n | exact ct_h | omega | exact z_in (by omega) (by omega) | exact b01 | exact Or.inl rfl | exact Or.inr rfl) only [e38_0, e38_1, e38_1n, e38_2, e38_3, e38_6, e38_9, e38_10, e38_11, e38_12, e38_15, e38_17, e38_20, e38_21, e38_24, e38_26, e38_29, e38_30, e38_31, e38_32, e38_35, e38_37, e38_40, e38_42, e38_45, e38_47, e38_48, e38_49, e38_52, e38_53, e38_53n, e38_54, e38_55, e38_58, e38_61, e38_62, e38_63, e38_63n, e38_64, e38_65, e38_68, e38_69, ct_i, ct_r, ct_n, ct_h, opt_v, opt_s, ref_s, ref_n, eq_self_iff_true, true_or, or_true, zl0, zl1, zl2, zl3, zl4, zl5, zl6, zl7, zl8, zl9, zl10, zl16, zl32, zl40, zl100, zl160, zIc1, zI_lt, zI_le, nI_eq, nI_add, z_sub, nI_clamp, zI_of, uu_eq, uu_ne, Nat.reduceLT, Nat.reduceLeDiff, Nat.reduceEqDiff, Nat.reduceAdd, Nat.reduceSub, Nat.reduceMul, Nat.not_lt_zero, Nat.lt_irrefl, Nat.le_refl, Bool.false_eq_true, false_and, and_false, true_and, and_true, if_pos, if_neg, if_true, if_false, not_true_eq_false, not_false_eq_true, s1]
    refine g2 ho d I2 _ (by simp only [kD, Nat.reduceSub, Nat.reduceEqDiff, if_true, if_false] at hd ⊢; omega) (by omega) hP2 (fun I3 hP3 => ?_)
    have := H I3 hP3
    simp (disch := first | assumption | exact ct_i | exact ct_r | exact ct_n | exact ct_h | omega | exact z_in (by omega) (by omega) | exact b01 | exact Or.inl rfl | exact Or.inr rfl) only [Bool.false_eq_true, if_false] at this
    simp (disch := first | assumption | exact ct_i | exact ct_r | exact ct_n | exact ct_h | omega | exact z_in (by omega) (by omega) | exact b01 | exact Or.inl rfl | exact Or.inr rfl) only [e38_0, e38_1, e38_1n, e38_2, e38_3, e38_6, e38_9, e38_10, e38_11, e38_12, e38_15, e38_17, e38_20, e38_21, e38_24, e38_26, e38_29, e38_30, e38_31, e38_32, e38_35, e38_37, e38_40, e38_42, e38_45, e38_47, e38_48, e38_49, e38_52, e38_53, e38_53n, e38_54, e38_55, e38_58, e38_61, e38_62, e38_63, e38_63n, e38_64, e38_65, e38_68, e38_69, ct_i, ct_r, ct_n, ct_h, opt_v, opt_s, ref_s, ref_n, eq_self_iff_true, true_or, or_true, zl0, zl1, zl2, zl3, zl4, zl5, zl6, zl7, zl8, zl9, zl10, zl16, zl32, zl40, zl100, zl160, zIc1, zI_lt, zI_le, nI_eq, nI_add, z_sub, nI_clamp, zI_of, uu_eq, uu_ne, Nat.reduceLT, Nat.reduceLeDiff, Nat.reduceEqDiff, Nat.reduceAdd, Nat.reduceSub, Nat.reduceMul, Nat.not_lt_zero, Nat.lt_irrefl, Nat.le_refl, Bool.false_eq_true, false_and, and_false, true_and, and_true, if_pos, if_neg, if_true, if_false, not_true_eq_false, not_false_eq_true, s1]
    exact this

theorem q14 (hK : cK nd sh R) (hs : ∀ x, 1000000 ≤ x → sh x = (999, 0)) (hi : i < 6) {o p : Nat} {c : List Nat} (hp : p ≤ s) (ht : tk tp s p = 258) : CG tp s i n t sh I0 L R 10 o p c true (nx tp s p) (c ++ [nv tp s p]) := by
  rw [CG_c (by decide)]
  obtain ⟨s1, s2, s3, s4⟩ := cPq hK
  have sT := (cPt hK hi).1
  have e311 : (311 : Int32) = nI 311 := rfl
  have e60 : (60 : Int32) = nI 60 := rfl
  have e61 : (61 : Int32) = nI 61 := rfl
  have e258 : (258 : Int32) = nI 258 := rfl
  have e300 : (300 : Int32) = nI 300 := rfl
  have e306 : (306 : Int32) = nI 306 := rfl
  have e45 : (45 : Int32) = nI 45 := rfl
  have e40 : (40 : Int32) = nI 40 := rfl
  have e41 : (41 : Int32) = nI 41 := rfl
  have e5 : (5 : Int32) = nI 5 := rfl
  intro ho d I Q hd hc hP H
  simp only [kD, Nat.reduceEqDiff, if_true, if_false] at hd
  show aC d 41 _ _ _
  obtain ⟨d, rfl⟩ : ∃ e, d = e + 1 := ⟨d - 1, by omega⟩
  have hT := tk_lt (tp := tp) (s := s) (p := p)
  have h3 := hP.1.2.2.1
  have h160 := hP.2.1.1
  have hps := hP.1.1
  have hlt := tk_ne (tp := tp) (s := s) (p := p) (by omega)
  have h5 := hP.1.2.2.2.2 ht
  have hn := nv_lt ht
  simp (disch := first | assumption | exact ct_i | exact ct_r | exact ct_n | exact ct_h | omega | exact z_in (by omega) (by omega) | exact b01 | exact Or.inl rfl | exact Or.inr rfl) only [b41, e41_0, e41_1, e41_4, e41_7, e41_10, e41_10n, e41_11, e41_12, e41_15, e41_18, e41_19, e41_22, e41_23, e41_24, e41_25, e41_28, e41_31, e41_34, e41_35, e41_38, e41_41, e41_44, e41_44n, e41_45, e41_46, e41_47, e41_50, e41_53, e41_54, e41_55, e41_58, e41_59, e41_62, e41_63, e41_64, e41_65, e41_68, e41_70, e41_73, e41_74, e41_77, e41_79, e41_82, e41_83, e41_84, e41_87, e41_88, e41_89, e41_90, e41_93, e41_95, e41_98, e41_99, e41_99n, e41_100, e41_101, e41_104, e41_107, e41_108, e41_108n, e41_109, e41_110, e41_113, ct_i, ct_r, ct_n, ct_h, opt_v, opt_s, ref_s, ref_n, eq_self_iff_true, true_or, or_true, zl0, zl1, zl2, zl3, zl4, zl5, zl6, zl7, zl8, zl9, zl10, zl16, zl32, zl40, zl100, zl160, zIc1, zI_lt, zI_le, nI_eq, nI_add, z_sub, nI_clamp, zI_of, uu_eq, uu_ne, Nat.reduceLT, Nat.reduceLeDiff, Nat.reduceEqDiff, Nat.reduceAdd, Nat.reduceSub, Nat.reduceMul, Nat.not_lt_zero, Nat.lt_irrefl, Nat.le_refl, Bool.false_eq_true, false_and, and_false, true_and, and_true, if_pos, if_neg, if_true, if_false, not_true_eq_false, not_false_eq_true, s1, h3, h5, ht, e258]
  refine k70p (show 1 ≤ d by omega) hK hi hP (show c.length < 160 by omega) (show nI (nv tp s p) = cCell (nv tp s p) from (if_pos hn).symm) (fun I' hP' => ?_)
  simp (disch := first | assumption | exact ct_i | exact ct_r | exact ct_n | exact ct_h | omega | exact z_in (by omega) (by omega) | exact b01 | exact Or.inl rfl | exact Or.inr rfl) only [e41_0, e41_1, e41_4, e41_7, e41_10, e41_10n, e41_11, e41_12, e41_15, e41_18, e41_19, e41_22, e41_23, e41_24, e41_25, e41_28, e41_31, e41_34, e41_35, e41_38, e41_41, e41_44, e41_44n, e41_45, e41_46, e41_47, e41_50, e41_53, e41_54, e41_55, e41_58, e41_59, e41_62, e41_63, e41_64, e41_65, e41_68, e41_70, e41_73, e41_74, e41_77, e41_79, e41_82, e41_83, e41_84, e41_87, e41_88, e41_89, e41_90, e41_93, e41_95, e41_98, e41_99, e41_99n, e41_100, e41_101, e41_104, e41_107, e41_108, e41_108n, e41_109, e41_110, e41_113, ct_i, ct_r, ct_n, ct_h, opt_v, opt_s, ref_s, ref_n, eq_self_iff_true, true_or, or_true, zl0, zl1, zl2, zl3, zl4, zl5, zl6, zl7, zl8, zl9, zl10, zl16, zl32, zl40, zl100, zl160, zIc1, zI_lt, zI_le, nI_eq, nI_add, z_sub, nI_clamp, zI_of, uu_eq, uu_ne, Nat.reduceLT, Nat.reduceLeDiff, Nat.reduceEqDiff, Nat.reduceAdd, Nat.reduceSub, Nat.reduceMul, Nat.not_lt_zero, Nat.lt_irrefl, Nat.le_refl, Bool.false_eq_true, false_and, and_false, true_and, and_true, if_pos, if_neg, if_true, if_false, not_true_eq_false, not_false_eq_true, s1]
  refine k27p (show 9 ≤ d by omega) hK hs hi hP' (fun I2 hP2 => ?_)
  simp (disch := first | assumption | exact ct_i | exact ct_r | exact ct_n | exact ct_h | omega | exact z_in (by omega) (by omega) | exact b01 | exact Or.inl rfl | exact Or.inr rfl) only [e41_0, e41_1, e41_4, e41_7, e41_10, e41_10n, e41_11, e41_12, e41_15, e41_18, e41_19, e41_22, e41_23, e41_24, e41_25, e41_28, e41_31, e41_34, e41_35, e41_38, e41_41, e41_44, e41_44n, e41_45, e41_46, e41_47, e41_50, e41_53, e41_54, e41_55, e41_58, e41_59, e41_62, e41_63, e41_64, e41_65, e41_68, e41_70, e41_73, e41_74, e41_77, e41_79, e41_82, e41_83, e41_84, e41_87, e41_88, e41_89, e41_90, e41_93, e41_95, e41_98, e41_99, e41_99n, e41_100, e41_101, e41_104, e41_107, e41_108, e41_108n, e41_109, e41_110, e41_113, ct_i, ct_r, ct_n, ct_h, opt_v, opt_s, ref_s, ref_n, eq_self_iff_true, true_or, or_true, zl0, zl1, zl2, zl3, zl4, zl5, zl6, zl7, zl8, zl9, zl10, zl16, zl32, zl40, zl100, zl160, zIc1, zI_lt, zI_le, nI_eq, nI_add, z_sub, nI_clamp, zI_of, uu_eq, uu_ne, Nat.reduceLT, Nat.reduceLeDiff, Nat.reduceEqDiff, Nat.reduceAdd, Nat.reduceSub, Nat.reduceMul, Nat.not_lt_zero, Nat.lt_irrefl, Nat.le_refl, Bool.false_eq_true, false_and, and_false, true_and, and_true, if_pos, if_neg, if_true, if_false, not_true_eq_false, not_false_eq_true, s1]
  exact H I2 hP2

theorem q15 (hK : cK nd sh R) (hs : ∀ x, 1000000 ≤ x → sh x = (999, 0)) (hi : i < 6) {o p : Nat} {c : List Nat} {j : Nat} (hp : p ≤ s) (hj : j < 6) (ht : tk tp s p = 300 + j) : CG tp s i n t sh I0 L R 10 o p c true (nx tp s p) (c ++ [10000 + j]) := by
  rw [CG_c (by decide)]
  obtain ⟨s1, s2, s3, s4⟩ := cPq hK
  have sT := (cPt hK hi).1
  have e311 : (311 : Int32) = nI 311 := rfl
  have e60 : (60 : Int32) = nI 60 := rfl
  have e61 : (61 : Int32) = nI 61 := rfl
  have e258 : (258 : Int32) = nI 258 := rfl
  have e300 : (300 : Int32) = nI 300 := rfl
  have e306 : (306 : Int32) = nI 306 := rfl
  have e45 : (45 : Int32) = nI 45 := rfl
  have e40 : (40 : Int32) = nI 40 := rfl
  have e41 : (41 : Int32) = nI 41 := rfl
  have e5 : (5 : Int32) = nI 5 := rfl
  intro ho d I Q hd hc hP H
  simp only [kD, Nat.reduceEqDiff, if_true, if_false] at hd
  show aC d 41 _ _ _
  obtain ⟨d, rfl⟩ : ∃ e, d = e + 1 := ⟨d - 1, by omega⟩
  have hT := tk_lt (tp := tp) (s := s) (p := p)
  have h3 := hP.1.2.2.1
  have h160 := hP.2.1.1
  have hps := hP.1.1
  have hlt := tk_ne (tp := tp) (s := s) (p := p) (by omega)
  have hz : nI (300 + j) - nI 300 = nI j := by rw [z_sub (by omega), Nat.add_sub_cancel_left]
  have hv : -nI 1 - nI j = cCell (10000 + j) := by
    rcases (show j = 0 ∨ j = 1 ∨ j = 2 ∨ j = 3 ∨ j = 4 ∨ j = 5 by omega) with rfl | rfl | rfl | rfl | rfl | rfl <;> decide
  have hjj : 300 + j - 300 = j := by omega
  simp (disch := first | assumption | exact ct_i | exact ct_r | exact ct_n | exact ct_h | omega | exact z_in (by omega) (by omega) | exact b01 | exact Or.inl rfl | exact Or.inr rfl) only [b41, e41_0, e41_1, e41_4, e41_7, e41_10, e41_10n, e41_11, e41_12, e41_15, e41_18, e41_19, e41_22, e41_23, e41_24, e41_25, e41_28, e41_31, e41_34, e41_35, e41_38, e41_41, e41_44, e41_44n, e41_45, e41_46, e41_47, e41_50, e41_53, e41_54, e41_55, e41_58, e41_59, e41_62, e41_63, e41_64, e41_65, e41_68, e41_70, e41_73, e41_74, e41_77, e41_79, e41_82, e41_83, e41_84, e41_87, e41_88, e41_89, e41_90, e41_93, e41_95, e41_98, e41_99, e41_99n, e41_100, e41_101, e41_104, e41_107, e41_108, e41_108n, e41_109, e41_110, e41_113, ct_i, ct_r, ct_n, ct_h, opt_v, opt_s, ref_s, ref_n, eq_self_iff_true, true_or, or_true, zl0, zl1, zl2, zl3, zl4, zl5, zl6, zl7, zl8, zl9, zl10, zl16, zl32, zl40, zl100, zl160, zIc1, zI_lt, zI_le, nI_eq, nI_add, z_sub, nI_clamp, zI_of, uu_eq, uu_ne, Nat.reduceLT, Nat.reduceLeDiff, Nat.reduceEqDiff, Nat.reduceAdd, Nat.reduceSub, Nat.reduceMul, Nat.not_lt_zero, Nat.lt_irrefl, Nat.le_refl, Bool.false_eq_true, false_and, and_false, true_and, and_true, if_pos, if_neg, if_true, if_false, not_true_eq_false, not_false_eq_true, s1, h3, ht, e258, e300, e306, hz, hjj]
  refine k70p (show 1 ≤ d by omega) hK hi hP (show c.length < 160 by omega) hv (fun I' hP' => ?_)
  simp (disch := first | assumption | exact ct_i | exact ct_r | exact ct_n | exact ct_h | omega | exact z_in (by omega) (by omega) | exact b01 | exact Or.inl rfl | exact Or.inr rfl) only [e41_0, e41_1, e41_4, e41_7, e41_10, e41_10n, e41_11, e41_12, e41_15, e41_18, e41_19, e41_22, e41_23, e41_24, e41_25, e41_28, e41_31, e41_34, e41_35, e41_38, e41_41, e41_44, e41_44n, e41_45, e41_46, e41_47, e41_50, e41_53, e41_54, e41_55, e41_58, e41_59, e41_62, e41_63, e41_64, e41_65, e41_68, e41_70, e41_73, e41_74, e41_77, e41_79, e41_82, e41_83, e41_84, e41_87, e41_88, e41_89, e41_90, e41_93, e41_95, e41_98, e41_99, e41_99n, e41_100, e41_101, e41_104, e41_107, e41_108, e41_108n, e41_109, e41_110, e41_113, ct_i, ct_r, ct_n, ct_h, opt_v, opt_s, ref_s, ref_n, eq_self_iff_true, true_or, or_true, zl0, zl1, zl2, zl3, zl4, zl5, zl6, zl7, zl8, zl9, zl10, zl16, zl32, zl40, zl100, zl160, zIc1, zI_lt, zI_le, nI_eq, nI_add, z_sub, nI_clamp, zI_of, uu_eq, uu_ne, Nat.reduceLT, Nat.reduceLeDiff, Nat.reduceEqDiff, Nat.reduceAdd, Nat.reduceSub, Nat.reduceMul, Nat.not_lt_zero, Nat.lt_irrefl, Nat.le_refl, Bool.false_eq_true, false_and, and_false, true_and, and_true, if_pos, if_neg, if_true, if_false, not_true_eq_false, not_false_eq_true, s1]
  refine k27p (show 9 ≤ d by omega) hK hs hi hP' (fun I2 hP2 => ?_)
  simp (disch := first | assumption | exact ct_i | exact ct_r | exact ct_n | exact ct_h | omega | exact z_in (by omega) (by omega) | exact b01 | exact Or.inl rfl | exact Or.inr rfl) only [e41_0, e41_1, e41_4, e41_7, e41_10, e41_10n, e41_11, e41_12, e41_15, e41_18, e41_19, e41_22, e41_23, e41_24, e41_25, e41_28, e41_31, e41_34, e41_35, e41_38, e41_41, e41_44, e41_44n, e41_45, e41_46, e41_47, e41_50, e41_53, e41_54, e41_55, e41_58, e41_59, e41_62, e41_63, e41_64, e41_65, e41_68, e41_70, e41_73, e41_74, e41_77, e41_79, e41_82, e41_83, e41_84, e41_87, e41_88, e41_89, e41_90, e41_93, e41_95, e41_98, e41_99, e41_99n, e41_100, e41_101, e41_104, e41_107, e41_108, e41_108n, e41_109, e41_110, e41_113, ct_i, ct_r, ct_n, ct_h, opt_v, opt_s, ref_s, ref_n, eq_self_iff_true, true_or, or_true, zl0, zl1, zl2, zl3, zl4, zl5, zl6, zl7, zl8, zl9, zl10, zl16, zl32, zl40, zl100, zl160, zIc1, zI_lt, zI_le, nI_eq, nI_add, z_sub, nI_clamp, zI_of, uu_eq, uu_ne, Nat.reduceLT, Nat.reduceLeDiff, Nat.reduceEqDiff, Nat.reduceAdd, Nat.reduceSub, Nat.reduceMul, Nat.not_lt_zero, Nat.lt_irrefl, Nat.le_refl, Bool.false_eq_true, false_and, and_false, true_and, and_true, if_pos, if_neg, if_true, if_false, not_true_eq_false, not_false_eq_true, s1]
  exact H I2 hP2

theorem q16 (hK : cK nd sh R) (hs : ∀ x, 1000000 ≤ x → sh x = (999, 0)) (hi : i < 6) {o p : Nat} {c : List Nat} (t1 : ¬ tk tp s p = 258) (t2 : ¬ (300 ≤ tk tp s p ∧ tk tp s p < 306)) (t3 : ¬ (tk tp s p = 45 ∨ tk tp s p = 40) ∨ 5 ≤ o) : CG tp s i n t sh I0 L R 10 o p c false p c := by
  rw [CG_c (by decide)]
  obtain ⟨s1, s2, s3, s4⟩ := cPq hK
  have sT := (cPt hK hi).1
  have e311 : (311 : Int32) = nI 311 := rfl
  have e60 : (60 : Int32) = nI 60 := rfl
  have e61 : (61 : Int32) = nI 61 := rfl
  have e258 : (258 : Int32) = nI 258 := rfl
  have e300 : (300 : Int32) = nI 300 := rfl
  have e306 : (306 : Int32) = nI 306 := rfl
  have e45 : (45 : Int32) = nI 45 := rfl
  have e40 : (40 : Int32) = nI 40 := rfl
  have e41 : (41 : Int32) = nI 41 := rfl
  have e5 : (5 : Int32) = nI 5 := rfl
  intro ho d I Q hd hc hP H
  simp only [kD, Nat.reduceEqDiff, if_true, if_false] at hd
  show aC d 41 _ _ _
  obtain ⟨d, rfl⟩ : ∃ e, d = e + 1 := ⟨d - 1, by omega⟩
  have hT := tk_lt (tp := tp) (s := s) (p := p)
  have h3 := hP.1.2.2.1
  have h160 := hP.2.1.1
  have hps := hP.1.1
  have := H I hP
  simp (disch := first | assumption | exact ct_i | exact ct_r | exact ct_n | exact ct_h | omega | exact z_in (by omega) (by omega) | exact b01 | exact Or.inl rfl | exact Or.inr rfl) only [Bool.false_eq_true, if_false] at this
  by_cases u1 : tk tp s p < 300
  · by_cases u2 : tk tp s p = 45
    · have h5 : 5 ≤ o := by omega
      simp (disch := first | assumption | exact ct_i | exact ct_r | exact ct_n | exact ct_h | omega | exact z_in (by omega) (by omega) | exact b01 | exact Or.inl rfl | exact Or.inr rfl) only [b41, e41_0, e41_1, e41_4, e41_7, e41_10, e41_10n, e41_11, e41_12, e41_15, e41_18, e41_19, e41_22, e41_23, e41_24, e41_25, e41_28, e41_31, e41_34, e41_35, e41_38, e41_41, e41_44, e41_44n, e41_45, e41_46, e41_47, e41_50, e41_53, e41_54, e41_55, e41_58, e41_59, e41_62, e41_63, e41_64, e41_65, e41_68, e41_70, e41_73, e41_74, e41_77, e41_79, e41_82, e41_83, e41_84, e41_87, e41_88, e41_89, e41_90, e41_93, e41_95, e41_98, e41_99, e41_99n, e41_100, e41_101, e41_104, e41_107, e41_108, e41_108n, e41_109, e41_110, e41_113, ct_i, ct_r, ct_n, ct_h, opt_v, opt_s, ref_s, ref_n, eq_self_iff_true, true_or, or_true, zl0, zl1, zl2, zl3, zl4, zl5, zl6, zl7, zl8, zl9, zl10, zl16, zl32, zl40, zl100, zl160, zIc1, zI_lt, zI_le, nI_eq, nI_add, z_sub, nI_clamp, zI_of, uu_eq, uu_ne, Nat.reduceLT, Nat.reduceLeDiff, Nat.reduceEqDiff, Nat.reduceAdd, Nat.reduceSub, Nat.reduceMul, Nat.not_lt_zero, Nat.lt_irrefl, Nat.le_refl, Bool.false_eq_true, false_and, and_false, true_and, and_true, if_pos, if_neg, if_true, if_false, not_true_eq_false, not_false_eq_true, s1, h3, t1, e258, e300, e306, e45, e40, e5, u2]
      exact this
    · by_cases u3 : tk tp s p = 40
      · have h5 : 5 ≤ o := by omega
        simp (disch := first | assumption | exact ct_i | exact ct_r | exact ct_n | exact ct_h | omega | exact z_in (by omega) (by omega) | exact b01 | exact Or.inl rfl | exact Or.inr rfl) only [b41, e41_0, e41_1, e41_4, e41_7, e41_10, e41_10n, e41_11, e41_12, e41_15, e41_18, e41_19, e41_22, e41_23, e41_24, e41_25, e41_28, e41_31, e41_34, e41_35, e41_38, e41_41, e41_44, e41_44n, e41_45, e41_46, e41_47, e41_50, e41_53, e41_54, e41_55, e41_58, e41_59, e41_62, e41_63, e41_64, e41_65, e41_68, e41_70, e41_73, e41_74, e41_77, e41_79, e41_82, e41_83, e41_84, e41_87, e41_88, e41_89, e41_90, e41_93, e41_95, e41_98, e41_99, e41_99n, e41_100, e41_101, e41_104, e41_107, e41_108, e41_108n, e41_109, e41_110, e41_113, ct_i, ct_r, ct_n, ct_h, opt_v, opt_s, ref_s, ref_n, eq_self_iff_true, true_or, or_true, zl0, zl1, zl2, zl3, zl4, zl5, zl6, zl7, zl8, zl9, zl10, zl16, zl32, zl40, zl100, zl160, zIc1, zI_lt, zI_le, nI_eq, nI_add, z_sub, nI_clamp, zI_of, uu_eq, uu_ne, Nat.reduceLT, Nat.reduceLeDiff, Nat.reduceEqDiff, Nat.reduceAdd, Nat.reduceSub, Nat.reduceMul, Nat.not_lt_zero, Nat.lt_irrefl, Nat.le_refl, Bool.false_eq_true, false_and, and_false, true_and, and_true, if_pos, if_neg, if_true, if_false, not_true_eq_false, not_false_eq_true, s1, h3, t1, e258, e300, e306, e45, e40, e5, u2, u3]
        exact this
      · simp (disch := first | assumption | exact ct_i | exact ct_r | exact ct_n | exact ct_h | omega | exact z_in (by omega) (by omega) | exact b01 | exact Or.inl rfl | exact Or.inr rfl) only [b41, e41_0, e41_1, e41_4, e41_7, e41_10, e41_10n, e41_11, e41_12, e41_15, e41_18, e41_19, e41_22, e41_23, e41_24, e41_25, e41_28, e41_31, e41_34, e41_35, e41_38, e41_41, e41_44, e41_44n, e41_45, e41_46, e41_47, e41_50, e41_53, e41_54, e41_55, e41_58, e41_59, e41_62, e41_63, e41_64, e41_65, e41_68, e41_70, e41_73, e41_74, e41_77, e41_79, e41_82, e41_83, e41_84, e41_87, e41_88, e41_89, e41_90, e41_93, e41_95, e41_98, e41_99, e41_99n, e41_100, e41_101, e41_104, e41_107, e41_108, e41_108n, e41_109, e41_110, e41_113, ct_i, ct_r, ct_n, ct_h, opt_v, opt_s, ref_s, ref_n, eq_self_iff_true, true_or, or_true, zl0, zl1, zl2, zl3, zl4, zl5, zl6, zl7, zl8, zl9, zl10, zl16, zl32, zl40, zl100, zl160, zIc1, zI_lt, zI_le, nI_eq, nI_add, z_sub, nI_clamp, zI_of, uu_eq, uu_ne, Nat.reduceLT, Nat.reduceLeDiff, Nat.reduceEqDiff, Nat.reduceAdd, Nat.reduceSub, Nat.reduceMul, Nat.not_lt_zero, Nat.lt_irrefl, Nat.le_refl, Bool.false_eq_true, false_and, and_false, true_and, and_true, if_pos, if_neg, if_true, if_false, not_true_eq_false, not_false_eq_true, s1, h3, t1, e258, e300, e306, e45, e40, e5, u2, u3]
        exact this
  · have u2 : ¬ tk tp s p = 45 := by omega
    have u3 : ¬ tk tp s p = 40 := by omega
    simp (disch := first | assumption | exact ct_i | exact ct_r | exact ct_n | exact ct_h | omega | exact z_in (by omega) (by omega) | exact b01 | exact Or.inl rfl | exact Or.inr rfl) only [b41, e41_0, e41_1, e41_4, e41_7, e41_10, e41_10n, e41_11, e41_12, e41_15, e41_18, e41_19, e41_22, e41_23, e41_24, e41_25, e41_28, e41_31, e41_34, e41_35, e41_38, e41_41, e41_44, e41_44n, e41_45, e41_46, e41_47, e41_50, e41_53, e41_54, e41_55, e41_58, e41_59, e41_62, e41_63, e41_64, e41_65, e41_68, e41_70, e41_73, e41_74, e41_77, e41_79, e41_82, e41_83, e41_84, e41_87, e41_88, e41_89, e41_90, e41_93, e41_95, e41_98, e41_99, e41_99n, e41_100, e41_101, e41_104, e41_107, e41_108, e41_108n, e41_109, e41_110, e41_113, ct_i, ct_r, ct_n, ct_h, opt_v, opt_s, ref_s, ref_n, eq_self_iff_true, true_or, or_true, zl0, zl1, zl2, zl3, zl4, zl5, zl6, zl7, zl8, zl9, zl10, zl16, zl32, zl40, zl100, zl160, zIc1, zI_lt, zI_le, nI_eq, nI_add, z_sub, nI_clamp, zI_of, uu_eq, uu_ne, Nat.reduceLT, Nat.reduceLeDiff, Nat.reduceEqDiff, Nat.reduceAdd, Nat.reduceSub, Nat.reduceMul, Nat.not_lt_zero, Nat.lt_irrefl, Nat.le_refl, Bool.false_eq_true, false_and, and_false, true_and, and_true, if_pos, if_neg, if_true, if_false, not_true_eq_false, not_false_eq_true, s1, h3, t1, e258, e300, e306, e45, e40, e5, u2, u3]
    exact this

theorem q17 (hK : cK nd sh R) (hs : ∀ x, 1000000 ≤ x → sh x = (999, 0)) (hi : i < 6) {o p : Nat} {c : List Nat} {p1 : Nat} {c1 : List Nat} (hp : p ≤ s) (ht : tk tp s p = 45) (h5 : ¬ 5 ≤ o) (B : Bd s (nx tp s p) c p1 c1) (g1 : CG tp s i n t sh I0 L R 10 (o + 1) (nx tp s p) c true p1 c1) : CG tp s i n t sh I0 L R 10 o p c true p1 (c1 ++ [10006]) := by
  rw [CG_c (by decide)] at g1 ⊢
  obtain ⟨s1, s2, s3, s4⟩ := cPq hK
  have sT := (cPt hK hi).1
  have e311 : (311 : Int32) = nI 311 := rfl
  have e60 : (60 : Int32) = nI 60 := rfl
  have e61 : (61 : Int32) = nI 61 := rfl
  have e258 : (258 : Int32) = nI 258 := rfl
  have e300 : (300 : Int32) = nI 300 := rfl
  have e306 : (306 : Int32) = nI 306 := rfl
  have e45 : (45 : Int32) = nI 45 := rfl
  have e40 : (40 : Int32) = nI 40 := rfl
  have e41 : (41 : Int32) = nI 41 := rfl
  have e5 : (5 : Int32) = nI 5 := rfl
  intro ho d I Q hd hc hP H
  simp only [kD, Nat.reduceEqDiff, if_true, if_false] at hd
  obtain ⟨B1, B2, B3, B4⟩ := B
  show aC d 41 _ _ _
  obtain ⟨d, rfl⟩ : ∃ e, d = e + 1 := ⟨d - 1, by omega⟩
  have hT := tk_lt (tp := tp) (s := s) (p := p)
  have h3 := hP.1.2.2.1
  have h160 := hP.2.1.1
  have hps := hP.1.1
  have hlt := tk_ne (tp := tp) (s := s) (p := p) (by omega)
  have hnx := nx_gt (tp := tp) hlt
  obtain ⟨d, rfl⟩ : ∃ e, d = e + 1 := ⟨d - 1, by omega⟩
  simp (disch := first | assumption | exact ct_i | exact ct_r | exact ct_n | exact ct_h | omega | exact z_in (by omega) (by omega) | exact b01 | exact Or.inl rfl | exact Or.inr rfl) only [b41, b42, e41_0, e41_1, e41_4, e41_7, e41_10, e41_10n, e41_11, e41_12, e41_15, e41_18, e41_19, e41_22, e41_23, e41_24, e41_25, e41_28, e41_31, e41_34, e41_35, e41_38, e41_41, e41_44, e41_44n, e41_45, e41_46, e41_47, e41_50, e41_53, e41_54, e41_55, e41_58, e41_59, e41_62, e41_63, e41_64, e41_65, e41_68, e41_70, e41_73, e41_74, e41_77, e41_79, e41_82, e41_83, e41_84, e41_87, e41_88, e41_89, e41_90, e41_93, e41_95, e41_98, e41_99, e41_99n, e41_100, e41_101, e41_104, e41_107, e41_108, e41_108n, e41_109, e41_110, e41_113, e42_0, e42_1, e42_4, e42_5, e42_5n, e42_6, e42_7, e42_8, e42_9, e42_12, e42_15, e42_16, e42_17, e42_17n, e42_18, e42_20, e42_23, e42_24, ct_i, ct_r, ct_n, ct_h, opt_v, opt_s, ref_s, ref_n, eq_self_iff_true, true_or, or_true, zl0, zl1, zl2, zl3, zl4, zl5, zl6, zl7, zl8, zl9, zl10, zl16, zl32, zl40, zl100, zl160, zIc1, zI_lt, zI_le, nI_eq, nI_add, z_sub, nI_clamp, zI_of, uu_eq, uu_ne, Nat.reduceLT, Nat.reduceLeDiff, Nat.reduceEqDiff, Nat.reduceAdd, Nat.reduceSub, Nat.reduceMul, Nat.not_lt_zero, Nat.lt_irrefl, Nat.le_refl, Bool.false_eq_true, false_and, and_false, true_and, and_true, if_pos, if_neg, if_true, if_false, not_true_eq_false, not_false_eq_true, s1, h3, ht, e258, e300, e306, e45, e40, e5]
  refine k27p (show 9 ≤ d by omega) hK hs hi hP (fun I' hP' => ?_)
  simp (disch := first | assumption | exact ct_i | exact ct_r | exact ct_n | exact ct_h | omega | exact z_in (by omega) (by omega) | exact b01 | exact Or.inl rfl | exact Or.inr rfl) only [e42_0, e42_1, e42_4, e42_5, e42_5n, e42_6, e42_7, e42_8, e42_9, e42_12, e42_15, e42_16, e42_17, e42_17n, e42_18, e42_20, e42_23, e42_24, ct_i, ct_r, ct_n, ct_h, opt_v, opt_s, ref_s, ref_n, eq_self_iff_true, true_or, or_true, zl0, zl1, zl2, zl3, zl4, zl5, zl6, zl7, zl8, zl9, zl10, zl16, zl32, zl40, zl100, zl160, zIc1, zI_lt, zI_le, nI_eq, nI_add, z_sub, nI_clamp, zI_of, uu_eq, uu_ne, Nat.reduceLT, Nat.reduceLeDiff, Nat.reduceEqDiff, Nat.reduceAdd, Nat.reduceSub, Nat.reduceMul, Nat.not_lt_zero, Nat.lt_irrefl, Nat.le_refl, Bool.false_eq_true, false_and, and_false, true_and, and_true, if_pos, if_neg, if_true, if_false, not_true_eq_false, not_false_eq_true, s1]
  refine g1 (by omega) d I' _ (by simp only [kD, Nat.reduceSub, Nat.reduceEqDiff, if_true, if_false] at hd ⊢; omega) (by omega) hP' (fun I2 hP2 => ?_)
  simp (disch := first | assumption | exact ct_i | exact ct_r | exact ct_n | exact ct_h | omega | exact z_in (by omega) (by omega) | exact b01 | exact Or.inl rfl | exact Or.inr rfl) only [e42_0, e42_1, e42_4, e42_5, e42_5n, e42_6, e42_7, e42_8, e42_9, e42_12, e42_15, e42_16, e42_17, e42_17n, e42_18, e42_20, e42_23, e42_24, ct_i, ct_r, ct_n, ct_h, opt_v, opt_s, ref_s, ref_n, eq_self_iff_true, true_or, or_true, zl0, zl1, zl2, zl3, zl4, zl5, zl6, zl7, zl8, zl9, zl10, zl16, zl32, zl40, zl100, zl160, zIc1, zI_lt, zI_le, nI_eq, nI_add, z_sub, nI_clamp, zI_of, uu_eq, uu_ne, Nat.reduceLT, Nat.reduceLeDiff, Nat.reduceEqDiff, Nat.reduceAdd, Nat.reduceSub, Nat.reduceMul, Nat.not_lt_zero, Nat.lt_irrefl, Nat.le_refl, Bool.false_eq_true, false_and, and_false, true_and, and_true, if_pos, if_neg, if_true, if_false, not_true_eq_false, not_false_eq_true, s1]
  refine k70p (show 1 ≤ d by omega) hK hi hP2 (show c1.length < 160 by omega) (show -nI 7 = cCell 10006 by decide) (fun I3 hP3 => ?_)
  simp (disch := first | assumption | exact ct_i | exact ct_r | exact ct_n | exact ct_h | omega | exact z_in (by omega) (by omega) | exact b01 | exact Or.inl rfl | exact Or.inr rfl) only [e41_0, e41_1, e41_4, e41_7, e41_10, e41_10n, e41_11, e41_12, e41_15, e41_18, e41_19, e41_22, e41_23, e41_24, e41_25, e41_28, e41_31, e41_34, e41_35, e41_38, e41_41, e41_44, e41_44n, e41_45, e41_46, e41_47, e41_50, e41_53, e41_54, e41_55, e41_58, e41_59, e41_62, e41_63, e41_64, e41_65, e41_68, e41_70, e41_73, e41_74, e41_77, e41_79, e41_82, e41_83, e41_84, e41_87, e41_88, e41_89, e41_90, e41_93, e41_95, e41_98, e41_99, e41_99n, e41_100, e41_101, e41_104, e41_107, e41_108, e41_108n, e41_109, e41_110, e41_113, e42_0, e42_1, e42_4, e42_5, e42_5n, e42_6, e42_7, e42_8, e42_9, e42_12, e42_15, e42_16, e42_17, e42_17n, e42_18, e42_20, e42_23, e42_24, ct_i, ct_r, ct_n, ct_h, opt_v, opt_s, ref_s, ref_n, eq_self_iff_true, true_or, or_true, zl0, zl1, zl2, zl3, zl4, zl5, zl6, zl7, zl8, zl9, zl10, zl16, zl32, zl40, zl100, zl160, zIc1, zI_lt, zI_le, nI_eq, nI_add, z_sub, nI_clamp, zI_of, uu_eq, uu_ne, Nat.reduceLT, Nat.reduceLeDiff, Nat.reduceEqDiff, Nat.reduceAdd, Nat.reduceSub, Nat.reduceMul, Nat.not_lt_zero, Nat.lt_irrefl, Nat.le_refl, Bool.false_eq_true, false_and, and_false, true_and, and_true, if_pos, if_neg, if_true, if_false, not_true_eq_false, not_false_eq_true, s1]
  exact H I3 hP3

theorem q18 (hK : cK nd sh R) (hs : ∀ x, 1000000 ≤ x → sh x = (999, 0)) (hi : i < 6) {o p : Nat} {c : List Nat} {p1 : Nat} {c1 : List Nat} (hp : p ≤ s) (ht : tk tp s p = 45) (h5 : ¬ 5 ≤ o) (B : Bd s (nx tp s p) c p1 c1) (g1 : CG tp s i n t sh I0 L R 10 (o + 1) (nx tp s p) c false p1 c1) : CG tp s i n t sh I0 L R 10 o p c false p1 c1 := by
  rw [CG_c (by decide)] at g1 ⊢
  obtain ⟨s1, s2, s3, s4⟩ := cPq hK
  have sT := (cPt hK hi).1
  have e311 : (311 : Int32) = nI 311 := rfl
  have e60 : (60 : Int32) = nI 60 := rfl
  have e61 : (61 : Int32) = nI 61 := rfl
  have e258 : (258 : Int32) = nI 258 := rfl
  have e300 : (300 : Int32) = nI 300 := rfl
  have e306 : (306 : Int32) = nI 306 := rfl
  have e45 : (45 : Int32) = nI 45 := rfl
  have e40 : (40 : Int32) = nI 40 := rfl
  have e41 : (41 : Int32) = nI 41 := rfl
  have e5 : (5 : Int32) = nI 5 := rfl
  intro ho d I Q hd hc hP H
  simp only [kD, Nat.reduceEqDiff, if_true, if_false] at hd
  obtain ⟨B1, B2, B3, B4⟩ := B
  show aC d 41 _ _ _
  obtain ⟨d, rfl⟩ : ∃ e, d = e + 1 := ⟨d - 1, by omega⟩
  have hT := tk_lt (tp := tp) (s := s) (p := p)
  have h3 := hP.1.2.2.1
  have h160 := hP.2.1.1
  have hps := hP.1.1
  have hlt := tk_ne (tp := tp) (s := s) (p := p) (by omega)
  have hnx := nx_gt (tp := tp) hlt
  obtain ⟨d, rfl⟩ : ∃ e, d = e + 1 := ⟨d - 1, by omega⟩
  simp (disch := first | assumption | exact ct_i | exact ct_r | exact ct_n | exact ct_h | omega | exact z_in (by omega) (by omega) | exact b01 | exact Or.inl rfl | exact Or.inr rfl) only [b41, b42, e41_0, e41_1, e41_4, e41_7, e41_10, e41_10n, e41_11, e41_12, e41_15, e41_18, e41_19, e41_22, e41_23, e41_24, e41_25, e41_28, e41_31, e41_34, e41_35, e41_38, e41_41, e41_44, e41_44n, e41_45, e41_46, e41_47, e41_50, e41_53, e41_54, e41_55, e41_58, e41_59, e41_62, e41_63, e41_64, e41_65, e41_68, e41_70, e41_73, e41_74, e41_77, e41_79, e41_82, e41_83, e41_84, e41_87, e41_88, e41_89, e41_90, e41_93, e41_95, e41_98, e41_99, e41_99n, e41_100, e41_101, e41_104, e41_107, e41_108, e41_108n, e41_109, e41_110, e41_113, e42_0, e42_1, e42_4, e42_5, e42_5n, e42_6, e42_7, e42_8, e42_9, e42_12, e42_15, e42_16, e42_17, e42_17n, e42_18, e42_20, e42_23, e42_24, ct_i, ct_r, ct_n, ct_h, opt_v, opt_s, ref_s, ref_n, eq_self_iff_true, true_or, or_true, zl0, zl1, zl2, zl3, zl4, zl5, zl6, zl7, zl8, zl9, zl10, zl16, zl32, zl40, zl100, zl160, zIc1, zI_lt, zI_le, nI_eq, nI_add, z_sub, nI_clamp, zI_of, uu_eq, uu_ne, Nat.reduceLT, Nat.reduceLeDiff, Nat.reduceEqDiff, Nat.reduceAdd, Nat.reduceSub, Nat.reduceMul, Nat.not_lt_zero, Nat.lt_irrefl, Nat.le_refl, Bool.false_eq_true, false_and, and_false, true_and, and_true, if_pos, if_neg, if_true, if_false, not_true_eq_false, not_false_eq_true, s1, h3, ht, e258, e300, e306, e45, e40, e5]
  refine k27p (show 9 ≤ d by omega) hK hs hi hP (fun I' hP' => ?_)
  simp (disch := first | assumption | exact ct_i | exact ct_r | exact ct_n | exact ct_h | omega | exact z_in (by omega) (by omega) | exact b01 | exact Or.inl rfl | exact Or.inr rfl) only [e42_0, e42_1, e42_4, e42_5, e42_5n, e42_6, e42_7, e42_8, e42_9, e42_12, e42_15, e42_16, e42_17, e42_17n, e42_18, e42_20, e42_23, e42_24, ct_i, ct_r, ct_n, ct_h, opt_v, opt_s, ref_s, ref_n, eq_self_iff_true, true_or, or_true, zl0, zl1, zl2, zl3, zl4, zl5, zl6, zl7, zl8, zl9, zl10, zl16, zl32, zl40, zl100, zl160, zIc1, zI_lt, zI_le, nI_eq, nI_add, z_sub, nI_clamp, zI_of, uu_eq, uu_ne, Nat.reduceLT, Nat.reduceLeDiff, Nat.reduceEqDiff, Nat.reduceAdd, Nat.reduceSub, Nat.reduceMul, Nat.not_lt_zero, Nat.lt_irrefl, Nat.le_refl, Bool.false_eq_true, false_and, and_false, true_and, and_true, if_pos, if_neg, if_true, if_false, not_true_eq_false, not_false_eq_true, s1]
  refine g1 (by omega) d I' _ (by simp only [kD, Nat.reduceSub, Nat.reduceEqDiff, if_true, if_false] at hd ⊢; omega) (by omega) hP' (fun I2 hP2 => ?_)
  have := H I2 hP2
  simp (disch := first | assumption | exact ct_i | exact ct_r | exact ct_n | exact ct_h | omega | exact z_in (by omega) (by omega) | exact b01 | exact Or.inl rfl | exact Or.inr rfl) only [Bool.false_eq_true, if_false] at this
  simp (disch := first | assumption | exact ct_i | exact ct_r | exact ct_n | exact ct_h | omega | exact z_in (by omega) (by omega) | exact b01 | exact Or.inl rfl | exact Or.inr rfl) only [e41_0, e41_1, e41_4, e41_7, e41_10, e41_10n, e41_11, e41_12, e41_15, e41_18, e41_19, e41_22, e41_23, e41_24, e41_25, e41_28, e41_31, e41_34, e41_35, e41_38, e41_41, e41_44, e41_44n, e41_45, e41_46, e41_47, e41_50, e41_53, e41_54, e41_55, e41_58, e41_59, e41_62, e41_63, e41_64, e41_65, e41_68, e41_70, e41_73, e41_74, e41_77, e41_79, e41_82, e41_83, e41_84, e41_87, e41_88, e41_89, e41_90, e41_93, e41_95, e41_98, e41_99, e41_99n, e41_100, e41_101, e41_104, e41_107, e41_108, e41_108n, e41_109, e41_110, e41_113, e42_0, e42_1, e42_4, e42_5, e42_5n, e42_6, e42_7, e42_8, e42_9, e42_12, e42_15, e42_16, e42_17, e42_17n, e42_18, e42_20, e42_23, e42_24, ct_i, ct_r, ct_n, ct_h, opt_v, opt_s, ref_s, ref_n, eq_self_iff_true, true_or, or_true, zl0, zl1, zl2, zl3, zl4, zl5, zl6, zl7, zl8, zl9, zl10, zl16, zl32, zl40, zl100, zl160, zIc1, zI_lt, zI_le, nI_eq, nI_add, z_sub, nI_clamp, zI_of, uu_eq, uu_ne, Nat.reduceLT, Nat.reduceLeDiff, Nat.reduceEqDiff, Nat.reduceAdd, Nat.reduceSub, Nat.reduceMul, Nat.not_lt_zero, Nat.lt_irrefl, Nat.le_refl, Bool.false_eq_true, false_and, and_false, true_and, and_true, if_pos, if_neg, if_true, if_false, not_true_eq_false, not_false_eq_true, s1]
  exact this

theorem q19 (hK : cK nd sh R) (hs : ∀ x, 1000000 ≤ x → sh x = (999, 0)) (hi : i < 6) {o p : Nat} {c : List Nat} {p1 : Nat} {c1 : List Nat} (hp : p ≤ s) (ht : tk tp s p = 40) (h5 : ¬ 5 ≤ o) (B : Bd s (nx tp s p) c p1 c1) (g1 : CG tp s i n t sh I0 L R 0 (o + 1) (nx tp s p) c true p1 c1) (ht1 : tk tp s p1 = 41) : CG tp s i n t sh I0 L R 10 o p c true (nx tp s p1) c1 := by
  rw [CG_c (by decide)] at g1 ⊢
  obtain ⟨s1, s2, s3, s4⟩ := cPq hK
  have sT := (cPt hK hi).1
  have e311 : (311 : Int32) = nI 311 := rfl
  have e60 : (60 : Int32) = nI 60 := rfl
  have e61 : (61 : Int32) = nI 61 := rfl
  have e258 : (258 : Int32) = nI 258 := rfl
  have e300 : (300 : Int32) = nI 300 := rfl
  have e306 : (306 : Int32) = nI 306 := rfl
  have e45 : (45 : Int32) = nI 45 := rfl
  have e40 : (40 : Int32) = nI 40 := rfl
  have e41 : (41 : Int32) = nI 41 := rfl
  have e5 : (5 : Int32) = nI 5 := rfl
  intro ho d I Q hd hc hP H
  simp only [kD, Nat.reduceEqDiff, if_true, if_false] at hd
  obtain ⟨B1, B2, B3, B4⟩ := B
  show aC d 41 _ _ _
  obtain ⟨d, rfl⟩ : ∃ e, d = e + 1 := ⟨d - 1, by omega⟩
  have hT := tk_lt (tp := tp) (s := s) (p := p)
  have h3 := hP.1.2.2.1
  have h160 := hP.2.1.1
  have hps := hP.1.1
  have hlt := tk_ne (tp := tp) (s := s) (p := p) (by omega)
  have hnx := nx_gt (tp := tp) hlt
  obtain ⟨d, rfl⟩ : ∃ e, d = e + 1 := ⟨d - 1, by omega⟩
  simp (disch := first | assumption | exact ct_i | exact ct_r | exact ct_n | exact ct_h | omega | exact z_in (by omega) (by omega) | exact b01 | exact Or.inl rfl | exact Or.inr rfl) only [b41, b43, e41_0, e41_1, e41_4, e41_7, e41_10, e41_10n, e41_11, e41_12, e41_15, e41_18, e41_19, e41_22, e41_23, e41_24, e41_25, e41_28, e41_31, e41_34, e41_35, e41_38, e41_41, e41_44, e41_44n, e41_45, e41_46, e41_47, e41_50, e41_53, e41_54, e41_55, e41_58, e41_59, e41_62, e41_63, e41_64, e41_65, e41_68, e41_70, e41_73, e41_74, e41_77, e41_79, e41_82, e41_83, e41_84, e41_87, e41_88, e41_89, e41_90, e41_93, e41_95, e41_98, e41_99, e41_99n, e41_100, e41_101, e41_104, e41_107, e41_108, e41_108n, e41_109, e41_110, e41_113, e43_0, e43_1, e43_4, e43_5, e43_5n, e43_6, e43_7, e43_8, e43_9, e43_12, e43_15, e43_16, e43_19, e43_21, e43_24, e43_25, e43_26, e43_27, e43_30, e43_31, ct_i, ct_r, ct_n, ct_h, opt_v, opt_s, ref_s, ref_n, eq_self_iff_true, true_or, or_true, zl0, zl1, zl2, zl3, zl4, zl5, zl6, zl7, zl8, zl9, zl10, zl16, zl32, zl40, zl100, zl160, zIc1, zI_lt, zI_le, nI_eq, nI_add, z_sub, nI_clamp, zI_of, uu_eq, uu_ne, Nat.reduceLT, Nat.reduceLeDiff, Nat.reduceEqDiff, Nat.reduceAdd, Nat.reduceSub, Nat.reduceMul, Nat.not_lt_zero, Nat.lt_irrefl, Nat.le_refl, Bool.false_eq_true, false_and, and_false, true_and, and_true, if_pos, if_neg, if_true, if_false, not_true_eq_false, not_false_eq_true, s1, h3, ht, e258, e300, e306, e45, e40, e5]
  refine k27p (show 9 ≤ d by omega) hK hs hi hP (fun I' hP' => ?_)
  simp (disch := first | assumption | exact ct_i | exact ct_r | exact ct_n | exact ct_h | omega | exact z_in (by omega) (by omega) | exact b01 | exact Or.inl rfl | exact Or.inr rfl) only [e43_0, e43_1, e43_4, e43_5, e43_5n, e43_6, e43_7, e43_8, e43_9, e43_12, e43_15, e43_16, e43_19, e43_21, e43_24, e43_25, e43_26, e43_27, e43_30, e43_31, ct_i, ct_r, ct_n, ct_h, opt_v, opt_s, ref_s, ref_n, eq_self_iff_true, true_or, or_true, zl0, zl1, zl2, zl3, zl4, zl5, zl6, zl7, zl8, zl9, zl10, zl16, zl32, zl40, zl100, zl160, zIc1, zI_lt, zI_le, nI_eq, nI_add, z_sub, nI_clamp, zI_of, uu_eq, uu_ne, Nat.reduceLT, Nat.reduceLeDiff, Nat.reduceEqDiff, Nat.reduceAdd, Nat.reduceSub, Nat.reduceMul, Nat.not_lt_zero, Nat.lt_irrefl, Nat.le_refl, Bool.false_eq_true, false_and, and_false, true_and, and_true, if_pos, if_neg, if_true, if_false, not_true_eq_false, not_false_eq_true, s1]
  refine g1 (by omega) d I' _ (by simp only [kD, Nat.reduceSub, Nat.reduceEqDiff, if_true, if_false] at hd ⊢; omega) (by omega) hP' (fun I2 hP2 => ?_)
  have hT1 := tk_lt (tp := tp) (s := s) (p := p1)
  have h31 := hP2.1.2.2.1
  simp (disch := first | assumption | exact ct_i | exact ct_r | exact ct_n | exact ct_h | omega | exact z_in (by omega) (by omega) | exact b01 | exact Or.inl rfl | exact Or.inr rfl) only [e43_0, e43_1, e43_4, e43_5, e43_5n, e43_6, e43_7, e43_8, e43_9, e43_12, e43_15, e43_16, e43_19, e43_21, e43_24, e43_25, e43_26, e43_27, e43_30, e43_31, ct_i, ct_r, ct_n, ct_h, opt_v, opt_s, ref_s, ref_n, eq_self_iff_true, true_or, or_true, zl0, zl1, zl2, zl3, zl4, zl5, zl6, zl7, zl8, zl9, zl10, zl16, zl32, zl40, zl100, zl160, zIc1, zI_lt, zI_le, nI_eq, nI_add, z_sub, nI_clamp, zI_of, uu_eq, uu_ne, Nat.reduceLT, Nat.reduceLeDiff, Nat.reduceEqDiff, Nat.reduceAdd, Nat.reduceSub, Nat.reduceMul, Nat.not_lt_zero, Nat.lt_irrefl, Nat.le_refl, Bool.false_eq_true, false_and, and_false, true_and, and_true, if_pos, if_neg, if_true, if_false, not_true_eq_false, not_false_eq_true, s1, h31, ht1, e41]
  refine k27p (show 9 ≤ d by omega) hK hs hi hP2 (fun I3 hP3 => ?_)
  simp (disch := first | assumption | exact ct_i | exact ct_r | exact ct_n | exact ct_h | omega | exact z_in (by omega) (by omega) | exact b01 | exact Or.inl rfl | exact Or.inr rfl) only [e41_0, e41_1, e41_4, e41_7, e41_10, e41_10n, e41_11, e41_12, e41_15, e41_18, e41_19, e41_22, e41_23, e41_24, e41_25, e41_28, e41_31, e41_34, e41_35, e41_38, e41_41, e41_44, e41_44n, e41_45, e41_46, e41_47, e41_50, e41_53, e41_54, e41_55, e41_58, e41_59, e41_62, e41_63, e41_64, e41_65, e41_68, e41_70, e41_73, e41_74, e41_77, e41_79, e41_82, e41_83, e41_84, e41_87, e41_88, e41_89, e41_90, e41_93, e41_95, e41_98, e41_99, e41_99n, e41_100, e41_101, e41_104, e41_107, e41_108, e41_108n, e41_109, e41_110, e41_113, e43_0, e43_1, e43_4, e43_5, e43_5n, e43_6, e43_7, e43_8, e43_9, e43_12, e43_15, e43_16, e43_19, e43_21, e43_24, e43_25, e43_26, e43_27, e43_30, e43_31, ct_i, ct_r, ct_n, ct_h, opt_v, opt_s, ref_s, ref_n, eq_self_iff_true, true_or, or_true, zl0, zl1, zl2, zl3, zl4, zl5, zl6, zl7, zl8, zl9, zl10, zl16, zl32, zl40, zl100, zl160, zIc1, zI_lt, zI_le, nI_eq, nI_add, z_sub, nI_clamp, zI_of, uu_eq, uu_ne, Nat.reduceLT, Nat.reduceLeDiff, Nat.reduceEqDiff, Nat.reduceAdd, Nat.reduceSub, Nat.reduceMul, Nat.not_lt_zero, Nat.lt_irrefl, Nat.le_refl, Bool.false_eq_true, false_and, and_false, true_and, and_true, if_pos, if_neg, if_true, if_false, not_true_eq_false, not_false_eq_true, s1]
  exact H I3 hP3

theorem q20 (hK : cK nd sh R) (hs : ∀ x, 1000000 ≤ x → sh x = (999, 0)) (hi : i < 6) {o p : Nat} {c : List Nat} {p1 : Nat} {c1 : List Nat} (hp : p ≤ s) (ht : tk tp s p = 40) (h5 : ¬ 5 ≤ o) (B : Bd s (nx tp s p) c p1 c1) (g1 : CG tp s i n t sh I0 L R 0 (o + 1) (nx tp s p) c true p1 c1) (ht1 : ¬ tk tp s p1 = 41) : CG tp s i n t sh I0 L R 10 o p c false p1 c1 := by
  rw [CG_c (by decide)] at g1 ⊢
  obtain ⟨s1, s2, s3, s4⟩ := cPq hK
  have sT := (cPt hK hi).1
  have e311 : (311 : Int32) = nI 311 := rfl
  have e60 : (60 : Int32) = nI 60 := rfl
  have e61 : (61 : Int32) = nI 61 := rfl
  have e258 : (258 : Int32) = nI 258 := rfl
  have e300 : (300 : Int32) = nI 300 := rfl
  have e306 : (306 : Int32) = nI 306 := rfl
  have e45 : (45 : Int32) = nI 45 := rfl
  have e40 : (40 : Int32) = nI 40 := rfl
  have e41 : (41 : Int32) = nI 41 := rfl
  have e5 : (5 : Int32) = nI 5 := rfl
  intro ho d I Q hd hc hP H
  simp only [kD, Nat.reduceEqDiff, if_true, if_false] at hd
  obtain ⟨B1, B2, B3, B4⟩ := B
  show aC d 41 _ _ _
  obtain ⟨d, rfl⟩ : ∃ e, d = e + 1 := ⟨d - 1, by omega⟩
  have hT := tk_lt (tp := tp) (s := s) (p := p)
  have h3 := hP.1.2.2.1
  have h160 := hP.2.1.1
  have hps := hP.1.1
  have hlt := tk_ne (tp := tp) (s := s) (p := p) (by omega)
  have hnx := nx_gt (tp := tp) hlt
  obtain ⟨d, rfl⟩ : ∃ e, d = e + 1 := ⟨d - 1, by omega⟩
  simp (disch := first | assumption | exact ct_i | exact ct_r | exact ct_n | exact ct_h | omega | exact z_in (by omega) (by omega) | exact b01 | exact Or.inl rfl | exact Or.inr rfl) only [b41, b43, e41_0, e41_1, e41_4, e41_7, e41_10, e41_10n, e41_11, e41_12, e41_15, e41_18, e41_19, e41_22, e41_23, e41_24, e41_25, e41_28, e41_31, e41_34, e41_35, e41_38, e41_41, e41_44, e41_44n, e41_45, e41_46, e41_47, e41_50, e41_53, e41_54, e41_55, e41_58, e41_59, e41_62, e41_63, e41_64, e41_65, e41_68, e41_70, e41_73, e41_74, e41_77, e41_79, e41_82, e41_83, e41_84, e41_87, e41_88, e41_89, e41_90, e41_93, e41_95, e41_98, e41_99, e41_99n, e41_100, e41_101, e41_104, e41_107, e41_108, e41_108n, e41_109, e41_110, e41_113, e43_0, e43_1, e43_4, e43_5, e43_5n, e43_6, e43_7, e43_8, e43_9, e43_12, e43_15, e43_16, e43_19, e43_21, e43_24, e43_25, e43_26, e43_27, e43_30, e43_31, ct_i, ct_r, ct_n, ct_h, opt_v, opt_s, ref_s, ref_n, eq_self_iff_true, true_or, or_true, zl0, zl1, zl2, zl3, zl4, zl5, zl6, zl7, zl8, zl9, zl10, zl16, zl32, zl40, zl100, zl160, zIc1, zI_lt, zI_le, nI_eq, nI_add, z_sub, nI_clamp, zI_of, uu_eq, uu_ne, Nat.reduceLT, Nat.reduceLeDiff, Nat.reduceEqDiff, Nat.reduceAdd, Nat.reduceSub, Nat.reduceMul, Nat.not_lt_zero, Nat.lt_irrefl, Nat.le_refl, Bool.false_eq_true, false_and, and_false, true_and, and_true, if_pos, if_neg, if_true, if_false, not_true_eq_false, not_false_eq_true, s1, h3, ht, e258, e300, e306, e45, e40, e5]
  refine k27p (show 9 ≤ d by omega) hK hs hi hP (fun I' hP' => ?_)
  simp (disch := first | assumption | exact ct_i | exact ct_r | exact ct_n | exact ct_h | omega | exact z_in (by omega) (by omega) | exact b01 | exact Or.inl rfl | exact Or.inr rfl) only [e43_0, e43_1, e43_4, e43_5, e43_5n, e43_6, e43_7, e43_8, e43_9, e43_12, e43_15, e43_16, e43_19, e43_21, e43_24, e43_25, e43_26, e43_27, e43_30, e43_31, ct_i, ct_r, ct_n, ct_h, opt_v, opt_s, ref_s, ref_n, eq_self_iff_true, true_or, or_true, zl0, zl1, zl2, zl3, zl4, zl5, zl6, zl7, zl8, zl9, zl10, zl16, zl32, zl40, zl100, zl160, zIc1, zI_lt, zI_le, nI_eq, nI_add, z_sub, nI_clamp, zI_of, uu_eq, uu_ne, Nat.reduceLT, Nat.reduceLeDiff, Nat.reduceEqDiff, Nat.reduceAdd, Nat.reduceSub, Nat.reduceMul, Nat.not_lt_zero, Nat.lt_irrefl, Nat.le_refl, Bool.false_eq_true, false_and, and_false, true_and, and_true, if_pos, if_neg, if_true, if_false, not_true_eq_false, not_false_eq_true, s1]
  refine g1 (by omega) d I' _ (by simp only [kD, Nat.reduceSub, Nat.reduceEqDiff, if_true, if_false] at hd ⊢; omega) (by omega) hP' (fun I2 hP2 => ?_)
  have hT1 := tk_lt (tp := tp) (s := s) (p := p1)
  have h31 := hP2.1.2.2.1
  have := H I2 hP2
  simp (disch := first | assumption | exact ct_i | exact ct_r | exact ct_n | exact ct_h | omega | exact z_in (by omega) (by omega) | exact b01 | exact Or.inl rfl | exact Or.inr rfl) only [Bool.false_eq_true, if_false] at this
  simp (disch := first | assumption | exact ct_i | exact ct_r | exact ct_n | exact ct_h | omega | exact z_in (by omega) (by omega) | exact b01 | exact Or.inl rfl | exact Or.inr rfl) only [e41_0, e41_1, e41_4, e41_7, e41_10, e41_10n, e41_11, e41_12, e41_15, e41_18, e41_19, e41_22, e41_23, e41_24, e41_25, e41_28, e41_31, e41_34, e41_35, e41_38, e41_41, e41_44, e41_44n, e41_45, e41_46, e41_47, e41_50, e41_53, e41_54, e41_55, e41_58, e41_59, e41_62, e41_63, e41_64, e41_65, e41_68, e41_70, e41_73, e41_74, e41_77, e41_79, e41_82, e41_83, e41_84, e41_87, e41_88, e41_89, e41_90, e41_93, e41_95, e41_98, e41_99, e41_99n, e41_100, e41_101, e41_104, e41_107, e41_108, e41_108n, e41_109, e41_110, e41_113, e43_0, e43_1, e43_4, e43_5, e43_5n, e43_6, e43_7, e43_8, e43_9, e43_12, e43_15, e43_16, e43_19, e43_21, e43_24, e43_25, e43_26, e43_27, e43_30, e43_31, ct_i, ct_r, ct_n, ct_h, opt_v, opt_s, ref_s, ref_n, eq_self_iff_true, true_or, or_true, zl0, zl1, zl2, zl3, zl4, zl5, zl6, zl7, zl8, zl9, zl10, zl16, zl32, zl40, zl100, zl160, zIc1, zI_lt, zI_le, nI_eq, nI_add, z_sub, nI_clamp, zI_of, uu_eq, uu_ne, Nat.reduceLT, Nat.reduceLeDiff, Nat.reduceEqDiff, Nat.reduceAdd, Nat.reduceSub, Nat.reduceMul, Nat.not_lt_zero, Nat.lt_irrefl, Nat.le_refl, Bool.false_eq_true, false_and, and_false, true_and, and_true, if_pos, if_neg, if_true, if_false, not_true_eq_false, not_false_eq_true, s1, h31, e41, ht1]
  exact this

theorem q21 (hK : cK nd sh R) (hs : ∀ x, 1000000 ≤ x → sh x = (999, 0)) (hi : i < 6) {o p : Nat} {c : List Nat} {p1 : Nat} {c1 : List Nat} (hp : p ≤ s) (ht : tk tp s p = 40) (h5 : ¬ 5 ≤ o) (B : Bd s (nx tp s p) c p1 c1) (g1 : CG tp s i n t sh I0 L R 0 (o + 1) (nx tp s p) c false p1 c1) : CG tp s i n t sh I0 L R 10 o p c false p1 c1 := by
  rw [CG_c (by decide)] at g1 ⊢
  obtain ⟨s1, s2, s3, s4⟩ := cPq hK
  have sT := (cPt hK hi).1
  have e311 : (311 : Int32) = nI 311 := rfl
  have e60 : (60 : Int32) = nI 60 := rfl
  have e61 : (61 : Int32) = nI 61 := rfl
  have e258 : (258 : Int32) = nI 258 := rfl
  have e300 : (300 : Int32) = nI 300 := rfl
  have e306 : (306 : Int32) = nI 306 := rfl
  have e45 : (45 : Int32) = nI 45 := rfl
  have e40 : (40 : Int32) = nI 40 := rfl
  have e41 : (41 : Int32) = nI 41 := rfl
  have e5 : (5 : Int32) = nI 5 := rfl
  intro ho d I Q hd hc hP H
  simp only [kD, Nat.reduceEqDiff, if_true, if_false] at hd
  obtain ⟨B1, B2, B3, B4⟩ := B
  show aC d 41 _ _ _
  obtain ⟨d, rfl⟩ : ∃ e, d = e + 1 := ⟨d - 1, by omega⟩
  have hT := tk_lt (tp := tp) (s := s) (p := p)
  have h3 := hP.1.2.2.1
  have h160 := hP.2.1.1
  have hps := hP.1.1
  have hlt := tk_ne (tp := tp) (s := s) (p := p) (by omega)
  have hnx := nx_gt (tp := tp) hlt
  obtain ⟨d, rfl⟩ : ∃ e, d = e + 1 := ⟨d - 1, by omega⟩
  simp (disch := first | assumption | exact ct_i | exact ct_r | exact ct_n | exact ct_h | omega | exact z_in (by omega) (by omega) | exact b01 | exact Or.inl rfl | exact Or.inr rfl) only [b41, b43, e41_0, e41_1, e41_4, e41_7, e41_10, e41_10n, e41_11, e41_12, e41_15, e41_18, e41_19, e41_22, e41_23, e41_24, e41_25, e41_28, e41_31, e41_34, e41_35, e41_38, e41_41, e41_44, e41_44n, e41_45, e41_46, e41_47, e41_50, e41_53, e41_54, e41_55, e41_58, e41_59, e41_62, e41_63, e41_64, e41_65, e41_68, e41_70, e41_73, e41_74, e41_77, e41_79, e41_82, e41_83, e41_84, e41_87, e41_88, e41_89, e41_90, e41_93, e41_95, e41_98, e41_99, e41_99n, e41_100, e41_101, e41_104, e41_107, e41_108, e41_108n, e41_109, e41_110, e41_113, e43_0, e43_1, e43_4, e43_5, e43_5n, e43_6, e43_7, e43_8, e43_9, e43_12, e43_15, e43_16, e43_19, e43_21, e43_24, e43_25, e43_26, e43_27, e43_30, e43_31, ct_i, ct_r, ct_n, ct_h, opt_v, opt_s, ref_s, ref_n, eq_self_iff_true, true_or, or_true, zl0, zl1, zl2, zl3, zl4, zl5, zl6, zl7, zl8, zl9, zl10, zl16, zl32, zl40, zl100, zl160, zIc1, zI_lt, zI_le, nI_eq, nI_add, z_sub, nI_clamp, zI_of, uu_eq, uu_ne, Nat.reduceLT, Nat.reduceLeDiff, Nat.reduceEqDiff, Nat.reduceAdd, Nat.reduceSub, Nat.reduceMul, Nat.not_lt_zero, Nat.lt_irrefl, Nat.le_refl, Bool.false_eq_true, false_and, and_false, true_and, and_true, if_pos, if_neg, if_true, if_false, not_true_eq_false, not_false_eq_true, s1, h3, ht, e258, e300, e306, e45, e40, e5]
  refine k27p (show 9 ≤ d by omega) hK hs hi hP (fun I' hP' => ?_)
  simp (disch := first | assumption | exact ct_i | exact ct_r | exact ct_n | exact ct_h | omega | exact z_in (by omega) (by omega) | exact b01 | exact Or.inl rfl | exact Or.inr rfl) only [e43_0, e43_1, e43_4, e43_5, e43_5n, e43_6, e43_7, e43_8, e43_9, e43_12, e43_15, e43_16, e43_19, e43_21, e43_24, e43_25, e43_26, e43_27, e43_30, e43_31, ct_i, ct_r, ct_n, ct_h, opt_v, opt_s, ref_s, ref_n, eq_self_iff_true, true_or, or_true, zl0, zl1, zl2, zl3, zl4, zl5, zl6, zl7, zl8, zl9, zl10, zl16, zl32, zl40, zl100, zl160, zIc1, zI_lt, zI_le, nI_eq, nI_add, z_sub, nI_clamp, zI_of, uu_eq, uu_ne, Nat.reduceLT, Nat.reduceLeDiff, Nat.reduceEqDiff, Nat.reduceAdd, Nat.reduceSub, Nat.reduceMul, Nat.not_lt_zero, Nat.lt_irrefl, Nat.le_refl, Bool.false_eq_true, false_and, and_false, true_and, and_true, if_pos, if_neg, if_true, if_false, not_true_eq_false, not_false_eq_true, s1]
  refine g1 (by omega) d I' _ (by simp only [kD, Nat.reduceSub, Nat.reduceEqDiff, if_true, if_false] at hd ⊢; omega) (by omega) hP' (fun I2 hP2 => ?_)
  have hT1 := tk_lt (tp := tp) (s := s) (p := p1)
  have h31 := hP2.1.2.2.1
  have := H I2 hP2
  simp (disch := first | assumption | exact ct_i | exact ct_r | exact ct_n | exact ct_h | omega | exact z_in (by omega) (by omega) | exact b01 | exact Or.inl rfl | exact Or.inr rfl) only [Bool.false_eq_true, if_false] at this
  simp (disch := first | assumption | exact ct_i | exact ct_r | exact ct_n | exact ct_h | omega | exact z_in (by omega) (by omega) | exact b01 | exact Or.inl rfl | exact Or.inr rfl) only [e41_0, e41_1, e41_4, e41_7, e41_10, e41_10n, e41_11, e41_12, e41_15, e41_18, e41_19, e41_22, e41_23, e41_24, e41_25, e41_28, e41_31, e41_34, e41_35, e41_38, e41_41, e41_44, e41_44n, e41_45, e41_46, e41_47, e41_50, e41_53, e41_54, e41_55, e41_58, e41_59, e41_62, e41_63, e41_64, e41_65, e41_68, e41_70, e41_73, e41_74, e41_77, e41_79, e41_82, e41_83, e41_84, e41_87, e41_88, e41_89, e41_90, e41_93, e41_95, e41_98, e41_99, e41_99n, e41_100, e41_101, e41_104, e41_107, e41_108, e41_108n, e41_109, e41_110, e41_113, e43_0, e43_1, e43_4, e43_5, e43_5n, e43_6, e43_7, e43_8, e43_9, e43_12, e43_15, e43_16, e43_19, e43_21, e43_24, e43_25, e43_26, e43_27, e43_30, e43_31, ct_i, ct_r, ct_n, ct_h, opt_v, opt_s, ref_s, ref_n, eq_self_iff_true, true_or, or_true, zl0, zl1, zl2, zl3, zl4, zl5, zl6, zl7, zl8, zl9, zl10, zl16, zl32, zl40, zl100, zl160, zIc1, zI_lt, zI_le, nI_eq, nI_add, z_sub, nI_clamp, zI_of, uu_eq, uu_ne, Nat.reduceLT, Nat.reduceLeDiff, Nat.reduceEqDiff, Nat.reduceAdd, Nat.reduceSub, Nat.reduceMul, Nat.not_lt_zero, Nat.lt_irrefl, Nat.le_refl, Bool.false_eq_true, false_and, and_false, true_and, and_true, if_pos, if_neg, if_true, if_false, not_true_eq_false, not_false_eq_true, s1, h31, e41]
  exact this

theorem par_c (hK : cK nd sh R) (hs : ∀ x, 1000000 ≤ x → sh x = (999, 0)) (hi : i < 6) : ∀ f lv o p c b p1 c1, lv < 11 → p ≤ s → pr tp s f lv o p c = some (b, p1, c1) → CG tp s i n t sh I0 L R lv o p c b p1 c1 := by
  refine pr_ind2 ?_ ?_ ?_ ?_ ?_ ?_ ?_ ?_ ?_ ?_ ?_ ?_ ?_ ?_ ?_ ?_ ?_ ?_ ?_ ?_ ?_
  · intro lv o p c p1 c1 b p2 c2 hp hb g1 g2
    rcases hb with rfl | rfl | rfl | rfl
    · exact q1_0 hK hs hi g1.1 g1.2 g2.2
    · exact q1_2 hK hs hi g1.1 g1.2 g2.2
    · exact q1_4 hK hs hi g1.1 g1.2 g2.2
    · exact q1_6 hK hs hi g1.1 g1.2 g2.2
  · intro lv o p c p1 c1 hp hb g1
    rcases hb with rfl | rfl | rfl | rfl
    · exact q2_0 hK hs hi g1.1 g1.2
    · exact q2_2 hK hs hi g1.1 g1.2
    · exact q2_4 hK hs hi g1.1 g1.2
    · exact q2_6 hK hs hi g1.1 g1.2
  · intro lv o p c hp hb ho
    rcases hb with rfl | rfl | rfl | rfl
    · exact q3_0 hK hs hi ho
    · exact q3_2 hK hs hi ho
    · exact q3_4 hK hs hi ho
    · exact q3_6 hK hs hi ho
  · intro lv o p c k p1 c1 b p2 c2 hp hb ho g1 g2
    rcases hb with rfl | rfl | rfl | rfl
    · exact q4_0 hK hs hi hp ho g1.1 g1.2 g2.2
    · exact q4_2 hK hs hi hp ho g1.1 g1.2 g2.2
    · exact q4_4 hK hs hi hp ho g1.1 g1.2 g2.2
    · exact q4_6 hK hs hi hp ho g1.1 g1.2 g2.2
  · intro lv o p c k p1 c1 hp hb ho g1
    rcases hb with rfl | rfl | rfl | rfl
    · exact q5_0 hK hs hi hp ho g1.1 g1.2
    · exact q5_2 hK hs hi hp ho g1.1 g1.2
    · exact q5_4 hK hs hi hp ho g1.1 g1.2
    · exact q5_6 hK hs hi hp ho g1.1 g1.2
  · intro o p c hp t h; exact q6 hK hs hi t h
  · intro o p c p1 c1 hp t h g; exact q7 hK hs hi hp t h g.1 g.2
  · intro o p c p1 c1 hp t h g; exact q8 hK hs hi hp t h g.1 g.2
  · intro o p c b p1 c1 hp t g; exact q9 hK hs hi t g.2
  · intro o p c p1 c1 hp g; exact q10 hK hs hi g.2
  · intro o p c p1 c1 hp g t; exact q11 hK hs hi g.2 t
  · intro o p c p1 c1 p2 c2 hp g t g2; exact q12 hK hs hi g.1 g.2 t g2.1 g2.2
  · intro o p c p1 c1 p2 c2 hp g t g2; exact q13 hK hs hi g.1 g.2 t g2.1 g2.2
  · intro o p c hp t; exact q14 hK hs hi hp t
  · intro o p c j hp hj t; exact q15 hK hs hi hp hj t
  · intro o p c hp t1 t2 t3; exact q16 hK hs hi t1 t2 t3
  · intro o p c p1 c1 hp t h g; exact q17 hK hs hi hp t h g.1 g.2
  · intro o p c p1 c1 hp t h g; exact q18 hK hs hi hp t h g.1 g.2
  · intro o p c p1 c1 hp t h g t1; exact q19 hK hs hi hp t h g.1 g.2 t1
  · intro o p c p1 c1 hp t h g t1; exact q20 hK hs hi hp t h g.1 g.2 t1
  · intro o p c p1 c1 hp t h g; exact q21 hK hs hi hp t h g.1 g.2
end
