/-! the class's house: what is foreseen of a door -/
section
variable {d nd : Nat} {D : Nat → Nat → Nat} {f : Nat → List Nat} {n t : Nat} {sh : Nat → Nat × Nat} {I : Nat → Nat → Int32} {L : Nat → Nat → Int64} {R : Nat → Nat → Option Nat} {I' : Nat → Nat → Int32} {Q : Option Value → aH → Prop}
def fsP (f : Nat → List Nat) (D : Nat → Nat → Nat) (i rm : Nat) (v : Int64) (m : Nat) : Prop := ∀ b, b < 64 → bitL v b = (decide (b < m) && opn f D i (b / 16) (b / 4 % 4) (b % 4) rm)
theorem fsP_0 {i rm : Nat} : fsP f D i rm 0 0 := fun b hb => by rw [bitL_0 hb]; simp
theorem fsP_no {i rm st tn ks : Nat} {v : Int64} (h : fsP f D i rm v (st * 16 + tn * 4 + ks)) (h1 : st < 4) (h2 : tn < 4) (h3 : ks < 4) (hn : opn f D i st tn ks rm = false) : fsP f D i rm v (st * 16 + tn * 4 + (ks + 1)) := by
  intro b hb
  rw [h b hb]
  by_cases he : b = st * 16 + tn * 4 + ks
  · have e1 : b / 16 = st := by omega
    have e2 : b / 4 % 4 = tn := by omega
    have e3 : b % 4 = ks := by omega
    rw [e1, e2, e3, hn, Bool.and_false, Bool.and_false]
  · congr 1
    exact decide_eq_decide.mpr (by omega)
theorem fsP_yes {i rm st tn ks : Nat} {v : Int64} (h : fsP f D i rm v (st * 16 + tn * 4 + ks)) (h1 : st < 4) (h2 : tn < 4) (h3 : ks < 4) (hn : opn f D i st tn ks rm = true) : fsP f D i rm (v ||| 1 <<< ((nI (st * 16 + tn * 4 + ks)).toInt64 &&& 63)) (st * 16 + tn * 4 + (ks + 1)) := by
  intro b hb
  rw [bitL_or (by omega) hb, h b hb]
  by_cases he : b = st * 16 + tn * 4 + ks
  · have e1 : b / 16 = st := by omega
    have e2 : b / 4 % 4 = tn := by omega
    have e3 : b % 4 = ks := by omega
    rw [e1, e2, e3, hn, decide_eq_true he, Bool.or_true, Bool.and_true]
    exact (decide_eq_true (by omega)).symm
  · rw [decide_eq_false he, Bool.or_false]
    congr 1
    exact decide_eq_decide.mpr (by omega)
theorem k12c (hd : 3 ≤ d) (hK : cK nd sh R) {I0 : Nat → Nat → Int32} (hI0 : hD nd D I0) (hB : dB nd D) {r : Nat} (hR0 : rT r f I0 R) {i rm st tn : Nat} (hi : i < nd) (hrm : rm < 6) (h1 : st < 4) (h2 : tn < 4) :
    ∀ k ks v I, ks + k = 4 → fr3 I0 I → fsP f D i rm v (st * 16 + tn * 4 + ks) →
    (∀ v' I' l8, fr3 I0 I' → fsP f D i rm v' (st * 16 + (tn + 1) * 4) → aE (a_cl_ d) 12 (100, [.ref 1, .ref (47 + i), .int (nI i), .int (nI rm), .long v', a_hole, .int (nI st), .int (nI tn), l8], [], (n, t, sh, I', L, R)) Q) →
    aE (a_cl_ d) 12 (24, [.ref 1, .ref (47 + i), .int (nI i), .int (nI rm), .long v, a_hole, .int (nI st), .int (nI tn), .int (nI ks)], [], (n, t, sh, I, L, R)) Q := by
  obtain ⟨c1, c2, c2', c3, c3', c4, c5, c6⟩ := cPh hK
  obtain ⟨g1, g2⟩ := cPd hK hi
  have hb := hB i hi
  have gr := hR0.1
  obtain ⟨gt, gt'⟩ := cPt hK hR0.2.1
  intro k
  induction k with
  | zero =>
    intro ks v I hk hI hP H
    obtain rfl : ks = 4 := by omega
    simp (disch := first | assumption | exact ct_i | exact ct_r | exact ct_n | exact ct_h | omega | exact z_in (by omega) (by omega) | exact b01 | exact Or.inl rfl | exact Or.inr rfl) only [e12_0, e12_1, e12_3, e12_4, e12_6, e12_8, e12_9, e12_12, e12_13, e12_15, e12_17, e12_18, e12_21, e12_22, e12_24, e12_26, e12_27, e12_30, e12_30n, e12_31, e12_33, e12_35, e12_37, e12_40, e12_43, e12_46, e12_47, e12_48, e12_50, e12_52, e12_53, e12_55, e12_55n, e12_56, e12_57, e12_60, e12_63, e12_64, e12_67, e12_68, e12_69, e12_72, e12_75, e12_78, e12_80, e12_81, e12_83, e12_85, e12_87, e12_90, e12_91, e12_92, e12_94, e12_97, e12_103, e12_106, e12_109, e12_112, e12_114, ct_i, ct_r, ct_n, ct_h, opt_v, opt_s, ref_s, ref_n, eq_self_iff_true, true_or, or_true, zl0, zl1, zl2, zl3, zl4, zl5, zl6, zl7, zl8, zl9, zl10, zl16, zl32, zl40, zl100, zl160, zIc1, zI_lt, zI_le, nI_eq, nI_add, z_sub, nI_clamp, zI_of, uu_eq, uu_ne, Nat.reduceLT, Nat.reduceLeDiff, Nat.reduceEqDiff, Nat.reduceAdd, Nat.reduceSub, Nat.reduceMul, Nat.not_lt_zero, Nat.lt_irrefl, Nat.le_refl, Bool.false_eq_true, false_and, and_false, true_and, and_true, if_pos, if_neg, if_true, if_false, not_true_eq_false, not_false_eq_true]
    exact H v I _ hI (by rw [show st * 16 + (tn + 1) * 4 = st * 16 + tn * 4 + 4 by omega]; exact hP)
  | succ k ih =>
    intro ks v I hk hI hP H
    have hks : ks < 4 := by omega
    have hI1 := hD_fr hI c6 hI0
    have e0 := hI1.2 i hi 0 (by decide)
    have e1 := hI1.2 i hi 1 (by decide)
    have e3 := hI1.2 i hi 3 (by decide)
    have e4 := hI1.2 i hi 4 (by decide)
    rw [e12_24]
    by_cases ho : opk (D i 4) st tn ks (D i 3) = true
    · simp (disch := first | assumption | exact ct_i | exact ct_r | exact ct_n | exact ct_h | omega | exact z_in (by omega) (by omega) | exact b01 | exact Or.inl rfl | exact Or.inr rfl) only [e12_0, e12_1, e12_3, e12_4, e12_6, e12_8, e12_9, e12_12, e12_13, e12_15, e12_17, e12_18, e12_21, e12_22, e12_26, e12_27, e12_30, e12_30n, e12_31, e12_33, e12_35, e12_37, e12_40, e12_43, e12_46, e12_47, e12_48, e12_50, e12_52, e12_53, e12_55, e12_55n, e12_56, e12_57, e12_60, e12_63, e12_64, e12_67, e12_68, e12_69, e12_72, e12_75, e12_78, e12_80, e12_81, e12_83, e12_85, e12_87, e12_90, e12_91, e12_92, e12_94, e12_97, e12_103, e12_106, e12_109, e12_112, e12_114, ct_i, ct_r, ct_n, ct_h, opt_v, opt_s, ref_s, ref_n, eq_self_iff_true, true_or, or_true, zl0, zl1, zl2, zl3, zl4, zl5, zl6, zl7, zl8, zl9, zl10, zl16, zl32, zl40, zl100, zl160, zIc1, zI_lt, zI_le, nI_eq, nI_add, z_sub, nI_clamp, zI_of, uu_eq, uu_ne, Nat.reduceLT, Nat.reduceLeDiff, Nat.reduceEqDiff, Nat.reduceAdd, Nat.reduceSub, Nat.reduceMul, Nat.not_lt_zero, Nat.lt_irrefl, Nat.le_refl, Bool.false_eq_true, false_and, and_false, true_and, and_true, if_pos, if_neg, if_true, if_false, not_true_eq_false, not_false_eq_true, g1, k0 (show 1 ≤ d by omega) g1 e4 e3 hb.2.2.2.2 h1 h2 hks hb.2.2.2.1, ho, c1, k1 (show 1 ≤ d by omega) g1 e0 e1 hb.1 hrm, k13 (show 1 ≤ d by omega) c1 c3 c3' c5, gr, c5]
      refine kAns (by omega) hK (rT_fr (fr3_trans hI nm6_fr) hR0) (by decide) nmv_at (fun I' hI' => ?_)
      have hI2 : fr3 I0 I' := fr3_trans hI (fr3_trans nm6_fr hI')
      by_cases hx : tval f 0 (nmv i st tn rm ks (bey D i rm)) = 0
      · have hx' : tval f 0 (nmv i st tn rm ks (if rm = D i 0 then D i 1 else D i 0)) = nI 0 := hx
        simp (disch := first | assumption | exact ct_i | exact ct_r | exact ct_n | exact ct_h | omega | exact z_in (by omega) (by omega) | exact b01 | exact Or.inl rfl | exact Or.inr rfl) only [e12_0, e12_1, e12_3, e12_4, e12_6, e12_8, e12_9, e12_12, e12_13, e12_15, e12_17, e12_18, e12_21, e12_22, e12_26, e12_27, e12_30, e12_30n, e12_31, e12_33, e12_35, e12_37, e12_40, e12_43, e12_46, e12_47, e12_48, e12_50, e12_52, e12_53, e12_55, e12_55n, e12_56, e12_57, e12_60, e12_63, e12_64, e12_67, e12_68, e12_69, e12_72, e12_75, e12_78, e12_80, e12_81, e12_83, e12_85, e12_87, e12_90, e12_91, e12_92, e12_94, e12_97, e12_103, e12_106, e12_109, e12_112, e12_114, ct_i, ct_r, ct_n, ct_h, opt_v, opt_s, ref_s, ref_n, eq_self_iff_true, true_or, or_true, zl0, zl1, zl2, zl3, zl4, zl5, zl6, zl7, zl8, zl9, zl10, zl16, zl32, zl40, zl100, zl160, zIc1, zI_lt, zI_le, nI_eq, nI_add, z_sub, nI_clamp, zI_of, uu_eq, uu_ne, Nat.reduceLT, Nat.reduceLeDiff, Nat.reduceEqDiff, Nat.reduceAdd, Nat.reduceSub, Nat.reduceMul, Nat.not_lt_zero, Nat.lt_irrefl, Nat.le_refl, Bool.false_eq_true, false_and, and_false, true_and, and_true, if_pos, if_neg, if_true, if_false, not_true_eq_false, not_false_eq_true, hx', k2 (show 1 ≤ d by omega)]
        refine ih (ks + 1) _ _ (by omega) hI2 (fsP_yes hP h1 h2 hks ?_) H
        unfold opn
        rw [ho, hx]
        rfl
      · have hx' : ¬ tval f 0 (nmv i st tn rm ks (if rm = D i 0 then D i 1 else D i 0)) = nI 0 := hx
        simp (disch := first | assumption | exact ct_i | exact ct_r | exact ct_n | exact ct_h | omega | exact z_in (by omega) (by omega) | exact b01 | exact Or.inl rfl | exact Or.inr rfl) only [e12_0, e12_1, e12_3, e12_4, e12_6, e12_8, e12_9, e12_12, e12_13, e12_15, e12_17, e12_18, e12_21, e12_22, e12_26, e12_27, e12_30, e12_30n, e12_31, e12_33, e12_35, e12_37, e12_40, e12_43, e12_46, e12_47, e12_48, e12_50, e12_52, e12_53, e12_55, e12_55n, e12_56, e12_57, e12_60, e12_63, e12_64, e12_67, e12_68, e12_69, e12_72, e12_75, e12_78, e12_80, e12_81, e12_83, e12_85, e12_87, e12_90, e12_91, e12_92, e12_94, e12_97, e12_103, e12_106, e12_109, e12_112, e12_114, ct_i, ct_r, ct_n, ct_h, opt_v, opt_s, ref_s, ref_n, eq_self_iff_true, true_or, or_true, zl0, zl1, zl2, zl3, zl4, zl5, zl6, zl7, zl8, zl9, zl10, zl16, zl32, zl40, zl100, zl160, zIc1, zI_lt, zI_le, nI_eq, nI_add, z_sub, nI_clamp, zI_of, uu_eq, uu_ne, Nat.reduceLT, Nat.reduceLeDiff, Nat.reduceEqDiff, Nat.reduceAdd, Nat.reduceSub, Nat.reduceMul, Nat.not_lt_zero, Nat.lt_irrefl, Nat.le_refl, Bool.false_eq_true, false_and, and_false, true_and, and_true, if_pos, if_neg, if_true, if_false, not_true_eq_false, not_false_eq_true, hx']
        refine ih (ks + 1) _ _ (by omega) hI2 (fsP_no hP h1 h2 hks ?_) H
        unfold opn
        rw [decide_eq_false hx, Bool.and_false]
    · simp (disch := first | assumption | exact ct_i | exact ct_r | exact ct_n | exact ct_h | omega | exact z_in (by omega) (by omega) | exact b01 | exact Or.inl rfl | exact Or.inr rfl) only [e12_0, e12_1, e12_3, e12_4, e12_6, e12_8, e12_9, e12_12, e12_13, e12_15, e12_17, e12_18, e12_21, e12_22, e12_26, e12_27, e12_30, e12_30n, e12_31, e12_33, e12_35, e12_37, e12_40, e12_43, e12_46, e12_47, e12_48, e12_50, e12_52, e12_53, e12_55, e12_55n, e12_56, e12_57, e12_60, e12_63, e12_64, e12_67, e12_68, e12_69, e12_72, e12_75, e12_78, e12_80, e12_81, e12_83, e12_85, e12_87, e12_90, e12_91, e12_92, e12_94, e12_97, e12_103, e12_106, e12_109, e12_112, e12_114, ct_i, ct_r, ct_n, ct_h, opt_v, opt_s, ref_s, ref_n, eq_self_iff_true, true_or, or_true, zl0, zl1, zl2, zl3, zl4, zl5, zl6, zl7, zl8, zl9, zl10, zl16, zl32, zl40, zl100, zl160, zIc1, zI_lt, zI_le, nI_eq, nI_add, z_sub, nI_clamp, zI_of, uu_eq, uu_ne, Nat.reduceLT, Nat.reduceLeDiff, Nat.reduceEqDiff, Nat.reduceAdd, Nat.reduceSub, Nat.reduceMul, Nat.not_lt_zero, Nat.lt_irrefl, Nat.le_refl, Bool.false_eq_true, false_and, and_false, true_and, and_true, if_pos, if_neg, if_true, if_false, not_true_eq_false, not_false_eq_true, g1, k0 (show 1 ≤ d by omega) g1 e4 e3 hb.2.2.2.2 h1 h2 hks hb.2.2.2.1, ho]
      refine ih (ks + 1) _ _ (by omega) hI (fsP_no hP h1 h2 hks ?_) H
      unfold opn
      rw [(Bool.not_eq_true _).mp ho, Bool.false_and]
theorem k12b (hd : 3 ≤ d) (hK : cK nd sh R) {I0 : Nat → Nat → Int32} (hI0 : hD nd D I0) (hB : dB nd D) {r : Nat} (hR0 : rT r f I0 R) {i rm st : Nat} (hi : i < nd) (hrm : rm < 6) (h1 : st < 4) :
    ∀ k tn v I l8, tn + k = 4 → fr3 I0 I → fsP f D i rm v (st * 16 + tn * 4) →
    (∀ v' I' l7 l8, fr3 I0 I' → fsP f D i rm v' ((st + 1) * 16) → aE (a_cl_ d) 12 (106, [.ref 1, .ref (47 + i), .int (nI i), .int (nI rm), .long v', a_hole, .int (nI st), l7, l8], [], (n, t, sh, I', L, R)) Q) →
    aE (a_cl_ d) 12 (15, [.ref 1, .ref (47 + i), .int (nI i), .int (nI rm), .long v, a_hole, .int (nI st), .int (nI tn), l8], [], (n, t, sh, I, L, R)) Q := by
  intro k
  induction k with
  | zero =>
    intro tn v I l8 hk hI hP H
    obtain rfl : tn = 4 := by omega
    rw [e12_15]
    simp (disch := first | assumption | exact ct_i | exact ct_r | exact ct_n | exact ct_h | omega | exact z_in (by omega) (by omega) | exact b01 | exact Or.inl rfl | exact Or.inr rfl) only [e12_0, e12_1, e12_3, e12_4, e12_6, e12_8, e12_9, e12_12, e12_13, e12_17, e12_18, e12_21, e12_22, e12_26, e12_27, e12_30, e12_30n, e12_31, e12_33, e12_35, e12_37, e12_40, e12_43, e12_46, e12_47, e12_48, e12_50, e12_52, e12_53, e12_55, e12_55n, e12_56, e12_57, e12_60, e12_63, e12_64, e12_67, e12_68, e12_69, e12_72, e12_75, e12_78, e12_80, e12_81, e12_83, e12_85, e12_87, e12_90, e12_91, e12_92, e12_94, e12_97, e12_100, e12_103, e12_109, e12_112, e12_114, ct_i, ct_r, ct_n, ct_h, opt_v, opt_s, ref_s, ref_n, eq_self_iff_true, true_or, or_true, zl0, zl1, zl2, zl3, zl4, zl5, zl6, zl7, zl8, zl9, zl10, zl16, zl32, zl40, zl100, zl160, zIc1, zI_lt, zI_le, nI_eq, nI_add, z_sub, nI_clamp, zI_of, uu_eq, uu_ne, Nat.reduceLT, Nat.reduceLeDiff, Nat.reduceEqDiff, Nat.reduceAdd, Nat.reduceSub, Nat.reduceMul, Nat.not_lt_zero, Nat.lt_irrefl, Nat.le_refl, Bool.false_eq_true, false_and, and_false, true_and, and_true, if_pos, if_neg, if_true, if_false, not_true_eq_false, not_false_eq_true]
    exact H v I _ _ hI (by rw [show (st + 1) * 16 = st * 16 + 4 * 4 by omega]; exact hP)
  | succ k ih =>
    intro tn v I l8 hk hI hP H
    rw [e12_15]
    simp (disch := first | assumption | exact ct_i | exact ct_r | exact ct_n | exact ct_h | omega | exact z_in (by omega) (by omega) | exact b01 | exact Or.inl rfl | exact Or.inr rfl) only [e12_0, e12_1, e12_3, e12_4, e12_6, e12_8, e12_9, e12_12, e12_13, e12_17, e12_18, e12_21, e12_22, e12_26, e12_27, e12_30, e12_30n, e12_31, e12_33, e12_35, e12_37, e12_40, e12_43, e12_46, e12_47, e12_48, e12_50, e12_52, e12_53, e12_55, e12_55n, e12_56, e12_57, e12_60, e12_63, e12_64, e12_67, e12_68, e12_69, e12_72, e12_75, e12_78, e12_80, e12_81, e12_83, e12_85, e12_87, e12_90, e12_91, e12_92, e12_94, e12_97, e12_100, e12_103, e12_109, e12_112, e12_114, ct_i, ct_r, ct_n, ct_h, opt_v, opt_s, ref_s, ref_n, eq_self_iff_true, true_or, or_true, zl0, zl1, zl2, zl3, zl4, zl5, zl6, zl7, zl8, zl9, zl10, zl16, zl32, zl40, zl100, zl160, zIc1, zI_lt, zI_le, nI_eq, nI_add, z_sub, nI_clamp, zI_of, uu_eq, uu_ne, Nat.reduceLT, Nat.reduceLeDiff, Nat.reduceEqDiff, Nat.reduceAdd, Nat.reduceSub, Nat.reduceMul, Nat.not_lt_zero, Nat.lt_irrefl, Nat.le_refl, Bool.false_eq_true, false_and, and_false, true_and, and_true, if_pos, if_neg, if_true, if_false, not_true_eq_false, not_false_eq_true]
    refine k12c hd hK hI0 hB hR0 hi hrm h1 (show tn < 4 by omega) 4 0 v I (by omega) hI (by exact hP) (fun v' I' l8 hI' hP' => ?_)
    simp (disch := first | assumption | exact ct_i | exact ct_r | exact ct_n | exact ct_h | omega | exact z_in (by omega) (by omega) | exact b01 | exact Or.inl rfl | exact Or.inr rfl) only [e12_0, e12_1, e12_3, e12_4, e12_6, e12_8, e12_9, e12_12, e12_13, e12_17, e12_18, e12_21, e12_22, e12_26, e12_27, e12_30, e12_30n, e12_31, e12_33, e12_35, e12_37, e12_40, e12_43, e12_46, e12_47, e12_48, e12_50, e12_52, e12_53, e12_55, e12_55n, e12_56, e12_57, e12_60, e12_63, e12_64, e12_67, e12_68, e12_69, e12_72, e12_75, e12_78, e12_80, e12_81, e12_83, e12_85, e12_87, e12_90, e12_91, e12_92, e12_94, e12_97, e12_100, e12_103, e12_109, e12_112, e12_114, ct_i, ct_r, ct_n, ct_h, opt_v, opt_s, ref_s, ref_n, eq_self_iff_true, true_or, or_true, zl0, zl1, zl2, zl3, zl4, zl5, zl6, zl7, zl8, zl9, zl10, zl16, zl32, zl40, zl100, zl160, zIc1, zI_lt, zI_le, nI_eq, nI_add, z_sub, nI_clamp, zI_of, uu_eq, uu_ne, Nat.reduceLT, Nat.reduceLeDiff, Nat.reduceEqDiff, Nat.reduceAdd, Nat.reduceSub, Nat.reduceMul, Nat.not_lt_zero, Nat.lt_irrefl, Nat.le_refl, Bool.false_eq_true, false_and, and_false, true_and, and_true, if_pos, if_neg, if_true, if_false, not_true_eq_false, not_false_eq_true]
    exact ih (tn + 1) v' I' l8 (by omega) hI' hP' H
theorem k12a (hd : 3 ≤ d) (hK : cK nd sh R) {I0 : Nat → Nat → Int32} (hI0 : hD nd D I0) (hB : dB nd D) {r : Nat} (hR0 : rT r f I0 R) {i rm : Nat} (hi : i < nd) (hrm : rm < 6)
    (H : ∀ v' I', fr3 I0 I' → fsP f D i rm v' 64 → Q (some (.long v')) (n, t, sh, I', L, R)) :
    ∀ k st v I l7 l8, st + k = 4 → fr3 I0 I → fsP f D i rm v (st * 16) →
    aE (a_cl_ d) 12 (6, [.ref 1, .ref (47 + i), .int (nI i), .int (nI rm), .long v, a_hole, .int (nI st), l7, l8], [], (n, t, sh, I, L, R)) Q := by
  intro k
  induction k with
  | zero =>
    intro st v I l7 l8 hk hI hP
    obtain rfl : st = 4 := by omega
    rw [e12_6]
    simp (disch := first | assumption | exact ct_i | exact ct_r | exact ct_n | exact ct_h | omega | exact z_in (by omega) (by omega) | exact b01 | exact Or.inl rfl | exact Or.inr rfl) only [e12_0, e12_1, e12_3, e12_4, e12_8, e12_9, e12_12, e12_13, e12_17, e12_18, e12_21, e12_22, e12_24, e12_26, e12_27, e12_30, e12_30n, e12_31, e12_33, e12_35, e12_37, e12_40, e12_43, e12_46, e12_47, e12_48, e12_50, e12_52, e12_53, e12_55, e12_55n, e12_56, e12_57, e12_60, e12_63, e12_64, e12_67, e12_68, e12_69, e12_72, e12_75, e12_78, e12_80, e12_81, e12_83, e12_85, e12_87, e12_90, e12_91, e12_92, e12_94, e12_97, e12_100, e12_103, e12_106, e12_109, e12_112, e12_114, ct_i, ct_r, ct_n, ct_h, opt_v, opt_s, ref_s, ref_n, eq_self_iff_true, true_or, or_true, zl0, zl1, zl2, zl3, zl4, zl5, zl6, zl7, zl8, zl9, zl10, zl16, zl32, zl40, zl100, zl160, zIc1, zI_lt, zI_le, nI_eq, nI_add, z_sub, nI_clamp, zI_of, uu_eq, uu_ne, Nat.reduceLT, Nat.reduceLeDiff, Nat.reduceEqDiff, Nat.reduceAdd, Nat.reduceSub, Nat.reduceMul, Nat.not_lt_zero, Nat.lt_irrefl, Nat.le_refl, Bool.false_eq_true, false_and, and_false, true_and, and_true, if_pos, if_neg, if_true, if_false, not_true_eq_false, not_false_eq_true]
    exact H v I hI hP
  | succ k ih =>
    intro st v I l7 l8 hk hI hP
    rw [e12_6]
    simp (disch := first | assumption | exact ct_i | exact ct_r | exact ct_n | exact ct_h | omega | exact z_in (by omega) (by omega) | exact b01 | exact Or.inl rfl | exact Or.inr rfl) only [e12_0, e12_1, e12_3, e12_4, e12_8, e12_9, e12_12, e12_13, e12_17, e12_18, e12_21, e12_22, e12_24, e12_26, e12_27, e12_30, e12_30n, e12_31, e12_33, e12_35, e12_37, e12_40, e12_43, e12_46, e12_47, e12_48, e12_50, e12_52, e12_53, e12_55, e12_55n, e12_56, e12_57, e12_60, e12_63, e12_64, e12_67, e12_68, e12_69, e12_72, e12_75, e12_78, e12_80, e12_81, e12_83, e12_85, e12_87, e12_90, e12_91, e12_92, e12_94, e12_97, e12_100, e12_103, e12_106, e12_109, e12_112, e12_114, ct_i, ct_r, ct_n, ct_h, opt_v, opt_s, ref_s, ref_n, eq_self_iff_true, true_or, or_true, zl0, zl1, zl2, zl3, zl4, zl5, zl6, zl7, zl8, zl9, zl10, zl16, zl32, zl40, zl100, zl160, zIc1, zI_lt, zI_le, nI_eq, nI_add, z_sub, nI_clamp, zI_of, uu_eq, uu_ne, Nat.reduceLT, Nat.reduceLeDiff, Nat.reduceEqDiff, Nat.reduceAdd, Nat.reduceSub, Nat.reduceMul, Nat.not_lt_zero, Nat.lt_irrefl, Nat.le_refl, Bool.false_eq_true, false_and, and_false, true_and, and_true, if_pos, if_neg, if_true, if_false, not_true_eq_false, not_false_eq_true]
    refine k12b hd hK hI0 hB hR0 hi hrm (show st < 4 by omega) 4 0 v I l8 (by omega) hI (by exact hP) (fun v' I' l7 l8 hI' hP' => ?_)
    simp (disch := first | assumption | exact ct_i | exact ct_r | exact ct_n | exact ct_h | omega | exact z_in (by omega) (by omega) | exact b01 | exact Or.inl rfl | exact Or.inr rfl) only [e12_0, e12_1, e12_3, e12_4, e12_8, e12_9, e12_12, e12_13, e12_17, e12_18, e12_21, e12_22, e12_24, e12_26, e12_27, e12_30, e12_30n, e12_31, e12_33, e12_35, e12_37, e12_40, e12_43, e12_46, e12_47, e12_48, e12_50, e12_52, e12_53, e12_55, e12_55n, e12_56, e12_57, e12_60, e12_63, e12_64, e12_67, e12_68, e12_69, e12_72, e12_75, e12_78, e12_80, e12_81, e12_83, e12_85, e12_87, e12_90, e12_91, e12_92, e12_94, e12_97, e12_100, e12_103, e12_106, e12_109, e12_112, e12_114, ct_i, ct_r, ct_n, ct_h, opt_v, opt_s, ref_s, ref_n, eq_self_iff_true, true_or, or_true, zl0, zl1, zl2, zl3, zl4, zl5, zl6, zl7, zl8, zl9, zl10, zl16, zl32, zl40, zl100, zl160, zIc1, zI_lt, zI_le, nI_eq, nI_add, z_sub, nI_clamp, zI_of, uu_eq, uu_ne, Nat.reduceLT, Nat.reduceLeDiff, Nat.reduceEqDiff, Nat.reduceAdd, Nat.reduceSub, Nat.reduceMul, Nat.not_lt_zero, Nat.lt_irrefl, Nat.le_refl, Bool.false_eq_true, false_and, and_false, true_and, and_true, if_pos, if_neg, if_true, if_false, not_true_eq_false, not_false_eq_true]
    exact ih (st + 1) v' I' l7 l8 (by omega) hI' hP'
theorem k12 (hd : 4 ≤ d) (hK : cK nd sh R) (hI : hD nd D I) (hB : dB nd D) {r : Nat} (hR : rT r f I R) {i rm : Nat} (hi : i < nd) (hrm : rm < 6)
    (H : ∀ v' I', fr3 I I' → (∀ st, st < 4 → ∀ tn, tn < 4 → ∀ ks, ks < 4 → bitL v' (st * 16 + tn * 4 + ks) = opn f D i st tn ks rm) → Q (some (.long v')) (n, t, sh, I', L, R)) :
    aC d 12 [.ref 1, .ref (47 + i), .int (nI i), .int (nI rm)] (n, t, sh, I, L, R) Q := by
  obtain ⟨d, rfl⟩ : ∃ e, d = e + 1 := ⟨d - 1, by omega⟩
  simp (disch := first | assumption | exact ct_i | exact ct_r | exact ct_n | exact ct_h | omega | exact z_in (by omega) (by omega) | exact b01 | exact Or.inl rfl | exact Or.inr rfl) only [b12, e12_0, e12_1, e12_3, e12_4, e12_8, e12_9, e12_12, e12_13, e12_15, e12_17, e12_18, e12_21, e12_22, e12_24, e12_26, e12_27, e12_30, e12_30n, e12_31, e12_33, e12_35, e12_37, e12_40, e12_43, e12_46, e12_47, e12_48, e12_50, e12_52, e12_53, e12_55, e12_55n, e12_56, e12_57, e12_60, e12_63, e12_64, e12_67, e12_68, e12_69, e12_72, e12_75, e12_78, e12_80, e12_81, e12_83, e12_85, e12_87, e12_90, e12_91, e12_92, e12_94, e12_97, e12_100, e12_103, e12_106, e12_109, e12_112, e12_114, ct_i, ct_r, ct_n, ct_h, opt_v, opt_s, ref_s, ref_n, eq_self_iff_true, true_or, or_true, zl0, zl1, zl2, zl3, zl4, zl5, zl6, zl7, zl8, zl9, zl10, zl16, zl32, zl40, zl100, zl160, zIc1, zI_lt, zI_le, nI_eq, nI_add, z_sub, nI_clamp, zI_of, uu_eq, uu_ne, Nat.reduceLT, Nat.reduceLeDiff, Nat.reduceEqDiff, Nat.reduceAdd, Nat.reduceSub, Nat.reduceMul, Nat.not_lt_zero, Nat.lt_irrefl, Nat.le_refl, Bool.false_eq_true, false_and, and_false, true_and, and_true, if_pos, if_neg, if_true, if_false, not_true_eq_false, not_false_eq_true]
  refine k12a (by omega) hK hI hB hR hi hrm (fun v' I' hI' hP => H v' I' hI' fun st hst tn htn ks hks => ?_) 4 0 0 I _ _ rfl fr3_refl (by exact fsP_0)
  rw [hP _ (by omega), decide_eq_true (by omega), Bool.true_and]
  congr 1 <;> omega
end
