/-! the class's house: what is foreseen of a door -/
section
variable {d nd : Nat} {D : Nat → Nat → Nat} {f : Nat → List Nat} {n t : Nat} {sh : Nat → Nat × Nat} {I : Nat → Nat → Int32} {L : Nat → Nat → Int64} {R : Nat → Nat → Option Nat} {I' : Nat → Nat → Int32} {Q : Option Value → aH → Prop}
def fsP (f : Nat → List Nat) (D : Nat → Nat → Nat) (i rm : Nat) (v : Int64) (m : Nat) : Prop := ∀ b, b < 64 → bitL v b = (decide (b < m) && opn f D i (b / 16) (b / 4 % 4) (b % 4) rm)
theorem fsP_0 {i rm : Nat} : fsP f D i rm 0 0 := fun b hb => by rw [bitL_0 hb]; simp
theorem fsP_no {i rm st tn ks : Nat} {v : Int64} (h : fsP f D i rm v (st * 16 + tn * 4 + ks)) (h1 : st < 4) (h2 : tn < 4) (h3 : ks < 4) (hn : opn f D i st tn ks rm = false) : fsP f D i rm v (st * 16 + tn * 4 + (ks + 1)) := by
  intro b hb
  rw [h b hb]
  by_cases he : b = st * 16 + tn * 4 + ks
  · have e1 : b / 16 = st := by omega
    have e2 : b / 4 % 4 = tn := by omega
    have e3 : b % 4 = ks := by omega
    rw [e1, e2, e3, hn, Bool.and_false, Bool.and_false]
  · congr 1
    exact decide_eq_decide.mpr (by omega)
theorem fsP_yes {i rm st tn ks : Nat} {v : Int64} (h : fsP f D i rm v (st * 16 + tn * 4 + ks)) (h1 : st < 4) (h2 : tn < 4) (h3 : ks < 4) (hn : opn f D i st tn ks rm = true) : fsP f D i rm (v ||| 1 <<< ((nI (st * 16 + tn * 4 + ks)).toInt64 &&& 63)) (st * 16 + tn * 4 + (ks + 1)) := by
  intro b hb
  rw [bitL_or (by omega) hb, h b hb]
  by_cases he : b = st * 16 + tn * 4 + ks
  · have e1 : b / 16 = st := by omega
    have e2 : b / 4 % 4 = tn := by omega
    have e3 : b % 4 = ks := by omega
    rw [e1, e2, e3, hn, decide_eq_true he, Bool.or_true, Bool.and_true]
    exact (decide_eq_true (by omega)).symm
  · rw [decide_eq_false he, Bool.or_false]
    congr 1
    exact decide_eq_decide.mpr (by omega)
theorem k12c (hd : 3 ≤ d) (hK : cK nd sh R) {I0 : Nat → Nat → Int32} (hI0 : hD nd D I0) (hB : dB nd D) {r : Nat} (hR0 : rT r f I0 R) {i rm st tn : Nat} (hi : i < nd) (hrm : rm < 6) (h1 : st < 4) (h2 : tn < 4) :
    ∀ k ks v I, ks + k = 4 → fr3 I0 I → fsP f D i rm v (st * 16 + tn * 4 + ks) →
    (∀ v' I' l8, fr3 I0 I' → fsP f D i rm v' (st * 16 + (tn + 1) * 4) → aE (a_cl_ d) 12 (100, [.ref 1, .ref (47 + i), .int (nI i), .int (nI rm), .long v', a_hole, .int (nI st), .int (nI tn), l8], [], (n, t, sh, I', L, R)) Q) →
    aE (a_cl_ d) 12 (24, [.ref 1, .ref (47 + i), .int (nI i), .int (nI rm), .long v, a_hole, .int (nI st), .int (nI tn), .int (nI ks)], [], (n, t, sh, I, L, R)) Q := by
  obtain ⟨c1, c2, c2', c3, c3', c4, c5, c6⟩ := cPh hK
  obtain ⟨g1, g2⟩ := cPd hK hi
  have hb := hB i hi
  have gr := hR0.1
  obtain ⟨gt, gt'⟩ := cPt hK hR0.2.1
  intro k
  induction k with
  | zero =>
    intro ks v I hk hI hP H
    obtain rfl : ks = 4 := by omega
    simp (disch := first | assumption | exact ct_i | exact ct_r | exact ct_n | exact ct_h | omega | exact z_in (by omega) (by omega) | exact b01 | exact Or.inl rfl | exact Or.inr rfl) only [e12_0, e12_1, e12_3, e12_4, e12_6, e12_8, e12_9, e12_12, e12_13, e12_15, e12_17, e12_18, e12_21, e12_22, e12_24, e12_26, e12_27, e12_30, e12_30n, e12_31, e12_33, e12_35, e12_37, e12_40, e12_43, e12_46, e12_47, e12_48, e12_50, e12_52, e12_53, e12_55, e12_55n, e12_56, e12_57, e12_60, e12_63, e12_64, e12_67, e12_68, e12_69, e12_72, e12_75, e12_78, e12_80, e12_81, e12_83, e12_85, e12_87, e12_90, e12_91, e12_92, e12_94, e12_97, e12_103, e12_106, e12_109, e12_112, e12_114, ct_i, ct_r, ct_n, ct_h, opt_v, opt_s, ref_s, ref_n, eq_self_iff_true, true_or, or_true, zl0, zl1, zl2, zl3, zl4, zl5, zl6, zl7, zl8, zl9, zl10, zl16, zl32, zl40, zl100, zl160, zIc1, zI_lt, zI_le, nI_eq, nI_add, z_sub, nI_clamp, zI_of, uu_eq, uu_ne, Nat.reduceLT, Nat.reduceLeDiff, Nat.reduceEqDiff, Nat.reduceAdd, Nat.reduceSub, Nat.reduceMul, Nat.not_lt_zero, Nat.lt_irrefl, Nat.le_refl, Bool.false_eq_true, false_and, and_false, true_and, and_true, if_pos, if_neg, if_true, if_false, not_true_eq_false, not_false_eq_true]
    exact H v I _ hI (by rw [show st * 16 + (tn + 1) * 4 = st * 16 + tn * 4 + 4 by omega]; exact hP)
  | succ k ih =>
    intro ks v I hk hI hP H
    have hks : ks < 4 := by omega
    have hI1 := hD_fr hI c6 hI0
    have e0 := hI1.2 i hi 0 (by decide)
    have e1 := hI1.2 i hi 1 (by decide)
    have e3 := hI1.2 i hi 3 (by decide)
    have e4 := hI1.2 i hi 4 (by decide)
    rw [e12_24]
    by_cases ho : opk (D i 4) st tn ks (D i 3) = true
    · simp (disch := first | assumption | exact ct_i | exact ct_r | exact ct_n | exact ct_h | omega | exact z_in (by omega) (by omega) | exact b01 | exact Or.inl rfl | exact Or.inr rfl) only [e12_0, e12_1, e12_3, e12_4, e12_6, e12_8, e12_9, e12_12, e12_13, e12_15, e12_17, e12_18, e12_21, e12_22, e12_26, e12_27, e12_30, e12_30n, e12_31, e12_33, e12_35, e12_37, e12_40, e12_43, e12_46, e12_47, e12_48, e12_50, e12_52, e12_53, e12_55, e12_55n, e12_56, e12_57, e12_60, e12_63, e12_64, e12_67, e12_68, e12_69, e12_72, e12_75, e12_78, e12_80, e12_81, e12_83, e12_85, e12_87, e12_90, e12_91, e12_92, e12_94, e12_97, e12_103, e12_106, e12_109, e12_112, e12_114, ct_i, ct_r, ct_n, ct_h, opt_v, opt_s, ref_s, ref_n, eq_self_iff_true, true_or, or_true, zl0, zl1, zl2, zl3, zl4, zl5, zl6, zl7, zl8, zl9, zl10, zl16, zl32, zl40, zl100, zl160, zIc1, zI_lt, zI_le, nI_eq, nI_add, z_sub, nI_clamp, zI_of, uu_eq, uu_ne, Nat.reduceLT, Nat.reduceLeDiff, Nat.reduceEqDiff, Nat.reduceAdd, Nat.reduceSub, Nat.reduceMul, Nat.not_lt_zero, Nat.lt_irrefl, Nat.le_refl, Bool.false_eq_true, false_and, and_false, true_and, and_true, if_pos, if_neg, if_true, if_false, not_true_eq_false, not_false_eq_true, g1, k0 (show 1 ≤ d by omega) g1 e4 e3 hb.2.2.2.2 h1 h2 hks hb.2.2.2.1, ho, c1, k1 (show 1 ≤ d by omega) g1 e0 e1 hb.1 hrm, k13 (show 1 ≤ d by omega) c1 c3 c3' c5, gr, c5]
      refine kAns (by omega) hK (rT_fr (fr3_trans hI nm6_fr) hR0) (by decide) nmv_at (fun I' hI' => ?_)
      have hI2 : fr3 I0 I' := fr3_trans hI (fr3_trans nm6_fr hI')
      by_cases hx : tval f 0 (nmv i st tn rm ks (bey D i rm)) = 0
      · have hx' : tval f 0 (nmv i st tn rm ks (if rm = D i 0 then D i 1 else D i 0)) = nI 0 := hx
        simp (disch := first | assumption | exact ct_i | exact ct_r | exact ct_n | exact ct_h | omega | exact z_in (by omega) (by omega) | exact b01 | exact Or.inl rfl | exact Or.inr rfl) only [e12_0, e12_1, e12_3, e12_4, e12_6, e12_8, e12_9, e12_12, e12_13, e12_15, e12_17, e12_18, e12_21, e12_22, e12_26, e12_27, e12_30, e12_30n, e12_31, e12_33, e12_35, e12_37, e12_40, e12_43, e12_46, e12_47, e12_48, e12_50, e12_52, e12_53, e12_55, e12_55n, e12_56, e12_57, e12_60, e12_63, e12_64, e12_67, e12_68, e12_69, e12_72, e12_75, e12_78, e12_80, e12_81, e12_83, e12_85, e12_87, e12_90, e12_91, e12_92, e12_94, e12_97, e12_103, e12_106, e12_109, e12_112, e12_114, ct_i, ct_r, ct_n, ct_h, opt_v, opt_s, ref_s, ref_n, eq_self_iff_true, true_or, or_true, zl0, zl1, zl2, zl3, zl4, zl5, zl6, zl7, zl8, zl9, zl10, zl16, zl32, zl40, zl100, zl160, zIc1, zI_lt, zI_le, nI_eq, nI_add, z_sub, nI_clamp, zI_of, uu_eq, uu_ne, Nat.reduceLT, Nat.reduceLeDiff, Nat.reduceEqDiff, Nat.reduceAdd, Nat.reduceSub, Nat.reduceMul, Nat.not_lt_zero, Nat.lt_irrefl, Nat.le_refl, Bool.false_eq_true, false_and, and_false, true_and, and_true, if_pos, if_neg, if_true, if_false, not_true_eq_false, not_false_eq_true, hx', k2 (show 1 ≤ d by omega)]
        refine ih (ks + 1) _ _ (by omega) hI2 (fsP_yes hP h1 h2 hks ?_) H
        unfold opn
        rw [ho, hx]
        rfl
      · have hx' : ¬ tval f 0 (nmv i st tn rm ks (if rm = D i 0 then D i 1 else D i 0)) = nI 0 := hx
        simp (disch := first | assumption | exact ct_i | exact ct_r | exact ct_n | exact ct_h | omega | exact z_in (by omega) (by omega) | exact b01 | exact Or.inl rfl | exact Or.inr rfl) only [e12_0, e12_1, e12_3, e12_4, e12_6, e12_8, e12_9, e12_12, e12_13, e12_15, e12_17, e12_18, e12_21, e12_22, e12_26, e12_27, e12_30, e12_30n, e12_31, e12_33, e12_35, e12_37, e12_40, e12_43, e12_46, e12_47, e12_48, e12_50, e12_52, e12_53, e12_55, e12_55n, e12_56, e12_57, e12_60, e12_63, e12_64, e12_67, e12_68, e12_69, e12_72, e12_75, e12_78, e12_80, e12_81, e12_83, e12_85, e12_87, e12_90, e12_91, e12_92, e12_94, e12_97, e12_103, e12_106, e12_109, e12_112, e12_114, ct_i, ct_r, ct_n, ct_h, opt_v, opt_s, ref_s, ref_n, eq_self_iff_true, true_or, or_true, zl0, zl1, zl2, zl3, zl4, zl5, zl6, zl7, zl8, zl9, zl10, zl16, zl32, zl40, zl100, zl160, zIc1, zI_lt, zI_le, nI_eq, nI_add, z_sub, nI_clamp, zI_of, uu_eq, uu_ne, Nat.reduceLT, Nat.reduceLeDiff, Nat.reduceEqDiff, Nat.reduceAdd, Nat.reduceSub, Nat.reduceMul, Nat.not_lt_zero, Nat.lt_irrefl, Nat.le_refl, Bool.false_eq_true, false_and, and_false, true_and, and_true, if_pos, if_neg, if_true, if_false, not_true_eq_false, not_false_eq_true, hx']
        refine ih (ks + 1) _ _ (by omega) hI2 (fsP_no hP h1 h2 hks ?_) H
        unfold opn
        rw [decide_eq_false hx, Bool.and_false]
    · simp (disch := first | assumption | exact ct_i | exact ct_r | exact ct_n | exact ct_h | omega | exact z_in (by omega) (by omega) | exact b01 | exact Or.inl rfl | exact Or.inr rfl) only [e12_0, e12_1, e12_3, e12_4, e12_6, e12_8, e12_9, e12_12, e12_13, e12_15, e12_17, e12_18, e12_21, e12_22, e12_26, e12_27, e12_30, e12_30n, e12_31, e12_33, e12_35, e12_37, e12_40, e12_43, e12_46, e12_47, e12_48, e12_50, e12_52, e12_53, e12_55, e12_55n, e12_56, e12_57, e12_60, e12_63, e12_64, e12_67, e12_68, e12_69, e12_72, e12_75, e12_78, e12_80, e12_81, e12_83, e12_85, e12_87, e12_90, e12_91, e12_92, e12_94, e12_97, e12_103, e12_106, e12_109, e12_112, e12_114, ct_i, ct_r, ct_n, ct_h, opt_v, opt_s, ref_s, ref_n, eq_self_iff_true, true_or, or_true, zl0, zl1, zl2, zl3, zl4, zl5, zl6, zl7, zl8, zl9, zl10, zl16, zl32, zl40, zl100, zl160, zIc1, zI_lt, zI_le, nI_eq, nI_add, z_sub, nI_clamp, zI_of, uu_eq, uu_ne, Nat.reduceLT, Nat.reduceLeDiff, Nat.reduceEqDiff, Nat.reduceAdd, Nat.reduceSub, Nat.reduceMul, Nat.not_lt_zero, Nat.lt_irrefl, Nat.le_refl, Bool.false_eq_true, false_and, and_false, true_and, and_true, if_pos, if_neg, if_true, if_false, not_true_eq_false, not_false_eq_true, g1, k0 (show 1 ≤ d by omega) g1 e4 e3 hb.2.2.2.2 h1 h2 hks hb.2.2.2.1, ho]
      refine ih (ks + 1) _ _ (by omega) hI (fsP_no hP h1 h2 hks ?_) H
      unfold opn
      rw [(Bool.not_eq_true _).mp ho, Bool.false_and]
theorem k12b (hd : 3 ≤ d) (hK : cK nd sh R) {I0 : Nat → Nat → Int32} (hI0 : hD nd D I0) (hB : dB nd D) {r : Nat} (hR0 : rT r f I0 R) {i rm st : Nat} (hi : i < nd) (hrm : rm < 6) (h1 : st < 4) :
    ∀ k tn v I l8, tn + k = 4 → fr3 I0 I → fsP f D i rm v (st * 16 + tn * 4) →
    (∀ v' I' l7 l8, fr3 I0 I' → fsP f D i rm v' ((st + 1) * 16) → aE (a_cl_ d) 12 (106, [.ref 1, .ref (47 + i), .int (nI i), .int (nI rm), .long v', a_hole, .int (nI st), l7, l8], [], (n, t, sh, I', L, R)) Q) →
    aE (a_cl_ d) 12 (15, [.ref 1, .ref (47 + i), .int (nI i), .int (nI rm), .long v, a_hole, .int (nI st), .int (nI tn), l8], [], (n, t, sh, I, L, R)) Q := by
  intro k
  induction k with
  | zero =>
    intro tn v I l8 hk hI hP H
    obtain rfl : tn = 4 := by omega
    rw [e12_15]
    simp (disch := first | assumption | exact ct_i | exact ct_r | exact ct_n | exact ct_h | omega | exact z_in (by omega) (by omega) | exact b01 | exact Or.inl rfl | exact Or.inr rfl) only [e12_0, e12_1, e12_3, e12_4, e12_6, e12_8, e12_9, e12_12, e12_13, e12_17, e12_18, e12_21, e12_22, e12_26, e12_27, e12_30, e12_30n, e12_31, e12_33, e12_35, e12_37, e12_40, e12_43, e12_46, e12_47, e12_48, e12_50, e12_52, e12_53, e12_55, e12_55n, e12_56, e12_57, e12_60, e12_63, e12_64, e12_67, e12_68, e12_69, e12_72, e12_75, e12_78, e12_80, e12_81, e12_83, e12_85, e12_87, e12_90, e12_91, e12_92, e12_94, e12_97, e12_100, e12_103, e12_109, e12_112, e12_114, ct_i, ct_r, ct_n, ct_h, opt_v, opt_s, ref_s, ref_n, eq_self_iff_true, true_or, or_true, zl0, zl1, zl2, zl3, zl4, zl5, zl6, zl7, zl8, zl9, zl10, zl16, zl32, zl40, zl100, zl160, zIc1, zI_lt, zI_le, nI_eq, nI_add, z_sub, nI_clamp, zI_of, uu_eq, uu_ne, Nat.reduceLT, Nat.reduceLeDiff, Nat.reduceEqDiff, Nat.reduceAdd, Nat.reduceSub, Nat.reduceMul, Nat.not_lt_zero, Nat.lt_irrefl, Nat.le_refl, Bool.false_eq_true, false_and, and_false, true_and, and_true, if_pos, if_neg, if_true, if_false, not_true_eq_false, not_false_eq_true]
    exact H v I _ _ hI (by rw [show (st + 1) * 16 = st * 16 + 4 * 4 by omega]; exact hP)
  | succ k ih =>
    intro tn v I l8 hk hI hP H
    rw [e12_15]
    simp (disch := first | assumption | exact ct_i | exact ct_r | exact ct_n | exact ct_h | omega | exact z_in (by omega) (by omega) | exact b01 | exact Or.inl rfl | exact Or.inr rfl) only [e12_0, e12_1, e12_3, e12_4, e12_6, e12_8, e12_9, e12_12, e12_13, e12_17, e12_18, e12_21, e12_22, e12_26, e12_27, e12_30, e12_30n, e12_31, e12_33, e12_35, e12_37, e12_40, e12_43, e12_46, e12_47, e12_48, e12_50, e12_52, e12_53, e12_55, e12_55n, e12_56, e12_57, e12_60, e12_63, e12_64, e12_67, e12_68, e12_69, e12_72, e12_75, e12_78, e12_80, e12_81, e12_83, e12_85, e12_87, e12_90, e12_91, e12_92, e12_94, e12_97, e12_100, e12_103, e12_109, e12_112, e12_114, ct_i, ct_r, ct_n, ct_h, opt_v, opt_s, ref_s, ref_n, eq_self_iff_true, true_or, or_true, zl0, zl1, zl2, zl3, zl4, zl5, zl6, zl7, zl8, zl9, zl10, zl16, zl32, zl40, zl100, zl160, zIc1, zI_lt, zI_le, nI_eq, nI_add, z_sub, nI_clamp, zI_of, uu_eq, uu_ne, Nat.reduceLT, Nat.reduceLeDiff, Nat.reduceEqDiff, Nat.reduceAdd, Nat.reduceSub, Nat.reduceMul, Nat.not_lt_zero, Nat.lt_irrefl, Nat.le_refl, Bool.false_eq_true, false_and, and_false, true_and, and_true, if_pos, if_neg, if_true, if_false, not_true_eq_false, not_false_eq_true]
    refine k12c hd hK hI0 hB hR0 hi hrm h1 (show tn < 4 by omega) 4 0 v I (by omega) hI (by exact hP) (fun v' I' l8 hI' hP' => ?_)
    simp (disch := first | assumption | exact ct_i | exact ct_r | exact ct_n | exact ct_h | omega | exact z_in (by omega) (by omega) | exact b01 | exact Or.inl rfl | exact Or.inr rfl) only [e12_0, e12_1, e12_3, e12_4, e12_6, e12_8, e12_9, e12_12, e12_13, e12_17, e12_18, e12_21, e12_22, e12_26, e12_27, e12_30, e12_30n, e12_31, e12_33, e12_35, e12_37, e12_40, e12_43, e12_46, e12_47, e12_48, e12_50, e12_52, e12_53, e12_55, e12_55n, e12_56, e12_57, e12_60, e12_63, e12_64, e12_67, e12_68, e12_69, e12_72, e12_75, e12_78, e12_80, e12_81, e12_83, e12_85, e12_87, e12_90, e12_91, e12_92, e12_94, e12_97, e12_100, e12_103, e12_109, e12_112, e12_114, ct_i, ct_r, ct_n, ct_h, opt_v, opt_s, ref_s, ref_n, eq_self_iff_true, true_or, or_true, zl0, zl1, zl2, zl3, zl4, zl5, zl6, zl7, zl8, zl9, zl10, zl16, zl32, zl40, zl100, zl160, zIc1, zI_lt, zI_le, nI_eq, nI_add, z_sub, nI_clamp, zI_of, uu_eq, uu_ne, Nat.reduceLT, Nat.reduceLeDiff, Nat.reduceEqDiff, Nat.reduceAdd, Nat.reduceSub, Nat.reduceMul, Nat.not_lt_zero, Nat.lt_irrefl, Nat.le_refl, Bool.false_eq_true, false_and, and_false, true_and, and_true, if_pos, if_neg, if_true, if_false, not_true_eq_false, not_false_eq_true]
    exact ih (tn + 1) v' I' l8 (by omega) hI' hP' H
theorem k12a (hd : 3 ≤ d) (hK : cK nd sh R) {I0 : Nat → Nat → Int32} (hI0 : hD nd D I0) (hB : dB nd D) {r : Nat} (hR0 : rT r f I0 R) {i rm : Nat} (hi : i < nd) (hrm : rm < 6)
    (H : ∀ v' I', fr3 I0 I' → fsP f D i rm v' 64 → Q (some (.long v')) (n, t, sh, I', L, R)) :
    ∀ k st v I l7 l8, st + k = 4 → fr3 I0 I → fsP f D i rm v (st * 16) →
    aE (a_cl_ d) 12 (6, [.ref 1, .ref (47 + i), .int (nI i), .int (nI rm), .long v, a_hole, .int (nI st), l7, l8], [], (n, t, sh, I, L, R)) Q := by
  intro k
  induction k with
  | zero =>
    intro st v I l7 l8 hk hI hP
    obtain rfl : st = 4 := by omega
    rw [e12_6]
    simp (disch := first | assumption | exact ct_i | exact ct_r | exact ct_n | exact ct_h | omega | exact z_in (by omega) (by omega) | exact b01 | exact Or.inl rfl | exact Or.inr rfl) only [e12_0, e12_1, e12_3, e12_4, e12_8, e12_9, e12_12, e12_13, e12_17, e12_18, e12_21, e12_22, e12_24, e12_26, e12_27, e12_30, e12_30n, e12_31, e12_33, e12_35, e12_37, e12_40, e12_43, e12_46, e12_47, e12_48, e12_50, e12_52, e12_53, e12_55, e12_55n, e12_56, e12_57, e12_60, e12_63, e12_64, e12_67, e12_68, e12_69, e12_72, e12_75, e12_78, e12_80, e12_81, e12_83, e12_85, e12_87, e12_90, e12_91, e12_92, e12_94, e12_97, e12_100, e12_103, e12_106, e12_109, e12_112, e12_114, ct_i, ct_r, ct_n, ct_h, opt_v, opt_s, ref_s, ref_n, eq_self_iff_true, true_or, or_true, zl0, zl1, zl2, zl3, zl4, zl5, zl6, zl7, zl8, zl9, zl10, zl16, zl32, zl40, zl100, zl160, zIc1, zI_lt, zI_le, nI_eq, nI_add, z_sub, nI_clamp, zI_of, uu_eq, uu_ne, Nat.reduceLT, Nat.reduceLeDiff, Nat.reduceEqDiff, Nat.reduceAdd, Nat.reduceSub, Nat.reduceMul, Nat.not_lt_zero, Nat.lt_irrefl, Nat.le_refl, Bool.false_eq_true, false_and, and_false, true_and, and_true, if_pos, if_neg, if_true, if_false, not_true_eq_false, not_false_eq_true]
    exact H v I hI hP
  | succ k ih =>
    intro st v I l7 l8 hk hI hP
    rw [e12_6]
    simp (disch := first | assumption | exact ct_i | exact ct_r | exact ct_n | exact ct_h | omega | exact z_in (by omega) (by omega) | exact b01 | exact Or.inl rfl | exact Or.inr rfl) only [e12_0, e12_1, e12_3, e12_4, e12_8, e12_9, e12_12, e12_13, e12_17, e12_18, e12_21, e12_22, e12_24, e12_26, e12_27, e12_30, e12_30n, e12_31, e12_33, e12_35, e12_37, e12_40, e12_43, e12_46, e12_47, e12_48, e12_50, e12_52, e12_53, e12_55, e12_55n, e12_56, e12_57, e12_60, e12_63, e12_64, e12_67, e12_68, e12_69, e12_72, e12_75, e12_78, e12_80, e12_81, e12_83, e12_85, e12_87, e12_90, e12_91, e12_92, e12_94, e12_97, e12_100, e12_103, e12_106, e12_109, e12_112, e12_114, ct_i, ct_r, ct_n, ct_h, opt_v, opt_s, ref_s, ref_n, eq_self_iff_true, true_or, or_true, zl0, zl1, zl2, zl3, zl4, zl5, zl6, zl7, zl8, zl9, zl10, zl16, zl32, zl40, zl100, zl160, zIc1, zI_lt, zI_le, nI_eq, nI_add, z_sub, nI_clamp, zI_of, uu_eq, uu_ne, Nat.reduceLT, Nat.reduceLeDiff, Nat.reduceEqDiff, Nat.reduceAdd, Nat.reduceSub, Nat.reduceMul, Nat.not_lt_zero, Nat.lt_irrefl, Nat.le_refl, Bool.false_eq_true, false_and, and_false, true_and, and_true, if_pos, if_neg, if_true, if_false, not_true_eq_false, not_false_eq_true]
    refine k12b hd hK hI0 hB hR0 hi hrm (show st < 4 by omega) 4 0 v I l8 (by omega) hI (by exact hP) (fun v' I' l7 l8 hI' hP' => ?_)
    simp (disch := first | assumption | exact ct_i | exact ct_r | exact ct_n | exact ct_h | omega | exact z_in (by omega) (by omega) | exact b01 | exact Or.inl rfl | exact Or.inr rfl) only [e12_0, e12_1, e12_3, e12_4, e12_8, e12_9, e12_12, e12_13, e12_17, e12_18, e12_21, e12_22, e12_24, e12_26, e12_27, e12_30, e12_30n, e12_31, e12_33, e12_35, e12_37, e12_40, e12_43, e12_46, e12_47, e12_48, e12_50, e12_52, e12_53, e12_55, e12_55n, e12_56, e12_57, e12_60, e12_63, e12_64, e12_67, e12_68, e12_69, e12_72, e12_75, e12_78, e12_80, e12_81, e12_83, e12_85, e12_87, e12_90, e12_91, e12_92, e12_94, e12_97, e12_100, e12_103, e12_106, e12_109, e12_112, e12_114, ct_i, ct_r, ct_n, ct_h, opt_v, opt_s, ref_s, ref_n, eq_self_iff_true, true_or, or_true, zl0, zl1, zl2, zl3, zl4, zl5, zl6, zl7, zl8, zl9, zl10, zl16, zl32, zl40, zl100, zl160, zIc1, zI_lt, zI_le, nI_eq, nI_add, z_sub, nI_clamp, zI_of, uu_eq, uu_ne, Nat.reduceLT, Nat.reduceLeDiff, Nat.reduceEqDiff, Nat.reduceAdd, Nat.reduceSub, Nat.reduceMul, Nat.not_lt_zero, Nat.lt_irrefl, Nat.le_refl, Bool.false_eq_true, false_and, and_false, true_and, and_true, if_pos, if_neg, if_true, if_false, not_true_eq_false, not_false_eq_true]
    exact ih (st + 1) v' I' l7 l8 (by omega) hI' hP'
theorem k12 (hd : 4 ≤ d) (hK : cK nd sh R) (hI : hD nd D I) (hB : dB nd D) {r : Nat} (hR : rT r f I R) {i rm : Nat} (hi : i < nd) (hrm : rm < 6)
    (H : ∀ v' I', fr3 I I' → (∀ st, st < 4 → ∀ tn, tn < 4 → ∀ ks, ks < 4 → bitL v' (st * 16 + tn * 4 + ks) = opn f D i st tn ks rm) → Q (some (.long v')) (n, t, sh, I', L, R)) :
    aC d 12 [.ref 1, .ref (47 + i), .int (nI i), .int (nI rm)] (n, t, sh, I, L, R) Q := by
  obtain ⟨d, rfl⟩ : ∃ e, d = e + 1 := ⟨d - 1, by omega⟩
  simp (disch := first | assumption | exact ct_i | exact ct_r | exact ct_n | exact ct_h | omega | exact z_in (by omega) (by omega) | exact b01 | exact Or.inl rfl | exact Or.inr rfl) only [b12, e12_0, e12_1, e12_3, e12_4, e12_8, e12_9, e12_12, e12_13, e12_15, e12_17, e12_18, e12_21, e12_22, e12_24, e12_26, e12_27, e12_30, e12_30n, e12_31, e12_33, e12_35, e12_37, e12_40, e12_43, e12_46, e12_47, e12_48, e12_50, e12_52, e12_53, e12_55, e12_55n, e12_56, e12_57, e12_60, e12_63, e12_64, e12_67, e12_68, e12_69, e12_72, e12_75, e12_78, e12_80, e12_81, e12_83, e12_85, e12_87, e12_90, e12_91, e12_92, e12_94, e12_97, e12_100, e12_103, e12_106, e12_109, e12_112, e12_114, ct_i, ct_r, ct_n, ct_h, opt_v, opt_s, ref_s, ref_n, eq_self_iff_true, true_or, or_true, zl0, zl1, zl2, zl3, zl4, zl5, zl6, zl7, zl8, zl9, zl10, zl16, zl32, zl40, zl100, zl160, zIc1, zI_lt, zI_le, nI_eq, nI_add, z_sub, nI_clamp, zI_of, uu_eq, uu_ne, Nat.reduceLT, Nat.reduceLeDiff, Nat.reduceEqDiff, Nat.reduceAdd, Nat.reduceSub, Nat.reduceMul, Nat.not_lt_zero, Nat.lt_irrefl, Nat.le_refl, Bool.false_eq_true, false_and, and_false, true_and, and_true, if_pos, if_neg, if_true, if_false, not_true_eq_false, not_false_eq_true]
  refine k12a (by omega) hK hI hB hR hi hrm (fun v' I' hI' hP => H v' I' hI' fun st hst tn htn ks hks => ?_) 4 0 0 I _ _ rfl fr3_refl (by exact fsP_0)
  rw [hP _ (by omega), decide_eq_true (by omega), Bool.true_and]
  congr 1 <;> omega
def mOk (D : Nat → Nat → Nat) (f : Nat → List Nat) (L : Nat → Nat → Int64) (i : Nat) : Prop := ∀ st, st < 4 → ∀ tn, tn < 4 → ∀ ks, ks < 4 →
  bitL (L (47 + i) 5) (st * 16 + tn * 4 + ks) = opn f D i st tn ks (D i 0) ∧ bitL (L (47 + i) 6) (st * 16 + tn * 4 + ks) = opn f D i st tn ks (D i 1)
def frL (i : Nat) (L L' : Nat → Nat → Int64) : Prop := ∀ x k, ¬ (x = 47 + i ∧ (k = 5 ∨ k = 6)) → L' x k = L x k
theorem k10 (hd : 5 ≤ d) (hK : cK nd sh R) (hI : hD nd D I) (hB : dB nd D) {r : Nat} (hR : rT r f I R) {i : Nat} (hi : i < nd)
    (H : ∀ I' L', fr3 I I' → frL i L L' → mOk D f L' i → Q none (n, t, sh, I', L', R)) : aC d 10 [.ref 1, .int (nI i)] (n, t, sh, I, L, R) Q := by
  obtain ⟨d, rfl⟩ : ∃ e, d = e + 1 := ⟨d - 1, by omega⟩
  obtain ⟨h1, h2, h2', h3, h3', h4, h5, h6⟩ := cPh hK
  obtain ⟨g1, g2⟩ := cPd hK hi
  have hb := hB i hi
  have e0 := hI.2 i hi 0 (by decide)
  simp (disch := first | assumption | exact ct_i | exact ct_r | exact ct_n | exact ct_h | omega | exact z_in (by omega) (by omega) | exact b01 | exact Or.inl rfl | exact Or.inr rfl) only [b10, e10_0, e10_1, e10_2, e10_5, e10_5n, e10_6, e10_6n, e10_7n, e10_7, e10_10, e10_11, e10_11n, e10_12, e10_13, e10_13n, e10_14, e10_15, e10_15n, e10_16, e10_19, e10_22, e10_25, e10_25n, e10_26, e10_27, e10_27n, e10_28, e10_29, e10_29n, e10_30, e10_33, e10_36, e10_39, ct_i, ct_r, ct_n, ct_h, opt_v, opt_s, ref_s, ref_n, eq_self_iff_true, true_or, or_true, zl0, zl1, zl2, zl3, zl4, zl5, zl6, zl7, zl8, zl9, zl10, zl16, zl32, zl40, zl100, zl160, zIc1, zI_lt, zI_le, nI_eq, nI_add, z_sub, nI_clamp, zI_of, uu_eq, uu_ne, Nat.reduceLT, Nat.reduceLeDiff, Nat.reduceEqDiff, Nat.reduceAdd, Nat.reduceSub, Nat.reduceMul, Nat.not_lt_zero, Nat.lt_irrefl, Nat.le_refl, Bool.false_eq_true, false_and, and_false, true_and, and_true, if_pos, if_neg, if_true, if_false, not_true_eq_false, not_false_eq_true, h1, g1, k11 (show 1 ≤ d by omega) hK hI hi, e0]
  refine k12 (by omega) hK hI hB hR hi hb.1 (fun v1 I1 hf1 hv1 => ?_)
  have hI1 := hD_fr hf1 h6 hI
  have e1 := hI1.2 i hi 1 (by decide)
  simp (disch := first | assumption | exact ct_i | exact ct_r | exact ct_n | exact ct_h | omega | exact z_in (by omega) (by omega) | exact b01 | exact Or.inl rfl | exact Or.inr rfl) only [e10_0, e10_1, e10_2, e10_5, e10_5n, e10_6, e10_6n, e10_7n, e10_7, e10_10, e10_11, e10_11n, e10_12, e10_13, e10_13n, e10_14, e10_15, e10_15n, e10_16, e10_19, e10_22, e10_25, e10_25n, e10_26, e10_27, e10_27n, e10_28, e10_29, e10_29n, e10_30, e10_33, e10_36, e10_39, ct_i, ct_r, ct_n, ct_h, opt_v, opt_s, ref_s, ref_n, eq_self_iff_true, true_or, or_true, zl0, zl1, zl2, zl3, zl4, zl5, zl6, zl7, zl8, zl9, zl10, zl16, zl32, zl40, zl100, zl160, zIc1, zI_lt, zI_le, nI_eq, nI_add, z_sub, nI_clamp, zI_of, uu_eq, uu_ne, Nat.reduceLT, Nat.reduceLeDiff, Nat.reduceEqDiff, Nat.reduceAdd, Nat.reduceSub, Nat.reduceMul, Nat.not_lt_zero, Nat.lt_irrefl, Nat.le_refl, Bool.false_eq_true, false_and, and_false, true_and, and_true, if_pos, if_neg, if_true, if_false, not_true_eq_false, not_false_eq_true, h1, g1, e1]
  refine k12 (by omega) hK hI1 hB (rT_fr hf1 hR) hi hb.2.1 (fun v2 I2 hf2 hv2 => ?_)
  simp (disch := first | assumption | exact ct_i | exact ct_r | exact ct_n | exact ct_h | omega | exact z_in (by omega) (by omega) | exact b01 | exact Or.inl rfl | exact Or.inr rfl) only [e10_0, e10_1, e10_2, e10_5, e10_5n, e10_6, e10_6n, e10_7n, e10_7, e10_10, e10_11, e10_11n, e10_12, e10_13, e10_13n, e10_14, e10_15, e10_15n, e10_16, e10_19, e10_22, e10_25, e10_25n, e10_26, e10_27, e10_27n, e10_28, e10_29, e10_29n, e10_30, e10_33, e10_36, e10_39, ct_i, ct_r, ct_n, ct_h, opt_v, opt_s, ref_s, ref_n, eq_self_iff_true, true_or, or_true, zl0, zl1, zl2, zl3, zl4, zl5, zl6, zl7, zl8, zl9, zl10, zl16, zl32, zl40, zl100, zl160, zIc1, zI_lt, zI_le, nI_eq, nI_add, z_sub, nI_clamp, zI_of, uu_eq, uu_ne, Nat.reduceLT, Nat.reduceLeDiff, Nat.reduceEqDiff, Nat.reduceAdd, Nat.reduceSub, Nat.reduceMul, Nat.not_lt_zero, Nat.lt_irrefl, Nat.le_refl, Bool.false_eq_true, false_and, and_false, true_and, and_true, if_pos, if_neg, if_true, if_false, not_true_eq_false, not_false_eq_true, h1, g1]
  refine H I2 _ (fr3_trans hf1 hf2) (fun x k hx => ?_) (fun st hst tn htn ks hks => ?_)
  · simp (disch := omega) only [uu_ne]
  · simp (disch := omega) only [uu_ne, uu_eq]
    exact ⟨hv1 st hst tn htn ks hks, hv2 st hst tn htn ks hks⟩
theorem cK_r4 {v : Option Nat} (hK : cK nd sh R) : cK nd sh (u2 R 1 4 v) := by
  refine ⟨hK.1, hK.2.1, fun p hp => ?_, fun i hi => ?_, hK.2.2.2.2⟩
  · rw [uu_ne _ _ _ _ ?_]
    · exact hK.2.2.1 p hp
    · revert p
      decide
  · rw [uu_ne _ _ _ _ (by omega)]
    exact hK.2.2.2.1 i hi
def frLs (nd : Nat) (L L' : Nat → Nat → Int64) : Prop := ∀ x k, ¬ (47 ≤ x ∧ x < 47 + nd ∧ (k = 5 ∨ k = 6)) → L' x k = L x k
theorem k9l (hd : 5 ≤ d) (hK : cK nd sh R) {I0 : Nat → Nat → Int32} (hI0 : hD nd D I0) (hB : dB nd D) {r : Nat} (hR0 : rT r f I0 R) {L0 : Nat → Nat → Int64} {w : Nat}
    (H : ∀ I' L', fr3 I0 I' → frLs nd L0 L' → mC nd D f L' → Q none (n, t, sh, I', L', R)) :
    ∀ k i I L, i + k = nd → fr3 I0 I → frLs nd L0 L → (∀ j, j < i → mOk D f L j) →
    aE (a_cl_ d) 9 (12, [.ref 1, .ref w, .int (nI i)], [], (n, t, sh, I, L, R)) Q := by
  obtain ⟨h1, h2, h2', h3, h3', h4, h5, h6⟩ := cPh hK
  intro k
  induction k with
  | zero =>
    intro i I L hi hI hL hm
    obtain rfl : i = nd := by omega
    have e := (hD_fr hI h6 hI0).1
    simp (disch := first | assumption | exact ct_i | exact ct_r | exact ct_n | exact ct_h | omega | exact z_in (by omega) (by omega) | exact b01 | exact Or.inl rfl | exact Or.inr rfl) only [e9_0, e9_0n, e9_1n, e9_1, e9_4, e9_5, e9_6, e9_6n, e9_7, e9_10, e9_11, e9_12, e9_13, e9_14, e9_17, e9_20, e9_21, e9_22, e9_25, e9_28, e9_31, ct_i, ct_r, ct_n, ct_h, opt_v, opt_s, ref_s, ref_n, eq_self_iff_true, true_or, or_true, zl0, zl1, zl2, zl3, zl4, zl5, zl6, zl7, zl8, zl9, zl10, zl16, zl32, zl40, zl100, zl160, zIc1, zI_lt, zI_le, nI_eq, nI_add, z_sub, nI_clamp, zI_of, uu_eq, uu_ne, Nat.reduceLT, Nat.reduceLeDiff, Nat.reduceEqDiff, Nat.reduceAdd, Nat.reduceSub, Nat.reduceMul, Nat.not_lt_zero, Nat.lt_irrefl, Nat.le_refl, Bool.false_eq_true, false_and, and_false, true_and, and_true, if_pos, if_neg, if_true, if_false, not_true_eq_false, not_false_eq_true, h1, e]
    exact H I L hI hL hm
  | succ k ih =>
    intro i I L hi hI hL hm
    have e := (hD_fr hI h6 hI0).1
    rw [e9_12]
    simp (disch := first | assumption | exact ct_i | exact ct_r | exact ct_n | exact ct_h | omega | exact z_in (by omega) (by omega) | exact b01 | exact Or.inl rfl | exact Or.inr rfl) only [e9_0, e9_0n, e9_1n, e9_1, e9_4, e9_5, e9_6, e9_6n, e9_7, e9_10, e9_11, e9_13, e9_14, e9_17, e9_20, e9_21, e9_22, e9_25, e9_28, e9_31, ct_i, ct_r, ct_n, ct_h, opt_v, opt_s, ref_s, ref_n, eq_self_iff_true, true_or, or_true, zl0, zl1, zl2, zl3, zl4, zl5, zl6, zl7, zl8, zl9, zl10, zl16, zl32, zl40, zl100, zl160, zIc1, zI_lt, zI_le, nI_eq, nI_add, z_sub, nI_clamp, zI_of, uu_eq, uu_ne, Nat.reduceLT, Nat.reduceLeDiff, Nat.reduceEqDiff, Nat.reduceAdd, Nat.reduceSub, Nat.reduceMul, Nat.not_lt_zero, Nat.lt_irrefl, Nat.le_refl, Bool.false_eq_true, false_and, and_false, true_and, and_true, if_pos, if_neg, if_true, if_false, not_true_eq_false, not_false_eq_true, h1, e]
    refine k10 hd hK (hD_fr hI h6 hI0) hB (rT_fr hI hR0) (show i < nd by omega) (fun I' L' hI' hL' hm' => ?_)
    simp (disch := first | assumption | exact ct_i | exact ct_r | exact ct_n | exact ct_h | omega | exact z_in (by omega) (by omega) | exact b01 | exact Or.inl rfl | exact Or.inr rfl) only [e9_0, e9_0n, e9_1n, e9_1, e9_4, e9_5, e9_6, e9_6n, e9_7, e9_10, e9_11, e9_13, e9_14, e9_17, e9_20, e9_21, e9_22, e9_25, e9_28, e9_31, ct_i, ct_r, ct_n, ct_h, opt_v, opt_s, ref_s, ref_n, eq_self_iff_true, true_or, or_true, zl0, zl1, zl2, zl3, zl4, zl5, zl6, zl7, zl8, zl9, zl10, zl16, zl32, zl40, zl100, zl160, zIc1, zI_lt, zI_le, nI_eq, nI_add, z_sub, nI_clamp, zI_of, uu_eq, uu_ne, Nat.reduceLT, Nat.reduceLeDiff, Nat.reduceEqDiff, Nat.reduceAdd, Nat.reduceSub, Nat.reduceMul, Nat.not_lt_zero, Nat.lt_irrefl, Nat.le_refl, Bool.false_eq_true, false_and, and_false, true_and, and_true, if_pos, if_neg, if_true, if_false, not_true_eq_false, not_false_eq_true]
    refine ih (i + 1) I' L' (by omega) (fr3_trans hI hI') (fun x k hx => (hL' x k (by omega)).trans (hL x k hx)) (fun j hj => ?_)
    by_cases hji : j = i
    · subst hji; exact hm'
    · intro st hst tn htn ks hks
      rw [hL' _ _ (by omega), hL' _ _ (by omega)]
      exact hm j (by omega) st hst tn htn ks hks
theorem k9 (hd : 6 ≤ d) (hK : cK nd sh R) (hI : hD nd D I) (hB : dB nd D) {r : Nat} (hr : r < 6) (hC : txC f (24 + 4 * r) (25 + 4 * r) I) (hT : txB f)
    (H : ∀ I' L', fr3 I I' → frLs nd L L' → mC nd D f L' → Q none (n, t, sh, I', L', u2 R 1 4 (some (23 + 4 * r)))) : aC d 9 [.ref 1, .ref (23 + 4 * r)] (n, t, sh, I, L, R) Q := by
  obtain ⟨d, rfl⟩ : ∃ e, d = e + 1 := ⟨d - 1, by omega⟩
  obtain ⟨h1, h2, h2', h3, h3', h4, h5, h6⟩ := cPh hK
  have := k9l (show 5 ≤ d by omega) (cK_r4 hK) hI hB ⟨uu_eq R 1 4 (some (23 + 4 * r)), hr, hC, hT⟩ (L0 := L) (w := 23 + 4 * r) H nd 0 I L (by omega) fr3_refl (fun _ _ _ => rfl) (fun j hj => by omega)
  simp (disch := first | assumption | exact ct_i | exact ct_r | exact ct_n | exact ct_h | omega | exact z_in (by omega) (by omega) | exact b01 | exact Or.inl rfl | exact Or.inr rfl) only [b9, e9_0, e9_0n, e9_1n, e9_1, e9_4, e9_5, e9_6, e9_6n, e9_7, e9_10, e9_11, e9_13, e9_14, e9_17, e9_20, e9_21, e9_22, e9_25, e9_28, e9_31, ct_i, ct_r, ct_n, ct_h, opt_v, opt_s, ref_s, ref_n, eq_self_iff_true, true_or, or_true, zl0, zl1, zl2, zl3, zl4, zl5, zl6, zl7, zl8, zl9, zl10, zl16, zl32, zl40, zl100, zl160, zIc1, zI_lt, zI_le, nI_eq, nI_add, z_sub, nI_clamp, zI_of, uu_eq, uu_ne, Nat.reduceLT, Nat.reduceLeDiff, Nat.reduceEqDiff, Nat.reduceAdd, Nat.reduceSub, Nat.reduceMul, Nat.not_lt_zero, Nat.lt_irrefl, Nat.le_refl, Bool.false_eq_true, false_and, and_false, true_and, and_true, if_pos, if_neg, if_true, if_false, not_true_eq_false, not_false_eq_true, h1]
  exact this
theorem k23 (hd : 6 ≤ d) (hK : cK nd sh R) (hI : hD nd D I) (hB : dB nd D) {r : Nat} (hR : rT r f I R) {i kd : Nat} (hi : i < nd) (hkd : kd < 6)
    (H : ∀ I' L', fr3 (u2 I (47 + i) 4 (nI kd)) I' → frL i L L' → mOk (u2 D i 4 kd) f L' i → Q none (n, t, sh, I', L', R)) : aC d 23 [.ref 1, .int (nI i), .int (nI kd)] (n, t, sh, I, L, R) Q := by
  obtain ⟨d, rfl⟩ : ∃ e, d = e + 1 := ⟨d - 1, by omega⟩
  obtain ⟨h1, h2, h2', h3, h3', h4, h5, h6⟩ := cPh hK
  obtain ⟨g1, g2⟩ := cPd hK hi
  simp (disch := first | assumption | exact ct_i | exact ct_r | exact ct_n | exact ct_h | omega | exact z_in (by omega) (by omega) | exact b01 | exact Or.inl rfl | exact Or.inr rfl) only [b23, e23_0, e23_1, e23_2, e23_5, e23_5n, e23_6, e23_6n, e23_7n, e23_7, e23_10, e23_11, e23_11n, e23_12, e23_13, e23_16, e23_17, e23_18, e23_21, ct_i, ct_r, ct_n, ct_h, opt_v, opt_s, ref_s, ref_n, eq_self_iff_true, true_or, or_true, zl0, zl1, zl2, zl3, zl4, zl5, zl6, zl7, zl8, zl9, zl10, zl16, zl32, zl40, zl100, zl160, zIc1, zI_lt, zI_le, nI_eq, nI_add, z_sub, nI_clamp, zI_of, uu_eq, uu_ne, Nat.reduceLT, Nat.reduceLeDiff, Nat.reduceEqDiff, Nat.reduceAdd, Nat.reduceSub, Nat.reduceMul, Nat.not_lt_zero, Nat.lt_irrefl, Nat.le_refl, Bool.false_eq_true, false_and, and_false, true_and, and_true, if_pos, if_neg, if_true, if_false, not_true_eq_false, not_false_eq_true, h1, g1, k11 (show 1 ≤ d by omega) hK hI hi]
  refine k10 (by omega) hK (D := u2 D i 4 kd) ⟨?_, fun j hj k hk => ?_⟩ (fun j hj => ?_) (r := r) (f := f) ⟨hR.1, hR.2.1, ⟨fun p hp => ?_, fun p hp j hj => ?_⟩, hR.2.2.2⟩ hi (fun I' L' hI' hL' hm' => ?_)
  · rw [uu_ne _ _ _ _ (by omega)]; exact hI.1
  · by_cases h : j = i ∧ k = 4
    · obtain ⟨rfl, rfl⟩ := h
      rw [uu_eq, uu_eq]
    · rw [uu_ne _ _ _ _ (by omega), uu_ne _ _ _ _ h]; exact hI.2 j hj k hk
  · have := hB j hj
    refine ⟨?_, ?_, ?_, ?_, ?_⟩
    · rw [uu_ne _ _ _ _ (by omega)]; exact this.1
    · rw [uu_ne _ _ _ _ (by omega)]; exact this.2.1
    · rw [uu_ne _ _ _ _ (by omega)]; exact this.2.2.1
    · rw [uu_ne _ _ _ _ (by omega)]; exact this.2.2.2.1
    · by_cases h : j = i
      · subst h; rw [uu_eq]; exact hkd
      · rw [uu_ne _ _ _ _ (by omega)]; exact this.2.2.2.2
  · have := hR.2.1
    rw [uu_ne _ _ _ _ (by omega)]; exact hR.2.2.1.1 p hp
  · have := hR.2.1
    rw [uu_ne _ _ _ _ (by omega)]; exact hR.2.2.1.2 p hp j hj
  · simp (disch := first | assumption | exact ct_i | exact ct_r | exact ct_n | exact ct_h | omega | exact z_in (by omega) (by omega) | exact b01 | exact Or.inl rfl | exact Or.inr rfl) only [e23_0, e23_1, e23_2, e23_5, e23_5n, e23_6, e23_6n, e23_7n, e23_7, e23_10, e23_11, e23_11n, e23_12, e23_13, e23_16, e23_17, e23_18, e23_21, ct_i, ct_r, ct_n, ct_h, opt_v, opt_s, ref_s, ref_n, eq_self_iff_true, true_or, or_true, zl0, zl1, zl2, zl3, zl4, zl5, zl6, zl7, zl8, zl9, zl10, zl16, zl32, zl40, zl100, zl160, zIc1, zI_lt, zI_le, nI_eq, nI_add, z_sub, nI_clamp, zI_of, uu_eq, uu_ne, Nat.reduceLT, Nat.reduceLeDiff, Nat.reduceEqDiff, Nat.reduceAdd, Nat.reduceSub, Nat.reduceMul, Nat.not_lt_zero, Nat.lt_irrefl, Nat.le_refl, Bool.false_eq_true, false_and, and_false, true_and, and_true, if_pos, if_neg, if_true, if_false, not_true_eq_false, not_false_eq_true]
    exact H I' L' hI' hL' hm'
theorem cK_add (hK : cK nd sh R) (hn : nd < 4) (hs : sh (47 + nd) = (0, 7)) : cK (nd + 1) sh (u2 R 2 nd (some (47 + nd))) := by
  refine ⟨hK.1, fun i hi => ?_, fun p hp => ?_, fun i hi => ?_, by omega⟩
  · by_cases h : i = nd
    · subst h; exact hs
    · exact hK.2.1 i (by omega)
  · rw [uu_ne _ _ _ _ ?_]
    · exact hK.2.2.1 p hp
    · revert p
      have : ∀ p ∈ cRRl, ¬ p.1 = 2 := by decide
      intro p hp h
      exact this p hp h.1
  · by_cases h : i = nd
    · subst h; rw [uu_eq]
    · rw [uu_ne _ _ _ _ (by omega)]; exact hK.2.2.2.1 i (by omega)
theorem k15 (hd : 6 ≤ d) (hK : cK nd sh R) (hn : nd < 4) (hs : sh (47 + nd) = (0, 7)) (hc : I 1 1 = nI nd) (hI : ∀ i, i < nd + 1 → ∀ k, k < 5 → I (47 + i) k = nI (D i k)) (hB : dB (nd + 1) D) {r : Nat} (hR : rT r f I R)
    (H : ∀ I' L', fr3 (u2 I 1 1 (nI (nd + 1))) I' → frL nd L L' → mOk D f L' nd → Q (some (.int (nI nd))) (n, t, sh, I', L', u2 R 2 nd (some (47 + nd)))) : aC d 15 [.ref 1, .ref (47 + nd)] (n, t, sh, I, L, R) Q := by
  obtain ⟨d, rfl⟩ : ∃ e, d = e + 1 := ⟨d - 1, by omega⟩
  obtain ⟨h1, h2, h2', h3, h3', h4, h5, h6⟩ := cPh hK
  have g1 : (sh (47 + nd)).1 = 0 := by rw [hs]
  simp (disch := first | assumption | exact ct_i | exact ct_r | exact ct_n | exact ct_h | omega | exact z_in (by omega) (by omega) | exact b01 | exact Or.inl rfl | exact Or.inr rfl) only [b15, e15_0, e15_1, e15_4, e15_5, e15_8, e15_10, e15_11, e15_12, e15_15, e15_16, e15_19, e15_19n, e15_20, e15_21, e15_22, e15_23, e15_26, e15_27, e15_28, e15_31, e15_32, e15_33, e15_36, e15_37, e15_38, e15_41, e15_42, e15_45, e15_46, e15_47, ct_i, ct_r, ct_n, ct_h, opt_v, opt_s, ref_s, ref_n, eq_self_iff_true, true_or, or_true, zl0, zl1, zl2, zl3, zl4, zl5, zl6, zl7, zl8, zl9, zl10, zl16, zl32, zl40, zl100, zl160, zIc1, zI_lt, zI_le, nI_eq, nI_add, z_sub, nI_clamp, zI_of, uu_eq, uu_ne, Nat.reduceLT, Nat.reduceLeDiff, Nat.reduceEqDiff, Nat.reduceAdd, Nat.reduceSub, Nat.reduceMul, Nat.not_lt_zero, Nat.lt_irrefl, Nat.le_refl, Bool.false_eq_true, false_and, and_false, true_and, and_true, if_pos, if_neg, if_true, if_false, not_true_eq_false, not_false_eq_true, h1, h2, h2', h4, hc, Nat.add_sub_cancel]
  refine k10 (by omega) (cK_add hK hn hs) (D := D) ⟨uu_eq _ _ _ _, fun j hj k hk => ?_⟩ hB (r := r) (f := f) ⟨?_, hR.2.1, ⟨fun p hp => ?_, fun p hp j hj => ?_⟩, hR.2.2.2⟩ (show nd < nd + 1 by omega) (fun I' L' hI' hL' hm' => ?_)
  · rw [uu_ne _ _ _ _ (by omega)]; exact hI j hj k hk
  · rw [uu_ne _ _ _ _ (by omega)]; exact hR.1
  · rw [uu_ne _ _ _ _ (by omega)]; exact hR.2.2.1.1 p hp
  · rw [uu_ne _ _ _ _ (by omega)]; exact hR.2.2.1.2 p hp j hj
  · have e : I' 1 1 = nI (nd + 1) := (hI' 1 1 (by unfold scr; omega)).trans (uu_eq _ _ _ _)
    simp (disch := first | assumption | exact ct_i | exact ct_r | exact ct_n | exact ct_h | omega | exact z_in (by omega) (by omega) | exact b01 | exact Or.inl rfl | exact Or.inr rfl) only [e15_0, e15_1, e15_4, e15_5, e15_8, e15_10, e15_11, e15_12, e15_15, e15_16, e15_19, e15_19n, e15_20, e15_21, e15_22, e15_23, e15_26, e15_27, e15_28, e15_31, e15_32, e15_33, e15_36, e15_37, e15_38, e15_41, e15_42, e15_45, e15_46, e15_47, ct_i, ct_r, ct_n, ct_h, opt_v, opt_s, ref_s, ref_n, eq_self_iff_true, true_or, or_true, zl0, zl1, zl2, zl3, zl4, zl5, zl6, zl7, zl8, zl9, zl10, zl16, zl32, zl40, zl100, zl160, zIc1, zI_lt, zI_le, nI_eq, nI_add, z_sub, nI_clamp, zI_of, uu_eq, uu_ne, Nat.reduceLT, Nat.reduceLeDiff, Nat.reduceEqDiff, Nat.reduceAdd, Nat.reduceSub, Nat.reduceMul, Nat.not_lt_zero, Nat.lt_irrefl, Nat.le_refl, Bool.false_eq_true, false_and, and_false, true_and, and_true, if_pos, if_neg, if_true, if_false, not_true_eq_false, not_false_eq_true, h1, e, Nat.add_sub_cancel]
    exact H I' L' hI' hL' hm'
def mxI (x y : Int32) : Int32 := if x < y then y else x
def hiF (D : Nat → Nat → Nat) : Nat → Int32
  | 0 => -nI 1
  | k + 1 => mxI (hiF D k) (mxI (nI (D k 0)) (nI (D k 1)))
theorem k16l (hd : 1 ≤ d) (hK : cK nd sh R) (hI : hD nd D I) : ∀ k i l3, i + k = nd →
    (aE (a_cl_ d) 16 (4, [.ref 1, .int (hiF D i), .int (nI i), l3], [], (n, t, sh, I, L, R)) Q ↔ Q (some (.int (hiF D nd))) (n, t, sh, I, L, R)) := by
  obtain ⟨h1, h2, h2', h3, h3', h4, h5, h6⟩ := cPh hK
  intro k
  induction k with
  | zero =>
    intro i l3 hi
    obtain rfl : i = nd := by omega
    simp (disch := first | assumption | exact ct_i | exact ct_r | exact ct_n | exact ct_h | omega | exact z_in (by omega) (by omega) | exact b01 | exact Or.inl rfl | exact Or.inr rfl) only [e16_0, e16_1, e16_2, e16_3, e16_4, e16_5, e16_6, e16_9, e16_12, e16_13, e16_14, e16_17, e16_17n, e16_18, e16_18n, e16_19n, e16_19, e16_22, e16_23, e16_23n, e16_24, e16_27, e16_27n, e16_28, e16_31, e16_34, e16_37, e16_38, e16_41, e16_44, e16_45, ct_i, ct_r, ct_n, ct_h, opt_v, opt_s, ref_s, ref_n, eq_self_iff_true, true_or, or_true, zl0, zl1, zl2, zl3, zl4, zl5, zl6, zl7, zl8, zl9, zl10, zl16, zl32, zl40, zl100, zl160, zIc1, zI_lt, zI_le, nI_eq, nI_add, z_sub, nI_clamp, zI_of, uu_eq, uu_ne, Nat.reduceLT, Nat.reduceLeDiff, Nat.reduceEqDiff, Nat.reduceAdd, Nat.reduceSub, Nat.reduceMul, Nat.not_lt_zero, Nat.lt_irrefl, Nat.le_refl, Bool.false_eq_true, false_and, and_false, true_and, and_true, if_pos, if_neg, if_true, if_false, not_true_eq_false, not_false_eq_true, h1, hI.1]
  | succ k ih =>
    intro i l3 hi
    have hi' : i < nd := by omega
    obtain ⟨g1, g2⟩ := cPd hK hi'
    have e0 := hI.2 i hi' 0 (by decide)
    have e1 := hI.2 i hi' 1 (by decide)
    rw [e16_4, ← ih (i + 1) (.ref (47 + i)) (by omega)]
    simp (disch := first | assumption | exact ct_i | exact ct_r | exact ct_n | exact ct_h | omega | exact z_in (by omega) (by omega) | exact b01 | exact Or.inl rfl | exact Or.inr rfl) only [e16_0, e16_1, e16_2, e16_3, e16_5, e16_6, e16_9, e16_12, e16_13, e16_14, e16_17, e16_17n, e16_18, e16_18n, e16_19n, e16_19, e16_22, e16_23, e16_23n, e16_24, e16_27, e16_27n, e16_28, e16_31, e16_34, e16_37, e16_38, e16_41, e16_44, e16_45, ct_i, ct_r, ct_n, ct_h, opt_v, opt_s, ref_s, ref_n, eq_self_iff_true, true_or, or_true, zl0, zl1, zl2, zl3, zl4, zl5, zl6, zl7, zl8, zl9, zl10, zl16, zl32, zl40, zl100, zl160, zIc1, zI_lt, zI_le, nI_eq, nI_add, z_sub, nI_clamp, zI_of, uu_eq, uu_ne, Nat.reduceLT, Nat.reduceLeDiff, Nat.reduceEqDiff, Nat.reduceAdd, Nat.reduceSub, Nat.reduceMul, Nat.not_lt_zero, Nat.lt_irrefl, Nat.le_refl, Bool.false_eq_true, false_and, and_false, true_and, and_true, if_pos, if_neg, if_true, if_false, not_true_eq_false, not_false_eq_true, h1, g1, hI.1, k11 hd hK hI hi', e0, e1, hiF, mxI]
    exact Iff.rfl
theorem k16 (hd : 2 ≤ d) (hK : cK nd sh R) (hI : hD nd D I) : aC d 16 [.ref 1] (n, t, sh, I, L, R) Q ↔ Q (some (.int (hiF D nd))) (n, t, sh, I, L, R) := by
  obtain ⟨d, rfl⟩ : ∃ e, d = e + 1 := ⟨d - 1, by omega⟩
  rw [← k16l (Q := Q) (t := t) (n := n) (L := L) (show 1 ≤ d by omega) hK hI nd 0 a_hole (by omega)]
  simp (disch := first | assumption | exact ct_i | exact ct_r | exact ct_n | exact ct_h | omega | exact z_in (by omega) (by omega) | exact b01 | exact Or.inl rfl | exact Or.inr rfl) only [b16, e16_0, e16_1, e16_2, e16_3, e16_5, e16_6, e16_9, e16_12, e16_13, e16_14, e16_17, e16_17n, e16_18, e16_18n, e16_19n, e16_19, e16_22, e16_23, e16_23n, e16_24, e16_27, e16_27n, e16_28, e16_31, e16_34, e16_37, e16_38, e16_41, e16_44, e16_45, ct_i, ct_r, ct_n, ct_h, opt_v, opt_s, ref_s, ref_n, eq_self_iff_true, true_or, or_true, zl0, zl1, zl2, zl3, zl4, zl5, zl6, zl7, zl8, zl9, zl10, zl16, zl32, zl40, zl100, zl160, zIc1, zI_lt, zI_le, nI_eq, nI_add, z_sub, nI_clamp, zI_of, uu_eq, uu_ne, Nat.reduceLT, Nat.reduceLeDiff, Nat.reduceEqDiff, Nat.reduceAdd, Nat.reduceSub, Nat.reduceMul, Nat.not_lt_zero, Nat.lt_irrefl, Nat.le_refl, Bool.false_eq_true, false_and, and_false, true_and, and_true, if_pos, if_neg, if_true, if_false, not_true_eq_false, not_false_eq_true, hiF]
end
