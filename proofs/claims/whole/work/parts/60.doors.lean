/-! the class's call: doors of a row -/
def drF (z : Nat) (a : Nat → Int32) : Nat → Int32 → Nat → (Nat → Nat) → (Nat → Nat → Nat) → Int32 × (Nat → Nat) × (Nat → Nat → Nat)
  | 0, _, c, Z, D => (nI c, Z, D)
  | m + 1, p, c, Z, D => match hsB z p (nI 3) with
    | none => (-12, Z, D)
    | some q => drF z a m (p + nI 3) (if (dooS Z D (a q.1) (a (q.1 + 1)) (a (q.1 + 2))).1 < nI 0 then c else c + 1) (dooS Z D (a q.1) (a (q.1 + 1)) (a (q.1 + 2))).2.1 (dooS Z D (a q.1) (a (q.1 + 1)) (a (q.1 + 2))).2.2
def drsS (Z : Nat → Nat) (D : Nat → Nat → Nat) (so sz : Nat → Nat) (it : Nat → Nat → Int32) (x y p w : Int32) : Int32 × (Nat → Nat) × (Nat → Nat → Nat) := match dec x 4, dec y 3, dec w 5 with
  | some j, some s, some m => if so j = 0 then (-11, Z, D) else if so j = s + 1 then drF (sz j) (it j) m p 0 Z D else (-13, Z, D)
  | _, _, _ => (-nI 2, Z, D)
section
variable {T0 : Nat} {tx : Nat → Nat → List Nat} {tp so sz : Nat → Nat} {it : Nat → Nat → Int32} {d : Nat} {Q : Option Value → aH → Prop}
theorem k114l (hd : 10 ≤ d) {j s m0 : Nat} (hj : j < 4) (hm0 : m0 ≤ 4) {l1 l3 : Int32} {v : Int32 × (Nat → Nat) × (Nat → Nat → Nat)} (H : ∀ h', RK T0 v.2.1 v.2.2 tx tp so sz it h' → Q (some (.int v.1)) h') : ∀ m i p c Z D h, i + m = m0 → c ≤ i → RK T0 Z D tx tp so sz it h → drF (sz j) (it j) m p c Z D = v →
    aE (a_cl_ d) 114 (67, [.ref 0, .int l1, .int (nI s), .int l3, .int (nI m0), .ref (15 + 2 * j), .int (nI c), .int p, .int (nI i)], [], h) Q := by
  intro m
  induction m with
  | zero =>
    rintro i p c Z D ⟨n, t, sh, I, L, R⟩ hi hc hk hv
    obtain rfl : i = m0 := by omega
    simp only [drF] at hv
    subst hv
    have := H _ hk
    rw [e114_67]
    simp (disch := first | assumption | exact ct_i | exact ct_r | exact ct_n | exact ct_h | omega | exact z_in (by omega) (by omega) | exact b01 | exact Or.inl rfl | exact Or.inr rfl) only [e114_0, e114_1, e114_2, e114_5, e114_5n, e114_7, e114_7n, e114_9n, e114_9, e114_12, e114_13, e114_16, e114_17, e114_18, e114_21, e114_23, e114_26, e114_28, e114_29, e114_32, e114_34, e114_35, e114_35n, e114_37, e114_40, e114_43, e114_45, e114_46, e114_46n, e114_48, e114_51, e114_52, e114_55, e114_57, e114_58, e114_59, e114_61, e114_62, e114_64, e114_65, e114_69, e114_71, e114_74, e114_74n, e114_76, e114_78, e114_79, e114_82, e114_85, e114_87, e114_88, e114_89, e114_89n, e114_91, e114_93, e114_96, e114_96n, e114_98, e114_100, e114_101, e114_102, e114_105, e114_105n, e114_107, e114_109, e114_110, e114_111, e114_114, e114_117, e114_120, e114_123, e114_126, e114_129, e114_132, e114_134, ct_i, ct_r, ct_n, ct_h, opt_v, opt_s, ref_s, ref_n, eq_self_iff_true, true_or, or_true, zl0, zl1, zl2, zl3, zl4, zl5, zl6, zl7, zl8, zl9, zl10, zl16, zl32, zl40, zl100, zl160, zIc1, zI_lt, zI_le, nI_eq, nI_add, z_sub, nI_clamp, zI_of, uu_eq, uu_ne, Nat.reduceLT, Nat.reduceLeDiff, Nat.reduceEqDiff, Nat.reduceAdd, Nat.reduceSub, Nat.reduceMul, Nat.not_lt_zero, Nat.lt_irrefl, Nat.le_refl, Bool.false_eq_true, false_and, and_false, true_and, and_true, if_pos, if_neg, if_true, if_false, not_true_eq_false, not_false_eq_true]
    exact this
  | succ m ih =>
    rintro i p c Z D ⟨n, t, sh, I, L, R⟩ hi hc hk hv
    obtain ⟨⟨o1, ⟨o2, hB⟩, o3, o4, o5, o6, o7⟩, hn, hK, hcl, hD', hM, h4, h5, h6, h7, h8, h9⟩ := id hk
    simp only [] at hn hK hcl hD' hM h4 h5 h6 h7 h8 h9
    have c1 := (cP0 hK).1
    have hS := cPr hK hj
    have s4 := hS.1
    obtain ⟨p1, p2, p3⟩ := h9 j hj
    obtain ⟨q1, q2, q3⟩ := o7 j hj
    simp only [drF] at hv
    rw [e114_67]
    cases hq : hsB (sz j) p (nI 3) with
    | none =>
      rw [hq] at hv
      subst hv
      have := H _ hk
      simp (disch := first | assumption | exact ct_i | exact ct_r | exact ct_n | exact ct_h | omega | exact z_in (by omega) (by omega) | exact b01 | exact Or.inl rfl | exact Or.inr rfl) only [e114_0, e114_1, e114_2, e114_5, e114_5n, e114_7, e114_7n, e114_9n, e114_9, e114_12, e114_13, e114_16, e114_17, e114_18, e114_21, e114_23, e114_26, e114_28, e114_29, e114_32, e114_34, e114_35, e114_35n, e114_37, e114_40, e114_43, e114_45, e114_46, e114_46n, e114_48, e114_51, e114_52, e114_55, e114_57, e114_58, e114_59, e114_61, e114_62, e114_64, e114_65, e114_69, e114_71, e114_74, e114_74n, e114_76, e114_78, e114_79, e114_82, e114_85, e114_87, e114_88, e114_89, e114_89n, e114_91, e114_93, e114_96, e114_96n, e114_98, e114_100, e114_101, e114_102, e114_105, e114_105n, e114_107, e114_109, e114_110, e114_111, e114_114, e114_117, e114_120, e114_123, e114_126, e114_129, e114_132, e114_134, ct_i, ct_r, ct_n, ct_h, opt_v, opt_s, ref_s, ref_n, eq_self_iff_true, true_or, or_true, zl0, zl1, zl2, zl3, zl4, zl5, zl6, zl7, zl8, zl9, zl10, zl16, zl32, zl40, zl100, zl160, zIc1, zI_lt, zI_le, nI_eq, nI_add, z_sub, nI_clamp, zI_of, uu_eq, uu_ne, Nat.reduceLT, Nat.reduceLeDiff, Nat.reduceEqDiff, Nat.reduceAdd, Nat.reduceSub, Nat.reduceMul, Nat.not_lt_zero, Nat.lt_irrefl, Nat.le_refl, Bool.false_eq_true, false_and, and_false, true_and, and_true, if_pos, if_neg, if_true, if_false, not_true_eq_false, not_false_eq_true, c1, s4, k67n (show 1 ≤ d by omega) hS p2 q2 (hsB_none q2 hq)]
      exact this
    | some q =>
      rw [hq] at hv
      simp only [] at hv
      obtain ⟨e1, e2, e3⟩ := hsB_some hq
      have e2' : q.2 = 3 := by
        unfold hsB at hq
        split at hq
        · cases hq
        · injection hq with hq
          rw [← hq, nI_clamp (by omega)]
      subst e1
      have f0 := p3 q.1 (by omega)
      have f1 := p3 (q.1 + 1) (by omega)
      have f2 := p3 (q.1 + 2) (by omega)
      have hle : q.1 + 3 ≤ sz j := by omega
      simp (disch := first | assumption | exact ct_i | exact ct_r | exact ct_n | exact ct_h | omega | exact z_in (by omega) (by omega) | exact b01 | exact Or.inl rfl | exact Or.inr rfl) only [e114_0, e114_1, e114_2, e114_5, e114_5n, e114_7, e114_7n, e114_9n, e114_9, e114_12, e114_13, e114_16, e114_17, e114_18, e114_21, e114_23, e114_26, e114_28, e114_29, e114_32, e114_34, e114_35, e114_35n, e114_37, e114_40, e114_43, e114_45, e114_46, e114_46n, e114_48, e114_51, e114_52, e114_55, e114_57, e114_58, e114_59, e114_61, e114_62, e114_64, e114_65, e114_69, e114_71, e114_74, e114_74n, e114_76, e114_78, e114_79, e114_82, e114_85, e114_87, e114_88, e114_89, e114_89n, e114_91, e114_93, e114_96, e114_96n, e114_98, e114_100, e114_101, e114_102, e114_105, e114_105n, e114_107, e114_109, e114_110, e114_111, e114_114, e114_117, e114_120, e114_123, e114_126, e114_129, e114_132, e114_134, ct_i, ct_r, ct_n, ct_h, opt_v, opt_s, ref_s, ref_n, eq_self_iff_true, true_or, or_true, zl0, zl1, zl2, zl3, zl4, zl5, zl6, zl7, zl8, zl9, zl10, zl16, zl32, zl40, zl100, zl160, zIc1, zI_lt, zI_le, nI_eq, nI_add, z_sub, nI_clamp, zI_of, uu_eq, uu_ne, Nat.reduceLT, Nat.reduceLeDiff, Nat.reduceEqDiff, Nat.reduceAdd, Nat.reduceSub, Nat.reduceMul, Nat.not_lt_zero, Nat.lt_irrefl, Nat.le_refl, Bool.false_eq_true, false_and, and_false, true_and, and_true, if_pos, if_neg, if_true, if_false, not_true_eq_false, not_false_eq_true, c1, s4, k67 (show 1 ≤ d by omega) hS p2 q2 hle, k63 (show 2 ≤ d by omega) hS p2 q2 (show q.1 < sz j by omega), k63 (show 2 ≤ d by omega) hS p2 q2 (show q.1 + 1 < sz j by omega), k63 (show 2 ≤ d by omega) hS p2 q2 (show q.1 + 2 < sz j by omega), f0, f1, f2]
      refine k79 hd hk (fun h' hR => ?_)
      have e5 : Int32.ofInt 3 = nI 3 := rfl
      have e6 : nI q.1 + nI 3 = nI (q.1 + 3) := nI_add _ _
      by_cases hr : (dooS Z D (it j q.1) (it j (q.1 + 1)) (it j (q.1 + 2))).1 < nI 0
      · rw [if_pos hr, e6] at hv
        simp (disch := first | assumption | exact ct_i | exact ct_r | exact ct_n | exact ct_h | omega | exact z_in (by omega) (by omega) | exact b01 | exact Or.inl rfl | exact Or.inr rfl) only [e114_0, e114_1, e114_2, e114_5, e114_5n, e114_7, e114_7n, e114_9n, e114_9, e114_12, e114_13, e114_16, e114_17, e114_18, e114_21, e114_23, e114_26, e114_28, e114_29, e114_32, e114_34, e114_35, e114_35n, e114_37, e114_40, e114_43, e114_45, e114_46, e114_46n, e114_48, e114_51, e114_52, e114_55, e114_57, e114_58, e114_59, e114_61, e114_62, e114_64, e114_65, e114_69, e114_71, e114_74, e114_74n, e114_76, e114_78, e114_79, e114_82, e114_85, e114_87, e114_88, e114_89, e114_89n, e114_91, e114_93, e114_96, e114_96n, e114_98, e114_100, e114_101, e114_102, e114_105, e114_105n, e114_107, e114_109, e114_110, e114_111, e114_114, e114_117, e114_120, e114_123, e114_126, e114_129, e114_132, e114_134, ct_i, ct_r, ct_n, ct_h, opt_v, opt_s, ref_s, ref_n, eq_self_iff_true, true_or, or_true, zl0, zl1, zl2, zl3, zl4, zl5, zl6, zl7, zl8, zl9, zl10, zl16, zl32, zl40, zl100, zl160, zIc1, zI_lt, zI_le, nI_eq, nI_add, z_sub, nI_clamp, zI_of, uu_eq, uu_ne, Nat.reduceLT, Nat.reduceLeDiff, Nat.reduceEqDiff, Nat.reduceAdd, Nat.reduceSub, Nat.reduceMul, Nat.not_lt_zero, Nat.lt_irrefl, Nat.le_refl, Bool.false_eq_true, false_and, and_false, true_and, and_true, if_pos, if_neg, if_true, if_false, not_true_eq_false, not_false_eq_true, hr, e5]
        exact ih (i + 1) _ c _ _ h' (by omega) (by omega) hR hv
      · rw [if_neg hr, e6] at hv
        simp (disch := first | assumption | exact ct_i | exact ct_r | exact ct_n | exact ct_h | omega | exact z_in (by omega) (by omega) | exact b01 | exact Or.inl rfl | exact Or.inr rfl) only [e114_0, e114_1, e114_2, e114_5, e114_5n, e114_7, e114_7n, e114_9n, e114_9, e114_12, e114_13, e114_16, e114_17, e114_18, e114_21, e114_23, e114_26, e114_28, e114_29, e114_32, e114_34, e114_35, e114_35n, e114_37, e114_40, e114_43, e114_45, e114_46, e114_46n, e114_48, e114_51, e114_52, e114_55, e114_57, e114_58, e114_59, e114_61, e114_62, e114_64, e114_65, e114_69, e114_71, e114_74, e114_74n, e114_76, e114_78, e114_79, e114_82, e114_85, e114_87, e114_88, e114_89, e114_89n, e114_91, e114_93, e114_96, e114_96n, e114_98, e114_100, e114_101, e114_102, e114_105, e114_105n, e114_107, e114_109, e114_110, e114_111, e114_114, e114_117, e114_120, e114_123, e114_126, e114_129, e114_132, e114_134, ct_i, ct_r, ct_n, ct_h, opt_v, opt_s, ref_s, ref_n, eq_self_iff_true, true_or, or_true, zl0, zl1, zl2, zl3, zl4, zl5, zl6, zl7, zl8, zl9, zl10, zl16, zl32, zl40, zl100, zl160, zIc1, zI_lt, zI_le, nI_eq, nI_add, z_sub, nI_clamp, zI_of, uu_eq, uu_ne, Nat.reduceLT, Nat.reduceLeDiff, Nat.reduceEqDiff, Nat.reduceAdd, Nat.reduceSub, Nat.reduceMul, Nat.not_lt_zero, Nat.lt_irrefl, Nat.le_refl, Bool.false_eq_true, false_and, and_false, true_and, and_true, if_pos, if_neg, if_true, if_false, not_true_eq_false, not_false_eq_true, hr, e5]
        exact ih (i + 1) _ (c + 1) _ _ h' (by omega) (by omega) hR hv
variable {Z : Nat → Nat} {D : Nat → Nat → Nat} {n t : Nat} {sh : Nat → Nat × Nat} {I : Nat → Nat → Int32} {L : Nat → Nat → Int64} {R : Nat → Nat → Option Nat}
theorem k114 (hd : 12 ≤ d) (hk : RK T0 Z D tx tp so sz it (n, t, sh, I, L, R)) {x y p w : Int32} (H : ∀ h', RK T0 (drsS Z D so sz it x y p w).2.1 (drsS Z D so sz it x y p w).2.2 tx tp so sz it h' → Q (some (.int (drsS Z D so sz it x y p w).1)) h') : aC d 114 [.ref 0, .int x, .int y, .int p, .int w] (n, t, sh, I, L, R) Q := by
  obtain ⟨d, rfl⟩ : ∃ e, d = e + 1 := ⟨d - 1, by omega⟩
  obtain ⟨⟨o1, ⟨o2, hB⟩, o3, o4, o5, o6, o7⟩, hn, hK, hcl, hD', hM, h4, h5, h6, h7, h8, h9⟩ := id hk
  simp only [] at hn hK hcl hD' hM h4 h5 h6 h7 h8 h9
  have c1 := (cP0 hK).1
  have H0 : ∀ v, (drsS Z D so sz it x y p w) = (v, Z, D) → Q (some (.int v)) (n, t, sh, I, L, R) := by
    intro v hv
    rw [hv] at H
    exact H _ hk
  unfold drsS at H0
  cases hx : dec x 4 with
  | none =>
    have := H0 (-nI 2) (by simp only [hx])
    simp (disch := first | assumption | exact ct_i | exact ct_r | exact ct_n | exact ct_h | omega | exact z_in (by omega) (by omega) | exact b01 | exact Or.inl rfl | exact Or.inr rfl) only [b114, e114_0, e114_1, e114_2, e114_5, e114_5n, e114_7, e114_7n, e114_9n, e114_9, e114_12, e114_13, e114_16, e114_17, e114_18, e114_21, e114_23, e114_26, e114_28, e114_29, e114_32, e114_34, e114_35, e114_35n, e114_37, e114_40, e114_43, e114_45, e114_46, e114_46n, e114_48, e114_51, e114_52, e114_55, e114_57, e114_58, e114_59, e114_61, e114_62, e114_64, e114_65, e114_69, e114_71, e114_74, e114_74n, e114_76, e114_78, e114_79, e114_82, e114_85, e114_87, e114_88, e114_89, e114_89n, e114_91, e114_93, e114_96, e114_96n, e114_98, e114_100, e114_101, e114_102, e114_105, e114_105n, e114_107, e114_109, e114_110, e114_111, e114_114, e114_117, e114_120, e114_123, e114_126, e114_129, e114_132, e114_134, ct_i, ct_r, ct_n, ct_h, opt_v, opt_s, ref_s, ref_n, eq_self_iff_true, true_or, or_true, zl0, zl1, zl2, zl3, zl4, zl5, zl6, zl7, zl8, zl9, zl10, zl16, zl32, zl40, zl100, zl160, zIc1, zI_lt, zI_le, nI_eq, nI_add, z_sub, nI_clamp, zI_of, uu_eq, uu_ne, Nat.reduceLT, Nat.reduceLeDiff, Nat.reduceEqDiff, Nat.reduceAdd, Nat.reduceSub, Nat.reduceMul, Nat.not_lt_zero, Nat.lt_irrefl, Nat.le_refl, Bool.false_eq_true, false_and, and_false, true_and, and_true, if_pos, if_neg, if_true, if_false, not_true_eq_false, not_false_eq_true, c1, k99n (show 1 ≤ d by omega) (dec_none hx)]
    exact this
  | some j =>
    obtain ⟨rfl, hj⟩ := dec_some (by decide) hx
    have hS := cPr hK hj
    have s4 := hS.1
    obtain ⟨p1, p2, p3⟩ := h9 j hj
    obtain ⟨q1, q2, q3⟩ := o7 j hj
    cases hy : dec y 3 with
    | none =>
      have := H0 (-nI 2) (by simp only [hx, hy])
      have hv : y < nI 0 ∨ nI 2 < y := by
        rcases dec_none hy with h | h
        · exact Or.inl h
        · right
          rw [Int32.le_iff_toInt_le] at h
          rw [Int32.lt_iff_toInt_lt]
          have e1 : (nI 3).toInt = 3 := by decide
          have e2 : (nI 2).toInt = 2 := by decide
          omega
      rcases hv with hv | hv
      · simp (disch := first | assumption | exact ct_i | exact ct_r | exact ct_n | exact ct_h | omega | exact z_in (by omega) (by omega) | exact b01 | exact Or.inl rfl | exact Or.inr rfl) only [b114, e114_0, e114_1, e114_2, e114_5, e114_5n, e114_7, e114_7n, e114_9n, e114_9, e114_12, e114_13, e114_16, e114_17, e114_18, e114_21, e114_23, e114_26, e114_28, e114_29, e114_32, e114_34, e114_35, e114_35n, e114_37, e114_40, e114_43, e114_45, e114_46, e114_46n, e114_48, e114_51, e114_52, e114_55, e114_57, e114_58, e114_59, e114_61, e114_62, e114_64, e114_65, e114_69, e114_71, e114_74, e114_74n, e114_76, e114_78, e114_79, e114_82, e114_85, e114_87, e114_88, e114_89, e114_89n, e114_91, e114_93, e114_96, e114_96n, e114_98, e114_100, e114_101, e114_102, e114_105, e114_105n, e114_107, e114_109, e114_110, e114_111, e114_114, e114_117, e114_120, e114_123, e114_126, e114_129, e114_132, e114_134, ct_i, ct_r, ct_n, ct_h, opt_v, opt_s, ref_s, ref_n, eq_self_iff_true, true_or, or_true, zl0, zl1, zl2, zl3, zl4, zl5, zl6, zl7, zl8, zl9, zl10, zl16, zl32, zl40, zl100, zl160, zIc1, zI_lt, zI_le, nI_eq, nI_add, z_sub, nI_clamp, zI_of, uu_eq, uu_ne, Nat.reduceLT, Nat.reduceLeDiff, Nat.reduceEqDiff, Nat.reduceAdd, Nat.reduceSub, Nat.reduceMul, Nat.not_lt_zero, Nat.lt_irrefl, Nat.le_refl, Bool.false_eq_true, false_and, and_false, true_and, and_true, if_pos, if_neg, if_true, if_false, not_true_eq_false, not_false_eq_true, c1, k99 (show 1 ≤ d by omega) hK hj, hv]
        exact this
      · simp (disch := first | assumption | exact ct_i | exact ct_r | exact ct_n | exact ct_h | omega | exact z_in (by omega) (by omega) | exact b01 | exact Or.inl rfl | exact Or.inr rfl) only [b114, e114_0, e114_1, e114_2, e114_5, e114_5n, e114_7, e114_7n, e114_9n, e114_9, e114_12, e114_13, e114_16, e114_17, e114_18, e114_21, e114_23, e114_26, e114_28, e114_29, e114_32, e114_34, e114_35, e114_35n, e114_37, e114_40, e114_43, e114_45, e114_46, e114_46n, e114_48, e114_51, e114_52, e114_55, e114_57, e114_58, e114_59, e114_61, e114_62, e114_64, e114_65, e114_69, e114_71, e114_74, e114_74n, e114_76, e114_78, e114_79, e114_82, e114_85, e114_87, e114_88, e114_89, e114_89n, e114_91, e114_93, e114_96, e114_96n, e114_98, e114_100, e114_101, e114_102, e114_105, e114_105n, e114_107, e114_109, e114_110, e114_111, e114_114, e114_117, e114_120, e114_123, e114_126, e114_129, e114_132, e114_134, ct_i, ct_r, ct_n, ct_h, opt_v, opt_s, ref_s, ref_n, eq_self_iff_true, true_or, or_true, zl0, zl1, zl2, zl3, zl4, zl5, zl6, zl7, zl8, zl9, zl10, zl16, zl32, zl40, zl100, zl160, zIc1, zI_lt, zI_le, nI_eq, nI_add, z_sub, nI_clamp, zI_of, uu_eq, uu_ne, Nat.reduceLT, Nat.reduceLeDiff, Nat.reduceEqDiff, Nat.reduceAdd, Nat.reduceSub, Nat.reduceMul, Nat.not_lt_zero, Nat.lt_irrefl, Nat.le_refl, Bool.false_eq_true, false_and, and_false, true_and, and_true, if_true, if_false, not_true_eq_false, not_false_eq_true, c1, k99 (show 1 ≤ d by omega) hK hj, hv, ite_self]
        exact this
    | some s =>
      obtain ⟨rfl, hs⟩ := dec_some (by decide) hy
      cases hw : dec w 5 with
      | none =>
        have := H0 (-nI 2) (by simp only [hx, hy, hw])
        have hv : w < nI 0 ∨ ¬ w ≤ nI 4 := by
          rcases dec_none hw with h | h
          · exact Or.inl h
          · right
            rw [Int32.le_iff_toInt_le] at h ⊢
            have e1 : (nI 5).toInt = 5 := by decide
            have e2 : (nI 4).toInt = 4 := by decide
            omega
        by_cases hw0 : w < nI 0
        · simp (disch := first | assumption | exact ct_i | exact ct_r | exact ct_n | exact ct_h | omega | exact z_in (by omega) (by omega) | exact b01 | exact Or.inl rfl | exact Or.inr rfl) only [b114, e114_0, e114_1, e114_2, e114_5, e114_5n, e114_7, e114_7n, e114_9n, e114_9, e114_12, e114_13, e114_16, e114_17, e114_18, e114_21, e114_23, e114_26, e114_28, e114_29, e114_32, e114_34, e114_35, e114_35n, e114_37, e114_40, e114_43, e114_45, e114_46, e114_46n, e114_48, e114_51, e114_52, e114_55, e114_57, e114_58, e114_59, e114_61, e114_62, e114_64, e114_65, e114_69, e114_71, e114_74, e114_74n, e114_76, e114_78, e114_79, e114_82, e114_85, e114_87, e114_88, e114_89, e114_89n, e114_91, e114_93, e114_96, e114_96n, e114_98, e114_100, e114_101, e114_102, e114_105, e114_105n, e114_107, e114_109, e114_110, e114_111, e114_114, e114_117, e114_120, e114_123, e114_126, e114_129, e114_132, e114_134, ct_i, ct_r, ct_n, ct_h, opt_v, opt_s, ref_s, ref_n, eq_self_iff_true, true_or, or_true, zl0, zl1, zl2, zl3, zl4, zl5, zl6, zl7, zl8, zl9, zl10, zl16, zl32, zl40, zl100, zl160, zIc1, zI_lt, zI_le, nI_eq, nI_add, z_sub, nI_clamp, zI_of, uu_eq, uu_ne, Nat.reduceLT, Nat.reduceLeDiff, Nat.reduceEqDiff, Nat.reduceAdd, Nat.reduceSub, Nat.reduceMul, Nat.not_lt_zero, Nat.lt_irrefl, Nat.le_refl, Bool.false_eq_true, false_and, and_false, true_and, and_true, if_pos, if_neg, if_true, if_false, not_true_eq_false, not_false_eq_true, c1, k99 (show 1 ≤ d by omega) hK hj, hw0]
          exact this
        · have hv' : ¬ w ≤ nI 4 := hv.resolve_left hw0
          simp (disch := first | assumption | exact ct_i | exact ct_r | exact ct_n | exact ct_h | omega | exact z_in (by omega) (by omega) | exact b01 | exact Or.inl rfl | exact Or.inr rfl) only [b114, e114_0, e114_1, e114_2, e114_5, e114_5n, e114_7, e114_7n, e114_9n, e114_9, e114_12, e114_13, e114_16, e114_17, e114_18, e114_21, e114_23, e114_26, e114_28, e114_29, e114_32, e114_34, e114_35, e114_35n, e114_37, e114_40, e114_43, e114_45, e114_46, e114_46n, e114_48, e114_51, e114_52, e114_55, e114_57, e114_58, e114_59, e114_61, e114_62, e114_64, e114_65, e114_69, e114_71, e114_74, e114_74n, e114_76, e114_78, e114_79, e114_82, e114_85, e114_87, e114_88, e114_89, e114_89n, e114_91, e114_93, e114_96, e114_96n, e114_98, e114_100, e114_101, e114_102, e114_105, e114_105n, e114_107, e114_109, e114_110, e114_111, e114_114, e114_117, e114_120, e114_123, e114_126, e114_129, e114_132, e114_134, ct_i, ct_r, ct_n, ct_h, opt_v, opt_s, ref_s, ref_n, eq_self_iff_true, true_or, or_true, zl0, zl1, zl2, zl3, zl4, zl5, zl6, zl7, zl8, zl9, zl10, zl16, zl32, zl40, zl100, zl160, zIc1, zI_lt, zI_le, nI_eq, nI_add, z_sub, nI_clamp, zI_of, uu_eq, uu_ne, Nat.reduceLT, Nat.reduceLeDiff, Nat.reduceEqDiff, Nat.reduceAdd, Nat.reduceSub, Nat.reduceMul, Nat.not_lt_zero, Nat.lt_irrefl, Nat.le_refl, Bool.false_eq_true, false_and, and_false, true_and, and_true, if_pos, if_neg, if_true, if_false, not_true_eq_false, not_false_eq_true, c1, k99 (show 1 ≤ d by omega) hK hj, hw0, hv']
          exact this
      | some m =>
        obtain ⟨rfl, hm⟩ := dec_some (by decide) hw
        by_cases hs0 : so j = 0
        · have := H0 (-11) (by simp only [hx, hy, hw, if_pos hs0])
          simp (disch := first | assumption | exact ct_i | exact ct_r | exact ct_n | exact ct_h | omega | exact z_in (by omega) (by omega) | exact b01 | exact Or.inl rfl | exact Or.inr rfl) only [b114, e114_0, e114_1, e114_2, e114_5, e114_5n, e114_7, e114_7n, e114_9n, e114_9, e114_12, e114_13, e114_16, e114_17, e114_18, e114_21, e114_23, e114_26, e114_28, e114_29, e114_32, e114_34, e114_35, e114_35n, e114_37, e114_40, e114_43, e114_45, e114_46, e114_46n, e114_48, e114_51, e114_52, e114_55, e114_57, e114_58, e114_59, e114_61, e114_62, e114_64, e114_65, e114_69, e114_71, e114_74, e114_74n, e114_76, e114_78, e114_79, e114_82, e114_85, e114_87, e114_88, e114_89, e114_89n, e114_91, e114_93, e114_96, e114_96n, e114_98, e114_100, e114_101, e114_102, e114_105, e114_105n, e114_107, e114_109, e114_110, e114_111, e114_114, e114_117, e114_120, e114_123, e114_126, e114_129, e114_132, e114_134, ct_i, ct_r, ct_n, ct_h, opt_v, opt_s, ref_s, ref_n, eq_self_iff_true, true_or, or_true, zl0, zl1, zl2, zl3, zl4, zl5, zl6, zl7, zl8, zl9, zl10, zl16, zl32, zl40, zl100, zl160, zIc1, zI_lt, zI_le, nI_eq, nI_add, z_sub, nI_clamp, zI_of, uu_eq, uu_ne, Nat.reduceLT, Nat.reduceLeDiff, Nat.reduceEqDiff, Nat.reduceAdd, Nat.reduceSub, Nat.reduceMul, Nat.not_lt_zero, Nat.lt_irrefl, Nat.le_refl, Bool.false_eq_true, false_and, and_false, true_and, and_true, if_pos, if_neg, if_true, if_false, not_true_eq_false, not_false_eq_true, c1, s4, k99 (show 1 ≤ d by omega) hK hj, k62 (show 1 ≤ d by omega) hS p1 q1, hs0]
          exact this
        · by_cases hs1 : so j = s + 1
          · have hde : dI (so j) = nI s := by rw [hs1]; rfl
            have hv : drsS Z D so sz it (nI j) (nI s) p (nI m) = drF (sz j) (it j) m p 0 Z D := by
              unfold drsS
              simp only [hx, hy, hw, if_neg hs0, if_pos hs1]
            rw [hv] at H
            simp (disch := first | assumption | exact ct_i | exact ct_r | exact ct_n | exact ct_h | omega | exact z_in (by omega) (by omega) | exact b01 | exact Or.inl rfl | exact Or.inr rfl) only [b114, e114_0, e114_1, e114_2, e114_5, e114_5n, e114_7, e114_7n, e114_9n, e114_9, e114_12, e114_13, e114_16, e114_17, e114_18, e114_21, e114_23, e114_26, e114_28, e114_29, e114_32, e114_34, e114_35, e114_35n, e114_37, e114_40, e114_43, e114_45, e114_46, e114_46n, e114_48, e114_51, e114_52, e114_55, e114_57, e114_58, e114_59, e114_61, e114_62, e114_64, e114_65, e114_69, e114_71, e114_74, e114_74n, e114_76, e114_78, e114_79, e114_82, e114_85, e114_87, e114_88, e114_89, e114_89n, e114_91, e114_93, e114_96, e114_96n, e114_98, e114_100, e114_101, e114_102, e114_105, e114_105n, e114_107, e114_109, e114_110, e114_111, e114_114, e114_117, e114_120, e114_123, e114_126, e114_129, e114_132, e114_134, ct_i, ct_r, ct_n, ct_h, opt_v, opt_s, ref_s, ref_n, eq_self_iff_true, true_or, or_true, zl0, zl1, zl2, zl3, zl4, zl5, zl6, zl7, zl8, zl9, zl10, zl16, zl32, zl40, zl100, zl160, zIc1, zI_lt, zI_le, nI_eq, nI_add, z_sub, nI_clamp, zI_of, uu_eq, uu_ne, Nat.reduceLT, Nat.reduceLeDiff, Nat.reduceEqDiff, Nat.reduceAdd, Nat.reduceSub, Nat.reduceMul, Nat.not_lt_zero, Nat.lt_irrefl, Nat.le_refl, Bool.false_eq_true, false_and, and_false, true_and, and_true, if_pos, if_neg, if_true, if_false, not_true_eq_false, not_false_eq_true, c1, s4, k99 (show 1 ≤ d by omega) hK hj, k62 (show 1 ≤ d by omega) hS p1 q1, hs0, p1, hde]
            exact k114l (show 10 ≤ d by omega) hj (show m ≤ 4 by omega) H m 0 p 0 Z D _ (by omega) (Nat.le_refl _) hk rfl
          · have hde : ¬ dI (so j) = nI s := fun h => hs1 ((dI_n (by omega) (by omega)).mp h)
            have := H0 (-13) (by simp only [hx, hy, hw, if_neg hs0, if_neg hs1])
            simp (disch := first | assumption | exact ct_i | exact ct_r | exact ct_n | exact ct_h | omega | exact z_in (by omega) (by omega) | exact b01 | exact Or.inl rfl | exact Or.inr rfl) only [b114, e114_0, e114_1, e114_2, e114_5, e114_5n, e114_7, e114_7n, e114_9n, e114_9, e114_12, e114_13, e114_16, e114_17, e114_18, e114_21, e114_23, e114_26, e114_28, e114_29, e114_32, e114_34, e114_35, e114_35n, e114_37, e114_40, e114_43, e114_45, e114_46, e114_46n, e114_48, e114_51, e114_52, e114_55, e114_57, e114_58, e114_59, e114_61, e114_62, e114_64, e114_65, e114_69, e114_71, e114_74, e114_74n, e114_76, e114_78, e114_79, e114_82, e114_85, e114_87, e114_88, e114_89, e114_89n, e114_91, e114_93, e114_96, e114_96n, e114_98, e114_100, e114_101, e114_102, e114_105, e114_105n, e114_107, e114_109, e114_110, e114_111, e114_114, e114_117, e114_120, e114_123, e114_126, e114_129, e114_132, e114_134, ct_i, ct_r, ct_n, ct_h, opt_v, opt_s, ref_s, ref_n, eq_self_iff_true, true_or, or_true, zl0, zl1, zl2, zl3, zl4, zl5, zl6, zl7, zl8, zl9, zl10, zl16, zl32, zl40, zl100, zl160, zIc1, zI_lt, zI_le, nI_eq, nI_add, z_sub, nI_clamp, zI_of, uu_eq, uu_ne, Nat.reduceLT, Nat.reduceLeDiff, Nat.reduceEqDiff, Nat.reduceAdd, Nat.reduceSub, Nat.reduceMul, Nat.not_lt_zero, Nat.lt_irrefl, Nat.le_refl, Bool.false_eq_true, false_and, and_false, true_and, and_true, if_pos, if_neg, if_true, if_false, not_true_eq_false, not_false_eq_true, c1, s4, k99 (show 1 ≤ d by omega) hK hj, k62 (show 1 ≤ d by omega) hS p1 q1, hs0, p1, hde]
            exact this
end
