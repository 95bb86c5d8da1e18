/-! the model's calls: doors of a sheet, feed -/
theorem z_subI {a b : Int32} (h1 : -2147483648 ≤ a.toInt - b.toInt) (h2 : a.toInt - b.toInt < 2147483648) : (a - b).toInt = a.toInt - b.toInt := by
  rw [Int32.toInt_sub, Int.bmod_eq_of_le] <;> omega
theorem drs_le {f z i : Nat} (hf : f < 2 ^ 31) (hz : z ≤ 40) (hi : i ≤ 4) : nI f ≤ nI z - nI 3 - nI (3 * i) ↔ f + 3 * i + 3 ≤ z := by
  have e3 : (nI 3).toInt = 3 := by decide
  have ez : (nI z).toInt = (z : Int) := nI_toInt (by omega)
  have ei : (nI (3 * i)).toInt = ((3 * i : Nat) : Int) := nI_toInt (by omega)
  have s1 : (nI z - nI 3).toInt = (z : Int) - 3 := by rw [z_subI (by rw [ez, e3]; omega) (by rw [ez, e3]; omega), ez, e3]
  rw [Int32.le_iff_toInt_le, nI_toInt hf, z_subI (by rw [s1, ei]; omega) (by rw [s1, ei]; omega), s1, ei]
  omega
section
variable {T0 : Nat} {tx : Nat → Nat → List Nat} {tp so sz : Nat → Nat} {it : Nat → Nat → Int32} {d : Nat} {Q : Option Value → aH → Prop}
theorem k191l (hd : 3 ≤ d) {j mx : Nat} (hj : j < 4) (hm0 : mx ≤ 4) {fr l2 : Int32} {v : Int32 × (Nat → Nat) × (Nat → Nat → Nat)} (H : ∀ h', RMh T0 v.2.1 v.2.2 tx tp so sz it h' → Q (some (.int v.1)) h') :
    ∀ m i c Z D h l7, i + m = mx → c ≤ i → (i = 0 ∨ ∃ f, fr = nI f ∧ f + 3 * i ≤ sz j) → RM T0 Z D tx tp so sz it h → drF (sz j) (it j) m (fr + nI (3 * i)) c Z D = v → l7.category = 1 →
    aE (a_cl_ d) 191 (75, [.ref 0, .int (nI j), .int l2, .int fr, .int (nI mx), .int (nI c), .int (nI i), l7], [], h) Q := by
  intro m
  induction m with
  | zero =>
    rintro i c Z D ⟨n, t, sh, I, L, R⟩ l7 hi hc hfi hk hv hl7
    obtain rfl : i = mx := by omega
    simp only [drF] at hv
    subst hv
    have q := H _ hk.2
    rw [e191_75]
    simp (disch := first | assumption | exact ct_i | exact ct_r | exact ct_n | exact ct_h | omega | exact z_in (by omega) (by omega) | exact b01 | exact Or.inl rfl | exact Or.inr rfl) only [e191_0, e191_1, e191_4, e191_7, e191_8, e191_9, e191_10, e191_13, e191_16, e191_19, e191_21, e191_22, e191_23, e191_26, e191_29, e191_32, e191_34, e191_35, e191_36, e191_39, e191_40, e191_41, e191_44, e191_45, e191_48, e191_49, e191_50, e191_51, e191_54, e191_56, e191_57, e191_58, e191_61, e191_62, e191_63, e191_66, e191_68, e191_69, e191_70, e191_72, e191_73, e191_77, e191_79, e191_82, e191_83, e191_86, e191_87, e191_88, e191_91, e191_92, e191_93, e191_94, e191_95, e191_96, e191_98, e191_99, e191_100, e191_103, e191_105, e191_106, e191_108, e191_109, e191_110, e191_111, e191_112, e191_113, e191_115, e191_116, e191_117, e191_119, e191_121, e191_122, e191_123, e191_126, e191_128, e191_129, e191_130, e191_133, e191_135, e191_136, e191_137, e191_138, e191_139, e191_142, e191_144, e191_145, e191_146, e191_147, e191_150, e191_153, e191_154, e191_157, e191_158, e191_159, e191_161, e191_164, e191_167, e191_169, ct_i, ct_r, ct_n, ct_h, opt_v, opt_s, ref_s, ref_n, eq_self_iff_true, true_or, or_true, zl0, zl1, zl2, zl3, zl4, zl5, zl6, zl7, zl8, zl9, zl10, zl16, zl32, zl40, zl100, zl160, zIc1, zI_lt, zI_le, nI_eq, nI_add, z_sub, nI_clamp, zI_of, uu_eq, uu_ne, Nat.reduceLT, Nat.reduceLeDiff, Nat.reduceEqDiff, Nat.reduceAdd, Nat.reduceSub, Nat.reduceMul, Nat.not_lt_zero, Nat.lt_irrefl, Nat.le_refl, Bool.false_eq_true, false_and, and_false, true_and, and_true, if_pos, if_neg, if_true, if_false, not_true_eq_false, not_false_eq_true]
    exact q
  | succ m ih =>
    rintro i c Z D ⟨n, t, sh, I, L, R⟩ l7 hi hc hfi hk hv hl7
    have hM := hk.2.2.1
    simp only [] at hM
    have m0 := mm_0 hM; have x22 := mm_x22 hM; have y22 := mm_y22 hM; have r45 := mm_r45 hM; have x23 := mm_x23 hM; have y23 := mm_y23 hM; have r46 := mm_r46 hM
    obtain ⟨s21, s22, s23⟩ := hk.2.2.2.2.2.2.2.2.2.2.2.1 j hj
    simp only [] at s21 s22 s23
    obtain ⟨p1, p2, p3⟩ := hk.1.2.2.2.2.2.2 j hj
    simp only [drF] at hv
    have hlt : i < mx := by omega
    rw [e191_75]
    by_cases hn : fr < nI 0
    · have hi0 : i = 0 := by
        rcases hfi with h | ⟨f, rfl, hf⟩
        · exact h
        · rw [zI_lt (by omega) (by decide)] at hn; omega
      subst hi0
      have hq : hsB (sz j) (fr + nI (3 * 0)) (nI 3) = none := by
        rw [show fr + nI (3 * 0) = fr from Int32.add_zero fr]
        exact hsB_neg (Or.inr (fun h => by rw [Int32.le_iff_toInt_le] at h; rw [Int32.lt_iff_toInt_lt] at hn; omega))
      rw [hq] at hv
      subst hv
      have q := H _ hk.2
      simp (disch := first | assumption | exact ct_i | exact ct_r | exact ct_n | exact ct_h | omega | exact z_in (by omega) (by omega) | exact b01 | exact Or.inl rfl | exact Or.inr rfl) only [e191_0, e191_1, e191_4, e191_7, e191_8, e191_9, e191_10, e191_13, e191_16, e191_19, e191_21, e191_22, e191_23, e191_26, e191_29, e191_32, e191_34, e191_35, e191_36, e191_39, e191_40, e191_41, e191_44, e191_45, e191_48, e191_49, e191_50, e191_51, e191_54, e191_56, e191_57, e191_58, e191_61, e191_62, e191_63, e191_66, e191_68, e191_69, e191_70, e191_72, e191_73, e191_77, e191_79, e191_82, e191_83, e191_86, e191_87, e191_88, e191_91, e191_92, e191_93, e191_94, e191_95, e191_96, e191_98, e191_99, e191_100, e191_103, e191_105, e191_106, e191_108, e191_109, e191_110, e191_111, e191_112, e191_113, e191_115, e191_116, e191_117, e191_119, e191_121, e191_122, e191_123, e191_126, e191_128, e191_129, e191_130, e191_133, e191_135, e191_136, e191_137, e191_138, e191_139, e191_142, e191_144, e191_145, e191_146, e191_147, e191_150, e191_153, e191_154, e191_157, e191_158, e191_159, e191_161, e191_164, e191_167, e191_169, ct_i, ct_r, ct_n, ct_h, opt_v, opt_s, ref_s, ref_n, eq_self_iff_true, true_or, or_true, zl0, zl1, zl2, zl3, zl4, zl5, zl6, zl7, zl8, zl9, zl10, zl16, zl32, zl40, zl100, zl160, zIc1, zI_lt, zI_le, nI_eq, nI_add, z_sub, nI_clamp, zI_of, uu_eq, uu_ne, Nat.reduceLT, Nat.reduceLeDiff, Nat.reduceEqDiff, Nat.reduceAdd, Nat.reduceSub, Nat.reduceMul, Nat.not_lt_zero, Nat.lt_irrefl, Nat.le_refl, Bool.false_eq_true, false_and, and_false, true_and, and_true, if_pos, if_neg, if_true, if_false, not_true_eq_false, not_false_eq_true, m0, hn]
      exact q
    · obtain ⟨f, hf, rfl⟩ := nI_of hn
      have hfi' : i = 0 ∨ f + 3 * i ≤ sz j := by
        rcases hfi with h | ⟨g, hg, h2⟩
        · exact Or.inl h
        · right
          have := congrArg Int32.toInt hg
          rw [nI_toInt hf, nI_toInt (by omega)] at this
          omega
      have hle := drs_le hf p2 (show i ≤ 4 by omega)
      rw [nI_add] at hv
      have hfb : f + 3 * i < 2 ^ 31 := by omega
      by_cases hok : f + 3 * i + 3 ≤ sz j
      · have hq : hsB (sz j) (nI (f + 3 * i)) (nI 3) = some (f + 3 * i, 3) := by
          unfold hsB
          rw [nI_clamp (by omega), nI_clamp (by decide), if_neg (fun h => by rcases h with h | h | h <;> first | (rw [zI_lt (by omega) (by omega)] at h; omega) | omega)]
        rw [hq] at hv
        simp only [] at hv
        have f0 := s23 (f + 3 * i) (by omega)
        have f1 := s23 (f + 3 * i + 1) (by omega)
        have f2 := s23 (f + 3 * i + 2) (by omega)
        rw [show 40 * j + (f + 3 * i) = 40 * j + f + 3 * i by omega] at f0
        rw [show 40 * j + (f + 3 * i + 1) = 40 * j + f + 3 * i + 1 by omega] at f1
        rw [show 40 * j + (f + 3 * i + 2) = 40 * j + f + 3 * i + 2 by omega] at f2
        have h160 : 40 * j + f + 3 * i + 2 < 160 := by omega
        simp (disch := first | assumption | exact ct_i | exact ct_r | exact ct_n | exact ct_h | omega | exact z_in (by omega) (by omega) | exact b01 | exact Or.inl rfl | exact Or.inr rfl) only [e191_0, e191_1, e191_4, e191_7, e191_8, e191_9, e191_10, e191_13, e191_16, e191_19, e191_21, e191_22, e191_23, e191_26, e191_29, e191_32, e191_34, e191_35, e191_36, e191_39, e191_40, e191_41, e191_44, e191_45, e191_48, e191_49, e191_50, e191_51, e191_54, e191_56, e191_57, e191_58, e191_61, e191_62, e191_63, e191_66, e191_68, e191_69, e191_70, e191_72, e191_73, e191_77, e191_79, e191_82, e191_83, e191_86, e191_87, e191_88, e191_91, e191_92, e191_93, e191_94, e191_95, e191_96, e191_98, e191_99, e191_100, e191_103, e191_105, e191_106, e191_108, e191_109, e191_110, e191_111, e191_112, e191_113, e191_115, e191_116, e191_117, e191_119, e191_121, e191_122, e191_123, e191_126, e191_128, e191_129, e191_130, e191_133, e191_135, e191_136, e191_137, e191_138, e191_139, e191_142, e191_144, e191_145, e191_146, e191_147, e191_150, e191_153, e191_154, e191_157, e191_158, e191_159, e191_161, e191_164, e191_167, e191_169, ct_i, ct_r, ct_n, ct_h, opt_v, opt_s, ref_s, ref_n, eq_self_iff_true, true_or, or_true, zl0, zl1, zl2, zl3, zl4, zl5, zl6, zl7, zl8, zl9, zl10, zl16, zl32, zl40, zl100, zl160, zIc1, zI_lt, zI_le, nI_eq, nI_add, z_sub, nI_clamp, zI_of, uu_eq, uu_ne, Nat.reduceLT, Nat.reduceLeDiff, Nat.reduceEqDiff, Nat.reduceAdd, Nat.reduceSub, Nat.reduceMul, Nat.not_lt_zero, Nat.lt_irrefl, Nat.le_refl, Bool.false_eq_true, false_and, and_false, true_and, and_true, if_pos, if_neg, if_true, if_false, not_true_eq_false, not_false_eq_true, zI_mul, m0, x22, y22, r45, x23, y23, r46, s22, f0, f1, f2]
        refine k117 hd hk (fun h' hR => ?_)
        have hk' : RM T0 (dooS Z D (it j (f + 3 * i)) (it j (f + 3 * i + 1)) (it j (f + 3 * i + 2))).2.1 (dooS Z D (it j (f + 3 * i)) (it j (f + 3 * i + 1)) (it j (f + 3 * i + 2))).2.2 tx tp so sz it h' := ⟨okS_doo hk.1, hR⟩
        have hp : nI (f + 3 * i) + nI 3 = nI f + nI (3 * (i + 1)) := by
          rw [nI_add, nI_add, show f + 3 * i + 3 = f + 3 * (i + 1) by omega]
        rw [hp] at hv
        by_cases hneg : (dooS Z D (it j (f + 3 * i)) (it j (f + 3 * i + 1)) (it j (f + 3 * i + 2))).1 < nI 0
        · rw [if_pos hneg] at hv
          have q := ih (i + 1) c _ _ h' (.int (nI (40 * j + f + 3 * i))) (by omega) (by omega) (Or.inr ⟨f, rfl, by omega⟩) hk' hv rfl
          simp (disch := first | assumption | exact ct_i | exact ct_r | exact ct_n | exact ct_h | omega | exact z_in (by omega) (by omega) | exact b01 | exact Or.inl rfl | exact Or.inr rfl) only [e191_0, e191_1, e191_4, e191_7, e191_8, e191_9, e191_10, e191_13, e191_16, e191_19, e191_21, e191_22, e191_23, e191_26, e191_29, e191_32, e191_34, e191_35, e191_36, e191_39, e191_40, e191_41, e191_44, e191_45, e191_48, e191_49, e191_50, e191_51, e191_54, e191_56, e191_57, e191_58, e191_61, e191_62, e191_63, e191_66, e191_68, e191_69, e191_70, e191_72, e191_73, e191_77, e191_79, e191_82, e191_83, e191_86, e191_87, e191_88, e191_91, e191_92, e191_93, e191_94, e191_95, e191_96, e191_98, e191_99, e191_100, e191_103, e191_105, e191_106, e191_108, e191_109, e191_110, e191_111, e191_112, e191_113, e191_115, e191_116, e191_117, e191_119, e191_121, e191_122, e191_123, e191_126, e191_128, e191_129, e191_130, e191_133, e191_135, e191_136, e191_137, e191_138, e191_139, e191_142, e191_144, e191_145, e191_146, e191_147, e191_150, e191_153, e191_154, e191_157, e191_158, e191_159, e191_161, e191_164, e191_167, e191_169, ct_i, ct_r, ct_n, ct_h, opt_v, opt_s, ref_s, ref_n, eq_self_iff_true, true_or, or_true, zl0, zl1, zl2, zl3, zl4, zl5, zl6, zl7, zl8, zl9, zl10, zl16, zl32, zl40, zl100, zl160, zIc1, zI_lt, zI_le, nI_eq, nI_add, z_sub, nI_clamp, zI_of, uu_eq, uu_ne, Nat.reduceLT, Nat.reduceLeDiff, Nat.reduceEqDiff, Nat.reduceAdd, Nat.reduceSub, Nat.reduceMul, Nat.not_lt_zero, Nat.lt_irrefl, Nat.le_refl, Bool.false_eq_true, false_and, and_false, true_and, and_true, if_pos, if_neg, if_true, if_false, not_true_eq_false, not_false_eq_true, zI_mul, hneg]
          exact q
        · rw [if_neg hneg] at hv
          have q := ih (i + 1) (c + 1) _ _ h' (.int (nI (40 * j + f + 3 * i))) (by omega) (by omega) (Or.inr ⟨f, rfl, by omega⟩) hk' hv rfl
          simp (disch := first | assumption | exact ct_i | exact ct_r | exact ct_n | exact ct_h | omega | exact z_in (by omega) (by omega) | exact b01 | exact Or.inl rfl | exact Or.inr rfl) only [e191_0, e191_1, e191_4, e191_7, e191_8, e191_9, e191_10, e191_13, e191_16, e191_19, e191_21, e191_22, e191_23, e191_26, e191_29, e191_32, e191_34, e191_35, e191_36, e191_39, e191_40, e191_41, e191_44, e191_45, e191_48, e191_49, e191_50, e191_51, e191_54, e191_56, e191_57, e191_58, e191_61, e191_62, e191_63, e191_66, e191_68, e191_69, e191_70, e191_72, e191_73, e191_77, e191_79, e191_82, e191_83, e191_86, e191_87, e191_88, e191_91, e191_92, e191_93, e191_94, e191_95, e191_96, e191_98, e191_99, e191_100, e191_103, e191_105, e191_106, e191_108, e191_109, e191_110, e191_111, e191_112, e191_113, e191_115, e191_116, e191_117, e191_119, e191_121, e191_122, e191_123, e191_126, e191_128, e191_129, e191_130, e191_133, e191_135, e191_136, e191_137, e191_138, e191_139, e191_142, e191_144, e191_145, e191_146, e191_147, e191_150, e191_153, e191_154, e191_157, e191_158, e191_159, e191_161, e191_164, e191_167, e191_169, ct_i, ct_r, ct_n, ct_h, opt_v, opt_s, ref_s, ref_n, eq_self_iff_true, true_or, or_true, zl0, zl1, zl2, zl3, zl4, zl5, zl6, zl7, zl8, zl9, zl10, zl16, zl32, zl40, zl100, zl160, zIc1, zI_lt, zI_le, nI_eq, nI_add, z_sub, nI_clamp, zI_of, uu_eq, uu_ne, Nat.reduceLT, Nat.reduceLeDiff, Nat.reduceEqDiff, Nat.reduceAdd, Nat.reduceSub, Nat.reduceMul, Nat.not_lt_zero, Nat.lt_irrefl, Nat.le_refl, Bool.false_eq_true, false_and, and_false, true_and, and_true, if_pos, if_neg, if_true, if_false, not_true_eq_false, not_false_eq_true, zI_mul, hneg]
          exact q
      · have hq : hsB (sz j) (nI (f + 3 * i)) (nI 3) = none := by
          unfold hsB
          rw [nI_clamp (by omega), nI_clamp (by decide), if_pos (Or.inr (Or.inr hok))]
        rw [hq] at hv
        subst hv
        have q := H _ hk.2
        have hnl : ¬ nI f ≤ nI (sz j) - nI 3 - nI (3 * i) := fun h => hok (hle.mp h)
        simp (disch := first | assumption | exact ct_i | exact ct_r | exact ct_n | exact ct_h | omega | exact z_in (by omega) (by omega) | exact b01 | exact Or.inl rfl | exact Or.inr rfl) only [e191_0, e191_1, e191_4, e191_7, e191_8, e191_9, e191_10, e191_13, e191_16, e191_19, e191_21, e191_22, e191_23, e191_26, e191_29, e191_32, e191_34, e191_35, e191_36, e191_39, e191_40, e191_41, e191_44, e191_45, e191_48, e191_49, e191_50, e191_51, e191_54, e191_56, e191_57, e191_58, e191_61, e191_62, e191_63, e191_66, e191_68, e191_69, e191_70, e191_72, e191_73, e191_77, e191_79, e191_82, e191_83, e191_86, e191_87, e191_88, e191_91, e191_92, e191_93, e191_94, e191_95, e191_96, e191_98, e191_99, e191_100, e191_103, e191_105, e191_106, e191_108, e191_109, e191_110, e191_111, e191_112, e191_113, e191_115, e191_116, e191_117, e191_119, e191_121, e191_122, e191_123, e191_126, e191_128, e191_129, e191_130, e191_133, e191_135, e191_136, e191_137, e191_138, e191_139, e191_142, e191_144, e191_145, e191_146, e191_147, e191_150, e191_153, e191_154, e191_157, e191_158, e191_159, e191_161, e191_164, e191_167, e191_169, ct_i, ct_r, ct_n, ct_h, opt_v, opt_s, ref_s, ref_n, eq_self_iff_true, true_or, or_true, zl0, zl1, zl2, zl3, zl4, zl5, zl6, zl7, zl8, zl9, zl10, zl16, zl32, zl40, zl100, zl160, zIc1, zI_lt, zI_le, nI_eq, nI_add, z_sub, nI_clamp, zI_of, uu_eq, uu_ne, Nat.reduceLT, Nat.reduceLeDiff, Nat.reduceEqDiff, Nat.reduceAdd, Nat.reduceSub, Nat.reduceMul, Nat.not_lt_zero, Nat.lt_irrefl, Nat.le_refl, Bool.false_eq_true, false_and, and_false, true_and, and_true, if_pos, if_neg, if_true, if_false, not_true_eq_false, not_false_eq_true, zI_mul, m0, x22, y22, r45, x23, y23, r46, s22, if_neg hnl]
        exact q
theorem k191 (hd : 4 ≤ d) {Z : Nat → Nat} {D : Nat → Nat → Nat} {n t : Nat} {sh : Nat → Nat × Nat} {I : Nat → Nat → Int32} {L : Nat → Nat → Int64} {R : Nat → Nat → Option Nat} (hk : RM T0 Z D tx tp so sz it (n, t, sh, I, L, R)) {x y p w : Int32} (H : ∀ h', RMh T0 (drsS Z D so sz it x y p w).2.1 (drsS Z D so sz it x y p w).2.2 tx tp so sz it h' → Q (some (.int (drsS Z D so sz it x y p w).1)) h') : aC d 191 [.ref 0, .int x, .int y, .int p, .int w] (n, t, sh, I, L, R) Q := by
  obtain ⟨d, rfl⟩ : ∃ e, d = e + 1 := ⟨d - 1, by omega⟩
  have hM := hk.2.2.1
  simp only [] at hM
  have m0 := mm_0 hM; have x21 := mm_x21 hM; have y21 := mm_y21 hM; have r44 := mm_r44 hM
  have l2 : (2 : Int64) = (nI 2).toInt64 := rfl
  have o7 := hk.1.2.2.2.2.2.2
  have e1 := fun Q => k175 (Q := Q) (n := n) (t := t) (sh := sh) (I := I) (L := L) (R := R) (show 2 ≤ d by omega) (x := x)
  unfold drsS at H
  cases hx : dec x 4 with
  | none =>
    simp only [hx] at H
    have q := H _ hk.2
    simp only [hx, Option.isSome_none, Bool.false_eq_true, if_false] at e1
    simp (disch := first | assumption | exact ct_i | exact ct_r | exact ct_n | exact ct_h | omega | exact z_in (by omega) (by omega) | exact b01 | exact Or.inl rfl | exact Or.inr rfl) only [b191, e191_0, e191_1, e191_4, e191_7, e191_8, e191_9, e191_10, e191_13, e191_16, e191_19, e191_21, e191_22, e191_23, e191_26, e191_29, e191_32, e191_34, e191_35, e191_36, e191_39, e191_40, e191_41, e191_44, e191_45, e191_48, e191_49, e191_50, e191_51, e191_54, e191_56, e191_57, e191_58, e191_61, e191_62, e191_63, e191_66, e191_68, e191_69, e191_70, e191_72, e191_73, e191_77, e191_79, e191_82, e191_83, e191_86, e191_87, e191_88, e191_91, e191_92, e191_93, e191_94, e191_95, e191_96, e191_98, e191_99, e191_100, e191_103, e191_105, e191_106, e191_108, e191_109, e191_110, e191_111, e191_112, e191_113, e191_115, e191_116, e191_117, e191_119, e191_121, e191_122, e191_123, e191_126, e191_128, e191_129, e191_130, e191_133, e191_135, e191_136, e191_137, e191_138, e191_139, e191_142, e191_144, e191_145, e191_146, e191_147, e191_150, e191_153, e191_154, e191_157, e191_158, e191_159, e191_161, e191_164, e191_167, e191_169, ct_i, ct_r, ct_n, ct_h, opt_v, opt_s, ref_s, ref_n, eq_self_iff_true, true_or, or_true, zl0, zl1, zl2, zl3, zl4, zl5, zl6, zl7, zl8, zl9, zl10, zl16, zl32, zl40, zl100, zl160, zIc1, zI_lt, zI_le, nI_eq, nI_add, z_sub, nI_clamp, zI_of, uu_eq, uu_ne, Nat.reduceLT, Nat.reduceLeDiff, Nat.reduceEqDiff, Nat.reduceAdd, Nat.reduceSub, Nat.reduceMul, Nat.not_lt_zero, Nat.lt_irrefl, Nat.le_refl, Bool.false_eq_true, false_and, and_false, true_and, and_true, if_pos, if_neg, if_true, if_false, not_true_eq_false, not_false_eq_true, m0, e1]
    exact q
  | some j =>
    obtain ⟨rfl, hj⟩ := dec_some (by omega) hx
    simp only [hx, Option.isSome_some, if_true] at e1
    obtain ⟨s21, s22, s23⟩ := hk.2.2.2.2.2.2.2.2.2.2.2.1 j hj
    simp only [] at s21 s22 s23
    obtain ⟨p1, p2, p3⟩ := o7 j hj
    cases hy : dec y 3 with
    | none =>
      simp only [hx, hy] at H
      have q := H _ hk.2
      simp (disch := first | assumption | exact ct_i | exact ct_r | exact ct_n | exact ct_h | omega | exact z_in (by omega) (by omega) | exact b01 | exact Or.inl rfl | exact Or.inr rfl) only [b191, e191_0, e191_1, e191_4, e191_7, e191_8, e191_9, e191_10, e191_13, e191_16, e191_19, e191_21, e191_22, e191_23, e191_26, e191_29, e191_32, e191_34, e191_35, e191_36, e191_39, e191_40, e191_41, e191_44, e191_45, e191_48, e191_49, e191_50, e191_51, e191_54, e191_56, e191_57, e191_58, e191_61, e191_62, e191_63, e191_66, e191_68, e191_69, e191_70, e191_72, e191_73, e191_77, e191_79, e191_82, e191_83, e191_86, e191_87, e191_88, e191_91, e191_92, e191_93, e191_94, e191_95, e191_96, e191_98, e191_99, e191_100, e191_103, e191_105, e191_106, e191_108, e191_109, e191_110, e191_111, e191_112, e191_113, e191_115, e191_116, e191_117, e191_119, e191_121, e191_122, e191_123, e191_126, e191_128, e191_129, e191_130, e191_133, e191_135, e191_136, e191_137, e191_138, e191_139, e191_142, e191_144, e191_145, e191_146, e191_147, e191_150, e191_153, e191_154, e191_157, e191_158, e191_159, e191_161, e191_164, e191_167, e191_169, ct_i, ct_r, ct_n, ct_h, opt_v, opt_s, ref_s, ref_n, eq_self_iff_true, true_or, or_true, zl0, zl1, zl2, zl3, zl4, zl5, zl6, zl7, zl8, zl9, zl10, zl16, zl32, zl40, zl100, zl160, zIc1, zI_lt, zI_le, nI_eq, nI_add, z_sub, nI_clamp, zI_of, uu_eq, uu_ne, Nat.reduceLT, Nat.reduceLeDiff, Nat.reduceEqDiff, Nat.reduceAdd, Nat.reduceSub, Nat.reduceMul, Nat.not_lt_zero, Nat.lt_irrefl, Nat.le_refl, Bool.false_eq_true, false_and, and_false, true_and, and_true, if_pos, if_neg, if_true, if_false, not_true_eq_false, not_false_eq_true, m0, e1, ll0, l2, ll4, k118 (show 1 ≤ d by omega), in_d3, hy, Option.isSome_none, Bool.false_eq_true, if_false]
      exact q
    | some s =>
      obtain ⟨rfl, hs⟩ := dec_some (by omega) hy
      cases hw : dec w 5 with
      | none =>
        simp only [hx, hy, hw] at H
        have q := H _ hk.2
        simp (disch := first | assumption | exact ct_i | exact ct_r | exact ct_n | exact ct_h | omega | exact z_in (by omega) (by omega) | exact b01 | exact Or.inl rfl | exact Or.inr rfl) only [b191, e191_0, e191_1, e191_4, e191_7, e191_8, e191_9, e191_10, e191_13, e191_16, e191_19, e191_21, e191_22, e191_23, e191_26, e191_29, e191_32, e191_34, e191_35, e191_36, e191_39, e191_40, e191_41, e191_44, e191_45, e191_48, e191_49, e191_50, e191_51, e191_54, e191_56, e191_57, e191_58, e191_61, e191_62, e191_63, e191_66, e191_68, e191_69, e191_70, e191_72, e191_73, e191_77, e191_79, e191_82, e191_83, e191_86, e191_87, e191_88, e191_91, e191_92, e191_93, e191_94, e191_95, e191_96, e191_98, e191_99, e191_100, e191_103, e191_105, e191_106, e191_108, e191_109, e191_110, e191_111, e191_112, e191_113, e191_115, e191_116, e191_117, e191_119, e191_121, e191_122, e191_123, e191_126, e191_128, e191_129, e191_130, e191_133, e191_135, e191_136, e191_137, e191_138, e191_139, e191_142, e191_144, e191_145, e191_146, e191_147, e191_150, e191_153, e191_154, e191_157, e191_158, e191_159, e191_161, e191_164, e191_167, e191_169, ct_i, ct_r, ct_n, ct_h, opt_v, opt_s, ref_s, ref_n, eq_self_iff_true, true_or, or_true, zl0, zl1, zl2, zl3, zl4, zl5, zl6, zl7, zl8, zl9, zl10, zl16, zl32, zl40, zl100, zl160, zIc1, zI_lt, zI_le, nI_eq, nI_add, z_sub, nI_clamp, zI_of, uu_eq, uu_ne, Nat.reduceLT, Nat.reduceLeDiff, Nat.reduceEqDiff, Nat.reduceAdd, Nat.reduceSub, Nat.reduceMul, Nat.not_lt_zero, Nat.lt_irrefl, Nat.le_refl, Bool.false_eq_true, false_and, and_false, true_and, and_true, if_pos, if_neg, if_true, if_false, not_true_eq_false, not_false_eq_true, m0, e1, ll0, l2, ll4, k118 (show 1 ≤ d by omega), in_d3, in_d5, hy, hw, Option.isSome_some, Option.isSome_none, Bool.false_eq_true, if_false]
        exact q
      | some m =>
        obtain ⟨rfl, hm⟩ := dec_some (by omega) hw
        simp only [hx, hy, hw] at H
        have hneg : -nI 1 < nI 0 := by decide
        have hneg2 : ¬ nI 0 ≤ -nI 1 := by decide
        by_cases h0 : so j = 0
        · rw [if_pos h0] at H
          have q := H _ hk.2
          have g : I 21 j = -nI 1 := by rw [s21, h0]; rfl
          simp (disch := first | assumption | exact ct_i | exact ct_r | exact ct_n | exact ct_h | omega | exact z_in (by omega) (by omega) | exact b01 | exact Or.inl rfl | exact Or.inr rfl) only [b191, e191_0, e191_1, e191_4, e191_7, e191_8, e191_9, e191_10, e191_13, e191_16, e191_19, e191_21, e191_22, e191_23, e191_26, e191_29, e191_32, e191_34, e191_35, e191_36, e191_39, e191_40, e191_41, e191_44, e191_45, e191_48, e191_49, e191_50, e191_51, e191_54, e191_56, e191_57, e191_58, e191_61, e191_62, e191_63, e191_66, e191_68, e191_69, e191_70, e191_72, e191_73, e191_77, e191_79, e191_82, e191_83, e191_86, e191_87, e191_88, e191_91, e191_92, e191_93, e191_94, e191_95, e191_96, e191_98, e191_99, e191_100, e191_103, e191_105, e191_106, e191_108, e191_109, e191_110, e191_111, e191_112, e191_113, e191_115, e191_116, e191_117, e191_119, e191_121, e191_122, e191_123, e191_126, e191_128, e191_129, e191_130, e191_133, e191_135, e191_136, e191_137, e191_138, e191_139, e191_142, e191_144, e191_145, e191_146, e191_147, e191_150, e191_153, e191_154, e191_157, e191_158, e191_159, e191_161, e191_164, e191_167, e191_169, ct_i, ct_r, ct_n, ct_h, opt_v, opt_s, ref_s, ref_n, eq_self_iff_true, true_or, or_true, zl0, zl1, zl2, zl3, zl4, zl5, zl6, zl7, zl8, zl9, zl10, zl16, zl32, zl40, zl100, zl160, zIc1, zI_lt, zI_le, nI_eq, nI_add, z_sub, nI_clamp, zI_of, uu_eq, uu_ne, Nat.reduceLT, Nat.reduceLeDiff, Nat.reduceEqDiff, Nat.reduceAdd, Nat.reduceSub, Nat.reduceMul, Nat.not_lt_zero, Nat.lt_irrefl, Nat.le_refl, Bool.false_eq_true, false_and, and_false, true_and, and_true, if_pos, if_neg, if_true, if_false, not_true_eq_false, not_false_eq_true, m0, x21, y21, r44, e1, ll0, l2, ll4, k118 (show 1 ≤ d by omega), in_d3, in_d5, hy, hw, Option.isSome_some, g, hneg, hneg2]
          exact q
        · rw [if_neg h0] at H
          obtain ⟨c, hc⟩ : ∃ c, so j = c + 1 := ⟨so j - 1, by omega⟩
          have g : I 21 j = nI c := by rw [s21, hc]; rfl
          have hc4 : c < 4 := by omega
          by_cases hcs : so j = s + 1
          · rw [if_pos hcs] at H
            have hc2 : c = s := by omega
            subst hc2
            simp (disch := first | assumption | exact ct_i | exact ct_r | exact ct_n | exact ct_h | omega | exact z_in (by omega) (by omega) | exact b01 | exact Or.inl rfl | exact Or.inr rfl) only [b191, e191_0, e191_1, e191_4, e191_7, e191_8, e191_9, e191_10, e191_13, e191_16, e191_19, e191_21, e191_22, e191_23, e191_26, e191_29, e191_32, e191_34, e191_35, e191_36, e191_39, e191_40, e191_41, e191_44, e191_45, e191_48, e191_49, e191_50, e191_51, e191_54, e191_56, e191_57, e191_58, e191_61, e191_62, e191_63, e191_66, e191_68, e191_69, e191_70, e191_72, e191_73, e191_77, e191_79, e191_82, e191_83, e191_86, e191_87, e191_88, e191_91, e191_92, e191_93, e191_94, e191_95, e191_96, e191_98, e191_99, e191_100, e191_103, e191_105, e191_106, e191_108, e191_109, e191_110, e191_111, e191_112, e191_113, e191_115, e191_116, e191_117, e191_119, e191_121, e191_122, e191_123, e191_126, e191_128, e191_129, e191_130, e191_133, e191_135, e191_136, e191_137, e191_138, e191_139, e191_142, e191_144, e191_145, e191_146, e191_147, e191_150, e191_153, e191_154, e191_157, e191_158, e191_159, e191_161, e191_164, e191_167, e191_169, ct_i, ct_r, ct_n, ct_h, opt_v, opt_s, ref_s, ref_n, eq_self_iff_true, true_or, or_true, zl0, zl1, zl2, zl3, zl4, zl5, zl6, zl7, zl8, zl9, zl10, zl16, zl32, zl40, zl100, zl160, zIc1, zI_lt, zI_le, nI_eq, nI_add, z_sub, nI_clamp, zI_of, uu_eq, uu_ne, Nat.reduceLT, Nat.reduceLeDiff, Nat.reduceEqDiff, Nat.reduceAdd, Nat.reduceSub, Nat.reduceMul, Nat.not_lt_zero, Nat.lt_irrefl, Nat.le_refl, Bool.false_eq_true, false_and, and_false, true_and, and_true, if_pos, if_neg, if_true, if_false, not_true_eq_false, not_false_eq_true, m0, x21, y21, r44, e1, ll0, l2, ll4, k118 (show 1 ≤ d by omega), in_d3, in_d5, hy, hw, Option.isSome_some, g]
            exact k191l (by omega) hj (by omega) H m 0 0 _ _ _ a_hole (by omega) (Nat.le_refl _) (Or.inl rfl) hk (by rw [show p + nI (3 * 0) = p from Int32.add_zero p]) rfl
          · rw [if_neg hcs] at H
            have q := H _ hk.2
            have hc2 : ¬ c = s := by omega
            simp (disch := first | assumption | exact ct_i | exact ct_r | exact ct_n | exact ct_h | omega | exact z_in (by omega) (by omega) | exact b01 | exact Or.inl rfl | exact Or.inr rfl) only [b191, e191_0, e191_1, e191_4, e191_7, e191_8, e191_9, e191_10, e191_13, e191_16, e191_19, e191_21, e191_22, e191_23, e191_26, e191_29, e191_32, e191_34, e191_35, e191_36, e191_39, e191_40, e191_41, e191_44, e191_45, e191_48, e191_49, e191_50, e191_51, e191_54, e191_56, e191_57, e191_58, e191_61, e191_62, e191_63, e191_66, e191_68, e191_69, e191_70, e191_72, e191_73, e191_77, e191_79, e191_82, e191_83, e191_86, e191_87, e191_88, e191_91, e191_92, e191_93, e191_94, e191_95, e191_96, e191_98, e191_99, e191_100, e191_103, e191_105, e191_106, e191_108, e191_109, e191_110, e191_111, e191_112, e191_113, e191_115, e191_116, e191_117, e191_119, e191_121, e191_122, e191_123, e191_126, e191_128, e191_129, e191_130, e191_133, e191_135, e191_136, e191_137, e191_138, e191_139, e191_142, e191_144, e191_145, e191_146, e191_147, e191_150, e191_153, e191_154, e191_157, e191_158, e191_159, e191_161, e191_164, e191_167, e191_169, ct_i, ct_r, ct_n, ct_h, opt_v, opt_s, ref_s, ref_n, eq_self_iff_true, true_or, or_true, zl0, zl1, zl2, zl3, zl4, zl5, zl6, zl7, zl8, zl9, zl10, zl16, zl32, zl40, zl100, zl160, zIc1, zI_lt, zI_le, nI_eq, nI_add, z_sub, nI_clamp, zI_of, uu_eq, uu_ne, Nat.reduceLT, Nat.reduceLeDiff, Nat.reduceEqDiff, Nat.reduceAdd, Nat.reduceSub, Nat.reduceMul, Nat.not_lt_zero, Nat.lt_irrefl, Nat.le_refl, Bool.false_eq_true, false_and, and_false, true_and, and_true, if_pos, if_neg, if_true, if_false, not_true_eq_false, not_false_eq_true, m0, x21, y21, r44, e1, ll0, l2, ll4, k118 (show 1 ≤ d by omega), in_d3, in_d5, hy, hw, Option.isSome_some, g, hc2]
            exact q
end
