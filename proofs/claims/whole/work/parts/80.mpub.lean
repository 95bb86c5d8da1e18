/-! the model's calls: told, which go, going, the wish, counting, the rule -/
section
variable {T0 : Nat} {Z : Nat → Nat} {D : Nat → Nat → Nat} {tx : Nat → Nat → List Nat} {tp so sz : Nat → Nat} {it : Nat → Nat → Int32} {d : Nat} {n t : Nat} {sh : Nat → Nat × Nat} {I : Nat → Nat → Int32} {L : Nat → Nat → Int64} {R : Nat → Nat → Option Nat} {I' : Nat → Nat → Int32} {Q : Option Value → aH → Prop}
theorem RM_fr (hk : RM T0 Z D tx tp so sz it (n, t, sh, I, L, R)) (f : frM I I') : RM T0 Z D tx tp so sz it (n, t, sh, I', L, R) :=
  ⟨hk.1, hk.2.1, hk.2.2.1, hk.2.2.2.1, MI_fr hk.2.2.2.2 f⟩
theorem RM_B (hk : RM T0 Z D tx tp so sz it (n, t, sh, I, L, R)) : mB (Z 1) D (tx (Z 4)) (Z 4) sh R I := by
  obtain ⟨⟨o1, ⟨o2, hB⟩, o3, o4, o5, o6, o7⟩, hn, hM, hcl, m1, m2, m3, m4, m5, m6, m7⟩ := hk
  exact ⟨hM, m1, o2, hB, by omega, m5.2, m6 _ o4.2.1, o4.2.2 _ o4.2.1⟩
/-- where the situation and the rule change -/
theorem MI_24 {Z' : Nat → Nat} (h : MI Z D tx tp so sz it I) (hz : ∀ k, ¬ (k = 2 ∨ k = 4) → Z' k = Z k) (e : ∀ x k, ¬ (x = 0 ∧ (k = 2 ∨ k = 3 ∨ k = 17) ∨ x = 6 ∨ scM x k) → I' x k = I x k)
    (h2 : I' 0 2 = nI (tno (Z' 2))) (h3 : I' 0 3 = nI (rmo (Z' 2))) (h4 : I' 0 17 = nI (Z' 4)) (h6 : ∀ d, d < Z 1 → I' 6 d = nI (stt (Z' 2) d)) : MI Z' D tx tp so sz it I' := by
  obtain ⟨⟨a1, a2⟩, ⟨b1, b2, b3⟩, c1, ⟨d1, d2⟩, ⟨e1, e2⟩, f1, ⟨g1, g2⟩, i1, j1⟩ := h
  unfold MI
  simp (disch := omega) only [hz]
  refine ⟨⟨?_, fun d hd => ⟨?_, ?_, ?_, ?_⟩⟩, ⟨?_, h2, h3⟩, fun d hd => ⟨?_, h6 d hd⟩, ⟨?_, fun k hk => ?_⟩, ⟨?_, h4⟩, fun i hi => ?_, ⟨?_, fun hq => ?_⟩, fun j hj => ⟨?_, ?_, fun k hk => ?_⟩, fun j hj => ?_⟩
  · exact (e _ _ (by unfold scM; omega)).trans a1
  · exact (e _ _ (by unfold scM; omega)).trans (a2 d hd).1
  · exact (e _ _ (by unfold scM; omega)).trans (a2 d hd).2.1
  · exact (e _ _ (by unfold scM; omega)).trans (a2 d hd).2.2.1
  · exact (e _ _ (by unfold scM; omega)).trans (a2 d hd).2.2.2
  · exact (e _ _ (by unfold scM; omega)).trans b1
  · exact (e _ _ (by unfold scM; omega)).trans (c1 d hd).1
  · exact (e _ _ (by unfold scM; omega)).trans d1
  · exact (e _ _ (by unfold scM; omega)).trans (d2 k hk)
  · exact (e _ _ (by unfold scM; omega)).trans e1
  · exact txM_fr (f1 i hi) (fun x k hx => e x k (by unfold scM; omega))
  · exact (e _ _ (by unfold scM; omega)).trans g1
  · obtain ⟨⟨q1, q2, q3, q4⟩, q5⟩ := g2 hq
    exact ⟨⟨(e _ _ (by unfold scM; omega)).trans q1, (e _ _ (by unfold scM; omega)).trans q2, (e _ _ (by unfold scM; omega)).trans q3, (e _ _ (by unfold scM; omega)).trans q4⟩, fun d hd => (e _ _ (by unfold scM; omega)).trans (q5 d hd)⟩
  · exact (e _ _ (by unfold scM; omega)).trans (i1 j hj).1
  · exact (e _ _ (by unfold scM; omega)).trans (i1 j hj).2.1
  · exact (e _ _ (by unfold scM; omega)).trans ((i1 j hj).2.2 k hk)
  · exact (e _ _ (by unfold scM; omega)).trans (j1 j hj)
theorem kAs (hd : 1 ≤ d) (hk : RM T0 Z D tx tp so sz it (n, t, sh, I, L, R)) (H : ∀ I', (∀ x k, ¬ (x = 0 ∧ (k = 12 ∨ k = 13) ∨ x = 7 ∨ x = 8) → I' x k = I x k) → frM I I' → thS (Z 1) D (Z 2) I' → Q none (n, t, sh, I', L, R)) : aC d 124 [.ref 0] (n, t, sh, I, L, R) Q := by
  obtain ⟨⟨o1, ⟨o2, hB⟩, o3, o4, o5, o6, o7⟩, hn, hM, hcl, m1, m2, m3, m4, m5, m6, m7⟩ := hk
  exact k124 hd hM m1.1 o2 m3 m2.2.1 m2.2.2 (fun I' e hT => H I' e (fun x k hx => e x k (fun g => hx (by unfold scM; omega))) hT)
theorem kst_wrm {nd s i r : Nat} (h : D i 2 < 4) : kst nd D (wrm s r) i = kst nd D s i := by
  unfold kst; rw [stt_wrm h]
theorem k123 (hd : 5 ≤ d) (hk : RM T0 Z D tx tp so sz it (n, t, sh, I, L, R)) {x w : Int32} (H : ∀ h', RM T0 Z D tx tp so sz it h' → Q (some (.int (tldS Z D tx x w))) h') : aC d 123 [.ref 0, .int x, .int w] (n, t, sh, I, L, R) Q := by
  obtain ⟨d, rfl⟩ : ∃ e, d = e + 1 := ⟨d - 1, by omega⟩
  obtain ⟨hM, hD, hn4, hB, hR⟩ := RM_B hk
  have o3 := hk.1.2.2.1
  have m0 := mm_0 hM; have x1 := mm_x1 hM; have y1 := mm_y1 hM; have r4 := mm_r4 hM; have x2 := mm_x2 hM; have y2 := mm_y2 hM; have r5 := mm_r5 hM; have x3 := mm_x3 hM; have y3 := mm_y3 hM; have r6 := mm_r6 hM; have x4 := mm_x4 hM; have y4 := mm_y4 hM; have r7 := mm_r7 hM; have x5 := mm_x5 hM; have y5 := mm_y5 hM; have r8 := mm_r8 hM; have x6 := mm_x6 hM; have y6 := mm_y6 hM; have r9 := mm_r9 hM
  have e1 := fun Q => k121 (Q := Q) (n := n) (t := t) (L := L) (show 2 ≤ d by omega) hM hD hn4 (x := x)
  unfold tldS at H
  cases hx : dec x (Z 1) with
  | none =>
    simp only [hx] at H
    have q := H _ hk
    simp only [hx, Option.isSome_none, Bool.false_eq_true, if_false] at e1
    simp (disch := first | assumption | exact ct_i | exact ct_r | exact ct_n | exact ct_h | omega | exact z_in (by omega) (by omega) | exact b01 | exact Or.inl rfl | exact Or.inr rfl) only [b123, e123_0, e123_1, e123_2, e123_5, e123_8, e123_10, e123_11, e123_12, e123_15, e123_16, e123_64, e123_65, e123_68, e123_69, e123_70, e123_71, e123_72, e123_75, e123_76, e123_77, e123_78, e123_79, e123_82, e123_83, e123_84, e123_85, e123_86, e123_89, e123_90, e123_91, e123_92, e123_93, e123_96, e123_97, e123_98, e123_99, e123_100, e123_101, e123_102, e123_105, e123_106, e123_107, e123_110, e123_113, e123_114, e123_117, e123_118, e123_119, e123_120, e123_121, e123_124, e123_125, e123_126, e123_129, e123_130, e123_131, e123_132, e123_134, ct_i, ct_r, ct_n, ct_h, opt_v, opt_s, ref_s, ref_n, eq_self_iff_true, true_or, or_true, zl0, zl1, zl2, zl3, zl4, zl5, zl6, zl7, zl8, zl9, zl10, zl16, zl32, zl40, zl100, zl160, zIc1, zI_lt, zI_le, nI_eq, nI_add, z_sub, nI_clamp, zI_of, uu_eq, uu_ne, Nat.reduceLT, Nat.reduceLeDiff, Nat.reduceEqDiff, Nat.reduceAdd, Nat.reduceSub, Nat.reduceMul, Nat.not_lt_zero, Nat.lt_irrefl, Nat.le_refl, Bool.false_eq_true, false_and, and_false, true_and, and_true, if_pos, if_neg, if_true, if_false, not_true_eq_false, not_false_eq_true, m0, e1]
    exact q
  | some i =>
    obtain ⟨rfl, hi⟩ := dec_some (by omega) hx
    simp only [hx] at H
    simp only [hx, Option.isSome_some, if_true] at e1
    have hi4 : i < 4 := by omega
    simp (disch := first | assumption | exact ct_i | exact ct_r | exact ct_n | exact ct_h | omega | exact z_in (by omega) (by omega) | exact b01 | exact Or.inl rfl | exact Or.inr rfl) only [b123, e123_0, e123_1, e123_2, e123_5, e123_8, e123_10, e123_11, e123_12, e123_15, e123_64, e123_65, e123_68, e123_69, e123_70, e123_71, e123_72, e123_75, e123_76, e123_77, e123_78, e123_79, e123_82, e123_83, e123_84, e123_85, e123_86, e123_89, e123_90, e123_91, e123_92, e123_93, e123_96, e123_97, e123_98, e123_99, e123_100, e123_101, e123_102, e123_105, e123_106, e123_107, e123_110, e123_113, e123_114, e123_117, e123_118, e123_119, e123_120, e123_121, e123_124, e123_125, e123_126, e123_129, e123_130, e123_131, e123_132, e123_134, ct_i, ct_r, ct_n, ct_h, opt_v, opt_s, ref_s, ref_n, eq_self_iff_true, true_or, or_true, zl0, zl1, zl2, zl3, zl4, zl5, zl6, zl7, zl8, zl9, zl10, zl16, zl32, zl40, zl100, zl160, zIc1, zI_lt, zI_le, nI_eq, nI_add, z_sub, nI_clamp, zI_of, uu_eq, uu_ne, Nat.reduceLT, Nat.reduceLeDiff, Nat.reduceEqDiff, Nat.reduceAdd, Nat.reduceSub, Nat.reduceMul, Nat.not_lt_zero, Nat.lt_irrefl, Nat.le_refl, Bool.false_eq_true, false_and, and_false, true_and, and_true, if_pos, if_neg, if_true, if_false, not_true_eq_false, not_false_eq_true, m0, e1]
    refine kAs (by omega) hk (fun I1 ee hf hT => ?_)
    have hk1 := RM_fr hk hf
    have hm1 := RM_B hk1
    obtain ⟨_, _, _, _, m1, m2, m3, m4, m5, m6, m7⟩ := hk1
    have g1 := (m3 i hi).1
    have g6 := (m3 i hi).2
    simp only [] at g1 g6
    obtain ⟨g2, g3, g4, g5⟩ := m1.2 i hi
    simp only [] at g2 g3 g4 g5
    obtain ⟨b0, b1, b2, b3, b4⟩ := hB i hi
    by_cases w0 : w = nI 0
    · subst w0
      rw [if_pos rfl] at H
      have q := H _ (RM_fr hk hf)
      simp (disch := first | assumption | exact ct_i | exact ct_r | exact ct_n | exact ct_h | omega | exact z_in (by omega) (by omega) | exact b01 | exact Or.inl rfl | exact Or.inr rfl) only [e123_0, e123_1, e123_2, e123_5, e123_8, e123_10, e123_11, e123_12, e123_15, e123_16, e123_64, e123_65, e123_68, e123_69, e123_70, e123_71, e123_72, e123_75, e123_76, e123_77, e123_78, e123_79, e123_82, e123_83, e123_84, e123_85, e123_86, e123_89, e123_90, e123_91, e123_92, e123_93, e123_96, e123_97, e123_98, e123_99, e123_100, e123_101, e123_102, e123_105, e123_106, e123_107, e123_110, e123_113, e123_114, e123_117, e123_118, e123_119, e123_120, e123_121, e123_124, e123_125, e123_126, e123_129, e123_130, e123_131, e123_132, e123_134, ct_i, ct_r, ct_n, ct_h, opt_v, opt_s, ref_s, ref_n, eq_self_iff_true, true_or, or_true, zl0, zl1, zl2, zl3, zl4, zl5, zl6, zl7, zl8, zl9, zl10, zl16, zl32, zl40, zl100, zl160, zIc1, zI_lt, zI_le, nI_eq, nI_add, z_sub, nI_clamp, zI_of, uu_eq, uu_ne, Nat.reduceLT, Nat.reduceLeDiff, Nat.reduceEqDiff, Nat.reduceAdd, Nat.reduceSub, Nat.reduceMul, Nat.not_lt_zero, Nat.lt_irrefl, Nat.le_refl, Bool.false_eq_true, false_and, and_false, true_and, and_true, if_pos, if_neg, if_true, if_false, not_true_eq_false, not_false_eq_true, m0, x1, y1, r4, x2, y2, r5, x3, y3, r6, x4, y4, r7, x5, y5, r8, x6, y6, r9, g1]
      exact q
    rw [if_neg w0] at H
    by_cases w1 : w = nI 1
    · subst w1
      rw [if_pos rfl] at H
      have q := H _ (RM_fr hk hf)
      simp (disch := first | assumption | exact ct_i | exact ct_r | exact ct_n | exact ct_h | omega | exact z_in (by omega) (by omega) | exact b01 | exact Or.inl rfl | exact Or.inr rfl) only [e123_0, e123_1, e123_2, e123_5, e123_8, e123_10, e123_11, e123_12, e123_15, e123_16, e123_64, e123_65, e123_68, e123_69, e123_70, e123_71, e123_72, e123_75, e123_76, e123_77, e123_78, e123_79, e123_82, e123_83, e123_84, e123_85, e123_86, e123_89, e123_90, e123_91, e123_92, e123_93, e123_96, e123_97, e123_98, e123_99, e123_100, e123_101, e123_102, e123_105, e123_106, e123_107, e123_110, e123_113, e123_114, e123_117, e123_118, e123_119, e123_120, e123_121, e123_124, e123_125, e123_126, e123_129, e123_130, e123_131, e123_132, e123_134, ct_i, ct_r, ct_n, ct_h, opt_v, opt_s, ref_s, ref_n, eq_self_iff_true, true_or, or_true, zl0, zl1, zl2, zl3, zl4, zl5, zl6, zl7, zl8, zl9, zl10, zl16, zl32, zl40, zl100, zl160, zIc1, zI_lt, zI_le, nI_eq, nI_add, z_sub, nI_clamp, zI_of, uu_eq, uu_ne, Nat.reduceLT, Nat.reduceLeDiff, Nat.reduceEqDiff, Nat.reduceAdd, Nat.reduceSub, Nat.reduceMul, Nat.not_lt_zero, Nat.lt_irrefl, Nat.le_refl, Bool.false_eq_true, false_and, and_false, true_and, and_true, if_pos, if_neg, if_true, if_false, not_true_eq_false, not_false_eq_true, m0, x1, y1, r4, x2, y2, r5, x3, y3, r6, x4, y4, r7, x5, y5, r8, x6, y6, r9, g2]
      exact q
    rw [if_neg w1] at H
    by_cases w2 : w = nI 2
    · subst w2
      rw [if_pos rfl] at H
      have q := H _ (RM_fr hk hf)
      simp (disch := first | assumption | exact ct_i | exact ct_r | exact ct_n | exact ct_h | omega | exact z_in (by omega) (by omega) | exact b01 | exact Or.inl rfl | exact Or.inr rfl) only [e123_0, e123_1, e123_2, e123_5, e123_8, e123_10, e123_11, e123_12, e123_15, e123_16, e123_64, e123_65, e123_68, e123_69, e123_70, e123_71, e123_72, e123_75, e123_76, e123_77, e123_78, e123_79, e123_82, e123_83, e123_84, e123_85, e123_86, e123_89, e123_90, e123_91, e123_92, e123_93, e123_96, e123_97, e123_98, e123_99, e123_100, e123_101, e123_102, e123_105, e123_106, e123_107, e123_110, e123_113, e123_114, e123_117, e123_118, e123_119, e123_120, e123_121, e123_124, e123_125, e123_126, e123_129, e123_130, e123_131, e123_132, e123_134, ct_i, ct_r, ct_n, ct_h, opt_v, opt_s, ref_s, ref_n, eq_self_iff_true, true_or, or_true, zl0, zl1, zl2, zl3, zl4, zl5, zl6, zl7, zl8, zl9, zl10, zl16, zl32, zl40, zl100, zl160, zIc1, zI_lt, zI_le, nI_eq, nI_add, z_sub, nI_clamp, zI_of, uu_eq, uu_ne, Nat.reduceLT, Nat.reduceLeDiff, Nat.reduceEqDiff, Nat.reduceAdd, Nat.reduceSub, Nat.reduceMul, Nat.not_lt_zero, Nat.lt_irrefl, Nat.le_refl, Bool.false_eq_true, false_and, and_false, true_and, and_true, if_pos, if_neg, if_true, if_false, not_true_eq_false, not_false_eq_true, m0, x1, y1, r4, x2, y2, r5, x3, y3, r6, x4, y4, r7, x5, y5, r8, x6, y6, r9, g3]
      exact q
    rw [if_neg w2] at H
    by_cases w3 : w = nI 3
    · subst w3
      rw [if_pos rfl] at H
      have q := H _ (RM_fr hk hf)
      simp (disch := first | assumption | exact ct_i | exact ct_r | exact ct_n | exact ct_h | omega | exact z_in (by omega) (by omega) | exact b01 | exact Or.inl rfl | exact Or.inr rfl) only [e123_0, e123_1, e123_2, e123_5, e123_8, e123_10, e123_11, e123_12, e123_15, e123_16, e123_64, e123_65, e123_68, e123_69, e123_70, e123_71, e123_72, e123_75, e123_76, e123_77, e123_78, e123_79, e123_82, e123_83, e123_84, e123_85, e123_86, e123_89, e123_90, e123_91, e123_92, e123_93, e123_96, e123_97, e123_98, e123_99, e123_100, e123_101, e123_102, e123_105, e123_106, e123_107, e123_110, e123_113, e123_114, e123_117, e123_118, e123_119, e123_120, e123_121, e123_124, e123_125, e123_126, e123_129, e123_130, e123_131, e123_132, e123_134, ct_i, ct_r, ct_n, ct_h, opt_v, opt_s, ref_s, ref_n, eq_self_iff_true, true_or, or_true, zl0, zl1, zl2, zl3, zl4, zl5, zl6, zl7, zl8, zl9, zl10, zl16, zl32, zl40, zl100, zl160, zIc1, zI_lt, zI_le, nI_eq, nI_add, z_sub, nI_clamp, zI_of, uu_eq, uu_ne, Nat.reduceLT, Nat.reduceLeDiff, Nat.reduceEqDiff, Nat.reduceAdd, Nat.reduceSub, Nat.reduceMul, Nat.not_lt_zero, Nat.lt_irrefl, Nat.le_refl, Bool.false_eq_true, false_and, and_false, true_and, and_true, if_pos, if_neg, if_true, if_false, not_true_eq_false, not_false_eq_true, m0, x1, y1, r4, x2, y2, r5, x3, y3, r6, x4, y4, r7, x5, y5, r8, x6, y6, r9, g4]
      exact q
    rw [if_neg w3] at H
    by_cases w4 : w = nI 4
    · subst w4
      rw [if_pos rfl] at H
      have q := H _ (RM_fr hk hf)
      simp (disch := first | assumption | exact ct_i | exact ct_r | exact ct_n | exact ct_h | omega | exact z_in (by omega) (by omega) | exact b01 | exact Or.inl rfl | exact Or.inr rfl) only [e123_0, e123_1, e123_2, e123_5, e123_8, e123_10, e123_11, e123_12, e123_15, e123_16, e123_64, e123_65, e123_68, e123_69, e123_70, e123_71, e123_72, e123_75, e123_76, e123_77, e123_78, e123_79, e123_82, e123_83, e123_84, e123_85, e123_86, e123_89, e123_90, e123_91, e123_92, e123_93, e123_96, e123_97, e123_98, e123_99, e123_100, e123_101, e123_102, e123_105, e123_106, e123_107, e123_110, e123_113, e123_114, e123_117, e123_118, e123_119, e123_120, e123_121, e123_124, e123_125, e123_126, e123_129, e123_130, e123_131, e123_132, e123_134, ct_i, ct_r, ct_n, ct_h, opt_v, opt_s, ref_s, ref_n, eq_self_iff_true, true_or, or_true, zl0, zl1, zl2, zl3, zl4, zl5, zl6, zl7, zl8, zl9, zl10, zl16, zl32, zl40, zl100, zl160, zIc1, zI_lt, zI_le, nI_eq, nI_add, z_sub, nI_clamp, zI_of, uu_eq, uu_ne, Nat.reduceLT, Nat.reduceLeDiff, Nat.reduceEqDiff, Nat.reduceAdd, Nat.reduceSub, Nat.reduceMul, Nat.not_lt_zero, Nat.lt_irrefl, Nat.le_refl, Bool.false_eq_true, false_and, and_false, true_and, and_true, if_pos, if_neg, if_true, if_false, not_true_eq_false, not_false_eq_true, m0, x1, y1, r4, x2, y2, r5, x3, y3, r6, x4, y4, r7, x5, y5, r8, x6, y6, r9, g6]
      exact q
    rw [if_neg w4] at H
    by_cases w5 : w = nI 5
    · subst w5
      rw [if_pos rfl] at H
      simp (disch := first | assumption | exact ct_i | exact ct_r | exact ct_n | exact ct_h | omega | exact z_in (by omega) (by omega) | exact b01 | exact Or.inl rfl | exact Or.inr rfl) only [e123_0, e123_1, e123_2, e123_5, e123_8, e123_10, e123_11, e123_12, e123_15, e123_16, e123_64, e123_65, e123_68, e123_69, e123_70, e123_71, e123_72, e123_75, e123_76, e123_77, e123_78, e123_79, e123_82, e123_83, e123_84, e123_85, e123_86, e123_89, e123_90, e123_91, e123_92, e123_93, e123_96, e123_97, e123_98, e123_99, e123_100, e123_101, e123_102, e123_105, e123_106, e123_107, e123_110, e123_113, e123_114, e123_117, e123_118, e123_119, e123_120, e123_121, e123_124, e123_125, e123_126, e123_129, e123_130, e123_131, e123_132, e123_134, ct_i, ct_r, ct_n, ct_h, opt_v, opt_s, ref_s, ref_n, eq_self_iff_true, true_or, or_true, zl0, zl1, zl2, zl3, zl4, zl5, zl6, zl7, zl8, zl9, zl10, zl16, zl32, zl40, zl100, zl160, zIc1, zI_lt, zI_le, nI_eq, nI_add, z_sub, nI_clamp, zI_of, uu_eq, uu_ne, Nat.reduceLT, Nat.reduceLeDiff, Nat.reduceEqDiff, Nat.reduceAdd, Nat.reduceSub, Nat.reduceMul, Nat.not_lt_zero, Nat.lt_irrefl, Nat.le_refl, Bool.false_eq_true, false_and, and_false, true_and, and_true, if_pos, if_neg, if_true, if_false, not_true_eq_false, not_false_eq_true, m0, x1, y1, r4, x2, y2, r5, x3, y3, r6, x4, y4, r7, x5, y5, r8, x6, y6, r9, g2]
      refine k125 (by omega) hm1 hT o3.1 hi b0 (fun I2 hf2 => ?_)
      have q := H _ (RM_fr (RM_fr hk hf) (frW_M hf2))
      have eo : opS (Z 1) D (tx (Z 4)) (wrm (Z 2) (D i 0)) i = opn (tx (Z 4)) D i (stt (Z 2) i) (tno (Z 2)) (kst (Z 1) D (Z 2) i) (D i 0) := by
        unfold opS
        rw [stt_wrm hi4, tno_wrm, kst_wrm b2, rmo_wrm]
      rw [eo] at q
      by_cases ho : opn (tx (Z 4)) D i (stt (Z 2) i) (tno (Z 2)) (kst (Z 1) D (Z 2) i) (D i 0) = true
      · rw [if_pos ho] at q
        simp (disch := first | assumption | exact ct_i | exact ct_r | exact ct_n | exact ct_h | omega | exact z_in (by omega) (by omega) | exact b01 | exact Or.inl rfl | exact Or.inr rfl) only [e123_0, e123_1, e123_2, e123_5, e123_8, e123_10, e123_11, e123_12, e123_15, e123_16, e123_64, e123_65, e123_68, e123_69, e123_70, e123_71, e123_72, e123_75, e123_76, e123_77, e123_78, e123_79, e123_82, e123_83, e123_84, e123_85, e123_86, e123_89, e123_90, e123_91, e123_92, e123_93, e123_96, e123_97, e123_98, e123_99, e123_100, e123_101, e123_102, e123_105, e123_106, e123_107, e123_110, e123_113, e123_114, e123_117, e123_118, e123_119, e123_120, e123_121, e123_124, e123_125, e123_126, e123_129, e123_130, e123_131, e123_132, e123_134, ct_i, ct_r, ct_n, ct_h, opt_v, opt_s, ref_s, ref_n, eq_self_iff_true, true_or, or_true, zl0, zl1, zl2, zl3, zl4, zl5, zl6, zl7, zl8, zl9, zl10, zl16, zl32, zl40, zl100, zl160, zIc1, zI_lt, zI_le, nI_eq, nI_add, z_sub, nI_clamp, zI_of, uu_eq, uu_ne, Nat.reduceLT, Nat.reduceLeDiff, Nat.reduceEqDiff, Nat.reduceAdd, Nat.reduceSub, Nat.reduceMul, Nat.not_lt_zero, Nat.lt_irrefl, Nat.le_refl, Bool.false_eq_true, false_and, and_false, true_and, and_true, if_pos, if_neg, if_true, if_false, not_true_eq_false, not_false_eq_true, ho]
        exact q
      · rw [if_neg ho] at q
        simp (disch := first | assumption | exact ct_i | exact ct_r | exact ct_n | exact ct_h | omega | exact z_in (by omega) (by omega) | exact b01 | exact Or.inl rfl | exact Or.inr rfl) only [e123_0, e123_1, e123_2, e123_5, e123_8, e123_10, e123_11, e123_12, e123_15, e123_16, e123_64, e123_65, e123_68, e123_69, e123_70, e123_71, e123_72, e123_75, e123_76, e123_77, e123_78, e123_79, e123_82, e123_83, e123_84, e123_85, e123_86, e123_89, e123_90, e123_91, e123_92, e123_93, e123_96, e123_97, e123_98, e123_99, e123_100, e123_101, e123_102, e123_105, e123_106, e123_107, e123_110, e123_113, e123_114, e123_117, e123_118, e123_119, e123_120, e123_121, e123_124, e123_125, e123_126, e123_129, e123_130, e123_131, e123_132, e123_134, ct_i, ct_r, ct_n, ct_h, opt_v, opt_s, ref_s, ref_n, eq_self_iff_true, true_or, or_true, zl0, zl1, zl2, zl3, zl4, zl5, zl6, zl7, zl8, zl9, zl10, zl16, zl32, zl40, zl100, zl160, zIc1, zI_lt, zI_le, nI_eq, nI_add, z_sub, nI_clamp, zI_of, uu_eq, uu_ne, Nat.reduceLT, Nat.reduceLeDiff, Nat.reduceEqDiff, Nat.reduceAdd, Nat.reduceSub, Nat.reduceMul, Nat.not_lt_zero, Nat.lt_irrefl, Nat.le_refl, Bool.false_eq_true, false_and, and_false, true_and, and_true, if_pos, if_neg, if_true, if_false, not_true_eq_false, not_false_eq_true, ho]
        exact q
    rw [if_neg w5] at H
    by_cases w6 : w = nI 6
    · subst w6
      rw [if_pos rfl] at H
      have q := H _ (RM_fr hk hf)
      simp (disch := first | assumption | exact ct_i | exact ct_r | exact ct_n | exact ct_h | omega | exact z_in (by omega) (by omega) | exact b01 | exact Or.inl rfl | exact Or.inr rfl) only [e123_0, e123_1, e123_2, e123_5, e123_8, e123_10, e123_11, e123_12, e123_15, e123_16, e123_64, e123_65, e123_68, e123_69, e123_70, e123_71, e123_72, e123_75, e123_76, e123_77, e123_78, e123_79, e123_82, e123_83, e123_84, e123_85, e123_86, e123_89, e123_90, e123_91, e123_92, e123_93, e123_96, e123_97, e123_98, e123_99, e123_100, e123_101, e123_102, e123_105, e123_106, e123_107, e123_110, e123_113, e123_114, e123_117, e123_118, e123_119, e123_120, e123_121, e123_124, e123_125, e123_126, e123_129, e123_130, e123_131, e123_132, e123_134, ct_i, ct_r, ct_n, ct_h, opt_v, opt_s, ref_s, ref_n, eq_self_iff_true, true_or, or_true, zl0, zl1, zl2, zl3, zl4, zl5, zl6, zl7, zl8, zl9, zl10, zl16, zl32, zl40, zl100, zl160, zIc1, zI_lt, zI_le, nI_eq, nI_add, z_sub, nI_clamp, zI_of, uu_eq, uu_ne, Nat.reduceLT, Nat.reduceLeDiff, Nat.reduceEqDiff, Nat.reduceAdd, Nat.reduceSub, Nat.reduceMul, Nat.not_lt_zero, Nat.lt_irrefl, Nat.le_refl, Bool.false_eq_true, false_and, and_false, true_and, and_true, if_pos, if_neg, if_true, if_false, not_true_eq_false, not_false_eq_true, m0, k132 (show 1 ≤ d by omega) hM hn4 hB hT hi]
      exact q
    rw [if_neg w6] at H
    by_cases w7 : w = nI 7
    · subst w7
      rw [if_pos rfl] at H
      have q := H _ (RM_fr hk hf)
      simp (disch := first | assumption | exact ct_i | exact ct_r | exact ct_n | exact ct_h | omega | exact z_in (by omega) (by omega) | exact b01 | exact Or.inl rfl | exact Or.inr rfl) only [e123_0, e123_1, e123_2, e123_5, e123_8, e123_10, e123_11, e123_12, e123_15, e123_16, e123_64, e123_65, e123_68, e123_69, e123_70, e123_71, e123_72, e123_75, e123_76, e123_77, e123_78, e123_79, e123_82, e123_83, e123_84, e123_85, e123_86, e123_89, e123_90, e123_91, e123_92, e123_93, e123_96, e123_97, e123_98, e123_99, e123_100, e123_101, e123_102, e123_105, e123_106, e123_107, e123_110, e123_113, e123_114, e123_117, e123_118, e123_119, e123_120, e123_121, e123_124, e123_125, e123_126, e123_129, e123_130, e123_131, e123_132, e123_134, ct_i, ct_r, ct_n, ct_h, opt_v, opt_s, ref_s, ref_n, eq_self_iff_true, true_or, or_true, zl0, zl1, zl2, zl3, zl4, zl5, zl6, zl7, zl8, zl9, zl10, zl16, zl32, zl40, zl100, zl160, zIc1, zI_lt, zI_le, nI_eq, nI_add, z_sub, nI_clamp, zI_of, uu_eq, uu_ne, Nat.reduceLT, Nat.reduceLeDiff, Nat.reduceEqDiff, Nat.reduceAdd, Nat.reduceSub, Nat.reduceMul, Nat.not_lt_zero, Nat.lt_irrefl, Nat.le_refl, Bool.false_eq_true, false_and, and_false, true_and, and_true, if_pos, if_neg, if_true, if_false, not_true_eq_false, not_false_eq_true, m0, x1, y1, r4, x2, y2, r5, x3, y3, r6, x4, y4, r7, x5, y5, r8, x6, y6, r9, g5]
      exact q
    rw [if_neg w7] at H
    have q := H _ (RM_fr hk hf)
    simp (disch := first | assumption | exact ct_i | exact ct_r | exact ct_n | exact ct_h | omega | exact z_in (by omega) (by omega) | exact b01 | exact Or.inl rfl | exact Or.inr rfl) only [e123_0, e123_1, e123_2, e123_5, e123_8, e123_10, e123_11, e123_12, e123_15, e123_16, e123_64, e123_65, e123_68, e123_69, e123_70, e123_71, e123_72, e123_75, e123_76, e123_77, e123_78, e123_79, e123_82, e123_83, e123_84, e123_85, e123_86, e123_89, e123_90, e123_91, e123_92, e123_93, e123_96, e123_97, e123_98, e123_99, e123_100, e123_101, e123_102, e123_105, e123_106, e123_107, e123_110, e123_113, e123_114, e123_117, e123_118, e123_119, e123_120, e123_121, e123_124, e123_125, e123_126, e123_129, e123_130, e123_131, e123_132, e123_134, ct_i, ct_r, ct_n, ct_h, opt_v, opt_s, ref_s, ref_n, eq_self_iff_true, true_or, or_true, zl0, zl1, zl2, zl3, zl4, zl5, zl6, zl7, zl8, zl9, zl10, zl16, zl32, zl40, zl100, zl160, zIc1, zI_lt, zI_le, nI_eq, nI_add, z_sub, nI_clamp, zI_of, uu_eq, uu_ne, Nat.reduceLT, Nat.reduceLeDiff, Nat.reduceEqDiff, Nat.reduceAdd, Nat.reduceSub, Nat.reduceMul, Nat.not_lt_zero, Nat.lt_irrefl, Nat.le_refl, Bool.false_eq_true, false_and, and_false, true_and, and_true, if_true, if_false, not_true_eq_false, not_false_eq_true, if_neg w0, if_neg w1, if_neg w2, if_neg w3, if_neg w4, if_neg w5, if_neg w6, if_neg w7]
    exact q
theorem k156 (hd : 5 ≤ d) (hk : RM T0 Z D tx tp so sz it (n, t, sh, I, L, R)) (H : ∀ h', RM T0 Z D tx tp so sz it h' → Q (some (.int (welS Z tx))) h') : aC d 156 [.ref 0] (n, t, sh, I, L, R) Q := by
  obtain ⟨d, rfl⟩ : ∃ e, d = e + 1 := ⟨d - 1, by omega⟩
  have o3 := hk.1.2.2.1
  have m0 := mm_0 hk.2.2.1
  simp only [] at m0
  simp (disch := first | assumption | exact ct_i | exact ct_r | exact ct_n | exact ct_h | omega | exact z_in (by omega) (by omega) | exact b01 | exact Or.inl rfl | exact Or.inr rfl) only [b156, e156_0, e156_1, e156_4, e156_5, e156_8, e156_11, e156_12, e156_15, e156_16, ct_i, ct_r, ct_n, ct_h, opt_v, opt_s, ref_s, ref_n, eq_self_iff_true, true_or, or_true, m0]
  refine kAs (by omega) hk (fun I1 ee hf hT => ?_)
  have hk1 := RM_fr hk hf
  simp (disch := first | assumption | exact ct_i | exact ct_r | exact ct_n | exact ct_h | omega | exact z_in (by omega) (by omega) | exact b01 | exact Or.inl rfl | exact Or.inr rfl) only [e156_0, e156_1, e156_4, e156_5, e156_8, e156_11, e156_12, e156_15, e156_16, ct_i, ct_r, ct_n, ct_h, opt_v, opt_s, ref_s, ref_n, eq_self_iff_true, true_or, or_true, m0]
  refine k157 (by omega) (RM_B hk1) hT o3.1 o3.2 (fun I2 hf2 => ?_)
  have q := H _ (RM_fr hk1 (frW_M hf2))
  unfold welS at q
  by_cases hw : wl (tx (Z 4)) (Z 2) = true
  · rw [if_pos hw] at q
    simp (disch := first | assumption | exact ct_i | exact ct_r | exact ct_n | exact ct_h | omega | exact z_in (by omega) (by omega) | exact b01 | exact Or.inl rfl | exact Or.inr rfl) only [e156_0, e156_1, e156_4, e156_5, e156_8, e156_11, e156_12, e156_15, e156_16, ct_i, ct_r, ct_n, ct_h, opt_v, opt_s, ref_s, ref_n, eq_self_iff_true, true_or, or_true, zl0, zl1, zl2, zl3, zl4, zl5, zl6, zl7, zl8, zl9, zl10, zl16, zl32, zl40, zl100, zl160, zIc1, zI_lt, zI_le, nI_eq, nI_add, z_sub, nI_clamp, zI_of, uu_eq, uu_ne, Nat.reduceLT, Nat.reduceLeDiff, Nat.reduceEqDiff, Nat.reduceAdd, Nat.reduceSub, Nat.reduceMul, Nat.not_lt_zero, Nat.lt_irrefl, Nat.le_refl, Bool.false_eq_true, false_and, and_false, true_and, and_true, if_pos, if_neg, if_true, if_false, not_true_eq_false, not_false_eq_true, hw]
    exact q
  · rw [if_neg hw] at q
    simp (disch := first | assumption | exact ct_i | exact ct_r | exact ct_n | exact ct_h | omega | exact z_in (by omega) (by omega) | exact b01 | exact Or.inl rfl | exact Or.inr rfl) only [e156_0, e156_1, e156_4, e156_5, e156_8, e156_11, e156_12, e156_15, e156_16, ct_i, ct_r, ct_n, ct_h, opt_v, opt_s, ref_s, ref_n, eq_self_iff_true, true_or, or_true, zl0, zl1, zl2, zl3, zl4, zl5, zl6, zl7, zl8, zl9, zl10, zl16, zl32, zl40, zl100, zl160, zIc1, zI_lt, zI_le, nI_eq, nI_add, z_sub, nI_clamp, zI_of, uu_eq, uu_ne, Nat.reduceLT, Nat.reduceLeDiff, Nat.reduceEqDiff, Nat.reduceAdd, Nat.reduceSub, Nat.reduceMul, Nat.not_lt_zero, Nat.lt_irrefl, Nat.le_refl, Bool.false_eq_true, false_and, and_false, true_and, and_true, if_pos, if_neg, if_true, if_false, not_true_eq_false, not_false_eq_true, hw]
    exact q
theorem k187 (hd : 5 ≤ d) (hk : RM T0 Z D tx tp so sz it (n, t, sh, I, L, R)) {w : Int32} (H : ∀ h', RM T0 Z D tx tp so sz it h' → Q (some (.int (cntS Z w))) h') : aC d 187 [.ref 0, .int w] (n, t, sh, I, L, R) Q := by
  obtain ⟨d, rfl⟩ : ∃ e, d = e + 1 := ⟨d - 1, by omega⟩
  have o3 := hk.1.2.2.1
  obtain ⟨hM, hD, hn4, hB, hR⟩ := RM_B hk
  obtain ⟨_, _, _, _, m1, m2, m3, m4, m5, m6, m7⟩ := id hk
  simp only [] at m1 m2 m4 m5
  have m0 := mm_0 hM
  unfold cntS at H
  have e1 := m1.1
  obtain ⟨e2, e3, e4⟩ := m2
  have e5 := m4.1
  obtain ⟨e6, e7⟩ := m5
  have q := H _ hk
  by_cases w0 : w = nI 0
  · subst w0; rw [if_pos rfl] at q
    simp (disch := first | assumption | exact ct_i | exact ct_r | exact ct_n | exact ct_h | omega | exact z_in (by omega) (by omega) | exact b01 | exact Or.inl rfl | exact Or.inr rfl) only [b187, e187_0, e187_1, e187_48, e187_49, e187_52, e187_53, e187_54, e187_57, e187_58, e187_59, e187_62, e187_63, e187_64, e187_67, e187_68, e187_69, e187_72, e187_73, e187_74, e187_77, e187_78, e187_79, e187_82, e187_83, e187_84, e187_87, e187_88, e187_91, e187_92, e187_94, ct_i, ct_r, ct_n, ct_h, opt_v, opt_s, ref_s, ref_n, eq_self_iff_true, true_or, or_true, zl0, zl1, zl2, zl3, zl4, zl5, zl6, zl7, zl8, zl9, zl10, zl16, zl32, zl40, zl100, zl160, zIc1, zI_lt, zI_le, nI_eq, nI_add, z_sub, nI_clamp, zI_of, uu_eq, uu_ne, Nat.reduceLT, Nat.reduceLeDiff, Nat.reduceEqDiff, Nat.reduceAdd, Nat.reduceSub, Nat.reduceMul, Nat.not_lt_zero, Nat.lt_irrefl, Nat.le_refl, Bool.false_eq_true, false_and, and_false, true_and, and_true, if_pos, if_neg, if_true, if_false, not_true_eq_false, not_false_eq_true, m0, e2]; exact q
  rw [if_neg w0] at q H
  by_cases w1 : w = nI 1
  · subst w1; rw [if_pos rfl] at q
    simp (disch := first | assumption | exact ct_i | exact ct_r | exact ct_n | exact ct_h | omega | exact z_in (by omega) (by omega) | exact b01 | exact Or.inl rfl | exact Or.inr rfl) only [b187, e187_0, e187_1, e187_48, e187_49, e187_52, e187_53, e187_54, e187_57, e187_58, e187_59, e187_62, e187_63, e187_64, e187_67, e187_68, e187_69, e187_72, e187_73, e187_74, e187_77, e187_78, e187_79, e187_82, e187_83, e187_84, e187_87, e187_88, e187_91, e187_92, e187_94, ct_i, ct_r, ct_n, ct_h, opt_v, opt_s, ref_s, ref_n, eq_self_iff_true, true_or, or_true, zl0, zl1, zl2, zl3, zl4, zl5, zl6, zl7, zl8, zl9, zl10, zl16, zl32, zl40, zl100, zl160, zIc1, zI_lt, zI_le, nI_eq, nI_add, z_sub, nI_clamp, zI_of, uu_eq, uu_ne, Nat.reduceLT, Nat.reduceLeDiff, Nat.reduceEqDiff, Nat.reduceAdd, Nat.reduceSub, Nat.reduceMul, Nat.not_lt_zero, Nat.lt_irrefl, Nat.le_refl, Bool.false_eq_true, false_and, and_false, true_and, and_true, if_pos, if_neg, if_true, if_false, not_true_eq_false, not_false_eq_true, m0, e1]; exact q
  rw [if_neg w1] at q H
  by_cases w2 : w = nI 2
  · subst w2; rw [if_pos rfl] at q
    simp (disch := first | assumption | exact ct_i | exact ct_r | exact ct_n | exact ct_h | omega | exact z_in (by omega) (by omega) | exact b01 | exact Or.inl rfl | exact Or.inr rfl) only [b187, e187_0, e187_1, e187_48, e187_49, e187_52, e187_53, e187_54, e187_57, e187_58, e187_59, e187_62, e187_63, e187_64, e187_67, e187_68, e187_69, e187_72, e187_73, e187_74, e187_77, e187_78, e187_79, e187_82, e187_83, e187_84, e187_87, e187_88, e187_91, e187_92, e187_94, ct_i, ct_r, ct_n, ct_h, opt_v, opt_s, ref_s, ref_n, eq_self_iff_true, true_or, or_true, zl0, zl1, zl2, zl3, zl4, zl5, zl6, zl7, zl8, zl9, zl10, zl16, zl32, zl40, zl100, zl160, zIc1, zI_lt, zI_le, nI_eq, nI_add, z_sub, nI_clamp, zI_of, uu_eq, uu_ne, Nat.reduceLT, Nat.reduceLeDiff, Nat.reduceEqDiff, Nat.reduceAdd, Nat.reduceSub, Nat.reduceMul, Nat.not_lt_zero, Nat.lt_irrefl, Nat.le_refl, Bool.false_eq_true, false_and, and_false, true_and, and_true, if_pos, if_neg, if_true, if_false, not_true_eq_false, not_false_eq_true, m0, e3]; exact q
  rw [if_neg w2] at q H
  by_cases w3 : w = nI 3
  · subst w3; rw [if_pos rfl] at q
    simp (disch := first | assumption | exact ct_i | exact ct_r | exact ct_n | exact ct_h | omega | exact z_in (by omega) (by omega) | exact b01 | exact Or.inl rfl | exact Or.inr rfl) only [b187, e187_0, e187_1, e187_48, e187_49, e187_52, e187_53, e187_54, e187_57, e187_58, e187_59, e187_62, e187_63, e187_64, e187_67, e187_68, e187_69, e187_72, e187_73, e187_74, e187_77, e187_78, e187_79, e187_82, e187_83, e187_84, e187_87, e187_88, e187_91, e187_92, e187_94, ct_i, ct_r, ct_n, ct_h, opt_v, opt_s, ref_s, ref_n, eq_self_iff_true, true_or, or_true, zl0, zl1, zl2, zl3, zl4, zl5, zl6, zl7, zl8, zl9, zl10, zl16, zl32, zl40, zl100, zl160, zIc1, zI_lt, zI_le, nI_eq, nI_add, z_sub, nI_clamp, zI_of, uu_eq, uu_ne, Nat.reduceLT, Nat.reduceLeDiff, Nat.reduceEqDiff, Nat.reduceAdd, Nat.reduceSub, Nat.reduceMul, Nat.not_lt_zero, Nat.lt_irrefl, Nat.le_refl, Bool.false_eq_true, false_and, and_false, true_and, and_true, if_pos, if_neg, if_true, if_false, not_true_eq_false, not_false_eq_true, m0, e4]; exact q
  rw [if_neg w3] at q H
  by_cases w4 : w = nI 4
  · subst w4; rw [if_pos rfl] at q
    simp (disch := first | assumption | exact ct_i | exact ct_r | exact ct_n | exact ct_h | omega | exact z_in (by omega) (by omega) | exact b01 | exact Or.inl rfl | exact Or.inr rfl) only [b187, e187_0, e187_1, e187_48, e187_49, e187_52, e187_53, e187_54, e187_57, e187_58, e187_59, e187_62, e187_63, e187_64, e187_67, e187_68, e187_69, e187_72, e187_73, e187_74, e187_77, e187_78, e187_79, e187_82, e187_83, e187_84, e187_87, e187_88, e187_91, e187_92, e187_94, ct_i, ct_r, ct_n, ct_h, opt_v, opt_s, ref_s, ref_n, eq_self_iff_true, true_or, or_true, zl0, zl1, zl2, zl3, zl4, zl5, zl6, zl7, zl8, zl9, zl10, zl16, zl32, zl40, zl100, zl160, zIc1, zI_lt, zI_le, nI_eq, nI_add, z_sub, nI_clamp, zI_of, uu_eq, uu_ne, Nat.reduceLT, Nat.reduceLeDiff, Nat.reduceEqDiff, Nat.reduceAdd, Nat.reduceSub, Nat.reduceMul, Nat.not_lt_zero, Nat.lt_irrefl, Nat.le_refl, Bool.false_eq_true, false_and, and_false, true_and, and_true, if_pos, if_neg, if_true, if_false, not_true_eq_false, not_false_eq_true, m0, e6]; exact q
  rw [if_neg w4] at q H
  by_cases w5 : w = nI 5
  · subst w5; rw [if_pos rfl] at q
    simp (disch := first | assumption | exact ct_i | exact ct_r | exact ct_n | exact ct_h | omega | exact z_in (by omega) (by omega) | exact b01 | exact Or.inl rfl | exact Or.inr rfl) only [b187, e187_0, e187_1, e187_48, e187_49, e187_52, e187_53, e187_54, e187_57, e187_58, e187_59, e187_62, e187_63, e187_64, e187_67, e187_68, e187_69, e187_72, e187_73, e187_74, e187_77, e187_78, e187_79, e187_82, e187_83, e187_84, e187_87, e187_88, e187_91, e187_92, e187_94, ct_i, ct_r, ct_n, ct_h, opt_v, opt_s, ref_s, ref_n, eq_self_iff_true, true_or, or_true, zl0, zl1, zl2, zl3, zl4, zl5, zl6, zl7, zl8, zl9, zl10, zl16, zl32, zl40, zl100, zl160, zIc1, zI_lt, zI_le, nI_eq, nI_add, z_sub, nI_clamp, zI_of, uu_eq, uu_ne, Nat.reduceLT, Nat.reduceLeDiff, Nat.reduceEqDiff, Nat.reduceAdd, Nat.reduceSub, Nat.reduceMul, Nat.not_lt_zero, Nat.lt_irrefl, Nat.le_refl, Bool.false_eq_true, false_and, and_false, true_and, and_true, if_pos, if_neg, if_true, if_false, not_true_eq_false, not_false_eq_true, m0, e5]; exact q
  rw [if_neg w5] at q H
  by_cases w6 : w = nI 6
  · subst w6; rw [if_pos rfl] at q
    simp (disch := first | assumption | exact ct_i | exact ct_r | exact ct_n | exact ct_h | omega | exact z_in (by omega) (by omega) | exact b01 | exact Or.inl rfl | exact Or.inr rfl) only [b187, e187_0, e187_1, e187_48, e187_49, e187_52, e187_53, e187_54, e187_57, e187_58, e187_59, e187_62, e187_63, e187_64, e187_67, e187_68, e187_69, e187_72, e187_73, e187_74, e187_77, e187_78, e187_79, e187_82, e187_83, e187_84, e187_87, e187_88, e187_91, e187_92, e187_94, ct_i, ct_r, ct_n, ct_h, opt_v, opt_s, ref_s, ref_n, eq_self_iff_true, true_or, or_true, zl0, zl1, zl2, zl3, zl4, zl5, zl6, zl7, zl8, zl9, zl10, zl16, zl32, zl40, zl100, zl160, zIc1, zI_lt, zI_le, nI_eq, nI_add, z_sub, nI_clamp, zI_of, uu_eq, uu_ne, Nat.reduceLT, Nat.reduceLeDiff, Nat.reduceEqDiff, Nat.reduceAdd, Nat.reduceSub, Nat.reduceMul, Nat.not_lt_zero, Nat.lt_irrefl, Nat.le_refl, Bool.false_eq_true, false_and, and_false, true_and, and_true, if_pos, if_neg, if_true, if_false, not_true_eq_false, not_false_eq_true, m0, e7]; exact q
  rw [if_neg w6] at q H
  by_cases w7 : w = nI 7
  · subst w7; rw [if_pos rfl] at H
    simp (disch := first | assumption | exact ct_i | exact ct_r | exact ct_n | exact ct_h | omega | exact z_in (by omega) (by omega) | exact b01 | exact Or.inl rfl | exact Or.inr rfl) only [b187, e187_0, e187_1, e187_48, e187_49, e187_52, e187_53, e187_54, e187_57, e187_58, e187_59, e187_62, e187_63, e187_64, e187_67, e187_68, e187_69, e187_72, e187_73, e187_74, e187_77, e187_78, e187_79, e187_82, e187_83, e187_84, e187_87, e187_88, e187_91, e187_92, e187_94, ct_i, ct_r, ct_n, ct_h, opt_v, opt_s, ref_s, ref_n, eq_self_iff_true, true_or, or_true, zl0, zl1, zl2, zl3, zl4, zl5, zl6, zl7, zl8, zl9, zl10, zl16, zl32, zl40, zl100, zl160, zIc1, zI_lt, zI_le, nI_eq, nI_add, z_sub, nI_clamp, zI_of, uu_eq, uu_ne, Nat.reduceLT, Nat.reduceLeDiff, Nat.reduceEqDiff, Nat.reduceAdd, Nat.reduceSub, Nat.reduceMul, Nat.not_lt_zero, Nat.lt_irrefl, Nat.le_refl, Bool.false_eq_true, false_and, and_false, true_and, and_true, if_pos, if_neg, if_true, if_false, not_true_eq_false, not_false_eq_true, m0]
    refine kAs (by omega) hk (fun I1 ee hf hT => ?_)
    have hk1 := RM_fr hk hf
    have q := H _ hk1
    simp (disch := first | assumption | exact ct_i | exact ct_r | exact ct_n | exact ct_h | omega | exact z_in (by omega) (by omega) | exact b01 | exact Or.inl rfl | exact Or.inr rfl) only [e187_0, e187_1, e187_48, e187_49, e187_52, e187_53, e187_54, e187_57, e187_58, e187_59, e187_62, e187_63, e187_64, e187_67, e187_68, e187_69, e187_72, e187_73, e187_74, e187_77, e187_78, e187_79, e187_82, e187_83, e187_84, e187_87, e187_88, e187_91, e187_92, e187_94, ct_i, ct_r, ct_n, ct_h, opt_v, opt_s, ref_s, ref_n, eq_self_iff_true, true_or, or_true, m0, k129 (show 1 ≤ d by omega) hM (dM_fr hD hf) hn4 hT o3.2]
    exact q
  rw [if_neg w7] at q
  simp (disch := first | assumption | exact ct_i | exact ct_r | exact ct_n | exact ct_h | omega | exact z_in (by omega) (by omega) | exact b01 | exact Or.inl rfl | exact Or.inr rfl) only [b187, e187_0, e187_1, e187_48, e187_49, e187_52, e187_53, e187_54, e187_57, e187_58, e187_59, e187_62, e187_63, e187_64, e187_67, e187_68, e187_69, e187_72, e187_73, e187_74, e187_77, e187_78, e187_79, e187_82, e187_83, e187_84, e187_87, e187_88, e187_91, e187_92, e187_94, ct_i, ct_r, ct_n, ct_h, opt_v, opt_s, ref_s, ref_n, eq_self_iff_true, true_or, or_true, zl0, zl1, zl2, zl3, zl4, zl5, zl6, zl7, zl8, zl9, zl10, zl16, zl32, zl40, zl100, zl160, zIc1, zI_lt, zI_le, nI_eq, nI_add, z_sub, nI_clamp, zI_of, uu_eq, uu_ne, Nat.reduceLT, Nat.reduceLeDiff, Nat.reduceEqDiff, Nat.reduceAdd, Nat.reduceSub, Nat.reduceMul, Nat.not_lt_zero, Nat.lt_irrefl, Nat.le_refl, Bool.false_eq_true, false_and, and_false, true_and, and_true, if_true, if_false, not_true_eq_false, not_false_eq_true, if_neg w0, if_neg w1, if_neg w2, if_neg w3, if_neg w4, if_neg w5, if_neg w6, if_neg w7]
  exact q
end
