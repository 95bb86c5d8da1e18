/-! the model's calls: a door, feed -/
section
variable {T0 : Nat} {Z : Nat → Nat} {D : Nat → Nat → Nat} {tx : Nat → Nat → List Nat} {tp so sz : Nat → Nat} {it : Nat → Nat → Int32} {d : Nat} {n t : Nat} {sh : Nat → Nat × Nat} {I : Nat → Nat → Int32} {L : Nat → Nat → Int64} {R : Nat → Nat → Option Nat} {I' : Nat → Nat → Int32} {Q : Option Value → aH → Prop}
theorem okS_door (h : okS Z D tx tp so sz) (h4 : Z 1 < 4) {a0 a1 a2 a3 a4 : Nat} (b0 : a0 < 6) (b1 : a1 < 6) (b2 : a2 < 4) (b3 : a3 < 10) (b4 : a4 < 6) : okS (u1 Z 1 (Z 1 + 1)) (dN D (Z 1) a0 a1 a2 a3 a4) tx tp so sz := by
  obtain ⟨o1, ⟨o2, hB⟩, o3, o4, o5, o6, o7⟩ := h
  unfold okS
  simp (disch := omega) only [u1_ne, u1_eq]
  refine ⟨o1, ⟨by omega, fun i hi => ?_⟩, ⟨o3.1, fun i h1 h2 => o3.2 i (by omega) h2⟩, o4, o5, ?_, o7⟩
  · by_cases h : i = Z 1
    · subst h; simp (disch := omega) only [dN, uu_ne, uu_eq]; exact ⟨b0, b1, b2, b3, b4⟩
    · simp (disch := omega) only [dN, uu_ne]; exact hB i (by omega)
  · rcases o6 with h | ⟨q1, q2, q3, q4, q5⟩
    · exact Or.inl h
    · exact Or.inr ⟨q1, q2, by omega, q4, q5⟩
theorem okS_doo (h : okS Z D tx tp so sz) {x y z : Int32} : okS (dooS Z D x y z).2.1 (dooS Z D x y z).2.2 tx tp so sz := by
  unfold dooS
  cases hx : dec x 6 with
  | none => exact h
  | some kd =>
    cases hz : dec z 10 with
    | none => exact h
    | some nu =>
      obtain ⟨_, hkd⟩ := dec_some (by decide) hx
      obtain ⟨_, hnu⟩ := dec_some (by decide) hz
      simp only []
      have o1 := h.1
      split
      · exact h
      · split
        · rename_i hc
          split
          · exact okS_door h (by assumption) (by omega) (by omega) hc.2.2 hnu hkd
          · exact h
        · exact h
theorem k117 (hd : 3 ≤ d) (hk : RM T0 Z D tx tp so sz it (n, t, sh, I, L, R)) {x y z : Int32} (H : ∀ h', RMh T0 (dooS Z D x y z).2.1 (dooS Z D x y z).2.2 tx tp so sz it h' → Q (some (.int (dooS Z D x y z).1)) h') : aC d 117 [.ref 0, .int x, .int y, .int z] (n, t, sh, I, L, R) Q := by
  obtain ⟨d, rfl⟩ : ∃ e, d = e + 1 := ⟨d - 1, by omega⟩
  obtain ⟨hM, hD, hn4, hB, hR⟩ := RM_B hk
  have m0 := mm_0 hM; have x1 := mm_x1 hM; have y1 := mm_y1 hM; have r4 := mm_r4 hM; have x2 := mm_x2 hM; have y2 := mm_y2 hM; have r5 := mm_r5 hM; have x3 := mm_x3 hM; have y3 := mm_y3 hM; have r6 := mm_r6 hM; have x4 := mm_x4 hM; have y4 := mm_y4 hM; have r7 := mm_r7 hM; have x5 := mm_x5 hM; have y5 := mm_y5 hM; have r8 := mm_r8 hM; have x6 := mm_x6 hM; have y6 := mm_y6 hM; have r9 := mm_r9 hM
  obtain ⟨_, _, _, _, ⟨a1, a2⟩, ⟨b1, b2, b3⟩, c1, ⟨d1, d2⟩, ⟨e1, e2⟩, f1, ⟨g1, g2⟩, i1, j1⟩ := id hk
  simp only [] at a1 a2 b1 b2 b3 c1 d1 d2 e1 e2 f1 g1 g2 i1 j1
  obtain ⟨o1, ⟨o2, _⟩, o3, o4, o5, o6, o7⟩ := hk.1
  have l3 : (3 : Int64) = (nI 3).toInt64 := rfl
  have z100' := z100
  have z10' := z10
  unfold dooS at H
  cases hx : dec x 6 with
  | none =>
    simp only [hx] at H
    have q := H _ hk.2
    simp (disch := first | assumption | exact ct_i | exact ct_r | exact ct_n | exact ct_h | omega | exact z_in (by omega) (by omega) | exact b01 | exact Or.inl rfl | exact Or.inr rfl) only [b117, e117_0, e117_1, e117_2, e117_3, e117_6, e117_9, e117_12, e117_13, e117_16, e117_17, e117_18, e117_20, e117_21, e117_24, e117_27, e117_28, e117_29, e117_31, e117_32, e117_34, e117_35, e117_38, e117_41, e117_42, e117_44, e117_45, e117_46, e117_47, e117_50, e117_53, e117_56, e117_57, e117_58, e117_59, e117_62, e117_65, e117_68, e117_70, e117_71, e117_72, e117_75, e117_76, e117_79, e117_81, e117_82, e117_83, e117_86, e117_87, e117_90, e117_91, e117_92, e117_93, e117_96, e117_97, e117_100, e117_101, e117_103, e117_104, e117_105, e117_106, e117_109, e117_110, e117_113, e117_114, e117_116, e117_117, e117_119, e117_120, e117_121, e117_122, e117_125, e117_126, e117_129, e117_130, e117_132, e117_133, e117_134, e117_135, e117_138, e117_139, e117_142, e117_143, e117_144, e117_145, e117_148, e117_149, e117_152, e117_153, e117_154, e117_155, e117_156, e117_159, e117_160, e117_161, e117_164, e117_165, e117_168, e117_169, e117_170, ct_i, ct_r, ct_n, ct_h, opt_v, opt_s, ref_s, ref_n, eq_self_iff_true, true_or, or_true, zl0, zl1, zl2, zl3, zl4, zl5, zl6, zl7, zl8, zl9, zl10, zl16, zl32, zl40, zl100, zl160, zIc1, zI_lt, zI_le, nI_eq, nI_add, z_sub, nI_clamp, zI_of, uu_eq, uu_ne, Nat.reduceLT, Nat.reduceLeDiff, Nat.reduceEqDiff, Nat.reduceAdd, Nat.reduceSub, Nat.reduceMul, Nat.not_lt_zero, Nat.lt_irrefl, Nat.le_refl, Bool.false_eq_true, false_and, and_false, true_and, and_true, if_pos, if_neg, if_true, if_false, not_true_eq_false, not_false_eq_true, m0, ll0, ll5, k118 (show 1 ≤ d by omega), in_d6, hx, Option.isSome_none, Bool.false_eq_true, if_false]
    exact q
  | some kd =>
    obtain ⟨rfl, hkd⟩ := dec_some (by decide) hx
    by_cases hy : y < nI 0
    · have q : Q (some (.int (-nI 2))) (n, t, sh, I, L, R) := by
        revert H
        simp only [hx, hy, if_true]
        cases dec z 10 <;> exact fun H => H _ hk.2
      simp (disch := first | assumption | exact ct_i | exact ct_r | exact ct_n | exact ct_h | omega | exact z_in (by omega) (by omega) | exact b01 | exact Or.inl rfl | exact Or.inr rfl) only [b117, e117_0, e117_1, e117_2, e117_3, e117_6, e117_9, e117_12, e117_13, e117_16, e117_17, e117_18, e117_20, e117_21, e117_24, e117_27, e117_28, e117_29, e117_31, e117_32, e117_34, e117_35, e117_38, e117_41, e117_42, e117_44, e117_45, e117_46, e117_47, e117_50, e117_53, e117_56, e117_57, e117_58, e117_59, e117_62, e117_65, e117_68, e117_70, e117_71, e117_72, e117_75, e117_76, e117_79, e117_81, e117_82, e117_83, e117_86, e117_87, e117_90, e117_91, e117_92, e117_93, e117_96, e117_97, e117_100, e117_101, e117_103, e117_104, e117_105, e117_106, e117_109, e117_110, e117_113, e117_114, e117_116, e117_117, e117_119, e117_120, e117_121, e117_122, e117_125, e117_126, e117_129, e117_130, e117_132, e117_133, e117_134, e117_135, e117_138, e117_139, e117_142, e117_143, e117_144, e117_145, e117_148, e117_149, e117_152, e117_153, e117_154, e117_155, e117_156, e117_159, e117_160, e117_161, e117_164, e117_165, e117_168, e117_169, e117_170, ct_i, ct_r, ct_n, ct_h, opt_v, opt_s, ref_s, ref_n, eq_self_iff_true, true_or, or_true, zl0, zl1, zl2, zl3, zl4, zl5, zl6, zl7, zl8, zl9, zl10, zl16, zl32, zl40, zl100, zl160, zIc1, zI_lt, zI_le, nI_eq, nI_add, z_sub, nI_clamp, zI_of, uu_eq, uu_ne, Nat.reduceLT, Nat.reduceLeDiff, Nat.reduceEqDiff, Nat.reduceAdd, Nat.reduceSub, Nat.reduceMul, Nat.not_lt_zero, Nat.lt_irrefl, Nat.le_refl, Bool.false_eq_true, false_and, and_false, true_and, and_true, if_pos, if_neg, if_true, if_false, not_true_eq_false, not_false_eq_true, m0, ll0, ll5, k118 (show 1 ≤ d by omega), in_d6, hx, Option.isSome_some, if_true, hy]
      exact q
    · obtain ⟨w, hw, rfl⟩ := nI_of hy
      have w1 : w / 10 - w / 10 / 10 * 10 = w / 10 % 10 := by omega
      have w2 : w - w / 10 * 10 = w % 10 := by omega
      have kr := fun (r : Nat) Q => k119 (Q := Q) (n := n) (t := t) (L := L) (show 2 ≤ d by omega) hM b1 o1.2 (x := nI r)
      have dn : ∀ r, r < 2 ^ 31 → ¬ r < Z 0 → dec (nI r) (Z 0) = none := fun r h1 h2 => by
        unfold dec; rw [if_pos (Or.inr (by rw [zI_le (by omega) (by omega)]; omega))]
      have ds : ∀ r, r < Z 0 → dec (nI r) (Z 0) = some r := fun r h => dec_nI h (by omega)
      simp only [hx, if_neg hy, nI_clamp hw] at H
      by_cases ha : w / 100 < Z 0
      · by_cases hb : w / 10 % 10 < Z 0
        · by_cases hc : w % 10 < 4
          · have h3 : dec (nI (w % 10)) 4 = some (w % 10) := dec_nI hc (by omega)
            cases hz : dec z 10 with
            | none =>
              simp only [hz] at H
              have q := H _ hk.2
              simp (disch := first | assumption | exact ct_i | exact ct_r | exact ct_n | exact ct_h | omega | exact z_in (by omega) (by omega) | exact b01 | exact Or.inl rfl | exact Or.inr rfl) only [b117, e117_0, e117_1, e117_2, e117_3, e117_6, e117_9, e117_12, e117_13, e117_16, e117_17, e117_18, e117_20, e117_21, e117_24, e117_27, e117_28, e117_29, e117_31, e117_32, e117_34, e117_35, e117_38, e117_41, e117_42, e117_44, e117_45, e117_46, e117_47, e117_50, e117_53, e117_56, e117_57, e117_58, e117_59, e117_62, e117_65, e117_68, e117_70, e117_71, e117_72, e117_75, e117_76, e117_79, e117_81, e117_82, e117_83, e117_86, e117_87, e117_90, e117_91, e117_92, e117_93, e117_96, e117_97, e117_100, e117_101, e117_103, e117_104, e117_105, e117_106, e117_109, e117_110, e117_113, e117_114, e117_116, e117_117, e117_119, e117_120, e117_121, e117_122, e117_125, e117_126, e117_129, e117_130, e117_132, e117_133, e117_134, e117_135, e117_138, e117_139, e117_142, e117_143, e117_144, e117_145, e117_148, e117_149, e117_152, e117_153, e117_154, e117_155, e117_156, e117_159, e117_160, e117_161, e117_164, e117_165, e117_168, e117_169, e117_170, ct_i, ct_r, ct_n, ct_h, opt_v, opt_s, ref_s, ref_n, eq_self_iff_true, true_or, or_true, zl0, zl1, zl2, zl3, zl4, zl5, zl6, zl7, zl8, zl9, zl10, zl16, zl32, zl40, zl100, zl160, zIc1, zI_lt, zI_le, nI_eq, nI_add, z_sub, nI_clamp, zI_of, uu_eq, uu_ne, Nat.reduceLT, Nat.reduceLeDiff, Nat.reduceEqDiff, Nat.reduceAdd, Nat.reduceSub, Nat.reduceMul, Nat.not_lt_zero, Nat.lt_irrefl, Nat.le_refl, Bool.false_eq_true, false_and, and_false, true_and, and_true, if_pos, if_neg, if_true, if_false, not_true_eq_false, not_false_eq_true, m0, pk_div, zI_mul, w1, w2, ll0, ll5, l3, ll9, k118 (show 1 ≤ d by omega), in_d6, in_d4, in_d10, hx, hz, h3, kr, ds, ha, hb, Option.isSome_some, Option.isSome_none, Bool.false_eq_true]
              exact q
            | some nu =>
              obtain ⟨rfl, hnu⟩ := dec_some (by decide) hz
              simp only [hz] at H
              rw [if_pos ⟨ha, hb, hc⟩] at H
              by_cases h14 : Z 1 < 4
              · rw [if_pos h14] at H
                have h14' : ¬ Z 1 = 4 := by omega
                simp (disch := first | assumption | exact ct_i | exact ct_r | exact ct_n | exact ct_h | omega | exact z_in (by omega) (by omega) | exact b01 | exact Or.inl rfl | exact Or.inr rfl) only [b117, e117_0, e117_1, e117_2, e117_3, e117_6, e117_9, e117_12, e117_13, e117_16, e117_17, e117_18, e117_20, e117_21, e117_24, e117_27, e117_28, e117_29, e117_31, e117_32, e117_34, e117_35, e117_38, e117_41, e117_42, e117_44, e117_45, e117_46, e117_47, e117_50, e117_53, e117_56, e117_57, e117_58, e117_59, e117_62, e117_65, e117_68, e117_70, e117_71, e117_72, e117_75, e117_76, e117_79, e117_81, e117_82, e117_83, e117_86, e117_87, e117_90, e117_91, e117_92, e117_93, e117_96, e117_97, e117_100, e117_101, e117_103, e117_104, e117_105, e117_106, e117_109, e117_110, e117_113, e117_114, e117_116, e117_117, e117_119, e117_120, e117_121, e117_122, e117_125, e117_126, e117_129, e117_130, e117_132, e117_133, e117_134, e117_135, e117_138, e117_139, e117_142, e117_143, e117_144, e117_145, e117_148, e117_149, e117_152, e117_153, e117_154, e117_155, e117_156, e117_159, e117_160, e117_161, e117_164, e117_165, e117_168, e117_169, e117_170, ct_i, ct_r, ct_n, ct_h, opt_v, opt_s, ref_s, ref_n, eq_self_iff_true, true_or, or_true, zl0, zl1, zl2, zl3, zl4, zl5, zl6, zl7, zl8, zl9, zl10, zl16, zl32, zl40, zl100, zl160, zIc1, zI_lt, zI_le, nI_eq, nI_add, z_sub, nI_clamp, zI_of, uu_eq, uu_ne, Nat.reduceLT, Nat.reduceLeDiff, Nat.reduceEqDiff, Nat.reduceAdd, Nat.reduceSub, Nat.reduceMul, Nat.not_lt_zero, Nat.lt_irrefl, Nat.le_refl, Bool.false_eq_true, false_and, and_false, true_and, and_true, if_pos, if_neg, if_true, if_false, not_true_eq_false, not_false_eq_true, m0, x1, y1, r4, x2, y2, r5, x3, y3, r6, x4, y4, r7, x5, y5, r8, x6, y6, r9, a1, pk_div, zI_mul, w1, w2, ll0, ll5, l3, ll9, k118 (show 1 ≤ d by omega), in_d6, in_d4, in_d10, hx, hz, h3, kr, ds, ha, hb, Option.isSome_some, h14']
                refine H _ ⟨hk.2.1, hk.2.2.1, hk.2.2.2.1, ?_⟩
                have e : ∀ x k (J : Nat → Nat → Int32), (∀ x k, ¬ ((1 ≤ x ∧ x ≤ 6) ∧ k = Z 1 ∨ x = 0 ∧ k = 1) → J x k = I x k) → ¬ ((1 ≤ x ∧ x ≤ 6) ∧ k = Z 1 ∨ x = 0 ∧ k = 1) → J x k = I x k := fun x k J h g => h x k g
                unfold MI
                simp (disch := omega) only [u1_ne, u1_eq]
                refine ⟨⟨?_, fun d hd => ?_⟩, ⟨?_, ?_, ?_⟩, fun d hd => ?_, ⟨?_, fun k hk => ?_⟩, ⟨?_, ?_⟩, fun i hi => ?_, ⟨?_, fun hq => ?_⟩, fun j hj => ⟨?_, ?_, fun k hk => ?_⟩, fun j hj => ?_⟩
                all_goals try dsimp only
                · simp (disch := omega) only [uu_ne, uu_eq]
                · by_cases hdz : d = Z 1
                  · subst hdz
                    simp (disch := omega) only [uu_ne, uu_eq, dN]
                    exact ⟨trivial, trivial, trivial, trivial⟩
                  · simp (disch := omega) only [uu_ne, dN]; exact a2 d (by omega)
                · simp (disch := omega) only [uu_ne]; exact b1
                · simp (disch := omega) only [uu_ne]; exact b2
                · simp (disch := omega) only [uu_ne]; exact b3
                · by_cases hdz : d = Z 1
                  · subst hdz
                    simp (disch := omega) only [uu_ne, uu_eq, dN]
                    rw [o3.2 _ (Nat.le_refl _) h14]
                    exact ⟨trivial, rfl⟩
                  · simp (disch := omega) only [uu_ne, dN]; exact c1 d (by omega)
                · simp (disch := omega) only [uu_ne]; exact d1
                · simp (disch := omega) only [uu_ne]; exact d2 k hk
                · simp (disch := omega) only [uu_ne]; exact e1
                · simp (disch := omega) only [uu_ne]; exact e2
                · exact txM_fr (f1 i hi) (fun x k hx => by simp (disch := omega) only [uu_ne])
                · simp (disch := omega) only [uu_ne]; exact g1
                · obtain ⟨⟨q1, q2, q3, q4⟩, q5⟩ := g2 hq
                  simp (disch := omega) only [uu_ne]
                  exact ⟨⟨q1, q2, q3, q4⟩, q5⟩
                · simp (disch := omega) only [uu_ne]; exact (i1 j hj).1
                · simp (disch := omega) only [uu_ne]; exact (i1 j hj).2.1
                · simp (disch := omega) only [uu_ne]; exact (i1 j hj).2.2 k hk
                · simp (disch := omega) only [uu_ne]; exact j1 j hj
              · rw [if_neg h14] at H
                have q := H _ hk.2
                have h14' : Z 1 = 4 := by omega
                simp (disch := first | assumption | exact ct_i | exact ct_r | exact ct_n | exact ct_h | omega | exact z_in (by omega) (by omega) | exact b01 | exact Or.inl rfl | exact Or.inr rfl) only [b117, e117_0, e117_1, e117_2, e117_3, e117_6, e117_9, e117_12, e117_13, e117_16, e117_17, e117_18, e117_20, e117_21, e117_24, e117_27, e117_28, e117_29, e117_31, e117_32, e117_34, e117_35, e117_38, e117_41, e117_42, e117_44, e117_45, e117_46, e117_47, e117_50, e117_53, e117_56, e117_57, e117_58, e117_59, e117_62, e117_65, e117_68, e117_70, e117_71, e117_72, e117_75, e117_76, e117_79, e117_81, e117_82, e117_83, e117_86, e117_87, e117_90, e117_91, e117_92, e117_93, e117_96, e117_97, e117_100, e117_101, e117_103, e117_104, e117_105, e117_106, e117_109, e117_110, e117_113, e117_114, e117_116, e117_117, e117_119, e117_120, e117_121, e117_122, e117_125, e117_126, e117_129, e117_130, e117_132, e117_133, e117_134, e117_135, e117_138, e117_139, e117_142, e117_143, e117_144, e117_145, e117_148, e117_149, e117_152, e117_153, e117_154, e117_155, e117_156, e117_159, e117_160, e117_161, e117_164, e117_165, e117_168, e117_169, e117_170, ct_i, ct_r, ct_n, ct_h, opt_v, opt_s, ref_s, ref_n, eq_self_iff_true, true_or, or_true, zl0, zl1, zl2, zl3, zl4, zl5, zl6, zl7, zl8, zl9, zl10, zl16, zl32, zl40, zl100, zl160, zIc1, zI_lt, zI_le, nI_eq, nI_add, z_sub, nI_clamp, zI_of, uu_eq, uu_ne, Nat.reduceLT, Nat.reduceLeDiff, Nat.reduceEqDiff, Nat.reduceAdd, Nat.reduceSub, Nat.reduceMul, Nat.not_lt_zero, Nat.lt_irrefl, Nat.le_refl, Bool.false_eq_true, false_and, and_false, true_and, and_true, if_pos, if_neg, if_true, if_false, not_true_eq_false, not_false_eq_true, m0, x1, y1, r4, x2, y2, r5, x3, y3, r6, x4, y4, r7, x5, y5, r8, x6, y6, r9, a1, pk_div, zI_mul, w1, w2, ll0, ll5, l3, ll9, k118 (show 1 ≤ d by omega), in_d6, in_d4, in_d10, hx, hz, h3, kr, ds, ha, hb, Option.isSome_some, h14']
                exact q
          · have q : Q (some (.int (-nI 2))) (n, t, sh, I, L, R) := by
              revert H
              cases dec z 10
              · exact fun H => H _ hk.2
              · simp only []; rw [if_neg (fun h => hc h.2.2)]; exact fun H => H _ hk.2
            have h3 : dec (nI (w % 10)) 4 = none := by
              unfold dec; rw [if_pos (Or.inr (by rw [zI_le (by omega) (by omega)]; omega))]
            simp (disch := first | assumption | exact ct_i | exact ct_r | exact ct_n | exact ct_h | omega | exact z_in (by omega) (by omega) | exact b01 | exact Or.inl rfl | exact Or.inr rfl) only [b117, e117_0, e117_1, e117_2, e117_3, e117_6, e117_9, e117_12, e117_13, e117_16, e117_17, e117_18, e117_20, e117_21, e117_24, e117_27, e117_28, e117_29, e117_31, e117_32, e117_34, e117_35, e117_38, e117_41, e117_42, e117_44, e117_45, e117_46, e117_47, e117_50, e117_53, e117_56, e117_57, e117_58, e117_59, e117_62, e117_65, e117_68, e117_70, e117_71, e117_72, e117_75, e117_76, e117_79, e117_81, e117_82, e117_83, e117_86, e117_87, e117_90, e117_91, e117_92, e117_93, e117_96, e117_97, e117_100, e117_101, e117_103, e117_104, e117_105, e117_106, e117_109, e117_110, e117_113, e117_114, e117_116, e117_117, e117_119, e117_120, e117_121, e117_122, e117_125, e117_126, e117_129, e117_130, e117_132, e117_133, e117_134, e117_135, e117_138, e117_139, e117_142, e117_143, e117_144, e117_145, e117_148, e117_149, e117_152, e117_153, e117_154, e117_155, e117_156, e117_159, e117_160, e117_161, e117_164, e117_165, e117_168, e117_169, e117_170, ct_i, ct_r, ct_n, ct_h, opt_v, opt_s, ref_s, ref_n, eq_self_iff_true, true_or, or_true, zl0, zl1, zl2, zl3, zl4, zl5, zl6, zl7, zl8, zl9, zl10, zl16, zl32, zl40, zl100, zl160, zIc1, zI_lt, zI_le, nI_eq, nI_add, z_sub, nI_clamp, zI_of, uu_eq, uu_ne, Nat.reduceLT, Nat.reduceLeDiff, Nat.reduceEqDiff, Nat.reduceAdd, Nat.reduceSub, Nat.reduceMul, Nat.not_lt_zero, Nat.lt_irrefl, Nat.le_refl, Bool.false_eq_true, false_and, and_false, true_and, and_true, if_pos, if_neg, if_true, if_false, not_true_eq_false, not_false_eq_true, m0, pk_div, zI_mul, w1, w2, ll0, ll5, l3, ll9, k118 (show 1 ≤ d by omega), in_d6, in_d4, in_d10, hx, h3, kr, ds, ha, hb, Option.isSome_some, Option.isSome_none, Bool.false_eq_true]
            exact q
        · have q : Q (some (.int (-nI 2))) (n, t, sh, I, L, R) := by
            revert H
            cases dec z 10
            · exact fun H => H _ hk.2
            · simp only []; rw [if_neg (fun h => hb h.2.1)]; exact fun H => H _ hk.2
          have h3 := dn (w / 10 % 10) (by omega) hb
          simp (disch := first | assumption | exact ct_i | exact ct_r | exact ct_n | exact ct_h | omega | exact z_in (by omega) (by omega) | exact b01 | exact Or.inl rfl | exact Or.inr rfl) only [b117, e117_0, e117_1, e117_2, e117_3, e117_6, e117_9, e117_12, e117_13, e117_16, e117_17, e117_18, e117_20, e117_21, e117_24, e117_27, e117_28, e117_29, e117_31, e117_32, e117_34, e117_35, e117_38, e117_41, e117_42, e117_44, e117_45, e117_46, e117_47, e117_50, e117_53, e117_56, e117_57, e117_58, e117_59, e117_62, e117_65, e117_68, e117_70, e117_71, e117_72, e117_75, e117_76, e117_79, e117_81, e117_82, e117_83, e117_86, e117_87, e117_90, e117_91, e117_92, e117_93, e117_96, e117_97, e117_100, e117_101, e117_103, e117_104, e117_105, e117_106, e117_109, e117_110, e117_113, e117_114, e117_116, e117_117, e117_119, e117_120, e117_121, e117_122, e117_125, e117_126, e117_129, e117_130, e117_132, e117_133, e117_134, e117_135, e117_138, e117_139, e117_142, e117_143, e117_144, e117_145, e117_148, e117_149, e117_152, e117_153, e117_154, e117_155, e117_156, e117_159, e117_160, e117_161, e117_164, e117_165, e117_168, e117_169, e117_170, ct_i, ct_r, ct_n, ct_h, opt_v, opt_s, ref_s, ref_n, eq_self_iff_true, true_or, or_true, zl0, zl1, zl2, zl3, zl4, zl5, zl6, zl7, zl8, zl9, zl10, zl16, zl32, zl40, zl100, zl160, zIc1, zI_lt, zI_le, nI_eq, nI_add, z_sub, nI_clamp, zI_of, uu_eq, uu_ne, Nat.reduceLT, Nat.reduceLeDiff, Nat.reduceEqDiff, Nat.reduceAdd, Nat.reduceSub, Nat.reduceMul, Nat.not_lt_zero, Nat.lt_irrefl, Nat.le_refl, Bool.false_eq_true, false_and, and_false, true_and, and_true, if_pos, if_neg, if_true, if_false, not_true_eq_false, not_false_eq_true, m0, pk_div, zI_mul, w1, w2, ll0, ll5, l3, ll9, k118 (show 1 ≤ d by omega), in_d6, in_d4, in_d10, hx, h3, kr, ds, ha, Option.isSome_some, Option.isSome_none, Bool.false_eq_true]
          exact q
      · have q : Q (some (.int (-nI 2))) (n, t, sh, I, L, R) := by
          revert H
          cases dec z 10
          · exact fun H => H _ hk.2
          · simp only []; rw [if_neg (fun h => ha h.1)]; exact fun H => H _ hk.2
        have h3 := dn (w / 100) (by omega) ha
        simp (disch := first | assumption | exact ct_i | exact ct_r | exact ct_n | exact ct_h | omega | exact z_in (by omega) (by omega) | exact b01 | exact Or.inl rfl | exact Or.inr rfl) only [b117, e117_0, e117_1, e117_2, e117_3, e117_6, e117_9, e117_12, e117_13, e117_16, e117_17, e117_18, e117_20, e117_21, e117_24, e117_27, e117_28, e117_29, e117_31, e117_32, e117_34, e117_35, e117_38, e117_41, e117_42, e117_44, e117_45, e117_46, e117_47, e117_50, e117_53, e117_56, e117_57, e117_58, e117_59, e117_62, e117_65, e117_68, e117_70, e117_71, e117_72, e117_75, e117_76, e117_79, e117_81, e117_82, e117_83, e117_86, e117_87, e117_90, e117_91, e117_92, e117_93, e117_96, e117_97, e117_100, e117_101, e117_103, e117_104, e117_105, e117_106, e117_109, e117_110, e117_113, e117_114, e117_116, e117_117, e117_119, e117_120, e117_121, e117_122, e117_125, e117_126, e117_129, e117_130, e117_132, e117_133, e117_134, e117_135, e117_138, e117_139, e117_142, e117_143, e117_144, e117_145, e117_148, e117_149, e117_152, e117_153, e117_154, e117_155, e117_156, e117_159, e117_160, e117_161, e117_164, e117_165, e117_168, e117_169, e117_170, ct_i, ct_r, ct_n, ct_h, opt_v, opt_s, ref_s, ref_n, eq_self_iff_true, true_or, or_true, zl0, zl1, zl2, zl3, zl4, zl5, zl6, zl7, zl8, zl9, zl10, zl16, zl32, zl40, zl100, zl160, zIc1, zI_lt, zI_le, nI_eq, nI_add, z_sub, nI_clamp, zI_of, uu_eq, uu_ne, Nat.reduceLT, Nat.reduceLeDiff, Nat.reduceEqDiff, Nat.reduceAdd, Nat.reduceSub, Nat.reduceMul, Nat.not_lt_zero, Nat.lt_irrefl, Nat.le_refl, Bool.false_eq_true, false_and, and_false, true_and, and_true, if_pos, if_neg, if_true, if_false, not_true_eq_false, not_false_eq_true, m0, pk_div, zI_mul, w1, w2, ll0, ll5, l3, ll9, k118 (show 1 ≤ d by omega), in_d6, in_d4, in_d10, hx, h3, kr, Option.isSome_some, Option.isSome_none, Bool.false_eq_true]
        exact q
end
