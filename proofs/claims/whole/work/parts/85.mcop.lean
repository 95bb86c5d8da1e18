/-! the model's call: copy -/
theorem hsB_n {z : Nat} (hz : z ≤ 40) {x y : Int32} (hy : nI 0 ≤ y) (hx : nI 0 ≤ x) : (x ≤ nI z - y ↔ (hsB z x y).isSome = true) := by
  have e0 : (nI 0).toInt = 0 := by decide
  rw [Int32.le_iff_toInt_le, e0] at hx hy
  have hy2 := Int32.toInt_lt y
  have hx2 := Int32.toInt_lt x
  have hs : (nI z - y).toInt = (z : Int) - y.toInt := by
    rw [Int32.toInt_sub, nI_toInt (by omega)]
    rw [Int.bmod_eq_of_le] <;> omega
  have cx : (x.toNatClampNeg : Int) = x.toInt := by simp only [Int32.toNatClampNeg]; omega
  have cy : (y.toNatClampNeg : Int) = y.toInt := by simp only [Int32.toNatClampNeg]; omega
  unfold hsB
  rw [Int32.le_iff_toInt_le, hs]
  by_cases h : y < nI 0 ∨ x < nI 0 ∨ ¬ x.toNatClampNeg + y.toNatClampNeg ≤ z
  · rw [if_pos h]
    rw [Int32.lt_iff_toInt_lt, Int32.lt_iff_toInt_lt, e0] at h
    exact ⟨fun g => by omega, fun g => by cases g⟩
  · rw [if_neg h]
    rw [Int32.lt_iff_toInt_lt, Int32.lt_iff_toInt_lt, e0] at h
    exact ⟨fun _ => rfl, fun _ => by omega⟩
theorem hsB_neg {z : Nat} {x y : Int32} (h : ¬ nI 0 ≤ y ∨ ¬ nI 0 ≤ x) : hsB z x y = none := by
  unfold hsB
  rw [if_pos]
  rcases h with h | h
  · left; rw [Int32.le_iff_toInt_le] at h; rw [Int32.lt_iff_toInt_lt]; omega
  · right; left; rw [Int32.le_iff_toInt_le] at h; rw [Int32.lt_iff_toInt_lt]; omega
theorem hsB_so {z : Nat} {x y : Int32} (hz : z ≤ 40) {p : Nat × Nat} (h : hsB z x y = some p) : x = nI p.1 ∧ y = nI p.2 ∧ p.1 + p.2 ≤ z := by
  unfold hsB at h
  split at h
  · cases h
  · rename_i h1
    have e0 : (nI 0).toInt = 0 := by decide
    rw [Int32.lt_iff_toInt_lt, Int32.lt_iff_toInt_lt, e0] at h1
    injection h with h
    subst h
    have cx : (x.toNatClampNeg : Int) = x.toInt := by simp only [Int32.toNatClampNeg]; omega
    have cy : (y.toNatClampNeg : Int) = y.toInt := by simp only [Int32.toNatClampNeg]; omega
    refine ⟨Int32.toInt_inj.mp ?_, Int32.toInt_inj.mp ?_, by omega⟩
    · rw [nI_toInt (by omega)]; exact cx.symm
    · rw [nI_toInt (by omega)]; exact cy.symm
section
variable {T0 : Nat} {Z : Nat → Nat} {D : Nat → Nat → Nat} {tx : Nat → Nat → List Nat} {tp so sz : Nat → Nat} {it : Nat → Nat → Int32} {d : Nat} {n t : Nat} {sh : Nat → Nat × Nat} {I : Nat → Nat → Int32} {L : Nat → Nat → Int64} {R : Nat → Nat → Option Nat} {I' : Nat → Nat → Int32} {Q : Option Value → aH → Prop}
theorem k190a (hM : mK sh R) {a b p q m : Nat} (ha : a < 4) (hp : p + m ≤ 40) {I0 : Nat → Nat → Int32} {l6 : Value}
    (H : ∀ I', (∀ x k, ¬ x = 24 → I' x k = I0 x k) → (∀ k, k < m → I' 24 k = I0 23 (40 * a + p + k)) → aE (a_cl_ d) 190 (137, [.ref 0, .int (nI a), .int (nI p), .int (nI b), .int (nI q), .int (nI m), .int (nI m)], [], (n, t, sh, I', L, R)) Q) :
    ∀ c i I, i + c = m → (∀ x k, ¬ x = 24 → I x k = I0 x k) → (∀ k, k < i → I 24 k = I0 23 (40 * a + p + k)) →
    aE (a_cl_ d) 190 (103, [.ref 0, .int (nI a), .int (nI p), .int (nI b), .int (nI q), .int (nI m), .int (nI i)], [], (n, t, sh, I, L, R)) Q := by
  have m0 := mm_0 hM; have x23 := mm_x23 hM; have y23 := mm_y23 hM; have r46 := mm_r46 hM; have x24 := mm_x24 hM; have y24 := mm_y24 hM; have r47 := mm_r47 hM
  intro c
  induction c with
  | zero =>
    intro i I hi hf hc
    obtain rfl : i = m := by omega
    have g := H I hf hc
    rw [e190_103]
    simp (disch := first | assumption | exact ct_i | exact ct_r | exact ct_n | exact ct_h | omega | exact z_in (by omega) (by omega) | exact b01 | exact Or.inl rfl | exact Or.inr rfl) only [e190_0, e190_1, e190_4, e190_7, e190_8, e190_11, e190_14, e190_16, e190_17, e190_18, e190_21, e190_22, e190_23, e190_26, e190_27, e190_30, e190_31, e190_32, e190_35, e190_37, e190_38, e190_39, e190_42, e190_43, e190_44, e190_45, e190_48, e190_49, e190_50, e190_53, e190_55, e190_56, e190_58, e190_61, e190_62, e190_65, e190_67, e190_70, e190_71, e190_72, e190_75, e190_76, e190_77, e190_79, e190_80, e190_83, e190_85, e190_86, e190_89, e190_90, e190_91, e190_93, e190_94, e190_97, e190_99, e190_100, e190_101, e190_105, e190_107, e190_110, e190_111, e190_114, e190_116, e190_117, e190_120, e190_122, e190_123, e190_124, e190_125, e190_126, e190_128, e190_129, e190_130, e190_131, e190_134, e190_138, e190_140, e190_142, e190_144, e190_147, e190_148, e190_151, e190_153, e190_154, e190_155, e190_157, e190_158, e190_160, e190_161, e190_162, e190_165, e190_167, e190_168, e190_169, e190_172, e190_175, e190_177, ct_i, ct_r, ct_n, ct_h, opt_v, opt_s, ref_s, ref_n, eq_self_iff_true, true_or, or_true, zl0, zl1, zl2, zl3, zl4, zl5, zl6, zl7, zl8, zl9, zl10, zl16, zl32, zl40, zl100, zl160, zIc1, zI_lt, zI_le, nI_eq, nI_add, z_sub, nI_clamp, zI_of, uu_eq, uu_ne, Nat.reduceLT, Nat.reduceLeDiff, Nat.reduceEqDiff, Nat.reduceAdd, Nat.reduceSub, Nat.reduceMul, Nat.not_lt_zero, Nat.lt_irrefl, Nat.le_refl, Bool.false_eq_true, false_and, and_false, true_and, and_true, if_pos, if_neg, if_true, if_false, not_true_eq_false, not_false_eq_true, m0]
    exact g
  | succ c ih =>
    intro i I hi hf hc
    have hlt : i < m := by omega
    have hm40 : i < 40 := by omega
    have h160 : 40 * a + p + i < 160 := by omega
    rw [e190_103]
    simp (disch := first | assumption | exact ct_i | exact ct_r | exact ct_n | exact ct_h | omega | exact z_in (by omega) (by omega) | exact b01 | exact Or.inl rfl | exact Or.inr rfl) only [e190_0, e190_1, e190_4, e190_7, e190_8, e190_11, e190_14, e190_16, e190_17, e190_18, e190_21, e190_22, e190_23, e190_26, e190_27, e190_30, e190_31, e190_32, e190_35, e190_37, e190_38, e190_39, e190_42, e190_43, e190_44, e190_45, e190_48, e190_49, e190_50, e190_53, e190_55, e190_56, e190_58, e190_61, e190_62, e190_65, e190_67, e190_70, e190_71, e190_72, e190_75, e190_76, e190_77, e190_79, e190_80, e190_83, e190_85, e190_86, e190_89, e190_90, e190_91, e190_93, e190_94, e190_97, e190_99, e190_100, e190_101, e190_105, e190_107, e190_110, e190_111, e190_114, e190_116, e190_117, e190_120, e190_122, e190_123, e190_124, e190_125, e190_126, e190_128, e190_129, e190_130, e190_131, e190_134, e190_138, e190_140, e190_142, e190_144, e190_147, e190_148, e190_151, e190_153, e190_154, e190_155, e190_157, e190_158, e190_160, e190_161, e190_162, e190_165, e190_167, e190_168, e190_169, e190_172, e190_175, e190_177, ct_i, ct_r, ct_n, ct_h, opt_v, opt_s, ref_s, ref_n, eq_self_iff_true, true_or, or_true, zl0, zl1, zl2, zl3, zl4, zl5, zl6, zl7, zl8, zl9, zl10, zl16, zl32, zl40, zl100, zl160, zIc1, zI_lt, zI_le, nI_eq, nI_add, z_sub, nI_clamp, zI_of, uu_eq, uu_ne, Nat.reduceLT, Nat.reduceLeDiff, Nat.reduceEqDiff, Nat.reduceAdd, Nat.reduceSub, Nat.reduceMul, Nat.not_lt_zero, Nat.lt_irrefl, Nat.le_refl, Bool.false_eq_true, false_and, and_false, true_and, and_true, if_pos, if_neg, if_true, if_false, not_true_eq_false, not_false_eq_true, zI_mul, m0, x23, y23, r46, x24, y24, r47]
    refine ih (i + 1) _ (by omega) (fun x k hx => by rw [uu_ne _ _ _ _ (by omega)]; exact hf x k hx) (fun k hk => ?_)
    by_cases h : k = i
    · subst h; rw [uu_eq]; exact hf _ _ (by omega)
    · rw [uu_ne _ _ _ _ (by omega)]; exact hc k (by omega)
theorem k190b (hM : mK sh R) {a b p q m : Nat} (hb : b < 4) (hq : q + m ≤ 40) {I0 : Nat → Nat → Int32} {v : Nat → Int32} (hv : ∀ k, k < m → I0 24 k = v k)
    (H : ∀ I', (∀ x k, ¬ (x = 23 ∧ 40 * b + q ≤ k ∧ k < 40 * b + q + m) → I' x k = I0 x k) → (∀ k, k < m → I' 23 (40 * b + q + k) = v k) → Q (some (.int (nI m))) (n, t, sh, I', L, R)) :
    ∀ c i I, i + c = m → (∀ x k, ¬ (x = 23 ∧ 40 * b + q ≤ k ∧ k < 40 * b + q + m) → I x k = I0 x k) → (∀ k, k < i → I 23 (40 * b + q + k) = v k) →
    aE (a_cl_ d) 190 (140, [.ref 0, .int (nI a), .int (nI p), .int (nI b), .int (nI q), .int (nI m), .int (nI i)], [], (n, t, sh, I, L, R)) Q := by
  have m0 := mm_0 hM; have x23 := mm_x23 hM; have y23 := mm_y23 hM; have r46 := mm_r46 hM; have x24 := mm_x24 hM; have y24 := mm_y24 hM; have r47 := mm_r47 hM
  intro c
  induction c with
  | zero =>
    intro i I hi hf hc
    obtain rfl : i = m := by omega
    have g := H I hf hc
    rw [e190_140]
    simp (disch := first | assumption | exact ct_i | exact ct_r | exact ct_n | exact ct_h | omega | exact z_in (by omega) (by omega) | exact b01 | exact Or.inl rfl | exact Or.inr rfl) only [e190_0, e190_1, e190_4, e190_7, e190_8, e190_11, e190_14, e190_16, e190_17, e190_18, e190_21, e190_22, e190_23, e190_26, e190_27, e190_30, e190_31, e190_32, e190_35, e190_37, e190_38, e190_39, e190_42, e190_43, e190_44, e190_45, e190_48, e190_49, e190_50, e190_53, e190_55, e190_56, e190_58, e190_61, e190_62, e190_65, e190_67, e190_70, e190_71, e190_72, e190_75, e190_76, e190_77, e190_79, e190_80, e190_83, e190_85, e190_86, e190_89, e190_90, e190_91, e190_93, e190_94, e190_97, e190_99, e190_100, e190_101, e190_103, e190_105, e190_107, e190_110, e190_111, e190_114, e190_116, e190_117, e190_120, e190_122, e190_123, e190_124, e190_125, e190_126, e190_128, e190_129, e190_130, e190_131, e190_134, e190_137, e190_138, e190_142, e190_144, e190_147, e190_148, e190_151, e190_153, e190_154, e190_155, e190_157, e190_158, e190_160, e190_161, e190_162, e190_165, e190_167, e190_168, e190_169, e190_172, e190_175, e190_177, ct_i, ct_r, ct_n, ct_h, opt_v, opt_s, ref_s, ref_n, eq_self_iff_true, true_or, or_true, zl0, zl1, zl2, zl3, zl4, zl5, zl6, zl7, zl8, zl9, zl10, zl16, zl32, zl40, zl100, zl160, zIc1, zI_lt, zI_le, nI_eq, nI_add, z_sub, nI_clamp, zI_of, uu_eq, uu_ne, Nat.reduceLT, Nat.reduceLeDiff, Nat.reduceEqDiff, Nat.reduceAdd, Nat.reduceSub, Nat.reduceMul, Nat.not_lt_zero, Nat.lt_irrefl, Nat.le_refl, Bool.false_eq_true, false_and, and_false, true_and, and_true, if_pos, if_neg, if_true, if_false, not_true_eq_false, not_false_eq_true, m0]
    exact g
  | succ c ih =>
    intro i I hi hf hc
    have hlt : i < m := by omega
    have hm40 : i < 40 := by omega
    have h160 : 40 * b + q + i < 160 := by omega
    have g24 : I 24 i = v i := (hf _ _ (by omega)).trans (hv i hlt)
    rw [e190_140]
    simp (disch := first | assumption | exact ct_i | exact ct_r | exact ct_n | exact ct_h | omega | exact z_in (by omega) (by omega) | exact b01 | exact Or.inl rfl | exact Or.inr rfl) only [e190_0, e190_1, e190_4, e190_7, e190_8, e190_11, e190_14, e190_16, e190_17, e190_18, e190_21, e190_22, e190_23, e190_26, e190_27, e190_30, e190_31, e190_32, e190_35, e190_37, e190_38, e190_39, e190_42, e190_43, e190_44, e190_45, e190_48, e190_49, e190_50, e190_53, e190_55, e190_56, e190_58, e190_61, e190_62, e190_65, e190_67, e190_70, e190_71, e190_72, e190_75, e190_76, e190_77, e190_79, e190_80, e190_83, e190_85, e190_86, e190_89, e190_90, e190_91, e190_93, e190_94, e190_97, e190_99, e190_100, e190_101, e190_103, e190_105, e190_107, e190_110, e190_111, e190_114, e190_116, e190_117, e190_120, e190_122, e190_123, e190_124, e190_125, e190_126, e190_128, e190_129, e190_130, e190_131, e190_134, e190_137, e190_138, e190_142, e190_144, e190_147, e190_148, e190_151, e190_153, e190_154, e190_155, e190_157, e190_158, e190_160, e190_161, e190_162, e190_165, e190_167, e190_168, e190_169, e190_172, e190_177, ct_i, ct_r, ct_n, ct_h, opt_v, opt_s, ref_s, ref_n, eq_self_iff_true, true_or, or_true, zl0, zl1, zl2, zl3, zl4, zl5, zl6, zl7, zl8, zl9, zl10, zl16, zl32, zl40, zl100, zl160, zIc1, zI_lt, zI_le, nI_eq, nI_add, z_sub, nI_clamp, zI_of, uu_eq, uu_ne, Nat.reduceLT, Nat.reduceLeDiff, Nat.reduceEqDiff, Nat.reduceAdd, Nat.reduceSub, Nat.reduceMul, Nat.not_lt_zero, Nat.lt_irrefl, Nat.le_refl, Bool.false_eq_true, false_and, and_false, true_and, and_true, if_pos, if_neg, if_true, if_false, not_true_eq_false, not_false_eq_true, zI_mul, m0, x23, y23, r46, x24, y24, r47, g24]
    refine ih (i + 1) _ (by omega) (fun x k hx => by rw [uu_ne _ _ _ _ (by omega)]; exact hf x k hx) (fun k hk => ?_)
    by_cases h : k = i
    · subst h; rw [uu_eq]
    · rw [uu_ne _ _ _ _ (by omega)]; exact hc k (by omega)
theorem k190 (hd : 3 ≤ d) (hk : RM T0 Z D tx tp so sz it (n, t, sh, I, L, R)) {x i y j m : Int32} (H : ∀ h', RMh T0 Z D tx tp so sz (copS so sz it x i y j m).2 h' → Q (some (.int (copS so sz it x i y j m).1)) h') : aC d 190 [.ref 0, .int x, .int i, .int y, .int j, .int m] (n, t, sh, I, L, R) Q := by
  obtain ⟨d, rfl⟩ : ∃ e, d = e + 1 := ⟨d - 1, by omega⟩
  have hM := hk.2.2.1
  simp only [] at hM
  have m0 := mm_0 hM; have x21 := mm_x21 hM; have y21 := mm_y21 hM; have r44 := mm_r44 hM; have x22 := mm_x22 hM; have y22 := mm_y22 hM; have r45 := mm_r45 hM
  have o7 := hk.1.2.2.2.2.2.2
  have e1 := fun Q => k175 (Q := Q) (n := n) (t := t) (sh := sh) (I := I) (L := L) (R := R) (show 2 ≤ d by omega) (x := x)
  have e2 := fun Q => k175 (Q := Q) (n := n) (t := t) (sh := sh) (I := I) (L := L) (R := R) (show 2 ≤ d by omega) (x := y)
  unfold copS at H
  cases hx : dec x 4 with
  | none =>
    simp only [hx] at H
    have q := H _ hk.2
    simp only [hx, Option.isSome_none, Bool.false_eq_true, if_false] at e1
    simp (disch := first | assumption | exact ct_i | exact ct_r | exact ct_n | exact ct_h | omega | exact z_in (by omega) (by omega) | exact b01 | exact Or.inl rfl | exact Or.inr rfl) only [b190, e190_0, e190_1, e190_4, e190_7, e190_8, e190_11, e190_14, e190_16, e190_17, e190_18, e190_21, e190_22, e190_23, e190_26, e190_27, e190_30, e190_31, e190_32, e190_35, e190_37, e190_38, e190_39, e190_42, e190_43, e190_44, e190_45, e190_48, e190_49, e190_50, e190_53, e190_55, e190_56, e190_58, e190_61, e190_62, e190_65, e190_67, e190_70, e190_71, e190_72, e190_75, e190_76, e190_77, e190_79, e190_80, e190_83, e190_85, e190_86, e190_89, e190_90, e190_91, e190_93, e190_94, e190_97, e190_99, e190_100, e190_101, e190_105, e190_107, e190_110, e190_111, e190_114, e190_116, e190_117, e190_120, e190_122, e190_123, e190_124, e190_125, e190_126, e190_128, e190_129, e190_130, e190_131, e190_134, e190_137, e190_138, e190_142, e190_144, e190_147, e190_148, e190_151, e190_153, e190_154, e190_155, e190_157, e190_158, e190_160, e190_161, e190_162, e190_165, e190_167, e190_168, e190_169, e190_172, e190_175, e190_177, ct_i, ct_r, ct_n, ct_h, opt_v, opt_s, ref_s, ref_n, eq_self_iff_true, true_or, or_true, zl0, zl1, zl2, zl3, zl4, zl5, zl6, zl7, zl8, zl9, zl10, zl16, zl32, zl40, zl100, zl160, zIc1, zI_lt, zI_le, nI_eq, nI_add, z_sub, nI_clamp, zI_of, uu_eq, uu_ne, Nat.reduceLT, Nat.reduceLeDiff, Nat.reduceEqDiff, Nat.reduceAdd, Nat.reduceSub, Nat.reduceMul, Nat.not_lt_zero, Nat.lt_irrefl, Nat.le_refl, Bool.false_eq_true, false_and, and_false, true_and, and_true, if_pos, if_neg, if_true, if_false, not_true_eq_false, not_false_eq_true, m0, e1]
    exact q
  | some a =>
    obtain ⟨rfl, ha⟩ := dec_some (by omega) hx
    simp only [hx] at H
    simp only [hx, Option.isSome_some, if_true] at e1
    cases hy : dec y 4 with
    | none =>
      simp only [hy] at H
      have q := H _ hk.2
      simp only [hy, Option.isSome_none, Bool.false_eq_true, if_false] at e2
      simp (disch := first | assumption | exact ct_i | exact ct_r | exact ct_n | exact ct_h | omega | exact z_in (by omega) (by omega) | exact b01 | exact Or.inl rfl | exact Or.inr rfl) only [b190, e190_0, e190_1, e190_4, e190_7, e190_8, e190_11, e190_14, e190_16, e190_17, e190_18, e190_21, e190_22, e190_23, e190_26, e190_27, e190_30, e190_31, e190_32, e190_35, e190_37, e190_38, e190_39, e190_42, e190_43, e190_44, e190_45, e190_48, e190_49, e190_50, e190_53, e190_55, e190_56, e190_58, e190_61, e190_62, e190_65, e190_67, e190_70, e190_71, e190_72, e190_75, e190_76, e190_77, e190_79, e190_80, e190_83, e190_85, e190_86, e190_89, e190_90, e190_91, e190_93, e190_94, e190_97, e190_99, e190_100, e190_101, e190_105, e190_107, e190_110, e190_111, e190_114, e190_116, e190_117, e190_120, e190_122, e190_123, e190_124, e190_125, e190_126, e190_128, e190_129, e190_130, e190_131, e190_134, e190_137, e190_138, e190_142, e190_144, e190_147, e190_148, e190_151, e190_153, e190_154, e190_155, e190_157, e190_158, e190_160, e190_161, e190_162, e190_165, e190_167, e190_168, e190_169, e190_172, e190_175, e190_177, ct_i, ct_r, ct_n, ct_h, opt_v, opt_s, ref_s, ref_n, eq_self_iff_true, true_or, or_true, zl0, zl1, zl2, zl3, zl4, zl5, zl6, zl7, zl8, zl9, zl10, zl16, zl32, zl40, zl100, zl160, zIc1, zI_lt, zI_le, nI_eq, nI_add, z_sub, nI_clamp, zI_of, uu_eq, uu_ne, Nat.reduceLT, Nat.reduceLeDiff, Nat.reduceEqDiff, Nat.reduceAdd, Nat.reduceSub, Nat.reduceMul, Nat.not_lt_zero, Nat.lt_irrefl, Nat.le_refl, Bool.false_eq_true, false_and, and_false, true_and, and_true, if_pos, if_neg, if_true, if_false, not_true_eq_false, not_false_eq_true, m0, e1, e2]
      exact q
    | some b =>
      obtain ⟨rfl, hb⟩ := dec_some (by omega) hy
      simp only [hy] at H
      simp only [hy, Option.isSome_some, if_true] at e2
      obtain ⟨s21, s22, s23⟩ := hk.2.2.2.2.2.2.2.2.2.2.2.1 a ha
      obtain ⟨t21, t22, t23⟩ := hk.2.2.2.2.2.2.2.2.2.2.2.1 b hb
      simp only [] at s21 s22 s23 t21 t22 t23
      obtain ⟨p1, p2, p3⟩ := o7 a ha
      obtain ⟨q1, q2, q3⟩ := o7 b hb
      have hneg : -nI 1 < nI 0 := by decide
      have hneg2 : ¬ nI 0 ≤ -nI 1 := by decide
      by_cases ha0 : so a = 0
      · rw [if_pos (Or.inl ha0)] at H
        have q := H _ hk.2
        have g : I 21 a = -nI 1 := by rw [s21, ha0]; rfl
        simp (disch := first | assumption | exact ct_i | exact ct_r | exact ct_n | exact ct_h | omega | exact z_in (by omega) (by omega) | exact b01 | exact Or.inl rfl | exact Or.inr rfl) only [b190, e190_0, e190_1, e190_4, e190_7, e190_8, e190_11, e190_14, e190_16, e190_17, e190_18, e190_21, e190_22, e190_23, e190_26, e190_27, e190_30, e190_31, e190_32, e190_35, e190_37, e190_38, e190_39, e190_42, e190_43, e190_44, e190_45, e190_48, e190_49, e190_50, e190_53, e190_55, e190_56, e190_58, e190_61, e190_62, e190_65, e190_67, e190_70, e190_71, e190_72, e190_75, e190_76, e190_77, e190_79, e190_80, e190_83, e190_85, e190_86, e190_89, e190_90, e190_91, e190_93, e190_94, e190_97, e190_99, e190_100, e190_101, e190_105, e190_107, e190_110, e190_111, e190_114, e190_116, e190_117, e190_120, e190_122, e190_123, e190_124, e190_125, e190_126, e190_128, e190_129, e190_130, e190_131, e190_134, e190_137, e190_138, e190_142, e190_144, e190_147, e190_148, e190_151, e190_153, e190_154, e190_155, e190_157, e190_158, e190_160, e190_161, e190_162, e190_165, e190_167, e190_168, e190_169, e190_172, e190_175, e190_177, ct_i, ct_r, ct_n, ct_h, opt_v, opt_s, ref_s, ref_n, eq_self_iff_true, true_or, or_true, zl0, zl1, zl2, zl3, zl4, zl5, zl6, zl7, zl8, zl9, zl10, zl16, zl32, zl40, zl100, zl160, zIc1, zI_lt, zI_le, nI_eq, nI_add, z_sub, nI_clamp, zI_of, uu_eq, uu_ne, Nat.reduceLT, Nat.reduceLeDiff, Nat.reduceEqDiff, Nat.reduceAdd, Nat.reduceSub, Nat.reduceMul, Nat.not_lt_zero, Nat.lt_irrefl, Nat.le_refl, Bool.false_eq_true, false_and, and_false, true_and, and_true, if_pos, if_neg, if_true, if_false, not_true_eq_false, not_false_eq_true, m0, x21, y21, r44, e1, e2, g, hneg]
        exact q
      · obtain ⟨ca, hca⟩ : ∃ c, so a = c + 1 := ⟨so a - 1, by omega⟩
        have ga : I 21 a = nI ca := by rw [s21, hca]; rfl
        have hca4 : ca < 4 := by omega
        by_cases hb0 : so b = 0
        · rw [if_pos (Or.inr hb0)] at H
          have q := H _ hk.2
          have g : I 21 b = -nI 1 := by rw [t21, hb0]; rfl
          simp (disch := first | assumption | exact ct_i | exact ct_r | exact ct_n | exact ct_h | omega | exact z_in (by omega) (by omega) | exact b01 | exact Or.inl rfl | exact Or.inr rfl) only [b190, e190_0, e190_1, e190_4, e190_7, e190_8, e190_11, e190_14, e190_16, e190_17, e190_18, e190_21, e190_22, e190_23, e190_26, e190_27, e190_30, e190_31, e190_32, e190_35, e190_37, e190_38, e190_39, e190_42, e190_43, e190_44, e190_45, e190_48, e190_49, e190_50, e190_53, e190_55, e190_56, e190_58, e190_61, e190_62, e190_65, e190_67, e190_70, e190_71, e190_72, e190_75, e190_76, e190_77, e190_79, e190_80, e190_83, e190_85, e190_86, e190_89, e190_90, e190_91, e190_93, e190_94, e190_97, e190_99, e190_100, e190_101, e190_105, e190_107, e190_110, e190_111, e190_114, e190_116, e190_117, e190_120, e190_122, e190_123, e190_124, e190_125, e190_126, e190_128, e190_129, e190_130, e190_131, e190_134, e190_137, e190_138, e190_142, e190_144, e190_147, e190_148, e190_151, e190_153, e190_154, e190_155, e190_157, e190_158, e190_160, e190_161, e190_162, e190_165, e190_167, e190_168, e190_169, e190_172, e190_175, e190_177, ct_i, ct_r, ct_n, ct_h, opt_v, opt_s, ref_s, ref_n, eq_self_iff_true, true_or, or_true, zl0, zl1, zl2, zl3, zl4, zl5, zl6, zl7, zl8, zl9, zl10, zl16, zl32, zl40, zl100, zl160, zIc1, zI_lt, zI_le, nI_eq, nI_add, z_sub, nI_clamp, zI_of, uu_eq, uu_ne, Nat.reduceLT, Nat.reduceLeDiff, Nat.reduceEqDiff, Nat.reduceAdd, Nat.reduceSub, Nat.reduceMul, Nat.not_lt_zero, Nat.lt_irrefl, Nat.le_refl, Bool.false_eq_true, false_and, and_false, true_and, and_true, if_pos, if_neg, if_true, if_false, not_true_eq_false, not_false_eq_true, m0, x21, y21, r44, e1, e2, ga, g, hneg2]
          exact q
        · obtain ⟨cb, hcb⟩ : ∃ c, so b = c + 1 := ⟨so b - 1, by omega⟩
          have gb : I 21 b = nI cb := by rw [t21, hcb]; rfl
          have hcb4 : cb < 4 := by omega
          rw [if_neg (fun h => h.elim ha0 hb0)] at H
          by_cases hab : so a = so b
          · rw [if_pos hab] at H
            have hc2 : ca = cb := by omega
            subst hc2
            by_cases hm0 : nI 0 ≤ m
            · by_cases hi0 : nI 0 ≤ i
              · by_cases hj0 : nI 0 ≤ j
                · have nm : ¬ m < nI 0 := fun h => by rw [Int32.le_iff_toInt_le] at hm0; rw [Int32.lt_iff_toInt_lt] at h; omega
                  have ni : ¬ i < nI 0 := fun h => by rw [Int32.le_iff_toInt_le] at hi0; rw [Int32.lt_iff_toInt_lt] at h; omega
                  have nj : ¬ j < nI 0 := fun h => by rw [Int32.le_iff_toInt_le] at hj0; rw [Int32.lt_iff_toInt_lt] at h; omega
                  have wa := hsB_n p2 hm0 hi0
                  have wb := hsB_n q2 hm0 hj0
                  have lea : (nI (sz a) - m < i) ↔ ¬ i ≤ nI (sz a) - m := by rw [Int32.le_iff_toInt_le, Int32.lt_iff_toInt_lt]; omega
                  cases ea : hsB (sz a) i m with
                  | none =>
                    simp only [ea] at H
                    have q := H _ hk.2
                    rw [ea] at wa
                    have l1 : nI (sz a) - m < i := lea.mpr (fun h => by have := wa.mp h; cases this)
                    simp (disch := first | assumption | exact ct_i | exact ct_r | exact ct_n | exact ct_h | omega | exact z_in (by omega) (by omega) | exact b01 | exact Or.inl rfl | exact Or.inr rfl) only [b190, e190_0, e190_1, e190_4, e190_7, e190_8, e190_11, e190_14, e190_16, e190_17, e190_18, e190_21, e190_22, e190_23, e190_26, e190_27, e190_30, e190_31, e190_32, e190_35, e190_37, e190_38, e190_39, e190_42, e190_43, e190_44, e190_45, e190_48, e190_49, e190_50, e190_53, e190_55, e190_56, e190_58, e190_61, e190_62, e190_65, e190_67, e190_70, e190_71, e190_72, e190_75, e190_76, e190_77, e190_79, e190_80, e190_83, e190_85, e190_86, e190_89, e190_90, e190_91, e190_93, e190_94, e190_97, e190_99, e190_100, e190_101, e190_105, e190_107, e190_110, e190_111, e190_114, e190_116, e190_117, e190_120, e190_122, e190_123, e190_124, e190_125, e190_126, e190_128, e190_129, e190_130, e190_131, e190_134, e190_137, e190_138, e190_142, e190_144, e190_147, e190_148, e190_151, e190_153, e190_154, e190_155, e190_157, e190_158, e190_160, e190_161, e190_162, e190_165, e190_167, e190_168, e190_169, e190_172, e190_175, e190_177, ct_i, ct_r, ct_n, ct_h, opt_v, opt_s, ref_s, ref_n, eq_self_iff_true, true_or, or_true, zl0, zl1, zl2, zl3, zl4, zl5, zl6, zl7, zl8, zl9, zl10, zl16, zl32, zl40, zl100, zl160, zIc1, zI_lt, zI_le, nI_eq, nI_add, z_sub, nI_clamp, zI_of, uu_eq, uu_ne, Nat.reduceLT, Nat.reduceLeDiff, Nat.reduceEqDiff, Nat.reduceAdd, Nat.reduceSub, Nat.reduceMul, Nat.not_lt_zero, Nat.lt_irrefl, Nat.le_refl, Bool.false_eq_true, false_and, and_false, true_and, and_true, if_true, if_false, not_true_eq_false, not_false_eq_true, m0, x21, y21, r44, x22, y22, r45, e1, e2, ga, gb, zI_le, zI_lt, if_neg nm, if_neg ni, if_neg nj, s22, t22, if_pos l1, Nat.not_lt_zero, Nat.zero_le, if_true, if_false, if_neg (show ¬ nI 1 = nI 0 by decide), not_false_eq_true]
                    exact q
                  | some pa =>
                    rw [ea] at wa
                    have l1 : ¬ nI (sz a) - m < i := fun h => lea.mp h (wa.mpr rfl)
                    cases eb : hsB (sz b) j m with
                    | none =>
                      simp only [ea, eb] at H
                      have q := H _ hk.2
                      rw [eb] at wb
                      have l2 : ¬ j ≤ nI (sz b) - m := fun h => by have := wb.mp h; cases this
                      simp (disch := first | assumption | exact ct_i | exact ct_r | exact ct_n | exact ct_h | omega | exact z_in (by omega) (by omega) | exact b01 | exact Or.inl rfl | exact Or.inr rfl) only [b190, e190_0, e190_1, e190_4, e190_7, e190_8, e190_11, e190_14, e190_16, e190_17, e190_18, e190_21, e190_22, e190_23, e190_26, e190_27, e190_30, e190_31, e190_32, e190_35, e190_37, e190_38, e190_39, e190_42, e190_43, e190_44, e190_45, e190_48, e190_49, e190_50, e190_53, e190_55, e190_56, e190_58, e190_61, e190_62, e190_65, e190_67, e190_70, e190_71, e190_72, e190_75, e190_76, e190_77, e190_79, e190_80, e190_83, e190_85, e190_86, e190_89, e190_90, e190_91, e190_93, e190_94, e190_97, e190_99, e190_100, e190_101, e190_105, e190_107, e190_110, e190_111, e190_114, e190_116, e190_117, e190_120, e190_122, e190_123, e190_124, e190_125, e190_126, e190_128, e190_129, e190_130, e190_131, e190_134, e190_137, e190_138, e190_142, e190_144, e190_147, e190_148, e190_151, e190_153, e190_154, e190_155, e190_157, e190_158, e190_160, e190_161, e190_162, e190_165, e190_167, e190_168, e190_169, e190_172, e190_175, e190_177, ct_i, ct_r, ct_n, ct_h, opt_v, opt_s, ref_s, ref_n, eq_self_iff_true, true_or, or_true, zl0, zl1, zl2, zl3, zl4, zl5, zl6, zl7, zl8, zl9, zl10, zl16, zl32, zl40, zl100, zl160, zIc1, zI_lt, zI_le, nI_eq, nI_add, z_sub, nI_clamp, zI_of, uu_eq, uu_ne, Nat.reduceLT, Nat.reduceLeDiff, Nat.reduceEqDiff, Nat.reduceAdd, Nat.reduceSub, Nat.reduceMul, Nat.not_lt_zero, Nat.lt_irrefl, Nat.le_refl, Bool.false_eq_true, false_and, and_false, true_and, and_true, if_true, if_false, not_true_eq_false, not_false_eq_true, m0, x21, y21, r44, x22, y22, r45, e1, e2, ga, gb, zI_le, zI_lt, if_neg nm, if_neg ni, if_neg nj, s22, t22, if_neg l1, if_neg l2, Nat.not_lt_zero, Nat.zero_le, if_true, if_false, if_neg (show ¬ nI 1 = nI 0 by decide), not_false_eq_true]
                      exact q
                    | some pb =>
                      simp only [ea, eb] at H
                      rw [eb] at wb
                      have l2 : j ≤ nI (sz b) - m := wb.mpr rfl
                      obtain ⟨rfl, rfl, h3⟩ := hsB_so p2 ea
                      obtain ⟨rfl, h5, h6⟩ := hsB_so q2 eb
                      have hpm : pa.2 = pb.2 := by
                        have := congrArg Int32.toInt h5
                        rw [nI_toInt (by omega), nI_toInt (by omega)] at this
                        omega
                      have l3 : ¬ sz a - pa.2 < pa.1 := by omega
                      have l4 : pb.1 ≤ sz b - pa.2 := by omega
                      simp (disch := first | assumption | exact ct_i | exact ct_r | exact ct_n | exact ct_h | omega | exact z_in (by omega) (by omega) | exact b01 | exact Or.inl rfl | exact Or.inr rfl) only [b190, e190_0, e190_1, e190_4, e190_7, e190_8, e190_11, e190_14, e190_16, e190_17, e190_18, e190_21, e190_22, e190_23, e190_26, e190_27, e190_30, e190_31, e190_32, e190_35, e190_37, e190_38, e190_39, e190_42, e190_43, e190_44, e190_45, e190_48, e190_49, e190_50, e190_53, e190_55, e190_56, e190_58, e190_61, e190_62, e190_65, e190_67, e190_70, e190_71, e190_72, e190_75, e190_76, e190_77, e190_79, e190_80, e190_83, e190_85, e190_86, e190_89, e190_90, e190_91, e190_93, e190_94, e190_97, e190_99, e190_100, e190_101, e190_105, e190_107, e190_110, e190_111, e190_114, e190_116, e190_117, e190_120, e190_122, e190_123, e190_124, e190_125, e190_126, e190_128, e190_129, e190_130, e190_131, e190_134, e190_137, e190_138, e190_142, e190_144, e190_147, e190_148, e190_151, e190_153, e190_154, e190_155, e190_157, e190_158, e190_160, e190_161, e190_162, e190_165, e190_167, e190_168, e190_169, e190_172, e190_175, e190_177, ct_i, ct_r, ct_n, ct_h, opt_v, opt_s, ref_s, ref_n, eq_self_iff_true, true_or, or_true, zl0, zl1, zl2, zl3, zl4, zl5, zl6, zl7, zl8, zl9, zl10, zl16, zl32, zl40, zl100, zl160, zIc1, zI_lt, zI_le, nI_eq, nI_add, z_sub, nI_clamp, zI_of, uu_eq, uu_ne, Nat.reduceLT, Nat.reduceLeDiff, Nat.reduceEqDiff, Nat.reduceAdd, Nat.reduceSub, Nat.reduceMul, Nat.not_lt_zero, Nat.lt_irrefl, Nat.le_refl, Bool.false_eq_true, false_and, and_false, true_and, and_true, if_pos, if_neg, if_true, if_false, not_true_eq_false, not_false_eq_true, m0, x21, y21, r44, x22, y22, r45, e1, e2, ga, gb, s22, t22]
                      refine k190a (l6 := a_hole) hM ha (show pa.1 + pa.2 ≤ 40 by omega) (I0 := I) (fun I1 hf1 hc1 => ?_) pa.2 0 I (by omega) (fun _ _ _ => rfl) (fun k hk => by omega)
                      simp (disch := first | assumption | exact ct_i | exact ct_r | exact ct_n | exact ct_h | omega | exact z_in (by omega) (by omega) | exact b01 | exact Or.inl rfl | exact Or.inr rfl) only [e190_0, e190_1, e190_4, e190_7, e190_8, e190_11, e190_14, e190_16, e190_17, e190_18, e190_21, e190_22, e190_23, e190_26, e190_27, e190_30, e190_31, e190_32, e190_35, e190_37, e190_38, e190_39, e190_42, e190_43, e190_44, e190_45, e190_48, e190_49, e190_50, e190_53, e190_55, e190_56, e190_58, e190_61, e190_62, e190_65, e190_67, e190_70, e190_71, e190_72, e190_75, e190_76, e190_77, e190_79, e190_80, e190_83, e190_85, e190_86, e190_89, e190_90, e190_91, e190_93, e190_94, e190_97, e190_99, e190_100, e190_101, e190_103, e190_105, e190_107, e190_110, e190_111, e190_114, e190_116, e190_117, e190_120, e190_122, e190_123, e190_124, e190_125, e190_126, e190_128, e190_129, e190_130, e190_131, e190_134, e190_137, e190_138, e190_142, e190_144, e190_147, e190_148, e190_151, e190_153, e190_154, e190_155, e190_157, e190_158, e190_160, e190_161, e190_162, e190_165, e190_167, e190_168, e190_169, e190_172, e190_175, e190_177, ct_i, ct_r, ct_n, ct_h, opt_v, opt_s, ref_s, ref_n, eq_self_iff_true, true_or, or_true, zl0, zl1, zl2, zl3, zl4, zl5, zl6, zl7, zl8, zl9, zl10, zl16, zl32, zl40, zl100, zl160, zIc1, zI_lt, zI_le, nI_eq, nI_add, z_sub, nI_clamp, zI_of, uu_eq, uu_ne, Nat.reduceLT, Nat.reduceLeDiff, Nat.reduceEqDiff, Nat.reduceAdd, Nat.reduceSub, Nat.reduceMul, Nat.not_lt_zero, Nat.lt_irrefl, Nat.le_refl, Bool.false_eq_true, false_and, and_false, true_and, and_true, if_true, if_false, not_true_eq_false, not_false_eq_true]
                      refine k190b hM hb (show pb.1 + pa.2 ≤ 40 by omega) (I0 := I1) (v := fun k => it a (pa.1 + k)) (fun k hk' => ?_) (fun I2 hf2 hc2 => H _ ⟨hk.2.1, hk.2.2.1, hk.2.2.2.1, MI_sh hk.2.2.2.2 (fun x k hx => ?_) (fun r hr => ⟨?_, ?_, fun k hk' => ?_⟩)⟩) pa.2 0 I1 (by omega) (fun _ _ _ => rfl) (fun k hk => by omega)
                      · rw [hc1 k hk', show 40 * a + pa.1 + k = 40 * a + (pa.1 + k) by omega]; exact s23 _ (by omega)
                      · try dsimp only
                        rw [hf2 _ _ (by omega), hf1 _ _ (by omega)]
                      · try dsimp only
                        rw [hf2 _ _ (by omega), hf1 _ _ (by omega)]; exact (hk.2.2.2.2.2.2.2.2.2.2.2.1 r hr).1
                      · try dsimp only
                        rw [hf2 _ _ (by omega), hf1 _ _ (by omega)]; exact (hk.2.2.2.2.2.2.2.2.2.2.2.1 r hr).2.1
                      · try dsimp only
                        by_cases hrb : r = b
                        · subst hrb
                          rw [if_pos rfl]
                          unfold va_cpy
                          by_cases hkk : pb.1 ≤ k ∧ k < pb.1 + pa.2
                          · rw [if_pos hkk, show 40 * r + k = 40 * r + pb.1 + (k - pb.1) by omega]
                            exact hc2 _ (by omega)
                          · rw [if_neg hkk, hf2 _ _ (by omega), hf1 _ _ (by omega)]; exact t23 k hk'
                        · rw [if_neg hrb, hf2 _ _ (by omega), hf1 _ _ (by omega)]; exact (hk.2.2.2.2.2.2.2.2.2.2.2.1 r hr).2.2 k hk'
                · rw [hsB_neg (z := sz b) (x := j) (y := m) (Or.inr hj0)] at H
                  have nm : ¬ m < nI 0 := fun h => by rw [Int32.le_iff_toInt_le] at hm0; rw [Int32.lt_iff_toInt_lt] at h; omega
                  have ni : ¬ i < nI 0 := fun h => by rw [Int32.le_iff_toInt_le] at hi0; rw [Int32.lt_iff_toInt_lt] at h; omega
                  have nj : j < nI 0 := by rw [Int32.le_iff_toInt_le] at hj0; rw [Int32.lt_iff_toInt_lt]; omega
                  have q' : Q (some (.int (-12))) (n, t, sh, I, L, R) := by
                    revert H; cases hsB (sz a) i m <;> exact fun H => H _ hk.2
                  simp (disch := first | assumption | exact ct_i | exact ct_r | exact ct_n | exact ct_h | omega | exact z_in (by omega) (by omega) | exact b01 | exact Or.inl rfl | exact Or.inr rfl) only [b190, e190_0, e190_1, e190_4, e190_7, e190_8, e190_11, e190_14, e190_16, e190_17, e190_18, e190_21, e190_22, e190_23, e190_26, e190_27, e190_30, e190_31, e190_32, e190_35, e190_37, e190_38, e190_39, e190_42, e190_43, e190_44, e190_45, e190_48, e190_49, e190_50, e190_53, e190_55, e190_56, e190_58, e190_61, e190_62, e190_65, e190_67, e190_70, e190_71, e190_72, e190_75, e190_76, e190_77, e190_79, e190_80, e190_83, e190_85, e190_86, e190_89, e190_90, e190_91, e190_93, e190_94, e190_97, e190_99, e190_100, e190_101, e190_105, e190_107, e190_110, e190_111, e190_114, e190_116, e190_117, e190_120, e190_122, e190_123, e190_124, e190_125, e190_126, e190_128, e190_129, e190_130, e190_131, e190_134, e190_137, e190_138, e190_142, e190_144, e190_147, e190_148, e190_151, e190_153, e190_154, e190_155, e190_157, e190_158, e190_160, e190_161, e190_162, e190_165, e190_167, e190_168, e190_169, e190_172, e190_175, e190_177, ct_i, ct_r, ct_n, ct_h, opt_v, opt_s, ref_s, ref_n, eq_self_iff_true, true_or, or_true, zl0, zl1, zl2, zl3, zl4, zl5, zl6, zl7, zl8, zl9, zl10, zl16, zl32, zl40, zl100, zl160, zIc1, zI_lt, zI_le, nI_eq, nI_add, z_sub, nI_clamp, zI_of, uu_eq, uu_ne, Nat.reduceLT, Nat.reduceLeDiff, Nat.reduceEqDiff, Nat.reduceAdd, Nat.reduceSub, Nat.reduceMul, Nat.not_lt_zero, Nat.lt_irrefl, Nat.le_refl, Bool.false_eq_true, false_and, and_false, true_and, and_true, if_true, if_false, not_true_eq_false, not_false_eq_true, m0, x21, y21, r44, x22, y22, r45, e1, e2, ga, gb, zI_le, zI_lt, if_neg nm, if_neg ni, if_pos nj, s22, t22, Nat.not_lt_zero, Nat.zero_le, if_true, if_false, if_neg (show ¬ nI 1 = nI 0 by decide), not_false_eq_true]
                  exact q'
              · rw [hsB_neg (z := sz a) (x := i) (y := m) (Or.inr hi0)] at H
                have q := H _ hk.2
                have nm : ¬ m < nI 0 := fun h => by rw [Int32.le_iff_toInt_le] at hm0; rw [Int32.lt_iff_toInt_lt] at h; omega
                have ni : i < nI 0 := by rw [Int32.le_iff_toInt_le] at hi0; rw [Int32.lt_iff_toInt_lt]; omega
                simp (disch := first | assumption | exact ct_i | exact ct_r | exact ct_n | exact ct_h | omega | exact z_in (by omega) (by omega) | exact b01 | exact Or.inl rfl | exact Or.inr rfl) only [b190, e190_0, e190_1, e190_4, e190_7, e190_8, e190_11, e190_14, e190_16, e190_17, e190_18, e190_21, e190_22, e190_23, e190_26, e190_27, e190_30, e190_31, e190_32, e190_35, e190_37, e190_38, e190_39, e190_42, e190_43, e190_44, e190_45, e190_48, e190_49, e190_50, e190_53, e190_55, e190_56, e190_58, e190_61, e190_62, e190_65, e190_67, e190_70, e190_71, e190_72, e190_75, e190_76, e190_77, e190_79, e190_80, e190_83, e190_85, e190_86, e190_89, e190_90, e190_91, e190_93, e190_94, e190_97, e190_99, e190_100, e190_101, e190_105, e190_107, e190_110, e190_111, e190_114, e190_116, e190_117, e190_120, e190_122, e190_123, e190_124, e190_125, e190_126, e190_128, e190_129, e190_130, e190_131, e190_134, e190_137, e190_138, e190_142, e190_144, e190_147, e190_148, e190_151, e190_153, e190_154, e190_155, e190_157, e190_158, e190_160, e190_161, e190_162, e190_165, e190_167, e190_168, e190_169, e190_172, e190_175, e190_177, ct_i, ct_r, ct_n, ct_h, opt_v, opt_s, ref_s, ref_n, eq_self_iff_true, true_or, or_true, zl0, zl1, zl2, zl3, zl4, zl5, zl6, zl7, zl8, zl9, zl10, zl16, zl32, zl40, zl100, zl160, zIc1, zI_lt, zI_le, nI_eq, nI_add, z_sub, nI_clamp, zI_of, uu_eq, uu_ne, Nat.reduceLT, Nat.reduceLeDiff, Nat.reduceEqDiff, Nat.reduceAdd, Nat.reduceSub, Nat.reduceMul, Nat.not_lt_zero, Nat.lt_irrefl, Nat.le_refl, Bool.false_eq_true, false_and, and_false, true_and, and_true, if_true, if_false, not_true_eq_false, not_false_eq_true, m0, x21, y21, r44, x22, y22, r45, e1, e2, ga, gb, zI_le, zI_lt, if_neg nm, if_pos ni, s22, t22, Nat.not_lt_zero, Nat.zero_le, if_true, if_false, if_neg (show ¬ nI 1 = nI 0 by decide), not_false_eq_true]
                exact q
            · rw [hsB_neg (z := sz a) (x := i) (y := m) (Or.inl hm0)] at H
              have q := H _ hk.2
              have nm : m < nI 0 := by rw [Int32.le_iff_toInt_le] at hm0; rw [Int32.lt_iff_toInt_lt]; omega
              simp (disch := first | assumption | exact ct_i | exact ct_r | exact ct_n | exact ct_h | omega | exact z_in (by omega) (by omega) | exact b01 | exact Or.inl rfl | exact Or.inr rfl) only [b190, e190_0, e190_1, e190_4, e190_7, e190_8, e190_11, e190_14, e190_16, e190_17, e190_18, e190_21, e190_22, e190_23, e190_26, e190_27, e190_30, e190_31, e190_32, e190_35, e190_37, e190_38, e190_39, e190_42, e190_43, e190_44, e190_45, e190_48, e190_49, e190_50, e190_53, e190_55, e190_56, e190_58, e190_61, e190_62, e190_65, e190_67, e190_70, e190_71, e190_72, e190_75, e190_76, e190_77, e190_79, e190_80, e190_83, e190_85, e190_86, e190_89, e190_90, e190_91, e190_93, e190_94, e190_97, e190_99, e190_100, e190_101, e190_105, e190_107, e190_110, e190_111, e190_114, e190_116, e190_117, e190_120, e190_122, e190_123, e190_124, e190_125, e190_126, e190_128, e190_129, e190_130, e190_131, e190_134, e190_137, e190_138, e190_142, e190_144, e190_147, e190_148, e190_151, e190_153, e190_154, e190_155, e190_157, e190_158, e190_160, e190_161, e190_162, e190_165, e190_167, e190_168, e190_169, e190_172, e190_175, e190_177, ct_i, ct_r, ct_n, ct_h, opt_v, opt_s, ref_s, ref_n, eq_self_iff_true, true_or, or_true, zl0, zl1, zl2, zl3, zl4, zl5, zl6, zl7, zl8, zl9, zl10, zl16, zl32, zl40, zl100, zl160, zIc1, zI_lt, zI_le, nI_eq, nI_add, z_sub, nI_clamp, zI_of, uu_eq, uu_ne, Nat.reduceLT, Nat.reduceLeDiff, Nat.reduceEqDiff, Nat.reduceAdd, Nat.reduceSub, Nat.reduceMul, Nat.not_lt_zero, Nat.lt_irrefl, Nat.le_refl, Bool.false_eq_true, false_and, and_false, true_and, and_true, if_true, if_false, not_true_eq_false, not_false_eq_true, m0, x21, y21, r44, x22, y22, r45, e1, e2, ga, gb, zI_le, zI_lt, if_pos nm, s22, t22, Nat.not_lt_zero, Nat.zero_le, if_true, if_false, if_neg (show ¬ nI 1 = nI 0 by decide), not_false_eq_true]
              exact q
          · rw [if_neg hab] at H
            have q := H _ hk.2
            have hcc : ¬ ca = cb := by omega
            simp (disch := first | assumption | exact ct_i | exact ct_r | exact ct_n | exact ct_h | omega | exact z_in (by omega) (by omega) | exact b01 | exact Or.inl rfl | exact Or.inr rfl) only [b190, e190_0, e190_1, e190_4, e190_7, e190_8, e190_11, e190_14, e190_16, e190_17, e190_18, e190_21, e190_22, e190_23, e190_26, e190_27, e190_30, e190_31, e190_32, e190_35, e190_37, e190_38, e190_39, e190_42, e190_43, e190_44, e190_45, e190_48, e190_49, e190_50, e190_53, e190_55, e190_56, e190_58, e190_61, e190_62, e190_65, e190_67, e190_70, e190_71, e190_72, e190_75, e190_76, e190_77, e190_79, e190_80, e190_83, e190_85, e190_86, e190_89, e190_90, e190_91, e190_93, e190_94, e190_97, e190_99, e190_100, e190_101, e190_105, e190_107, e190_110, e190_111, e190_114, e190_116, e190_117, e190_120, e190_122, e190_123, e190_124, e190_125, e190_126, e190_128, e190_129, e190_130, e190_131, e190_134, e190_137, e190_138, e190_142, e190_144, e190_147, e190_148, e190_151, e190_153, e190_154, e190_155, e190_157, e190_158, e190_160, e190_161, e190_162, e190_165, e190_167, e190_168, e190_169, e190_172, e190_175, e190_177, ct_i, ct_r, ct_n, ct_h, opt_v, opt_s, ref_s, ref_n, eq_self_iff_true, true_or, or_true, zl0, zl1, zl2, zl3, zl4, zl5, zl6, zl7, zl8, zl9, zl10, zl16, zl32, zl40, zl100, zl160, zIc1, zI_lt, zI_le, nI_eq, nI_add, z_sub, nI_clamp, zI_of, uu_eq, uu_ne, Nat.reduceLT, Nat.reduceLeDiff, Nat.reduceEqDiff, Nat.reduceAdd, Nat.reduceSub, Nat.reduceMul, Nat.not_lt_zero, Nat.lt_irrefl, Nat.le_refl, Bool.false_eq_true, false_and, and_false, true_and, and_true, if_pos, if_neg, if_true, if_false, not_true_eq_false, not_false_eq_true, m0, x21, y21, r44, x22, y22, r45, e1, e2, ga, gb, hcc]
            exact q
end
