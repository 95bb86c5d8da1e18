/-! the model finds all that can be come to -/
def fA (g : Nat → Nat → Option Nat) (nd : Nat) (q : List (Nat × Nat)) (k d : Nat) (I : Nat → Nat → Int32) : Prop :=
  I 0 33 = nI q.length ∧ (∀ j, j < q.length → I 16 j = nI (qS q j)) ∧ (∀ j, j < q.length → I 17 (qS q j) = nI (dep q j)) ∧ (∀ x, x < 6144 → x ∉ q.map Prod.fst → I 17 x = nI 1000000) ∧
  ∀ k' d', k' < q.length → d' < nd → (k' < k ∨ k' = k ∧ d' < d) → I 18 (4 * qS q k' + d') = oI (g (qS q k') d')
/-- what finding changes -/
def frF (I I' : Nat → Nat → Int32) : Prop := ∀ x k, ¬ (x = 0 ∧ (k = 12 ∨ k = 13 ∨ k = 33) ∨ x = 7 ∨ 14 ≤ x ∧ x ≤ 18) → I' x k = I x k
theorem frF_M {I I' : Nat → Nat → Int32} (h : frF I I') : frM I I' := fun x k hx => h x k (fun e => hx (by unfold scM; omega))
theorem fA_fr {g : Nat → Nat → Option Nat} {nd : Nat} {q : List (Nat × Nat)} {k d : Nat} {I I' : Nat → Nat → Int32} (h : fA g nd q k d I) (f : frK I I') : fA g nd q k d I' :=
  ⟨(f _ _ (by omega)).trans h.1, fun j hj => (f _ _ (by omega)).trans (h.2.1 j hj), fun j hj => (f _ _ (by omega)).trans (h.2.2.1 j hj), fun x h1 h2 => (f _ _ (by omega)).trans (h.2.2.2.1 x h1 h2), fun k' d' h1 h2 h3 => (f _ _ (by omega)).trans (h.2.2.2.2 k' d' h1 h2 h3)⟩
theorem frC_K {I I' : Nat → Nat → Int32} (h : frC I I') : frK I I' := fun x k hx => h x k (by omega)
theorem frK_F {I0 I I' : Nat → Nat → Int32} (h : frF I0 I) (h' : frK I I') : frF I0 I' := fun x k hx => (h' x k (by omega)).trans (h x k hx)
section
variable {D : Nat → Nat → Nat} {f : Nat → List Nat} {d nd r : Nat} {n t : Nat} {sh : Nat → Nat × Nat} {L : Nat → Nat → Int64} {R : Nat → Nat → Option Nat} {I0 : Nat → Nat → Int32} {Q : Option Value → aH → Prop}
theorem k161i (hd : 4 ≤ d) (hm0 : mB nd D f r sh R I0) (hk8 : ∀ j, j < nd → I0 8 j = nI (D j 4)) {s0 k : Nat} {q : List (Nat × Nat)} (hk : k < q.length) (hq0 : qI (bh nd D f) nd s0 q k 0) (hz : zP nd s0)
    (H : ∀ I' l4, frF I0 I' → fA (bh nd D f) nd (exD (bh nd D f) k (qS q k) nd q) k nd I' → aE (a_cl_ d) 161 (180, [.ref 0, .int (nI k), .int (nI (qS q k)), .int (nI nd), l4], [], (n, t, sh, I', L, R)) Q) :
    ∀ m i I l4, i + m = nd → frF I0 I → fA (bh nd D f) nd (exD (bh nd D f) k (qS q k) i q) k i I →
    aE (a_cl_ d) 161 (70, [.ref 0, .int (nI k), .int (nI (qS q k)), .int (nI i), l4], [], (n, t, sh, I, L, R)) Q := by
  obtain ⟨hM, hD, hn, hB, hR⟩ := id hm0
  have m0 := mm_0 hM; have x16 := mm_x16 hM; have y16 := mm_y16 hM; have r32 := mm_r32 hM; have x17 := mm_x17 hM; have y17 := mm_y17 hM; have r34 := mm_r34 hM; have x18 := mm_x18 hM; have y18 := mm_y18 hM; have r35 := mm_r35 hM
  have hs := (qB_of hq0).2.1 k hk
  have hzk := q_zP hn hz hq0 k k (Nat.le_refl _) hk
  intro m
  induction m with
  | zero =>
    intro i I l4 hi hf hA
    obtain rfl : i = nd := by omega
    have h1 := (frF_M hf 0 1 (by unfold scM; omega)).trans hD.1
    rw [e161_70]
    simp (disch := first | assumption | exact ct_i | exact ct_r | exact ct_n | exact ct_h | omega | exact z_in (by omega) (by omega) | exact b01 | exact Or.inl rfl | exact Or.inr rfl) only [e161_0, e161_1, e161_2, e161_3, e161_6, e161_9, e161_10, e161_13, e161_14, e161_17, e161_18, e161_21, e161_24, e161_25, e161_28, e161_29, e161_30, e161_33, e161_34, e161_35, e161_38, e161_39, e161_42, e161_43, e161_44, e161_45, e161_46, e161_47, e161_48, e161_51, e161_52, e161_53, e161_54, e161_55, e161_58, e161_61, e161_62, e161_65, e161_66, e161_67, e161_68, e161_69, e161_71, e161_72, e161_75, e161_78, e161_79, e161_80, e161_83, e161_84, e161_87, e161_88, e161_89, e161_90, e161_91, e161_92, e161_93, e161_94, e161_95, e161_96, e161_99, e161_102, e161_103, e161_104, e161_107, e161_108, e161_111, e161_113, e161_114, e161_117, e161_118, e161_119, e161_120, e161_121, e161_122, e161_124, e161_125, e161_126, e161_129, e161_131, e161_132, e161_135, e161_138, e161_139, e161_142, e161_144, e161_145, e161_148, e161_149, e161_150, e161_151, e161_152, e161_153, e161_154, e161_157, e161_158, e161_161, e161_163, e161_164, e161_165, e161_166, e161_169, e161_170, e161_171, e161_174, e161_177, e161_183, e161_186, ct_i, ct_r, ct_n, ct_h, opt_v, opt_s, ref_s, ref_n, eq_self_iff_true, true_or, or_true, zl0, zl1, zl2, zl3, zl4, zl5, zl6, zl7, zl8, zl9, zl10, zl16, zl32, zl40, zl100, zl160, zIc1, zI_lt, zI_le, nI_eq, nI_add, z_sub, nI_clamp, zI_of, uu_eq, uu_ne, Nat.reduceLT, Nat.reduceLeDiff, Nat.reduceEqDiff, Nat.reduceAdd, Nat.reduceSub, Nat.reduceMul, Nat.not_lt_zero, Nat.lt_irrefl, Nat.le_refl, Bool.false_eq_true, false_and, and_false, true_and, and_true, if_pos, if_neg, if_true, if_false, not_true_eq_false, not_false_eq_true, m0, h1]
    exact H I l4 hf hA
  | succ m ih =>
    intro i I l4 hi hf hA
    have hlt : i < nd := by omega
    have hq1 := exD_I (bh_g hB) hq0 hk i (by omega)
    have hq2 := exD_I (bh_g hB) hq0 hk (i + 1) (by omega)
    have hl1 := q_len hq1
    have hl2 := q_len hq2
    have h1 := (frF_M hf 0 1 (by unfold scM; omega)).trans hD.1
    have hk1 : k < (exD (bh nd D f) k (qS q k) i q).length := Nat.lt_of_lt_of_le hk exD_len
    have eqk : qS (exD (bh nd D f) k (qS q k) i q) k = qS q k := exD_qS hk
    rw [e161_70]
    simp (disch := first | assumption | exact ct_i | exact ct_r | exact ct_n | exact ct_h | omega | exact z_in (by omega) (by omega) | exact b01 | exact Or.inl rfl | exact Or.inr rfl) only [e161_0, e161_1, e161_2, e161_3, e161_6, e161_9, e161_10, e161_13, e161_14, e161_17, e161_18, e161_21, e161_24, e161_25, e161_28, e161_29, e161_30, e161_33, e161_34, e161_35, e161_38, e161_39, e161_42, e161_43, e161_44, e161_45, e161_46, e161_47, e161_48, e161_51, e161_52, e161_53, e161_54, e161_55, e161_58, e161_61, e161_62, e161_65, e161_66, e161_67, e161_68, e161_69, e161_71, e161_72, e161_75, e161_78, e161_79, e161_80, e161_84, e161_87, e161_88, e161_89, e161_90, e161_91, e161_92, e161_93, e161_94, e161_95, e161_99, e161_102, e161_103, e161_104, e161_107, e161_108, e161_111, e161_113, e161_114, e161_117, e161_118, e161_119, e161_120, e161_121, e161_122, e161_124, e161_125, e161_126, e161_129, e161_131, e161_132, e161_135, e161_138, e161_139, e161_142, e161_144, e161_145, e161_148, e161_149, e161_150, e161_151, e161_152, e161_153, e161_154, e161_157, e161_158, e161_161, e161_163, e161_164, e161_165, e161_166, e161_169, e161_170, e161_171, e161_174, e161_177, e161_180, e161_183, e161_186, ct_i, ct_r, ct_n, ct_h, opt_v, opt_s, ref_s, ref_n, eq_self_iff_true, true_or, or_true, zl0, zl1, zl2, zl3, zl4, zl5, zl6, zl7, zl8, zl9, zl10, zl16, zl32, zl40, zl100, zl160, zIc1, zI_lt, zI_le, nI_eq, nI_add, z_sub, nI_clamp, zI_of, uu_eq, uu_ne, Nat.reduceLT, Nat.reduceLeDiff, Nat.reduceEqDiff, Nat.reduceAdd, Nat.reduceSub, Nat.reduceMul, Nat.not_lt_zero, Nat.lt_irrefl, Nat.le_refl, Bool.false_eq_true, false_and, and_false, true_and, and_true, if_pos, if_neg, if_true, if_false, not_true_eq_false, not_false_eq_true, m0, h1]
    refine k163 (nd := nd) (D := D) (by omega) hM hs (fun j hj => (hf 8 j (by omega)).trans (hk8 j hj)) hn (fun I1 hf1 hT1 => ?_)
    have hA1 := fA_fr hA (frC_K hf1)
    have hF1 := frK_F hf (frC_K hf1)
    have hb18 : 4 * qS q k + i < 24576 := by omega
    simp (disch := first | assumption | exact ct_i | exact ct_r | exact ct_n | exact ct_h | omega | exact z_in (by omega) (by omega) | exact b01 | exact Or.inl rfl | exact Or.inr rfl) only [e161_0, e161_1, e161_2, e161_3, e161_6, e161_9, e161_10, e161_13, e161_14, e161_17, e161_18, e161_21, e161_24, e161_25, e161_28, e161_29, e161_30, e161_33, e161_34, e161_35, e161_38, e161_39, e161_42, e161_43, e161_44, e161_45, e161_46, e161_47, e161_48, e161_51, e161_52, e161_53, e161_54, e161_55, e161_58, e161_61, e161_62, e161_65, e161_66, e161_67, e161_68, e161_69, e161_71, e161_72, e161_75, e161_78, e161_79, e161_80, e161_83, e161_84, e161_87, e161_88, e161_89, e161_90, e161_91, e161_92, e161_93, e161_94, e161_95, e161_99, e161_102, e161_103, e161_104, e161_107, e161_108, e161_111, e161_113, e161_114, e161_117, e161_118, e161_119, e161_120, e161_121, e161_122, e161_124, e161_125, e161_126, e161_129, e161_131, e161_132, e161_135, e161_138, e161_139, e161_142, e161_144, e161_145, e161_148, e161_149, e161_150, e161_151, e161_152, e161_153, e161_154, e161_157, e161_158, e161_161, e161_163, e161_164, e161_165, e161_166, e161_169, e161_170, e161_171, e161_174, e161_177, e161_180, e161_183, e161_186, ct_i, ct_r, ct_n, ct_h, opt_v, opt_s, ref_s, ref_n, eq_self_iff_true, true_or, or_true, zl0, zl1, zl2, zl3, zl4, zl5, zl6, zl7, zl8, zl9, zl10, zl16, zl32, zl40, zl100, zl160, zIc1, zI_lt, zI_le, nI_eq, nI_add, z_sub, nI_clamp, zI_of, uu_eq, uu_ne, Nat.reduceLT, Nat.reduceLeDiff, Nat.reduceEqDiff, Nat.reduceAdd, Nat.reduceSub, Nat.reduceMul, Nat.not_lt_zero, Nat.lt_irrefl, Nat.le_refl, Bool.false_eq_true, false_and, and_false, true_and, and_true, if_pos, if_neg, if_true, if_false, not_true_eq_false, not_false_eq_true, zI_mul, m0, x18, y18, r35]
    -- the mark 'none' first
    generalize hI2 : u2 I1 18 (4 * qS q k + i) (-nI 1) = I2
    have hfr2 : ∀ x z, ¬ (x = 18 ∧ z = 4 * qS q k + i) → I2 x z = I1 x z := fun x z hx => by rw [← hI2]; exact uu_ne _ _ _ _ hx
    have h18 : I2 18 (4 * qS q k + i) = -nI 1 := by rw [← hI2]; exact uu_eq _ _ _ _
    have hF2 : frF I0 I2 := fun x z hx => (hfr2 x z (by omega)).trans (hF1 x z hx)
    have hT2 : thS nd D (qS q k) I2 := ⟨(hfr2 _ _ (by omega)).trans hT1.1, (hfr2 _ _ (by omega)).trans hT1.2.1, fun j hj => ⟨(hfr2 _ _ (by omega)).trans (hT1.2.2 j hj).1, (hfr2 _ _ (by omega)).trans (hT1.2.2 j hj).2⟩⟩
    simp (disch := first | assumption | exact ct_i | exact ct_r | exact ct_n | exact ct_h | omega | exact z_in (by omega) (by omega) | exact b01 | exact Or.inl rfl | exact Or.inr rfl) only [e161_96, ct_i, ct_r, ct_n, ct_h, opt_v, opt_s, ref_s, ref_n, eq_self_iff_true, true_or, or_true, m0]
    refine k134 hd (mB_fr hm0 (frF_M hF2)) hT2 hs (fun I3 hf3 => ?_)
    have eg : gN nd D f (qS q k) (nI i) = bh nd D f (qS q k) i := by unfold gN; rw [dec_nI hlt (by omega)]
    rw [eg]
    have hF3 : frF I0 I3 := frK_F hF2 (frW_T hf3)
    have hT3 := thS_W hT2 hf3
    -- what stands from before
    have old : ∀ J : Nat → Nat → Int32, (∀ x z, (x = 0 ∧ z = 33 ∨ x = 16 ∨ x = 17 ∨ x = 18 ∧ ¬ z = 4 * qS q k + i) → J x z = I1 x z) → ∀ v, J 18 (4 * qS q k + i) = v → v = oI (bh nd D f (qS q k) i) →
        fA (bh nd D f) nd (exD (bh nd D f) k (qS q k) i q) k (i + 1) J := fun J hJ v hv hv2 => by
      refine ⟨(hJ _ _ (by omega)).trans hA1.1, fun j hj => (hJ _ _ (by omega)).trans (hA1.2.1 j hj), fun j hj => (hJ _ _ (by omega)).trans (hA1.2.2.1 j hj), fun x g1 g2 => (hJ _ _ (by omega)).trans (hA1.2.2.2.1 x g1 g2), fun k' d' g1 g2 g3 => ?_⟩
      by_cases hc : k' = k ∧ d' = i
      · obtain ⟨rfl, rfl⟩ := hc
        rw [eqk, hv, hv2]
      · have hne : ¬ 4 * qS (exD (bh nd D f) k (qS q k) i q) k' + d' = 4 * qS q k + i := fun e => hc (by
          have e : 4 * qS (exD (bh nd D f) k (qS q k) i q) k' + d' = 4 * qS (exD (bh nd D f) k (qS q k) i q) k + i := by rw [eqk]; exact e
          have hd' : d' < 4 := by omega
          have hi' : i < 4 := by omega
          exact ⟨q_inj hq1.1.2.2.1 g1 hk1 (by omega), by omega⟩)
        rw [hJ _ _ (by omega)]
        exact hA1.2.2.2.2 k' d' g1 g2 (by omega)
    cases hb : bh nd D f (qS q k) i with
    | none =>
      have he : exD (bh nd D f) k (qS q k) (i + 1) q = exD (bh nd D f) k (qS q k) i q := by simp only [exD, hb]
      simp only [Option.isSome_none, Bool.false_eq_true, if_false]
      simp (disch := first | assumption | exact ct_i | exact ct_r | exact ct_n | exact ct_h | omega | exact z_in (by omega) (by omega) | exact b01 | exact Or.inl rfl | exact Or.inr rfl) only [e161_0, e161_1, e161_2, e161_3, e161_6, e161_9, e161_10, e161_13, e161_14, e161_17, e161_18, e161_21, e161_24, e161_25, e161_28, e161_29, e161_30, e161_33, e161_34, e161_35, e161_38, e161_39, e161_42, e161_43, e161_44, e161_45, e161_46, e161_47, e161_48, e161_51, e161_52, e161_53, e161_54, e161_55, e161_58, e161_61, e161_62, e161_65, e161_66, e161_67, e161_68, e161_69, e161_71, e161_72, e161_75, e161_78, e161_79, e161_80, e161_83, e161_84, e161_87, e161_88, e161_89, e161_90, e161_91, e161_92, e161_93, e161_94, e161_95, e161_96, e161_99, e161_102, e161_103, e161_104, e161_107, e161_108, e161_111, e161_113, e161_114, e161_117, e161_118, e161_119, e161_120, e161_121, e161_122, e161_124, e161_125, e161_126, e161_129, e161_131, e161_132, e161_135, e161_138, e161_139, e161_142, e161_144, e161_145, e161_148, e161_149, e161_150, e161_151, e161_152, e161_153, e161_154, e161_157, e161_158, e161_161, e161_163, e161_164, e161_165, e161_166, e161_169, e161_170, e161_171, e161_174, e161_177, e161_180, e161_183, e161_186, ct_i, ct_r, ct_n, ct_h, opt_v, opt_s, ref_s, ref_n, eq_self_iff_true, true_or, or_true, zl0, zl1, zl2, zl3, zl4, zl5, zl6, zl7, zl8, zl9, zl10, zl16, zl32, zl40, zl100, zl160, zIc1, zI_lt, zI_le, nI_eq, nI_add, z_sub, nI_clamp, zI_of, uu_eq, uu_ne, Nat.reduceLT, Nat.reduceLeDiff, Nat.reduceEqDiff, Nat.reduceAdd, Nat.reduceSub, Nat.reduceMul, Nat.not_lt_zero, Nat.lt_irrefl, Nat.le_refl, Bool.false_eq_true, false_and, and_false, true_and, and_true, if_pos, if_neg, if_true, if_false, not_true_eq_false, not_false_eq_true, m0]
      refine ih (i + 1) I3 _ (by omega) hF3 ?_
      rw [he]
      exact old I3 (fun x z hx => (hf3 _ _ (by omega)).trans (hfr2 _ _ (by omega))) (-nI 1) ((hf3 _ _ (by omega)).trans h18) (by rw [hb]; rfl)
    | some y =>
      have hy := bh_lt hB hb
      have hya : y = aft D (qS q k) i := by
        unfold bh at hb
        split at hb
        · cases hb; rfl
        · cases hb
      have hzy := zP_bh hn hb hzk
      simp only [Option.isSome_some, if_true]
      simp (disch := first | assumption | exact ct_i | exact ct_r | exact ct_n | exact ct_h | omega | exact z_in (by omega) (by omega) | exact b01 | exact Or.inl rfl | exact Or.inr rfl) only [e161_0, e161_1, e161_2, e161_3, e161_6, e161_9, e161_10, e161_13, e161_14, e161_17, e161_18, e161_21, e161_24, e161_25, e161_28, e161_29, e161_30, e161_33, e161_34, e161_35, e161_38, e161_39, e161_42, e161_43, e161_44, e161_45, e161_46, e161_47, e161_48, e161_51, e161_52, e161_53, e161_54, e161_55, e161_58, e161_61, e161_62, e161_65, e161_66, e161_67, e161_68, e161_69, e161_71, e161_72, e161_75, e161_78, e161_79, e161_80, e161_83, e161_84, e161_87, e161_88, e161_89, e161_90, e161_91, e161_92, e161_93, e161_94, e161_95, e161_96, e161_99, e161_102, e161_103, e161_104, e161_107, e161_108, e161_111, e161_113, e161_114, e161_117, e161_118, e161_119, e161_120, e161_121, e161_122, e161_124, e161_125, e161_126, e161_129, e161_131, e161_132, e161_135, e161_138, e161_139, e161_142, e161_144, e161_145, e161_148, e161_149, e161_150, e161_151, e161_152, e161_153, e161_154, e161_157, e161_158, e161_161, e161_163, e161_164, e161_165, e161_166, e161_169, e161_170, e161_171, e161_174, e161_177, e161_180, e161_183, e161_186, ct_i, ct_r, ct_n, ct_h, opt_v, opt_s, ref_s, ref_n, eq_self_iff_true, true_or, or_true, zl0, zl1, zl2, zl3, zl4, zl5, zl6, zl7, zl8, zl9, zl10, zl16, zl32, zl40, zl100, zl160, zIc1, zI_lt, zI_le, nI_eq, nI_add, z_sub, nI_clamp, zI_of, uu_eq, uu_ne, Nat.reduceLT, Nat.reduceLeDiff, Nat.reduceEqDiff, Nat.reduceAdd, Nat.reduceSub, Nat.reduceMul, Nat.not_lt_zero, Nat.lt_irrefl, Nat.le_refl, Bool.false_eq_true, false_and, and_false, true_and, and_true, if_pos, if_neg, if_true, if_false, not_true_eq_false, not_false_eq_true, m0]
      refine k159 (by omega) (mB_fr hm0 (frF_M hF3)) hT3 hs hlt (fun I4 hf4 hT4 => ?_)
      rw [← hya] at hT4
      have hF4 := frK_F hF3 hf4
      have h14 := (frF_M hF4 0 1 (by unfold scM; omega)).trans hD.1
      have e4 : ∀ x z, (x = 0 ∧ z = 33 ∨ x = 16 ∨ x = 17 ∨ x = 18 ∧ ¬ z = 4 * qS q k + i) → I4 x z = I1 x z := fun x z hx => (hf4 _ _ (by omega)).trans ((hf3 _ _ (by omega)).trans (hfr2 _ _ (by omega)))
      by_cases hmem : y ∈ (exD (bh nd D f) k (qS q k) i q).map Prod.fst
      · have he : exD (bh nd D f) k (qS q k) (i + 1) q = exD (bh nd D f) k (qS q k) i q := by simp only [exD, hb, if_pos hmem]
        obtain ⟨j, hj, hjy⟩ := q_mem.mp hmem
        have h17 : I4 17 y = nI (dep (exD (bh nd D f) k (qS q k) i q) j) := by rw [e4 _ _ (by omega), ← hjy]; exact hA1.2.2.1 j hj
        have hdl := dep_le (qI_par hq1) j hj
        have hdn : ¬ dep (exD (bh nd D f) k (qS q k) i q) j = 1000000 := by omega
        have e6 : (1000000 : Int32) = nI 1000000 := rfl
        simp (disch := first | assumption | exact ct_i | exact ct_r | exact ct_n | exact ct_h | omega | exact z_in (by omega) (by omega) | exact b01 | exact Or.inl rfl | exact Or.inr rfl) only [e161_0, e161_1, e161_2, e161_3, e161_6, e161_9, e161_10, e161_13, e161_14, e161_17, e161_18, e161_21, e161_24, e161_25, e161_28, e161_29, e161_30, e161_33, e161_34, e161_35, e161_38, e161_39, e161_42, e161_43, e161_44, e161_45, e161_46, e161_47, e161_48, e161_51, e161_52, e161_53, e161_54, e161_55, e161_58, e161_61, e161_62, e161_65, e161_66, e161_67, e161_68, e161_69, e161_71, e161_72, e161_75, e161_78, e161_79, e161_80, e161_83, e161_84, e161_87, e161_88, e161_89, e161_90, e161_91, e161_92, e161_93, e161_94, e161_95, e161_96, e161_99, e161_102, e161_103, e161_104, e161_107, e161_108, e161_111, e161_113, e161_114, e161_117, e161_118, e161_119, e161_120, e161_121, e161_122, e161_124, e161_125, e161_126, e161_129, e161_131, e161_132, e161_135, e161_138, e161_139, e161_142, e161_144, e161_145, e161_148, e161_149, e161_150, e161_151, e161_152, e161_153, e161_154, e161_157, e161_158, e161_161, e161_163, e161_164, e161_165, e161_166, e161_169, e161_170, e161_171, e161_174, e161_177, e161_180, e161_183, e161_186, ct_i, ct_r, ct_n, ct_h, opt_v, opt_s, ref_s, ref_n, eq_self_iff_true, true_or, or_true, zl0, zl1, zl2, zl3, zl4, zl5, zl6, zl7, zl8, zl9, zl10, zl16, zl32, zl40, zl100, zl160, zIc1, zI_lt, zI_le, nI_eq, nI_add, z_sub, nI_clamp, zI_of, uu_eq, uu_ne, Nat.reduceLT, Nat.reduceLeDiff, Nat.reduceEqDiff, Nat.reduceAdd, Nat.reduceSub, Nat.reduceMul, Nat.not_lt_zero, Nat.lt_irrefl, Nat.le_refl, Bool.false_eq_true, false_and, and_false, true_and, and_true, if_pos, if_neg, if_true, if_false, not_true_eq_false, not_false_eq_true, zI_mul, m0, k162 (show 1 ≤ d by omega) hM h14 hn hT4 hy hzy, m0, x17, y17, r34, x18, y18, r35, h17, e6]
        refine ih (i + 1) _ _ (by omega) (fun x z hx => by rw [uu_ne _ _ _ _ (by omega)]; exact hF4 x z hx) ?_
        rw [he]
        exact old _ (fun x z hx => by rw [uu_ne _ _ _ _ (by omega)]; exact e4 x z hx) (nI y) (uu_eq _ _ _ _) (by rw [hb]; rfl)
      · have he : exD (bh nd D f) k (qS q k) (i + 1) q = exD (bh nd D f) k (qS q k) i q ++ [(y, k)] := by simp only [exD, hb, if_neg hmem]
        have h17 : I4 17 y = nI 1000000 := by rw [e4 _ _ (by omega)]; exact hA1.2.2.2.1 y hy hmem
        have h17k : I4 17 (qS q k) = nI (dep (exD (bh nd D f) k (qS q k) i q) k) := by
          rw [e4 _ _ (by omega)]
          have := hA1.2.2.1 k hk1
          rw [eqk] at this; exact this
        have h33 : I4 0 33 = nI (exD (bh nd D f) k (qS q k) i q).length := (e4 _ _ (by omega)).trans hA1.1
        rw [he] at hl2 hq2
        simp only [List.length_append, List.length_cons, List.length_nil] at hl2
        have hll : (exD (bh nd D f) k (qS q k) i q).length < 6144 := by omega
        have e6 : (1000000 : Int32) = nI 1000000 := rfl
        have hpar := qI_par hq1
        have hdk := dep_le hpar k hk1
        simp (disch := first | assumption | exact ct_i | exact ct_r | exact ct_n | exact ct_h | omega | exact z_in (by omega) (by omega) | exact b01 | exact Or.inl rfl | exact Or.inr rfl) only [e161_0, e161_1, e161_2, e161_3, e161_6, e161_9, e161_10, e161_13, e161_14, e161_17, e161_18, e161_21, e161_24, e161_25, e161_28, e161_29, e161_30, e161_33, e161_34, e161_35, e161_38, e161_39, e161_42, e161_43, e161_44, e161_45, e161_46, e161_47, e161_48, e161_51, e161_52, e161_53, e161_54, e161_55, e161_58, e161_61, e161_62, e161_65, e161_66, e161_67, e161_68, e161_69, e161_71, e161_72, e161_75, e161_78, e161_79, e161_80, e161_83, e161_84, e161_87, e161_88, e161_89, e161_90, e161_91, e161_92, e161_93, e161_94, e161_95, e161_96, e161_99, e161_102, e161_103, e161_104, e161_107, e161_108, e161_111, e161_113, e161_114, e161_117, e161_118, e161_119, e161_120, e161_121, e161_122, e161_124, e161_125, e161_126, e161_129, e161_131, e161_132, e161_135, e161_138, e161_139, e161_142, e161_144, e161_145, e161_148, e161_149, e161_150, e161_151, e161_152, e161_153, e161_154, e161_157, e161_158, e161_161, e161_163, e161_164, e161_165, e161_166, e161_169, e161_170, e161_171, e161_174, e161_177, e161_180, e161_183, e161_186, ct_i, ct_r, ct_n, ct_h, opt_v, opt_s, ref_s, ref_n, eq_self_iff_true, true_or, or_true, zl0, zl1, zl2, zl3, zl4, zl5, zl6, zl7, zl8, zl9, zl10, zl16, zl32, zl40, zl100, zl160, zIc1, zI_lt, zI_le, nI_eq, nI_add, z_sub, nI_clamp, zI_of, uu_eq, uu_ne, Nat.reduceLT, Nat.reduceLeDiff, Nat.reduceEqDiff, Nat.reduceAdd, Nat.reduceSub, Nat.reduceMul, Nat.not_lt_zero, Nat.lt_irrefl, Nat.le_refl, Bool.false_eq_true, false_and, and_false, true_and, and_true, if_pos, if_neg, if_true, if_false, not_true_eq_false, not_false_eq_true, zI_mul, m0, k162 (show 1 ≤ d by omega) hM h14 hn hT4 hy hzy, m0, x16, y16, r32, x17, y17, r34, x18, y18, r35, h17, h17k, h33, e6]
        refine ih (i + 1) _ _ (by omega) (fun x z hx => ?_) ?_
        · simp (disch := omega) only [uu_ne]; exact hF4 x z hx
        · rw [he]
          have hlen : (exD (bh nd D f) k (qS q k) i q ++ [(y, k)]).length = (exD (bh nd D f) k (qS q k) i q).length + 1 := by simp
          have hO := old (u2 I4 18 (4 * qS q k + i) (nI y)) (fun x z hx => by rw [uu_ne _ _ _ _ (by omega)]; exact e4 x z hx) (nI y) (uu_eq _ _ _ _) (by rw [hb]; rfl)
          obtain ⟨q1, hq1e⟩ : ∃ q1, q1 = exD (bh nd D f) k (qS q k) i q := ⟨_, rfl⟩
          rw [← hq1e] at hk1 eqk hq1 hl1 hmem h33 hq2 hll hpar hlen hO ⊢
          have hpar2 := qI_par hq2
          refine ⟨?_, fun j hj => ?_, fun j hj => ?_, fun x g1 g2 => ?_, fun k' d' g1 g2 g3 => ?_⟩
          · rw [uu_eq, hlen]
          · rw [hlen] at hj
            rw [uu_ne _ _ _ _ (by omega)]
            by_cases hjl : j = q1.length
            · subst hjl; rw [uu_eq, qS_last]
            · rw [uu_ne _ _ _ _ (by omega), uu_ne _ _ _ _ (by omega), qS_app (by omega)]; exact hO.2.1 j (by omega)
          · rw [hlen] at hj
            rw [uu_ne _ _ _ _ (by omega), uu_ne _ _ _ _ (by omega)]
            by_cases hjl : j = q1.length
            · subst hjl
              rw [qS_last, uu_eq, dep_s hpar2 (by omega) (by omega), qP_last, dep_app hpar hk1]
            · rw [qS_app (by omega), dep_app hpar (by omega), uu_ne _ _ _ _ (fun e => hmem (q_mem.mpr ⟨j, by omega, e.2⟩))]
              exact hO.2.2.1 j (by omega)
          · have g3 : x ∉ q1.map Prod.fst := fun h => g2 (by rw [List.map_append]; exact List.mem_append_left _ h)
            have g4 : ¬ x = y := fun h => g2 (by rw [List.map_append, h]; exact List.mem_append_right _ (by simp))
            rw [uu_ne _ _ _ _ (by omega), uu_ne _ _ _ _ (by omega), uu_ne _ _ _ _ (by omega)]
            exact hO.2.2.2.1 x g1 g3
          · rw [hlen] at g1
            rw [qS_app (by omega), uu_ne _ _ _ _ (by omega), uu_ne _ _ _ _ (by omega), uu_ne _ _ _ _ (by omega)]
            exact hO.2.2.2.2 k' d' (by omega) g2 g3
end
