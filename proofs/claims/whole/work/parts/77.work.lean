/-! the model works a text's part -/
theorem mc_num {k : Nat} (h : k < 10000) : mCell k = nI k := if_pos h
theorem mc_nm {i : Nat} (h : i < 6) : ¬ mCell (10000 + i) ≤ -nI 100 ∧ ¬ nI 0 ≤ mCell (10000 + i) ∧ -nI 1 - mCell (10000 + i) = nI i := by
  rcases (show i = 0 ∨ i = 1 ∨ i = 2 ∨ i = 3 ∨ i = 4 ∨ i = 5 by omega) with rfl | rfl | rfl | rfl | rfl | rfl <;> decide
theorem mc_op {i : Nat} (h : i < 15) (h6 : 6 ≤ i) : mCell (10000 + i) ≤ -nI 100 ∧ (mCell (10000 + i) = -nI 100 ↔ i = 6) ∧ (mCell (10000 + i) = -101 ↔ i = 7) ∧ (8 ≤ i → -nI 100 - mCell (10000 + i) = sgn i) := by
  rcases (show i = 6 ∨ i = 7 ∨ i = 8 ∨ i = 9 ∨ i = 10 ∨ i = 11 ∨ i = 12 ∨ i = 13 ∨ i = 14 by omega) with rfl | rfl | rfl | rfl | rfl | rfl | rfl | rfl | rfl <;> decide
def frW (I I' : Nat → Nat → Int32) : Prop := ∀ x k, ¬ (x = 14 ∨ x = 15) → I' x k = I x k
theorem frW_M {I I' : Nat → Nat → Int32} (h : frW I I') : frM I I' := fun x k hx => h x k (fun e => hx (by unfold scM; omega))
theorem zIm1 : Int32.ofInt (-1) = -nI 1 := by decide
theorem z_dn {k : Nat} : nI (k + 1) + -nI 1 = nI k := by
  rw [← Int32.sub_eq_add_neg, z_sub (by omega), Nat.add_sub_cancel]
section
variable {D : Nat → Nat → Nat} {d nd s : Nat} {n t : Nat} {sh : Nat → Nat × Nat} {L : Nat → Nat → Int64} {R : Nat → Nat → Option Nat} {Q : Option Value → aH → Prop}
theorem k128m (hd : 1 ≤ d) (hM : mK sh R) {I0 : Nat → Nat → Int32} {nm : Nat → Int32} {part r en : Nat} {v2 v3 : Int32} (hr : r < 6) (hp : part < 3) (hru : I0 0 17 = nI r) (hen : I0 12 (3 * r + part) = nI en) (he : en ≤ 3000) (hnm : ∀ i, i < 6 → I0 15 i = nm i) :
    ∀ (cs : List Nat) (st : List Int32) (k : Nat) (I : Nat → Nat → Int32) (l6 : Value), (∀ x k, ¬ x = 14 → I x k = I0 x k) → st.length ≤ 40 → stkL I 14 st → okc cs st.length 1 → k + cs.length = en → (∀ j, j < cs.length → I0 10 (k + j) = mCell (cs.getD j 0)) →
    (∀ I', (∀ x k, ¬ x = 14 → I' x k = I0 x k) → Q (some (.int ((evs nm cs st).headD 0))) (n, t, sh, I', L, R)) →
    aE (a_cl_ d) 128 (116, [.ref 0, .int (nI part), .int v2, .int v3, .int (nI st.length), .int (nI k), l6], [], (n, t, sh, I, L, R)) Q := by
  have m0 := mm_0 hM; have x10 := mm_x10 hM; have y10 := mm_y10 hM; have r18 := mm_r18 hM; have x12 := mm_x12 hM; have y12 := mm_y12 hM; have r20 := mm_r20 hM; have x14 := mm_x14 hM; have y14 := mm_y14 hM; have r30 := mm_r30 hM; have x15 := mm_x15 hM; have y15 := mm_y15 hM; have r31 := mm_r31 hM
  have e3 : (3 : Int32) = nI 3 := rfl
  have em : (-101 : Int32) = -101 := rfl
  intro cs
  induction cs with
  | nil =>
    intro st k I l6 hI h40 hst hok hk hc H
    have e1 : I 12 (3 * r + part) = nI en := (hI _ _ (by omega)).trans hen
    have e2 : I 0 17 = nI r := (hI _ _ (by omega)).trans hru
    simp only [okc] at hok
    simp only [List.length_nil, Nat.add_zero] at hk
    subst hk
    match st, hok with
    | [x], _ =>
    have e4 : I 14 0 = x := hst.1
    have := H I hI
    simp only [evs, List.headD_cons] at this
    simp (disch := first | assumption | exact ct_i | exact ct_r | exact ct_n | exact ct_h | omega | exact z_in (by omega) (by omega) | exact b01 | exact Or.inl rfl | exact Or.inr rfl) only [e128_0, e128_1, e128_4, e128_5, e128_6, e128_7, e128_10, e128_11, e128_14, e128_15, e128_16, e128_17, e128_20, e128_21, e128_22, e128_23, e128_26, e128_27, e128_30, e128_33, e128_34, e128_37, e128_38, e128_39, e128_40, e128_41, e128_44, e128_45, e128_46, e128_49, e128_50, e128_51, e128_54, e128_55, e128_56, e128_57, e128_58, e128_61, e128_62, e128_63, e128_64, e128_67, e128_68, e128_71, e128_72, e128_73, e128_76, e128_77, e128_78, e128_81, e128_82, e128_83, e128_84, e128_87, e128_88, e128_91, e128_92, e128_93, e128_94, e128_97, e128_98, e128_99, e128_101, e128_102, e128_105, e128_106, e128_107, e128_110, e128_111, e128_112, e128_113, e128_114, e128_116, e128_118, e128_119, e128_122, e128_123, e128_124, e128_127, e128_128, e128_129, e128_130, e128_131, e128_134, e128_135, e128_138, e128_140, e128_141, e128_143, e128_145, e128_147, e128_150, e128_151, e128_154, e128_156, e128_158, e128_161, e128_162, e128_165, e128_166, e128_168, e128_169, e128_170, e128_173, e128_175, e128_176, e128_179, e128_182, e128_184, e128_186, e128_189, e128_190, e128_193, e128_195, e128_196, e128_197, e128_198, e128_201, e128_203, e128_204, e128_205, e128_206, e128_207, e128_208, e128_211, e128_213, e128_215, e128_218, e128_219, e128_222, e128_224, e128_225, e128_226, e128_227, e128_230, e128_232, e128_233, e128_234, e128_235, e128_238, e128_239, e128_242, e128_243, e128_244, e128_247, e128_250, e128_251, e128_254, e128_256, e128_257, e128_258, e128_260, e128_262, e128_263, e128_264, e128_267, e128_269, e128_270, e128_271, e128_272, e128_273, e128_276, e128_278, e128_279, e128_282, e128_283, e128_286, e128_289, e128_290, e128_293, e128_294, e128_295, ct_i, ct_r, ct_n, ct_h, opt_v, opt_s, ref_s, ref_n, eq_self_iff_true, true_or, or_true, zl0, zl1, zl2, zl3, zl4, zl5, zl6, zl7, zl8, zl9, zl10, zl16, zl32, zl40, zl100, zl160, zIc1, zI_lt, zI_le, nI_eq, nI_add, z_sub, nI_clamp, zI_of, uu_eq, uu_ne, Nat.reduceLT, Nat.reduceLeDiff, Nat.reduceEqDiff, Nat.reduceAdd, Nat.reduceSub, Nat.reduceMul, Nat.not_lt_zero, Nat.lt_irrefl, Nat.le_refl, Bool.false_eq_true, false_and, and_false, true_and, and_true, if_pos, if_neg, if_true, if_false, not_true_eq_false, not_false_eq_true, zI_mul, m0, x12, y12, r20, x14, y14, r30, e1, e2, e4, Nat.le_refl]
    exact this
  | cons c cs ih =>
    intro st k I l6 hI h40 hst hok hk hc H
    simp only [List.length_cons] at hk
    have e1 : I 12 (3 * r + part) = nI en := (hI _ _ (by omega)).trans hen
    have e2 : I 0 17 = nI r := (hI _ _ (by omega)).trans hru
    have e4 : I 10 k = mCell c := (hI _ _ (by omega)).trans (by simpa using hc 0 (by simp))
    have hc' : ∀ j, j < cs.length → I0 10 (k + 1 + j) = mCell (cs.getD j 0) := fun j hj => by
      have := hc (j + 1) (by simp; omega)
      rw [show k + 1 + j = k + (j + 1) by omega]
      simpa using this
    obtain ⟨hh, hk1, hok1⟩ := hok
    have hl := ev1_len (nm := nm) hk1
    have hk3 : k < 3570 := by omega
    have hne : ¬ en ≤ k := by omega
    rw [e128_116]
    by_cases k1 : c < 10000
    · have kc : mCell c = nI c := mc_num k1
      have ke : ev1 nm st c = nI c :: st := if_pos k1
      have kh : st.length < 40 := by
        unfold ht1 at hk1
        rw [if_pos (by omega)] at hk1
        by_cases h : st.length < 40
        · exact h
        · rw [if_neg h] at hk1; cases hk1
      have hneg : ¬ nI c ≤ -nI 100 := fun h => by
        have e5 : (-nI 100).toInt = -100 := by decide
        rw [Int32.le_iff_toInt_le, e5, nI_toInt (by omega)] at h; omega
      rw [ke] at hl
      simp (disch := first | assumption | exact ct_i | exact ct_r | exact ct_n | exact ct_h | omega | exact z_in (by omega) (by omega) | exact b01 | exact Or.inl rfl | exact Or.inr rfl) only [e128_0, e128_1, e128_4, e128_5, e128_6, e128_7, e128_10, e128_11, e128_14, e128_15, e128_16, e128_17, e128_20, e128_21, e128_22, e128_23, e128_26, e128_27, e128_30, e128_33, e128_34, e128_37, e128_38, e128_39, e128_40, e128_41, e128_44, e128_45, e128_46, e128_49, e128_50, e128_51, e128_54, e128_55, e128_56, e128_57, e128_58, e128_61, e128_62, e128_63, e128_64, e128_67, e128_68, e128_71, e128_72, e128_73, e128_76, e128_77, e128_78, e128_81, e128_82, e128_83, e128_84, e128_87, e128_88, e128_91, e128_92, e128_93, e128_94, e128_97, e128_98, e128_99, e128_101, e128_102, e128_105, e128_106, e128_107, e128_110, e128_111, e128_112, e128_113, e128_114, e128_118, e128_119, e128_122, e128_123, e128_124, e128_127, e128_128, e128_129, e128_130, e128_131, e128_134, e128_135, e128_138, e128_140, e128_141, e128_143, e128_145, e128_147, e128_150, e128_151, e128_154, e128_156, e128_158, e128_161, e128_162, e128_165, e128_166, e128_168, e128_169, e128_170, e128_173, e128_175, e128_176, e128_179, e128_182, e128_184, e128_186, e128_189, e128_190, e128_193, e128_195, e128_196, e128_197, e128_198, e128_201, e128_203, e128_204, e128_205, e128_206, e128_207, e128_208, e128_211, e128_213, e128_215, e128_218, e128_219, e128_222, e128_224, e128_225, e128_226, e128_227, e128_230, e128_232, e128_233, e128_234, e128_235, e128_238, e128_239, e128_242, e128_243, e128_244, e128_247, e128_250, e128_251, e128_254, e128_256, e128_257, e128_258, e128_260, e128_262, e128_263, e128_264, e128_267, e128_269, e128_270, e128_271, e128_272, e128_273, e128_276, e128_278, e128_279, e128_282, e128_283, e128_286, e128_290, e128_293, e128_294, e128_295, ct_i, ct_r, ct_n, ct_h, opt_v, opt_s, ref_s, ref_n, eq_self_iff_true, true_or, or_true, zl0, zl1, zl2, zl3, zl4, zl5, zl6, zl7, zl8, zl9, zl10, zl16, zl32, zl40, zl100, zl160, zIc1, zI_lt, zI_le, nI_eq, nI_add, z_sub, nI_clamp, zI_of, uu_eq, uu_ne, Nat.reduceLT, Nat.reduceLeDiff, Nat.reduceEqDiff, Nat.reduceAdd, Nat.reduceSub, Nat.reduceMul, Nat.not_lt_zero, Nat.lt_irrefl, Nat.le_refl, Bool.false_eq_true, false_and, and_false, true_and, and_true, if_pos, if_neg, if_true, if_false, not_true_eq_false, not_false_eq_true, zI_mul, m0, x10, y10, r18, x12, y12, r20, x14, y14, r30, e1, e2, e4, kc, hne, hneg]
      refine ih (nI c :: st) (k + 1) _ _ (fun x y hx => by rw [uu_ne _ _ _ _ (by omega)]; exact hI x y hx) (by simp; omega) ⟨by rw [uu_eq], stkL_up (Nat.le_refl _) hst⟩ (by rw [hl]; exact hok1) (by omega) hc' (by rw [← ke]; exact H)
    · obtain ⟨w, rfl⟩ : ∃ w, c = 10000 + w := ⟨c - 10000, by omega⟩
      by_cases k2 : w < 6
      · obtain ⟨kc1, kc2, kc3⟩ := mc_nm k2
        have ke : ev1 nm st (10000 + w) = nm w :: st := by
          unfold ev1
          rw [if_neg (by omega), if_pos (by omega), Nat.add_sub_cancel_left]
        have kh : st.length < 40 := by
          unfold ht1 at hk1
          rw [if_pos (by omega)] at hk1
          by_cases h : st.length < 40
          · exact h
          · rw [if_neg h] at hk1; cases hk1
        have e5 : I 15 w = nm w := (hI _ _ (by omega)).trans (hnm w k2)
        rw [ke] at hl
        simp (disch := first | assumption | exact ct_i | exact ct_r | exact ct_n | exact ct_h | omega | exact z_in (by omega) (by omega) | exact b01 | exact Or.inl rfl | exact Or.inr rfl) only [e128_0, e128_1, e128_4, e128_5, e128_6, e128_7, e128_10, e128_11, e128_14, e128_15, e128_16, e128_17, e128_20, e128_21, e128_22, e128_23, e128_26, e128_27, e128_30, e128_33, e128_34, e128_37, e128_38, e128_39, e128_40, e128_41, e128_44, e128_45, e128_46, e128_49, e128_50, e128_51, e128_54, e128_55, e128_56, e128_57, e128_58, e128_61, e128_62, e128_63, e128_64, e128_67, e128_68, e128_71, e128_72, e128_73, e128_76, e128_77, e128_78, e128_81, e128_82, e128_83, e128_84, e128_87, e128_88, e128_91, e128_92, e128_93, e128_94, e128_97, e128_98, e128_99, e128_101, e128_102, e128_105, e128_106, e128_107, e128_110, e128_111, e128_112, e128_113, e128_114, e128_118, e128_119, e128_122, e128_123, e128_124, e128_127, e128_128, e128_129, e128_130, e128_131, e128_134, e128_135, e128_138, e128_140, e128_141, e128_143, e128_145, e128_147, e128_150, e128_151, e128_154, e128_156, e128_158, e128_161, e128_162, e128_165, e128_166, e128_168, e128_169, e128_170, e128_173, e128_175, e128_176, e128_179, e128_182, e128_184, e128_186, e128_189, e128_190, e128_193, e128_195, e128_196, e128_197, e128_198, e128_201, e128_203, e128_204, e128_205, e128_206, e128_207, e128_208, e128_211, e128_213, e128_215, e128_218, e128_219, e128_222, e128_224, e128_225, e128_226, e128_227, e128_230, e128_232, e128_233, e128_234, e128_235, e128_238, e128_239, e128_242, e128_243, e128_244, e128_247, e128_250, e128_251, e128_254, e128_256, e128_257, e128_258, e128_260, e128_262, e128_263, e128_264, e128_267, e128_269, e128_270, e128_271, e128_272, e128_273, e128_276, e128_278, e128_279, e128_282, e128_283, e128_286, e128_290, e128_293, e128_294, e128_295, ct_i, ct_r, ct_n, ct_h, opt_v, opt_s, ref_s, ref_n, eq_self_iff_true, true_or, or_true, zl0, zl1, zl2, zl3, zl4, zl5, zl6, zl7, zl8, zl9, zl10, zl16, zl32, zl40, zl100, zl160, zIc1, zI_lt, zI_le, nI_eq, nI_add, z_sub, nI_clamp, zI_of, uu_eq, uu_ne, Nat.reduceLT, Nat.reduceLeDiff, Nat.reduceEqDiff, Nat.reduceAdd, Nat.reduceSub, Nat.reduceMul, Nat.not_lt_zero, Nat.lt_irrefl, Nat.le_refl, Bool.false_eq_true, false_and, and_false, true_and, and_true, if_pos, if_neg, if_true, if_false, not_true_eq_false, not_false_eq_true, zI_mul, m0, x10, y10, r18, x12, y12, r20, x14, y14, r30, x15, y15, r31, e1, e2, e4, hne, kc1, kc2, kc3, e5]
        refine ih (nm w :: st) (k + 1) _ _ (fun x y hx => by rw [uu_ne _ _ _ _ (by omega)]; exact hI x y hx) (by simp; omega) ⟨by rw [uu_eq], stkL_up (Nat.le_refl _) hst⟩ (by rw [hl]; exact hok1) (by omega) hc' (by rw [← ke]; exact H)
      · have k3 : w < 15 := by
          unfold ht1 at hk1
          rw [if_neg (by omega)] at hk1
          by_cases h : 10000 + w < 10008
          · omega
          · rw [if_neg h] at hk1
            split at hk1
            · omega
            · cases hk1
        obtain ⟨kc1, kc2, kc3, kc4⟩ := mc_op k3 (by omega)
        have kl : st.length ≤ 40 ∧ 1 ≤ st.length := by
          refine ⟨h40, ?_⟩
          unfold ht1 at hk1
          rw [if_neg (by omega)] at hk1
          split at hk1
          · split at hk1
            · assumption
            · cases hk1
          · split at hk1
            · omega
            · cases hk1
        match st, kl with
        | x :: st, kl =>
        simp only [List.length_cons] at kl
        have ex : I 14 st.length = x := hst.1
        have zs : nI (st.length + 1) - nI 1 = nI st.length := by rw [z_sub (by omega), Nat.add_sub_cancel]
        by_cases k6 : w = 6
        · subst k6
          have ke : ev1 nm (x :: st) (10000 + 6) = (-x) :: st := rfl
          rw [ke] at hl
          have kc2' : mCell (10000 + 6) = -nI 100 := by decide
          simp (disch := first | assumption | exact ct_i | exact ct_r | exact ct_n | exact ct_h | omega | exact z_in (by omega) (by omega) | exact b01 | exact Or.inl rfl | exact Or.inr rfl) only [e128_0, e128_1, e128_4, e128_5, e128_6, e128_7, e128_10, e128_11, e128_14, e128_15, e128_16, e128_17, e128_20, e128_21, e128_22, e128_23, e128_26, e128_27, e128_30, e128_33, e128_34, e128_37, e128_38, e128_39, e128_40, e128_41, e128_44, e128_45, e128_46, e128_49, e128_50, e128_51, e128_54, e128_55, e128_56, e128_57, e128_58, e128_61, e128_62, e128_63, e128_64, e128_67, e128_68, e128_71, e128_72, e128_73, e128_76, e128_77, e128_78, e128_81, e128_82, e128_83, e128_84, e128_87, e128_88, e128_91, e128_92, e128_93, e128_94, e128_97, e128_98, e128_99, e128_101, e128_102, e128_105, e128_106, e128_107, e128_110, e128_111, e128_112, e128_113, e128_114, e128_118, e128_119, e128_122, e128_123, e128_124, e128_127, e128_128, e128_129, e128_130, e128_131, e128_134, e128_135, e128_138, e128_140, e128_141, e128_143, e128_145, e128_147, e128_150, e128_151, e128_154, e128_156, e128_158, e128_161, e128_162, e128_165, e128_166, e128_168, e128_169, e128_170, e128_173, e128_175, e128_176, e128_179, e128_182, e128_184, e128_186, e128_189, e128_190, e128_193, e128_195, e128_196, e128_197, e128_198, e128_201, e128_203, e128_204, e128_205, e128_206, e128_207, e128_208, e128_211, e128_213, e128_215, e128_218, e128_219, e128_222, e128_224, e128_225, e128_226, e128_227, e128_230, e128_232, e128_233, e128_234, e128_235, e128_238, e128_239, e128_242, e128_243, e128_244, e128_247, e128_250, e128_251, e128_254, e128_256, e128_257, e128_258, e128_260, e128_262, e128_263, e128_264, e128_267, e128_269, e128_270, e128_271, e128_272, e128_273, e128_276, e128_278, e128_279, e128_282, e128_283, e128_286, e128_290, e128_293, e128_294, e128_295, ct_i, ct_r, ct_n, ct_h, opt_v, opt_s, ref_s, ref_n, eq_self_iff_true, true_or, or_true, zl0, zl1, zl2, zl3, zl4, zl5, zl6, zl7, zl8, zl9, zl10, zl16, zl32, zl40, zl100, zl160, zIc1, zI_lt, zI_le, nI_eq, nI_add, z_sub, nI_clamp, zI_of, uu_eq, uu_ne, Nat.reduceLT, Nat.reduceLeDiff, Nat.reduceEqDiff, Nat.reduceAdd, Nat.reduceSub, Nat.reduceMul, Nat.not_lt_zero, Nat.lt_irrefl, Nat.le_refl, Bool.false_eq_true, false_and, and_false, true_and, and_true, if_pos, if_neg, if_true, if_false, not_true_eq_false, not_false_eq_true, zI_mul, m0, x10, y10, r18, x12, y12, r20, x14, y14, r30, x15, y15, r31, List.length_cons, e1, e2, e4, hne, kc1, kc2', zs, ex]
          refine ih ((-x) :: st) (k + 1) _ _ (fun x y hx => by rw [uu_ne _ _ _ _ (by omega)]; exact hI x y hx) (by simp; omega) ⟨by rw [uu_eq], stkL_up (Nat.le_refl _) hst.2⟩ (by rw [hl]; exact hok1) (by omega) hc' (by rw [← ke]; exact H)
        · by_cases k7 : w = 7
          · subst k7
            have ke : ev1 nm (x :: st) (10000 + 7) = (if x = 0 then 1 else 0) :: st := rfl
            rw [ke] at hl
            have kc2' : mCell (10000 + 7) = -101 := by decide
            have kc3' : (-101 : Int32) ≤ -nI 100 := by decide
            have kc4' : ¬ (-101 : Int32) = -nI 100 := by decide
            have key : ∀ v, v = (if x = 0 then (1 : Int32) else 0) → aE (a_cl_ d) 128 (116, [.ref 0, .int (nI part), .int v2, .int v3, .int (nI (st.length + 1)), .int (nI (k + 1)), .int (-101)], [], (n, t, sh, u2 I 14 st.length v, L, R)) Q := by
              intro v hv
              subst hv
              exact ih ((if x = 0 then 1 else 0) :: st) (k + 1) _ _ (fun x y hx => by rw [uu_ne _ _ _ _ (by omega)]; exact hI x y hx) (by simp; omega) ⟨by rw [uu_eq], stkL_up (Nat.le_refl _) hst.2⟩ (by rw [hl]; exact hok1) (by omega) hc' (by rw [← ke]; exact H)
            by_cases hx : x = 0
            · have hx0 : x = nI 0 := hx
              subst hx0
              simp (disch := first | assumption | exact ct_i | exact ct_r | exact ct_n | exact ct_h | omega | exact z_in (by omega) (by omega) | exact b01 | exact Or.inl rfl | exact Or.inr rfl) only [e128_0, e128_1, e128_4, e128_5, e128_6, e128_7, e128_10, e128_11, e128_14, e128_15, e128_16, e128_17, e128_20, e128_21, e128_22, e128_23, e128_26, e128_27, e128_30, e128_33, e128_34, e128_37, e128_38, e128_39, e128_40, e128_41, e128_44, e128_45, e128_46, e128_49, e128_50, e128_51, e128_54, e128_55, e128_56, e128_57, e128_58, e128_61, e128_62, e128_63, e128_64, e128_67, e128_68, e128_71, e128_72, e128_73, e128_76, e128_77, e128_78, e128_81, e128_82, e128_83, e128_84, e128_87, e128_88, e128_91, e128_92, e128_93, e128_94, e128_97, e128_98, e128_99, e128_101, e128_102, e128_105, e128_106, e128_107, e128_110, e128_111, e128_112, e128_113, e128_114, e128_118, e128_119, e128_122, e128_123, e128_124, e128_127, e128_128, e128_129, e128_130, e128_131, e128_134, e128_135, e128_138, e128_140, e128_141, e128_143, e128_145, e128_147, e128_150, e128_151, e128_154, e128_156, e128_158, e128_161, e128_162, e128_165, e128_166, e128_168, e128_169, e128_170, e128_173, e128_175, e128_176, e128_179, e128_182, e128_184, e128_186, e128_189, e128_190, e128_193, e128_195, e128_196, e128_197, e128_198, e128_201, e128_203, e128_204, e128_205, e128_206, e128_207, e128_208, e128_211, e128_213, e128_215, e128_218, e128_219, e128_222, e128_224, e128_225, e128_226, e128_227, e128_230, e128_232, e128_233, e128_234, e128_235, e128_238, e128_239, e128_242, e128_243, e128_244, e128_247, e128_250, e128_251, e128_254, e128_256, e128_257, e128_258, e128_260, e128_262, e128_263, e128_264, e128_267, e128_269, e128_270, e128_271, e128_272, e128_273, e128_276, e128_278, e128_279, e128_282, e128_283, e128_286, e128_290, e128_293, e128_294, e128_295, ct_i, ct_r, ct_n, ct_h, opt_v, opt_s, ref_s, ref_n, eq_self_iff_true, true_or, or_true, zl0, zl1, zl2, zl3, zl4, zl5, zl6, zl7, zl8, zl9, zl10, zl16, zl32, zl40, zl100, zl160, zIc1, zI_lt, zI_le, nI_eq, nI_add, z_sub, nI_clamp, zI_of, uu_eq, uu_ne, Nat.reduceLT, Nat.reduceLeDiff, Nat.reduceEqDiff, Nat.reduceAdd, Nat.reduceSub, Nat.reduceMul, Nat.not_lt_zero, Nat.lt_irrefl, Nat.le_refl, Bool.false_eq_true, false_and, and_false, true_and, and_true, if_pos, if_neg, if_true, if_false, not_true_eq_false, not_false_eq_true, zI_mul, m0, x10, y10, r18, x12, y12, r20, x14, y14, r30, x15, y15, r31, List.length_cons, e1, e2, e4, hne, kc2', kc3', kc4', zs, ex]
              exact key (nI 1) (by decide)
            · have hx' : ¬ x = nI 0 := hx
              simp (disch := first | assumption | exact ct_i | exact ct_r | exact ct_n | exact ct_h | omega | exact z_in (by omega) (by omega) | exact b01 | exact Or.inl rfl | exact Or.inr rfl) only [e128_0, e128_1, e128_4, e128_5, e128_6, e128_7, e128_10, e128_11, e128_14, e128_15, e128_16, e128_17, e128_20, e128_21, e128_22, e128_23, e128_26, e128_27, e128_30, e128_33, e128_34, e128_37, e128_38, e128_39, e128_40, e128_41, e128_44, e128_45, e128_46, e128_49, e128_50, e128_51, e128_54, e128_55, e128_56, e128_57, e128_58, e128_61, e128_62, e128_63, e128_64, e128_67, e128_68, e128_71, e128_72, e128_73, e128_76, e128_77, e128_78, e128_81, e128_82, e128_83, e128_84, e128_87, e128_88, e128_91, e128_92, e128_93, e128_94, e128_97, e128_98, e128_99, e128_101, e128_102, e128_105, e128_106, e128_107, e128_110, e128_111, e128_112, e128_113, e128_114, e128_118, e128_119, e128_122, e128_123, e128_124, e128_127, e128_128, e128_129, e128_130, e128_131, e128_134, e128_135, e128_138, e128_140, e128_141, e128_143, e128_145, e128_147, e128_150, e128_151, e128_154, e128_156, e128_158, e128_161, e128_162, e128_165, e128_166, e128_168, e128_169, e128_170, e128_173, e128_175, e128_176, e128_179, e128_182, e128_184, e128_186, e128_189, e128_190, e128_193, e128_195, e128_196, e128_197, e128_198, e128_201, e128_203, e128_204, e128_205, e128_206, e128_207, e128_208, e128_211, e128_213, e128_215, e128_218, e128_219, e128_222, e128_224, e128_225, e128_226, e128_227, e128_230, e128_232, e128_233, e128_234, e128_235, e128_238, e128_239, e128_242, e128_243, e128_244, e128_247, e128_250, e128_251, e128_254, e128_256, e128_257, e128_258, e128_260, e128_262, e128_263, e128_264, e128_267, e128_269, e128_270, e128_271, e128_272, e128_273, e128_276, e128_278, e128_279, e128_282, e128_283, e128_286, e128_290, e128_293, e128_294, e128_295, ct_i, ct_r, ct_n, ct_h, opt_v, opt_s, ref_s, ref_n, eq_self_iff_true, true_or, or_true, zl0, zl1, zl2, zl3, zl4, zl5, zl6, zl7, zl8, zl9, zl10, zl16, zl32, zl40, zl100, zl160, zIc1, zI_lt, zI_le, nI_eq, nI_add, z_sub, nI_clamp, zI_of, uu_eq, uu_ne, Nat.reduceLT, Nat.reduceLeDiff, Nat.reduceEqDiff, Nat.reduceAdd, Nat.reduceSub, Nat.reduceMul, Nat.not_lt_zero, Nat.lt_irrefl, Nat.le_refl, Bool.false_eq_true, false_and, and_false, true_and, and_true, if_pos, if_neg, if_true, if_false, not_true_eq_false, not_false_eq_true, zI_mul, m0, x10, y10, r18, x12, y12, r20, x14, y14, r30, x15, y15, r31, List.length_cons, e1, e2, e4, hne, kc2', kc3', kc4', zs, ex, hx']
              exact key (nI 0) (by rw [if_neg hx]; rfl)
          · have kl2 : 1 ≤ st.length := by
              unfold ht1 at hk1
              rw [if_neg (by omega), if_neg (by omega)] at hk1
              simp only [List.length_cons] at hk1
              split at hk1
              · omega
              · cases hk1
            match st, kl2 with
            | y :: st, kl2 =>
            simp only [List.length_cons] at kl zs
            have ey : I 14 st.length = y := hst.2.1
            have zs2 : nI (st.length + 1) - nI 1 = nI st.length := by rw [z_sub (by omega), Nat.add_sub_cancel]
            simp only [List.length_cons] at ex
            have ke : ev1 nm (x :: y :: st) (10000 + w) = ev2 w y x :: st := by
              unfold ev1
              rw [if_neg (by omega), if_neg (by omega)]
              simp only [if_neg (show ¬ 10000 + w = 10006 by omega), if_neg (show ¬ 10000 + w = 10007 by omega), Nat.add_sub_cancel_left]
            rw [ke] at hl
            have kc2' : ¬ mCell (10000 + w) = -nI 100 := fun h => k6 (kc2.mp h)
            have kc3' : ¬ mCell (10000 + w) = -101 := fun h => k7 (kc3.mp h)
            have kc4' := kc4 (by omega)
            simp (disch := first | assumption | exact ct_i | exact ct_r | exact ct_n | exact ct_h | omega | exact z_in (by omega) (by omega) | exact b01 | exact Or.inl rfl | exact Or.inr rfl) only [e128_0, e128_1, e128_4, e128_5, e128_6, e128_7, e128_10, e128_11, e128_14, e128_15, e128_16, e128_17, e128_20, e128_21, e128_22, e128_23, e128_26, e128_27, e128_30, e128_33, e128_34, e128_37, e128_38, e128_39, e128_40, e128_41, e128_44, e128_45, e128_46, e128_49, e128_50, e128_51, e128_54, e128_55, e128_56, e128_57, e128_58, e128_61, e128_62, e128_63, e128_64, e128_67, e128_68, e128_71, e128_72, e128_73, e128_76, e128_77, e128_78, e128_81, e128_82, e128_83, e128_84, e128_87, e128_88, e128_91, e128_92, e128_93, e128_94, e128_97, e128_98, e128_99, e128_101, e128_102, e128_105, e128_106, e128_107, e128_110, e128_111, e128_112, e128_113, e128_114, e128_118, e128_119, e128_122, e128_123, e128_124, e128_127, e128_128, e128_129, e128_130, e128_131, e128_134, e128_135, e128_138, e128_140, e128_141, e128_143, e128_145, e128_147, e128_150, e128_151, e128_154, e128_156, e128_158, e128_161, e128_162, e128_165, e128_166, e128_168, e128_169, e128_170, e128_173, e128_175, e128_176, e128_179, e128_182, e128_184, e128_186, e128_189, e128_190, e128_193, e128_195, e128_196, e128_197, e128_198, e128_201, e128_203, e128_204, e128_205, e128_206, e128_207, e128_208, e128_211, e128_213, e128_215, e128_218, e128_219, e128_222, e128_224, e128_225, e128_226, e128_227, e128_230, e128_232, e128_233, e128_234, e128_235, e128_238, e128_239, e128_242, e128_243, e128_244, e128_247, e128_250, e128_251, e128_254, e128_256, e128_257, e128_258, e128_260, e128_262, e128_263, e128_264, e128_267, e128_269, e128_270, e128_271, e128_272, e128_273, e128_276, e128_278, e128_279, e128_282, e128_283, e128_286, e128_290, e128_293, e128_294, e128_295, ct_i, ct_r, ct_n, ct_h, opt_v, opt_s, ref_s, ref_n, eq_self_iff_true, true_or, or_true, zl0, zl1, zl2, zl3, zl4, zl5, zl6, zl7, zl8, zl9, zl10, zl16, zl32, zl40, zl100, zl160, zIc1, zI_lt, zI_le, nI_eq, nI_add, z_sub, nI_clamp, zI_of, uu_eq, uu_ne, Nat.reduceLT, Nat.reduceLeDiff, Nat.reduceEqDiff, Nat.reduceAdd, Nat.reduceSub, Nat.reduceMul, Nat.not_lt_zero, Nat.lt_irrefl, Nat.le_refl, Bool.false_eq_true, false_and, and_false, true_and, and_true, if_pos, if_neg, if_true, if_false, not_true_eq_false, not_false_eq_true, zI_mul, zIm1, z_dn, m0, x10, y10, r18, x12, y12, r20, x14, y14, r30, x15, y15, r31, List.length_cons, e1, e2, e4, hne, kc1, kc2', kc3', kc4', zs, zs2, ex, ey, k131 hd k3 (show 8 ≤ w by omega)]
            refine ih (ev2 w y x :: st) (k + 1) _ _ (fun x y hx => by rw [uu_ne _ _ _ _ (by omega)]; exact hI x y hx) (by simp; omega) ⟨by rw [uu_eq], stkL_up (Nat.le_refl _) hst.2.2⟩ (by rw [hl]; exact hok1) (by omega) hc' (by rw [← ke]; exact H)
end
