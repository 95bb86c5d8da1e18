/-! the model's call: text -/
def frB (i : Nat) (I0 I : Nat → Nat → Int32) : Prop := ∀ x k, ¬ (x = 0 ∧ 21 ≤ k ∧ k ≤ 28 ∨ x = 10 ∧ 510 * i ≤ k ∨ (x = 11 ∨ x = 12) ∧ 3 * i ≤ k) → I x k = I0 x k
theorem frN_B {i : Nat} {I0 I : Nat → Nat → Int32} (h : frN i I0 I) : frB i I0 I := fun x k hx => h x k (by omega)
theorem frB_t {i : Nat} {I0 I I' : Nat → Nat → Int32} (h : frB i I0 I) (h' : frB i I I') : frB i I0 I' := fun x k hx => (h' x k hx).trans (h x k hx)
theorem frB_u {i : Nat} {I0 I : Nat → Nat → Int32} {x k : Nat} {v : Int32} (h : frB i I0 I) (hx : (x = 11 ∨ x = 12) ∧ 3 * i ≤ k) : frB i I0 (u2 I x k v) := fun y z hy => by
  rw [uu_ne _ _ _ _ (by omega)]; exact h y z hy
section
variable {tp : Nat → Nat} {s d i : Nat} {n t : Nat} {sh : Nat → Nat × Nat} {L : Nat → Nat → Int64} {R : Nat → Nat → Option Nat} {Q : Option Value → aH → Prop}
theorem pO_ar {o p : Nat} {c : List Nat} {I0 I : Nat → Nat → Int32} {x k : Nat} {v : Int32} (hx : x = 11 ∨ x = 12) (hP : pO tp s i o p c I0 I) : pO tp s i o p c (u2 I0 x k v) (u2 I x k v) := by
  obtain ⟨h1, h2, h3, h4, h5, h6⟩ := hP
  refine ⟨⟨h1.1, ?_, ?_, ?_, fun g1 g2 => ?_⟩, ⟨h2.1, ⟨?_, fun k hk => ?_⟩, fun j hj => ?_⟩, ?_, ⟨?_, fun j hj => ?_⟩, ?_, fun y z hy => ?_⟩
  · rw [uu_ne _ _ _ _ (by omega)]; exact h1.2.1
  · rw [uu_ne _ _ _ _ (by omega)]; exact h1.2.2.1
  · rw [uu_ne _ _ _ _ (by omega)]; exact h1.2.2.2.1
  · rw [uu_ne _ _ _ _ (by omega)]; exact h1.2.2.2.2 g1 g2
  · rw [uu_ne _ _ _ _ (by omega)]; exact h2.2.1.1
  · rw [uu_ne _ _ _ _ (by omega)]; exact h2.2.1.2 k hk
  · rw [uu_ne _ _ _ _ (by omega)]; exact h2.2.2 j hj
  · rw [uu_ne _ _ _ _ (by omega)]; exact h3
  · rw [uu_ne _ _ _ _ (by omega)]; exact h4.1
  · rw [uu_ne _ _ _ _ (by omega)]; exact h4.2 j hj
  · rw [uu_ne _ _ _ _ (by omega)]; exact h5
  · by_cases hyz : y = x ∧ z = k
    · obtain ⟨rfl, rfl⟩ := hyz; rw [uu_eq, uu_eq]
    · rw [uu_ne _ _ _ _ hyz, uu_ne _ _ _ _ hyz]; exact h6 y z hy
/-- in fault all goes to the end -/
theorem k137w (hd : 1 ≤ d) (hM : mK sh R) {I : Nat → Nat → Int32} (h27 : I 0 27 = nI 1) {v1 : Int32} (H : aE (a_cl_ d) 137 (158, [.ref 0, .int v1], [], (n, t, sh, I, L, R)) Q) : aE (a_cl_ d) 137 (140, [.ref 0, .int v1], [], (n, t, sh, I, L, R)) Q := by
  have m0 := mm_0 hM
  simp (disch := first | assumption | exact ct_i | exact ct_r | exact ct_n | exact ct_h | omega | exact z_in (by omega) (by omega) | exact b01 | exact Or.inl rfl | exact Or.inr rfl) only [e137_0, e137_1, e137_4, e137_6, e137_9, e137_11, e137_12, e137_13, e137_14, e137_17, e137_18, e137_19, e137_22, e137_23, e137_24, e137_27, e137_28, e137_31, e137_32, e137_35, e137_36, e137_39, e137_40, e137_43, e137_44, e137_46, e137_47, e137_50, e137_51, e137_54, e137_57, e137_58, e137_59, e137_62, e137_65, e137_66, e137_69, e137_72, e137_73, e137_76, e137_77, e137_80, e137_81, e137_82, e137_85, e137_86, e137_87, e137_88, e137_89, e137_92, e137_93, e137_94, e137_97, e137_98, e137_101, e137_102, e137_103, e137_106, e137_107, e137_108, e137_109, e137_110, e137_113, e137_114, e137_115, e137_117, e137_120, e137_123, e137_124, e137_127, e137_130, e137_131, e137_134, e137_137, e137_140, e137_141, e137_144, e137_147, e137_148, e137_151, e137_154, e137_155, e137_159, e137_160, e137_163, e137_164, e137_167, e137_170, e137_172, e137_173, e137_176, e137_177, e137_178, e137_179, e137_180, e137_183, e137_184, e137_185, e137_188, e137_189, e137_192, e137_193, e137_194, ct_i, ct_r, ct_n, ct_h, opt_v, opt_s, ref_s, ref_n, eq_self_iff_true, true_or, or_true, zl0, zl1, zl2, zl3, zl4, zl5, zl6, zl7, zl8, zl9, zl10, zl16, zl32, zl40, zl100, zl160, zIc1, zI_lt, zI_le, nI_eq, nI_add, z_sub, nI_clamp, zI_of, uu_eq, uu_ne, Nat.reduceLT, Nat.reduceLeDiff, Nat.reduceEqDiff, Nat.reduceAdd, Nat.reduceSub, Nat.reduceMul, Nat.not_lt_zero, Nat.lt_irrefl, Nat.le_refl, Bool.false_eq_true, false_and, and_false, true_and, and_true, if_pos, if_neg, if_true, if_false, not_true_eq_false, not_false_eq_true, m0, h27]
  exact H
theorem k137v (hd : 1 ≤ d) (hM : mK sh R) {I : Nat → Nat → Int32} (h27 : I 0 27 = nI 1) {k : Nat} (hk : k < 9) (H : aE (a_cl_ d) 137 (158, [.ref 0, .int (nI k)], [], (n, t, sh, I, L, R)) Q) : aE (a_cl_ d) 137 (45, [.ref 0, .int (nI k)], [], (n, t, sh, I, L, R)) Q := by
  have m0 := mm_0 hM
  have q := k137w hd hM h27 H
  rw [e137_45]
  by_cases h3 : 3 ≤ k
  · simp (disch := first | assumption | exact ct_i | exact ct_r | exact ct_n | exact ct_h | omega | exact z_in (by omega) (by omega) | exact b01 | exact Or.inl rfl | exact Or.inr rfl) only [e137_0, e137_1, e137_4, e137_6, e137_9, e137_11, e137_12, e137_13, e137_14, e137_17, e137_18, e137_19, e137_22, e137_23, e137_24, e137_27, e137_28, e137_31, e137_32, e137_35, e137_36, e137_39, e137_40, e137_43, e137_44, e137_46, e137_47, e137_50, e137_51, e137_54, e137_57, e137_58, e137_59, e137_62, e137_65, e137_66, e137_69, e137_72, e137_73, e137_76, e137_77, e137_80, e137_81, e137_82, e137_85, e137_86, e137_87, e137_88, e137_89, e137_92, e137_93, e137_94, e137_97, e137_98, e137_101, e137_102, e137_103, e137_106, e137_107, e137_108, e137_109, e137_110, e137_113, e137_114, e137_115, e137_117, e137_120, e137_123, e137_124, e137_127, e137_130, e137_131, e137_134, e137_137, e137_141, e137_144, e137_147, e137_148, e137_151, e137_154, e137_155, e137_158, e137_159, e137_160, e137_163, e137_164, e137_167, e137_170, e137_172, e137_173, e137_176, e137_177, e137_178, e137_179, e137_180, e137_183, e137_184, e137_185, e137_188, e137_189, e137_192, e137_193, e137_194, ct_i, ct_r, ct_n, ct_h, opt_v, opt_s, ref_s, ref_n, eq_self_iff_true, true_or, or_true, zl0, zl1, zl2, zl3, zl4, zl5, zl6, zl7, zl8, zl9, zl10, zl16, zl32, zl40, zl100, zl160, zIc1, zI_lt, zI_le, nI_eq, nI_add, z_sub, nI_clamp, zI_of, uu_eq, uu_ne, Nat.reduceLT, Nat.reduceLeDiff, Nat.reduceEqDiff, Nat.reduceAdd, Nat.reduceSub, Nat.reduceMul, Nat.not_lt_zero, Nat.lt_irrefl, Nat.le_refl, Bool.false_eq_true, false_and, and_false, true_and, and_true, if_pos, if_neg, if_true, if_false, not_true_eq_false, not_false_eq_true, m0, h3]
    exact q
  · simp (disch := first | assumption | exact ct_i | exact ct_r | exact ct_n | exact ct_h | omega | exact z_in (by omega) (by omega) | exact b01 | exact Or.inl rfl | exact Or.inr rfl) only [e137_0, e137_1, e137_4, e137_6, e137_9, e137_11, e137_12, e137_13, e137_14, e137_17, e137_18, e137_19, e137_22, e137_23, e137_24, e137_27, e137_28, e137_31, e137_32, e137_35, e137_36, e137_39, e137_40, e137_43, e137_44, e137_46, e137_47, e137_50, e137_51, e137_54, e137_57, e137_58, e137_59, e137_62, e137_65, e137_66, e137_69, e137_72, e137_73, e137_76, e137_77, e137_80, e137_81, e137_82, e137_85, e137_86, e137_87, e137_88, e137_89, e137_92, e137_93, e137_94, e137_97, e137_98, e137_101, e137_102, e137_103, e137_106, e137_107, e137_108, e137_109, e137_110, e137_113, e137_114, e137_115, e137_117, e137_120, e137_123, e137_124, e137_127, e137_130, e137_131, e137_134, e137_137, e137_141, e137_144, e137_147, e137_148, e137_151, e137_154, e137_155, e137_158, e137_159, e137_160, e137_163, e137_164, e137_167, e137_170, e137_172, e137_173, e137_176, e137_177, e137_178, e137_179, e137_180, e137_183, e137_184, e137_185, e137_188, e137_189, e137_192, e137_193, e137_194, ct_i, ct_r, ct_n, ct_h, opt_v, opt_s, ref_s, ref_n, eq_self_iff_true, true_or, or_true, zl0, zl1, zl2, zl3, zl4, zl5, zl6, zl7, zl8, zl9, zl10, zl16, zl32, zl40, zl100, zl160, zIc1, zI_lt, zI_le, nI_eq, nI_add, z_sub, nI_clamp, zI_of, uu_eq, uu_ne, Nat.reduceLT, Nat.reduceLeDiff, Nat.reduceEqDiff, Nat.reduceAdd, Nat.reduceSub, Nat.reduceMul, Nat.not_lt_zero, Nat.lt_irrefl, Nat.le_refl, Bool.false_eq_true, false_and, and_false, true_and, and_true, if_pos, if_neg, if_true, if_false, not_true_eq_false, not_false_eq_true, m0, h27, h3]
    exact q
theorem k137l (hd : 77 ≤ d) (hM : mK sh R) (hi : i < 6) (hs160 : s ≤ 160) {B : Nat → Nat → Int32} (hB16 : B 0 16 = nI i) {F : Option Nat × (Nat → List Nat)}
    (Hw : ∀ I' p v1, F.1 = some p → frB i B I' → I' 0 27 = nI 1 → I' 0 28 = nI p → aE (a_cl_ d) 137 (158, [.ref 0, .int v1], [], (n, t, sh, I', L, R)) Q)
    (Ho : ∀ I' v1, F.1 = none → frB i B I' → I' 0 27 = nI 0 → txM F.2 i I' → aE (a_cl_ d) 137 (158, [.ref 0, .int v1], [], (n, t, sh, I', L, R)) Q) :
    ∀ m k p c f I0 I, k + m = 3 → p ≤ s → pO tp s i 0 p c I0 I → frB i B I0 → c.length ≤ p → c = ccF f k → (∀ q, q < k → I0 11 (3 * i + q) = nI (510 * i + tS f q) ∧ I0 12 (3 * i + q) = nI (510 * i + tS f q + (f q).length)) → rdF tp s m k p c f = F →
    aE (a_cl_ d) 137 (45, [.ref 0, .int (nI k)], [], (n, t, sh, I, L, R)) Q := by
  have m0 := mm_0 hM
  have m0 := mm_0 hM; have x11 := mm_x11 hM; have y11 := mm_y11 hM; have r19 := mm_r19 hM; have x12 := mm_x12 hM; have y12 := mm_y12 hM; have r20 := mm_r20 hM
  have e59 : (59 : Int32) = nI 59 := rfl
  intro m
  induction m with
  | zero =>
    intro k p c f I0 I hk hp hP hB hc hcf hE hF
    obtain rfl : k = 3 := by omega
    have hT := tk_lt (tp := tp) (s := s) (p := p)
    have h24 := hP.1.2.2.2.1
    have h27 := hP.2.2.1
    have hlt6 := tkM_lt (T := tk tp s p)
    have hfr : frB i B I := frB_t hB (frN_B hP.2.2.2.2.2)
    simp only [rdF] at hF
    rw [e137_45]
    by_cases hq : tk tp s p = 256
    · rw [if_pos hq] at hF
      subst hF
      rw [hq] at h24
      have h24' : I 0 24 = nI 0 := h24
      simp (disch := first | assumption | exact ct_i | exact ct_r | exact ct_n | exact ct_h | omega | exact z_in (by omega) (by omega) | exact b01 | exact Or.inl rfl | exact Or.inr rfl) only [e137_0, e137_1, e137_4, e137_6, e137_9, e137_11, e137_12, e137_13, e137_14, e137_17, e137_18, e137_19, e137_22, e137_23, e137_24, e137_27, e137_28, e137_31, e137_32, e137_35, e137_36, e137_39, e137_40, e137_43, e137_44, e137_46, e137_47, e137_50, e137_51, e137_54, e137_57, e137_58, e137_59, e137_62, e137_65, e137_66, e137_69, e137_72, e137_73, e137_76, e137_77, e137_80, e137_81, e137_82, e137_85, e137_86, e137_87, e137_88, e137_89, e137_92, e137_93, e137_94, e137_97, e137_98, e137_101, e137_102, e137_103, e137_106, e137_107, e137_108, e137_109, e137_110, e137_113, e137_114, e137_115, e137_117, e137_120, e137_123, e137_124, e137_127, e137_130, e137_131, e137_134, e137_137, e137_140, e137_141, e137_144, e137_147, e137_148, e137_151, e137_154, e137_155, e137_159, e137_160, e137_163, e137_164, e137_167, e137_170, e137_172, e137_173, e137_176, e137_177, e137_178, e137_179, e137_180, e137_183, e137_184, e137_185, e137_188, e137_189, e137_192, e137_193, e137_194, ct_i, ct_r, ct_n, ct_h, opt_v, opt_s, ref_s, ref_n, eq_self_iff_true, true_or, or_true, zl0, zl1, zl2, zl3, zl4, zl5, zl6, zl7, zl8, zl9, zl10, zl16, zl32, zl40, zl100, zl160, zIc1, zI_lt, zI_le, nI_eq, nI_add, z_sub, nI_clamp, zI_of, uu_eq, uu_ne, Nat.reduceLT, Nat.reduceLeDiff, Nat.reduceEqDiff, Nat.reduceAdd, Nat.reduceSub, Nat.reduceMul, Nat.not_lt_zero, Nat.lt_irrefl, Nat.le_refl, Bool.false_eq_true, false_and, and_false, true_and, and_true, if_pos, if_neg, if_true, if_false, not_true_eq_false, not_false_eq_true, m0, h27, h24']
      refine Ho I _ rfl hfr h27 (fun q hq => ⟨?_, ?_, fun j hj => ?_⟩)
      · rw [hP.2.2.2.2.2 _ _ (by omega)]; exact (hE q hq).1
      · rw [hP.2.2.2.2.2 _ _ (by omega)]; exact (hE q hq).2
      · have hj : j < (f q).length := hj
        show I 10 (510 * i + tS f q + j) = mCell ((f q).getD j 0)
        have e1 := hP.2.2.2.1.2 (tS f q + j)
        have l3 : c.length = (f 0).length + (f 1).length + (f 2).length := by rw [hcf]; simp [ccF, Nat.add_assoc]
        have hj2 : tS f q + j < c.length := by
          have t0 : tS f 0 = 0 := rfl
          have t1 : tS f 1 = (f 0).length := rfl
          have t2 : tS f 2 = (f 0).length + (f 1).length := rfl
          rcases (show q = 0 ∨ q = 1 ∨ q = 2 by omega) with rfl | rfl | rfl <;> omega
        rw [Nat.add_assoc, e1 hj2]
        congr 1
        rw [hcf]
        rcases (show q = 0 ∨ q = 1 ∨ q = 2 by omega) with rfl | rfl | rfl
        · simp only [ccF, List.nil_append, tS, Nat.zero_add, List.append_assoc]
          exact getD_app_l hj
        · simp only [ccF, List.nil_append, tS]
          rw [List.append_assoc, getD_app_r]; exact getD_app_l hj
        · simp only [ccF, List.nil_append, tS]
          rw [← List.length_append, getD_app_r]
    · rw [if_neg hq] at hF
      subst hF
      have h0 : ¬ tkM (tk tp s p) = 0 := fun h => by
        unfold tkM at h
        repeat' split at h
        all_goals omega
      simp (disch := first | assumption | exact ct_i | exact ct_r | exact ct_n | exact ct_h | omega | exact z_in (by omega) (by omega) | exact b01 | exact Or.inl rfl | exact Or.inr rfl) only [e137_0, e137_1, e137_4, e137_6, e137_9, e137_11, e137_12, e137_13, e137_14, e137_17, e137_18, e137_19, e137_22, e137_23, e137_24, e137_27, e137_28, e137_31, e137_32, e137_35, e137_36, e137_39, e137_40, e137_43, e137_44, e137_46, e137_47, e137_50, e137_51, e137_54, e137_57, e137_58, e137_59, e137_62, e137_65, e137_66, e137_69, e137_72, e137_73, e137_76, e137_77, e137_80, e137_81, e137_82, e137_85, e137_86, e137_87, e137_88, e137_89, e137_92, e137_93, e137_94, e137_97, e137_98, e137_101, e137_102, e137_103, e137_106, e137_107, e137_108, e137_109, e137_110, e137_113, e137_114, e137_115, e137_117, e137_120, e137_123, e137_124, e137_127, e137_130, e137_131, e137_134, e137_137, e137_140, e137_141, e137_144, e137_147, e137_148, e137_151, e137_154, e137_155, e137_159, e137_160, e137_163, e137_164, e137_167, e137_170, e137_172, e137_173, e137_176, e137_177, e137_178, e137_179, e137_180, e137_183, e137_184, e137_185, e137_188, e137_189, e137_192, e137_193, e137_194, ct_i, ct_r, ct_n, ct_h, opt_v, opt_s, ref_s, ref_n, eq_self_iff_true, true_or, or_true, zl0, zl1, zl2, zl3, zl4, zl5, zl6, zl7, zl8, zl9, zl10, zl16, zl32, zl40, zl100, zl160, zIc1, zI_lt, zI_le, nI_eq, nI_add, z_sub, nI_clamp, zI_of, uu_eq, uu_ne, Nat.reduceLT, Nat.reduceLeDiff, Nat.reduceEqDiff, Nat.reduceAdd, Nat.reduceSub, Nat.reduceMul, Nat.not_lt_zero, Nat.lt_irrefl, Nat.le_refl, Bool.false_eq_true, false_and, and_false, true_and, and_true, if_pos, if_neg, if_true, if_false, not_true_eq_false, not_false_eq_true, m0, h27, h24, h0]
      refine k145p (show 1 ≤ d by omega) hM hP (fun I' hW => ?_)
      simp (disch := first | assumption | exact ct_i | exact ct_r | exact ct_n | exact ct_h | omega | exact z_in (by omega) (by omega) | exact b01 | exact Or.inl rfl | exact Or.inr rfl) only [e137_0, e137_1, e137_4, e137_6, e137_9, e137_11, e137_12, e137_13, e137_14, e137_17, e137_18, e137_19, e137_22, e137_23, e137_24, e137_27, e137_28, e137_31, e137_32, e137_35, e137_36, e137_39, e137_40, e137_43, e137_44, e137_46, e137_47, e137_50, e137_51, e137_54, e137_57, e137_58, e137_59, e137_62, e137_65, e137_66, e137_69, e137_72, e137_73, e137_76, e137_77, e137_80, e137_81, e137_82, e137_85, e137_86, e137_87, e137_88, e137_89, e137_92, e137_93, e137_94, e137_97, e137_98, e137_101, e137_102, e137_103, e137_106, e137_107, e137_108, e137_109, e137_110, e137_113, e137_114, e137_115, e137_117, e137_120, e137_123, e137_124, e137_127, e137_130, e137_131, e137_134, e137_137, e137_140, e137_141, e137_144, e137_147, e137_148, e137_151, e137_154, e137_155, e137_159, e137_160, e137_163, e137_164, e137_167, e137_170, e137_172, e137_173, e137_176, e137_177, e137_178, e137_179, e137_180, e137_183, e137_184, e137_185, e137_188, e137_189, e137_192, e137_193, e137_194, ct_i, ct_r, ct_n, ct_h, opt_v, opt_s, ref_s, ref_n, eq_self_iff_true, true_or, or_true, zl0, zl1, zl2, zl3, zl4, zl5, zl6, zl7, zl8, zl9, zl10, zl16, zl32, zl40, zl100, zl160, zIc1, zI_lt, zI_le, nI_eq, nI_add, z_sub, nI_clamp, zI_of, uu_eq, uu_ne, Nat.reduceLT, Nat.reduceLeDiff, Nat.reduceEqDiff, Nat.reduceAdd, Nat.reduceSub, Nat.reduceMul, Nat.not_lt_zero, Nat.lt_irrefl, Nat.le_refl, Bool.false_eq_true, false_and, and_false, true_and, and_true, if_pos, if_neg, if_true, if_false, not_true_eq_false, not_false_eq_true]
      exact Hw I' p _ rfl (frB_t hB (frN_B hW.2.2.2)) hW.1 hW.2.1
  | succ m ih =>
    intro k p c f I0 I hk hp hP hB hc hcf hE hF
    have hk3 : k < 3 := by omega
    have hT := tk_lt (tp := tp) (s := s) (p := p)
    have h27 := hP.2.2.1
    have hfr : frB i B I := frB_t hB (frN_B hP.2.2.2.2.2)
    simp only [rdF] at hF
    rw [e137_45]
    by_cases hq : tk tp s p = 306 + k
    · rw [if_pos hq] at hF
      have hlt := tk_ne (tp := tp) (s := s) (p := p) (by omega)
      have hnx := nx_gt (tp := tp) hlt
      have hnl := nx_le (tp := tp) hp
      have hpr := prT_e (tp := tp) hs160 hnl (c := c)
      have hbd := pr_b (b := (prT tp s 0 (nx tp s p) c).1) (p1 := (prT tp s 0 (nx tp s p) c).2.1) (c1 := (prT tp s 0 (nx tp s p) c).2.2) (by decide) hpr hnl
      have hcl := fun I0 => (CM_c (lv := 0) (by decide)).mp (par_m (n := n) (t := t) (L := L) (I0 := I0) hM hs160 hi 1700 0 0 (nx tp s p) c (prT tp s 0 (nx tp s p) c).1 (prT tp s 0 (nx tp s p) c).2.1 (prT tp s 0 (nx tp s p) c).2.2 (by decide) hnl hpr) (by decide)
      have hph := fun (hb : (prT tp s 0 (nx tp s p) c).1 = true) => pr_h (tp := tp) (s := s) (lv := 0) (f := 1700) (by decide) (show pr tp s 1700 0 0 (nx tp s p) c = some (true, (prT tp s 0 (nx tp s p) c).2.1, (prT tp s 0 (nx tp s p) c).2.2) by rw [hpr, ← hb]) (Nat.zero_le 5)
      revert hF hbd hcl hph
      generalize prT tp s 0 (nx tp s p) c = r
      obtain ⟨b, p1, c1⟩ := r
      intro hF hbd hcl hph
      simp only [] at hF hbd hcl hph
      simp (disch := first | assumption | exact ct_i | exact ct_r | exact ct_n | exact ct_h | omega | exact z_in (by omega) (by omega) | exact b01 | exact Or.inl rfl | exact Or.inr rfl) only [e137_0, e137_1, e137_4, e137_6, e137_9, e137_11, e137_12, e137_13, e137_14, e137_17, e137_18, e137_19, e137_22, e137_23, e137_24, e137_27, e137_28, e137_31, e137_32, e137_35, e137_36, e137_39, e137_40, e137_43, e137_44, e137_46, e137_47, e137_50, e137_51, e137_54, e137_57, e137_58, e137_59, e137_62, e137_65, e137_66, e137_69, e137_72, e137_73, e137_76, e137_77, e137_80, e137_81, e137_82, e137_85, e137_86, e137_87, e137_88, e137_89, e137_92, e137_93, e137_94, e137_97, e137_98, e137_101, e137_102, e137_103, e137_106, e137_107, e137_108, e137_109, e137_110, e137_113, e137_114, e137_115, e137_117, e137_120, e137_123, e137_124, e137_127, e137_130, e137_131, e137_134, e137_137, e137_141, e137_144, e137_147, e137_148, e137_151, e137_154, e137_155, e137_158, e137_159, e137_160, e137_163, e137_164, e137_167, e137_170, e137_172, e137_173, e137_176, e137_177, e137_178, e137_179, e137_180, e137_183, e137_184, e137_185, e137_188, e137_189, e137_192, e137_193, e137_194, ct_i, ct_r, ct_n, ct_h, opt_v, opt_s, ref_s, ref_n, eq_self_iff_true, true_or, or_true, zl0, zl1, zl2, zl3, zl4, zl5, zl6, zl7, zl8, zl9, zl10, zl16, zl32, zl40, zl100, zl160, zIc1, zI_lt, zI_le, nI_eq, nI_add, z_sub, nI_clamp, zI_of, uu_eq, uu_ne, Nat.reduceLT, Nat.reduceLeDiff, Nat.reduceEqDiff, Nat.reduceAdd, Nat.reduceSub, Nat.reduceMul, Nat.not_lt_zero, Nat.lt_irrefl, Nat.le_refl, Bool.false_eq_true, false_and, and_false, true_and, and_true, if_pos, if_neg, if_true, if_false, not_true_eq_false, not_false_eq_true, m0, h27, k144p (show 1 ≤ d by omega) hM hP (show k < 90 by omega), hq]
      refine k138p (show 4 ≤ d by omega) hM hP (fun I1 hP1 => ?_)
      have h16 : I1 0 16 = nI i := by rw [hP1.2.2.2.2.2 _ _ (by omega), hB _ _ (by omega)]; exact hB16
      have h21 := hP1.2.2.2.1.1
      simp (disch := first | assumption | exact ct_i | exact ct_r | exact ct_n | exact ct_h | omega | exact z_in (by omega) (by omega) | exact b01 | exact Or.inl rfl | exact Or.inr rfl) only [e137_0, e137_1, e137_4, e137_6, e137_9, e137_11, e137_12, e137_13, e137_14, e137_17, e137_18, e137_19, e137_22, e137_23, e137_24, e137_27, e137_28, e137_31, e137_32, e137_35, e137_36, e137_39, e137_40, e137_43, e137_44, e137_46, e137_47, e137_50, e137_51, e137_54, e137_57, e137_58, e137_59, e137_62, e137_65, e137_66, e137_69, e137_72, e137_73, e137_76, e137_77, e137_80, e137_81, e137_82, e137_85, e137_86, e137_87, e137_88, e137_89, e137_92, e137_93, e137_94, e137_97, e137_98, e137_101, e137_102, e137_103, e137_106, e137_107, e137_108, e137_109, e137_110, e137_113, e137_114, e137_115, e137_117, e137_120, e137_123, e137_124, e137_127, e137_130, e137_131, e137_134, e137_137, e137_141, e137_144, e137_147, e137_148, e137_151, e137_154, e137_155, e137_158, e137_159, e137_160, e137_163, e137_164, e137_167, e137_170, e137_172, e137_173, e137_176, e137_177, e137_178, e137_179, e137_180, e137_183, e137_184, e137_185, e137_188, e137_189, e137_192, e137_193, e137_194, ct_i, ct_r, ct_n, ct_h, opt_v, opt_s, ref_s, ref_n, eq_self_iff_true, true_or, or_true, zl0, zl1, zl2, zl3, zl4, zl5, zl6, zl7, zl8, zl9, zl10, zl16, zl32, zl40, zl100, zl160, zIc1, zI_lt, zI_le, nI_eq, nI_add, z_sub, nI_clamp, zI_of, uu_eq, uu_ne, Nat.reduceLT, Nat.reduceLeDiff, Nat.reduceEqDiff, Nat.reduceAdd, Nat.reduceSub, Nat.reduceMul, Nat.not_lt_zero, Nat.lt_irrefl, Nat.le_refl, Bool.false_eq_true, false_and, and_false, true_and, and_true, if_pos, if_neg, if_true, if_false, not_true_eq_false, not_false_eq_true, zI_mul, m0, x11, y11, r19, x12, y12, r20, h16, h21]
      have hP2 := pO_ar (x := 11) (k := 3 * i + k) (v := nI (510 * i + c.length)) (Or.inl rfl) hP1
      refine hcl _ d _ _ (by have : kD 0 = 6 := rfl; omega) (by omega) hP2 (fun I2 hQ2 => ?_)
      have hB2 : frB i B (u2 I0 11 (3 * i + k) (nI (510 * i + c.length))) := frB_u hB (by omega)
      cases b with
      | false =>
        rw [if_neg (fun h => by cases h.1)] at hF
        subst hF
        rw [pQ_f] at hQ2
        obtain ⟨e, hW, he⟩ := hQ2
        have h162 : I2 0 16 = nI i := by rw [hW.2.2.2 _ _ (by omega), hB2 _ _ (by omega)]; exact hB16
        have h212 := hW.2.2.1
        simp (disch := first | assumption | exact ct_i | exact ct_r | exact ct_n | exact ct_h | omega | exact z_in (by omega) (by omega) | exact b01 | exact Or.inl rfl | exact Or.inr rfl) only [e137_0, e137_1, e137_4, e137_6, e137_9, e137_11, e137_12, e137_13, e137_14, e137_17, e137_18, e137_19, e137_22, e137_23, e137_24, e137_27, e137_28, e137_31, e137_32, e137_35, e137_36, e137_39, e137_40, e137_43, e137_44, e137_46, e137_47, e137_50, e137_51, e137_54, e137_57, e137_58, e137_59, e137_62, e137_65, e137_66, e137_69, e137_72, e137_73, e137_76, e137_77, e137_80, e137_81, e137_82, e137_85, e137_86, e137_87, e137_88, e137_89, e137_92, e137_93, e137_94, e137_97, e137_98, e137_101, e137_102, e137_103, e137_106, e137_107, e137_108, e137_109, e137_110, e137_113, e137_114, e137_115, e137_117, e137_120, e137_123, e137_124, e137_127, e137_130, e137_131, e137_134, e137_137, e137_141, e137_144, e137_147, e137_148, e137_151, e137_154, e137_155, e137_158, e137_159, e137_160, e137_163, e137_164, e137_167, e137_170, e137_172, e137_173, e137_176, e137_177, e137_178, e137_179, e137_180, e137_183, e137_184, e137_185, e137_188, e137_189, e137_192, e137_193, e137_194, ct_i, ct_r, ct_n, ct_h, opt_v, opt_s, ref_s, ref_n, eq_self_iff_true, true_or, or_true, zl0, zl1, zl2, zl3, zl4, zl5, zl6, zl7, zl8, zl9, zl10, zl16, zl32, zl40, zl100, zl160, zIc1, zI_lt, zI_le, nI_eq, nI_add, z_sub, nI_clamp, zI_of, uu_eq, uu_ne, Nat.reduceLT, Nat.reduceLeDiff, Nat.reduceEqDiff, Nat.reduceAdd, Nat.reduceSub, Nat.reduceMul, Nat.not_lt_zero, Nat.lt_irrefl, Nat.le_refl, Bool.false_eq_true, false_and, and_false, true_and, and_true, if_pos, if_neg, if_true, if_false, not_true_eq_false, not_false_eq_true, zI_mul, m0, x11, y11, r19, x12, y12, r20, h162, h212]
        have hW3 : pW i p1 e (u2 (u2 I0 11 (3 * i + k) (nI (510 * i + c.length))) 12 (3 * i + k) (nI (510 * i + e))) (u2 I2 12 (3 * i + k) (nI (510 * i + e))) := by
          obtain ⟨w1, w2, w3, w4⟩ := hW
          refine ⟨?_, ?_, ?_, fun y z hy => ?_⟩
          · rw [uu_ne _ _ _ _ (by omega)]; exact w1
          · rw [uu_ne _ _ _ _ (by omega)]; exact w2
          · rw [uu_ne _ _ _ _ (by omega)]; exact w3
          · by_cases hyz : y = 12 ∧ z = 3 * i + k
            · obtain ⟨rfl, rfl⟩ := hyz; rw [uu_eq, uu_eq]
            · rw [uu_ne _ _ _ _ hyz, uu_ne _ _ _ _ hyz]; exact w4 y z hy
        simp (disch := first | assumption | exact ct_i | exact ct_r | exact ct_n | exact ct_h | omega | exact z_in (by omega) (by omega) | exact b01 | exact Or.inl rfl | exact Or.inr rfl) only [e137_0, e137_1, e137_4, e137_6, e137_9, e137_11, e137_12, e137_13, e137_14, e137_17, e137_18, e137_19, e137_22, e137_23, e137_24, e137_27, e137_28, e137_31, e137_32, e137_35, e137_36, e137_39, e137_40, e137_43, e137_44, e137_46, e137_47, e137_50, e137_51, e137_54, e137_57, e137_58, e137_59, e137_62, e137_65, e137_66, e137_69, e137_72, e137_73, e137_76, e137_77, e137_80, e137_81, e137_82, e137_85, e137_86, e137_87, e137_88, e137_89, e137_92, e137_93, e137_94, e137_97, e137_98, e137_101, e137_102, e137_103, e137_106, e137_107, e137_108, e137_109, e137_110, e137_113, e137_114, e137_115, e137_117, e137_120, e137_123, e137_124, e137_127, e137_130, e137_131, e137_134, e137_137, e137_141, e137_144, e137_147, e137_148, e137_151, e137_154, e137_155, e137_158, e137_159, e137_160, e137_163, e137_164, e137_167, e137_170, e137_172, e137_173, e137_176, e137_177, e137_178, e137_179, e137_180, e137_183, e137_184, e137_185, e137_188, e137_189, e137_192, e137_193, e137_194, ct_i, ct_r, ct_n, ct_h, opt_v, opt_s, ref_s, ref_n, eq_self_iff_true, true_or, or_true, zl0, zl1, zl2, zl3, zl4, zl5, zl6, zl7, zl8, zl9, zl10, zl16, zl32, zl40, zl100, zl160, zIc1, zI_lt, zI_le, nI_eq, nI_add, z_sub, nI_clamp, zI_of, uu_eq, uu_ne, Nat.reduceLT, Nat.reduceLeDiff, Nat.reduceEqDiff, Nat.reduceAdd, Nat.reduceSub, Nat.reduceMul, Nat.not_lt_zero, Nat.lt_irrefl, Nat.le_refl, Bool.false_eq_true, false_and, and_false, true_and, and_true, if_pos, if_neg, if_true, if_false, not_true_eq_false, not_false_eq_true, m0, e59, k154w (show 1 ≤ d by omega) hM hW3]
        refine k145w (show 1 ≤ d by omega) hM hW3 ?_
        simp (disch := first | assumption | exact ct_i | exact ct_r | exact ct_n | exact ct_h | omega | exact z_in (by omega) (by omega) | exact b01 | exact Or.inl rfl | exact Or.inr rfl) only [e137_0, e137_1, e137_4, e137_6, e137_9, e137_11, e137_12, e137_13, e137_14, e137_17, e137_18, e137_19, e137_22, e137_23, e137_24, e137_27, e137_28, e137_31, e137_32, e137_35, e137_36, e137_39, e137_40, e137_43, e137_44, e137_46, e137_47, e137_50, e137_51, e137_54, e137_57, e137_58, e137_59, e137_62, e137_65, e137_66, e137_69, e137_72, e137_73, e137_76, e137_77, e137_80, e137_81, e137_82, e137_85, e137_86, e137_87, e137_88, e137_89, e137_92, e137_93, e137_94, e137_97, e137_98, e137_101, e137_102, e137_103, e137_106, e137_107, e137_108, e137_109, e137_110, e137_113, e137_114, e137_115, e137_117, e137_120, e137_123, e137_124, e137_127, e137_130, e137_131, e137_134, e137_137, e137_141, e137_144, e137_147, e137_148, e137_151, e137_154, e137_155, e137_158, e137_159, e137_160, e137_163, e137_164, e137_167, e137_170, e137_172, e137_173, e137_176, e137_177, e137_178, e137_179, e137_180, e137_183, e137_184, e137_185, e137_188, e137_189, e137_192, e137_193, e137_194, ct_i, ct_r, ct_n, ct_h, opt_v, opt_s, ref_s, ref_n, eq_self_iff_true, true_or, or_true, zl0, zl1, zl2, zl3, zl4, zl5, zl6, zl7, zl8, zl9, zl10, zl16, zl32, zl40, zl100, zl160, zIc1, zI_lt, zI_le, nI_eq, nI_add, z_sub, nI_clamp, zI_of, uu_eq, uu_ne, Nat.reduceLT, Nat.reduceLeDiff, Nat.reduceEqDiff, Nat.reduceAdd, Nat.reduceSub, Nat.reduceMul, Nat.not_lt_zero, Nat.lt_irrefl, Nat.le_refl, Bool.false_eq_true, false_and, and_false, true_and, and_true, if_pos, if_neg, if_true, if_false, not_true_eq_false, not_false_eq_true]
        refine k137v (show 1 ≤ d by omega) hM hW3.1 (by omega) ?_
        exact Hw _ p1 _ rfl (frB_t (frB_u hB2 (by omega)) (frN_B hW3.2.2.2)) hW3.1 hW3.2.1
      | true =>
        rw [pQ_t] at hQ2
        obtain ⟨e, rfl, hoe⟩ := hph rfl
        have ht1 := tk_lt (tp := tp) (s := s) (p := p1)
        have h162 : I2 0 16 = nI i := by rw [hQ2.2.2.2.2.2 _ _ (by omega), hB2 _ _ (by omega)]; exact hB16
        have h212 := hQ2.2.2.2.1.1
        simp (disch := first | assumption | exact ct_i | exact ct_r | exact ct_n | exact ct_h | omega | exact z_in (by omega) (by omega) | exact b01 | exact Or.inl rfl | exact Or.inr rfl) only [e137_0, e137_1, e137_4, e137_6, e137_9, e137_11, e137_12, e137_13, e137_14, e137_17, e137_18, e137_19, e137_22, e137_23, e137_24, e137_27, e137_28, e137_31, e137_32, e137_35, e137_36, e137_39, e137_40, e137_43, e137_44, e137_46, e137_47, e137_50, e137_51, e137_54, e137_57, e137_58, e137_59, e137_62, e137_65, e137_66, e137_69, e137_72, e137_73, e137_76, e137_77, e137_80, e137_81, e137_82, e137_85, e137_86, e137_87, e137_88, e137_89, e137_92, e137_93, e137_94, e137_97, e137_98, e137_101, e137_102, e137_103, e137_106, e137_107, e137_108, e137_109, e137_110, e137_113, e137_114, e137_115, e137_117, e137_120, e137_123, e137_124, e137_127, e137_130, e137_131, e137_134, e137_137, e137_141, e137_144, e137_147, e137_148, e137_151, e137_154, e137_155, e137_158, e137_159, e137_160, e137_163, e137_164, e137_167, e137_170, e137_172, e137_173, e137_176, e137_177, e137_178, e137_179, e137_180, e137_183, e137_184, e137_185, e137_188, e137_189, e137_192, e137_193, e137_194, ct_i, ct_r, ct_n, ct_h, opt_v, opt_s, ref_s, ref_n, eq_self_iff_true, true_or, or_true, zl0, zl1, zl2, zl3, zl4, zl5, zl6, zl7, zl8, zl9, zl10, zl16, zl32, zl40, zl100, zl160, zIc1, zI_lt, zI_le, nI_eq, nI_add, z_sub, nI_clamp, zI_of, uu_eq, uu_ne, Nat.reduceLT, Nat.reduceLeDiff, Nat.reduceEqDiff, Nat.reduceAdd, Nat.reduceSub, Nat.reduceMul, Nat.not_lt_zero, Nat.lt_irrefl, Nat.le_refl, Bool.false_eq_true, false_and, and_false, true_and, and_true, if_pos, if_neg, if_true, if_false, not_true_eq_false, not_false_eq_true, zI_mul, m0, x11, y11, r19, x12, y12, r20, h162, h212]
        have hP3 := pO_ar (x := 12) (k := 3 * i + k) (v := nI (510 * i + (c ++ e).length)) (Or.inr rfl) hQ2
        by_cases hq1 : tk tp s p1 = 59
        · rw [if_pos ⟨rfl, hq1⟩, List.drop_left] at hF
          have hnx1 := nx_gt (tp := tp) (tk_ne (tp := tp) (s := s) (p := p1) (by omega))
          simp (disch := first | assumption | exact ct_i | exact ct_r | exact ct_n | exact ct_h | omega | exact z_in (by omega) (by omega) | exact b01 | exact Or.inl rfl | exact Or.inr rfl) only [e137_0, e137_1, e137_4, e137_6, e137_9, e137_11, e137_12, e137_13, e137_14, e137_17, e137_18, e137_19, e137_22, e137_23, e137_24, e137_27, e137_28, e137_31, e137_32, e137_35, e137_36, e137_39, e137_40, e137_43, e137_44, e137_46, e137_47, e137_50, e137_51, e137_54, e137_57, e137_58, e137_59, e137_62, e137_65, e137_66, e137_69, e137_72, e137_73, e137_76, e137_77, e137_80, e137_81, e137_82, e137_85, e137_86, e137_87, e137_88, e137_89, e137_92, e137_93, e137_94, e137_97, e137_98, e137_101, e137_102, e137_103, e137_106, e137_107, e137_108, e137_109, e137_110, e137_113, e137_114, e137_115, e137_117, e137_120, e137_123, e137_124, e137_127, e137_130, e137_131, e137_134, e137_137, e137_141, e137_144, e137_147, e137_148, e137_151, e137_154, e137_155, e137_158, e137_159, e137_160, e137_163, e137_164, e137_167, e137_170, e137_172, e137_173, e137_176, e137_177, e137_178, e137_179, e137_180, e137_183, e137_184, e137_185, e137_188, e137_189, e137_192, e137_193, e137_194, ct_i, ct_r, ct_n, ct_h, opt_v, opt_s, ref_s, ref_n, eq_self_iff_true, true_or, or_true, zl0, zl1, zl2, zl3, zl4, zl5, zl6, zl7, zl8, zl9, zl10, zl16, zl32, zl40, zl100, zl160, zIc1, zI_lt, zI_le, nI_eq, nI_add, z_sub, nI_clamp, zI_of, uu_eq, uu_ne, Nat.reduceLT, Nat.reduceLeDiff, Nat.reduceEqDiff, Nat.reduceAdd, Nat.reduceSub, Nat.reduceMul, Nat.not_lt_zero, Nat.lt_irrefl, Nat.le_refl, Bool.false_eq_true, false_and, and_false, true_and, and_true, if_pos, if_neg, if_true, if_false, not_true_eq_false, not_false_eq_true, m0, e59, k154p (show 1 ≤ d by omega) hM hP3 (show 59 < 128 by decide), hq1]
          refine k138p (show 4 ≤ d by omega) hM hP3 (fun I4 hP4 => ?_)
          simp (disch := first | assumption | exact ct_i | exact ct_r | exact ct_n | exact ct_h | omega | exact z_in (by omega) (by omega) | exact b01 | exact Or.inl rfl | exact Or.inr rfl) only [e137_0, e137_1, e137_4, e137_6, e137_9, e137_11, e137_12, e137_13, e137_14, e137_17, e137_18, e137_19, e137_22, e137_23, e137_24, e137_27, e137_28, e137_31, e137_32, e137_35, e137_36, e137_39, e137_40, e137_43, e137_44, e137_46, e137_47, e137_50, e137_51, e137_54, e137_57, e137_58, e137_59, e137_62, e137_65, e137_66, e137_69, e137_72, e137_73, e137_76, e137_77, e137_80, e137_81, e137_82, e137_85, e137_86, e137_87, e137_88, e137_89, e137_92, e137_93, e137_94, e137_97, e137_98, e137_101, e137_102, e137_103, e137_106, e137_107, e137_108, e137_109, e137_110, e137_113, e137_114, e137_115, e137_117, e137_120, e137_123, e137_124, e137_127, e137_130, e137_131, e137_134, e137_137, e137_141, e137_144, e137_147, e137_148, e137_151, e137_154, e137_155, e137_158, e137_159, e137_160, e137_163, e137_164, e137_167, e137_170, e137_172, e137_173, e137_176, e137_177, e137_178, e137_179, e137_180, e137_183, e137_184, e137_185, e137_188, e137_189, e137_192, e137_193, e137_194, ct_i, ct_r, ct_n, ct_h, opt_v, opt_s, ref_s, ref_n, eq_self_iff_true, true_or, or_true, zl0, zl1, zl2, zl3, zl4, zl5, zl6, zl7, zl8, zl9, zl10, zl16, zl32, zl40, zl100, zl160, zIc1, zI_lt, zI_le, nI_eq, nI_add, z_sub, nI_clamp, zI_of, uu_eq, uu_ne, Nat.reduceLT, Nat.reduceLeDiff, Nat.reduceEqDiff, Nat.reduceAdd, Nat.reduceSub, Nat.reduceMul, Nat.not_lt_zero, Nat.lt_irrefl, Nat.le_refl, Bool.false_eq_true, false_and, and_false, true_and, and_true, if_pos, if_neg, if_true, if_false, not_true_eq_false, not_false_eq_true]
          refine ih (k + 1) _ _ (u1 f k e) _ _ (by omega) (nx_le hbd.1) hP4 (frB_u hB2 (by omega)) (by omega) ?_ (fun q hq => ?_) hF
          · simp only [ccF]; rw [ccF_u (Nat.le_refl _), u1_eq, hcf]
          · have hts : ∀ g : Nat → List Nat, ∀ q, q < 3 → tS g q + (g q).length = (ccF g (q + 1)).length := fun g q hq => by
              simp only [ccF]; rw [List.length_append, ccF_S g hq]
            rw [Nat.add_assoc, hts _ _ (by omega), ← ccF_S (u1 f k e) (show q < 3 by omega)]
            by_cases hqk : q = k
            · subst hqk
              refine ⟨?_, ?_⟩
              · rw [uu_ne _ _ _ _ (by omega), uu_eq, ccF_u (Nat.le_refl _), ← hcf]
              · rw [uu_eq]
                simp only [ccF]; rw [ccF_u (Nat.le_refl _), u1_eq, ← hcf]
            · rw [uu_ne _ _ _ _ (by omega), uu_ne _ _ _ _ (by omega), uu_ne _ _ _ _ (by omega), uu_ne _ _ _ _ (by omega), ccF_u (by omega), ccF_u (by omega)]
              have := hE q (by omega)
              rw [Nat.add_assoc, hts _ _ (by omega), ← ccF_S f (show q < 3 by omega)] at this
              exact this
        · rw [if_neg (fun h => hq1 h.2)] at hF
          subst hF
          simp (disch := first | assumption | exact ct_i | exact ct_r | exact ct_n | exact ct_h | omega | exact z_in (by omega) (by omega) | exact b01 | exact Or.inl rfl | exact Or.inr rfl) only [e137_0, e137_1, e137_4, e137_6, e137_9, e137_11, e137_12, e137_13, e137_14, e137_17, e137_18, e137_19, e137_22, e137_23, e137_24, e137_27, e137_28, e137_31, e137_32, e137_35, e137_36, e137_39, e137_40, e137_43, e137_44, e137_46, e137_47, e137_50, e137_51, e137_54, e137_57, e137_58, e137_59, e137_62, e137_65, e137_66, e137_69, e137_72, e137_73, e137_76, e137_77, e137_80, e137_81, e137_82, e137_85, e137_86, e137_87, e137_88, e137_89, e137_92, e137_93, e137_94, e137_97, e137_98, e137_101, e137_102, e137_103, e137_106, e137_107, e137_108, e137_109, e137_110, e137_113, e137_114, e137_115, e137_117, e137_120, e137_123, e137_124, e137_127, e137_130, e137_131, e137_134, e137_137, e137_141, e137_144, e137_147, e137_148, e137_151, e137_154, e137_155, e137_158, e137_159, e137_160, e137_163, e137_164, e137_167, e137_170, e137_172, e137_173, e137_176, e137_177, e137_178, e137_179, e137_180, e137_183, e137_184, e137_185, e137_188, e137_189, e137_192, e137_193, e137_194, ct_i, ct_r, ct_n, ct_h, opt_v, opt_s, ref_s, ref_n, eq_self_iff_true, true_or, or_true, zl0, zl1, zl2, zl3, zl4, zl5, zl6, zl7, zl8, zl9, zl10, zl16, zl32, zl40, zl100, zl160, zIc1, zI_lt, zI_le, nI_eq, nI_add, z_sub, nI_clamp, zI_of, uu_eq, uu_ne, Nat.reduceLT, Nat.reduceLeDiff, Nat.reduceEqDiff, Nat.reduceAdd, Nat.reduceSub, Nat.reduceMul, Nat.not_lt_zero, Nat.lt_irrefl, Nat.le_refl, Bool.false_eq_true, false_and, and_false, true_and, and_true, if_pos, if_neg, if_true, if_false, not_true_eq_false, not_false_eq_true, m0, e59, k154p (show 1 ≤ d by omega) hM hP3 (show 59 < 128 by decide), hq1]
          refine k145p (show 1 ≤ d by omega) hM hP3 (fun I4 hW => ?_)
          simp (disch := first | assumption | exact ct_i | exact ct_r | exact ct_n | exact ct_h | omega | exact z_in (by omega) (by omega) | exact b01 | exact Or.inl rfl | exact Or.inr rfl) only [e137_0, e137_1, e137_4, e137_6, e137_9, e137_11, e137_12, e137_13, e137_14, e137_17, e137_18, e137_19, e137_22, e137_23, e137_24, e137_27, e137_28, e137_31, e137_32, e137_35, e137_36, e137_39, e137_40, e137_43, e137_44, e137_46, e137_47, e137_50, e137_51, e137_54, e137_57, e137_58, e137_59, e137_62, e137_65, e137_66, e137_69, e137_72, e137_73, e137_76, e137_77, e137_80, e137_81, e137_82, e137_85, e137_86, e137_87, e137_88, e137_89, e137_92, e137_93, e137_94, e137_97, e137_98, e137_101, e137_102, e137_103, e137_106, e137_107, e137_108, e137_109, e137_110, e137_113, e137_114, e137_115, e137_117, e137_120, e137_123, e137_124, e137_127, e137_130, e137_131, e137_134, e137_137, e137_141, e137_144, e137_147, e137_148, e137_151, e137_154, e137_155, e137_158, e137_159, e137_160, e137_163, e137_164, e137_167, e137_170, e137_172, e137_173, e137_176, e137_177, e137_178, e137_179, e137_180, e137_183, e137_184, e137_185, e137_188, e137_189, e137_192, e137_193, e137_194, ct_i, ct_r, ct_n, ct_h, opt_v, opt_s, ref_s, ref_n, eq_self_iff_true, true_or, or_true, zl0, zl1, zl2, zl3, zl4, zl5, zl6, zl7, zl8, zl9, zl10, zl16, zl32, zl40, zl100, zl160, zIc1, zI_lt, zI_le, nI_eq, nI_add, z_sub, nI_clamp, zI_of, uu_eq, uu_ne, Nat.reduceLT, Nat.reduceLeDiff, Nat.reduceEqDiff, Nat.reduceAdd, Nat.reduceSub, Nat.reduceMul, Nat.not_lt_zero, Nat.lt_irrefl, Nat.le_refl, Bool.false_eq_true, false_and, and_false, true_and, and_true, if_pos, if_neg, if_true, if_false, not_true_eq_false, not_false_eq_true]
          refine k137v (show 1 ≤ d by omega) hM hW.1 (by omega) ?_
          exact Hw _ p1 _ rfl (frB_t (frB_u hB2 (by omega)) (frN_B hW.2.2.2)) hW.1 hW.2.1
    · rw [if_neg hq] at hF
      subst hF
      simp (disch := first | assumption | exact ct_i | exact ct_r | exact ct_n | exact ct_h | omega | exact z_in (by omega) (by omega) | exact b01 | exact Or.inl rfl | exact Or.inr rfl) only [e137_0, e137_1, e137_4, e137_6, e137_9, e137_11, e137_12, e137_13, e137_14, e137_17, e137_18, e137_19, e137_22, e137_23, e137_24, e137_27, e137_28, e137_31, e137_32, e137_35, e137_36, e137_39, e137_40, e137_43, e137_44, e137_46, e137_47, e137_50, e137_51, e137_54, e137_57, e137_58, e137_59, e137_62, e137_65, e137_66, e137_69, e137_72, e137_73, e137_76, e137_77, e137_80, e137_81, e137_82, e137_85, e137_86, e137_87, e137_88, e137_89, e137_92, e137_93, e137_94, e137_97, e137_98, e137_101, e137_102, e137_103, e137_106, e137_107, e137_108, e137_109, e137_110, e137_113, e137_114, e137_115, e137_117, e137_120, e137_123, e137_124, e137_127, e137_130, e137_131, e137_134, e137_137, e137_141, e137_144, e137_147, e137_148, e137_151, e137_154, e137_155, e137_158, e137_159, e137_160, e137_163, e137_164, e137_167, e137_170, e137_172, e137_173, e137_176, e137_177, e137_178, e137_179, e137_180, e137_183, e137_184, e137_185, e137_188, e137_189, e137_192, e137_193, e137_194, ct_i, ct_r, ct_n, ct_h, opt_v, opt_s, ref_s, ref_n, eq_self_iff_true, true_or, or_true, zl0, zl1, zl2, zl3, zl4, zl5, zl6, zl7, zl8, zl9, zl10, zl16, zl32, zl40, zl100, zl160, zIc1, zI_lt, zI_le, nI_eq, nI_add, z_sub, nI_clamp, zI_of, uu_eq, uu_ne, Nat.reduceLT, Nat.reduceLeDiff, Nat.reduceEqDiff, Nat.reduceAdd, Nat.reduceSub, Nat.reduceMul, Nat.not_lt_zero, Nat.lt_irrefl, Nat.le_refl, Bool.false_eq_true, false_and, and_false, true_and, and_true, if_pos, if_neg, if_true, if_false, not_true_eq_false, not_false_eq_true, m0, h27, k144p (show 1 ≤ d by omega) hM hP (show k < 90 by omega), hq]
      refine k145p (show 1 ≤ d by omega) hM hP (fun I' hW => ?_)
      simp (disch := first | assumption | exact ct_i | exact ct_r | exact ct_n | exact ct_h | omega | exact z_in (by omega) (by omega) | exact b01 | exact Or.inl rfl | exact Or.inr rfl) only [e137_0, e137_1, e137_4, e137_6, e137_9, e137_11, e137_12, e137_13, e137_14, e137_17, e137_18, e137_19, e137_22, e137_23, e137_24, e137_27, e137_28, e137_31, e137_32, e137_35, e137_36, e137_39, e137_40, e137_43, e137_44, e137_46, e137_47, e137_50, e137_51, e137_54, e137_57, e137_58, e137_59, e137_62, e137_65, e137_66, e137_69, e137_72, e137_73, e137_76, e137_77, e137_80, e137_81, e137_82, e137_85, e137_86, e137_87, e137_88, e137_89, e137_92, e137_93, e137_94, e137_97, e137_98, e137_101, e137_102, e137_103, e137_106, e137_107, e137_108, e137_109, e137_110, e137_113, e137_114, e137_115, e137_117, e137_120, e137_123, e137_124, e137_127, e137_130, e137_131, e137_134, e137_137, e137_141, e137_144, e137_147, e137_148, e137_151, e137_154, e137_155, e137_158, e137_159, e137_160, e137_163, e137_164, e137_167, e137_170, e137_172, e137_173, e137_176, e137_177, e137_178, e137_179, e137_180, e137_183, e137_184, e137_185, e137_188, e137_189, e137_192, e137_193, e137_194, ct_i, ct_r, ct_n, ct_h, opt_v, opt_s, ref_s, ref_n, eq_self_iff_true, true_or, or_true, zl0, zl1, zl2, zl3, zl4, zl5, zl6, zl7, zl8, zl9, zl10, zl16, zl32, zl40, zl100, zl160, zIc1, zI_lt, zI_le, nI_eq, nI_add, z_sub, nI_clamp, zI_of, uu_eq, uu_ne, Nat.reduceLT, Nat.reduceLeDiff, Nat.reduceEqDiff, Nat.reduceAdd, Nat.reduceSub, Nat.reduceMul, Nat.not_lt_zero, Nat.lt_irrefl, Nat.le_refl, Bool.false_eq_true, false_and, and_false, true_and, and_true, if_pos, if_neg, if_true, if_false, not_true_eq_false, not_false_eq_true]
      refine k137w (show 1 ≤ d by omega) hM hW.1 ?_
      exact Hw I' p _ rfl (frB_t hB (frN_B hW.2.2.2)) hW.1 hW.2.1
end
section
variable {T0 : Nat} {Z : Nat → Nat} {D : Nat → Nat → Nat} {tx : Nat → Nat → List Nat} {tp so sz : Nat → Nat} {it : Nat → Nat → Int32} {d : Nat} {n t : Nat} {sh : Nat → Nat × Nat} {I : Nat → Nat → Int32} {L : Nat → Nat → Int64} {R : Nat → Nat → Option Nat} {I' : Nat → Nat → Int32} {Q : Option Value → aH → Prop}
theorem MI_tx {Z' : Nat → Nat} {tx' : Nat → Nat → List Nat} {i0 : Nat} (h : MI Z D tx tp so sz it I) (hz : ∀ k, ¬ (k = 3 ∨ k = 5) → Z' k = Z k) (hi0 : i0 = Z 3) (hB5 : ∀ f, f ∈ [Z 3] → True) (htb : ∀ i, i < Z 3 → ∀ p, p < 3 → tS (tx i) p + (tx i p).length ≤ 160)
    (e : ∀ x k, ¬ (x = 0 ∧ (21 ≤ k ∧ k ≤ 28 ∨ k = 15 ∨ k = 16) ∨ x = 10 ∧ 510 * i0 ≤ k ∨ (x = 11 ∨ x = 12) ∧ 3 * i0 ≤ k) → I' x k = I x k) (h5 : Z' 5 = 0) (h15 : I' 0 15 = nI 0) (h16 : I' 0 16 = nI (Z' 3)) (ht : ∀ i, i < Z' 3 → (i < Z 3 ∧ tx' i = tx i) ∨ txM (tx' i) i I') : MI Z' D tx' tp so sz it I' := by
  obtain ⟨⟨a1, a2⟩, ⟨b1, b2, b3⟩, c1, ⟨d1, d2⟩, ⟨e1, e2⟩, f1, ⟨g1, g2⟩, i1, j1⟩ := h
  unfold MI
  simp (disch := omega) only [hz]
  refine ⟨⟨?_, fun d hd => ⟨?_, ?_, ?_, ?_⟩⟩, ⟨?_, ?_, ?_⟩, fun d hd => ⟨?_, ?_⟩, ⟨by rw [h15, h5], fun k hk => by omega⟩, ⟨h16, ?_⟩, fun i hi => ?_, ⟨?_, fun hq => ?_⟩, fun j hj => ⟨?_, ?_, fun k hk => ?_⟩, fun j hj => ?_⟩
  · exact (e _ _ (by omega)).trans a1
  · exact (e _ _ (by omega)).trans (a2 d hd).1
  · exact (e _ _ (by omega)).trans (a2 d hd).2.1
  · exact (e _ _ (by omega)).trans (a2 d hd).2.2.1
  · exact (e _ _ (by omega)).trans (a2 d hd).2.2.2
  · exact (e _ _ (by omega)).trans b1
  · exact (e _ _ (by omega)).trans b2
  · exact (e _ _ (by omega)).trans b3
  · exact (e _ _ (by omega)).trans (c1 d hd).1
  · exact (e _ _ (by omega)).trans (c1 d hd).2
  · exact (e _ _ (by omega)).trans e2
  · rcases ht i hi with ⟨h1, h2⟩ | h1
    · rw [h2]
      intro p hp
      obtain ⟨q1, q2, q3⟩ := f1 i h1 p hp
      have := htb i h1 p hp
      exact ⟨(e _ _ (by omega)).trans q1, (e _ _ (by omega)).trans q2, fun j hj => (e _ _ (by omega)).trans (q3 j hj)⟩
    · exact h1
  · exact (e _ _ (by omega)).trans g1
  · obtain ⟨⟨q1, q2, q3, q4⟩, q5⟩ := g2 hq
    exact ⟨⟨(e _ _ (by omega)).trans q1, (e _ _ (by omega)).trans q2, (e _ _ (by omega)).trans q3, (e _ _ (by omega)).trans q4⟩, fun d hd => (e _ _ (by omega)).trans (q5 d hd)⟩
  · exact (e _ _ (by omega)).trans (i1 j hj).1
  · exact (e _ _ (by omega)).trans (i1 j hj).2.1
  · exact (e _ _ (by omega)).trans ((i1 j hj).2.2 k hk)
  · exact (e _ _ (by omega)).trans (j1 j hj)
theorem tb160 {f : Nat → List Nat} (h : txB f) {p : Nat} (hp : p < 3) : tS f p + (f p).length ≤ 160 := by
  have := h.1
  have t0 : tS f 0 = 0 := rfl
  have t1 : tS f 1 = (f 0).length := rfl
  have t2 : tS f 2 = (f 0).length + (f 1).length := rfl
  rcases (show p = 0 ∨ p = 1 ∨ p = 2 by omega) with rfl | rfl | rfl <;> omega
theorem k137 (hd : 78 ≤ d) (hk : RM T0 Z D tx tp so sz it (n, t, sh, I, L, R)) (H : ∀ h', RMh T0 (texS Z tx tp).2.1 D (texS Z tx tp).2.2 tp so sz it h' → Q (some (.int (texS Z tx tp).1)) h') : aC d 137 [.ref 0] (n, t, sh, I, L, R) Q := by
  obtain ⟨d, rfl⟩ : ∃ e, d = e + 1 := ⟨d - 1, by omega⟩
  have hM := hk.2.2.1
  simp only [] at hM
  have m0 := mm_0 hM
  obtain ⟨_, _, _, _, m1, m2, m3, m4, m5, m6, m7, m8, m9⟩ := id hk
  simp only [] at m1 m2 m3 m4 m5 m6 m7 m8 m9
  have h16 := m5.1
  have o4 := hk.1.2.2.2.1
  have o5 := hk.1.2.2.2.2.1
  have htb : ∀ i, i < Z 3 → ∀ p, p < 3 → tS (tx i) p + (tx i p).length ≤ 160 := fun i hi p hp => tb160 (o4.2.2 i hi) hp
  unfold texS at H
  by_cases hf : Z 3 = 6
  · rw [if_pos hf] at H
    have q := H _ hk.2
    rw [hf] at h16
    simp (disch := first | assumption | exact ct_i | exact ct_r | exact ct_n | exact ct_h | omega | exact z_in (by omega) (by omega) | exact b01 | exact Or.inl rfl | exact Or.inr rfl) only [b137, e137_0, e137_1, e137_4, e137_6, e137_9, e137_11, e137_12, e137_13, e137_14, e137_17, e137_18, e137_19, e137_22, e137_23, e137_24, e137_27, e137_28, e137_31, e137_32, e137_35, e137_36, e137_39, e137_40, e137_43, e137_44, e137_46, e137_47, e137_50, e137_51, e137_54, e137_57, e137_58, e137_59, e137_62, e137_65, e137_66, e137_69, e137_72, e137_73, e137_76, e137_77, e137_80, e137_81, e137_82, e137_85, e137_86, e137_87, e137_88, e137_89, e137_92, e137_93, e137_94, e137_97, e137_98, e137_101, e137_102, e137_103, e137_106, e137_107, e137_108, e137_109, e137_110, e137_113, e137_114, e137_115, e137_117, e137_120, e137_123, e137_124, e137_127, e137_130, e137_131, e137_134, e137_137, e137_140, e137_141, e137_144, e137_147, e137_148, e137_151, e137_154, e137_155, e137_158, e137_159, e137_160, e137_163, e137_164, e137_167, e137_170, e137_172, e137_173, e137_176, e137_177, e137_178, e137_179, e137_180, e137_183, e137_184, e137_185, e137_188, e137_189, e137_192, e137_193, e137_194, ct_i, ct_r, ct_n, ct_h, opt_v, opt_s, ref_s, ref_n, eq_self_iff_true, true_or, or_true, zl0, zl1, zl2, zl3, zl4, zl5, zl6, zl7, zl8, zl9, zl10, zl16, zl32, zl40, zl100, zl160, zIc1, zI_lt, zI_le, nI_eq, nI_add, z_sub, nI_clamp, zI_of, uu_eq, uu_ne, Nat.reduceLT, Nat.reduceLeDiff, Nat.reduceEqDiff, Nat.reduceAdd, Nat.reduceSub, Nat.reduceMul, Nat.not_lt_zero, Nat.lt_irrefl, Nat.le_refl, Bool.false_eq_true, false_and, and_false, true_and, and_true, if_pos, if_neg, if_true, if_false, not_true_eq_false, not_false_eq_true, m0, h16]
    exact q
  · rw [if_neg hf] at H
    have hi : Z 3 < 6 := by omega
    have e510 : (510 : Int32) = nI 510 := rfl
    have hz01 : nI 0 = 0 ∨ nI 0 = 1 := Or.inl rfl
    simp (disch := first | assumption | exact ct_i | exact ct_r | exact ct_n | exact ct_h | omega | exact z_in (by omega) (by omega) | exact b01 | exact Or.inl rfl | exact Or.inr rfl) only [b137, e137_0, e137_1, e137_4, e137_6, e137_9, e137_11, e137_12, e137_13, e137_14, e137_17, e137_18, e137_19, e137_22, e137_23, e137_24, e137_27, e137_28, e137_31, e137_32, e137_35, e137_36, e137_39, e137_40, e137_43, e137_44, e137_46, e137_47, e137_50, e137_51, e137_54, e137_57, e137_58, e137_59, e137_62, e137_65, e137_66, e137_69, e137_72, e137_73, e137_76, e137_77, e137_80, e137_81, e137_82, e137_85, e137_86, e137_87, e137_88, e137_89, e137_92, e137_93, e137_94, e137_97, e137_98, e137_101, e137_102, e137_103, e137_106, e137_107, e137_108, e137_109, e137_110, e137_113, e137_114, e137_115, e137_117, e137_120, e137_123, e137_124, e137_127, e137_130, e137_131, e137_134, e137_137, e137_140, e137_141, e137_144, e137_147, e137_148, e137_151, e137_154, e137_155, e137_158, e137_159, e137_160, e137_163, e137_164, e137_167, e137_170, e137_172, e137_173, e137_176, e137_177, e137_178, e137_179, e137_180, e137_183, e137_184, e137_185, e137_188, e137_189, e137_192, e137_193, e137_194, ct_i, ct_r, ct_n, ct_h, opt_v, opt_s, ref_s, ref_n, eq_self_iff_true, true_or, or_true, zl0, zl1, zl2, zl3, zl4, zl5, zl6, zl7, zl8, zl9, zl10, zl16, zl32, zl40, zl100, zl160, zIc1, zI_lt, zI_le, nI_eq, nI_add, z_sub, nI_clamp, zI_of, uu_eq, uu_ne, Nat.reduceLT, Nat.reduceLeDiff, Nat.reduceEqDiff, Nat.reduceAdd, Nat.reduceSub, Nat.reduceMul, Nat.not_lt_zero, Nat.lt_irrefl, Nat.le_refl, Bool.false_eq_true, false_and, and_false, true_and, and_true, if_pos, if_neg, if_true, if_false, not_true_eq_false, not_false_eq_true, zI_mul, m0, h16, e510, hf]
    generalize hIs : u2 (u2 (u2 (u2 I 0 23 (nI 0)) 0 26 (nI 0)) 0 27 (nI 0)) 0 21 (nI (510 * Z 3)) = Is
    have fs : ∀ x k, ¬ (x = 0 ∧ (k = 23 ∨ k = 26 ∨ k = 27 ∨ k = 21)) → Is x k = I x k := fun x k hx => by rw [← hIs]; simp (disch := omega) only [uu_ne]
    have s23 : Is 0 23 = nI 0 := by rw [← hIs]; simp (disch := omega) only [uu_ne, uu_eq]
    have s26 : Is 0 26 = nI 0 := by rw [← hIs]; simp (disch := omega) only [uu_ne, uu_eq]
    have s27 : Is 0 27 = nI 0 := by rw [← hIs]; simp (disch := omega) only [uu_ne, uu_eq]
    have s21 : Is 0 21 = nI (510 * Z 3) := by rw [← hIs]; exact uu_eq _ _ _ _
    have hT : tpM tp (Z 5) Is := ⟨o5, ⟨(fs _ _ (by omega)).trans m4.1, fun k hk => (fs _ _ (by omega)).trans (m4.2 k hk)⟩, fun j hj => (fs _ _ (by omega)).trans (m9 j hj)⟩
    refine k138 (show 4 ≤ d by omega) hM hT (Nat.zero_le _) s23 (fun I1 hf1 hS1 => ?_)
    simp (disch := first | assumption | exact ct_i | exact ct_r | exact ct_n | exact ct_h | omega | exact z_in (by omega) (by omega) | exact b01 | exact Or.inl rfl | exact Or.inr rfl) only [e137_0, e137_1, e137_4, e137_6, e137_9, e137_11, e137_12, e137_13, e137_14, e137_17, e137_18, e137_19, e137_22, e137_23, e137_24, e137_27, e137_28, e137_31, e137_32, e137_35, e137_36, e137_39, e137_40, e137_43, e137_44, e137_46, e137_47, e137_50, e137_51, e137_54, e137_57, e137_58, e137_59, e137_62, e137_65, e137_66, e137_69, e137_72, e137_73, e137_76, e137_77, e137_80, e137_81, e137_82, e137_85, e137_86, e137_87, e137_88, e137_89, e137_92, e137_93, e137_94, e137_97, e137_98, e137_101, e137_102, e137_103, e137_106, e137_107, e137_108, e137_109, e137_110, e137_113, e137_114, e137_115, e137_117, e137_120, e137_123, e137_124, e137_127, e137_130, e137_131, e137_134, e137_137, e137_140, e137_141, e137_144, e137_147, e137_148, e137_151, e137_154, e137_155, e137_158, e137_159, e137_160, e137_163, e137_164, e137_167, e137_170, e137_172, e137_173, e137_176, e137_177, e137_178, e137_179, e137_180, e137_183, e137_184, e137_185, e137_188, e137_189, e137_192, e137_193, e137_194, ct_i, ct_r, ct_n, ct_h, opt_v, opt_s, ref_s, ref_n, eq_self_iff_true, true_or, or_true, zl0, zl1, zl2, zl3, zl4, zl5, zl6, zl7, zl8, zl9, zl10, zl16, zl32, zl40, zl100, zl160, zIc1, zI_lt, zI_le, nI_eq, nI_add, z_sub, nI_clamp, zI_of, uu_eq, uu_ne, Nat.reduceLT, Nat.reduceLeDiff, Nat.reduceEqDiff, Nat.reduceAdd, Nat.reduceSub, Nat.reduceMul, Nat.not_lt_zero, Nat.lt_irrefl, Nat.le_refl, Bool.false_eq_true, false_and, and_false, true_and, and_true, if_pos, if_neg, if_true, if_false, not_true_eq_false, not_false_eq_true]
    refine k137l (B := Is) (F := rdA tp (Z 5)) (by omega) hM hi o5.1 ((fs _ _ (by omega)).trans h16) (fun I2 p v1 hF hfr h27 h28 => ?_) (fun I2 v1 hF hfr h27 hX => ?_) 3 0 _ [] (fun _ => []) I1 I1 (by omega) hS1.1 ⟨hS1, tpM_Q hT hf1, (hf1 _ _ (by omega)).trans s27, ⟨(hf1 _ _ (by omega)).trans s21, fun j hj => by simp at hj⟩, (hf1 _ _ (by omega)).trans s26, fun _ _ _ => rfl⟩ (fun x k hx => hf1 x k (by omega)) (Nat.zero_le _) rfl (fun q hq => by omega) rfl
    · simp only [hF] at H
      have n1 : ¬ nI 1 = nI 0 := by decide
      simp (disch := first | assumption | exact ct_i | exact ct_r | exact ct_n | exact ct_h | omega | exact z_in (by omega) (by omega) | exact b01 | exact Or.inl rfl | exact Or.inr rfl) only [e137_0, e137_1, e137_4, e137_6, e137_9, e137_11, e137_12, e137_13, e137_14, e137_17, e137_18, e137_19, e137_22, e137_23, e137_24, e137_27, e137_28, e137_31, e137_32, e137_35, e137_36, e137_39, e137_40, e137_43, e137_44, e137_46, e137_47, e137_50, e137_51, e137_54, e137_57, e137_58, e137_59, e137_62, e137_65, e137_66, e137_69, e137_72, e137_73, e137_76, e137_77, e137_80, e137_81, e137_82, e137_85, e137_86, e137_87, e137_88, e137_89, e137_92, e137_93, e137_94, e137_97, e137_98, e137_101, e137_102, e137_103, e137_106, e137_107, e137_108, e137_109, e137_110, e137_113, e137_114, e137_115, e137_117, e137_120, e137_123, e137_124, e137_127, e137_130, e137_131, e137_134, e137_137, e137_140, e137_141, e137_144, e137_147, e137_148, e137_151, e137_154, e137_155, e137_158, e137_159, e137_160, e137_163, e137_164, e137_167, e137_170, e137_172, e137_173, e137_176, e137_177, e137_178, e137_179, e137_180, e137_183, e137_184, e137_185, e137_188, e137_189, e137_192, e137_193, e137_194, ct_i, ct_r, ct_n, ct_h, opt_v, opt_s, ref_s, ref_n, eq_self_iff_true, true_or, or_true, zl0, zl1, zl2, zl3, zl4, zl5, zl6, zl7, zl8, zl9, zl10, zl16, zl32, zl40, zl100, zl160, zIc1, zI_lt, zI_le, nI_eq, nI_add, z_sub, nI_clamp, zI_of, uu_eq, uu_ne, Nat.reduceLT, Nat.reduceLeDiff, Nat.reduceEqDiff, Nat.reduceAdd, Nat.reduceSub, Nat.reduceMul, Nat.not_lt_zero, Nat.lt_irrefl, Nat.le_refl, Bool.false_eq_true, false_and, and_false, true_and, and_true, if_pos, if_neg, if_true, if_false, not_true_eq_false, not_false_eq_true, m0, h27, h28]
      refine H _ ⟨hk.2.1, hk.2.2.1, hk.2.2.2.1, MI_tx (i0 := Z 3) hk.2.2.2.2 (fun k hk => u1_ne _ _ _ (by omega)) rfl (fun _ _ => trivial) htb (fun x k hx => ?_) (u1_eq _ _ _) (uu_eq I2 0 15 (nI 0)) ?_ (fun i hi => Or.inl ⟨?_, rfl⟩)⟩
      · try dsimp only
        rw [uu_ne _ _ _ _ (by omega), hfr _ _ (by omega), fs _ _ (by omega)]
      · try dsimp only
        rw [uu_ne _ _ _ _ (by omega), hfr _ _ (by omega), fs _ _ (by omega), u1_ne _ _ _ (by decide)]; exact h16
      · rw [u1_ne _ _ _ (by decide)] at hi; exact hi
    · simp only [hF] at H
      have h162 : I2 0 16 = nI (Z 3) := by rw [hfr _ _ (by omega), fs _ _ (by omega)]; exact h16
      simp (disch := first | assumption | exact ct_i | exact ct_r | exact ct_n | exact ct_h | omega | exact z_in (by omega) (by omega) | exact b01 | exact Or.inl rfl | exact Or.inr rfl) only [e137_0, e137_1, e137_4, e137_6, e137_9, e137_11, e137_12, e137_13, e137_14, e137_17, e137_18, e137_19, e137_22, e137_23, e137_24, e137_27, e137_28, e137_31, e137_32, e137_35, e137_36, e137_39, e137_40, e137_43, e137_44, e137_46, e137_47, e137_50, e137_51, e137_54, e137_57, e137_58, e137_59, e137_62, e137_65, e137_66, e137_69, e137_72, e137_73, e137_76, e137_77, e137_80, e137_81, e137_82, e137_85, e137_86, e137_87, e137_88, e137_89, e137_92, e137_93, e137_94, e137_97, e137_98, e137_101, e137_102, e137_103, e137_106, e137_107, e137_108, e137_109, e137_110, e137_113, e137_114, e137_115, e137_117, e137_120, e137_123, e137_124, e137_127, e137_130, e137_131, e137_134, e137_137, e137_140, e137_141, e137_144, e137_147, e137_148, e137_151, e137_154, e137_155, e137_158, e137_159, e137_160, e137_163, e137_164, e137_167, e137_170, e137_172, e137_173, e137_176, e137_177, e137_178, e137_179, e137_180, e137_183, e137_184, e137_185, e137_188, e137_189, e137_192, e137_193, e137_194, ct_i, ct_r, ct_n, ct_h, opt_v, opt_s, ref_s, ref_n, eq_self_iff_true, true_or, or_true, zl0, zl1, zl2, zl3, zl4, zl5, zl6, zl7, zl8, zl9, zl10, zl16, zl32, zl40, zl100, zl160, zIc1, zI_lt, zI_le, nI_eq, nI_add, z_sub, nI_clamp, zI_of, uu_eq, uu_ne, Nat.reduceLT, Nat.reduceLeDiff, Nat.reduceEqDiff, Nat.reduceAdd, Nat.reduceSub, Nat.reduceMul, Nat.not_lt_zero, Nat.lt_irrefl, Nat.le_refl, Bool.false_eq_true, false_and, and_false, true_and, and_true, if_pos, if_neg, if_true, if_false, not_true_eq_false, not_false_eq_true, m0, h27, h162, Nat.add_sub_cancel]
      refine H _ ⟨hk.2.1, hk.2.2.1, hk.2.2.2.1, MI_tx (i0 := Z 3) hk.2.2.2.2 (fun k hk => by rw [u1_ne _ _ _ (by omega), u1_ne _ _ _ (by omega)]) rfl (fun _ _ => trivial) htb (fun x k hx => ?_) (by rw [u1_ne _ _ _ (by decide), u1_eq]) ?_ ?_ (fun i hi => ?_)⟩
      · try dsimp only
        rw [uu_ne _ _ _ _ (by omega), uu_ne _ _ _ _ (by omega), hfr _ _ (by omega), fs _ _ (by omega)]
      · try dsimp only
        simp (disch := omega) only [uu_ne, uu_eq]
      · try dsimp only
        rw [u1_eq, uu_eq]
      · rw [u1_eq] at hi
        by_cases hz : i = Z 3
        · right
          subst hz
          rw [u1_eq]
          exact txM_fr hX (fun x k hx => by simp (disch := omega) only [uu_ne])
        · left
          exact ⟨by omega, u1_ne _ _ _ hz⟩
end
