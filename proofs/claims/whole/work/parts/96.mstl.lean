/-! the model finds the distances to a room -/
def sV (q : List (Nat × Nat)) (V : Nat → Nat) : Nat := sumN (fun k => V (qS q k)) q.length
theorem smN_le {f f' : Nat → Nat} : ∀ n, (∀ i, i < n → f' i ≤ f i) → sumN f' n ≤ sumN f n
  | 0, _ => Nat.le_refl _
  | n + 1, h => by
    have := smN_le n (fun i hi => h i (by omega))
    have := h n (by omega)
    simp only [sumN]; omega
theorem smN_lt {f f' : Nat → Nat} : ∀ n j, j < n → (∀ i, i < n → f' i ≤ f i) → f' j < f j → sumN f' n < sumN f n
  | 0, j, h, _, _ => by omega
  | n + 1, j, hj, h, hl => by
    simp only [sumN]
    by_cases he : j = n
    · subst he
      have := smN_le j (fun i hi => h i (by omega)); omega
    · have := smN_lt n j (by omega) (fun i hi => h i (by omega)) hl
      have := h n (by omega); omega
def stI (q : List (Nat × Nat)) (V : Nat → Nat) (I : Nat → Nat → Int32) : Prop := ∀ k, k < q.length → I 19 (qS q k) = nI (V (qS q k))
def frV (I I' : Nat → Nat → Int32) : Prop := ∀ x k, ¬ x = 19 → I' x k = I x k
theorem fA_V {g : Nat → Nat → Option Nat} {nd : Nat} {q : List (Nat × Nat)} {k d : Nat} {I I' : Nat → Nat → Int32} (h : fA g nd q k d I) (f : frV I I') : fA g nd q k d I' :=
  ⟨(f _ _ (by omega)).trans h.1, fun j hj => (f _ _ (by omega)).trans (h.2.1 j hj), fun j hj => (f _ _ (by omega)).trans (h.2.2.1 j hj), fun x h1 h2 => (f _ _ (by omega)).trans (h.2.2.2.1 x h1 h2), fun k' d' h1 h2 h3 => (f _ _ (by omega)).trans (h.2.2.2.2 k' d' h1 h2 h3)⟩
/-- a sweep in between: nothing has changed and all that was seen stands; or the sum has come down -/
def swI (g : Nat → Nat → Option Nat) (nd : Nat) (q : List (Nat × Nat)) (V0 V : Nat → Nat) (b K k i : Nat) : Prop :=
  b = 0 ∧ V = V0 ∧ (∀ k' d' y, (K ≤ k' ∨ k' = k ∧ d' < i) → k' < q.length → d' < nd → g (qS q k') d' = some y → V0 (qS q k') ≤ V0 y + 1) ∨ b = 1 ∧ sV q V < sV q V0
section
variable {d nd r : Nat} {n t : Nat} {sh : Nat → Nat × Nat} {L : Nat → Nat → Int64} {R : Nat → Nat → Option Nat} {I0 : Nat → Nat → Int32} {Q : Option Value → aH → Prop} {g : Nat → Nat → Option Nat} {q : List (Nat × Nat)} {s0 : Nat}
theorem k170d (hM : mK sh R) (h1 : I0 0 1 = nI nd) (hn : nd ≤ 4) (hq : qI g nd s0 q q.length 0) (hA : fA g nd q q.length 0 I0) {V0 : Nat → Nat} {k : Nat} (hk : k < q.length) (hr : r < 6)
    (H : ∀ I' V' b' l6, frV I0 I' → stI q V' I' → stS g nd r q V' → swI g nd q V0 V' b' (k + 1) k nd → aE (a_cl_ d) 170 (148, [.ref 0, .int (nI r), .int (nI b'), .int (nI k), .int (nI (qS q k)), .int (nI nd), l6], [], (n, t, sh, I', L, R)) Q) :
    ∀ m i I V b l6, i + m = nd → frV I0 I → stI q V I → stS g nd r q V → swI g nd q V0 V b (k + 1) k i →
    aE (a_cl_ d) 170 (77, [.ref 0, .int (nI r), .int (nI b), .int (nI k), .int (nI (qS q k)), .int (nI i), l6], [], (n, t, sh, I, L, R)) Q := by
  have m0 := mm_0 hM; have x18 := mm_x18 hM; have y18 := mm_y18 hM; have r35 := mm_r35 hM; have x19 := mm_x19 hM; have y19 := mm_y19 hM; have r36 := mm_r36 hM
  have hB := qB_of hq
  have hs := hB.2.1 k hk
  intro m
  induction m with
  | zero =>
    intro i I V b l6 hi hf hV hS hw
    obtain rfl : i = nd := by omega
    have g1 := (hf 0 1 (by omega)).trans h1
    rw [e170_77]
    simp (disch := first | assumption | exact ct_i | exact ct_r | exact ct_n | exact ct_h | omega | exact z_in (by omega) (by omega) | exact b01 | exact Or.inl rfl | exact Or.inr rfl) only [e170_0, e170_1, e170_2, e170_3, e170_4, e170_7, e170_10, e170_11, e170_14, e170_15, e170_18, e170_19, e170_20, e170_21, e170_24, e170_25, e170_26, e170_29, e170_30, e170_33, e170_34, e170_37, e170_40, e170_41, e170_44, e170_47, e170_48, e170_49, e170_50, e170_53, e170_54, e170_55, e170_56, e170_59, e170_60, e170_61, e170_62, e170_63, e170_66, e170_67, e170_70, e170_71, e170_72, e170_74, e170_75, e170_79, e170_80, e170_83, e170_86, e170_87, e170_90, e170_91, e170_93, e170_94, e170_96, e170_97, e170_98, e170_100, e170_102, e170_105, e170_106, e170_109, e170_111, e170_112, e170_113, e170_114, e170_115, e170_118, e170_120, e170_121, e170_124, e170_125, e170_128, e170_130, e170_131, e170_134, e170_136, e170_137, e170_138, e170_139, e170_140, e170_141, e170_142, e170_145, e170_151, e170_154, e170_157, ct_i, ct_r, ct_n, ct_h, opt_v, opt_s, ref_s, ref_n, eq_self_iff_true, true_or, or_true, zl0, zl1, zl2, zl3, zl4, zl5, zl6, zl7, zl8, zl9, zl10, zl16, zl32, zl40, zl100, zl160, zIc1, zI_lt, zI_le, nI_eq, nI_add, z_sub, nI_clamp, zI_of, uu_eq, uu_ne, Nat.reduceLT, Nat.reduceLeDiff, Nat.reduceEqDiff, Nat.reduceAdd, Nat.reduceSub, Nat.reduceMul, Nat.not_lt_zero, Nat.lt_irrefl, Nat.le_refl, Bool.false_eq_true, false_and, and_false, true_and, and_true, if_pos, if_neg, if_true, if_false, not_true_eq_false, not_false_eq_true, m0, g1]
    exact H I V b l6 hf hV hS hw
  | succ m ih =>
    intro i I V b l6 hi hf hV hS hw
    have hlt : i < nd := by omega
    have g1 := (hf 0 1 (by omega)).trans h1
    have g18 := (hf 18 (4 * qS q k + i) (by omega)).trans (hA.2.2.2.2 k i hk hlt (Or.inl hk))
    have gk := hV k hk
    have vk := (hS k hk).1
    rw [e170_77]
    cases hg : g (qS q k) i with
    | none =>
      rw [hg] at g18
      have g18' : I 18 (4 * qS q k + i) = -nI 1 := g18
      have hneg : -nI 1 < nI 0 := by decide
      have qq := ih (i + 1) I V b (.int (-nI 1)) (by omega) hf hV hS (by
        rcases hw with ⟨w1, w2, w3⟩ | w
        · refine Or.inl ⟨w1, w2, fun k' d' y hc a b c => ?_⟩
          by_cases hkd : k' = k ∧ d' = i
          · obtain ⟨rfl, rfl⟩ := hkd; rw [hg] at c; cases c
          · exact w3 k' d' y (by omega) a b c
        · exact Or.inr w)
      simp (disch := first | assumption | exact ct_i | exact ct_r | exact ct_n | exact ct_h | omega | exact z_in (by omega) (by omega) | exact b01 | exact Or.inl rfl | exact Or.inr rfl) only [e170_0, e170_1, e170_2, e170_3, e170_4, e170_7, e170_10, e170_11, e170_14, e170_15, e170_18, e170_19, e170_20, e170_21, e170_24, e170_25, e170_26, e170_29, e170_30, e170_33, e170_34, e170_37, e170_40, e170_41, e170_44, e170_47, e170_48, e170_49, e170_50, e170_53, e170_54, e170_55, e170_56, e170_59, e170_60, e170_61, e170_62, e170_63, e170_66, e170_67, e170_70, e170_71, e170_72, e170_74, e170_75, e170_79, e170_80, e170_83, e170_86, e170_87, e170_90, e170_91, e170_93, e170_94, e170_96, e170_97, e170_98, e170_100, e170_102, e170_105, e170_106, e170_109, e170_111, e170_112, e170_113, e170_114, e170_115, e170_118, e170_120, e170_121, e170_124, e170_125, e170_128, e170_130, e170_131, e170_134, e170_136, e170_137, e170_138, e170_139, e170_140, e170_141, e170_142, e170_145, e170_151, e170_154, e170_157, ct_i, ct_r, ct_n, ct_h, opt_v, opt_s, ref_s, ref_n, eq_self_iff_true, true_or, or_true, zl0, zl1, zl2, zl3, zl4, zl5, zl6, zl7, zl8, zl9, zl10, zl16, zl32, zl40, zl100, zl160, zIc1, zI_lt, zI_le, nI_eq, nI_add, z_sub, nI_clamp, zI_of, uu_eq, uu_ne, Nat.reduceLT, Nat.reduceLeDiff, Nat.reduceEqDiff, Nat.reduceAdd, Nat.reduceSub, Nat.reduceMul, Nat.not_lt_zero, Nat.lt_irrefl, Nat.le_refl, Bool.false_eq_true, false_and, and_false, true_and, and_true, if_pos, if_neg, if_true, if_false, not_true_eq_false, not_false_eq_true, zI_mul, m0, x18, y18, r35, g1, g18', hneg]
      exact qq
    | some y =>
      obtain ⟨j, hj, rfl, _⟩ := q_cl hq hk hlt hg
      have hy := hB.2.1 j hj
      rw [hg] at g18
      have g18' : I 18 (4 * qS q k + i) = nI (qS q j) := g18
      have gj := hV j hj
      have vj := (hS j hj).1
      by_cases hrel : V (qS q j) + 1 < V (qS q k)
      · have hS' : stS g nd r q (u1 V (qS q k) (V (qS q j) + 1)) := fun k2 hk2 => by
          by_cases he : qS q k2 = qS q k
          · rw [he, u1_eq]
            refine ⟨by omega, Or.inr ⟨i, _, hlt, hg, (hS j hj).2.1.resolve_left (by omega)⟩, fun e => ?_⟩
            have := (hS k hk).2.2 e; omega
          · rw [u1_ne _ _ _ he]; exact hS k2 hk2
        have hV' : stI q (u1 V (qS q k) (V (qS q j) + 1)) (u2 I 19 (qS q k) (nI (V (qS q j) + 1))) := fun k2 hk2 => by
          by_cases he : qS q k2 = qS q k
          · rw [he, u1_eq, uu_eq]
          · rw [u1_ne _ _ _ he, uu_ne _ _ _ _ (by omega)]; exact hV k2 hk2
        have hsum : sV q (u1 V (qS q k) (V (qS q j) + 1)) < sV q V := by
          refine smN_lt _ k hk (fun i2 hi2 => ?_) ?_
          · by_cases he : qS q i2 = qS q k
            · rw [he, u1_eq]; omega
            · rw [u1_ne _ _ _ he]; exact Nat.le_refl _
          · rw [u1_eq]; exact hrel
        have qq := ih (i + 1) (u2 I 19 (qS q k) (nI (V (qS q j) + 1))) _ 1 (.int (nI (qS q j))) (by omega) (fun x z hx => by rw [uu_ne _ _ _ _ (by omega)]; exact hf x z hx) hV' hS' (Or.inr ⟨rfl, by
          rcases hw with ⟨_, w2, _⟩ | w
          · rw [← w2]; exact hsum
          · have := w.2; omega⟩)
        have hcond : ¬ V (qS q k) ≤ V (qS q j) + 1 := by omega
        simp (disch := first | assumption | exact ct_i | exact ct_r | exact ct_n | exact ct_h | omega | exact z_in (by omega) (by omega) | exact b01 | exact Or.inl rfl | exact Or.inr rfl) only [e170_0, e170_1, e170_2, e170_3, e170_4, e170_7, e170_10, e170_11, e170_14, e170_15, e170_18, e170_19, e170_20, e170_21, e170_24, e170_25, e170_26, e170_29, e170_30, e170_33, e170_34, e170_37, e170_40, e170_41, e170_44, e170_47, e170_48, e170_49, e170_50, e170_53, e170_54, e170_55, e170_56, e170_59, e170_60, e170_61, e170_62, e170_63, e170_66, e170_67, e170_70, e170_71, e170_72, e170_74, e170_75, e170_79, e170_80, e170_83, e170_86, e170_87, e170_90, e170_91, e170_93, e170_94, e170_96, e170_97, e170_98, e170_100, e170_102, e170_105, e170_106, e170_109, e170_111, e170_112, e170_113, e170_114, e170_115, e170_118, e170_120, e170_121, e170_124, e170_125, e170_128, e170_130, e170_131, e170_134, e170_136, e170_137, e170_138, e170_139, e170_140, e170_141, e170_142, e170_145, e170_151, e170_154, e170_157, ct_i, ct_r, ct_n, ct_h, opt_v, opt_s, ref_s, ref_n, eq_self_iff_true, true_or, or_true, zl0, zl1, zl2, zl3, zl4, zl5, zl6, zl7, zl8, zl9, zl10, zl16, zl32, zl40, zl100, zl160, zIc1, zI_lt, zI_le, nI_eq, nI_add, z_sub, nI_clamp, zI_of, uu_eq, uu_ne, Nat.reduceLT, Nat.reduceLeDiff, Nat.reduceEqDiff, Nat.reduceAdd, Nat.reduceSub, Nat.reduceMul, Nat.not_lt_zero, Nat.lt_irrefl, Nat.le_refl, Bool.false_eq_true, false_and, and_false, true_and, and_true, if_pos, if_neg, if_true, if_false, not_true_eq_false, not_false_eq_true, zI_mul, m0, x18, y18, r35, x19, y19, r36, g1, g18', gj, gk, hcond]
        exact qq
      · have hcond : V (qS q k) ≤ V (qS q j) + 1 := by omega
        have qq := ih (i + 1) I V b (.int (nI (qS q j))) (by omega) hf hV hS (by
          rcases hw with ⟨w1, w2, w3⟩ | w
          · refine Or.inl ⟨w1, w2, fun k' d' y hc a b c => ?_⟩
            by_cases hkd : k' = k ∧ d' = i
            · obtain ⟨rfl, rfl⟩ := hkd
              rw [hg] at c
              injection c with c
              rw [← c, ← w2]; exact hcond
            · exact w3 k' d' y (by omega) a b c
          · exact Or.inr w)
        simp (disch := first | assumption | exact ct_i | exact ct_r | exact ct_n | exact ct_h | omega | exact z_in (by omega) (by omega) | exact b01 | exact Or.inl rfl | exact Or.inr rfl) only [e170_0, e170_1, e170_2, e170_3, e170_4, e170_7, e170_10, e170_11, e170_14, e170_15, e170_18, e170_19, e170_20, e170_21, e170_24, e170_25, e170_26, e170_29, e170_30, e170_33, e170_34, e170_37, e170_40, e170_41, e170_44, e170_47, e170_48, e170_49, e170_50, e170_53, e170_54, e170_55, e170_56, e170_59, e170_60, e170_61, e170_62, e170_63, e170_66, e170_67, e170_70, e170_71, e170_72, e170_74, e170_75, e170_79, e170_80, e170_83, e170_86, e170_87, e170_90, e170_91, e170_93, e170_94, e170_96, e170_97, e170_98, e170_100, e170_102, e170_105, e170_106, e170_109, e170_111, e170_112, e170_113, e170_114, e170_115, e170_118, e170_120, e170_121, e170_124, e170_125, e170_128, e170_130, e170_131, e170_134, e170_136, e170_137, e170_138, e170_139, e170_140, e170_141, e170_142, e170_145, e170_151, e170_154, e170_157, ct_i, ct_r, ct_n, ct_h, opt_v, opt_s, ref_s, ref_n, eq_self_iff_true, true_or, or_true, zl0, zl1, zl2, zl3, zl4, zl5, zl6, zl7, zl8, zl9, zl10, zl16, zl32, zl40, zl100, zl160, zIc1, zI_lt, zI_le, nI_eq, nI_add, z_sub, nI_clamp, zI_of, uu_eq, uu_ne, Nat.reduceLT, Nat.reduceLeDiff, Nat.reduceEqDiff, Nat.reduceAdd, Nat.reduceSub, Nat.reduceMul, Nat.not_lt_zero, Nat.lt_irrefl, Nat.le_refl, Bool.false_eq_true, false_and, and_false, true_and, and_true, if_pos, if_neg, if_true, if_false, not_true_eq_false, not_false_eq_true, zI_mul, m0, x18, y18, r35, x19, y19, r36, g1, g18', gj, gk, hcond]
        exact qq
theorem k170k (hM : mK sh R) (h1 : I0 0 1 = nI nd) (hn : nd ≤ 4) (hq : qI g nd s0 q q.length 0) (hA : fA g nd q q.length 0 I0) {V0 : Nat → Nat} (hr : r < 6)
    (H : ∀ I' V' b' l3 l4 l5 l6, l3.category = 1 → l4.category = 1 → l5.category = 1 → frV I0 I' → stI q V' I' → stS g nd r q V' → swI g nd q V0 V' b' 0 0 0 → aE (a_cl_ d) 170 (49, [.ref 0, .int (nI r), .int (nI b'), l3, l4, l5, l6], [], (n, t, sh, I', L, R)) Q) :
    ∀ K I V b l4 l5 l6, K ≤ q.length → l4.category = 1 → l5.category = 1 → frV I0 I → stI q V I → stS g nd r q V → swI g nd q V0 V b K 0 0 →
    aE (a_cl_ d) 170 (62, [.ref 0, .int (nI r), .int (nI b), .int (nI K + -nI 1), l4, l5, l6], [], (n, t, sh, I, L, R)) Q := by
  have m0 := mm_0 hM; have x16 := mm_x16 hM; have y16 := mm_y16 hM; have r32 := mm_r32 hM
  have hB := qB_of hq
  have hl := hB.1
  intro K
  induction K with
  | zero =>
    intro I V b l4 l5 l6 hK hc4 hc5 hf hV hS hw
    have hneg : nI 0 + -nI 1 < nI 0 := by decide
    rw [e170_62]
    simp (disch := first | assumption | exact ct_i | exact ct_r | exact ct_n | exact ct_h | omega | exact z_in (by omega) (by omega) | exact b01 | exact Or.inl rfl | exact Or.inr rfl) only [e170_0, e170_1, e170_2, e170_3, e170_4, e170_7, e170_10, e170_11, e170_14, e170_15, e170_18, e170_19, e170_20, e170_21, e170_24, e170_25, e170_26, e170_29, e170_30, e170_33, e170_34, e170_37, e170_40, e170_41, e170_44, e170_47, e170_48, e170_50, e170_53, e170_54, e170_55, e170_56, e170_59, e170_60, e170_61, e170_63, e170_66, e170_67, e170_70, e170_71, e170_72, e170_74, e170_75, e170_79, e170_80, e170_83, e170_86, e170_87, e170_90, e170_91, e170_93, e170_94, e170_96, e170_97, e170_98, e170_100, e170_102, e170_105, e170_106, e170_109, e170_111, e170_112, e170_113, e170_114, e170_115, e170_118, e170_120, e170_121, e170_124, e170_125, e170_128, e170_130, e170_131, e170_134, e170_136, e170_137, e170_138, e170_139, e170_140, e170_141, e170_142, e170_145, e170_148, e170_151, e170_154, e170_157, ct_i, ct_r, ct_n, ct_h, opt_v, opt_s, ref_s, ref_n, eq_self_iff_true, true_or, or_true, hneg, if_true, zl0]
    exact H I V b _ _ _ _ rfl hc4 hc5 hf hV hS hw
  | succ K ih =>
    intro I V b l4 l5 l6 hK hc4 hc5 hf hV hS hw
    have hk : K < q.length := by omega
    have g16 := (hf 16 K (by omega)).trans (hA.2.1 K hk)
    have hs := hB.2.1 K hk
    rw [z_dn, e170_62]
    simp (disch := first | assumption | exact ct_i | exact ct_r | exact ct_n | exact ct_h | omega | exact z_in (by omega) (by omega) | exact b01 | exact Or.inl rfl | exact Or.inr rfl) only [e170_0, e170_1, e170_2, e170_3, e170_4, e170_7, e170_10, e170_11, e170_14, e170_15, e170_18, e170_19, e170_20, e170_21, e170_24, e170_25, e170_26, e170_29, e170_30, e170_33, e170_34, e170_37, e170_40, e170_41, e170_44, e170_47, e170_48, e170_50, e170_53, e170_54, e170_55, e170_56, e170_59, e170_60, e170_61, e170_63, e170_66, e170_67, e170_70, e170_71, e170_72, e170_74, e170_75, e170_79, e170_80, e170_83, e170_86, e170_87, e170_90, e170_91, e170_93, e170_94, e170_96, e170_97, e170_98, e170_100, e170_102, e170_105, e170_106, e170_109, e170_111, e170_112, e170_113, e170_114, e170_115, e170_118, e170_120, e170_121, e170_124, e170_125, e170_128, e170_130, e170_131, e170_134, e170_136, e170_137, e170_138, e170_139, e170_140, e170_141, e170_142, e170_145, e170_148, e170_151, e170_154, e170_157, ct_i, ct_r, ct_n, ct_h, opt_v, opt_s, ref_s, ref_n, eq_self_iff_true, true_or, or_true, zl0, zl1, zl2, zl3, zl4, zl5, zl6, zl7, zl8, zl9, zl10, zl16, zl32, zl40, zl100, zl160, zIc1, zI_lt, zI_le, nI_eq, nI_add, z_sub, nI_clamp, zI_of, uu_eq, uu_ne, Nat.reduceLT, Nat.reduceLeDiff, Nat.reduceEqDiff, Nat.reduceAdd, Nat.reduceSub, Nat.reduceMul, Nat.not_lt_zero, Nat.lt_irrefl, Nat.le_refl, Bool.false_eq_true, false_and, and_false, true_and, and_true, if_pos, if_neg, if_true, if_false, not_true_eq_false, not_false_eq_true, m0, x16, y16, r32, g16]
    refine k170d hM h1 hn hq hA (V0 := V0) hk hr (fun I' V' b' l6' hf' hV' hS' hw' => ?_) nd 0 I V b l6 (by omega) hf hV hS ?_
    · simp (disch := first | assumption | exact ct_i | exact ct_r | exact ct_n | exact ct_h | omega | exact z_in (by omega) (by omega) | exact b01 | exact Or.inl rfl | exact Or.inr rfl) only [e170_0, e170_1, e170_2, e170_3, e170_4, e170_7, e170_10, e170_11, e170_14, e170_15, e170_18, e170_19, e170_20, e170_21, e170_24, e170_25, e170_26, e170_29, e170_30, e170_33, e170_34, e170_37, e170_40, e170_41, e170_44, e170_47, e170_48, e170_50, e170_53, e170_54, e170_55, e170_56, e170_59, e170_60, e170_61, e170_63, e170_66, e170_67, e170_70, e170_71, e170_72, e170_74, e170_75, e170_79, e170_80, e170_83, e170_86, e170_87, e170_90, e170_91, e170_93, e170_94, e170_96, e170_97, e170_98, e170_100, e170_102, e170_105, e170_106, e170_109, e170_111, e170_112, e170_113, e170_114, e170_115, e170_118, e170_120, e170_121, e170_124, e170_125, e170_128, e170_130, e170_131, e170_134, e170_136, e170_137, e170_138, e170_139, e170_140, e170_141, e170_142, e170_145, e170_148, e170_151, e170_154, e170_157, ct_i, ct_r, ct_n, ct_h, opt_v, opt_s, ref_s, ref_n, eq_self_iff_true, true_or, or_true, zl0, zl1, zl2, zl3, zl4, zl5, zl6, zl7, zl8, zl9, zl10, zl16, zl32, zl40, zl100, zl160, zIc1, zI_lt, zI_le, nI_eq, nI_add, z_sub, nI_clamp, zI_of, uu_eq, uu_ne, Nat.reduceLT, Nat.reduceLeDiff, Nat.reduceEqDiff, Nat.reduceAdd, Nat.reduceSub, Nat.reduceMul, Nat.not_lt_zero, Nat.lt_irrefl, Nat.le_refl, Bool.false_eq_true, false_and, and_false, true_and, and_true, if_true, if_false, not_true_eq_false, not_false_eq_true, zIm1]
      refine ih I' V' b' _ _ _ (by omega) rfl rfl hf' hV' hS' ?_
      rcases hw' with ⟨w1, w2, w3⟩ | w
      · refine Or.inl ⟨w1, w2, fun k' d' y hc a b c => w3 k' d' y (by omega) a b c⟩
      · exact Or.inr w
    · rcases hw with ⟨w1, w2, w3⟩ | w
      · exact Or.inl ⟨w1, w2, fun k' d' y hc a b c => w3 k' d' y (by omega) a b c⟩
      · exact Or.inr w
theorem k170o (hM : mK sh R) (h1 : I0 0 1 = nI nd) (hn : nd ≤ 4) (hq : qI g nd s0 q q.length 0) (hA : fA g nd q q.length 0 I0) (hr : r < 6)
    (H : ∀ I' V', frV I0 I' → stI q V' I' → stS g nd r q V' → stF g nd q V' → Q none (n, t, sh, I', L, R)) :
    ∀ F I V b l3 l4 l5 l6, sV q V < F → (b = 0 ∧ stF g nd q V ∨ b = 1) → l3.category = 1 → l4.category = 1 → l5.category = 1 → frV I0 I → stI q V I → stS g nd r q V →
    aE (a_cl_ d) 170 (49, [.ref 0, .int (nI r), .int (nI b), l3, l4, l5, l6], [], (n, t, sh, I, L, R)) Q := by
  have m0 := mm_0 hM
  have hB := qB_of hq
  have hl := hB.1
  have hpos := hq.1.1
  intro F
  induction F with
  | zero => intro I V b l3 l4 l5 l6 hF; omega
  | succ F ih =>
    intro I V b l3 l4 l5 l6 hF hb hc3 hc4 hc5 hf hV hS
    rw [e170_49]
    rcases hb with ⟨rfl, hfx⟩ | rfl
    · simp (disch := first | assumption | exact ct_i | exact ct_r | exact ct_n | exact ct_h | omega | exact z_in (by omega) (by omega) | exact b01 | exact Or.inl rfl | exact Or.inr rfl) only [e170_0, e170_1, e170_2, e170_3, e170_4, e170_7, e170_10, e170_11, e170_14, e170_15, e170_18, e170_19, e170_20, e170_21, e170_24, e170_25, e170_26, e170_29, e170_30, e170_33, e170_34, e170_37, e170_40, e170_41, e170_44, e170_47, e170_48, e170_50, e170_53, e170_54, e170_55, e170_56, e170_59, e170_60, e170_61, e170_63, e170_66, e170_67, e170_70, e170_71, e170_72, e170_74, e170_75, e170_77, e170_79, e170_80, e170_83, e170_86, e170_87, e170_90, e170_91, e170_93, e170_94, e170_96, e170_97, e170_98, e170_100, e170_102, e170_105, e170_106, e170_109, e170_111, e170_112, e170_113, e170_114, e170_115, e170_118, e170_120, e170_121, e170_124, e170_125, e170_128, e170_130, e170_131, e170_134, e170_136, e170_137, e170_138, e170_139, e170_140, e170_141, e170_142, e170_145, e170_148, e170_151, e170_154, e170_157, ct_i, ct_r, ct_n, ct_h, opt_v, opt_s, ref_s, ref_n, eq_self_iff_true, true_or, or_true, zl0, zl1, zl2, zl3, zl4, zl5, zl6, zl7, zl8, zl9, zl10, zl16, zl32, zl40, zl100, zl160, zIc1, zI_lt, zI_le, nI_eq, nI_add, z_sub, nI_clamp, zI_of, uu_eq, uu_ne, Nat.reduceLT, Nat.reduceLeDiff, Nat.reduceEqDiff, Nat.reduceAdd, Nat.reduceSub, Nat.reduceMul, Nat.not_lt_zero, Nat.lt_irrefl, Nat.le_refl, Bool.false_eq_true, false_and, and_false, true_and, and_true, if_pos, if_neg, if_true, if_false, not_true_eq_false, not_false_eq_true]
      exact H I V hf hV hS hfx
    · have g33 := (hf 0 33 (by omega)).trans hA.1
      have e1 : nI (q.length - 1) = nI q.length + -nI 1 := by
        rw [← Int32.sub_eq_add_neg, z_sub (by omega)]
      simp (disch := first | assumption | exact ct_i | exact ct_r | exact ct_n | exact ct_h | omega | exact z_in (by omega) (by omega) | exact b01 | exact Or.inl rfl | exact Or.inr rfl) only [e170_0, e170_1, e170_2, e170_3, e170_4, e170_7, e170_10, e170_11, e170_14, e170_15, e170_18, e170_19, e170_20, e170_21, e170_24, e170_25, e170_26, e170_29, e170_30, e170_33, e170_34, e170_37, e170_40, e170_41, e170_44, e170_47, e170_48, e170_50, e170_53, e170_54, e170_55, e170_56, e170_59, e170_60, e170_61, e170_63, e170_66, e170_67, e170_70, e170_71, e170_72, e170_74, e170_75, e170_77, e170_79, e170_80, e170_83, e170_86, e170_87, e170_90, e170_91, e170_93, e170_94, e170_96, e170_97, e170_98, e170_100, e170_102, e170_105, e170_106, e170_109, e170_111, e170_112, e170_113, e170_114, e170_115, e170_118, e170_120, e170_121, e170_124, e170_125, e170_128, e170_130, e170_131, e170_134, e170_136, e170_137, e170_138, e170_139, e170_140, e170_141, e170_142, e170_145, e170_148, e170_151, e170_154, e170_157, ct_i, ct_r, ct_n, ct_h, opt_v, opt_s, ref_s, ref_n, eq_self_iff_true, true_or, or_true, zl0, zl1, zl2, zl3, zl4, zl5, zl6, zl7, zl8, zl9, zl10, zl16, zl32, zl40, zl100, zl160, zIc1, zI_lt, zI_le, nI_eq, nI_add, z_sub, nI_clamp, zI_of, uu_eq, uu_ne, Nat.reduceLT, Nat.reduceLeDiff, Nat.reduceEqDiff, Nat.reduceAdd, Nat.reduceSub, Nat.reduceMul, Nat.not_lt_zero, Nat.lt_irrefl, Nat.le_refl, Bool.false_eq_true, false_and, and_false, true_and, and_true, if_pos, if_neg, if_true, if_false, not_true_eq_false, not_false_eq_true, m0, g33]
      rw [e1]
      refine k170k hM h1 hn hq hA (V0 := V) hr (fun I' V' b' l3' l4' l5' l6' d3 d4 d5 hf' hV' hS' hw' => ?_) q.length I V 0 _ _ _ (Nat.le_refl _) hc4 hc5 hf hV hS (Or.inl ⟨rfl, rfl, fun k' d' y hc a b c => by omega⟩)
      rcases hw' with ⟨rfl, rfl, w3⟩ | ⟨rfl, w2⟩
      · rw [e170_49]
        simp (disch := first | assumption | exact ct_i | exact ct_r | exact ct_n | exact ct_h | omega | exact z_in (by omega) (by omega) | exact b01 | exact Or.inl rfl | exact Or.inr rfl) only [e170_0, e170_1, e170_2, e170_3, e170_4, e170_7, e170_10, e170_11, e170_14, e170_15, e170_18, e170_19, e170_20, e170_21, e170_24, e170_25, e170_26, e170_29, e170_30, e170_33, e170_34, e170_37, e170_40, e170_41, e170_44, e170_47, e170_48, e170_50, e170_53, e170_54, e170_55, e170_56, e170_59, e170_60, e170_61, e170_63, e170_66, e170_67, e170_70, e170_71, e170_72, e170_74, e170_75, e170_77, e170_79, e170_80, e170_83, e170_86, e170_87, e170_90, e170_91, e170_93, e170_94, e170_96, e170_97, e170_98, e170_100, e170_102, e170_105, e170_106, e170_109, e170_111, e170_112, e170_113, e170_114, e170_115, e170_118, e170_120, e170_121, e170_124, e170_125, e170_128, e170_130, e170_131, e170_134, e170_136, e170_137, e170_138, e170_139, e170_140, e170_141, e170_142, e170_145, e170_148, e170_151, e170_154, e170_157, ct_i, ct_r, ct_n, ct_h, opt_v, opt_s, ref_s, ref_n, eq_self_iff_true, true_or, or_true, zl0, zl1, zl2, zl3, zl4, zl5, zl6, zl7, zl8, zl9, zl10, zl16, zl32, zl40, zl100, zl160, zIc1, zI_lt, zI_le, nI_eq, nI_add, z_sub, nI_clamp, zI_of, uu_eq, uu_ne, Nat.reduceLT, Nat.reduceLeDiff, Nat.reduceEqDiff, Nat.reduceAdd, Nat.reduceSub, Nat.reduceMul, Nat.not_lt_zero, Nat.lt_irrefl, Nat.le_refl, Bool.false_eq_true, false_and, and_false, true_and, and_true, if_pos, if_neg, if_true, if_false, not_true_eq_false, not_false_eq_true]
        exact H I' V' hf' hV' hS' (fun k d y a b c => w3 k d y (Or.inl (Nat.zero_le _)) a b c)
      · exact ih I' V' 1 _ _ _ _ (by omega) (Or.inr rfl) d3 d4 d5 hf' hV' hS'
theorem k170i (hd : 1 ≤ d) (hM : mK sh R) (hq : qI g nd s0 q q.length 0) (hA : fA g nd q q.length 0 I0) (hr : r < 6) {l3 l4 l5 l6 : Value}
    (H : ∀ I' V', frV I0 I' → stI q V' I' → stS g nd r q V' → aE (a_cl_ d) 170 (49, [.ref 0, .int (nI r), .int (nI 1), l3, l4, l5, l6], [], (n, t, sh, I', L, R)) Q) :
    ∀ m i I, i + m = q.length → frV I0 I → (∀ k, k < i → I 19 (qS q k) = nI (if rmo (qS q k) = r then 0 else 1000000)) → aE (a_cl_ d) 170 (2, [.ref 0, .int (nI r), .int (nI i), l3, l4, l5, l6], [], (n, t, sh, I, L, R)) Q := by
  have m0 := mm_0 hM; have x16 := mm_x16 hM; have y16 := mm_y16 hM; have r32 := mm_r32 hM; have x19 := mm_x19 hM; have y19 := mm_y19 hM; have r36 := mm_r36 hM
  have hB := qB_of hq
  have hl := hB.1
  have e6 : (1000000 : Int32) = nI 1000000 := rfl
  intro m
  induction m with
  | zero =>
    intro i I hi hf hz
    obtain rfl : i = q.length := by omega
    have g33 := (hf 0 33 (by omega)).trans hA.1
    have qq := H I (fun s => if rmo s = r then 0 else 1000000) hf hz (fun k hk => by
      by_cases hc : rmo (qS q k) = r
      · simp only [if_pos hc]; exact ⟨by omega, Or.inr hc, fun _ => trivial⟩
      · simp only [if_neg hc]; exact ⟨Nat.le_refl _, Or.inl trivial, fun e => absurd e hc⟩)
    rw [e170_2]
    simp (disch := first | assumption | exact ct_i | exact ct_r | exact ct_n | exact ct_h | omega | exact z_in (by omega) (by omega) | exact b01 | exact Or.inl rfl | exact Or.inr rfl) only [e170_0, e170_1, e170_3, e170_4, e170_7, e170_10, e170_11, e170_14, e170_15, e170_18, e170_19, e170_20, e170_21, e170_24, e170_25, e170_26, e170_29, e170_30, e170_33, e170_34, e170_37, e170_40, e170_41, e170_44, e170_47, e170_48, e170_50, e170_53, e170_54, e170_55, e170_56, e170_59, e170_60, e170_61, e170_62, e170_63, e170_66, e170_67, e170_70, e170_71, e170_72, e170_74, e170_75, e170_77, e170_79, e170_80, e170_83, e170_86, e170_87, e170_90, e170_91, e170_93, e170_94, e170_96, e170_97, e170_98, e170_100, e170_102, e170_105, e170_106, e170_109, e170_111, e170_112, e170_113, e170_114, e170_115, e170_118, e170_120, e170_121, e170_124, e170_125, e170_128, e170_130, e170_131, e170_134, e170_136, e170_137, e170_138, e170_139, e170_140, e170_141, e170_142, e170_145, e170_148, e170_151, e170_154, e170_157, ct_i, ct_r, ct_n, ct_h, opt_v, opt_s, ref_s, ref_n, eq_self_iff_true, true_or, or_true, zl0, zl1, zl2, zl3, zl4, zl5, zl6, zl7, zl8, zl9, zl10, zl16, zl32, zl40, zl100, zl160, zIc1, zI_lt, zI_le, nI_eq, nI_add, z_sub, nI_clamp, zI_of, uu_eq, uu_ne, Nat.reduceLT, Nat.reduceLeDiff, Nat.reduceEqDiff, Nat.reduceAdd, Nat.reduceSub, Nat.reduceMul, Nat.not_lt_zero, Nat.lt_irrefl, Nat.le_refl, Bool.false_eq_true, false_and, and_false, true_and, and_true, if_pos, if_neg, if_true, if_false, not_true_eq_false, not_false_eq_true, m0, g33]
    exact qq
  | succ m ih =>
    intro i I hi hf hz
    have hlt : i < q.length := by omega
    have g33 := (hf 0 33 (by omega)).trans hA.1
    have g16 := (hf 16 i (by omega)).trans (hA.2.1 i hlt)
    have hs := hB.2.1 i hlt
    have hrm := rmo_lt hs
    rw [e170_2]
    have step : ∀ v, v = (if rmo (qS q i) = r then 0 else 1000000) → aE (a_cl_ d) 170 (2, [.ref 0, .int (nI r), .int (nI (i + 1)), l3, l4, l5, l6], [], (n, t, sh, u2 I 19 (qS q i) (nI v), L, R)) Q := fun v hv => by
      refine ih (i + 1) _ (by omega) (fun x z hx => by rw [uu_ne _ _ _ _ (by omega)]; exact hf x z hx) (fun k hk => ?_)
      by_cases he : qS q k = qS q i
      · rw [he, uu_eq, hv]
      · rw [uu_ne _ _ _ _ (by omega)]
        have : ¬ k = i := fun e => he (by rw [e])
        exact hz k (by omega)
    by_cases hc : rmo (qS q i) = r
    · have qq := step 0 (by rw [if_pos hc])
      simp (disch := first | assumption | exact ct_i | exact ct_r | exact ct_n | exact ct_h | omega | exact z_in (by omega) (by omega) | exact b01 | exact Or.inl rfl | exact Or.inr rfl) only [e170_0, e170_1, e170_3, e170_4, e170_7, e170_10, e170_11, e170_14, e170_15, e170_18, e170_19, e170_20, e170_21, e170_24, e170_25, e170_26, e170_29, e170_30, e170_33, e170_34, e170_37, e170_40, e170_41, e170_44, e170_47, e170_48, e170_50, e170_53, e170_54, e170_55, e170_56, e170_59, e170_60, e170_61, e170_62, e170_63, e170_66, e170_67, e170_70, e170_71, e170_72, e170_74, e170_75, e170_77, e170_79, e170_80, e170_83, e170_86, e170_87, e170_90, e170_91, e170_93, e170_94, e170_96, e170_97, e170_98, e170_100, e170_102, e170_105, e170_106, e170_109, e170_111, e170_112, e170_113, e170_114, e170_115, e170_118, e170_120, e170_121, e170_124, e170_125, e170_128, e170_130, e170_131, e170_134, e170_136, e170_137, e170_138, e170_139, e170_140, e170_141, e170_142, e170_145, e170_148, e170_151, e170_154, e170_157, ct_i, ct_r, ct_n, ct_h, opt_v, opt_s, ref_s, ref_n, eq_self_iff_true, true_or, or_true, zl0, zl1, zl2, zl3, zl4, zl5, zl6, zl7, zl8, zl9, zl10, zl16, zl32, zl40, zl100, zl160, zIc1, zI_lt, zI_le, nI_eq, nI_add, z_sub, nI_clamp, zI_of, uu_eq, uu_ne, Nat.reduceLT, Nat.reduceLeDiff, Nat.reduceEqDiff, Nat.reduceAdd, Nat.reduceSub, Nat.reduceMul, Nat.not_lt_zero, Nat.lt_irrefl, Nat.le_refl, Bool.false_eq_true, false_and, and_false, true_and, and_true, if_pos, if_neg, if_true, if_false, not_true_eq_false, not_false_eq_true, m0, x16, y16, r32, x19, y19, r36, g33, g16, k165 (show 1 ≤ d by omega) hs, hc]
      exact qq
    · have qq := step 1000000 (by rw [if_neg hc])
      simp (disch := first | assumption | exact ct_i | exact ct_r | exact ct_n | exact ct_h | omega | exact z_in (by omega) (by omega) | exact b01 | exact Or.inl rfl | exact Or.inr rfl) only [e170_0, e170_1, e170_3, e170_4, e170_7, e170_10, e170_11, e170_14, e170_15, e170_18, e170_19, e170_20, e170_21, e170_24, e170_25, e170_26, e170_29, e170_30, e170_33, e170_34, e170_37, e170_40, e170_41, e170_44, e170_47, e170_48, e170_50, e170_53, e170_54, e170_55, e170_56, e170_59, e170_60, e170_61, e170_62, e170_63, e170_66, e170_67, e170_70, e170_71, e170_72, e170_74, e170_75, e170_77, e170_79, e170_80, e170_83, e170_86, e170_87, e170_90, e170_91, e170_93, e170_94, e170_96, e170_97, e170_98, e170_100, e170_102, e170_105, e170_106, e170_109, e170_111, e170_112, e170_113, e170_114, e170_115, e170_118, e170_120, e170_121, e170_124, e170_125, e170_128, e170_130, e170_131, e170_134, e170_136, e170_137, e170_138, e170_139, e170_140, e170_141, e170_142, e170_145, e170_148, e170_151, e170_154, e170_157, ct_i, ct_r, ct_n, ct_h, opt_v, opt_s, ref_s, ref_n, eq_self_iff_true, true_or, or_true, zl0, zl1, zl2, zl3, zl4, zl5, zl6, zl7, zl8, zl9, zl10, zl16, zl32, zl40, zl100, zl160, zIc1, zI_lt, zI_le, nI_eq, nI_add, z_sub, nI_clamp, zI_of, uu_eq, uu_ne, Nat.reduceLT, Nat.reduceLeDiff, Nat.reduceEqDiff, Nat.reduceAdd, Nat.reduceSub, Nat.reduceMul, Nat.not_lt_zero, Nat.lt_irrefl, Nat.le_refl, Bool.false_eq_true, false_and, and_false, true_and, and_true, if_pos, if_neg, if_true, if_false, not_true_eq_false, not_false_eq_true, m0, x16, y16, r32, x19, y19, r36, g33, g16, k165 (show 1 ≤ d by omega) hs, hc, e6]
      exact qq
theorem k170 (hd : 2 ≤ d) (hM : mK sh R) (h1 : I0 0 1 = nI nd) (hn : nd ≤ 4) (hq : qI g nd s0 q q.length 0) (hA : fA g nd q q.length 0 I0) (hr : r < 6)
    (H : ∀ I' V', frV I0 I' → stI q V' I' → stS g nd r q V' → stF g nd q V' → Q none (n, t, sh, I', L, R)) : aC d 170 [.ref 0, .int (nI r)] (n, t, sh, I0, L, R) Q := by
  obtain ⟨d, rfl⟩ : ∃ e, d = e + 1 := ⟨d - 1, by omega⟩
  simp (disch := first | assumption | exact ct_i | exact ct_r | exact ct_n | exact ct_h | omega | exact z_in (by omega) (by omega) | exact b01 | exact Or.inl rfl | exact Or.inr rfl) only [b170, e170_0, e170_1, e170_3, e170_4, e170_7, e170_10, e170_11, e170_14, e170_15, e170_18, e170_19, e170_20, e170_21, e170_24, e170_25, e170_26, e170_29, e170_30, e170_33, e170_34, e170_37, e170_40, e170_41, e170_44, e170_47, e170_48, e170_50, e170_53, e170_54, e170_55, e170_56, e170_59, e170_60, e170_61, e170_62, e170_63, e170_66, e170_67, e170_70, e170_71, e170_72, e170_74, e170_75, e170_77, e170_79, e170_80, e170_83, e170_86, e170_87, e170_90, e170_91, e170_93, e170_94, e170_96, e170_97, e170_98, e170_100, e170_102, e170_105, e170_106, e170_109, e170_111, e170_112, e170_113, e170_114, e170_115, e170_118, e170_120, e170_121, e170_124, e170_125, e170_128, e170_130, e170_131, e170_134, e170_136, e170_137, e170_138, e170_139, e170_140, e170_141, e170_142, e170_145, e170_148, e170_151, e170_154, e170_157, ct_i, ct_r, ct_n, ct_h, opt_v, opt_s, ref_s, ref_n, eq_self_iff_true, true_or, or_true, zl0, zl1, zl2, zl3, zl4, zl5, zl6, zl7, zl8, zl9, zl10, zl16, zl32, zl40, zl100, zl160, zIc1, zI_lt, zI_le, nI_eq, nI_add, z_sub, nI_clamp, zI_of, uu_eq, uu_ne, Nat.reduceLT, Nat.reduceLeDiff, Nat.reduceEqDiff, Nat.reduceAdd, Nat.reduceSub, Nat.reduceMul, Nat.not_lt_zero, Nat.lt_irrefl, Nat.le_refl, Bool.false_eq_true, false_and, and_false, true_and, and_true, if_pos, if_neg, if_true, if_false, not_true_eq_false, not_false_eq_true]
  refine k170i (by omega) hM hq hA hr (fun I' V' hf hV hS => ?_) q.length 0 I0 (by omega) (fun _ _ _ => rfl) (fun k hk => by omega)
  exact k170o hM h1 hn hq hA hr H (sV q V' + 1) I' V' 1 _ _ _ _ (Nat.lt_succ_self _) (Or.inr rfl) rfl rfl rfl hf hV hS
end
