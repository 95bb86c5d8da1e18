/-! the model's calls: wished, found, thief, oil -/
def dmb (m : Nat) : Nat := m &&& (m - 1)
theorem dmb_ok : ∀ m, m < 64 → (nI m = nI 0 ↔ m = 0) ∧ (¬ m = 0 → nI m &&& (nI m - nI 1) = nI (dmb m) ∧ pop6 m = pop6 (dmb m) + 1 ∧ dmb m < m) := by decide
theorem rmN_pos {q : List (Nat × Nat)} : ∀ k, 0 < k → ¬ rmN q k = 0
  | 0, h => by omega
  | k + 1, _ => fun h => by
    simp only [rmN] at h
    have := Nat.right_le_or (n := rmN q k) (m := 2 ^ rmo (qS q k))
    have h2 : 0 < 2 ^ rmo (qS q k) := Nat.pow_pos (by decide)
    omega
theorem pop6_pos : ∀ m, m < 64 → ¬ m = 0 → 0 < pop6 m := by decide
section
variable {D : Nat → Nat → Nat} {f : Nat → List Nat} {d nd : Nat} {n t : Nat} {sh : Nat → Nat × Nat} {I : Nat → Nat → Int32} {L : Nat → Nat → Int64} {R : Nat → Nat → Option Nat} {Q : Option Value → aH → Prop} {g : Nat → Nat → Option Nat} {q : List (Nat × Nat)}
theorem k183l {v0 : Int32} : ∀ F m c, m ≤ F → m < 64 → (aE (a_cl_ d) 183 (4, [.int v0, .int (nI c), .int (nI m)], [], (n, t, sh, I, L, R)) Q ↔ Q (some (.int (nI (c + pop6 m)))) (n, t, sh, I, L, R)) := by
  intro F
  induction F with
  | zero =>
    intro m c hF hm
    obtain rfl : m = 0 := by omega
    have : pop6 0 = 0 := rfl
    rw [e183_4]
    simp (disch := first | assumption | exact ct_i | exact ct_r | exact ct_n | exact ct_h | omega | exact z_in (by omega) (by omega) | exact b01 | exact Or.inl rfl | exact Or.inr rfl) only [e183_0, e183_1, e183_2, e183_3, e183_5, e183_8, e183_11, e183_12, e183_13, e183_14, e183_15, e183_16, e183_17, e183_20, e183_21, ct_i, ct_r, ct_n, ct_h, opt_v, opt_s, ref_s, ref_n, eq_self_iff_true, true_or, or_true, zl0, zl1, zl2, zl3, zl4, zl5, zl6, zl7, zl8, zl9, zl10, zl16, zl32, zl40, zl100, zl160, zIc1, zI_lt, zI_le, nI_eq, nI_add, z_sub, nI_clamp, zI_of, uu_eq, uu_ne, Nat.reduceLT, Nat.reduceLeDiff, Nat.reduceEqDiff, Nat.reduceAdd, Nat.reduceSub, Nat.reduceMul, Nat.not_lt_zero, Nat.lt_irrefl, Nat.le_refl, Bool.false_eq_true, false_and, and_false, true_and, and_true, if_pos, if_neg, if_true, if_false, not_true_eq_false, not_false_eq_true, this, Nat.add_zero]
  | succ F ih =>
    intro m c hF hm
    obtain ⟨h1, h2⟩ := dmb_ok m hm
    rw [e183_4]
    by_cases h0 : m = 0
    · subst h0
      have : pop6 0 = 0 := rfl
      simp (disch := first | assumption | exact ct_i | exact ct_r | exact ct_n | exact ct_h | omega | exact z_in (by omega) (by omega) | exact b01 | exact Or.inl rfl | exact Or.inr rfl) only [e183_0, e183_1, e183_2, e183_3, e183_5, e183_8, e183_11, e183_12, e183_13, e183_14, e183_15, e183_16, e183_17, e183_20, e183_21, ct_i, ct_r, ct_n, ct_h, opt_v, opt_s, ref_s, ref_n, eq_self_iff_true, true_or, or_true, zl0, zl1, zl2, zl3, zl4, zl5, zl6, zl7, zl8, zl9, zl10, zl16, zl32, zl40, zl100, zl160, zIc1, zI_lt, zI_le, nI_eq, nI_add, z_sub, nI_clamp, zI_of, uu_eq, uu_ne, Nat.reduceLT, Nat.reduceLeDiff, Nat.reduceEqDiff, Nat.reduceAdd, Nat.reduceSub, Nat.reduceMul, Nat.not_lt_zero, Nat.lt_irrefl, Nat.le_refl, Bool.false_eq_true, false_and, and_false, true_and, and_true, if_pos, if_neg, if_true, if_false, not_true_eq_false, not_false_eq_true, this, Nat.add_zero]
    · obtain ⟨h3, h4, h5⟩ := h2 h0
      rw [z_sub (by omega)] at h3
      have qq := ih (dmb m) (c + 1) (by omega) (by omega)
      simp (disch := first | assumption | exact ct_i | exact ct_r | exact ct_n | exact ct_h | omega | exact z_in (by omega) (by omega) | exact b01 | exact Or.inl rfl | exact Or.inr rfl) only [e183_0, e183_1, e183_2, e183_3, e183_5, e183_8, e183_11, e183_12, e183_13, e183_14, e183_15, e183_16, e183_17, e183_20, e183_21, ct_i, ct_r, ct_n, ct_h, opt_v, opt_s, ref_s, ref_n, eq_self_iff_true, true_or, or_true, zl0, zl1, zl2, zl3, zl4, zl5, zl6, zl7, zl8, zl9, zl10, zl16, zl32, zl40, zl100, zl160, zIc1, zI_lt, zI_le, nI_eq, nI_add, z_sub, nI_clamp, zI_of, uu_eq, uu_ne, Nat.reduceLT, Nat.reduceLeDiff, Nat.reduceEqDiff, Nat.reduceAdd, Nat.reduceSub, Nat.reduceMul, Nat.not_lt_zero, Nat.lt_irrefl, Nat.le_refl, Bool.false_eq_true, false_and, and_false, true_and, and_true, if_pos, if_neg, if_true, if_false, not_true_eq_false, not_false_eq_true, h0, h3]
      rw [qq, h4, show c + 1 + pop6 (dmb m) = c + (pop6 (dmb m) + 1) by omega]
theorem k183 (hd : 1 ≤ d) {m : Nat} (hm : m < 64) : aC d 183 [.int (nI m)] (n, t, sh, I, L, R) Q ↔ Q (some (.int (nI (pop6 m)))) (n, t, sh, I, L, R) := by
  obtain ⟨d, rfl⟩ : ∃ e, d = e + 1 := ⟨d - 1, by omega⟩
  simp (disch := first | assumption | exact ct_i | exact ct_r | exact ct_n | exact ct_h | omega | exact z_in (by omega) (by omega) | exact b01 | exact Or.inl rfl | exact Or.inr rfl) only [b183, e183_0, e183_1, e183_2, e183_3, e183_5, e183_8, e183_11, e183_12, e183_13, e183_14, e183_15, e183_16, e183_17, e183_20, e183_21, ct_i, ct_r, ct_n, ct_h, opt_v, opt_s, ref_s, ref_n, eq_self_iff_true, true_or, or_true, zl0, zl1, zl2, zl3, zl4, zl5, zl6, zl7, zl8, zl9, zl10, zl16, zl32, zl40, zl100, zl160, zIc1, zI_lt, zI_le, nI_eq, nI_add, z_sub, nI_clamp, zI_of, uu_eq, uu_ne, Nat.reduceLT, Nat.reduceLeDiff, Nat.reduceEqDiff, Nat.reduceAdd, Nat.reduceSub, Nat.reduceMul, Nat.not_lt_zero, Nat.lt_irrefl, Nat.le_refl, Bool.false_eq_true, false_and, and_false, true_and, and_true, if_pos, if_neg, if_true, if_false, not_true_eq_false, not_false_eq_true]
  rw [k183l m m 0 (Nat.le_refl _) hm, Nat.zero_add]
end
section
variable {T0 : Nat} {Z : Nat → Nat} {D : Nat → Nat → Nat} {tx : Nat → Nat → List Nat} {tp so sz : Nat → Nat} {it : Nat → Nat → Int32} {d : Nat} {n t : Nat} {sh : Nat → Nat × Nat} {I : Nat → Nat → Int32} {L : Nat → Nat → Int64} {R : Nat → Nat → Option Nat} {I' : Nat → Nat → Int32} {Q : Option Value → aH → Prop}
theorem k172l (hd : 3 ≤ d) {q : List (Nat × Nat)} {v : Int32} (hq : qI (bh (Z 1) D (tx (Z 4))) (Z 1) (Z 2) q q.length 0) (hz : zP (Z 1) (Z 2)) (hv : v = dpO q (ffi (fun k => wl (tx (Z 4)) (qS q k)) q.length))
    (H : ∀ I', RM T0 Z D tx tp so sz it (n, t, sh, I', L, R) → Q (some (.int v)) (n, t, sh, I', L, R)) :
    ∀ m i I, i + m = q.length → ffi (fun k => wl (tx (Z 4)) (qS q k)) i = none → RM T0 Z D tx tp so sz it (n, t, sh, I, L, R) → fA (bh (Z 1) D (tx (Z 4))) (Z 1) q q.length 0 I → (∀ j, j < Z 1 → I 8 j = nI (D j 4)) → aE (a_cl_ d) 172 (10, [.ref 0, .int (nI i)], [], (n, t, sh, I, L, R)) Q := by
  intro m
  have hB := qB_of hq
  have hl := hB.1
  induction m with
  | zero =>
    intro i I hi hf hk hA h8
    obtain rfl : i = q.length := by omega
    have hM := hk.2.2.1
    simp only [] at hM
    have m0 := mm_0 hM
    have h33 := hA.1
    have qq := H I hk
    rw [hv, hf] at qq
    rw [e172_10]
    simp (disch := first | assumption | exact ct_i | exact ct_r | exact ct_n | exact ct_h | omega | exact z_in (by omega) (by omega) | exact b01 | exact Or.inl rfl | exact Or.inr rfl) only [e172_0, e172_1, e172_4, e172_5, e172_8, e172_9, e172_11, e172_12, e172_15, e172_18, e172_19, e172_20, e172_23, e172_24, e172_25, e172_28, e172_29, e172_32, e172_35, e172_36, e172_39, e172_40, e172_43, e172_44, e172_45, e172_46, e172_47, e172_50, e172_53, e172_54, ct_i, ct_r, ct_n, ct_h, opt_v, opt_s, ref_s, ref_n, eq_self_iff_true, true_or, or_true, zl0, zl1, zl2, zl3, zl4, zl5, zl6, zl7, zl8, zl9, zl10, zl16, zl32, zl40, zl100, zl160, zIc1, zI_lt, zI_le, nI_eq, nI_add, z_sub, nI_clamp, zI_of, uu_eq, uu_ne, Nat.reduceLT, Nat.reduceLeDiff, Nat.reduceEqDiff, Nat.reduceAdd, Nat.reduceSub, Nat.reduceMul, Nat.not_lt_zero, Nat.lt_irrefl, Nat.le_refl, Bool.false_eq_true, false_and, and_false, true_and, and_true, if_pos, if_neg, if_true, if_false, not_true_eq_false, not_false_eq_true, m0, h33]
    exact qq
  | succ m ih =>
    intro i I hi hf hk hA h8
    have hM := hk.2.2.1
    simp only [] at hM
    have m0 := mm_0 hM; have x16 := mm_x16 hM; have y16 := mm_y16 hM; have r32 := mm_r32 hM; have x17 := mm_x17 hM; have y17 := mm_y17 hM; have r34 := mm_r34 hM
    have hlt : i < q.length := by omega
    have h33 := hA.1
    have h16 := hA.2.1 i hlt
    have hs := hB.2.1 i hlt
    have hzi := q_zP hk.1.2.1.1 hz hq i i (Nat.le_refl _) hlt
    rw [e172_10]
    simp (disch := first | assumption | exact ct_i | exact ct_r | exact ct_n | exact ct_h | omega | exact z_in (by omega) (by omega) | exact b01 | exact Or.inl rfl | exact Or.inr rfl) only [e172_0, e172_1, e172_4, e172_5, e172_8, e172_9, e172_11, e172_12, e172_15, e172_18, e172_19, e172_20, e172_23, e172_24, e172_25, e172_28, e172_29, e172_32, e172_35, e172_36, e172_39, e172_40, e172_43, e172_44, e172_45, e172_46, e172_47, e172_50, e172_53, e172_54, ct_i, ct_r, ct_n, ct_h, opt_v, opt_s, ref_s, ref_n, eq_self_iff_true, true_or, or_true, zl0, zl1, zl2, zl3, zl4, zl5, zl6, zl7, zl8, zl9, zl10, zl16, zl32, zl40, zl100, zl160, zIc1, zI_lt, zI_le, nI_eq, nI_add, z_sub, nI_clamp, zI_of, uu_eq, uu_ne, Nat.reduceLT, Nat.reduceLeDiff, Nat.reduceEqDiff, Nat.reduceAdd, Nat.reduceSub, Nat.reduceMul, Nat.not_lt_zero, Nat.lt_irrefl, Nat.le_refl, Bool.false_eq_true, false_and, and_false, true_and, and_true, if_pos, if_neg, if_true, if_false, not_true_eq_false, not_false_eq_true, m0, x16, y16, r32, h33, h16]
    refine k163 (nd := Z 1) (D := D) (by omega) hM hs h8 hk.1.2.1.1 (fun I1 hf1 hT1 => ?_)
    have hk1 := RM_fr hk (frK_M (frC_K hf1))
    simp (disch := first | assumption | exact ct_i | exact ct_r | exact ct_n | exact ct_h | omega | exact z_in (by omega) (by omega) | exact b01 | exact Or.inl rfl | exact Or.inr rfl) only [e172_0, e172_1, e172_4, e172_5, e172_8, e172_9, e172_11, e172_12, e172_15, e172_18, e172_19, e172_20, e172_23, e172_24, e172_25, e172_28, e172_29, e172_32, e172_35, e172_36, e172_39, e172_40, e172_43, e172_44, e172_45, e172_46, e172_47, e172_50, e172_53, e172_54, ct_i, ct_r, ct_n, ct_h, opt_v, opt_s, ref_s, ref_n, eq_self_iff_true, true_or, or_true, zl0, zl1, zl2, zl3, zl4, zl5, zl6, zl7, zl8, zl9, zl10, zl16, zl32, zl40, zl100, zl160, zIc1, zI_lt, zI_le, nI_eq, nI_add, z_sub, nI_clamp, zI_of, uu_eq, uu_ne, Nat.reduceLT, Nat.reduceLeDiff, Nat.reduceEqDiff, Nat.reduceAdd, Nat.reduceSub, Nat.reduceMul, Nat.not_lt_zero, Nat.lt_irrefl, Nat.le_refl, Bool.false_eq_true, false_and, and_false, true_and, and_true, if_pos, if_neg, if_true, if_false, not_true_eq_false, not_false_eq_true, m0]
    refine k157 (by omega) (RM_B hk1) hT1 hs hzi (fun I2 hf2 => ?_)
    have hk2 := RM_fr hk1 (frW_M hf2)
    have hA2 := fA_fr (fA_fr hA (frC_K hf1)) (frW_T hf2)
    by_cases hw : wl (tx (Z 4)) (qS q i) = true
    · rw [if_pos hw]
      have hff : ffi (fun k => wl (tx (Z 4)) (qS q k)) q.length = some i := ffi_up hf hw _ hlt
      have qq := H I2 hk2
      rw [hv, hff] at qq
      have h16 := hA2.2.1 i hlt
      have h17 := hA2.2.2.1 i hlt
      simp (disch := first | assumption | exact ct_i | exact ct_r | exact ct_n | exact ct_h | omega | exact z_in (by omega) (by omega) | exact b01 | exact Or.inl rfl | exact Or.inr rfl) only [e172_0, e172_1, e172_4, e172_5, e172_8, e172_9, e172_11, e172_12, e172_15, e172_18, e172_19, e172_20, e172_23, e172_24, e172_25, e172_28, e172_29, e172_32, e172_35, e172_36, e172_39, e172_40, e172_43, e172_44, e172_45, e172_46, e172_47, e172_50, e172_53, e172_54, ct_i, ct_r, ct_n, ct_h, opt_v, opt_s, ref_s, ref_n, eq_self_iff_true, true_or, or_true, zl0, zl1, zl2, zl3, zl4, zl5, zl6, zl7, zl8, zl9, zl10, zl16, zl32, zl40, zl100, zl160, zIc1, zI_lt, zI_le, nI_eq, nI_add, z_sub, nI_clamp, zI_of, uu_eq, uu_ne, Nat.reduceLT, Nat.reduceLeDiff, Nat.reduceEqDiff, Nat.reduceAdd, Nat.reduceSub, Nat.reduceMul, Nat.not_lt_zero, Nat.lt_irrefl, Nat.le_refl, Bool.false_eq_true, false_and, and_false, true_and, and_true, if_pos, if_neg, if_true, if_false, not_true_eq_false, not_false_eq_true, m0, x16, y16, r32, x17, y17, r34, h16, h17]
      exact qq
    · rw [if_neg hw]
      simp (disch := first | assumption | exact ct_i | exact ct_r | exact ct_n | exact ct_h | omega | exact z_in (by omega) (by omega) | exact b01 | exact Or.inl rfl | exact Or.inr rfl) only [e172_0, e172_1, e172_4, e172_5, e172_8, e172_9, e172_11, e172_12, e172_15, e172_18, e172_19, e172_20, e172_23, e172_24, e172_25, e172_28, e172_29, e172_32, e172_35, e172_36, e172_39, e172_40, e172_43, e172_44, e172_45, e172_46, e172_47, e172_50, e172_53, e172_54, ct_i, ct_r, ct_n, ct_h, opt_v, opt_s, ref_s, ref_n, eq_self_iff_true, true_or, or_true, zl0, zl1, zl2, zl3, zl4, zl5, zl6, zl7, zl8, zl9, zl10, zl16, zl32, zl40, zl100, zl160, zIc1, zI_lt, zI_le, nI_eq, nI_add, z_sub, nI_clamp, zI_of, uu_eq, uu_ne, Nat.reduceLT, Nat.reduceLeDiff, Nat.reduceEqDiff, Nat.reduceAdd, Nat.reduceSub, Nat.reduceMul, Nat.not_lt_zero, Nat.lt_irrefl, Nat.le_refl, Bool.false_eq_true, false_and, and_false, true_and, and_true, if_pos, if_neg, if_true, if_false, not_true_eq_false, not_false_eq_true]
      rw [Bool.not_eq_true] at hw
      exact ih (i + 1) I2 (by omega) (by simp only [ffi, hf, hw, Bool.false_eq_true, if_false]) hk2 hA2 (fun j hj => (hf2 _ _ (by omega)).trans ((hf1 _ _ (by omega)).trans (h8 j hj)))
theorem k172 (hd : 7 ≤ d) (hk : RM T0 Z D tx tp so sz it (n, t, sh, I, L, R)) (H : ∀ h', RMh T0 Z D tx tp so sz it h' → Q (some (.int (wisS Z D tx))) h') : aC d 172 [.ref 0] (n, t, sh, I, L, R) Q := by
  obtain ⟨d, rfl⟩ : ∃ e, d = e + 1 := ⟨d - 1, by omega⟩
  have hM := hk.2.2.1
  simp only [] at hM
  have m0 := mm_0 hM
  have o3 := hk.1.2.2.1
  simp (disch := first | assumption | exact ct_i | exact ct_r | exact ct_n | exact ct_h | omega | exact z_in (by omega) (by omega) | exact b01 | exact Or.inl rfl | exact Or.inr rfl) only [b172, e172_0, e172_1, e172_4, e172_5, e172_8, e172_9, e172_11, e172_12, e172_15, e172_18, e172_19, e172_20, e172_23, e172_24, e172_25, e172_28, e172_29, e172_32, e172_35, e172_36, e172_39, e172_40, e172_43, e172_44, e172_45, e172_46, e172_47, e172_50, e172_53, e172_54, ct_i, ct_r, ct_n, ct_h, opt_v, opt_s, ref_s, ref_n, eq_self_iff_true, true_or, or_true, zl0, zl1, zl2, zl3, zl4, zl5, zl6, zl7, zl8, zl9, zl10, zl16, zl32, zl40, zl100, zl160, zIc1, zI_lt, zI_le, nI_eq, nI_add, z_sub, nI_clamp, zI_of, uu_eq, uu_ne, Nat.reduceLT, Nat.reduceLeDiff, Nat.reduceEqDiff, Nat.reduceAdd, Nat.reduceSub, Nat.reduceMul, Nat.not_lt_zero, Nat.lt_irrefl, Nat.le_refl, Bool.false_eq_true, false_and, and_false, true_and, and_true, if_pos, if_neg, if_true, if_false, not_true_eq_false, not_false_eq_true, m0]
  refine kAs (by omega) hk (fun I1 ee hf hT => ?_)
  simp (disch := first | assumption | exact ct_i | exact ct_r | exact ct_n | exact ct_h | omega | exact z_in (by omega) (by omega) | exact b01 | exact Or.inl rfl | exact Or.inr rfl) only [e172_0, e172_1, e172_4, e172_5, e172_8, e172_9, e172_11, e172_12, e172_15, e172_18, e172_19, e172_20, e172_23, e172_24, e172_25, e172_28, e172_29, e172_32, e172_35, e172_36, e172_39, e172_40, e172_43, e172_44, e172_45, e172_46, e172_47, e172_50, e172_53, e172_54, ct_i, ct_r, ct_n, ct_h, opt_v, opt_s, ref_s, ref_n, eq_self_iff_true, true_or, or_true, zl0, zl1, zl2, zl3, zl4, zl5, zl6, zl7, zl8, zl9, zl10, zl16, zl32, zl40, zl100, zl160, zIc1, zI_lt, zI_le, nI_eq, nI_add, z_sub, nI_clamp, zI_of, uu_eq, uu_ne, Nat.reduceLT, Nat.reduceLeDiff, Nat.reduceEqDiff, Nat.reduceAdd, Nat.reduceSub, Nat.reduceMul, Nat.not_lt_zero, Nat.lt_irrefl, Nat.le_refl, Bool.false_eq_true, false_and, and_false, true_and, and_true, if_pos, if_neg, if_true, if_false, not_true_eq_false, not_false_eq_true, m0]
  refine kFA (by omega) (RM_fr hk hf) hT (fun I2 hf2 hk2 h1 hA => ?_)
  simp (disch := first | assumption | exact ct_i | exact ct_r | exact ct_n | exact ct_h | omega | exact z_in (by omega) (by omega) | exact b01 | exact Or.inl rfl | exact Or.inr rfl) only [e172_0, e172_1, e172_4, e172_5, e172_8, e172_9, e172_11, e172_12, e172_15, e172_18, e172_19, e172_20, e172_23, e172_24, e172_25, e172_28, e172_29, e172_32, e172_35, e172_36, e172_39, e172_40, e172_43, e172_44, e172_45, e172_46, e172_47, e172_50, e172_53, e172_54, ct_i, ct_r, ct_n, ct_h, opt_v, opt_s, ref_s, ref_n, eq_self_iff_true, true_or, or_true, zl0, zl1, zl2, zl3, zl4, zl5, zl6, zl7, zl8, zl9, zl10, zl16, zl32, zl40, zl100, zl160, zIc1, zI_lt, zI_le, nI_eq, nI_add, z_sub, nI_clamp, zI_of, uu_eq, uu_ne, Nat.reduceLT, Nat.reduceLeDiff, Nat.reduceEqDiff, Nat.reduceAdd, Nat.reduceSub, Nat.reduceMul, Nat.not_lt_zero, Nat.lt_irrefl, Nat.le_refl, Bool.false_eq_true, false_and, and_false, true_and, and_true, if_pos, if_neg, if_true, if_false, not_true_eq_false, not_false_eq_true, m0]
  exact k172l (q := sq Z D tx (Z 2)) (by omega) (bfs_I (bh_g hk.1.2.1.2) o3.1) o3.2 rfl (fun I' hR => H _ hR.2) (sq Z D tx (Z 2)).length 0 I2 (by omega) rfl hk2 hA (fun j hj => (hf2 8 j (by omega)).trans (hT.2.2 j hj).2)
/-! found: the least is that of the first -/
def orO (p b : Option Nat) : Option Nat := match p with
  | some j => some j
  | none => b
def lsO (q : List (Nat × Nat)) : Option Nat → Int32
  | some j => nI (dep q j + 1)
  | none => -nI 1
theorem k173i (hM : mK sh R) {g : Nat → Nat → Option Nat} {nd : Nat} {q : List (Nat × Nat)} {s0 : Nat} (hs0 : s0 < 6144) (h1 : I 0 1 = nI nd) (hn : nd ≤ 4) (hg : ∀ s d y, g s d = some y → y < 6144) (hA : fA g nd q q.length 0 I) (hB : qB q) (hpar : qPar q) (h0 : qS q 0 = s0) {k : Nat} (hk : k < q.length) {prev : Option Nat}
    (hprev : ∀ j, prev = some j → j < q.length ∧ dep q j ≤ dep q k) {v : Option Nat} (hv : v = orO prev (if bkp g nd q s0 k = true then some k else none))
    (H : ∀ l4, l4.category = 1 → aE (a_cl_ d) 173 (111, [.ref 0, .int (lsO q v), .int (nI k), .int (nI nd), l4], [], (n, t, sh, I, L, R)) Q) :
    ∀ m i l4 w, i + m = nd → l4.category = 1 → (w = orO prev (if (ffi (fun d => decide (g (qS q k) d = some s0)) i).isSome = true then some k else none)) →
    aE (a_cl_ d) 173 (22, [.ref 0, .int (lsO q w), .int (nI k), .int (nI i), l4], [], (n, t, sh, I, L, R)) Q := by
  have m0 := mm_0 hM; have x16 := mm_x16 hM; have y16 := mm_y16 hM; have r32 := mm_r32 hM; have x17 := mm_x17 hM; have y17 := mm_y17 hM; have r34 := mm_r34 hM; have x18 := mm_x18 hM; have y18 := mm_y18 hM; have r35 := mm_r35 hM
  have hl := hB.1
  have hs := hB.2.1 k hk
  have h16 := hA.2.1 k hk
  have h160 := hA.2.1 0 (by omega)
  rw [h0] at h160
  have h17 := hA.2.2.1 k hk
  have hdk := dep_le hpar k hk
  have hneg : -nI 1 < nI 0 := by decide
  intro m
  induction m with
  | zero =>
    intro i l4 w hi hc hw
    obtain rfl : i = nd := by omega
    have hwv : w = v := by rw [hw, hv]; rfl
    subst hwv
    have qq := H l4 hc
    rw [e173_22]
    simp (disch := first | assumption | exact ct_i | exact ct_r | exact ct_n | exact ct_h | omega | exact z_in (by omega) (by omega) | exact b01 | exact Or.inl rfl | exact Or.inr rfl) only [e173_0, e173_1, e173_4, e173_5, e173_8, e173_9, e173_10, e173_11, e173_12, e173_13, e173_14, e173_17, e173_20, e173_21, e173_23, e173_24, e173_27, e173_30, e173_31, e173_34, e173_35, e173_36, e173_39, e173_40, e173_41, e173_42, e173_43, e173_44, e173_45, e173_46, e173_49, e173_50, e173_51, e173_54, e173_55, e173_58, e173_59, e173_61, e173_63, e173_66, e173_67, e173_70, e173_71, e173_74, e173_75, e173_78, e173_79, e173_80, e173_81, e173_82, e173_83, e173_84, e173_87, e173_88, e173_91, e173_92, e173_95, e173_96, e173_97, e173_98, e173_99, e173_100, e173_103, e173_104, e173_105, e173_108, e173_114, e173_117, e173_118, ct_i, ct_r, ct_n, ct_h, opt_v, opt_s, ref_s, ref_n, eq_self_iff_true, true_or, or_true, zl0, zl1, zl2, zl3, zl4, zl5, zl6, zl7, zl8, zl9, zl10, zl16, zl32, zl40, zl100, zl160, zIc1, zI_lt, zI_le, nI_eq, nI_add, z_sub, nI_clamp, zI_of, uu_eq, uu_ne, Nat.reduceLT, Nat.reduceLeDiff, Nat.reduceEqDiff, Nat.reduceAdd, Nat.reduceSub, Nat.reduceMul, Nat.not_lt_zero, Nat.lt_irrefl, Nat.le_refl, Bool.false_eq_true, false_and, and_false, true_and, and_true, if_pos, if_neg, if_true, if_false, not_true_eq_false, not_false_eq_true, m0, h1]
    exact qq
  | succ m ih =>
    intro i l4 w hi hc hw
    have hlt : i < nd := by omega
    have h18 := hA.2.2.2.2 k i hk hlt (Or.inl hk)
    have hgs : (I 18 (4 * qS q k + i) = nI s0 ↔ g (qS q k) i = some s0) := by
      rw [h18]
      cases hg1 : g (qS q k) i with
      | none =>
        have e1 : ¬ -nI 1 = nI s0 := fun e => by
          have := congrArg Int32.toInt e
          rw [nI_toInt (by omega), show (-nI 1).toInt = -1 by decide] at this; omega
        exact ⟨fun e => absurd e e1, fun e => by cases e⟩
      | some y =>
        have hy := hg _ _ _ hg1
        show nI y = nI s0 ↔ _
        rw [zI_inj (by omega) (by omega)]
        exact ⟨fun e => by rw [e], fun e => by injection e⟩
    rw [e173_22]
    by_cases hm : g (qS q k) i = some s0
    · have h18' : I 18 (4 * qS q k + i) = nI s0 := hgs.mpr hm
      -- after this door the first is k, or what was before
      have hw2 : ∀ w2, (w2 = orO prev (some k)) → (w2 = orO prev (if (ffi (fun d => decide (g (qS q k) d = some s0)) (i + 1)).isSome = true then some k else none)) := fun w2 h => by
        rw [h]
        have : (ffi (fun d => decide (g (qS q k) d = some s0)) (i + 1)).isSome = true := by
          simp only [ffi]
          split
          · rfl
          · rw [if_pos (decide_eq_true hm)]; rfl
        rw [if_pos this]
      cases hwc : w with
      | none =>
        have hpn : prev = none := by
          cases prev with
          | none => rfl
          | some j => rw [hwc] at hw; cases hw
        have qq := ih (i + 1) (.int (nI 1)) (some k) (by omega) rfl (hw2 _ (by rw [hpn]; rfl))
        simp only [lsO] at qq ⊢
        simp (disch := first | assumption | exact ct_i | exact ct_r | exact ct_n | exact ct_h | omega | exact z_in (by omega) (by omega) | exact b01 | exact Or.inl rfl | exact Or.inr rfl) only [e173_0, e173_1, e173_4, e173_5, e173_8, e173_9, e173_10, e173_11, e173_12, e173_13, e173_14, e173_17, e173_20, e173_21, e173_23, e173_24, e173_27, e173_30, e173_31, e173_34, e173_35, e173_36, e173_39, e173_40, e173_41, e173_42, e173_43, e173_44, e173_45, e173_46, e173_49, e173_50, e173_51, e173_54, e173_55, e173_58, e173_59, e173_61, e173_63, e173_66, e173_67, e173_70, e173_71, e173_74, e173_75, e173_78, e173_79, e173_80, e173_81, e173_82, e173_83, e173_84, e173_87, e173_88, e173_91, e173_92, e173_95, e173_96, e173_97, e173_98, e173_99, e173_100, e173_103, e173_104, e173_105, e173_108, e173_114, e173_117, e173_118, ct_i, ct_r, ct_n, ct_h, opt_v, opt_s, ref_s, ref_n, eq_self_iff_true, true_or, or_true, zl0, zl1, zl2, zl3, zl4, zl5, zl6, zl7, zl8, zl9, zl10, zl16, zl32, zl40, zl100, zl160, zIc1, zI_lt, zI_le, nI_eq, nI_add, z_sub, nI_clamp, zI_of, uu_eq, uu_ne, Nat.reduceLT, Nat.reduceLeDiff, Nat.reduceEqDiff, Nat.reduceAdd, Nat.reduceSub, Nat.reduceMul, Nat.not_lt_zero, Nat.lt_irrefl, Nat.le_refl, Bool.false_eq_true, false_and, and_false, true_and, and_true, if_pos, if_neg, if_true, if_false, not_true_eq_false, not_false_eq_true, zI_mul, m0, x16, y16, r32, x17, y17, r34, x18, y18, r35, h1, h16, h160, h18', h17, hneg]
        exact qq
      | some j =>
        have hjk : j < q.length ∧ dep q j ≤ dep q k := by
          cases hp : prev with
          | none =>
            rw [hwc, hp] at hw
            simp only [orO] at hw
            split at hw
            · cases hw; exact ⟨hk, Nat.le_refl _⟩
            · cases hw
          | some j2 =>
            rw [hwc, hp] at hw
            cases hw
            exact hprev j hp
        have hwj : some j = orO prev (some k) := by
          cases hp : prev with
          | none =>
            rw [hwc, hp] at hw
            simp only [orO] at hw
            split at hw
            · exact hw
            · cases hw
          | some j2 =>
            rw [hwc, hp] at hw
            exact hw
        have qq := ih (i + 1) (.int (nI 1)) (some j) (by omega) rfl (hw2 _ hwj)
        simp only [lsO] at qq ⊢
        have hdj := dep_le hpar j hjk.1
        have hnl : ¬ dep q k + 1 < dep q j + 1 := by omega
        have hle : dep q j + 1 ≤ dep q k + 1 := by omega
        simp (disch := first | assumption | exact ct_i | exact ct_r | exact ct_n | exact ct_h | omega | exact z_in (by omega) (by omega) | exact b01 | exact Or.inl rfl | exact Or.inr rfl) only [e173_0, e173_1, e173_4, e173_5, e173_8, e173_9, e173_10, e173_11, e173_12, e173_13, e173_14, e173_17, e173_20, e173_21, e173_23, e173_24, e173_27, e173_30, e173_31, e173_34, e173_35, e173_36, e173_39, e173_40, e173_41, e173_42, e173_43, e173_44, e173_45, e173_46, e173_49, e173_50, e173_51, e173_54, e173_55, e173_58, e173_59, e173_61, e173_63, e173_66, e173_67, e173_70, e173_71, e173_74, e173_75, e173_78, e173_79, e173_80, e173_81, e173_82, e173_83, e173_84, e173_87, e173_88, e173_91, e173_92, e173_95, e173_96, e173_97, e173_98, e173_99, e173_100, e173_103, e173_104, e173_105, e173_108, e173_114, e173_117, e173_118, ct_i, ct_r, ct_n, ct_h, opt_v, opt_s, ref_s, ref_n, eq_self_iff_true, true_or, or_true, zl0, zl1, zl2, zl3, zl4, zl5, zl6, zl7, zl8, zl9, zl10, zl16, zl32, zl40, zl100, zl160, zIc1, zI_lt, zI_le, nI_eq, nI_add, z_sub, nI_clamp, zI_of, uu_eq, uu_ne, Nat.reduceLT, Nat.reduceLeDiff, Nat.reduceEqDiff, Nat.reduceAdd, Nat.reduceSub, Nat.reduceMul, Nat.not_lt_zero, Nat.lt_irrefl, Nat.le_refl, Bool.false_eq_true, false_and, and_false, true_and, and_true, if_pos, if_neg, if_true, if_false, not_true_eq_false, not_false_eq_true, zI_mul, m0, x16, y16, r32, x17, y17, r34, x18, y18, r35, h1, h16, h160, h18', h17, hle]
        exact qq
    · have h18' : ¬ I 18 (4 * qS q k + i) = nI s0 := fun e => hm (hgs.mp e)
      have hff : ffi (fun d => decide (g (qS q k) d = some s0)) (i + 1) = ffi (fun d => decide (g (qS q k) d = some s0)) i := by
        simp only [ffi]
        cases ffi (fun d => decide (g (qS q k) d = some s0)) i with
        | some _ => rfl
        | none => simp only [decide_eq_false hm, Bool.false_eq_true, if_false]
      have qq := ih (i + 1) (.int (nI 0)) w (by omega) rfl (by rw [hff]; exact hw)
      simp (disch := first | assumption | exact ct_i | exact ct_r | exact ct_n | exact ct_h | omega | exact z_in (by omega) (by omega) | exact b01 | exact Or.inl rfl | exact Or.inr rfl) only [e173_0, e173_1, e173_4, e173_5, e173_8, e173_9, e173_10, e173_11, e173_12, e173_13, e173_14, e173_17, e173_20, e173_21, e173_23, e173_24, e173_27, e173_30, e173_31, e173_34, e173_35, e173_36, e173_39, e173_40, e173_41, e173_42, e173_43, e173_44, e173_45, e173_46, e173_49, e173_50, e173_51, e173_54, e173_55, e173_58, e173_59, e173_61, e173_63, e173_66, e173_67, e173_70, e173_71, e173_74, e173_75, e173_78, e173_79, e173_80, e173_81, e173_82, e173_83, e173_84, e173_87, e173_88, e173_91, e173_92, e173_95, e173_96, e173_97, e173_98, e173_99, e173_100, e173_103, e173_104, e173_105, e173_108, e173_114, e173_117, e173_118, ct_i, ct_r, ct_n, ct_h, opt_v, opt_s, ref_s, ref_n, eq_self_iff_true, true_or, or_true, zl0, zl1, zl2, zl3, zl4, zl5, zl6, zl7, zl8, zl9, zl10, zl16, zl32, zl40, zl100, zl160, zIc1, zI_lt, zI_le, nI_eq, nI_add, z_sub, nI_clamp, zI_of, uu_eq, uu_ne, Nat.reduceLT, Nat.reduceLeDiff, Nat.reduceEqDiff, Nat.reduceAdd, Nat.reduceSub, Nat.reduceMul, Nat.not_lt_zero, Nat.lt_irrefl, Nat.le_refl, Bool.false_eq_true, false_and, and_false, true_and, and_true, if_pos, if_neg, if_true, if_false, not_true_eq_false, not_false_eq_true, zI_mul, m0, x16, y16, r32, x17, y17, r34, x18, y18, r35, h1, h16, h160, h18', h17]
      exact qq
theorem k173l (hM : mK sh R) {g : Nat → Nat → Option Nat} {nd : Nat} {q : List (Nat × Nat)} {s0 : Nat} (hs0 : s0 < 6144) (h1 : I 0 1 = nI nd) (hn : nd ≤ 4) (hg : ∀ s d y, g s d = some y → y < 6144) (hA : fA g nd q q.length 0 I) (hB : qB q) (hpar : qPar q) (hmono : ∀ j j', 0 < j → j ≤ j' → j' < q.length → qP q j ≤ qP q j') (h0 : qS q 0 = s0)
    (H : Q (some (.int (fou g nd q s0))) (n, t, sh, I, L, R)) : ∀ m i l3 l4, i + m = q.length → l4.category = 1 →
    aE (a_cl_ d) 173 (12, [.ref 0, .int (lsO q (ffi (bkp g nd q s0) i)), .int (nI i), l3, l4], [], (n, t, sh, I, L, R)) Q := by
  have hl := hB.1
  have h33 := hA.1
  have m0 := mm_0 hM
  intro m
  induction m with
  | zero =>
    intro i l3 l4 hi hc4
    obtain rfl : i = q.length := by omega
    have qq := H
    unfold fou at qq
    rw [e173_12]
    simp (disch := first | assumption | exact ct_i | exact ct_r | exact ct_n | exact ct_h | omega | exact z_in (by omega) (by omega) | exact b01 | exact Or.inl rfl | exact Or.inr rfl) only [e173_0, e173_1, e173_4, e173_5, e173_8, e173_9, e173_10, e173_11, e173_13, e173_14, e173_17, e173_20, e173_21, e173_23, e173_24, e173_27, e173_30, e173_31, e173_34, e173_35, e173_36, e173_39, e173_40, e173_41, e173_42, e173_43, e173_44, e173_45, e173_46, e173_49, e173_50, e173_51, e173_54, e173_55, e173_58, e173_59, e173_61, e173_63, e173_66, e173_67, e173_70, e173_71, e173_74, e173_75, e173_78, e173_79, e173_80, e173_81, e173_82, e173_83, e173_84, e173_87, e173_88, e173_91, e173_92, e173_95, e173_96, e173_97, e173_98, e173_99, e173_100, e173_103, e173_104, e173_105, e173_108, e173_111, e173_114, e173_117, e173_118, ct_i, ct_r, ct_n, ct_h, opt_v, opt_s, ref_s, ref_n, eq_self_iff_true, true_or, or_true, zl0, zl1, zl2, zl3, zl4, zl5, zl6, zl7, zl8, zl9, zl10, zl16, zl32, zl40, zl100, zl160, zIc1, zI_lt, zI_le, nI_eq, nI_add, z_sub, nI_clamp, zI_of, uu_eq, uu_ne, Nat.reduceLT, Nat.reduceLeDiff, Nat.reduceEqDiff, Nat.reduceAdd, Nat.reduceSub, Nat.reduceMul, Nat.not_lt_zero, Nat.lt_irrefl, Nat.le_refl, Bool.false_eq_true, false_and, and_false, true_and, and_true, if_pos, if_neg, if_true, if_false, not_true_eq_false, not_false_eq_true, m0, h33]
    revert qq
    cases ffi (bkp g nd q s0) q.length <;> exact fun qq => qq
  | succ m ih =>
    intro i l3 l4 hi hc4
    have hlt : i < q.length := by omega
    rw [e173_12]
    simp (disch := first | assumption | exact ct_i | exact ct_r | exact ct_n | exact ct_h | omega | exact z_in (by omega) (by omega) | exact b01 | exact Or.inl rfl | exact Or.inr rfl) only [e173_0, e173_1, e173_4, e173_5, e173_8, e173_9, e173_10, e173_11, e173_13, e173_14, e173_17, e173_20, e173_21, e173_23, e173_24, e173_27, e173_30, e173_31, e173_34, e173_35, e173_36, e173_39, e173_40, e173_41, e173_42, e173_43, e173_44, e173_45, e173_46, e173_49, e173_50, e173_51, e173_54, e173_55, e173_58, e173_59, e173_61, e173_63, e173_66, e173_67, e173_70, e173_71, e173_74, e173_75, e173_78, e173_79, e173_80, e173_81, e173_82, e173_83, e173_84, e173_87, e173_88, e173_91, e173_92, e173_95, e173_96, e173_97, e173_98, e173_99, e173_100, e173_103, e173_104, e173_105, e173_108, e173_111, e173_114, e173_117, e173_118, ct_i, ct_r, ct_n, ct_h, opt_v, opt_s, ref_s, ref_n, eq_self_iff_true, true_or, or_true, zl0, zl1, zl2, zl3, zl4, zl5, zl6, zl7, zl8, zl9, zl10, zl16, zl32, zl40, zl100, zl160, zIc1, zI_lt, zI_le, nI_eq, nI_add, z_sub, nI_clamp, zI_of, uu_eq, uu_ne, Nat.reduceLT, Nat.reduceLeDiff, Nat.reduceEqDiff, Nat.reduceAdd, Nat.reduceSub, Nat.reduceMul, Nat.not_lt_zero, Nat.lt_irrefl, Nat.le_refl, Bool.false_eq_true, false_and, and_false, true_and, and_true, if_pos, if_neg, if_true, if_false, not_true_eq_false, not_false_eq_true, m0, h33]
    have hff : ∀ n j, ffi (bkp g nd q s0) n = some j → j < n := by
      intro n
      induction n with
      | zero => intro j h; cases h
      | succ n ihn =>
        intro j h
        simp only [ffi] at h
        cases he : ffi (bkp g nd q s0) n with
        | some j2 => rw [he] at h; cases h; have := ihn j he; omega
        | none =>
          rw [he] at h
          simp only [] at h
          split at h
          · cases h; omega
          · cases h
    refine k173i hM hs0 h1 hn hg hA hB hpar h0 hlt (prev := ffi (bkp g nd q s0) i) (v := ffi (bkp g nd q s0) (i + 1)) (fun j hj => ?_) ?_ (fun l4' hc => ?_) nd 0 l4 (ffi (bkp g nd q s0) i) (by omega) hc4 ?_
    · have := hff i j hj
      exact ⟨by omega, dep_mono hpar hmono i j (by omega) hlt⟩
    · simp only [ffi]
      cases ffi (bkp g nd q s0) i <;> rfl
    · simp (disch := first | assumption | exact ct_i | exact ct_r | exact ct_n | exact ct_h | omega | exact z_in (by omega) (by omega) | exact b01 | exact Or.inl rfl | exact Or.inr rfl) only [e173_0, e173_1, e173_4, e173_5, e173_8, e173_9, e173_10, e173_11, e173_13, e173_14, e173_17, e173_20, e173_21, e173_23, e173_24, e173_27, e173_30, e173_31, e173_34, e173_35, e173_36, e173_39, e173_40, e173_41, e173_42, e173_43, e173_44, e173_45, e173_46, e173_49, e173_50, e173_51, e173_54, e173_55, e173_58, e173_59, e173_61, e173_63, e173_66, e173_67, e173_70, e173_71, e173_74, e173_75, e173_78, e173_79, e173_80, e173_81, e173_82, e173_83, e173_84, e173_87, e173_88, e173_91, e173_92, e173_95, e173_96, e173_97, e173_98, e173_99, e173_100, e173_103, e173_104, e173_105, e173_108, e173_111, e173_114, e173_117, e173_118, ct_i, ct_r, ct_n, ct_h, opt_v, opt_s, ref_s, ref_n, eq_self_iff_true, true_or, or_true, zl0, zl1, zl2, zl3, zl4, zl5, zl6, zl7, zl8, zl9, zl10, zl16, zl32, zl40, zl100, zl160, zIc1, zI_lt, zI_le, nI_eq, nI_add, z_sub, nI_clamp, zI_of, uu_eq, uu_ne, Nat.reduceLT, Nat.reduceLeDiff, Nat.reduceEqDiff, Nat.reduceAdd, Nat.reduceSub, Nat.reduceMul, Nat.not_lt_zero, Nat.lt_irrefl, Nat.le_refl, Bool.false_eq_true, false_and, and_false, true_and, and_true, if_pos, if_neg, if_true, if_false, not_true_eq_false, not_false_eq_true, m0]
      exact ih (i + 1) _ _ (by omega) hc
    · cases ffi (bkp g nd q s0) i <;> rfl
theorem k173 (hd : 7 ≤ d) (hk : RM T0 Z D tx tp so sz it (n, t, sh, I, L, R)) (H : ∀ h', RMh T0 Z D tx tp so sz it h' → Q (some (.int (fouS Z D tx))) h') : aC d 173 [.ref 0] (n, t, sh, I, L, R) Q := by
  obtain ⟨d, rfl⟩ : ∃ e, d = e + 1 := ⟨d - 1, by omega⟩
  have hM := hk.2.2.1
  simp only [] at hM
  have m0 := mm_0 hM
  have o3 := hk.1.2.2.1
  obtain ⟨hB, hq0, hpar⟩ := sq_B hk.1
  obtain ⟨_, _, hn4, hBd, _⟩ := RM_B hk
  have hq : qI (bh (Z 1) D (tx (Z 4))) (Z 1) (Z 2) (sq Z D tx (Z 2)) (sq Z D tx (Z 2)).length 0 := bfs_I (bh_g hBd) o3.1
  simp (disch := first | assumption | exact ct_i | exact ct_r | exact ct_n | exact ct_h | omega | exact z_in (by omega) (by omega) | exact b01 | exact Or.inl rfl | exact Or.inr rfl) only [b173, e173_0, e173_1, e173_4, e173_5, e173_8, e173_9, e173_10, e173_11, e173_13, e173_14, e173_17, e173_20, e173_21, e173_23, e173_24, e173_27, e173_30, e173_31, e173_34, e173_35, e173_36, e173_39, e173_40, e173_41, e173_42, e173_43, e173_44, e173_45, e173_46, e173_49, e173_50, e173_51, e173_54, e173_55, e173_58, e173_59, e173_61, e173_63, e173_66, e173_67, e173_70, e173_71, e173_74, e173_75, e173_78, e173_79, e173_80, e173_81, e173_82, e173_83, e173_84, e173_87, e173_88, e173_91, e173_92, e173_95, e173_96, e173_97, e173_98, e173_99, e173_100, e173_103, e173_104, e173_105, e173_108, e173_111, e173_114, e173_117, e173_118, ct_i, ct_r, ct_n, ct_h, opt_v, opt_s, ref_s, ref_n, eq_self_iff_true, true_or, or_true, zl0, zl1, zl2, zl3, zl4, zl5, zl6, zl7, zl8, zl9, zl10, zl16, zl32, zl40, zl100, zl160, zIc1, zI_lt, zI_le, nI_eq, nI_add, z_sub, nI_clamp, zI_of, uu_eq, uu_ne, Nat.reduceLT, Nat.reduceLeDiff, Nat.reduceEqDiff, Nat.reduceAdd, Nat.reduceSub, Nat.reduceMul, Nat.not_lt_zero, Nat.lt_irrefl, Nat.le_refl, Bool.false_eq_true, false_and, and_false, true_and, and_true, if_pos, if_neg, if_true, if_false, not_true_eq_false, not_false_eq_true, m0]
  refine kAs (by omega) hk (fun I1 ee hf hT => ?_)
  simp (disch := first | assumption | exact ct_i | exact ct_r | exact ct_n | exact ct_h | omega | exact z_in (by omega) (by omega) | exact b01 | exact Or.inl rfl | exact Or.inr rfl) only [e173_0, e173_1, e173_4, e173_5, e173_8, e173_9, e173_10, e173_11, e173_13, e173_14, e173_17, e173_20, e173_21, e173_23, e173_24, e173_27, e173_30, e173_31, e173_34, e173_35, e173_36, e173_39, e173_40, e173_41, e173_42, e173_43, e173_44, e173_45, e173_46, e173_49, e173_50, e173_51, e173_54, e173_55, e173_58, e173_59, e173_61, e173_63, e173_66, e173_67, e173_70, e173_71, e173_74, e173_75, e173_78, e173_79, e173_80, e173_81, e173_82, e173_83, e173_84, e173_87, e173_88, e173_91, e173_92, e173_95, e173_96, e173_97, e173_98, e173_99, e173_100, e173_103, e173_104, e173_105, e173_108, e173_111, e173_114, e173_117, e173_118, ct_i, ct_r, ct_n, ct_h, opt_v, opt_s, ref_s, ref_n, eq_self_iff_true, true_or, or_true, zl0, zl1, zl2, zl3, zl4, zl5, zl6, zl7, zl8, zl9, zl10, zl16, zl32, zl40, zl100, zl160, zIc1, zI_lt, zI_le, nI_eq, nI_add, z_sub, nI_clamp, zI_of, uu_eq, uu_ne, Nat.reduceLT, Nat.reduceLeDiff, Nat.reduceEqDiff, Nat.reduceAdd, Nat.reduceSub, Nat.reduceMul, Nat.not_lt_zero, Nat.lt_irrefl, Nat.le_refl, Bool.false_eq_true, false_and, and_false, true_and, and_true, if_pos, if_neg, if_true, if_false, not_true_eq_false, not_false_eq_true, m0]
  refine kFA (by omega) (RM_fr hk hf) hT (fun I2 hf2 hk2 h1 hA => ?_)
  simp (disch := first | assumption | exact ct_i | exact ct_r | exact ct_n | exact ct_h | omega | exact z_in (by omega) (by omega) | exact b01 | exact Or.inl rfl | exact Or.inr rfl) only [e173_0, e173_1, e173_4, e173_5, e173_8, e173_9, e173_10, e173_11, e173_13, e173_14, e173_17, e173_20, e173_21, e173_23, e173_24, e173_27, e173_30, e173_31, e173_34, e173_35, e173_36, e173_39, e173_40, e173_41, e173_42, e173_43, e173_44, e173_45, e173_46, e173_49, e173_50, e173_51, e173_54, e173_55, e173_58, e173_59, e173_61, e173_63, e173_66, e173_67, e173_70, e173_71, e173_74, e173_75, e173_78, e173_79, e173_80, e173_81, e173_82, e173_83, e173_84, e173_87, e173_88, e173_91, e173_92, e173_95, e173_96, e173_97, e173_98, e173_99, e173_100, e173_103, e173_104, e173_105, e173_108, e173_111, e173_114, e173_117, e173_118, ct_i, ct_r, ct_n, ct_h, opt_v, opt_s, ref_s, ref_n, eq_self_iff_true, true_or, or_true, zl0, zl1, zl2, zl3, zl4, zl5, zl6, zl7, zl8, zl9, zl10, zl16, zl32, zl40, zl100, zl160, zIc1, zI_lt, zI_le, nI_eq, nI_add, z_sub, nI_clamp, zI_of, uu_eq, uu_ne, Nat.reduceLT, Nat.reduceLeDiff, Nat.reduceEqDiff, Nat.reduceAdd, Nat.reduceSub, Nat.reduceMul, Nat.not_lt_zero, Nat.lt_irrefl, Nat.le_refl, Bool.false_eq_true, false_and, and_false, true_and, and_true, if_pos, if_neg, if_true, if_false, not_true_eq_false, not_false_eq_true, m0]
  exact k173l hM o3.1 h1 hn4 (bh_g hBd) hA hB hpar hq.2.2.1 hq.1.2.1 (H _ hk2.2) (sq Z D tx (Z 2)).length 0 _ _ (by omega) rfl
end
