/-! the model's calls: which go, going, the rule, the image -/
def RMh (T0 : Nat) (Z : Nat → Nat) (D : Nat → Nat → Nat) (tx : Nat → Nat → List Nat) (tp so sz : Nat → Nat) (it : Nat → Nat → Int32) (h : aH) : Prop :=
  (h.1 = 26 ∧ h.2.1 = T0) ∧ mK h.2.2.1 h.2.2.2.2.2 ∧ (∀ a k b, h.2.2.2.2.2 a k = some b → b < 26) ∧ MI Z D tx tp so sz it h.2.2.2.1
theorem in_d4 {x : Int32} : (nI 0 ≤ x ∧ x ≤ nI 3) ↔ (dec x 4).isSome = true := in_dec (n := 4) (by decide)
theorem in_d2 {x : Int32} : (nI 0 ≤ x ∧ x ≤ nI 1) ↔ (dec x 2).isSome = true := in_dec (n := 2) (by decide)
theorem in_d3 {x : Int32} : (nI 0 ≤ x ∧ x ≤ nI 2) ↔ (dec x 3).isSome = true := in_dec (n := 3) (by decide)
theorem in_d5 {x : Int32} : (nI 0 ≤ x ∧ x ≤ nI 4) ↔ (dec x 5).isSome = true := in_dec (n := 5) (by decide)
theorem in_d6 {x : Int32} : (nI 0 ≤ x ∧ x ≤ nI 5) ↔ (dec x 6).isSome = true := in_dec (n := 6) (by decide)
theorem in_d10 {x : Int32} : (nI 0 ≤ x ∧ x ≤ nI 9) ↔ (dec x 10).isSome = true := in_dec (n := 10) (by decide)
section
variable {T0 : Nat} {Z : Nat → Nat} {D : Nat → Nat → Nat} {tx : Nat → Nat → List Nat} {tp so sz : Nat → Nat} {it : Nat → Nat → Int32} {d : Nat} {n t : Nat} {sh : Nat → Nat × Nat} {I : Nat → Nat → Int32} {L : Nat → Nat → Int64} {R : Nat → Nat → Option Nat} {I' : Nat → Nat → Int32} {Q : Option Value → aH → Prop}
theorem RMh_of (hk : RM T0 Z D tx tp so sz it (n, t, sh, I, L, R)) : RMh T0 Z D tx tp so sz it (n, t, sh, I, L, R) := hk.2
theorem thS_K {nd s : Nat} (h : thS nd D s I) (f : frW I I') : thS nd D s I' := thS_W h f
/-- the set of those that can be gone through -/
theorem k133l (hd : 4 ≤ d) {f : Nat → List Nat} {nd r s : Nat} (hs : s < 6144) {I0 : Nat → Nat → Int32} (H : ∀ I', frM I0 I' → Q (some (.int (orF (fun i => (bh nd D f s i).isSome) nd))) (n, t, sh, I', L, R)) :
    ∀ m i I, i + m = nd → frM I0 I → mB nd D f r sh R I → thS nd D s I → aE (a_cl_ d) 133 (8, [.ref 0, .int (orF (fun i => (bh nd D f s i).isSome) i), .int (nI i)], [], (n, t, sh, I, L, R)) Q := by
  intro m
  induction m with
  | zero =>
    intro i I hi hf hm hT
    obtain rfl : i = nd := by omega
    have m0 := mm_0 hm.1
    have h1 := hm.2.1.1
    have hn := hm.2.2.1
    rw [e133_8]
    simp (disch := first | assumption | exact ct_i | exact ct_r | exact ct_n | exact ct_h | omega | exact z_in (by omega) (by omega) | exact b01 | exact Or.inl rfl | exact Or.inr rfl) only [e133_0, e133_1, e133_4, e133_5, e133_6, e133_7, e133_9, e133_10, e133_13, e133_16, e133_17, e133_18, e133_19, e133_22, e133_25, e133_26, e133_27, e133_28, e133_31, e133_32, e133_33, e133_34, e133_37, e133_40, e133_41, ct_i, ct_r, ct_n, ct_h, opt_v, opt_s, ref_s, ref_n, eq_self_iff_true, true_or, or_true, zl0, zl1, zl2, zl3, zl4, zl5, zl6, zl7, zl8, zl9, zl10, zl16, zl32, zl40, zl100, zl160, zIc1, zI_lt, zI_le, nI_eq, nI_add, z_sub, nI_clamp, zI_of, uu_eq, uu_ne, Nat.reduceLT, Nat.reduceLeDiff, Nat.reduceEqDiff, Nat.reduceAdd, Nat.reduceSub, Nat.reduceMul, Nat.not_lt_zero, Nat.lt_irrefl, Nat.le_refl, Bool.false_eq_true, false_and, and_false, true_and, and_true, if_pos, if_neg, if_true, if_false, not_true_eq_false, not_false_eq_true, m0, h1]
    exact H I hf
  | succ m ih =>
    intro i I hi hf hm hT
    have m0 := mm_0 hm.1
    have h1 := hm.2.1.1
    have hn := hm.2.2.1
    have hlt : i < nd := by omega
    rw [e133_8]
    simp (disch := first | assumption | exact ct_i | exact ct_r | exact ct_n | exact ct_h | omega | exact z_in (by omega) (by omega) | exact b01 | exact Or.inl rfl | exact Or.inr rfl) only [e133_0, e133_1, e133_4, e133_5, e133_6, e133_7, e133_9, e133_10, e133_13, e133_16, e133_17, e133_18, e133_19, e133_22, e133_25, e133_26, e133_27, e133_28, e133_31, e133_32, e133_33, e133_34, e133_37, e133_40, e133_41, ct_i, ct_r, ct_n, ct_h, opt_v, opt_s, ref_s, ref_n, eq_self_iff_true, true_or, or_true, zl0, zl1, zl2, zl3, zl4, zl5, zl6, zl7, zl8, zl9, zl10, zl16, zl32, zl40, zl100, zl160, zIc1, zI_lt, zI_le, nI_eq, nI_add, z_sub, nI_clamp, zI_of, uu_eq, uu_ne, Nat.reduceLT, Nat.reduceLeDiff, Nat.reduceEqDiff, Nat.reduceAdd, Nat.reduceSub, Nat.reduceMul, Nat.not_lt_zero, Nat.lt_irrefl, Nat.le_refl, Bool.false_eq_true, false_and, and_false, true_and, and_true, if_pos, if_neg, if_true, if_false, not_true_eq_false, not_false_eq_true, m0, h1]
    refine k134 hd hm hT hs (fun I1 hf1 => ?_)
    have eg : gN nd D f s (nI i) = bh nd D f s i := by unfold gN; rw [dec_nI (by omega) (by omega)]
    rw [eg]
    have q := ih (i + 1) I1 (by omega) (frM_t hf (frW_M hf1)) (mB_fr hm (frW_M hf1)) (thS_W hT hf1)
    simp only [orF] at q
    by_cases hb : (bh nd D f s i).isSome = true
    · rw [if_pos hb] at q
      simp (disch := first | assumption | exact ct_i | exact ct_r | exact ct_n | exact ct_h | omega | exact z_in (by omega) (by omega) | exact b01 | exact Or.inl rfl | exact Or.inr rfl) only [e133_0, e133_1, e133_4, e133_5, e133_6, e133_7, e133_9, e133_10, e133_13, e133_16, e133_17, e133_18, e133_19, e133_22, e133_25, e133_26, e133_27, e133_28, e133_31, e133_32, e133_33, e133_34, e133_37, e133_40, e133_41, ct_i, ct_r, ct_n, ct_h, opt_v, opt_s, ref_s, ref_n, eq_self_iff_true, true_or, or_true, zl0, zl1, zl2, zl3, zl4, zl5, zl6, zl7, zl8, zl9, zl10, zl16, zl32, zl40, zl100, zl160, zIc1, zI_lt, zI_le, nI_eq, nI_add, z_sub, nI_clamp, zI_of, uu_eq, uu_ne, Nat.reduceLT, Nat.reduceLeDiff, Nat.reduceEqDiff, Nat.reduceAdd, Nat.reduceSub, Nat.reduceMul, Nat.not_lt_zero, Nat.lt_irrefl, Nat.le_refl, Bool.false_eq_true, false_and, and_false, true_and, and_true, if_pos, if_neg, if_true, if_false, not_true_eq_false, not_false_eq_true, m0, hb]
      exact q
    · rw [if_neg hb] at q
      simp (disch := first | assumption | exact ct_i | exact ct_r | exact ct_n | exact ct_h | omega | exact z_in (by omega) (by omega) | exact b01 | exact Or.inl rfl | exact Or.inr rfl) only [e133_0, e133_1, e133_4, e133_5, e133_6, e133_7, e133_9, e133_10, e133_13, e133_16, e133_17, e133_18, e133_19, e133_22, e133_25, e133_26, e133_27, e133_28, e133_31, e133_32, e133_33, e133_34, e133_37, e133_40, e133_41, ct_i, ct_r, ct_n, ct_h, opt_v, opt_s, ref_s, ref_n, eq_self_iff_true, true_or, or_true, zl0, zl1, zl2, zl3, zl4, zl5, zl6, zl7, zl8, zl9, zl10, zl16, zl32, zl40, zl100, zl160, zIc1, zI_lt, zI_le, nI_eq, nI_add, z_sub, nI_clamp, zI_of, uu_eq, uu_ne, Nat.reduceLT, Nat.reduceLeDiff, Nat.reduceEqDiff, Nat.reduceAdd, Nat.reduceSub, Nat.reduceMul, Nat.not_lt_zero, Nat.lt_irrefl, Nat.le_refl, Bool.false_eq_true, false_and, and_false, true_and, and_true, if_pos, if_neg, if_true, if_false, not_true_eq_false, not_false_eq_true, m0, hb]
      rw [show ∀ x : Int32, x ||| nI 0 = x from fun x => Int32.or_zero]
      exact q
theorem k133 (hd : 5 ≤ d) (hk : RM T0 Z D tx tp so sz it (n, t, sh, I, L, R)) (H : ∀ h', RMh T0 Z D tx tp so sz it h' → Q (some (.int (opnS Z D tx))) h') : aC d 133 [.ref 0] (n, t, sh, I, L, R) Q := by
  obtain ⟨d, rfl⟩ : ∃ e, d = e + 1 := ⟨d - 1, by omega⟩
  have o3 := hk.1.2.2.1
  have m0 := mm_0 hk.2.2.1
  simp only [] at m0
  simp (disch := first | assumption | exact ct_i | exact ct_r | exact ct_n | exact ct_h | omega | exact z_in (by omega) (by omega) | exact b01 | exact Or.inl rfl | exact Or.inr rfl) only [b133, e133_0, e133_1, e133_4, e133_5, e133_6, e133_7, e133_9, e133_10, e133_13, e133_16, e133_17, e133_18, e133_19, e133_22, e133_25, e133_26, e133_27, e133_28, e133_31, e133_32, e133_33, e133_34, e133_37, e133_40, e133_41, ct_i, ct_r, ct_n, ct_h, opt_v, opt_s, ref_s, ref_n, eq_self_iff_true, true_or, or_true, zl0, zl1, zl2, zl3, zl4, zl5, zl6, zl7, zl8, zl9, zl10, zl16, zl32, zl40, zl100, zl160, zIc1, zI_lt, zI_le, nI_eq, nI_add, z_sub, nI_clamp, zI_of, uu_eq, uu_ne, Nat.reduceLT, Nat.reduceLeDiff, Nat.reduceEqDiff, Nat.reduceAdd, Nat.reduceSub, Nat.reduceMul, Nat.not_lt_zero, Nat.lt_irrefl, Nat.le_refl, Bool.false_eq_true, false_and, and_false, true_and, and_true, if_pos, if_neg, if_true, if_false, not_true_eq_false, not_false_eq_true, m0]
  refine kAs (by omega) hk (fun I1 ee hf hT => ?_)
  have hk1 := RM_fr hk hf
  simp (disch := first | assumption | exact ct_i | exact ct_r | exact ct_n | exact ct_h | omega | exact z_in (by omega) (by omega) | exact b01 | exact Or.inl rfl | exact Or.inr rfl) only [e133_0, e133_1, e133_4, e133_5, e133_6, e133_7, e133_9, e133_10, e133_13, e133_16, e133_17, e133_18, e133_19, e133_22, e133_25, e133_26, e133_27, e133_28, e133_31, e133_32, e133_33, e133_34, e133_37, e133_40, e133_41, ct_i, ct_r, ct_n, ct_h, opt_v, opt_s, ref_s, ref_n, eq_self_iff_true, true_or, or_true, zl0, zl1, zl2, zl3, zl4, zl5, zl6, zl7, zl8, zl9, zl10, zl16, zl32, zl40, zl100, zl160, zIc1, zI_lt, zI_le, nI_eq, nI_add, z_sub, nI_clamp, zI_of, uu_eq, uu_ne, Nat.reduceLT, Nat.reduceLeDiff, Nat.reduceEqDiff, Nat.reduceAdd, Nat.reduceSub, Nat.reduceMul, Nat.not_lt_zero, Nat.lt_irrefl, Nat.le_refl, Bool.false_eq_true, false_and, and_false, true_and, and_true, if_pos, if_neg, if_true, if_false, not_true_eq_false, not_false_eq_true]
  exact k133l (by omega) o3.1 (fun I2 hf2 => H _ (RM_fr hk1 hf2).2) (Z 1) 0 I1 (by omega) (frM_0 _) (RM_B hk1) hT
theorem k158 (hd : 5 ≤ d) (hk : RM T0 Z D tx tp so sz it (n, t, sh, I, L, R)) {x : Int32} (H : ∀ h', RMh T0 (goS Z D tx x).2 D tx tp so sz it h' → Q (some (.int (goS Z D tx x).1)) h') : aC d 158 [.ref 0, .int x] (n, t, sh, I, L, R) Q := by
  obtain ⟨d, rfl⟩ : ∃ e, d = e + 1 := ⟨d - 1, by omega⟩
  have o3 := hk.1.2.2.1
  obtain ⟨hM, hD, hn4, hB, hR⟩ := RM_B hk
  have m0 := mm_0 hM; have x6 := mm_x6 hM; have y6 := mm_y6 hM; have r9 := mm_r9 hM; have x7 := mm_x7 hM; have y7 := mm_y7 hM; have r10 := mm_r10 hM
  have e1 := fun Q => k121 (Q := Q) (n := n) (t := t) (L := L) (show 2 ≤ d by omega) hM hD hn4 (x := x)
  unfold goS at H
  cases hx : dec x (Z 1) with
  | none =>
    simp only [hx] at H
    have q := H _ hk.2
    simp only [hx, Option.isSome_none, Bool.false_eq_true, if_false] at e1
    simp (disch := first | assumption | exact ct_i | exact ct_r | exact ct_n | exact ct_h | omega | exact z_in (by omega) (by omega) | exact b01 | exact Or.inl rfl | exact Or.inr rfl) only [b158, e158_0, e158_1, e158_2, e158_5, e158_8, e158_10, e158_11, e158_12, e158_15, e158_16, e158_17, e158_20, e158_23, e158_25, e158_26, e158_27, e158_28, e158_31, e158_32, e158_35, e158_36, e158_37, e158_40, e158_41, e158_42, e158_43, e158_44, e158_45, e158_48, e158_51, e158_52, e158_53, e158_56, e158_59, e158_60, e158_63, ct_i, ct_r, ct_n, ct_h, opt_v, opt_s, ref_s, ref_n, eq_self_iff_true, true_or, or_true, zl0, zl1, zl2, zl3, zl4, zl5, zl6, zl7, zl8, zl9, zl10, zl16, zl32, zl40, zl100, zl160, zIc1, zI_lt, zI_le, nI_eq, nI_add, z_sub, nI_clamp, zI_of, uu_eq, uu_ne, Nat.reduceLT, Nat.reduceLeDiff, Nat.reduceEqDiff, Nat.reduceAdd, Nat.reduceSub, Nat.reduceMul, Nat.not_lt_zero, Nat.lt_irrefl, Nat.le_refl, Bool.false_eq_true, false_and, and_false, true_and, and_true, if_pos, if_neg, if_true, if_false, not_true_eq_false, not_false_eq_true, m0, e1]
    exact q
  | some i =>
    obtain ⟨rfl, hi⟩ := dec_some (by omega) hx
    simp only [hx] at H
    simp only [hx, Option.isSome_some, if_true] at e1
    simp (disch := first | assumption | exact ct_i | exact ct_r | exact ct_n | exact ct_h | omega | exact z_in (by omega) (by omega) | exact b01 | exact Or.inl rfl | exact Or.inr rfl) only [b158, e158_0, e158_1, e158_2, e158_5, e158_8, e158_10, e158_11, e158_12, e158_15, e158_16, e158_17, e158_20, e158_23, e158_25, e158_26, e158_27, e158_28, e158_31, e158_32, e158_35, e158_36, e158_37, e158_40, e158_41, e158_42, e158_43, e158_44, e158_45, e158_48, e158_51, e158_52, e158_53, e158_56, e158_59, e158_60, e158_63, ct_i, ct_r, ct_n, ct_h, opt_v, opt_s, ref_s, ref_n, eq_self_iff_true, true_or, or_true, zl0, zl1, zl2, zl3, zl4, zl5, zl6, zl7, zl8, zl9, zl10, zl16, zl32, zl40, zl100, zl160, zIc1, zI_lt, zI_le, nI_eq, nI_add, z_sub, nI_clamp, zI_of, uu_eq, uu_ne, Nat.reduceLT, Nat.reduceLeDiff, Nat.reduceEqDiff, Nat.reduceAdd, Nat.reduceSub, Nat.reduceMul, Nat.not_lt_zero, Nat.lt_irrefl, Nat.le_refl, Bool.false_eq_true, false_and, and_false, true_and, and_true, if_pos, if_neg, if_true, if_false, not_true_eq_false, not_false_eq_true, m0, e1]
    refine kAs (by omega) hk (fun I1 ee hf hT => ?_)
    have hk1 := RM_fr hk hf
    simp (disch := first | assumption | exact ct_i | exact ct_r | exact ct_n | exact ct_h | omega | exact z_in (by omega) (by omega) | exact b01 | exact Or.inl rfl | exact Or.inr rfl) only [e158_0, e158_1, e158_2, e158_5, e158_8, e158_10, e158_11, e158_12, e158_15, e158_16, e158_17, e158_20, e158_23, e158_25, e158_26, e158_27, e158_28, e158_31, e158_32, e158_35, e158_36, e158_37, e158_40, e158_41, e158_42, e158_43, e158_44, e158_45, e158_48, e158_51, e158_52, e158_53, e158_56, e158_59, e158_60, e158_63, ct_i, ct_r, ct_n, ct_h, opt_v, opt_s, ref_s, ref_n, eq_self_iff_true, true_or, or_true, zl0, zl1, zl2, zl3, zl4, zl5, zl6, zl7, zl8, zl9, zl10, zl16, zl32, zl40, zl100, zl160, zIc1, zI_lt, zI_le, nI_eq, nI_add, z_sub, nI_clamp, zI_of, uu_eq, uu_ne, Nat.reduceLT, Nat.reduceLeDiff, Nat.reduceEqDiff, Nat.reduceAdd, Nat.reduceSub, Nat.reduceMul, Nat.not_lt_zero, Nat.lt_irrefl, Nat.le_refl, Bool.false_eq_true, false_and, and_false, true_and, and_true, if_pos, if_neg, if_true, if_false, not_true_eq_false, not_false_eq_true, m0]
    refine k134 (by omega) (RM_B hk1) hT o3.1 (fun I2 hf2 => ?_)
    have hk2 := RM_fr hk1 (frW_M hf2)
    have eg : gN (Z 1) D (tx (Z 4)) (Z 2) (nI i) = bh (Z 1) D (tx (Z 4)) (Z 2) i := by unfold gN; rw [hx]
    rw [eg]
    cases hb : bh (Z 1) D (tx (Z 4)) (Z 2) i with
    | none =>
      rw [hb] at H
      have q := H _ hk2.2
      simp only [Option.isSome_none, Bool.false_eq_true, if_false]
      simp (disch := first | assumption | exact ct_i | exact ct_r | exact ct_n | exact ct_h | omega | exact z_in (by omega) (by omega) | exact b01 | exact Or.inl rfl | exact Or.inr rfl) only [e158_0, e158_1, e158_2, e158_5, e158_8, e158_10, e158_11, e158_12, e158_15, e158_16, e158_17, e158_20, e158_23, e158_25, e158_26, e158_27, e158_28, e158_31, e158_32, e158_35, e158_36, e158_37, e158_40, e158_41, e158_42, e158_43, e158_44, e158_45, e158_48, e158_51, e158_52, e158_53, e158_56, e158_59, e158_60, e158_63, ct_i, ct_r, ct_n, ct_h, opt_v, opt_s, ref_s, ref_n, eq_self_iff_true, true_or, or_true, zl0, zl1, zl2, zl3, zl4, zl5, zl6, zl7, zl8, zl9, zl10, zl16, zl32, zl40, zl100, zl160, zIc1, zI_lt, zI_le, nI_eq, nI_add, z_sub, nI_clamp, zI_of, uu_eq, uu_ne, Nat.reduceLT, Nat.reduceLeDiff, Nat.reduceEqDiff, Nat.reduceAdd, Nat.reduceSub, Nat.reduceMul, Nat.not_lt_zero, Nat.lt_irrefl, Nat.le_refl, Bool.false_eq_true, false_and, and_false, true_and, and_true, if_pos, if_neg, if_true, if_false, not_true_eq_false, not_false_eq_true, m0]
      exact q
    | some s' =>
      rw [hb] at H
      simp only [] at H
      have hs' : s' = aft D (Z 2) i := by
        unfold bh at hb
        split at hb
        · cases hb; rfl
        · cases hb
      subst hs'
      simp only [Option.isSome_some, if_true]
      simp (disch := first | assumption | exact ct_i | exact ct_r | exact ct_n | exact ct_h | omega | exact z_in (by omega) (by omega) | exact b01 | exact Or.inl rfl | exact Or.inr rfl) only [e158_0, e158_1, e158_2, e158_5, e158_8, e158_10, e158_11, e158_12, e158_15, e158_16, e158_17, e158_20, e158_23, e158_25, e158_26, e158_27, e158_28, e158_31, e158_32, e158_35, e158_36, e158_37, e158_40, e158_41, e158_42, e158_43, e158_44, e158_45, e158_48, e158_51, e158_52, e158_53, e158_56, e158_59, e158_60, e158_63, ct_i, ct_r, ct_n, ct_h, opt_v, opt_s, ref_s, ref_n, eq_self_iff_true, true_or, or_true, zl0, zl1, zl2, zl3, zl4, zl5, zl6, zl7, zl8, zl9, zl10, zl16, zl32, zl40, zl100, zl160, zIc1, zI_lt, zI_le, nI_eq, nI_add, z_sub, nI_clamp, zI_of, uu_eq, uu_ne, Nat.reduceLT, Nat.reduceLeDiff, Nat.reduceEqDiff, Nat.reduceAdd, Nat.reduceSub, Nat.reduceMul, Nat.not_lt_zero, Nat.lt_irrefl, Nat.le_refl, Bool.false_eq_true, false_and, and_false, true_and, and_true, if_pos, if_neg, if_true, if_false, not_true_eq_false, not_false_eq_true, m0]
      refine k159 (by omega) (RM_B hk2) (thS_W hT hf2) o3.1 hi (fun I3 hf3 hT3 => ?_)
      have hk3 := RM_fr hk2 (frK_M hf3)
      have g7 := (hT3.2.2 i hi).1
      have g12 := hT3.1
      have g13 := hT3.2.1
      simp (disch := first | assumption | exact ct_i | exact ct_r | exact ct_n | exact ct_h | omega | exact z_in (by omega) (by omega) | exact b01 | exact Or.inl rfl | exact Or.inr rfl) only [e158_0, e158_1, e158_2, e158_5, e158_8, e158_10, e158_11, e158_12, e158_15, e158_16, e158_17, e158_20, e158_23, e158_25, e158_26, e158_27, e158_28, e158_31, e158_32, e158_35, e158_36, e158_37, e158_40, e158_41, e158_42, e158_43, e158_44, e158_45, e158_48, e158_51, e158_52, e158_53, e158_56, e158_59, e158_60, e158_63, ct_i, ct_r, ct_n, ct_h, opt_v, opt_s, ref_s, ref_n, eq_self_iff_true, true_or, or_true, zl0, zl1, zl2, zl3, zl4, zl5, zl6, zl7, zl8, zl9, zl10, zl16, zl32, zl40, zl100, zl160, zIc1, zI_lt, zI_le, nI_eq, nI_add, z_sub, nI_clamp, zI_of, uu_eq, uu_ne, Nat.reduceLT, Nat.reduceLeDiff, Nat.reduceEqDiff, Nat.reduceAdd, Nat.reduceSub, Nat.reduceMul, Nat.not_lt_zero, Nat.lt_irrefl, Nat.le_refl, Bool.false_eq_true, false_and, and_false, true_and, and_true, if_pos, if_neg, if_true, if_false, not_true_eq_false, not_false_eq_true, m0, x6, y6, r9, x7, y7, r10, g7, g12, g13]
      refine H _ ⟨hk.2.1, hk.2.2.1, hk.2.2.2.1, MI_24 hk3.2.2.2.2 (fun k hk => u1_ne _ _ _ (by omega)) (fun x k hx => ?_) ?_ ?_ ?_ (fun j hj => ?_)⟩
      · have hxn : ¬ (x = 0 ∧ (k = 2 ∨ k = 3) ∨ x = 6) := fun e => hx (by omega)
        simp (disch := omega) only [uu_ne]
      · try dsimp only
        rw [u1_eq, uu_ne _ _ _ _ (by omega), uu_eq]
      · try dsimp only
        rw [u1_eq, uu_eq]
      · try dsimp only
        rw [u1_ne _ _ _ (by decide)]
        simp (disch := omega) only [uu_ne]
        exact hk3.2.2.2.2.2.2.2.2.1.2
      · try dsimp only
        rw [u1_eq, uu_ne _ _ _ _ (by omega), uu_ne _ _ _ _ (by omega)]
        by_cases hj2 : j = i
        · subst hj2; rw [uu_eq]
        · rw [uu_ne _ _ _ _ (by omega), stt_aft (j := j) (by omega) (by omega), if_neg hj2]
          exact (hk3.2.2.2.2.2.2.1 j hj).2
theorem k155 (hd : 2 ≤ d) (hk : RM T0 Z D tx tp so sz it (n, t, sh, I, L, R)) {x : Int32} (H : ∀ h', RMh T0 (forS Z x).2 D tx tp so sz it h' → Q (some (.int (forS Z x).1)) h') : aC d 155 [.ref 0, .int x] (n, t, sh, I, L, R) Q := by
  obtain ⟨d, rfl⟩ : ∃ e, d = e + 1 := ⟨d - 1, by omega⟩
  obtain ⟨hM, hD, hn4, hB, hR⟩ := RM_B hk
  have m0 := mm_0 hM
  obtain ⟨_, _, _, _, m1, m2, m3, m4, m5, m6, m7⟩ := id hk
  simp only [] at m1 m2 m4 m5
  obtain ⟨g16, g17⟩ := m5
  have o4 := hk.1.2.2.2.1
  have e1 := in_dec (x := x) (show Z 3 < 2 ^ 30 by omega)
  rw [z_sub (show 1 ≤ Z 3 by omega)] at e1
  unfold forS at H
  cases hx : dec x (Z 3) with
  | none =>
    simp only [hx] at H
    have q := H _ hk.2
    simp only [hx, Option.isSome_none, Bool.false_eq_true, iff_false] at e1
    simp (disch := first | assumption | exact ct_i | exact ct_r | exact ct_n | exact ct_h | omega | exact z_in (by omega) (by omega) | exact b01 | exact Or.inl rfl | exact Or.inr rfl) only [b155, e155_0, e155_1, e155_2, e155_3, e155_4, e155_7, e155_8, e155_9, e155_10, e155_13, e155_16, e155_18, e155_19, e155_20, e155_23, e155_24, e155_25, e155_26, e155_29, e155_30, ct_i, ct_r, ct_n, ct_h, opt_v, opt_s, ref_s, ref_n, eq_self_iff_true, true_or, or_true, zl0, zl1, zl2, zl3, zl4, zl5, zl6, zl7, zl8, zl9, zl10, zl16, zl32, zl40, zl100, zl160, zIc1, zI_lt, zI_le, nI_eq, nI_add, z_sub, nI_clamp, zI_of, uu_eq, uu_ne, Nat.reduceLT, Nat.reduceLeDiff, Nat.reduceEqDiff, Nat.reduceAdd, Nat.reduceSub, Nat.reduceMul, Nat.not_lt_zero, Nat.lt_irrefl, Nat.le_refl, Bool.false_eq_true, false_and, and_false, true_and, and_true, if_pos, if_neg, if_true, if_false, not_true_eq_false, not_false_eq_true, m0, g16, ll0, k118 (show 1 ≤ d by omega), e1]
    exact q
  | some r =>
    obtain ⟨rfl, hr⟩ := dec_some (by omega) hx
    simp only [hx] at H
    simp only [hx, Option.isSome_some, iff_true] at e1
    have e2 : nI 0 ≤ nI r ∧ nI r ≤ nI (Z 3 - 1) := by
      rw [zI_le (by decide) (by omega), zI_le (by omega) (by omega)]; omega
    simp (disch := first | assumption | exact ct_i | exact ct_r | exact ct_n | exact ct_h | omega | exact z_in (by omega) (by omega) | exact b01 | exact Or.inl rfl | exact Or.inr rfl) only [b155, e155_0, e155_1, e155_2, e155_3, e155_4, e155_7, e155_8, e155_9, e155_10, e155_13, e155_16, e155_18, e155_19, e155_20, e155_23, e155_24, e155_25, e155_26, e155_29, e155_30, ct_i, ct_r, ct_n, ct_h, opt_v, opt_s, ref_s, ref_n, eq_self_iff_true, true_or, or_true, zl0, zl1, zl2, zl3, zl4, zl5, zl6, zl7, zl8, zl9, zl10, zl16, zl32, zl40, zl100, zl160, zIc1, zI_lt, zI_le, nI_eq, nI_add, z_sub, nI_clamp, zI_of, uu_eq, uu_ne, Nat.reduceLT, Nat.reduceLeDiff, Nat.reduceEqDiff, Nat.reduceAdd, Nat.reduceSub, Nat.reduceMul, Nat.not_lt_zero, Nat.lt_irrefl, Nat.le_refl, Bool.false_eq_true, false_and, and_false, true_and, and_true, if_pos, if_neg, if_true, if_false, not_true_eq_false, not_false_eq_true, m0, g16, g17, ll0, k118 (show 1 ≤ d by omega), e2]
    refine H _ ⟨hk.2.1, hk.2.2.1, hk.2.2.2.1, MI_24 hk.2.2.2.2 (fun k hk => u1_ne _ _ _ (by omega)) (fun x k hx => ?_) ?_ ?_ ?_ (fun j hj => ?_)⟩
    · exact uu_ne _ _ _ _ (fun e => hx (by omega))
    · try dsimp only
      rw [u1_ne _ _ _ (by decide), uu_ne _ _ _ _ (by omega)]; exact m2.2.1
    · try dsimp only
      rw [u1_ne _ _ _ (by decide), uu_ne _ _ _ _ (by omega)]; exact m2.2.2
    · try dsimp only
      rw [u1_eq, uu_eq]
    · try dsimp only
      rw [u1_ne _ _ _ (by decide), uu_ne _ _ _ _ (by omega)]; exact (m3 j hj).2
end
