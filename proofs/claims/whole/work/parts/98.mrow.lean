/-! the model's calls: judge, row, heard -/
section
variable {T0 : Nat} {Z : Nat → Nat} {D : Nat → Nat → Nat} {tx : Nat → Nat → List Nat} {tp so sz : Nat → Nat} {it : Nat → Nat → Int32} {d : Nat} {n t : Nat} {sh : Nat → Nat × Nat} {I : Nat → Nat → Int32} {L : Nat → Nat → Int64} {R : Nat → Nat → Option Nat} {I' : Nat → Nat → Int32} {Q : Option Value → aH → Prop}
theorem thS_37 {nd s : Nat} {v : Int32} (h : thS nd D s I) : thS nd D s (u2 I 0 37 v) :=
  ⟨(uu_ne _ _ _ _ (by omega)).trans h.1, (uu_ne _ _ _ _ (by omega)).trans h.2.1, fun j hj => ⟨(uu_ne _ _ _ _ (by omega)).trans (h.2.2 j hj).1, (uu_ne _ _ _ _ (by omega)).trans (h.2.2 j hj).2⟩⟩
theorem k176l (hd : 4 ≤ d) {j : Nat} (hj : j < 4) {v : Nat × Nat × Int32} (H : ∀ I', RM T0 Z D tx tp so sz it (n, t, sh, I', L, R) → thS (Z 1) D v.2.1 I' → v.2.1 < 6144 → I' 0 37 = v.2.2 → Q (some (.int (nI v.1))) (n, t, sh, I', L, R)) :
    ∀ m i s c I l3, i + m = sz j → l3.category = 1 → RM T0 Z D tx tp so sz it (n, t, sh, I, L, R) → thS (Z 1) D s I → s < 6144 → I 0 37 = c → rwT Z D tx (it j) m i s c = v →
    aE (a_cl_ d) 176 (7, [.ref 0, .int (nI j), .int (nI i), l3], [], (n, t, sh, I, L, R)) Q := by
  intro m
  induction m with
  | zero =>
    intro i s c I l3 hi hc3 hk hT hs hc hv
    obtain rfl : i = sz j := by omega
    have hM := hk.2.2.1
    simp only [] at hM
    have m0 := mm_0 hM; have x22 := mm_x22 hM; have y22 := mm_y22 hM; have r45 := mm_r45 hM
    have s22 := (hk.2.2.2.2.2.2.2.2.2.2.2.1 j hj).2.1
    simp only [] at s22
    have p2 := (hk.1.2.2.2.2.2.2 j hj).2.1
    simp only [rwT] at hv
    subst hv
    have qq := H I hk hT hs hc
    rw [e176_7]
    simp (disch := first | assumption | exact ct_i | exact ct_r | exact ct_n | exact ct_h | omega | exact z_in (by omega) (by omega) | exact b01 | exact Or.inl rfl | exact Or.inr rfl) only [e176_0, e176_1, e176_2, e176_5, e176_6, e176_8, e176_9, e176_12, e176_13, e176_14, e176_17, e176_18, e176_21, e176_23, e176_24, e176_25, e176_26, e176_27, e176_28, e176_29, e176_30, e176_31, e176_34, e176_37, e176_38, e176_39, e176_40, e176_41, e176_44, e176_45, e176_46, e176_49, e176_50, e176_53, e176_54, e176_55, e176_58, e176_61, e176_64, e176_65, e176_68, e176_69, e176_70, ct_i, ct_r, ct_n, ct_h, opt_v, opt_s, ref_s, ref_n, eq_self_iff_true, true_or, or_true, zl0, zl1, zl2, zl3, zl4, zl5, zl6, zl7, zl8, zl9, zl10, zl16, zl32, zl40, zl100, zl160, zIc1, zI_lt, zI_le, nI_eq, nI_add, z_sub, nI_clamp, zI_of, uu_eq, uu_ne, Nat.reduceLT, Nat.reduceLeDiff, Nat.reduceEqDiff, Nat.reduceAdd, Nat.reduceSub, Nat.reduceMul, Nat.not_lt_zero, Nat.lt_irrefl, Nat.le_refl, Bool.false_eq_true, false_and, and_false, true_and, and_true, if_pos, if_neg, if_true, if_false, not_true_eq_false, not_false_eq_true, m0, x22, y22, r45, s22]
    exact qq
  | succ m ih =>
    intro i s c I l3 hi hc3 hk hT hs hc hv
    have hM := hk.2.2.1
    simp only [] at hM
    have m0 := mm_0 hM; have x22 := mm_x22 hM; have y22 := mm_y22 hM; have r45 := mm_r45 hM; have x23 := mm_x23 hM; have y23 := mm_y23 hM; have r46 := mm_r46 hM
    obtain ⟨_, s22, s23⟩ := hk.2.2.2.2.2.2.2.2.2.2.2.1 j hj
    simp only [] at s22 s23
    have p2 := (hk.1.2.2.2.2.2.2 j hj).2.1
    have hlt : i < sz j := by omega
    have g23 := s23 i (by omega)
    have h160 : 40 * j + i < 160 := by omega
    have hm1 := RM_B hk
    have hBd := hm1.2.2.2.1
    simp only [rwT] at hv
    rw [e176_7]
    simp (disch := first | assumption | exact ct_i | exact ct_r | exact ct_n | exact ct_h | omega | exact z_in (by omega) (by omega) | exact b01 | exact Or.inl rfl | exact Or.inr rfl) only [e176_0, e176_1, e176_2, e176_5, e176_6, e176_8, e176_9, e176_12, e176_13, e176_14, e176_17, e176_18, e176_21, e176_23, e176_24, e176_25, e176_26, e176_27, e176_28, e176_29, e176_30, e176_31, e176_34, e176_37, e176_38, e176_39, e176_40, e176_41, e176_44, e176_45, e176_46, e176_49, e176_50, e176_53, e176_54, e176_55, e176_58, e176_61, e176_64, e176_65, e176_68, e176_69, e176_70, ct_i, ct_r, ct_n, ct_h, opt_v, opt_s, ref_s, ref_n, eq_self_iff_true, true_or, or_true, zl0, zl1, zl2, zl3, zl4, zl5, zl6, zl7, zl8, zl9, zl10, zl16, zl32, zl40, zl100, zl160, zIc1, zI_lt, zI_le, nI_eq, nI_add, z_sub, nI_clamp, zI_of, uu_eq, uu_ne, Nat.reduceLT, Nat.reduceLeDiff, Nat.reduceEqDiff, Nat.reduceAdd, Nat.reduceSub, Nat.reduceMul, Nat.not_lt_zero, Nat.lt_irrefl, Nat.le_refl, Bool.false_eq_true, false_and, and_false, true_and, and_true, if_pos, if_neg, if_true, if_false, not_true_eq_false, not_false_eq_true, zI_mul, m0, x22, y22, r45, x23, y23, r46, s22, g23]
    refine k134 hd hm1 hT hs (fun I1 hf1 => ?_)
    have hk1 := RM_fr hk (frW_M hf1)
    have hT1 := thS_W hT hf1
    have hc1 : I1 0 37 = c := (hf1 _ _ (by omega)).trans hc
    have eg : gN (Z 1) D (tx (Z 4)) s (it j i) = gI Z D tx s (it j i) := rfl
    rw [eg]
    cases hg : gI Z D tx s (it j i) with
    | none =>
      rw [hg] at hv
      simp only [] at hv
      subst hv
      have qq := H I1 hk1 hT1 hs hc1
      simp only [Option.isSome_none, Bool.false_eq_true, if_false]
      simp (disch := first | assumption | exact ct_i | exact ct_r | exact ct_n | exact ct_h | omega | exact z_in (by omega) (by omega) | exact b01 | exact Or.inl rfl | exact Or.inr rfl) only [e176_0, e176_1, e176_2, e176_5, e176_6, e176_8, e176_9, e176_12, e176_13, e176_14, e176_17, e176_18, e176_21, e176_23, e176_24, e176_25, e176_26, e176_27, e176_28, e176_29, e176_30, e176_31, e176_34, e176_37, e176_38, e176_39, e176_40, e176_41, e176_44, e176_45, e176_46, e176_49, e176_50, e176_53, e176_54, e176_55, e176_58, e176_61, e176_64, e176_65, e176_68, e176_69, e176_70, ct_i, ct_r, ct_n, ct_h, opt_v, opt_s, ref_s, ref_n, eq_self_iff_true, true_or, or_true, zl0, zl1, zl2, zl3, zl4, zl5, zl6, zl7, zl8, zl9, zl10, zl16, zl32, zl40, zl100, zl160, zIc1, zI_lt, zI_le, nI_eq, nI_add, z_sub, nI_clamp, zI_of, uu_eq, uu_ne, Nat.reduceLT, Nat.reduceLeDiff, Nat.reduceEqDiff, Nat.reduceAdd, Nat.reduceSub, Nat.reduceMul, Nat.not_lt_zero, Nat.lt_irrefl, Nat.le_refl, Bool.false_eq_true, false_and, and_false, true_and, and_true, if_pos, if_neg, if_true, if_false, not_true_eq_false, not_false_eq_true, m0]
      exact qq
    | some s' =>
      rw [hg] at hv
      simp only [] at hv
      simp only [Option.isSome_some, if_true]
      obtain ⟨e, he, hbe, hxe⟩ : ∃ e, e < Z 1 ∧ bh (Z 1) D (tx (Z 4)) s e = some s' ∧ it j i = nI e := by
        unfold gI at hg
        cases hx : dec (it j i) (Z 1) with
        | none => rw [hx] at hg; cases hg
        | some e =>
          rw [hx] at hg
          obtain ⟨h1, h2⟩ := dec_some (by have := hk.1.2.1.1; omega) hx
          exact ⟨e, h2, hg, h1⟩
      have hcI : cI Z D tx s (it j i) = cst (Z 1) D (tx (Z 4)) s e := by
        unfold cI
        rw [hxe, dec_nI he (by have := hk.1.2.1.1; omega)]
      have hs'a : s' = aft D s e := by
        unfold bh at hbe
        split at hbe
        · cases hbe; rfl
        · cases hbe
      have hs' := bh_lt hBd hbe
      rw [hxe]
      simp (disch := first | assumption | exact ct_i | exact ct_r | exact ct_n | exact ct_h | omega | exact z_in (by omega) (by omega) | exact b01 | exact Or.inl rfl | exact Or.inr rfl) only [e176_0, e176_1, e176_2, e176_5, e176_6, e176_8, e176_9, e176_12, e176_13, e176_14, e176_17, e176_18, e176_21, e176_23, e176_24, e176_25, e176_26, e176_27, e176_28, e176_29, e176_30, e176_31, e176_34, e176_37, e176_38, e176_39, e176_40, e176_41, e176_44, e176_45, e176_46, e176_49, e176_50, e176_53, e176_54, e176_55, e176_58, e176_61, e176_64, e176_65, e176_68, e176_69, e176_70, ct_i, ct_r, ct_n, ct_h, opt_v, opt_s, ref_s, ref_n, eq_self_iff_true, true_or, or_true, zl0, zl1, zl2, zl3, zl4, zl5, zl6, zl7, zl8, zl9, zl10, zl16, zl32, zl40, zl100, zl160, zIc1, zI_lt, zI_le, nI_eq, nI_add, z_sub, nI_clamp, zI_of, uu_eq, uu_ne, Nat.reduceLT, Nat.reduceLeDiff, Nat.reduceEqDiff, Nat.reduceAdd, Nat.reduceSub, Nat.reduceMul, Nat.not_lt_zero, Nat.lt_irrefl, Nat.le_refl, Bool.false_eq_true, false_and, and_false, true_and, and_true, if_pos, if_neg, if_true, if_false, not_true_eq_false, not_false_eq_true, m0, hc1]
      refine k177 (by omega) (RM_B hk1) hT1 hs he (fun I2 hf2 => ?_)
      have hk2 := RM_fr hk1 (frW_M hf2)
      simp (disch := first | assumption | exact ct_i | exact ct_r | exact ct_n | exact ct_h | omega | exact z_in (by omega) (by omega) | exact b01 | exact Or.inl rfl | exact Or.inr rfl) only [e176_0, e176_1, e176_2, e176_5, e176_6, e176_8, e176_9, e176_12, e176_13, e176_14, e176_17, e176_18, e176_21, e176_23, e176_24, e176_25, e176_26, e176_27, e176_28, e176_29, e176_30, e176_31, e176_34, e176_37, e176_38, e176_39, e176_40, e176_41, e176_44, e176_45, e176_46, e176_49, e176_50, e176_53, e176_54, e176_55, e176_58, e176_61, e176_64, e176_65, e176_68, e176_69, e176_70, ct_i, ct_r, ct_n, ct_h, opt_v, opt_s, ref_s, ref_n, eq_self_iff_true, true_or, or_true, zl0, zl1, zl2, zl3, zl4, zl5, zl6, zl7, zl8, zl9, zl10, zl16, zl32, zl40, zl100, zl160, zIc1, zI_lt, zI_le, nI_eq, nI_add, z_sub, nI_clamp, zI_of, uu_eq, uu_ne, Nat.reduceLT, Nat.reduceLeDiff, Nat.reduceEqDiff, Nat.reduceAdd, Nat.reduceSub, Nat.reduceMul, Nat.not_lt_zero, Nat.lt_irrefl, Nat.le_refl, Bool.false_eq_true, false_and, and_false, true_and, and_true, if_pos, if_neg, if_true, if_false, not_true_eq_false, not_false_eq_true, m0]
      have hk3 := RM_fr (I' := u2 I2 0 37 (c + cst (Z 1) D (tx (Z 4)) s e)) hk2 (frM_u (frM_0 _) (by unfold scM; omega))
      refine k159 (by omega) (RM_B hk3) (thS_37 (thS_W hT1 hf2)) hs he (fun I4 hf4 hT4 => ?_)
      rw [hcI, hs'a] at hv
      simp (disch := first | assumption | exact ct_i | exact ct_r | exact ct_n | exact ct_h | omega | exact z_in (by omega) (by omega) | exact b01 | exact Or.inl rfl | exact Or.inr rfl) only [e176_0, e176_1, e176_2, e176_5, e176_6, e176_8, e176_9, e176_12, e176_13, e176_14, e176_17, e176_18, e176_21, e176_23, e176_24, e176_25, e176_26, e176_27, e176_28, e176_29, e176_30, e176_31, e176_34, e176_37, e176_38, e176_39, e176_40, e176_41, e176_44, e176_45, e176_46, e176_49, e176_50, e176_53, e176_54, e176_55, e176_58, e176_61, e176_64, e176_65, e176_68, e176_69, e176_70, ct_i, ct_r, ct_n, ct_h, opt_v, opt_s, ref_s, ref_n, eq_self_iff_true, true_or, or_true, zl0, zl1, zl2, zl3, zl4, zl5, zl6, zl7, zl8, zl9, zl10, zl16, zl32, zl40, zl100, zl160, zIc1, zI_lt, zI_le, nI_eq, nI_add, z_sub, nI_clamp, zI_of, uu_eq, uu_ne, Nat.reduceLT, Nat.reduceLeDiff, Nat.reduceEqDiff, Nat.reduceAdd, Nat.reduceSub, Nat.reduceMul, Nat.not_lt_zero, Nat.lt_irrefl, Nat.le_refl, Bool.false_eq_true, false_and, and_false, true_and, and_true, if_pos, if_neg, if_true, if_false, not_true_eq_false, not_false_eq_true]
      refine ih (i + 1) _ _ I4 _ (by omega) rfl (RM_fr hk3 (frK_M hf4)) hT4 (by rw [← hs'a]; exact hs') ?_ hv
      rw [hf4 _ _ (by omega), uu_eq]
theorem k176 (hd : 5 ≤ d) {j s : Nat} (hj : j < 4) (hk : RM T0 Z D tx tp so sz it (n, t, sh, I, L, R)) (hT : thS (Z 1) D s I) (hs : s < 6144)
    (H : ∀ I', RM T0 Z D tx tp so sz it (n, t, sh, I', L, R) → thS (Z 1) D (rwS Z D tx (it j) (sz j) s).2.1 I' → (rwS Z D tx (it j) (sz j) s).2.1 < 6144 → I' 0 37 = (rwS Z D tx (it j) (sz j) s).2.2 → Q (some (.int (nI (rwS Z D tx (it j) (sz j) s).1))) (n, t, sh, I', L, R)) : aC d 176 [.ref 0, .int (nI j)] (n, t, sh, I, L, R) Q := by
  obtain ⟨d, rfl⟩ : ∃ e, d = e + 1 := ⟨d - 1, by omega⟩
  have m0 := mm_0 hk.2.2.1
  simp only [] at m0
  simp (disch := first | assumption | exact ct_i | exact ct_r | exact ct_n | exact ct_h | omega | exact z_in (by omega) (by omega) | exact b01 | exact Or.inl rfl | exact Or.inr rfl) only [b176, e176_0, e176_1, e176_2, e176_5, e176_6, e176_8, e176_9, e176_12, e176_13, e176_14, e176_17, e176_18, e176_21, e176_23, e176_24, e176_25, e176_26, e176_27, e176_28, e176_29, e176_30, e176_31, e176_34, e176_37, e176_38, e176_39, e176_40, e176_41, e176_44, e176_45, e176_46, e176_49, e176_50, e176_53, e176_54, e176_55, e176_58, e176_61, e176_64, e176_65, e176_68, e176_69, e176_70, ct_i, ct_r, ct_n, ct_h, opt_v, opt_s, ref_s, ref_n, eq_self_iff_true, true_or, or_true, zl0, zl1, zl2, zl3, zl4, zl5, zl6, zl7, zl8, zl9, zl10, zl16, zl32, zl40, zl100, zl160, zIc1, zI_lt, zI_le, nI_eq, nI_add, z_sub, nI_clamp, zI_of, uu_eq, uu_ne, Nat.reduceLT, Nat.reduceLeDiff, Nat.reduceEqDiff, Nat.reduceAdd, Nat.reduceSub, Nat.reduceMul, Nat.not_lt_zero, Nat.lt_irrefl, Nat.le_refl, Bool.false_eq_true, false_and, and_false, true_and, and_true, if_pos, if_neg, if_true, if_false, not_true_eq_false, not_false_eq_true, m0]
  exact k176l (by omega) hj H (sz j) 0 s (nI 0) _ a_hole (by omega) rfl (RM_fr hk (frM_u (frM_0 _) (by unfold scM; omega))) (thS_37 hT) hs (uu_eq _ _ _ _) rfl
theorem rwM_le {a : Nat → Int32} : ∀ m i s c, (rwT Z D tx a m i s c).1 ≤ i + m
  | 0, i, s, c => Nat.le_refl _
  | m + 1, i, s, c => by
    simp only [rwT]
    cases gI Z D tx s (a i) with
    | none => simp only []; omega
    | some s' => have := rwM_le (a := a) m (i + 1) s' (c + cI Z D tx s (a i)); simp only []; omega
theorem k174 (hd : 7 ≤ d) (hk : RM T0 Z D tx tp so sz it (n, t, sh, I, L, R)) {x : Int32} (H : ∀ h', RMh T0 Z D tx tp so sz it h' → Q (some (.int (judS Z D tx so sz it x))) h') : aC d 174 [.ref 0, .int x] (n, t, sh, I, L, R) Q := by
  obtain ⟨d, rfl⟩ : ∃ e, d = e + 1 := ⟨d - 1, by omega⟩
  have hM := hk.2.2.1
  simp only [] at hM
  have m0 := mm_0 hM; have x21 := mm_x21 hM; have y21 := mm_y21 hM; have r44 := mm_r44 hM; have x22 := mm_x22 hM; have y22 := mm_y22 hM; have r45 := mm_r45 hM
  have e1 := fun Q => k175 (Q := Q) (n := n) (t := t) (sh := sh) (I := I) (L := L) (R := R) (show 2 ≤ d by omega) (x := x)
  unfold judS at H
  cases hx : dec x 4 with
  | none =>
    simp only [hx] at H
    have q := H _ hk.2
    simp only [hx, Option.isSome_none, Bool.false_eq_true, if_false] at e1
    simp (disch := first | assumption | exact ct_i | exact ct_r | exact ct_n | exact ct_h | omega | exact z_in (by omega) (by omega) | exact b01 | exact Or.inl rfl | exact Or.inr rfl) only [b174, e174_0, e174_1, e174_4, e174_7, e174_9, e174_10, e174_11, e174_14, e174_15, e174_16, e174_19, e174_21, e174_22, e174_23, e174_26, e174_27, e174_28, e174_31, e174_32, e174_33, e174_34, e174_37, e174_38, e174_39, e174_42, e174_43, e174_46, e174_47, ct_i, ct_r, ct_n, ct_h, opt_v, opt_s, ref_s, ref_n, eq_self_iff_true, true_or, or_true, zl0, zl1, zl2, zl3, zl4, zl5, zl6, zl7, zl8, zl9, zl10, zl16, zl32, zl40, zl100, zl160, zIc1, zI_lt, zI_le, nI_eq, nI_add, z_sub, nI_clamp, zI_of, uu_eq, uu_ne, Nat.reduceLT, Nat.reduceLeDiff, Nat.reduceEqDiff, Nat.reduceAdd, Nat.reduceSub, Nat.reduceMul, Nat.not_lt_zero, Nat.lt_irrefl, Nat.le_refl, Bool.false_eq_true, false_and, and_false, true_and, and_true, if_pos, if_neg, if_true, if_false, not_true_eq_false, not_false_eq_true, m0, e1]
    exact q
  | some j =>
    obtain ⟨rfl, hj⟩ := dec_some (by omega) hx
    simp only [hx] at H
    simp only [hx, Option.isSome_some, if_true] at e1
    obtain ⟨s21, _, _⟩ := hk.2.2.2.2.2.2.2.2.2.2.2.1 j hj
    simp only [] at s21
    obtain ⟨p1, p2, p3⟩ := hk.1.2.2.2.2.2.2 j hj
    by_cases h0 : so j = 0
    · rw [if_pos h0] at H
      have q := H _ hk.2
      have g : I 21 j = -nI 1 := by rw [s21, h0]; rfl
      have hneg2 : ¬ nI 0 ≤ -nI 1 := by decide
      simp (disch := first | assumption | exact ct_i | exact ct_r | exact ct_n | exact ct_h | omega | exact z_in (by omega) (by omega) | exact b01 | exact Or.inl rfl | exact Or.inr rfl) only [b174, e174_0, e174_1, e174_4, e174_7, e174_9, e174_10, e174_11, e174_14, e174_15, e174_16, e174_19, e174_21, e174_22, e174_23, e174_26, e174_27, e174_28, e174_31, e174_32, e174_33, e174_34, e174_37, e174_38, e174_39, e174_42, e174_43, e174_46, e174_47, ct_i, ct_r, ct_n, ct_h, opt_v, opt_s, ref_s, ref_n, eq_self_iff_true, true_or, or_true, zl0, zl1, zl2, zl3, zl4, zl5, zl6, zl7, zl8, zl9, zl10, zl16, zl32, zl40, zl100, zl160, zIc1, zI_lt, zI_le, nI_eq, nI_add, z_sub, nI_clamp, zI_of, uu_eq, uu_ne, Nat.reduceLT, Nat.reduceLeDiff, Nat.reduceEqDiff, Nat.reduceAdd, Nat.reduceSub, Nat.reduceMul, Nat.not_lt_zero, Nat.lt_irrefl, Nat.le_refl, Bool.false_eq_true, false_and, and_false, true_and, and_true, if_pos, if_neg, if_true, if_false, not_true_eq_false, not_false_eq_true, m0, x21, y21, r44, e1, g, hneg2]
      exact q
    · rw [if_neg h0] at H
      obtain ⟨c, hc⟩ : ∃ c, so j = c + 1 := ⟨so j - 1, by omega⟩
      have g : I 21 j = nI c := by rw [s21, hc]; rfl
      have hc4 : c < 4 := by omega
      simp (disch := first | assumption | exact ct_i | exact ct_r | exact ct_n | exact ct_h | omega | exact z_in (by omega) (by omega) | exact b01 | exact Or.inl rfl | exact Or.inr rfl) only [b174, e174_0, e174_1, e174_4, e174_7, e174_9, e174_10, e174_11, e174_14, e174_15, e174_16, e174_19, e174_21, e174_22, e174_23, e174_26, e174_27, e174_28, e174_31, e174_32, e174_33, e174_34, e174_37, e174_38, e174_39, e174_42, e174_43, e174_46, e174_47, ct_i, ct_r, ct_n, ct_h, opt_v, opt_s, ref_s, ref_n, eq_self_iff_true, true_or, or_true, zl0, zl1, zl2, zl3, zl4, zl5, zl6, zl7, zl8, zl9, zl10, zl16, zl32, zl40, zl100, zl160, zIc1, zI_lt, zI_le, nI_eq, nI_add, z_sub, nI_clamp, zI_of, uu_eq, uu_ne, Nat.reduceLT, Nat.reduceLeDiff, Nat.reduceEqDiff, Nat.reduceAdd, Nat.reduceSub, Nat.reduceMul, Nat.not_lt_zero, Nat.lt_irrefl, Nat.le_refl, Bool.false_eq_true, false_and, and_false, true_and, and_true, if_pos, if_neg, if_true, if_false, not_true_eq_false, not_false_eq_true, m0, x21, y21, r44, e1, g]
      refine kAs (by omega) hk (fun I1 ee hf hT => ?_)
      have hk1 := RM_fr hk hf
      simp (disch := first | assumption | exact ct_i | exact ct_r | exact ct_n | exact ct_h | omega | exact z_in (by omega) (by omega) | exact b01 | exact Or.inl rfl | exact Or.inr rfl) only [e174_0, e174_1, e174_4, e174_7, e174_9, e174_10, e174_11, e174_14, e174_15, e174_16, e174_19, e174_21, e174_22, e174_23, e174_26, e174_27, e174_28, e174_31, e174_32, e174_33, e174_34, e174_37, e174_38, e174_39, e174_42, e174_43, e174_46, e174_47, ct_i, ct_r, ct_n, ct_h, opt_v, opt_s, ref_s, ref_n, eq_self_iff_true, true_or, or_true, zl0, zl1, zl2, zl3, zl4, zl5, zl6, zl7, zl8, zl9, zl10, zl16, zl32, zl40, zl100, zl160, zIc1, zI_lt, zI_le, nI_eq, nI_add, z_sub, nI_clamp, zI_of, uu_eq, uu_ne, Nat.reduceLT, Nat.reduceLeDiff, Nat.reduceEqDiff, Nat.reduceAdd, Nat.reduceSub, Nat.reduceMul, Nat.not_lt_zero, Nat.lt_irrefl, Nat.le_refl, Bool.false_eq_true, false_and, and_false, true_and, and_true, if_pos, if_neg, if_true, if_false, not_true_eq_false, not_false_eq_true, m0]
      refine k176 (by omega) hj hk1 hT hk.1.2.2.1.1 (fun I2 hk2 hT2 hs2 hc2 => ?_)
      have q := H _ hk2.2
      have s22 := (hk2.2.2.2.2.2.2.2.2.2.2.2.1 j hj).2.1
      simp only [] at s22
      have hle : (rwS Z D tx (it j) (sz j) (Z 2)).1 ≤ 0 + sz j := rwM_le _ _ _ _
      by_cases he : (rwS Z D tx (it j) (sz j) (Z 2)).1 = sz j
      · rw [if_pos he] at q
        simp (disch := first | assumption | exact ct_i | exact ct_r | exact ct_n | exact ct_h | omega | exact z_in (by omega) (by omega) | exact b01 | exact Or.inl rfl | exact Or.inr rfl) only [e174_0, e174_1, e174_4, e174_7, e174_9, e174_10, e174_11, e174_14, e174_15, e174_16, e174_19, e174_21, e174_22, e174_23, e174_26, e174_27, e174_28, e174_31, e174_32, e174_33, e174_34, e174_37, e174_38, e174_39, e174_42, e174_43, e174_46, e174_47, ct_i, ct_r, ct_n, ct_h, opt_v, opt_s, ref_s, ref_n, eq_self_iff_true, true_or, or_true, zl0, zl1, zl2, zl3, zl4, zl5, zl6, zl7, zl8, zl9, zl10, zl16, zl32, zl40, zl100, zl160, zIc1, zI_lt, zI_le, nI_eq, nI_add, z_sub, nI_clamp, zI_of, uu_eq, uu_ne, Nat.reduceLT, Nat.reduceLeDiff, Nat.reduceEqDiff, Nat.reduceAdd, Nat.reduceSub, Nat.reduceMul, Nat.not_lt_zero, Nat.lt_irrefl, Nat.le_refl, Bool.false_eq_true, false_and, and_false, true_and, and_true, if_pos, if_neg, if_true, if_false, not_true_eq_false, not_false_eq_true, m0, x22, y22, r45, s22, he]
        exact q
      · rw [if_neg he] at q
        simp (disch := first | assumption | exact ct_i | exact ct_r | exact ct_n | exact ct_h | omega | exact z_in (by omega) (by omega) | exact b01 | exact Or.inl rfl | exact Or.inr rfl) only [e174_0, e174_1, e174_4, e174_7, e174_9, e174_10, e174_11, e174_14, e174_15, e174_16, e174_19, e174_21, e174_22, e174_23, e174_26, e174_27, e174_28, e174_31, e174_32, e174_33, e174_34, e174_37, e174_38, e174_39, e174_42, e174_43, e174_46, e174_47, ct_i, ct_r, ct_n, ct_h, opt_v, opt_s, ref_s, ref_n, eq_self_iff_true, true_or, or_true, zl0, zl1, zl2, zl3, zl4, zl5, zl6, zl7, zl8, zl9, zl10, zl16, zl32, zl40, zl100, zl160, zIc1, zI_lt, zI_le, nI_eq, nI_add, z_sub, nI_clamp, zI_of, uu_eq, uu_ne, Nat.reduceLT, Nat.reduceLeDiff, Nat.reduceEqDiff, Nat.reduceAdd, Nat.reduceSub, Nat.reduceMul, Nat.not_lt_zero, Nat.lt_irrefl, Nat.le_refl, Bool.false_eq_true, false_and, and_false, true_and, and_true, if_pos, if_neg, if_true, if_false, not_true_eq_false, not_false_eq_true, m0, x22, y22, r45, s22, he]
        exact q
theorem k178 (hd : 7 ≤ d) (hk : RM T0 Z D tx tp so sz it (n, t, sh, I, L, R)) {x w : Int32} (H : ∀ h', RMh T0 Z D tx tp so sz it h' → Q (some (.int (rowS Z D tx so sz it x w))) h') : aC d 178 [.ref 0, .int x, .int w] (n, t, sh, I, L, R) Q := by
  obtain ⟨d, rfl⟩ : ∃ e, d = e + 1 := ⟨d - 1, by omega⟩
  have hM := hk.2.2.1
  simp only [] at hM
  have m0 := mm_0 hM; have x21 := mm_x21 hM; have y21 := mm_y21 hM; have r44 := mm_r44 hM; have x22 := mm_x22 hM; have y22 := mm_y22 hM; have r45 := mm_r45 hM
  have e1 := fun Q => k175 (Q := Q) (n := n) (t := t) (sh := sh) (I := I) (L := L) (R := R) (show 2 ≤ d by omega) (x := x)
  unfold rowS at H
  cases hx : dec x 4 with
  | none =>
    simp only [hx] at H
    have q := H _ hk.2
    simp only [hx, Option.isSome_none, Bool.false_eq_true, if_false] at e1
    simp (disch := first | assumption | exact ct_i | exact ct_r | exact ct_n | exact ct_h | omega | exact z_in (by omega) (by omega) | exact b01 | exact Or.inl rfl | exact Or.inr rfl) only [b178, e178_0, e178_1, e178_4, e178_7, e178_8, e178_9, e178_10, e178_11, e178_14, e178_17, e178_19, e178_20, e178_21, e178_24, e178_25, e178_26, e178_29, e178_31, e178_32, e178_33, e178_36, e178_37, e178_38, e178_41, e178_42, e178_43, e178_46, e178_47, e178_50, e178_53, e178_54, e178_57, ct_i, ct_r, ct_n, ct_h, opt_v, opt_s, ref_s, ref_n, eq_self_iff_true, true_or, or_true, zl0, zl1, zl2, zl3, zl4, zl5, zl6, zl7, zl8, zl9, zl10, zl16, zl32, zl40, zl100, zl160, zIc1, zI_lt, zI_le, nI_eq, nI_add, z_sub, nI_clamp, zI_of, uu_eq, uu_ne, Nat.reduceLT, Nat.reduceLeDiff, Nat.reduceEqDiff, Nat.reduceAdd, Nat.reduceSub, Nat.reduceMul, Nat.not_lt_zero, Nat.lt_irrefl, Nat.le_refl, Bool.false_eq_true, false_and, and_false, true_and, and_true, if_pos, if_neg, if_true, if_false, not_true_eq_false, not_false_eq_true, m0, e1]
    exact q
  | some j =>
    obtain ⟨rfl, hj⟩ := dec_some (by omega) hx
    simp only [hx, Option.isSome_some, if_true] at e1
    obtain ⟨s21, _, _⟩ := hk.2.2.2.2.2.2.2.2.2.2.2.1 j hj
    simp only [] at s21
    obtain ⟨p1, p2, p3⟩ := hk.1.2.2.2.2.2.2 j hj
    cases hw : dec w 2 with
    | none =>
      simp only [hx, hw] at H
      have q := H _ hk.2
      simp (disch := first | assumption | exact ct_i | exact ct_r | exact ct_n | exact ct_h | omega | exact z_in (by omega) (by omega) | exact b01 | exact Or.inl rfl | exact Or.inr rfl) only [b178, e178_0, e178_1, e178_4, e178_7, e178_8, e178_9, e178_10, e178_11, e178_14, e178_17, e178_19, e178_20, e178_21, e178_24, e178_25, e178_26, e178_29, e178_31, e178_32, e178_33, e178_36, e178_37, e178_38, e178_41, e178_42, e178_43, e178_46, e178_47, e178_50, e178_53, e178_54, e178_57, ct_i, ct_r, ct_n, ct_h, opt_v, opt_s, ref_s, ref_n, eq_self_iff_true, true_or, or_true, zl0, zl1, zl2, zl3, zl4, zl5, zl6, zl7, zl8, zl9, zl10, zl16, zl32, zl40, zl100, zl160, zIc1, zI_lt, zI_le, nI_eq, nI_add, z_sub, nI_clamp, zI_of, uu_eq, uu_ne, Nat.reduceLT, Nat.reduceLeDiff, Nat.reduceEqDiff, Nat.reduceAdd, Nat.reduceSub, Nat.reduceMul, Nat.not_lt_zero, Nat.lt_irrefl, Nat.le_refl, Bool.false_eq_true, false_and, and_false, true_and, and_true, if_pos, if_neg, if_true, if_false, not_true_eq_false, not_false_eq_true, m0, e1, ll0, ll1, k118 (show 1 ≤ d by omega), in_d2, hw, Option.isSome_none, Bool.false_eq_true, if_false]
      exact q
    | some k =>
      obtain ⟨rfl, hk2⟩ := dec_some (by omega) hw
      simp only [hx, hw] at H
      by_cases h0 : so j = 0
      · rw [if_pos h0] at H
        have q := H _ hk.2
        have g : I 21 j = -nI 1 := by rw [s21, h0]; rfl
        have hneg2 : ¬ nI 0 ≤ -nI 1 := by decide
        simp (disch := first | assumption | exact ct_i | exact ct_r | exact ct_n | exact ct_h | omega | exact z_in (by omega) (by omega) | exact b01 | exact Or.inl rfl | exact Or.inr rfl) only [b178, e178_0, e178_1, e178_4, e178_7, e178_8, e178_9, e178_10, e178_11, e178_14, e178_17, e178_19, e178_20, e178_21, e178_24, e178_25, e178_26, e178_29, e178_31, e178_32, e178_33, e178_36, e178_37, e178_38, e178_41, e178_42, e178_43, e178_46, e178_47, e178_50, e178_53, e178_54, e178_57, ct_i, ct_r, ct_n, ct_h, opt_v, opt_s, ref_s, ref_n, eq_self_iff_true, true_or, or_true, zl0, zl1, zl2, zl3, zl4, zl5, zl6, zl7, zl8, zl9, zl10, zl16, zl32, zl40, zl100, zl160, zIc1, zI_lt, zI_le, nI_eq, nI_add, z_sub, nI_clamp, zI_of, uu_eq, uu_ne, Nat.reduceLT, Nat.reduceLeDiff, Nat.reduceEqDiff, Nat.reduceAdd, Nat.reduceSub, Nat.reduceMul, Nat.not_lt_zero, Nat.lt_irrefl, Nat.le_refl, Bool.false_eq_true, false_and, and_false, true_and, and_true, if_pos, if_neg, if_true, if_false, not_true_eq_false, not_false_eq_true, m0, x21, y21, r44, e1, g, hneg2, ll0, ll1, k118 (show 1 ≤ d by omega), in_d2, hw, Option.isSome_some]
        exact q
      · rw [if_neg h0] at H
        obtain ⟨c, hc⟩ : ∃ c, so j = c + 1 := ⟨so j - 1, by omega⟩
        have g : I 21 j = nI c := by rw [s21, hc]; rfl
        have hc4 : c < 4 := by omega
        simp (disch := first | assumption | exact ct_i | exact ct_r | exact ct_n | exact ct_h | omega | exact z_in (by omega) (by omega) | exact b01 | exact Or.inl rfl | exact Or.inr rfl) only [b178, e178_0, e178_1, e178_4, e178_7, e178_8, e178_9, e178_10, e178_11, e178_14, e178_17, e178_19, e178_20, e178_21, e178_24, e178_25, e178_26, e178_29, e178_31, e178_32, e178_33, e178_36, e178_37, e178_38, e178_41, e178_42, e178_43, e178_46, e178_47, e178_50, e178_53, e178_54, e178_57, ct_i, ct_r, ct_n, ct_h, opt_v, opt_s, ref_s, ref_n, eq_self_iff_true, true_or, or_true, zl0, zl1, zl2, zl3, zl4, zl5, zl6, zl7, zl8, zl9, zl10, zl16, zl32, zl40, zl100, zl160, zIc1, zI_lt, zI_le, nI_eq, nI_add, z_sub, nI_clamp, zI_of, uu_eq, uu_ne, Nat.reduceLT, Nat.reduceLeDiff, Nat.reduceEqDiff, Nat.reduceAdd, Nat.reduceSub, Nat.reduceMul, Nat.not_lt_zero, Nat.lt_irrefl, Nat.le_refl, Bool.false_eq_true, false_and, and_false, true_and, and_true, if_pos, if_neg, if_true, if_false, not_true_eq_false, not_false_eq_true, m0, x21, y21, r44, e1, g, ll0, ll1, k118 (show 1 ≤ d by omega), in_d2, hw, Option.isSome_some]
        refine kAs (by omega) hk (fun I1 ee hf hT => ?_)
        have hk1 := RM_fr hk hf
        simp (disch := first | assumption | exact ct_i | exact ct_r | exact ct_n | exact ct_h | omega | exact z_in (by omega) (by omega) | exact b01 | exact Or.inl rfl | exact Or.inr rfl) only [e178_0, e178_1, e178_4, e178_7, e178_8, e178_9, e178_10, e178_11, e178_14, e178_17, e178_19, e178_20, e178_21, e178_24, e178_25, e178_26, e178_29, e178_31, e178_32, e178_33, e178_36, e178_37, e178_38, e178_41, e178_42, e178_43, e178_46, e178_47, e178_50, e178_53, e178_54, e178_57, ct_i, ct_r, ct_n, ct_h, opt_v, opt_s, ref_s, ref_n, eq_self_iff_true, true_or, or_true, zl0, zl1, zl2, zl3, zl4, zl5, zl6, zl7, zl8, zl9, zl10, zl16, zl32, zl40, zl100, zl160, zIc1, zI_lt, zI_le, nI_eq, nI_add, z_sub, nI_clamp, zI_of, uu_eq, uu_ne, Nat.reduceLT, Nat.reduceLeDiff, Nat.reduceEqDiff, Nat.reduceAdd, Nat.reduceSub, Nat.reduceMul, Nat.not_lt_zero, Nat.lt_irrefl, Nat.le_refl, Bool.false_eq_true, false_and, and_false, true_and, and_true, if_pos, if_neg, if_true, if_false, not_true_eq_false, not_false_eq_true, m0]
        refine k176 (by omega) hj hk1 hT hk.1.2.2.1.1 (fun I2 hk2' hT2 hs2 hc2 => ?_)
        have q := H _ hk2'.2
        have hle : (rwS Z D tx (it j) (sz j) (Z 2)).1 ≤ 0 + sz j := rwM_le _ _ _ _
        have g13 := hT2.2.1
        rcases (show k = 0 ∨ k = 1 by omega) with rfl | rfl
        · simp only [if_true] at q
          simp (disch := first | assumption | exact ct_i | exact ct_r | exact ct_n | exact ct_h | omega | exact z_in (by omega) (by omega) | exact b01 | exact Or.inl rfl | exact Or.inr rfl) only [e178_0, e178_1, e178_4, e178_7, e178_8, e178_9, e178_10, e178_11, e178_14, e178_17, e178_19, e178_20, e178_21, e178_24, e178_25, e178_26, e178_29, e178_31, e178_32, e178_33, e178_36, e178_37, e178_38, e178_41, e178_42, e178_43, e178_46, e178_47, e178_50, e178_53, e178_54, e178_57, ct_i, ct_r, ct_n, ct_h, opt_v, opt_s, ref_s, ref_n, eq_self_iff_true, true_or, or_true, zl0, zl1, zl2, zl3, zl4, zl5, zl6, zl7, zl8, zl9, zl10, zl16, zl32, zl40, zl100, zl160, zIc1, zI_lt, zI_le, nI_eq, nI_add, z_sub, nI_clamp, zI_of, uu_eq, uu_ne, Nat.reduceLT, Nat.reduceLeDiff, Nat.reduceEqDiff, Nat.reduceAdd, Nat.reduceSub, Nat.reduceMul, Nat.not_lt_zero, Nat.lt_irrefl, Nat.le_refl, Bool.false_eq_true, false_and, and_false, true_and, and_true, if_pos, if_neg, if_true, if_false, not_true_eq_false, not_false_eq_true, m0, hc2]
          exact q
        · simp only [Nat.reduceEqDiff, if_false] at q
          simp (disch := first | assumption | exact ct_i | exact ct_r | exact ct_n | exact ct_h | omega | exact z_in (by omega) (by omega) | exact b01 | exact Or.inl rfl | exact Or.inr rfl) only [e178_0, e178_1, e178_4, e178_7, e178_8, e178_9, e178_10, e178_11, e178_14, e178_17, e178_19, e178_20, e178_21, e178_24, e178_25, e178_26, e178_29, e178_31, e178_32, e178_33, e178_36, e178_37, e178_38, e178_41, e178_42, e178_43, e178_46, e178_47, e178_50, e178_53, e178_54, e178_57, ct_i, ct_r, ct_n, ct_h, opt_v, opt_s, ref_s, ref_n, eq_self_iff_true, true_or, or_true, zl0, zl1, zl2, zl3, zl4, zl5, zl6, zl7, zl8, zl9, zl10, zl16, zl32, zl40, zl100, zl160, zIc1, zI_lt, zI_le, nI_eq, nI_add, z_sub, nI_clamp, zI_of, uu_eq, uu_ne, Nat.reduceLT, Nat.reduceLeDiff, Nat.reduceEqDiff, Nat.reduceAdd, Nat.reduceSub, Nat.reduceMul, Nat.not_lt_zero, Nat.lt_irrefl, Nat.le_refl, Bool.false_eq_true, false_and, and_false, true_and, and_true, if_pos, if_neg, if_true, if_false, not_true_eq_false, not_false_eq_true, m0, g13]
          exact q
theorem k180l (hd : 6 ≤ d) {j : Nat} (hj : j < 4) (H : ∀ I', RM T0 Z D tx tp so sz it (n, t, sh, I', L, R) → Q (some (.int (hrS Z D tx sz it j (Z 0)))) (n, t, sh, I', L, R)) :
    ∀ m i I, i + m = Z 0 → RM T0 Z D tx tp so sz it (n, t, sh, I, L, R) → aE (a_cl_ d) 180 (4, [.ref 0, .int (nI j), .int (hrS Z D tx sz it j i), .int (nI i)], [], (n, t, sh, I, L, R)) Q := by
  intro m
  induction m with
  | zero =>
    intro i I hi hk
    obtain rfl : i = Z 0 := by omega
    have hM := hk.2.2.1
    simp only [] at hM
    have m0 := mm_0 hM
    have g0 := hk.2.2.2.2.2.1.1
    simp only [] at g0
    have o1 := hk.1.1
    have qq := H I hk
    rw [e180_4]
    simp (disch := first | assumption | exact ct_i | exact ct_r | exact ct_n | exact ct_h | omega | exact z_in (by omega) (by omega) | exact b01 | exact Or.inl rfl | exact Or.inr rfl) only [e180_0, e180_1, e180_2, e180_3, e180_5, e180_6, e180_9, e180_12, e180_13, e180_16, e180_17, e180_18, e180_21, e180_22, e180_23, e180_24, e180_27, e180_28, e180_31, e180_32, e180_33, e180_36, e180_37, e180_38, e180_39, e180_42, e180_43, e180_44, e180_45, e180_48, e180_51, e180_52, ct_i, ct_r, ct_n, ct_h, opt_v, opt_s, ref_s, ref_n, eq_self_iff_true, true_or, or_true, zl0, zl1, zl2, zl3, zl4, zl5, zl6, zl7, zl8, zl9, zl10, zl16, zl32, zl40, zl100, zl160, zIc1, zI_lt, zI_le, nI_eq, nI_add, z_sub, nI_clamp, zI_of, uu_eq, uu_ne, Nat.reduceLT, Nat.reduceLeDiff, Nat.reduceEqDiff, Nat.reduceAdd, Nat.reduceSub, Nat.reduceMul, Nat.not_lt_zero, Nat.lt_irrefl, Nat.le_refl, Bool.false_eq_true, false_and, and_false, true_and, and_true, if_pos, if_neg, if_true, if_false, not_true_eq_false, not_false_eq_true, m0, g0]
    exact qq
  | succ m ih =>
    intro i I hi hk
    have hM := hk.2.2.1
    simp only [] at hM
    have m0 := mm_0 hM; have x22 := mm_x22 hM; have y22 := mm_y22 hM; have r45 := mm_r45 hM
    have g0 := hk.2.2.2.2.2.1.1
    simp only [] at g0
    have o1 := hk.1.1
    have hlt : i < Z 0 := by omega
    rw [e180_4]
    simp (disch := first | assumption | exact ct_i | exact ct_r | exact ct_n | exact ct_h | omega | exact z_in (by omega) (by omega) | exact b01 | exact Or.inl rfl | exact Or.inr rfl) only [e180_0, e180_1, e180_2, e180_3, e180_5, e180_6, e180_9, e180_12, e180_13, e180_16, e180_17, e180_18, e180_21, e180_22, e180_23, e180_24, e180_27, e180_28, e180_31, e180_32, e180_33, e180_36, e180_37, e180_38, e180_39, e180_42, e180_43, e180_44, e180_45, e180_48, e180_51, e180_52, ct_i, ct_r, ct_n, ct_h, opt_v, opt_s, ref_s, ref_n, eq_self_iff_true, true_or, or_true, zl0, zl1, zl2, zl3, zl4, zl5, zl6, zl7, zl8, zl9, zl10, zl16, zl32, zl40, zl100, zl160, zIc1, zI_lt, zI_le, nI_eq, nI_add, z_sub, nI_clamp, zI_of, uu_eq, uu_ne, Nat.reduceLT, Nat.reduceLeDiff, Nat.reduceEqDiff, Nat.reduceAdd, Nat.reduceSub, Nat.reduceMul, Nat.not_lt_zero, Nat.lt_irrefl, Nat.le_refl, Bool.false_eq_true, false_and, and_false, true_and, and_true, if_pos, if_neg, if_true, if_false, not_true_eq_false, not_false_eq_true, m0, g0]
    refine kAs (by omega) hk (fun I1 ee hf hT => ?_)
    have hk1 := RM_fr (I' := u2 I1 0 13 (nI i)) (RM_fr hk hf) (frM_u (frM_0 _) (by unfold scM; omega))
    have hT1 : thS (Z 1) D (wrm (Z 2) i) (u2 I1 0 13 (nI i)) := by
      have hn4 := hk.1.2.1.1
      refine ⟨?_, ?_, fun j hj => ⟨?_, ?_⟩⟩
      · rw [uu_ne _ _ _ _ (by omega), tno_wrm]; exact hT.1
      · rw [uu_eq, rmo_wrm]
      · rw [uu_ne _ _ _ _ (by omega), stt_wrm (by omega)]; exact (hT.2.2 j hj).1
      · rw [uu_ne _ _ _ _ (by omega)]; exact (hT.2.2 j hj).2
    simp (disch := first | assumption | exact ct_i | exact ct_r | exact ct_n | exact ct_h | omega | exact z_in (by omega) (by omega) | exact b01 | exact Or.inl rfl | exact Or.inr rfl) only [e180_0, e180_1, e180_2, e180_3, e180_5, e180_6, e180_9, e180_12, e180_13, e180_16, e180_17, e180_18, e180_21, e180_22, e180_23, e180_24, e180_27, e180_28, e180_31, e180_32, e180_33, e180_36, e180_37, e180_38, e180_39, e180_42, e180_43, e180_44, e180_45, e180_48, e180_51, e180_52, ct_i, ct_r, ct_n, ct_h, opt_v, opt_s, ref_s, ref_n, eq_self_iff_true, true_or, or_true, zl0, zl1, zl2, zl3, zl4, zl5, zl6, zl7, zl8, zl9, zl10, zl16, zl32, zl40, zl100, zl160, zIc1, zI_lt, zI_le, nI_eq, nI_add, z_sub, nI_clamp, zI_of, uu_eq, uu_ne, Nat.reduceLT, Nat.reduceLeDiff, Nat.reduceEqDiff, Nat.reduceAdd, Nat.reduceSub, Nat.reduceMul, Nat.not_lt_zero, Nat.lt_irrefl, Nat.le_refl, Bool.false_eq_true, false_and, and_false, true_and, and_true, if_pos, if_neg, if_true, if_false, not_true_eq_false, not_false_eq_true, m0]
    refine k176 (by omega) hj hk1 hT1 (wrm_lt (by omega)) (fun I2 hk2 hT2 hs2 hc2 => ?_)
    have s22 := (hk2.2.2.2.2.2.2.2.2.2.2.2.1 j hj).2.1
    simp only [] at s22
    have p2 := (hk.1.2.2.2.2.2.2 j hj).2.1
    have hle : (rwS Z D tx (it j) (sz j) (wrm (Z 2) i)).1 ≤ 0 + sz j := rwM_le _ _ _ _
    have qq := ih (i + 1) I2 (by omega) hk2
    unfold hrS at qq
    simp only [orF] at qq
    unfold hrS
    by_cases he : (rwS Z D tx (it j) (sz j) (wrm (Z 2) i)).1 = sz j
    · rw [if_pos (decide_eq_true he)] at qq
      simp (disch := first | assumption | exact ct_i | exact ct_r | exact ct_n | exact ct_h | omega | exact z_in (by omega) (by omega) | exact b01 | exact Or.inl rfl | exact Or.inr rfl) only [e180_0, e180_1, e180_2, e180_3, e180_5, e180_6, e180_9, e180_12, e180_13, e180_16, e180_17, e180_18, e180_21, e180_22, e180_23, e180_24, e180_27, e180_28, e180_31, e180_32, e180_33, e180_36, e180_37, e180_38, e180_39, e180_42, e180_43, e180_44, e180_45, e180_48, e180_51, e180_52, ct_i, ct_r, ct_n, ct_h, opt_v, opt_s, ref_s, ref_n, eq_self_iff_true, true_or, or_true, zl0, zl1, zl2, zl3, zl4, zl5, zl6, zl7, zl8, zl9, zl10, zl16, zl32, zl40, zl100, zl160, zIc1, zI_lt, zI_le, nI_eq, nI_add, z_sub, nI_clamp, zI_of, uu_eq, uu_ne, Nat.reduceLT, Nat.reduceLeDiff, Nat.reduceEqDiff, Nat.reduceAdd, Nat.reduceSub, Nat.reduceMul, Nat.not_lt_zero, Nat.lt_irrefl, Nat.le_refl, Bool.false_eq_true, false_and, and_false, true_and, and_true, if_pos, if_neg, if_true, if_false, not_true_eq_false, not_false_eq_true, m0, x22, y22, r45, s22, he]
      exact qq
    · rw [if_neg (by rw [decide_eq_false he]; decide)] at qq
      simp (disch := first | assumption | exact ct_i | exact ct_r | exact ct_n | exact ct_h | omega | exact z_in (by omega) (by omega) | exact b01 | exact Or.inl rfl | exact Or.inr rfl) only [e180_0, e180_1, e180_2, e180_3, e180_5, e180_6, e180_9, e180_12, e180_13, e180_16, e180_17, e180_18, e180_21, e180_22, e180_23, e180_24, e180_27, e180_28, e180_31, e180_32, e180_33, e180_36, e180_37, e180_38, e180_39, e180_42, e180_43, e180_44, e180_45, e180_48, e180_51, e180_52, ct_i, ct_r, ct_n, ct_h, opt_v, opt_s, ref_s, ref_n, eq_self_iff_true, true_or, or_true, zl0, zl1, zl2, zl3, zl4, zl5, zl6, zl7, zl8, zl9, zl10, zl16, zl32, zl40, zl100, zl160, zIc1, zI_lt, zI_le, nI_eq, nI_add, z_sub, nI_clamp, zI_of, uu_eq, uu_ne, Nat.reduceLT, Nat.reduceLeDiff, Nat.reduceEqDiff, Nat.reduceAdd, Nat.reduceSub, Nat.reduceMul, Nat.not_lt_zero, Nat.lt_irrefl, Nat.le_refl, Bool.false_eq_true, false_and, and_false, true_and, and_true, if_pos, if_neg, if_true, if_false, not_true_eq_false, not_false_eq_true, m0, x22, y22, r45, s22, he]
      rw [show ∀ x : Int32, x ||| nI 0 = x from fun x => Int32.or_zero]
      exact qq
theorem z_4p {nd : Nat} (hn : nd ≤ 4) : nI 1 <<< (nI (2 * nd) &&& 31) = nI (4 ^ nd) := by
  rcases (show nd = 0 ∨ nd = 1 ∨ nd = 2 ∨ nd = 3 ∨ nd = 4 by omega) with rfl | rfl | rfl | rfl | rfl <;> decide
theorem p4_le {nd : Nat} (hn : nd ≤ 4) : 4 ^ nd ≤ 256 := Nat.pow_le_pow_right (n := 4) (by decide) hn
theorem cntM_le2 {p : Nat → Bool} : ∀ n, cntP p n ≤ n
  | 0 => Nat.le_refl _
  | n + 1 => by have := cntM_le2 (p := p) n; simp only [cntP]; split <;> omega
theorem k181i (hd : 6 ≤ d) {j rt b : Nat} (hj : j < 4) (hrt : rt < 24) {l5 : Value} (H : ∀ I', RM T0 Z D tx tp so sz it (n, t, sh, I', L, R) → (∀ k, k < Z 1 → I' 8 k = nI (D k 4)) → aE (a_cl_ d) 181 (79, [.ref 0, .int (nI j), .int (nI (4 ^ Z 1)), .int (nI (b + hmC Z D tx sz it j rt (4 ^ Z 1))), .int (nI rt), .int (nI (4 ^ Z 1))], [], (n, t, sh, I', L, R)) Q) :
    ∀ m i I, i + m = 4 ^ Z 1 → RM T0 Z D tx tp so sz it (n, t, sh, I, L, R) → (∀ k, k < Z 1 → I 8 k = nI (D k 4)) →
    aE (a_cl_ d) 181 (32, [.ref 0, .int (nI j), .int (nI (4 ^ Z 1)), .int (nI (b + hmC Z D tx sz it j rt i)), .int (nI rt), .int (nI i)], [], (n, t, sh, I, L, R)) Q := by
  intro m
  induction m with
  | zero =>
    intro i I hi hk h8
    obtain rfl : i = 4 ^ Z 1 := by omega
    have h256 := p4_le hk.1.2.1.1
    have qq := H I hk h8
    rw [e181_32]
    simp (disch := first | assumption | exact ct_i | exact ct_r | exact ct_n | exact ct_h | omega | exact z_in (by omega) (by omega) | exact b01 | exact Or.inl rfl | exact Or.inr rfl) only [e181_0, e181_1, e181_2, e181_3, e181_6, e181_7, e181_8, e181_9, e181_10, e181_11, e181_12, e181_15, e181_16, e181_18, e181_20, e181_21, e181_24, e181_25, e181_26, e181_29, e181_30, e181_34, e181_35, e181_38, e181_39, e181_42, e181_44, e181_45, e181_47, e181_48, e181_51, e181_52, e181_53, e181_54, e181_57, e181_58, e181_61, e181_62, e181_63, e181_66, e181_67, e181_70, e181_71, e181_72, e181_73, e181_76, e181_82, e181_85, e181_86, ct_i, ct_r, ct_n, ct_h, opt_v, opt_s, ref_s, ref_n, eq_self_iff_true, true_or, or_true, zl0, zl1, zl2, zl3, zl4, zl5, zl6, zl7, zl8, zl9, zl10, zl16, zl32, zl40, zl100, zl160, zIc1, zI_lt, zI_le, nI_eq, nI_add, z_sub, nI_clamp, zI_of, uu_eq, uu_ne, Nat.reduceLT, Nat.reduceLeDiff, Nat.reduceEqDiff, Nat.reduceAdd, Nat.reduceSub, Nat.reduceMul, Nat.not_lt_zero, Nat.lt_irrefl, Nat.le_refl, Bool.false_eq_true, false_and, and_false, true_and, and_true, if_pos, if_neg, if_true, if_false, not_true_eq_false, not_false_eq_true]
    exact qq
  | succ m ih =>
    intro i I hi hk h8
    have hM := hk.2.2.1
    simp only [] at hM
    have m0 := mm_0 hM; have x22 := mm_x22 hM; have y22 := mm_y22 hM; have r45 := mm_r45 hM
    have hn4 := hk.1.2.1.1
    have h256 := p4_le hn4
    have hlt : i < 4 ^ Z 1 := by omega
    have hs : rt * 256 + i < 6144 := by omega
    have e256 : (256 : Int32) = nI 256 := rfl
    have ecm : 256 * rt + i = rt * 256 + i := by omega
    rw [e181_32]
    simp (disch := first | assumption | exact ct_i | exact ct_r | exact ct_n | exact ct_h | omega | exact z_in (by omega) (by omega) | exact b01 | exact Or.inl rfl | exact Or.inr rfl) only [e181_0, e181_1, e181_2, e181_3, e181_6, e181_7, e181_8, e181_9, e181_10, e181_11, e181_12, e181_15, e181_16, e181_18, e181_20, e181_21, e181_24, e181_25, e181_26, e181_29, e181_30, e181_34, e181_35, e181_38, e181_39, e181_42, e181_44, e181_45, e181_47, e181_48, e181_51, e181_52, e181_53, e181_54, e181_57, e181_58, e181_61, e181_62, e181_63, e181_66, e181_67, e181_70, e181_71, e181_72, e181_73, e181_76, e181_82, e181_85, e181_86, ct_i, ct_r, ct_n, ct_h, opt_v, opt_s, ref_s, ref_n, eq_self_iff_true, true_or, or_true, zl0, zl1, zl2, zl3, zl4, zl5, zl6, zl7, zl8, zl9, zl10, zl16, zl32, zl40, zl100, zl160, zIc1, zI_lt, zI_le, nI_eq, nI_add, z_sub, nI_clamp, zI_of, uu_eq, uu_ne, Nat.reduceLT, Nat.reduceLeDiff, Nat.reduceEqDiff, Nat.reduceAdd, Nat.reduceSub, Nat.reduceMul, Nat.not_lt_zero, Nat.lt_irrefl, Nat.le_refl, Bool.false_eq_true, false_and, and_false, true_and, and_true, if_pos, if_neg, if_true, if_false, not_true_eq_false, not_false_eq_true, zI_mul, m0, e256, ecm]
    refine k163 (nd := Z 1) (D := D) (by omega) hM hs h8 hn4 (fun I1 hf1 hT1 => ?_)
    have hk1 := RM_fr hk (frK_M (frC_K hf1))
    simp (disch := first | assumption | exact ct_i | exact ct_r | exact ct_n | exact ct_h | omega | exact z_in (by omega) (by omega) | exact b01 | exact Or.inl rfl | exact Or.inr rfl) only [e181_0, e181_1, e181_2, e181_3, e181_6, e181_7, e181_8, e181_9, e181_10, e181_11, e181_12, e181_15, e181_16, e181_18, e181_20, e181_21, e181_24, e181_25, e181_26, e181_29, e181_30, e181_34, e181_35, e181_38, e181_39, e181_42, e181_44, e181_45, e181_47, e181_48, e181_51, e181_52, e181_53, e181_54, e181_57, e181_58, e181_61, e181_62, e181_63, e181_66, e181_67, e181_70, e181_71, e181_72, e181_73, e181_76, e181_82, e181_85, e181_86, ct_i, ct_r, ct_n, ct_h, opt_v, opt_s, ref_s, ref_n, eq_self_iff_true, true_or, or_true, zl0, zl1, zl2, zl3, zl4, zl5, zl6, zl7, zl8, zl9, zl10, zl16, zl32, zl40, zl100, zl160, zIc1, zI_lt, zI_le, nI_eq, nI_add, z_sub, nI_clamp, zI_of, uu_eq, uu_ne, Nat.reduceLT, Nat.reduceLeDiff, Nat.reduceEqDiff, Nat.reduceAdd, Nat.reduceSub, Nat.reduceMul, Nat.not_lt_zero, Nat.lt_irrefl, Nat.le_refl, Bool.false_eq_true, false_and, and_false, true_and, and_true, if_pos, if_neg, if_true, if_false, not_true_eq_false, not_false_eq_true, m0]
    refine k176 (by omega) hj hk1 hT1 hs (fun I2 hk2 hT2 hs2 hc2 => ?_)
    have s22 := (hk2.2.2.2.2.2.2.2.2.2.2.2.1 j hj).2.1
    simp only [] at s22
    have p2 := (hk.1.2.2.2.2.2.2 j hj).2.1
    have hle : (rwS Z D tx (it j) (sz j) (rt * 256 + i)).1 ≤ 0 + sz j := rwM_le _ _ _ _
    have qq := ih (i + 1) I2 (by omega) hk2 (fun k hk => (hT2.2.2 k hk).2)
    unfold hmC at qq
    simp only [cntP] at qq
    unfold hmC
    by_cases he : (rwS Z D tx (it j) (sz j) (rt * 256 + i)).1 = sz j
    · rw [if_pos (decide_eq_true he), ← Nat.add_assoc] at qq
      simp (disch := first | assumption | exact ct_i | exact ct_r | exact ct_n | exact ct_h | omega | exact z_in (by omega) (by omega) | exact b01 | exact Or.inl rfl | exact Or.inr rfl) only [e181_0, e181_1, e181_2, e181_3, e181_6, e181_7, e181_8, e181_9, e181_10, e181_11, e181_12, e181_15, e181_16, e181_18, e181_20, e181_21, e181_24, e181_25, e181_26, e181_29, e181_30, e181_34, e181_35, e181_38, e181_39, e181_42, e181_44, e181_45, e181_47, e181_48, e181_51, e181_52, e181_53, e181_54, e181_57, e181_58, e181_61, e181_62, e181_63, e181_66, e181_67, e181_70, e181_71, e181_72, e181_73, e181_76, e181_82, e181_85, e181_86, ct_i, ct_r, ct_n, ct_h, opt_v, opt_s, ref_s, ref_n, eq_self_iff_true, true_or, or_true, zl0, zl1, zl2, zl3, zl4, zl5, zl6, zl7, zl8, zl9, zl10, zl16, zl32, zl40, zl100, zl160, zIc1, zI_lt, zI_le, nI_eq, nI_add, z_sub, nI_clamp, zI_of, uu_eq, uu_ne, Nat.reduceLT, Nat.reduceLeDiff, Nat.reduceEqDiff, Nat.reduceAdd, Nat.reduceSub, Nat.reduceMul, Nat.not_lt_zero, Nat.lt_irrefl, Nat.le_refl, Bool.false_eq_true, false_and, and_false, true_and, and_true, if_pos, if_neg, if_true, if_false, not_true_eq_false, not_false_eq_true, m0, x22, y22, r45, s22, he]
      exact qq
    · rw [if_neg (by rw [decide_eq_false he]; decide)] at qq
      simp (disch := first | assumption | exact ct_i | exact ct_r | exact ct_n | exact ct_h | omega | exact z_in (by omega) (by omega) | exact b01 | exact Or.inl rfl | exact Or.inr rfl) only [e181_0, e181_1, e181_2, e181_3, e181_6, e181_7, e181_8, e181_9, e181_10, e181_11, e181_12, e181_15, e181_16, e181_18, e181_20, e181_21, e181_24, e181_25, e181_26, e181_29, e181_30, e181_34, e181_35, e181_38, e181_39, e181_42, e181_44, e181_45, e181_47, e181_48, e181_51, e181_52, e181_53, e181_54, e181_57, e181_58, e181_61, e181_62, e181_63, e181_66, e181_67, e181_70, e181_71, e181_72, e181_73, e181_76, e181_82, e181_85, e181_86, ct_i, ct_r, ct_n, ct_h, opt_v, opt_s, ref_s, ref_n, eq_self_iff_true, true_or, or_true, zl0, zl1, zl2, zl3, zl4, zl5, zl6, zl7, zl8, zl9, zl10, zl16, zl32, zl40, zl100, zl160, zIc1, zI_lt, zI_le, nI_eq, nI_add, z_sub, nI_clamp, zI_of, uu_eq, uu_ne, Nat.reduceLT, Nat.reduceLeDiff, Nat.reduceEqDiff, Nat.reduceAdd, Nat.reduceSub, Nat.reduceMul, Nat.not_lt_zero, Nat.lt_irrefl, Nat.le_refl, Bool.false_eq_true, false_and, and_false, true_and, and_true, if_pos, if_neg, if_true, if_false, not_true_eq_false, not_false_eq_true, m0, x22, y22, r45, s22, he, Nat.add_zero]
      exact qq
theorem k181l (hd : 6 ≤ d) {j : Nat} (hj : j < 4) (H : ∀ I', RM T0 Z D tx tp so sz it (n, t, sh, I', L, R) → Q (some (.int (nI (hmS Z D tx sz it j (Z 0 * 4))))) (n, t, sh, I', L, R)) :
    ∀ m i I l5, i + m = Z 0 * 4 → l5.category = 1 → RM T0 Z D tx tp so sz it (n, t, sh, I, L, R) → (∀ k, k < Z 1 → I 8 k = nI (D k 4)) →
    aE (a_cl_ d) 181 (18, [.ref 0, .int (nI j), .int (nI (4 ^ Z 1)), .int (nI (hmS Z D tx sz it j i)), .int (nI i), l5], [], (n, t, sh, I, L, R)) Q := by
  intro m
  induction m with
  | zero =>
    intro i I l5 hi hc hk h8
    obtain rfl : i = Z 0 * 4 := by omega
    have hM := hk.2.2.1
    simp only [] at hM
    have m0 := mm_0 hM
    have g0 := hk.2.2.2.2.2.1.1
    simp only [] at g0
    have o1 := hk.1.1
    have qq := H I hk
    rw [e181_18]
    simp (disch := first | assumption | exact ct_i | exact ct_r | exact ct_n | exact ct_h | omega | exact z_in (by omega) (by omega) | exact b01 | exact Or.inl rfl | exact Or.inr rfl) only [e181_0, e181_1, e181_2, e181_3, e181_6, e181_7, e181_8, e181_9, e181_10, e181_11, e181_12, e181_15, e181_16, e181_20, e181_21, e181_24, e181_25, e181_26, e181_29, e181_30, e181_34, e181_35, e181_38, e181_39, e181_42, e181_44, e181_45, e181_47, e181_48, e181_51, e181_52, e181_53, e181_54, e181_57, e181_58, e181_61, e181_62, e181_63, e181_66, e181_67, e181_70, e181_71, e181_72, e181_73, e181_76, e181_79, e181_82, e181_85, e181_86, ct_i, ct_r, ct_n, ct_h, opt_v, opt_s, ref_s, ref_n, eq_self_iff_true, true_or, or_true, zl0, zl1, zl2, zl3, zl4, zl5, zl6, zl7, zl8, zl9, zl10, zl16, zl32, zl40, zl100, zl160, zIc1, zI_lt, zI_le, nI_eq, nI_add, z_sub, nI_clamp, zI_of, uu_eq, uu_ne, Nat.reduceLT, Nat.reduceLeDiff, Nat.reduceEqDiff, Nat.reduceAdd, Nat.reduceSub, Nat.reduceMul, Nat.not_lt_zero, Nat.lt_irrefl, Nat.le_refl, Bool.false_eq_true, false_and, and_false, true_and, and_true, if_pos, if_neg, if_true, if_false, not_true_eq_false, not_false_eq_true, zI_mul, m0, g0]
    exact qq
  | succ m ih =>
    intro i I l5 hi hc hk h8
    have hM := hk.2.2.1
    simp only [] at hM
    have m0 := mm_0 hM
    have g0 := hk.2.2.2.2.2.1.1
    simp only [] at g0
    have o1 := hk.1.1
    have hlt : i < Z 0 * 4 := by omega
    rw [e181_18]
    simp (disch := first | assumption | exact ct_i | exact ct_r | exact ct_n | exact ct_h | omega | exact z_in (by omega) (by omega) | exact b01 | exact Or.inl rfl | exact Or.inr rfl) only [e181_0, e181_1, e181_2, e181_3, e181_6, e181_7, e181_8, e181_9, e181_10, e181_11, e181_12, e181_15, e181_16, e181_20, e181_21, e181_24, e181_25, e181_26, e181_29, e181_30, e181_34, e181_35, e181_38, e181_39, e181_42, e181_44, e181_45, e181_47, e181_48, e181_51, e181_52, e181_53, e181_54, e181_57, e181_58, e181_61, e181_62, e181_63, e181_66, e181_67, e181_70, e181_71, e181_72, e181_73, e181_76, e181_79, e181_82, e181_85, e181_86, ct_i, ct_r, ct_n, ct_h, opt_v, opt_s, ref_s, ref_n, eq_self_iff_true, true_or, or_true, zl0, zl1, zl2, zl3, zl4, zl5, zl6, zl7, zl8, zl9, zl10, zl16, zl32, zl40, zl100, zl160, zIc1, zI_lt, zI_le, nI_eq, nI_add, z_sub, nI_clamp, zI_of, uu_eq, uu_ne, Nat.reduceLT, Nat.reduceLeDiff, Nat.reduceEqDiff, Nat.reduceAdd, Nat.reduceSub, Nat.reduceMul, Nat.not_lt_zero, Nat.lt_irrefl, Nat.le_refl, Bool.false_eq_true, false_and, and_false, true_and, and_true, if_pos, if_neg, if_true, if_false, not_true_eq_false, not_false_eq_true, zI_mul, m0, g0]
    refine k181i (l5 := a_hole) (b := hmS Z D tx sz it j i) hd hj (show i < 24 by omega) (fun I1 hk1 h81 => ?_) (4 ^ Z 1) 0 I (by omega) hk h8
    simp (disch := first | assumption | exact ct_i | exact ct_r | exact ct_n | exact ct_h | omega | exact z_in (by omega) (by omega) | exact b01 | exact Or.inl rfl | exact Or.inr rfl) only [e181_0, e181_1, e181_2, e181_3, e181_6, e181_7, e181_8, e181_9, e181_10, e181_11, e181_12, e181_15, e181_16, e181_20, e181_21, e181_24, e181_25, e181_26, e181_29, e181_30, e181_34, e181_35, e181_38, e181_39, e181_42, e181_44, e181_45, e181_47, e181_48, e181_51, e181_52, e181_53, e181_54, e181_57, e181_58, e181_61, e181_62, e181_63, e181_66, e181_67, e181_70, e181_71, e181_72, e181_73, e181_76, e181_79, e181_82, e181_85, e181_86, ct_i, ct_r, ct_n, ct_h, opt_v, opt_s, ref_s, ref_n, eq_self_iff_true, true_or, or_true, zl0, zl1, zl2, zl3, zl4, zl5, zl6, zl7, zl8, zl9, zl10, zl16, zl32, zl40, zl100, zl160, zIc1, zI_lt, zI_le, nI_eq, nI_add, z_sub, nI_clamp, zI_of, uu_eq, uu_ne, Nat.reduceLT, Nat.reduceLeDiff, Nat.reduceEqDiff, Nat.reduceAdd, Nat.reduceSub, Nat.reduceMul, Nat.not_lt_zero, Nat.lt_irrefl, Nat.le_refl, Bool.false_eq_true, false_and, and_false, true_and, and_true, if_pos, if_neg, if_true, if_false, not_true_eq_false, not_false_eq_true]
    exact ih (i + 1) I1 _ (by omega) rfl hk1 h81
theorem k179 (hd : 9 ≤ d) (hk : RM T0 Z D tx tp so sz it (n, t, sh, I, L, R)) {x w : Int32} (H : ∀ h', RMh T0 Z D tx tp so sz it h' → Q (some (.int (heaS Z D tx so sz it x w))) h') : aC d 179 [.ref 0, .int x, .int w] (n, t, sh, I, L, R) Q := by
  obtain ⟨d, rfl⟩ : ∃ e, d = e + 1 := ⟨d - 1, by omega⟩
  have hM := hk.2.2.1
  simp only [] at hM
  have m0 := mm_0 hM; have x21 := mm_x21 hM; have y21 := mm_y21 hM; have r44 := mm_r44 hM
  have e1 := fun Q => k175 (Q := Q) (n := n) (t := t) (sh := sh) (I := I) (L := L) (R := R) (show 2 ≤ d by omega) (x := x)
  unfold heaS at H
  cases hx : dec x 4 with
  | none =>
    simp only [hx] at H
    have q := H _ hk.2
    simp only [hx, Option.isSome_none, Bool.false_eq_true, if_false] at e1
    simp (disch := first | assumption | exact ct_i | exact ct_r | exact ct_n | exact ct_h | omega | exact z_in (by omega) (by omega) | exact b01 | exact Or.inl rfl | exact Or.inr rfl) only [b179, e179_0, e179_1, e179_4, e179_7, e179_8, e179_9, e179_10, e179_11, e179_14, e179_17, e179_19, e179_20, e179_21, e179_24, e179_25, e179_26, e179_29, e179_31, e179_32, e179_33, e179_36, e179_37, e179_38, e179_41, e179_44, e179_45, e179_46, e179_49, ct_i, ct_r, ct_n, ct_h, opt_v, opt_s, ref_s, ref_n, eq_self_iff_true, true_or, or_true, zl0, zl1, zl2, zl3, zl4, zl5, zl6, zl7, zl8, zl9, zl10, zl16, zl32, zl40, zl100, zl160, zIc1, zI_lt, zI_le, nI_eq, nI_add, z_sub, nI_clamp, zI_of, uu_eq, uu_ne, Nat.reduceLT, Nat.reduceLeDiff, Nat.reduceEqDiff, Nat.reduceAdd, Nat.reduceSub, Nat.reduceMul, Nat.not_lt_zero, Nat.lt_irrefl, Nat.le_refl, Bool.false_eq_true, false_and, and_false, true_and, and_true, if_pos, if_neg, if_true, if_false, not_true_eq_false, not_false_eq_true, m0, e1]
    exact q
  | some j =>
    obtain ⟨rfl, hj⟩ := dec_some (by omega) hx
    simp only [hx, Option.isSome_some, if_true] at e1
    obtain ⟨s21, _, _⟩ := hk.2.2.2.2.2.2.2.2.2.2.2.1 j hj
    simp only [] at s21
    obtain ⟨p1, p2, p3⟩ := hk.1.2.2.2.2.2.2 j hj
    cases hw : dec w 2 with
    | none =>
      simp only [hx, hw] at H
      have q := H _ hk.2
      simp (disch := first | assumption | exact ct_i | exact ct_r | exact ct_n | exact ct_h | omega | exact z_in (by omega) (by omega) | exact b01 | exact Or.inl rfl | exact Or.inr rfl) only [b179, e179_0, e179_1, e179_4, e179_7, e179_8, e179_9, e179_10, e179_11, e179_14, e179_17, e179_19, e179_20, e179_21, e179_24, e179_25, e179_26, e179_29, e179_31, e179_32, e179_33, e179_36, e179_37, e179_38, e179_41, e179_44, e179_45, e179_46, e179_49, ct_i, ct_r, ct_n, ct_h, opt_v, opt_s, ref_s, ref_n, eq_self_iff_true, true_or, or_true, zl0, zl1, zl2, zl3, zl4, zl5, zl6, zl7, zl8, zl9, zl10, zl16, zl32, zl40, zl100, zl160, zIc1, zI_lt, zI_le, nI_eq, nI_add, z_sub, nI_clamp, zI_of, uu_eq, uu_ne, Nat.reduceLT, Nat.reduceLeDiff, Nat.reduceEqDiff, Nat.reduceAdd, Nat.reduceSub, Nat.reduceMul, Nat.not_lt_zero, Nat.lt_irrefl, Nat.le_refl, Bool.false_eq_true, false_and, and_false, true_and, and_true, if_pos, if_neg, if_true, if_false, not_true_eq_false, not_false_eq_true, m0, e1, ll0, ll1, k118 (show 1 ≤ d by omega), in_d2, hw, Option.isSome_none, Bool.false_eq_true, if_false]
      exact q
    | some k =>
      obtain ⟨rfl, hk2⟩ := dec_some (by omega) hw
      simp only [hx, hw] at H
      by_cases h0 : so j = 0
      · rw [if_pos h0] at H
        have q := H _ hk.2
        have g : I 21 j = -nI 1 := by rw [s21, h0]; rfl
        have hneg2 : ¬ nI 0 ≤ -nI 1 := by decide
        simp (disch := first | assumption | exact ct_i | exact ct_r | exact ct_n | exact ct_h | omega | exact z_in (by omega) (by omega) | exact b01 | exact Or.inl rfl | exact Or.inr rfl) only [b179, e179_0, e179_1, e179_4, e179_7, e179_8, e179_9, e179_10, e179_11, e179_14, e179_17, e179_19, e179_20, e179_21, e179_24, e179_25, e179_26, e179_29, e179_31, e179_32, e179_33, e179_36, e179_37, e179_38, e179_41, e179_44, e179_45, e179_46, e179_49, ct_i, ct_r, ct_n, ct_h, opt_v, opt_s, ref_s, ref_n, eq_self_iff_true, true_or, or_true, zl0, zl1, zl2, zl3, zl4, zl5, zl6, zl7, zl8, zl9, zl10, zl16, zl32, zl40, zl100, zl160, zIc1, zI_lt, zI_le, nI_eq, nI_add, z_sub, nI_clamp, zI_of, uu_eq, uu_ne, Nat.reduceLT, Nat.reduceLeDiff, Nat.reduceEqDiff, Nat.reduceAdd, Nat.reduceSub, Nat.reduceMul, Nat.not_lt_zero, Nat.lt_irrefl, Nat.le_refl, Bool.false_eq_true, false_and, and_false, true_and, and_true, if_pos, if_neg, if_true, if_false, not_true_eq_false, not_false_eq_true, m0, x21, y21, r44, e1, g, hneg2, ll0, ll1, k118 (show 1 ≤ d by omega), in_d2, hw, Option.isSome_some]
        exact q
      · rw [if_neg h0] at H
        obtain ⟨c, hc⟩ : ∃ c, so j = c + 1 := ⟨so j - 1, by omega⟩
        have g : I 21 j = nI c := by rw [s21, hc]; rfl
        have hc4 : c < 4 := by omega
        obtain ⟨d, rfl⟩ : ∃ e, d = e + 1 := ⟨d - 1, by omega⟩
        rcases (show k = 0 ∨ k = 1 by omega) with rfl | rfl
        · simp only [if_true] at H
          simp (disch := first | assumption | exact ct_i | exact ct_r | exact ct_n | exact ct_h | omega | exact z_in (by omega) (by omega) | exact b01 | exact Or.inl rfl | exact Or.inr rfl) only [b179, b180, e179_0, e179_1, e179_4, e179_7, e179_8, e179_9, e179_10, e179_11, e179_14, e179_17, e179_19, e179_20, e179_21, e179_24, e179_25, e179_26, e179_29, e179_31, e179_32, e179_33, e179_36, e179_37, e179_38, e179_41, e179_44, e179_45, e179_46, e179_49, e180_0, e180_1, e180_2, e180_3, e180_5, e180_6, e180_9, e180_12, e180_13, e180_16, e180_17, e180_18, e180_21, e180_22, e180_23, e180_24, e180_27, e180_28, e180_31, e180_32, e180_33, e180_36, e180_37, e180_38, e180_39, e180_42, e180_43, e180_44, e180_45, e180_48, e180_51, e180_52, ct_i, ct_r, ct_n, ct_h, opt_v, opt_s, ref_s, ref_n, eq_self_iff_true, true_or, or_true, zl0, zl1, zl2, zl3, zl4, zl5, zl6, zl7, zl8, zl9, zl10, zl16, zl32, zl40, zl100, zl160, zIc1, zI_lt, zI_le, nI_eq, nI_add, z_sub, nI_clamp, zI_of, uu_eq, uu_ne, Nat.reduceLT, Nat.reduceLeDiff, Nat.reduceEqDiff, Nat.reduceAdd, Nat.reduceSub, Nat.reduceMul, Nat.not_lt_zero, Nat.lt_irrefl, Nat.le_refl, Bool.false_eq_true, false_and, and_false, true_and, and_true, if_pos, if_neg, if_true, if_false, not_true_eq_false, not_false_eq_true, m0, x21, y21, r44, e1, g, ll0, ll1, k118 (show 1 ≤ d + 1 by omega), in_d2, hw, Option.isSome_some]
          refine k180l (by omega) hj (fun I' hR => ?_) (Z 0) 0 I (by omega) hk
          simp (disch := first | assumption | exact ct_i | exact ct_r | exact ct_n | exact ct_h | omega | exact z_in (by omega) (by omega) | exact b01 | exact Or.inl rfl | exact Or.inr rfl) only [e179_0, e179_1, e179_4, e179_7, e179_8, e179_9, e179_10, e179_11, e179_14, e179_17, e179_19, e179_20, e179_21, e179_24, e179_25, e179_26, e179_29, e179_31, e179_32, e179_33, e179_36, e179_37, e179_38, e179_41, e179_44, e179_45, e179_46, e179_49, ct_i, ct_r, ct_n, ct_h, opt_v, opt_s, ref_s, ref_n, eq_self_iff_true, true_or, or_true]
          exact H _ hR.2
        · simp only [Nat.reduceEqDiff, if_false] at H
          have h1 := hk.2.2.2.2.1.1
          simp only [] at h1
          have hn4 := hk.1.2.1.1
          simp (disch := first | assumption | exact ct_i | exact ct_r | exact ct_n | exact ct_h | omega | exact z_in (by omega) (by omega) | exact b01 | exact Or.inl rfl | exact Or.inr rfl) only [b179, b181, e179_0, e179_1, e179_4, e179_7, e179_8, e179_9, e179_10, e179_11, e179_14, e179_17, e179_19, e179_20, e179_21, e179_24, e179_25, e179_26, e179_29, e179_31, e179_32, e179_33, e179_36, e179_37, e179_38, e179_41, e179_44, e179_45, e179_46, e179_49, e181_0, e181_1, e181_2, e181_3, e181_6, e181_7, e181_8, e181_9, e181_10, e181_11, e181_12, e181_15, e181_16, e181_20, e181_21, e181_24, e181_25, e181_26, e181_29, e181_30, e181_34, e181_35, e181_38, e181_39, e181_42, e181_44, e181_45, e181_47, e181_48, e181_51, e181_52, e181_53, e181_54, e181_57, e181_58, e181_61, e181_62, e181_63, e181_66, e181_67, e181_70, e181_71, e181_72, e181_73, e181_76, e181_79, e181_82, e181_85, e181_86, ct_i, ct_r, ct_n, ct_h, opt_v, opt_s, ref_s, ref_n, eq_self_iff_true, true_or, or_true, zl0, zl1, zl2, zl3, zl4, zl5, zl6, zl7, zl8, zl9, zl10, zl16, zl32, zl40, zl100, zl160, zIc1, zI_lt, zI_le, nI_eq, nI_add, z_sub, nI_clamp, zI_of, uu_eq, uu_ne, Nat.reduceLT, Nat.reduceLeDiff, Nat.reduceEqDiff, Nat.reduceAdd, Nat.reduceSub, Nat.reduceMul, Nat.not_lt_zero, Nat.lt_irrefl, Nat.le_refl, Bool.false_eq_true, false_and, and_false, true_and, and_true, if_pos, if_neg, if_true, if_false, not_true_eq_false, not_false_eq_true, zI_mul, m0, x21, y21, r44, e1, g, h1, z_4p hn4, ll0, ll1, k118 (show 1 ≤ d + 1 by omega), in_d2, hw, Option.isSome_some]
          refine kAs (by omega) hk (fun I1 ee hf hT => ?_)
          simp (disch := first | assumption | exact ct_i | exact ct_r | exact ct_n | exact ct_h | omega | exact z_in (by omega) (by omega) | exact b01 | exact Or.inl rfl | exact Or.inr rfl) only [e181_0, e181_1, e181_2, e181_3, e181_6, e181_7, e181_8, e181_9, e181_10, e181_11, e181_12, e181_15, e181_16, e181_20, e181_21, e181_24, e181_25, e181_26, e181_29, e181_30, e181_34, e181_35, e181_38, e181_39, e181_42, e181_44, e181_45, e181_47, e181_48, e181_51, e181_52, e181_53, e181_54, e181_57, e181_58, e181_61, e181_62, e181_63, e181_66, e181_67, e181_70, e181_71, e181_72, e181_73, e181_76, e181_79, e181_82, e181_85, e181_86, ct_i, ct_r, ct_n, ct_h, opt_v, opt_s, ref_s, ref_n, eq_self_iff_true, true_or, or_true, zl0, zl1, zl2, zl3, zl4, zl5, zl6, zl7, zl8, zl9, zl10, zl16, zl32, zl40, zl100, zl160, zIc1, zI_lt, zI_le, nI_eq, nI_add, z_sub, nI_clamp, zI_of, uu_eq, uu_ne, Nat.reduceLT, Nat.reduceLeDiff, Nat.reduceEqDiff, Nat.reduceAdd, Nat.reduceSub, Nat.reduceMul, Nat.not_lt_zero, Nat.lt_irrefl, Nat.le_refl, Bool.false_eq_true, false_and, and_false, true_and, and_true, if_pos, if_neg, if_true, if_false, not_true_eq_false, not_false_eq_true]
          refine k181l (by omega) hj (fun I' hR => ?_) (Z 0 * 4) 0 I1 a_hole (by omega) rfl (RM_fr hk hf) (fun k hk => (hT.2.2 k hk).2)
          simp (disch := first | assumption | exact ct_i | exact ct_r | exact ct_n | exact ct_h | omega | exact z_in (by omega) (by omega) | exact b01 | exact Or.inl rfl | exact Or.inr rfl) only [e179_0, e179_1, e179_4, e179_7, e179_8, e179_9, e179_10, e179_11, e179_14, e179_17, e179_19, e179_20, e179_21, e179_24, e179_25, e179_26, e179_29, e179_31, e179_32, e179_33, e179_36, e179_37, e179_38, e179_41, e179_44, e179_45, e179_46, e179_49, ct_i, ct_r, ct_n, ct_h, opt_v, opt_s, ref_s, ref_n, eq_self_iff_true, true_or, or_true]
          exact H _ hR.2
end
