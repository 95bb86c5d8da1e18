/-! the model's calls: first, shutIn -/
section
variable {d nd r : Nat} {n t : Nat} {sh : Nat → Nat × Nat} {I : Nat → Nat → Int32} {L : Nat → Nat → Int64} {R : Nat → Nat → Option Nat} {Q : Option Value → aH → Prop} {g : Nat → Nat → Option Nat} {q : List (Nat × Nat)} {s0 : Nat} {V : Nat → Nat}
theorem k171l (hd : 1 ≤ d) (hM : mK sh R) (hq : qI g nd s0 q q.length 0) (hA : fA g nd q q.length 0 I) (hV : stI q V I) (h1 : stS g nd r q V) (h2 : stF g nd q V) (H : Q (some (.int (cutF g nd r q q.length))) (n, t, sh, I, L, R)) {v1 : Int32} :
    ∀ m i, i + m = q.length → aE (a_cl_ d) 171 (28, [.ref 0, .int v1, .int (cutF g nd r q i), .int (nI i)], [], (n, t, sh, I, L, R)) Q := by
  have m0 := mm_0 hM; have x16 := mm_x16 hM; have y16 := mm_y16 hM; have r32 := mm_r32 hM; have x19 := mm_x19 hM; have y19 := mm_y19 hM; have r36 := mm_r36 hM
  have hB := qB_of hq
  have hl := hB.1
  have h33 := hA.1
  have e6 : (1000000 : Int32) = nI 1000000 := rfl
  intro m
  induction m with
  | zero =>
    intro i hi
    obtain rfl : i = q.length := by omega
    rw [e171_28]
    simp (disch := first | assumption | exact ct_i | exact ct_r | exact ct_n | exact ct_h | omega | exact z_in (by omega) (by omega) | exact b01 | exact Or.inl rfl | exact Or.inr rfl) only [e171_0, e171_1, e171_2, e171_5, e171_8, e171_10, e171_11, e171_12, e171_15, e171_16, e171_19, e171_20, e171_21, e171_24, e171_25, e171_26, e171_27, e171_29, e171_30, e171_33, e171_36, e171_37, e171_38, e171_41, e171_42, e171_45, e171_46, e171_47, e171_48, e171_51, e171_54, e171_55, e171_56, e171_59, e171_60, e171_61, e171_64, e171_65, e171_68, e171_69, e171_70, e171_71, e171_74, e171_77, e171_78, ct_i, ct_r, ct_n, ct_h, opt_v, opt_s, ref_s, ref_n, eq_self_iff_true, true_or, or_true, zl0, zl1, zl2, zl3, zl4, zl5, zl6, zl7, zl8, zl9, zl10, zl16, zl32, zl40, zl100, zl160, zIc1, zI_lt, zI_le, nI_eq, nI_add, z_sub, nI_clamp, zI_of, uu_eq, uu_ne, Nat.reduceLT, Nat.reduceLeDiff, Nat.reduceEqDiff, Nat.reduceAdd, Nat.reduceSub, Nat.reduceMul, Nat.not_lt_zero, Nat.lt_irrefl, Nat.le_refl, Bool.false_eq_true, false_and, and_false, true_and, and_true, if_pos, if_neg, if_true, if_false, not_true_eq_false, not_false_eq_true, m0, h33]
    exact H
  | succ m ih =>
    intro i hi
    have hlt : i < q.length := by omega
    have h16 := hA.2.1 i hlt
    have hs := hB.2.1 i hlt
    have g19 := hV i hlt
    have v6 := (h1 i hlt).1
    have hr := st_rch hq h1 h2 hlt
    have qq := ih (i + 1) (by omega)
    simp only [cutF] at qq
    rw [e171_28]
    by_cases hc : ∃ m, rch g nd r m (qS q i)
    · rw [if_pos hc] at qq
      have hv := hr.mpr hc
      simp (disch := first | assumption | exact ct_i | exact ct_r | exact ct_n | exact ct_h | omega | exact z_in (by omega) (by omega) | exact b01 | exact Or.inl rfl | exact Or.inr rfl) only [e171_0, e171_1, e171_2, e171_5, e171_8, e171_10, e171_11, e171_12, e171_15, e171_16, e171_19, e171_20, e171_21, e171_24, e171_25, e171_26, e171_27, e171_29, e171_30, e171_33, e171_36, e171_37, e171_38, e171_41, e171_42, e171_45, e171_46, e171_47, e171_48, e171_51, e171_54, e171_55, e171_56, e171_59, e171_60, e171_61, e171_64, e171_65, e171_68, e171_69, e171_70, e171_71, e171_74, e171_77, e171_78, ct_i, ct_r, ct_n, ct_h, opt_v, opt_s, ref_s, ref_n, eq_self_iff_true, true_or, or_true, zl0, zl1, zl2, zl3, zl4, zl5, zl6, zl7, zl8, zl9, zl10, zl16, zl32, zl40, zl100, zl160, zIc1, zI_lt, zI_le, nI_eq, nI_add, z_sub, nI_clamp, zI_of, uu_eq, uu_ne, Nat.reduceLT, Nat.reduceLeDiff, Nat.reduceEqDiff, Nat.reduceAdd, Nat.reduceSub, Nat.reduceMul, Nat.not_lt_zero, Nat.lt_irrefl, Nat.le_refl, Bool.false_eq_true, false_and, and_false, true_and, and_true, if_pos, if_neg, if_true, if_false, not_true_eq_false, not_false_eq_true, m0, x16, y16, r32, x19, y19, r36, h33, h16, g19, e6, hv]
      rw [show ∀ x : Int32, x ||| nI 0 = x from fun x => Int32.or_zero]
      exact qq
    · rw [if_neg hc] at qq
      have hv : ¬ V (qS q i) < 1000000 := fun h => hc (hr.mp h)
      simp (disch := first | assumption | exact ct_i | exact ct_r | exact ct_n | exact ct_h | omega | exact z_in (by omega) (by omega) | exact b01 | exact Or.inl rfl | exact Or.inr rfl) only [e171_0, e171_1, e171_2, e171_5, e171_8, e171_10, e171_11, e171_12, e171_15, e171_16, e171_19, e171_20, e171_21, e171_24, e171_25, e171_26, e171_27, e171_29, e171_30, e171_33, e171_36, e171_37, e171_38, e171_41, e171_42, e171_45, e171_46, e171_47, e171_48, e171_51, e171_54, e171_55, e171_56, e171_59, e171_60, e171_61, e171_64, e171_65, e171_68, e171_69, e171_70, e171_71, e171_74, e171_77, e171_78, ct_i, ct_r, ct_n, ct_h, opt_v, opt_s, ref_s, ref_n, eq_self_iff_true, true_or, or_true, zl0, zl1, zl2, zl3, zl4, zl5, zl6, zl7, zl8, zl9, zl10, zl16, zl32, zl40, zl100, zl160, zIc1, zI_lt, zI_le, nI_eq, nI_add, z_sub, nI_clamp, zI_of, uu_eq, uu_ne, Nat.reduceLT, Nat.reduceLeDiff, Nat.reduceEqDiff, Nat.reduceAdd, Nat.reduceSub, Nat.reduceMul, Nat.not_lt_zero, Nat.lt_irrefl, Nat.le_refl, Bool.false_eq_true, false_and, and_false, true_and, and_true, if_pos, if_neg, if_true, if_false, not_true_eq_false, not_false_eq_true, m0, x16, y16, r32, x19, y19, r36, h33, h16, g19, e6, hv, k165 hd hs]
      exact qq
end
section
variable {T0 : Nat} {Z : Nat → Nat} {D : Nat → Nat → Nat} {tx : Nat → Nat → List Nat} {tp so sz : Nat → Nat} {it : Nat → Nat → Int32} {d : Nat} {n t : Nat} {sh : Nat → Nat × Nat} {I : Nat → Nat → Int32} {L : Nat → Nat → Int64} {R : Nat → Nat → Option Nat} {I' : Nat → Nat → Int32} {Q : Option Value → aH → Prop}
theorem frV_M {I I' : Nat → Nat → Int32} (h : frV I I') : frM I I' := fun x k hx => h x k (fun e => hx (by unfold scM; omega))
theorem k171 (hd : 7 ≤ d) (hk : RM T0 Z D tx tp so sz it (n, t, sh, I, L, R)) {x : Int32} (H : ∀ h', RMh T0 Z D tx tp so sz it h' → Q (some (.int (shuS Z D tx x))) h') : aC d 171 [.ref 0, .int x] (n, t, sh, I, L, R) Q := by
  obtain ⟨d, rfl⟩ : ∃ e, d = e + 1 := ⟨d - 1, by omega⟩
  have hM := hk.2.2.1
  simp only [] at hM
  have m0 := mm_0 hM
  obtain ⟨_, _, hn4, hBd, _⟩ := RM_B hk
  have g0 := hk.2.2.2.2.2.1.1
  simp only [] at g0
  have o1 := hk.1.1
  have e2 := fun Q => k119 (Q := Q) (n := n) (t := t) (L := L) (show 2 ≤ d by omega) hM g0 o1.2 (x := x)
  unfold shuS at H
  cases hx : dec x (Z 0) with
  | none =>
    simp only [hx] at H
    have q := H _ hk.2
    simp only [hx, Option.isSome_none, Bool.false_eq_true, if_false] at e2
    simp (disch := first | assumption | exact ct_i | exact ct_r | exact ct_n | exact ct_h | omega | exact z_in (by omega) (by omega) | exact b01 | exact Or.inl rfl | exact Or.inr rfl) only [b171, e171_0, e171_1, e171_2, e171_5, e171_8, e171_10, e171_11, e171_12, e171_15, e171_16, e171_19, e171_20, e171_21, e171_24, e171_25, e171_26, e171_27, e171_29, e171_30, e171_33, e171_36, e171_37, e171_38, e171_41, e171_42, e171_45, e171_46, e171_47, e171_48, e171_51, e171_54, e171_55, e171_56, e171_59, e171_60, e171_61, e171_64, e171_65, e171_68, e171_69, e171_70, e171_71, e171_74, e171_77, e171_78, ct_i, ct_r, ct_n, ct_h, opt_v, opt_s, ref_s, ref_n, eq_self_iff_true, true_or, or_true, zl0, zl1, zl2, zl3, zl4, zl5, zl6, zl7, zl8, zl9, zl10, zl16, zl32, zl40, zl100, zl160, zIc1, zI_lt, zI_le, nI_eq, nI_add, z_sub, nI_clamp, zI_of, uu_eq, uu_ne, Nat.reduceLT, Nat.reduceLeDiff, Nat.reduceEqDiff, Nat.reduceAdd, Nat.reduceSub, Nat.reduceMul, Nat.not_lt_zero, Nat.lt_irrefl, Nat.le_refl, Bool.false_eq_true, false_and, and_false, true_and, and_true, if_pos, if_neg, if_true, if_false, not_true_eq_false, not_false_eq_true, m0, e2]
    exact q
  | some r =>
    obtain ⟨rfl, hr⟩ := dec_some (by omega) hx
    simp only [hx] at H
    simp only [hx, Option.isSome_some, if_true] at e2
    have hq : qI (bh (Z 1) D (tx (Z 4))) (Z 1) (Z 2) (sq Z D tx (Z 2)) (sq Z D tx (Z 2)).length 0 := bfs_I (bh_g hBd) hk.1.2.2.1.1
    simp (disch := first | assumption | exact ct_i | exact ct_r | exact ct_n | exact ct_h | omega | exact z_in (by omega) (by omega) | exact b01 | exact Or.inl rfl | exact Or.inr rfl) only [b171, e171_0, e171_1, e171_2, e171_5, e171_8, e171_10, e171_11, e171_12, e171_15, e171_16, e171_19, e171_20, e171_21, e171_24, e171_25, e171_26, e171_27, e171_29, e171_30, e171_33, e171_36, e171_37, e171_38, e171_41, e171_42, e171_45, e171_46, e171_47, e171_48, e171_51, e171_54, e171_55, e171_56, e171_59, e171_60, e171_61, e171_64, e171_65, e171_68, e171_69, e171_70, e171_71, e171_74, e171_77, e171_78, ct_i, ct_r, ct_n, ct_h, opt_v, opt_s, ref_s, ref_n, eq_self_iff_true, true_or, or_true, zl0, zl1, zl2, zl3, zl4, zl5, zl6, zl7, zl8, zl9, zl10, zl16, zl32, zl40, zl100, zl160, zIc1, zI_lt, zI_le, nI_eq, nI_add, z_sub, nI_clamp, zI_of, uu_eq, uu_ne, Nat.reduceLT, Nat.reduceLeDiff, Nat.reduceEqDiff, Nat.reduceAdd, Nat.reduceSub, Nat.reduceMul, Nat.not_lt_zero, Nat.lt_irrefl, Nat.le_refl, Bool.false_eq_true, false_and, and_false, true_and, and_true, if_pos, if_neg, if_true, if_false, not_true_eq_false, not_false_eq_true, m0, e2]
    refine kAs (by omega) hk (fun I1 ee hf hT => ?_)
    simp (disch := first | assumption | exact ct_i | exact ct_r | exact ct_n | exact ct_h | omega | exact z_in (by omega) (by omega) | exact b01 | exact Or.inl rfl | exact Or.inr rfl) only [e171_0, e171_1, e171_2, e171_5, e171_8, e171_10, e171_11, e171_12, e171_15, e171_16, e171_19, e171_20, e171_21, e171_24, e171_25, e171_26, e171_27, e171_29, e171_30, e171_33, e171_36, e171_37, e171_38, e171_41, e171_42, e171_45, e171_46, e171_47, e171_48, e171_51, e171_54, e171_55, e171_56, e171_59, e171_60, e171_61, e171_64, e171_65, e171_68, e171_69, e171_70, e171_71, e171_74, e171_77, e171_78, ct_i, ct_r, ct_n, ct_h, opt_v, opt_s, ref_s, ref_n, eq_self_iff_true, true_or, or_true, zl0, zl1, zl2, zl3, zl4, zl5, zl6, zl7, zl8, zl9, zl10, zl16, zl32, zl40, zl100, zl160, zIc1, zI_lt, zI_le, nI_eq, nI_add, z_sub, nI_clamp, zI_of, uu_eq, uu_ne, Nat.reduceLT, Nat.reduceLeDiff, Nat.reduceEqDiff, Nat.reduceAdd, Nat.reduceSub, Nat.reduceMul, Nat.not_lt_zero, Nat.lt_irrefl, Nat.le_refl, Bool.false_eq_true, false_and, and_false, true_and, and_true, if_pos, if_neg, if_true, if_false, not_true_eq_false, not_false_eq_true, m0]
    refine kFA (by omega) (RM_fr hk hf) hT (fun I2 hf2 hk2 h1 hA => ?_)
    simp (disch := first | assumption | exact ct_i | exact ct_r | exact ct_n | exact ct_h | omega | exact z_in (by omega) (by omega) | exact b01 | exact Or.inl rfl | exact Or.inr rfl) only [e171_0, e171_1, e171_2, e171_5, e171_8, e171_10, e171_11, e171_12, e171_15, e171_16, e171_19, e171_20, e171_21, e171_24, e171_25, e171_26, e171_27, e171_29, e171_30, e171_33, e171_36, e171_37, e171_38, e171_41, e171_42, e171_45, e171_46, e171_47, e171_48, e171_51, e171_54, e171_55, e171_56, e171_59, e171_60, e171_61, e171_64, e171_65, e171_68, e171_69, e171_70, e171_71, e171_74, e171_77, e171_78, ct_i, ct_r, ct_n, ct_h, opt_v, opt_s, ref_s, ref_n, eq_self_iff_true, true_or, or_true, zl0, zl1, zl2, zl3, zl4, zl5, zl6, zl7, zl8, zl9, zl10, zl16, zl32, zl40, zl100, zl160, zIc1, zI_lt, zI_le, nI_eq, nI_add, z_sub, nI_clamp, zI_of, uu_eq, uu_ne, Nat.reduceLT, Nat.reduceLeDiff, Nat.reduceEqDiff, Nat.reduceAdd, Nat.reduceSub, Nat.reduceMul, Nat.not_lt_zero, Nat.lt_irrefl, Nat.le_refl, Bool.false_eq_true, false_and, and_false, true_and, and_true, if_pos, if_neg, if_true, if_false, not_true_eq_false, not_false_eq_true, m0]
    refine k170 (by omega) hM h1 hn4 hq hA (show r < 6 by omega) (fun I3 V hf3 hV hS hF => ?_)
    simp (disch := first | assumption | exact ct_i | exact ct_r | exact ct_n | exact ct_h | omega | exact z_in (by omega) (by omega) | exact b01 | exact Or.inl rfl | exact Or.inr rfl) only [e171_0, e171_1, e171_2, e171_5, e171_8, e171_10, e171_11, e171_12, e171_15, e171_16, e171_19, e171_20, e171_21, e171_24, e171_25, e171_26, e171_27, e171_29, e171_30, e171_33, e171_36, e171_37, e171_38, e171_41, e171_42, e171_45, e171_46, e171_47, e171_48, e171_51, e171_54, e171_55, e171_56, e171_59, e171_60, e171_61, e171_64, e171_65, e171_68, e171_69, e171_70, e171_71, e171_74, e171_77, e171_78, ct_i, ct_r, ct_n, ct_h, opt_v, opt_s, ref_s, ref_n, eq_self_iff_true, true_or, or_true, zl0, zl1, zl2, zl3, zl4, zl5, zl6, zl7, zl8, zl9, zl10, zl16, zl32, zl40, zl100, zl160, zIc1, zI_lt, zI_le, nI_eq, nI_add, z_sub, nI_clamp, zI_of, uu_eq, uu_ne, Nat.reduceLT, Nat.reduceLeDiff, Nat.reduceEqDiff, Nat.reduceAdd, Nat.reduceSub, Nat.reduceMul, Nat.not_lt_zero, Nat.lt_irrefl, Nat.le_refl, Bool.false_eq_true, false_and, and_false, true_and, and_true, if_pos, if_neg, if_true, if_false, not_true_eq_false, not_false_eq_true, m0]
    exact k171l (by omega) hM hq (fA_V hA hf3) hV hS hF (H _ (RM_fr hk2 (frV_M hf3)).2) (sq Z D tx (Z 2)).length 0 (by omega)
/-- the first door that leads nearer -/
theorem k169w (hM : mK sh R) {nd : Nat} {q : List (Nat × Nat)} {g : Nat → Nat → Option Nat} {s0 r : Nat} {V : Nat → Nat} (hn : nd ≤ 4) (hq : qI g nd s0 q q.length 0) (hA : fA g nd q q.length 0 I) (hV : stI q V I) (h1 : stS g nd r q V) {k e v : Nat} (hk : k < q.length) (he : e < nd) (hv : V (qS q k) = v + 1) {y : Nat} (hgy : g (qS q k) e = some y) (hvy : V y = v)
    (hmin : ∀ d', d' < e → ∀ y', g (qS q k) d' = some y' → ¬ V y' = v) {v1 v2 v5 : Int32}
    (H : aE (a_cl_ d) 169 (121, [.ref 0, .int v1, .int v2, .int (nI (qS q k)), .int (nI e), .int v5], [], (n, t, sh, I, L, R)) Q) :
    ∀ m i, i + m = e → aE (a_cl_ d) 169 (74, [.ref 0, .int v1, .int v2, .int (nI (qS q k)), .int (nI i), .int v5], [], (n, t, sh, I, L, R)) Q := by
  have m0 := mm_0 hM; have x18 := mm_x18 hM; have y18 := mm_y18 hM; have r35 := mm_r35 hM; have x19 := mm_x19 hM; have y19 := mm_y19 hM; have r36 := mm_r36 hM
  have hB := qB_of hq
  have hs := hB.2.1 k hk
  have gk := hV k hk
  have vk := (h1 k hk).1
  intro m
  induction m with
  | zero =>
    intro i hi
    obtain rfl : i = e := by omega
    obtain ⟨j, hj, rfl, _⟩ := q_cl hq hk he hgy
    have hy := hB.2.1 j hj
    have gj := hV j hj
    have g18 := hA.2.2.2.2 k i hk he (Or.inl hk)
    rw [hgy] at g18
    have g18' : I 18 (4 * qS q k + i) = nI (qS q j) := g18
    rw [hv] at gk
    rw [hvy] at gj
    rw [e169_74]
    simp (disch := first | assumption | exact ct_i | exact ct_r | exact ct_n | exact ct_h | omega | exact z_in (by omega) (by omega) | exact b01 | exact Or.inl rfl | exact Or.inr rfl) only [e169_0, e169_1, e169_2, e169_5, e169_8, e169_10, e169_11, e169_12, e169_15, e169_16, e169_19, e169_20, e169_21, e169_24, e169_25, e169_28, e169_29, e169_30, e169_31, e169_32, e169_35, e169_36, e169_39, e169_40, e169_41, e169_44, e169_47, e169_48, e169_49, e169_52, e169_53, e169_54, e169_57, e169_58, e169_59, e169_60, e169_62, e169_63, e169_65, e169_67, e169_68, e169_71, e169_72, e169_75, e169_78, e169_79, e169_80, e169_81, e169_83, e169_84, e169_85, e169_88, e169_89, e169_92, e169_93, e169_96, e169_97, e169_98, e169_99, e169_101, e169_102, e169_103, e169_104, e169_105, e169_108, e169_109, e169_110, e169_111, e169_112, e169_115, e169_118, e169_122, e169_125, e169_126, e169_127, e169_128, e169_130, e169_131, e169_132, e169_133, e169_136, e169_139, e169_141, ct_i, ct_r, ct_n, ct_h, opt_v, opt_s, ref_s, ref_n, eq_self_iff_true, true_or, or_true, zl0, zl1, zl2, zl3, zl4, zl5, zl6, zl7, zl8, zl9, zl10, zl16, zl32, zl40, zl100, zl160, zIc1, zI_lt, zI_le, nI_eq, nI_add, z_sub, nI_clamp, zI_of, uu_eq, uu_ne, Nat.reduceLT, Nat.reduceLeDiff, Nat.reduceEqDiff, Nat.reduceAdd, Nat.reduceSub, Nat.reduceMul, Nat.not_lt_zero, Nat.lt_irrefl, Nat.le_refl, Bool.false_eq_true, false_and, and_false, true_and, and_true, if_pos, if_neg, if_true, if_false, not_true_eq_false, not_false_eq_true, zI_mul, m0, x18, y18, r35, x19, y19, r36, g18', gj, gk, Nat.add_sub_cancel]
    exact H
  | succ m ih =>
    intro i hi
    have hlt : i < nd := by omega
    have qq := ih (i + 1) (by omega)
    have g18 := hA.2.2.2.2 k i hk hlt (Or.inl hk)
    rw [e169_74]
    cases hg : g (qS q k) i with
    | none =>
      rw [hg] at g18
      have g18' : I 18 (4 * qS q k + i) = -nI 1 := g18
      have hneg : -nI 1 < nI 0 := by decide
      simp (disch := first | assumption | exact ct_i | exact ct_r | exact ct_n | exact ct_h | omega | exact z_in (by omega) (by omega) | exact b01 | exact Or.inl rfl | exact Or.inr rfl) only [e169_0, e169_1, e169_2, e169_5, e169_8, e169_10, e169_11, e169_12, e169_15, e169_16, e169_19, e169_20, e169_21, e169_24, e169_25, e169_28, e169_29, e169_30, e169_31, e169_32, e169_35, e169_36, e169_39, e169_40, e169_41, e169_44, e169_47, e169_48, e169_49, e169_52, e169_53, e169_54, e169_57, e169_58, e169_59, e169_60, e169_62, e169_63, e169_65, e169_67, e169_68, e169_71, e169_72, e169_75, e169_78, e169_79, e169_80, e169_81, e169_83, e169_84, e169_85, e169_88, e169_89, e169_92, e169_93, e169_96, e169_97, e169_98, e169_99, e169_101, e169_102, e169_103, e169_104, e169_105, e169_108, e169_109, e169_110, e169_111, e169_112, e169_115, e169_118, e169_122, e169_125, e169_126, e169_127, e169_128, e169_130, e169_131, e169_132, e169_133, e169_136, e169_139, e169_141, ct_i, ct_r, ct_n, ct_h, opt_v, opt_s, ref_s, ref_n, eq_self_iff_true, true_or, or_true, zl0, zl1, zl2, zl3, zl4, zl5, zl6, zl7, zl8, zl9, zl10, zl16, zl32, zl40, zl100, zl160, zIc1, zI_lt, zI_le, nI_eq, nI_add, z_sub, nI_clamp, zI_of, uu_eq, uu_ne, Nat.reduceLT, Nat.reduceLeDiff, Nat.reduceEqDiff, Nat.reduceAdd, Nat.reduceSub, Nat.reduceMul, Nat.not_lt_zero, Nat.lt_irrefl, Nat.le_refl, Bool.false_eq_true, false_and, and_false, true_and, and_true, if_pos, if_neg, if_true, if_false, not_true_eq_false, not_false_eq_true, zI_mul, m0, x18, y18, r35, g18', hneg]
      exact qq
    | some y' =>
      obtain ⟨j, hj, rfl, _⟩ := q_cl hq hk hlt hg
      have hy := hB.2.1 j hj
      have gj := hV j hj
      have vj := (h1 j hj).1
      rw [hg] at g18
      have g18' : I 18 (4 * qS q k + i) = nI (qS q j) := g18
      have hne := hmin i (by omega) _ hg
      rw [hv] at gk
      have hvb : v < 1000000 := by omega
      simp (disch := first | assumption | exact ct_i | exact ct_r | exact ct_n | exact ct_h | omega | exact z_in (by omega) (by omega) | exact b01 | exact Or.inl rfl | exact Or.inr rfl) only [e169_0, e169_1, e169_2, e169_5, e169_8, e169_10, e169_11, e169_12, e169_15, e169_16, e169_19, e169_20, e169_21, e169_24, e169_25, e169_28, e169_29, e169_30, e169_31, e169_32, e169_35, e169_36, e169_39, e169_40, e169_41, e169_44, e169_47, e169_48, e169_49, e169_52, e169_53, e169_54, e169_57, e169_58, e169_59, e169_60, e169_62, e169_63, e169_65, e169_67, e169_68, e169_71, e169_72, e169_75, e169_78, e169_79, e169_80, e169_81, e169_83, e169_84, e169_85, e169_88, e169_89, e169_92, e169_93, e169_96, e169_97, e169_98, e169_99, e169_101, e169_102, e169_103, e169_104, e169_105, e169_108, e169_109, e169_110, e169_111, e169_112, e169_115, e169_118, e169_122, e169_125, e169_126, e169_127, e169_128, e169_130, e169_131, e169_132, e169_133, e169_136, e169_139, e169_141, ct_i, ct_r, ct_n, ct_h, opt_v, opt_s, ref_s, ref_n, eq_self_iff_true, true_or, or_true, zl0, zl1, zl2, zl3, zl4, zl5, zl6, zl7, zl8, zl9, zl10, zl16, zl32, zl40, zl100, zl160, zIc1, zI_lt, zI_le, nI_eq, nI_add, z_sub, nI_clamp, zI_of, uu_eq, uu_ne, Nat.reduceLT, Nat.reduceLeDiff, Nat.reduceEqDiff, Nat.reduceAdd, Nat.reduceSub, Nat.reduceMul, Nat.not_lt_zero, Nat.lt_irrefl, Nat.le_refl, Bool.false_eq_true, false_and, and_false, true_and, and_true, if_pos, if_neg, if_true, if_false, not_true_eq_false, not_false_eq_true, zI_mul, m0, x18, y18, r35, x19, y19, r36, g18', gj, gk, Nat.add_sub_cancel, hne]
      exact qq
theorem k169l (hM : mK sh R) {nd : Nat} {q : List (Nat × Nat)} {g : Nat → Nat → Option Nat} {s0 r : Nat} {V : Nat → Nat} (hn : nd ≤ 4) (hq : qI g nd s0 q q.length 0) (hA : fA g nd q q.length 0 I) (hV : stI q V I) (h1 : stS g nd r q V) (h2 : stF g nd q V) {k : Nat} (hf : firR q r = some k) (hk : k < q.length) (hr : rmo (qS q k) = r) (hfst : ∀ i, i < k → ¬ rmo (qS q i) = r) {i0 : Nat} (hi0 : i0 < dep q k) {v1 : Int32}
    (H : Q (some (.int (oI (wayD g nd q (anc q (dep q k - 1 - i0) k))))) (n, t, sh, I, L, R)) :
    ∀ m i l4, i + m = i0 → l4.category = 1 → aE (a_cl_ d) 169 (65, [.ref 0, .int v1, .int (nI i0), .int (nI (qS q (anc q (dep q k - i) k))), l4, .int (nI i)], [], (n, t, sh, I, L, R)) Q := by
  have m0 := mm_0 hM; have x18 := mm_x18 hM; have y18 := mm_y18 hM; have r35 := mm_r35 hM
  have hp := qI_par hq
  have hB := qB_of hq
  have hl := hB.1
  have hdk := dep_le hp k hk
  -- one step
  have step : ∀ i, i ≤ i0 → ∀ l4, l4.category = 1 → (∀ e, wayD g nd q (anc q (dep q k - 1 - i) k) = some e → e < 4 → aE (a_cl_ d) 169 (65, [.ref 0, .int v1, .int (nI i0), .int (nI (qS q (anc q (dep q k - (i + 1)) k))), .int (nI e), .int (nI (i + 1))], [], (n, t, sh, I, L, R)) Q) →
      aE (a_cl_ d) 169 (65, [.ref 0, .int v1, .int (nI i0), .int (nI (qS q (anc q (dep q k - i) k))), l4, .int (nI i)], [], (n, t, sh, I, L, R)) Q := fun i hi l4 hc K => by
    have hd1 : dep q k - i = (dep q k - 1 - i) + 1 := by omega
    obtain ⟨a1, a2⟩ := an_dep hp (dep q k - 1 - i) k hk (by omega)
    obtain ⟨b1, b2⟩ := an_dep hp (dep q k - 1 - i + 1) k hk (by omega)
    have hpos := anc_pos hp hk (show dep q k - 1 - i < dep q k by omega)
    obtain ⟨e, he, hw, hg, hm⟩ := wayD_e (nd := nd) hq hpos a1
    have e4 : e < 4 := by omega
    have hs := hB.2.1 _ b1
    have hv := st_way hq h1 h2 hf hk hr hfst (show dep q k - 1 - i + 1 ≤ dep q k by omega)
    have hvy := st_way hq h1 h2 hf hk hr hfst (show dep q k - 1 - i ≤ dep q k by omega)
    have hK := K e hw e4
    rw [show dep q k - (i + 1) = dep q k - 1 - i by omega] at hK
    have hg18 := hA.2.2.2.2 _ e b1 he (Or.inl b1)
    have hg' : g (qS q (anc q (dep q k - 1 - i + 1) k)) e = some (qS q (anc q (dep q k - 1 - i) k)) := by rw [anc_s]; exact hg
    rw [hg'] at hg18
    have hg18' : I 18 (4 * qS q (anc q (dep q k - 1 - i + 1) k) + e) = nI (qS q (anc q (dep q k - 1 - i) k)) := hg18
    rw [hd1, e169_65]
    have hle : ¬ i0 < i := by omega
    have h64 : i0 < 6144 := by omega
    simp (disch := first | assumption | exact ct_i | exact ct_r | exact ct_n | exact ct_h | omega | exact z_in (by omega) (by omega) | exact b01 | exact Or.inl rfl | exact Or.inr rfl) only [e169_0, e169_1, e169_2, e169_5, e169_8, e169_10, e169_11, e169_12, e169_15, e169_16, e169_19, e169_20, e169_21, e169_24, e169_25, e169_28, e169_29, e169_30, e169_31, e169_32, e169_35, e169_36, e169_39, e169_40, e169_41, e169_44, e169_47, e169_48, e169_49, e169_52, e169_53, e169_54, e169_57, e169_58, e169_59, e169_60, e169_62, e169_63, e169_67, e169_68, e169_71, e169_72, e169_75, e169_78, e169_79, e169_80, e169_81, e169_83, e169_84, e169_85, e169_88, e169_89, e169_92, e169_93, e169_96, e169_97, e169_98, e169_99, e169_101, e169_102, e169_103, e169_104, e169_105, e169_108, e169_109, e169_110, e169_111, e169_112, e169_115, e169_118, e169_121, e169_122, e169_125, e169_126, e169_127, e169_128, e169_130, e169_131, e169_132, e169_133, e169_136, e169_139, e169_141, ct_i, ct_r, ct_n, ct_h, opt_v, opt_s, ref_s, ref_n, eq_self_iff_true, true_or, or_true, zl0, zl1, zl2, zl3, zl4, zl5, zl6, zl7, zl8, zl9, zl10, zl16, zl32, zl40, zl100, zl160, zIc1, zI_lt, zI_le, nI_eq, nI_add, z_sub, nI_clamp, zI_of, uu_eq, uu_ne, Nat.reduceLT, Nat.reduceLeDiff, Nat.reduceEqDiff, Nat.reduceAdd, Nat.reduceSub, Nat.reduceMul, Nat.not_lt_zero, Nat.lt_irrefl, Nat.le_refl, Bool.false_eq_true, false_and, and_false, true_and, and_true, if_pos, if_neg, if_true, if_false, not_true_eq_false, not_false_eq_true, hle]
    refine k169w hM hn hq hA hV h1 b1 he hv hg' hvy (fun d' hd' y' hgy' hvy' => ?_) ?_ e 0 (by omega)
    · rw [anc_s] at hgy'
      obtain ⟨i2, hi2, rfl⟩ := hm d' hd' y' hgy'
      have hfin : ¬ V (qS q i2) = 1000000 := by
        rw [hvy']; omega
      have hrn := (h1 i2 (by omega)).2.1.resolve_left hfin
      rw [hvy'] at hrn
      obtain ⟨i3, hi3, hr3⟩ := ahead hq hk (dep q k - 1 - i) i2 (by omega) hi2 hrn
      exact hfst i3 hi3 hr3
    · simp (disch := first | assumption | exact ct_i | exact ct_r | exact ct_n | exact ct_h | omega | exact z_in (by omega) (by omega) | exact b01 | exact Or.inl rfl | exact Or.inr rfl) only [e169_0, e169_1, e169_2, e169_5, e169_8, e169_10, e169_11, e169_12, e169_15, e169_16, e169_19, e169_20, e169_21, e169_24, e169_25, e169_28, e169_29, e169_30, e169_31, e169_32, e169_35, e169_36, e169_39, e169_40, e169_41, e169_44, e169_47, e169_48, e169_49, e169_52, e169_53, e169_54, e169_57, e169_58, e169_59, e169_60, e169_62, e169_63, e169_67, e169_68, e169_71, e169_72, e169_75, e169_78, e169_79, e169_80, e169_81, e169_83, e169_84, e169_85, e169_88, e169_89, e169_92, e169_93, e169_96, e169_97, e169_98, e169_99, e169_101, e169_102, e169_103, e169_104, e169_105, e169_108, e169_109, e169_110, e169_111, e169_112, e169_115, e169_118, e169_121, e169_122, e169_125, e169_126, e169_127, e169_128, e169_130, e169_131, e169_132, e169_133, e169_136, e169_139, e169_141, ct_i, ct_r, ct_n, ct_h, opt_v, opt_s, ref_s, ref_n, eq_self_iff_true, true_or, or_true, zl0, zl1, zl2, zl3, zl4, zl5, zl6, zl7, zl8, zl9, zl10, zl16, zl32, zl40, zl100, zl160, zIc1, zI_lt, zI_le, nI_eq, nI_add, z_sub, nI_clamp, zI_of, uu_eq, uu_ne, Nat.reduceLT, Nat.reduceLeDiff, Nat.reduceEqDiff, Nat.reduceAdd, Nat.reduceSub, Nat.reduceMul, Nat.not_lt_zero, Nat.lt_irrefl, Nat.le_refl, Bool.false_eq_true, false_and, and_false, true_and, and_true, if_pos, if_neg, if_true, if_false, not_true_eq_false, not_false_eq_true, zI_mul, m0, x18, y18, r35, hg18']
      exact hK
  intro m
  induction m with
  | zero =>
    intro i l4 hi hc
    obtain rfl : i = i0 := by omega
    refine step i (Nat.le_refl _) l4 hc (fun e hw e4 => ?_)
    have h64 : i < 6144 := by omega
    have hlt : i < i + 1 := by omega
    rw [hw] at H
    rw [e169_65]
    simp (disch := first | assumption | exact ct_i | exact ct_r | exact ct_n | exact ct_h | omega | exact z_in (by omega) (by omega) | exact b01 | exact Or.inl rfl | exact Or.inr rfl) only [e169_0, e169_1, e169_2, e169_5, e169_8, e169_10, e169_11, e169_12, e169_15, e169_16, e169_19, e169_20, e169_21, e169_24, e169_25, e169_28, e169_29, e169_30, e169_31, e169_32, e169_35, e169_36, e169_39, e169_40, e169_41, e169_44, e169_47, e169_48, e169_49, e169_52, e169_53, e169_54, e169_57, e169_58, e169_59, e169_60, e169_62, e169_63, e169_67, e169_68, e169_71, e169_72, e169_75, e169_78, e169_79, e169_80, e169_81, e169_83, e169_84, e169_85, e169_88, e169_89, e169_92, e169_93, e169_96, e169_97, e169_98, e169_99, e169_101, e169_102, e169_103, e169_104, e169_105, e169_108, e169_109, e169_110, e169_111, e169_112, e169_115, e169_118, e169_121, e169_122, e169_125, e169_126, e169_127, e169_128, e169_130, e169_131, e169_132, e169_133, e169_136, e169_139, e169_141, ct_i, ct_r, ct_n, ct_h, opt_v, opt_s, ref_s, ref_n, eq_self_iff_true, true_or, or_true, zl0, zl1, zl2, zl3, zl4, zl5, zl6, zl7, zl8, zl9, zl10, zl16, zl32, zl40, zl100, zl160, zIc1, zI_lt, zI_le, nI_eq, nI_add, z_sub, nI_clamp, zI_of, uu_eq, uu_ne, Nat.reduceLT, Nat.reduceLeDiff, Nat.reduceEqDiff, Nat.reduceAdd, Nat.reduceSub, Nat.reduceMul, Nat.not_lt_zero, Nat.lt_irrefl, Nat.le_refl, Bool.false_eq_true, false_and, and_false, true_and, and_true, if_pos, if_neg, if_true, if_false, not_true_eq_false, not_false_eq_true, hlt]
    exact H
  | succ m ih =>
    intro i l4 hi hc
    exact step i (by omega) l4 hc (fun e hw e4 => ih (i + 1) _ (by omega) rfl)
theorem firR_some {q : List (Nat × Nat)} {r k : Nat} (h : firR q r = some k) : k < q.length ∧ rmo (qS q k) = r ∧ ∀ i, i < k → ¬ rmo (qS q i) = r := by
  have key : ∀ n, ffi (fun k => decide (rmo (qS q k) = r)) n = some k → k < n ∧ rmo (qS q k) = r ∧ ∀ i, i < k → ¬ rmo (qS q i) = r := by
    intro n
    induction n with
    | zero => intro h; cases h
    | succ n ih =>
      intro h
      simp only [ffi] at h
      cases he : ffi (fun k => decide (rmo (qS q k) = r)) n with
      | some j =>
        rw [he] at h
        cases h
        have := ih he
        exact ⟨by omega, this.2⟩
      | none =>
        rw [he] at h
        simp only [] at h
        split at h
        · rename_i hd
          injection h with hnk
          refine ⟨by omega, by rw [← hnk]; exact of_decide_eq_true hd, fun i hi hri => ?_⟩
          have : ∀ m, m ≤ n → ffi (fun k => decide (rmo (qS q k) = r)) m = none := by
            intro m hm
            cases hm2 : ffi (fun k => decide (rmo (qS q k) = r)) m with
            | none => rfl
            | some j =>
              have up : ∀ p, ffi (fun k => decide (rmo (qS q k) = r)) (m + p) = some j := by
                intro p
                induction p with
                | zero => exact hm2
                | succ p ihp => show ffi _ (m + p + 1) = _; simp only [ffi, ihp]
              have := up (n - m)
              rw [show m + (n - m) = n by omega, he] at this
              cases this
          have := ffi_up (p := fun k => decide (rmo (qS q k) = r)) (this i (by omega)) (decide_eq_true hri) n (by omega)
          rw [he] at this; cases this
        · cases h
  exact key _ h
theorem firR_none {q : List (Nat × Nat)} {r : Nat} (h : firR q r = none) : ∀ i, i < q.length → ¬ rmo (qS q i) = r := by
  have key : ∀ n, ffi (fun k => decide (rmo (qS q k) = r)) n = none → ∀ i, i < n → ¬ rmo (qS q i) = r := by
    intro n
    induction n with
    | zero => intro _ i hi; omega
    | succ n ih =>
      intro h i hi
      simp only [ffi] at h
      cases he : ffi (fun k => decide (rmo (qS q k) = r)) n with
      | some j => rw [he] at h; cases h
      | none =>
        rw [he] at h
        simp only [] at h
        split at h
        · cases h
        · rename_i hd
          by_cases hin : i = n
          · subst hin; exact fun e => hd (decide_eq_true e)
          · exact ih he i (by omega)
  exact key _ h
theorem k169 (hd : 7 ≤ d) (hk : RM T0 Z D tx tp so sz it (n, t, sh, I, L, R)) {x y : Int32} (H : ∀ h', RMh T0 Z D tx tp so sz it h' → Q (some (.int (firS Z D tx x y))) h') : aC d 169 [.ref 0, .int x, .int y] (n, t, sh, I, L, R) Q := by
  obtain ⟨d, rfl⟩ : ∃ e, d = e + 1 := ⟨d - 1, by omega⟩
  have hM := hk.2.2.1
  simp only [] at hM
  have m0 := mm_0 hM; have x16 := mm_x16 hM; have y16 := mm_y16 hM; have r32 := mm_r32 hM; have x19 := mm_x19 hM; have y19 := mm_y19 hM; have r36 := mm_r36 hM
  obtain ⟨_, _, hn4, hBd, _⟩ := RM_B hk
  have g0 := hk.2.2.2.2.2.1.1
  simp only [] at g0
  have o1 := hk.1.1
  have e2 := fun Q => k119 (Q := Q) (n := n) (t := t) (L := L) (show 2 ≤ d by omega) hM g0 o1.2 (x := x)
  unfold firS at H
  cases hx : dec x (Z 0) with
  | none =>
    simp only [hx] at H
    have q := H _ hk.2
    simp only [hx, Option.isSome_none, Bool.false_eq_true, if_false] at e2
    simp (disch := first | assumption | exact ct_i | exact ct_r | exact ct_n | exact ct_h | omega | exact z_in (by omega) (by omega) | exact b01 | exact Or.inl rfl | exact Or.inr rfl) only [b169, e169_0, e169_1, e169_2, e169_5, e169_8, e169_10, e169_11, e169_12, e169_15, e169_16, e169_19, e169_20, e169_21, e169_24, e169_25, e169_28, e169_29, e169_30, e169_31, e169_32, e169_35, e169_36, e169_39, e169_40, e169_41, e169_44, e169_47, e169_48, e169_49, e169_52, e169_53, e169_54, e169_57, e169_58, e169_59, e169_60, e169_62, e169_63, e169_67, e169_68, e169_71, e169_72, e169_74, e169_75, e169_78, e169_79, e169_80, e169_81, e169_83, e169_84, e169_85, e169_88, e169_89, e169_92, e169_93, e169_96, e169_97, e169_98, e169_99, e169_101, e169_102, e169_103, e169_104, e169_105, e169_108, e169_109, e169_110, e169_111, e169_112, e169_115, e169_118, e169_121, e169_122, e169_125, e169_126, e169_127, e169_128, e169_130, e169_131, e169_132, e169_133, e169_136, e169_139, e169_141, ct_i, ct_r, ct_n, ct_h, opt_v, opt_s, ref_s, ref_n, eq_self_iff_true, true_or, or_true, zl0, zl1, zl2, zl3, zl4, zl5, zl6, zl7, zl8, zl9, zl10, zl16, zl32, zl40, zl100, zl160, zIc1, zI_lt, zI_le, nI_eq, nI_add, z_sub, nI_clamp, zI_of, uu_eq, uu_ne, Nat.reduceLT, Nat.reduceLeDiff, Nat.reduceEqDiff, Nat.reduceAdd, Nat.reduceSub, Nat.reduceMul, Nat.not_lt_zero, Nat.lt_irrefl, Nat.le_refl, Bool.false_eq_true, false_and, and_false, true_and, and_true, if_pos, if_neg, if_true, if_false, not_true_eq_false, not_false_eq_true, m0, e2]
    exact q
  | some r =>
    obtain ⟨rfl, hr⟩ := dec_some (by omega) hx
    simp only [hx] at H
    simp only [hx, Option.isSome_some, if_true] at e2
    have hq : qI (bh (Z 1) D (tx (Z 4))) (Z 1) (Z 2) (sq Z D tx (Z 2)) (sq Z D tx (Z 2)).length 0 := bfs_I (bh_g hBd) hk.1.2.2.1.1
    have hpos := hq.1.1
    have hB := qB_of hq
    have hl := hB.1
    have e6 : (1000000 : Int32) = nI 1000000 := rfl
    simp (disch := first | assumption | exact ct_i | exact ct_r | exact ct_n | exact ct_h | omega | exact z_in (by omega) (by omega) | exact b01 | exact Or.inl rfl | exact Or.inr rfl) only [b169, e169_0, e169_1, e169_2, e169_5, e169_8, e169_10, e169_11, e169_12, e169_15, e169_16, e169_19, e169_20, e169_21, e169_24, e169_25, e169_28, e169_29, e169_30, e169_31, e169_32, e169_35, e169_36, e169_39, e169_40, e169_41, e169_44, e169_47, e169_48, e169_49, e169_52, e169_53, e169_54, e169_57, e169_58, e169_59, e169_60, e169_62, e169_63, e169_67, e169_68, e169_71, e169_72, e169_74, e169_75, e169_78, e169_79, e169_80, e169_81, e169_83, e169_84, e169_85, e169_88, e169_89, e169_92, e169_93, e169_96, e169_97, e169_98, e169_99, e169_101, e169_102, e169_103, e169_104, e169_105, e169_108, e169_109, e169_110, e169_111, e169_112, e169_115, e169_118, e169_121, e169_122, e169_125, e169_126, e169_127, e169_128, e169_130, e169_131, e169_132, e169_133, e169_136, e169_139, e169_141, ct_i, ct_r, ct_n, ct_h, opt_v, opt_s, ref_s, ref_n, eq_self_iff_true, true_or, or_true, zl0, zl1, zl2, zl3, zl4, zl5, zl6, zl7, zl8, zl9, zl10, zl16, zl32, zl40, zl100, zl160, zIc1, zI_lt, zI_le, nI_eq, nI_add, z_sub, nI_clamp, zI_of, uu_eq, uu_ne, Nat.reduceLT, Nat.reduceLeDiff, Nat.reduceEqDiff, Nat.reduceAdd, Nat.reduceSub, Nat.reduceMul, Nat.not_lt_zero, Nat.lt_irrefl, Nat.le_refl, Bool.false_eq_true, false_and, and_false, true_and, and_true, if_pos, if_neg, if_true, if_false, not_true_eq_false, not_false_eq_true, m0, e2]
    refine kAs (by omega) hk (fun I1 ee hf hT => ?_)
    simp (disch := first | assumption | exact ct_i | exact ct_r | exact ct_n | exact ct_h | omega | exact z_in (by omega) (by omega) | exact b01 | exact Or.inl rfl | exact Or.inr rfl) only [e169_0, e169_1, e169_2, e169_5, e169_8, e169_10, e169_11, e169_12, e169_15, e169_16, e169_19, e169_20, e169_21, e169_24, e169_25, e169_28, e169_29, e169_30, e169_31, e169_32, e169_35, e169_36, e169_39, e169_40, e169_41, e169_44, e169_47, e169_48, e169_49, e169_52, e169_53, e169_54, e169_57, e169_58, e169_59, e169_60, e169_62, e169_63, e169_67, e169_68, e169_71, e169_72, e169_74, e169_75, e169_78, e169_79, e169_80, e169_81, e169_83, e169_84, e169_85, e169_88, e169_89, e169_92, e169_93, e169_96, e169_97, e169_98, e169_99, e169_101, e169_102, e169_103, e169_104, e169_105, e169_108, e169_109, e169_110, e169_111, e169_112, e169_115, e169_118, e169_121, e169_122, e169_125, e169_126, e169_127, e169_128, e169_130, e169_131, e169_132, e169_133, e169_136, e169_139, e169_141, ct_i, ct_r, ct_n, ct_h, opt_v, opt_s, ref_s, ref_n, eq_self_iff_true, true_or, or_true, zl0, zl1, zl2, zl3, zl4, zl5, zl6, zl7, zl8, zl9, zl10, zl16, zl32, zl40, zl100, zl160, zIc1, zI_lt, zI_le, nI_eq, nI_add, z_sub, nI_clamp, zI_of, uu_eq, uu_ne, Nat.reduceLT, Nat.reduceLeDiff, Nat.reduceEqDiff, Nat.reduceAdd, Nat.reduceSub, Nat.reduceMul, Nat.not_lt_zero, Nat.lt_irrefl, Nat.le_refl, Bool.false_eq_true, false_and, and_false, true_and, and_true, if_pos, if_neg, if_true, if_false, not_true_eq_false, not_false_eq_true, m0]
    refine kFA (by omega) (RM_fr hk hf) hT (fun I2 hf2 hk2 h1 hA => ?_)
    simp (disch := first | assumption | exact ct_i | exact ct_r | exact ct_n | exact ct_h | omega | exact z_in (by omega) (by omega) | exact b01 | exact Or.inl rfl | exact Or.inr rfl) only [e169_0, e169_1, e169_2, e169_5, e169_8, e169_10, e169_11, e169_12, e169_15, e169_16, e169_19, e169_20, e169_21, e169_24, e169_25, e169_28, e169_29, e169_30, e169_31, e169_32, e169_35, e169_36, e169_39, e169_40, e169_41, e169_44, e169_47, e169_48, e169_49, e169_52, e169_53, e169_54, e169_57, e169_58, e169_59, e169_60, e169_62, e169_63, e169_67, e169_68, e169_71, e169_72, e169_74, e169_75, e169_78, e169_79, e169_80, e169_81, e169_83, e169_84, e169_85, e169_88, e169_89, e169_92, e169_93, e169_96, e169_97, e169_98, e169_99, e169_101, e169_102, e169_103, e169_104, e169_105, e169_108, e169_109, e169_110, e169_111, e169_112, e169_115, e169_118, e169_121, e169_122, e169_125, e169_126, e169_127, e169_128, e169_130, e169_131, e169_132, e169_133, e169_136, e169_139, e169_141, ct_i, ct_r, ct_n, ct_h, opt_v, opt_s, ref_s, ref_n, eq_self_iff_true, true_or, or_true, zl0, zl1, zl2, zl3, zl4, zl5, zl6, zl7, zl8, zl9, zl10, zl16, zl32, zl40, zl100, zl160, zIc1, zI_lt, zI_le, nI_eq, nI_add, z_sub, nI_clamp, zI_of, uu_eq, uu_ne, Nat.reduceLT, Nat.reduceLeDiff, Nat.reduceEqDiff, Nat.reduceAdd, Nat.reduceSub, Nat.reduceMul, Nat.not_lt_zero, Nat.lt_irrefl, Nat.le_refl, Bool.false_eq_true, false_and, and_false, true_and, and_true, if_pos, if_neg, if_true, if_false, not_true_eq_false, not_false_eq_true, m0]
    refine k170 (by omega) hM h1 hn4 hq hA (show r < 6 by omega) (fun I3 V hf3 hV hS hF => ?_)
    have hA3 := fA_V hA hf3
    have g16 := hA3.2.1 0 hpos
    have g19 := hV 0 hpos
    have hs := hB.2.1 0 hpos
    have hk3 := RM_fr hk2 (frV_M hf3)
    have q := H _ hk3.2
    cases hfr : firR (sq Z D tx (Z 2)) r with
    | none =>
      simp only [hfr] at q
      have hfar : V (qS (sq Z D tx (Z 2)) 0) = 1000000 := by
        rcases (hS 0 hpos).2.1 with h | h
        · exact h
        · obtain ⟨j, hj, hjr, _⟩ := dn_rn hq _ 0 hpos h
          exact absurd hjr (firR_none hfr j hj)
      rw [hfar] at g19
      by_cases hy0 : y < nI 0
      · simp (disch := first | assumption | exact ct_i | exact ct_r | exact ct_n | exact ct_h | omega | exact z_in (by omega) (by omega) | exact b01 | exact Or.inl rfl | exact Or.inr rfl) only [e169_0, e169_1, e169_2, e169_5, e169_8, e169_10, e169_11, e169_12, e169_15, e169_16, e169_19, e169_20, e169_21, e169_24, e169_25, e169_28, e169_29, e169_30, e169_31, e169_32, e169_35, e169_36, e169_39, e169_40, e169_41, e169_44, e169_47, e169_48, e169_49, e169_52, e169_53, e169_54, e169_57, e169_58, e169_59, e169_60, e169_62, e169_63, e169_67, e169_68, e169_71, e169_72, e169_74, e169_75, e169_78, e169_79, e169_80, e169_81, e169_83, e169_84, e169_85, e169_88, e169_89, e169_92, e169_93, e169_96, e169_97, e169_98, e169_99, e169_101, e169_102, e169_103, e169_104, e169_105, e169_108, e169_109, e169_110, e169_111, e169_112, e169_115, e169_118, e169_121, e169_122, e169_125, e169_126, e169_127, e169_128, e169_130, e169_131, e169_132, e169_133, e169_136, e169_139, e169_141, ct_i, ct_r, ct_n, ct_h, opt_v, opt_s, ref_s, ref_n, eq_self_iff_true, true_or, or_true, zl0, zl1, zl2, zl3, zl4, zl5, zl6, zl7, zl8, zl9, zl10, zl16, zl32, zl40, zl100, zl160, zIc1, zI_lt, zI_le, nI_eq, nI_add, z_sub, nI_clamp, zI_of, uu_eq, uu_ne, Nat.reduceLT, Nat.reduceLeDiff, Nat.reduceEqDiff, Nat.reduceAdd, Nat.reduceSub, Nat.reduceMul, Nat.not_lt_zero, Nat.lt_irrefl, Nat.le_refl, Bool.false_eq_true, false_and, and_false, true_and, and_true, if_pos, if_neg, if_true, if_false, not_true_eq_false, not_false_eq_true, m0, x16, y16, r32, x19, y19, r36, g16, g19, e6, hy0]
        exact q
      · simp (disch := first | assumption | exact ct_i | exact ct_r | exact ct_n | exact ct_h | omega | exact z_in (by omega) (by omega) | exact b01 | exact Or.inl rfl | exact Or.inr rfl) only [e169_0, e169_1, e169_2, e169_5, e169_8, e169_10, e169_11, e169_12, e169_15, e169_16, e169_19, e169_20, e169_21, e169_24, e169_25, e169_28, e169_29, e169_30, e169_31, e169_32, e169_35, e169_36, e169_39, e169_40, e169_41, e169_44, e169_47, e169_48, e169_49, e169_52, e169_53, e169_54, e169_57, e169_58, e169_59, e169_60, e169_62, e169_63, e169_67, e169_68, e169_71, e169_72, e169_74, e169_75, e169_78, e169_79, e169_80, e169_81, e169_83, e169_84, e169_85, e169_88, e169_89, e169_92, e169_93, e169_96, e169_97, e169_98, e169_99, e169_101, e169_102, e169_103, e169_104, e169_105, e169_108, e169_109, e169_110, e169_111, e169_112, e169_115, e169_118, e169_121, e169_122, e169_125, e169_126, e169_127, e169_128, e169_130, e169_131, e169_132, e169_133, e169_136, e169_139, e169_141, ct_i, ct_r, ct_n, ct_h, opt_v, opt_s, ref_s, ref_n, eq_self_iff_true, true_or, or_true, zl0, zl1, zl2, zl3, zl4, zl5, zl6, zl7, zl8, zl9, zl10, zl16, zl32, zl40, zl100, zl160, zIc1, zI_lt, zI_le, nI_eq, nI_add, z_sub, nI_clamp, zI_of, uu_eq, uu_ne, Nat.reduceLT, Nat.reduceLeDiff, Nat.reduceEqDiff, Nat.reduceAdd, Nat.reduceSub, Nat.reduceMul, Nat.not_lt_zero, Nat.lt_irrefl, Nat.le_refl, Bool.false_eq_true, false_and, and_false, true_and, and_true, if_pos, if_neg, if_true, if_false, not_true_eq_false, not_false_eq_true, m0, x16, y16, r32, x19, y19, r36, g16, g19, e6, if_neg hy0]
        exact q
    | some k =>
      obtain ⟨hkl, hkr, hkf⟩ := firR_some hfr
      have hp := qI_par hq
      have hdk := dep_le hp k hkl
      have hv0 := st_way hq hS hF hfr hkl hkr hkf (Nat.le_refl (dep (sq Z D tx (Z 2)) k))
      rw [anc_0 hp hkl] at hv0
      rw [hv0] at g19
      simp only [hfr] at q
      cases hy : dec y (dep (sq Z D tx (Z 2)) k) with
      | none =>
        simp only [hy] at q
        rcases dec_none hy with hy0 | hy0
        · simp (disch := first | assumption | exact ct_i | exact ct_r | exact ct_n | exact ct_h | omega | exact z_in (by omega) (by omega) | exact b01 | exact Or.inl rfl | exact Or.inr rfl) only [e169_0, e169_1, e169_2, e169_5, e169_8, e169_10, e169_11, e169_12, e169_15, e169_16, e169_19, e169_20, e169_21, e169_24, e169_25, e169_28, e169_29, e169_30, e169_31, e169_32, e169_35, e169_36, e169_39, e169_40, e169_41, e169_44, e169_47, e169_48, e169_49, e169_52, e169_53, e169_54, e169_57, e169_58, e169_59, e169_60, e169_62, e169_63, e169_67, e169_68, e169_71, e169_72, e169_74, e169_75, e169_78, e169_79, e169_80, e169_81, e169_83, e169_84, e169_85, e169_88, e169_89, e169_92, e169_93, e169_96, e169_97, e169_98, e169_99, e169_101, e169_102, e169_103, e169_104, e169_105, e169_108, e169_109, e169_110, e169_111, e169_112, e169_115, e169_118, e169_121, e169_122, e169_125, e169_126, e169_127, e169_128, e169_130, e169_131, e169_132, e169_133, e169_136, e169_139, e169_141, ct_i, ct_r, ct_n, ct_h, opt_v, opt_s, ref_s, ref_n, eq_self_iff_true, true_or, or_true, zl0, zl1, zl2, zl3, zl4, zl5, zl6, zl7, zl8, zl9, zl10, zl16, zl32, zl40, zl100, zl160, zIc1, zI_lt, zI_le, nI_eq, nI_add, z_sub, nI_clamp, zI_of, uu_eq, uu_ne, Nat.reduceLT, Nat.reduceLeDiff, Nat.reduceEqDiff, Nat.reduceAdd, Nat.reduceSub, Nat.reduceMul, Nat.not_lt_zero, Nat.lt_irrefl, Nat.le_refl, Bool.false_eq_true, false_and, and_false, true_and, and_true, if_pos, if_neg, if_true, if_false, not_true_eq_false, not_false_eq_true, m0, x16, y16, r32, x19, y19, r36, g16, g19, e6, hy0]
          exact q
        · by_cases hy1 : y < nI 0
          · simp (disch := first | assumption | exact ct_i | exact ct_r | exact ct_n | exact ct_h | omega | exact z_in (by omega) (by omega) | exact b01 | exact Or.inl rfl | exact Or.inr rfl) only [e169_0, e169_1, e169_2, e169_5, e169_8, e169_10, e169_11, e169_12, e169_15, e169_16, e169_19, e169_20, e169_21, e169_24, e169_25, e169_28, e169_29, e169_30, e169_31, e169_32, e169_35, e169_36, e169_39, e169_40, e169_41, e169_44, e169_47, e169_48, e169_49, e169_52, e169_53, e169_54, e169_57, e169_58, e169_59, e169_60, e169_62, e169_63, e169_67, e169_68, e169_71, e169_72, e169_74, e169_75, e169_78, e169_79, e169_80, e169_81, e169_83, e169_84, e169_85, e169_88, e169_89, e169_92, e169_93, e169_96, e169_97, e169_98, e169_99, e169_101, e169_102, e169_103, e169_104, e169_105, e169_108, e169_109, e169_110, e169_111, e169_112, e169_115, e169_118, e169_121, e169_122, e169_125, e169_126, e169_127, e169_128, e169_130, e169_131, e169_132, e169_133, e169_136, e169_139, e169_141, ct_i, ct_r, ct_n, ct_h, opt_v, opt_s, ref_s, ref_n, eq_self_iff_true, true_or, or_true, zl0, zl1, zl2, zl3, zl4, zl5, zl6, zl7, zl8, zl9, zl10, zl16, zl32, zl40, zl100, zl160, zIc1, zI_lt, zI_le, nI_eq, nI_add, z_sub, nI_clamp, zI_of, uu_eq, uu_ne, Nat.reduceLT, Nat.reduceLeDiff, Nat.reduceEqDiff, Nat.reduceAdd, Nat.reduceSub, Nat.reduceMul, Nat.not_lt_zero, Nat.lt_irrefl, Nat.le_refl, Bool.false_eq_true, false_and, and_false, true_and, and_true, if_pos, if_neg, if_true, if_false, not_true_eq_false, not_false_eq_true, m0, x16, y16, r32, x19, y19, r36, g16, g19, e6, hy1]
            exact q
          · have hy2 : ¬ y < nI (dep (sq Z D tx (Z 2)) k) := fun h => by rw [Int32.lt_iff_toInt_lt] at h; rw [Int32.le_iff_toInt_le] at hy0; omega
            simp (disch := first | assumption | exact ct_i | exact ct_r | exact ct_n | exact ct_h | omega | exact z_in (by omega) (by omega) | exact b01 | exact Or.inl rfl | exact Or.inr rfl) only [e169_0, e169_1, e169_2, e169_5, e169_8, e169_10, e169_11, e169_12, e169_15, e169_16, e169_19, e169_20, e169_21, e169_24, e169_25, e169_28, e169_29, e169_30, e169_31, e169_32, e169_35, e169_36, e169_39, e169_40, e169_41, e169_44, e169_47, e169_48, e169_49, e169_52, e169_53, e169_54, e169_57, e169_58, e169_59, e169_60, e169_62, e169_63, e169_67, e169_68, e169_71, e169_72, e169_74, e169_75, e169_78, e169_79, e169_80, e169_81, e169_83, e169_84, e169_85, e169_88, e169_89, e169_92, e169_93, e169_96, e169_97, e169_98, e169_99, e169_101, e169_102, e169_103, e169_104, e169_105, e169_108, e169_109, e169_110, e169_111, e169_112, e169_115, e169_118, e169_121, e169_122, e169_125, e169_126, e169_127, e169_128, e169_130, e169_131, e169_132, e169_133, e169_136, e169_139, e169_141, ct_i, ct_r, ct_n, ct_h, opt_v, opt_s, ref_s, ref_n, eq_self_iff_true, true_or, or_true, zl0, zl1, zl2, zl3, zl4, zl5, zl6, zl7, zl8, zl9, zl10, zl16, zl32, zl40, zl100, zl160, zIc1, zI_lt, zI_le, nI_eq, nI_add, z_sub, nI_clamp, zI_of, uu_eq, uu_ne, Nat.reduceLT, Nat.reduceLeDiff, Nat.reduceEqDiff, Nat.reduceAdd, Nat.reduceSub, Nat.reduceMul, Nat.not_lt_zero, Nat.lt_irrefl, Nat.le_refl, Bool.false_eq_true, false_and, and_false, true_and, and_true, if_pos, if_neg, if_true, if_false, not_true_eq_false, not_false_eq_true, m0, x16, y16, r32, x19, y19, r36, g16, g19, e6, if_neg hy1, if_neg hy2]
            exact q
      | some i =>
        obtain ⟨rfl, hi⟩ := dec_some (by omega) hy
        simp only [hy] at q
        simp (disch := first | assumption | exact ct_i | exact ct_r | exact ct_n | exact ct_h | omega | exact z_in (by omega) (by omega) | exact b01 | exact Or.inl rfl | exact Or.inr rfl) only [e169_0, e169_1, e169_2, e169_5, e169_8, e169_10, e169_11, e169_12, e169_15, e169_16, e169_19, e169_20, e169_21, e169_24, e169_25, e169_28, e169_29, e169_30, e169_31, e169_32, e169_35, e169_36, e169_39, e169_40, e169_41, e169_44, e169_47, e169_48, e169_49, e169_52, e169_53, e169_54, e169_57, e169_58, e169_59, e169_60, e169_62, e169_63, e169_67, e169_68, e169_71, e169_72, e169_74, e169_75, e169_78, e169_79, e169_80, e169_81, e169_83, e169_84, e169_85, e169_88, e169_89, e169_92, e169_93, e169_96, e169_97, e169_98, e169_99, e169_101, e169_102, e169_103, e169_104, e169_105, e169_108, e169_109, e169_110, e169_111, e169_112, e169_115, e169_118, e169_121, e169_122, e169_125, e169_126, e169_127, e169_128, e169_130, e169_131, e169_132, e169_133, e169_136, e169_139, e169_141, ct_i, ct_r, ct_n, ct_h, opt_v, opt_s, ref_s, ref_n, eq_self_iff_true, true_or, or_true, zl0, zl1, zl2, zl3, zl4, zl5, zl6, zl7, zl8, zl9, zl10, zl16, zl32, zl40, zl100, zl160, zIc1, zI_lt, zI_le, nI_eq, nI_add, z_sub, nI_clamp, zI_of, uu_eq, uu_ne, Nat.reduceLT, Nat.reduceLeDiff, Nat.reduceEqDiff, Nat.reduceAdd, Nat.reduceSub, Nat.reduceMul, Nat.not_lt_zero, Nat.lt_irrefl, Nat.le_refl, Bool.false_eq_true, false_and, and_false, true_and, and_true, if_pos, if_neg, if_true, if_false, not_true_eq_false, not_false_eq_true, m0, x16, y16, r32, x19, y19, r36, g16, g19, e6]
        have fin := k169l (d := d) (v1 := nI r) hM hn4 hq hA3 hV hS hF hfr hkl hkr hkf hi q i 0 (.int (nI 0)) (by omega) rfl
        rw [Nat.sub_zero, anc_0 hp hkl] at fin
        exact fin
end
