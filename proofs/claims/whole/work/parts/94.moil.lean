/-! the model's calls: thief, oil -/
section
variable {T0 : Nat} {Z : Nat → Nat} {D : Nat → Nat → Nat} {tx : Nat → Nat → List Nat} {tp so sz : Nat → Nat} {it : Nat → Nat → Int32} {d : Nat} {n t : Nat} {sh : Nat → Nat × Nat} {I : Nat → Nat → Int32} {L : Nat → Nat → Int64} {R : Nat → Nat → Option Nat} {I' : Nat → Nat → Int32} {Q : Option Value → aH → Prop}
theorem k184 (hd : 7 ≤ d) (hk : RM T0 Z D tx tp so sz it (n, t, sh, I, L, R)) {x v : Int32} (H : ∀ h', RMh T0 Z D tx tp so sz it h' → Q (some (.int (thiS Z D tx x v))) h') : aC d 184 [.ref 0, .int x, .int v] (n, t, sh, I, L, R) Q := by
  obtain ⟨d, rfl⟩ : ∃ e, d = e + 1 := ⟨d - 1, by omega⟩
  have o3 := hk.1.2.2.1
  obtain ⟨hM, hD, hn4, hB, hR⟩ := RM_B hk
  have m0 := mm_0 hM; have x7 := mm_x7 hM; have y7 := mm_y7 hM; have r10 := mm_r10 hM
  have l3 : (3 : Int64) = (nI 3).toInt64 := rfl
  have e1 := fun Q => k121 (Q := Q) (n := n) (t := t) (L := L) (show 2 ≤ d by omega) hM hD hn4 (x := x)
  unfold thiS at H
  cases hx : dec x (Z 1) with
  | none =>
    simp only [hx] at H
    have q := H _ hk.2
    simp only [hx, Option.isSome_none, Bool.false_eq_true, if_false] at e1
    simp (disch := first | assumption | exact ct_i | exact ct_r | exact ct_n | exact ct_h | omega | exact z_in (by omega) (by omega) | exact b01 | exact Or.inl rfl | exact Or.inr rfl) only [b184, e184_0, e184_1, e184_2, e184_5, e184_8, e184_9, e184_10, e184_11, e184_14, e184_17, e184_20, e184_22, e184_23, e184_24, e184_27, e184_28, e184_31, e184_32, e184_33, e184_34, e184_35, e184_38, e184_39, e184_42, e184_45, ct_i, ct_r, ct_n, ct_h, opt_v, opt_s, ref_s, ref_n, eq_self_iff_true, true_or, or_true, zl0, zl1, zl2, zl3, zl4, zl5, zl6, zl7, zl8, zl9, zl10, zl16, zl32, zl40, zl100, zl160, zIc1, zI_lt, zI_le, nI_eq, nI_add, z_sub, nI_clamp, zI_of, uu_eq, uu_ne, Nat.reduceLT, Nat.reduceLeDiff, Nat.reduceEqDiff, Nat.reduceAdd, Nat.reduceSub, Nat.reduceMul, Nat.not_lt_zero, Nat.lt_irrefl, Nat.le_refl, Bool.false_eq_true, false_and, and_false, true_and, and_true, if_pos, if_neg, if_true, if_false, not_true_eq_false, not_false_eq_true, m0, e1]
    exact q
  | some i =>
    obtain ⟨rfl, hi⟩ := dec_some (by omega) hx
    simp only [hx, Option.isSome_some, if_true] at e1
    cases hv : dec v 4 with
    | none =>
      simp only [hx, hv] at H
      have q := H _ hk.2
      simp (disch := first | assumption | exact ct_i | exact ct_r | exact ct_n | exact ct_h | omega | exact z_in (by omega) (by omega) | exact b01 | exact Or.inl rfl | exact Or.inr rfl) only [b184, e184_0, e184_1, e184_2, e184_5, e184_8, e184_9, e184_10, e184_11, e184_14, e184_17, e184_20, e184_22, e184_23, e184_24, e184_27, e184_28, e184_31, e184_32, e184_33, e184_34, e184_35, e184_38, e184_39, e184_42, e184_45, ct_i, ct_r, ct_n, ct_h, opt_v, opt_s, ref_s, ref_n, eq_self_iff_true, true_or, or_true, zl0, zl1, zl2, zl3, zl4, zl5, zl6, zl7, zl8, zl9, zl10, zl16, zl32, zl40, zl100, zl160, zIc1, zI_lt, zI_le, nI_eq, nI_add, z_sub, nI_clamp, zI_of, uu_eq, uu_ne, Nat.reduceLT, Nat.reduceLeDiff, Nat.reduceEqDiff, Nat.reduceAdd, Nat.reduceSub, Nat.reduceMul, Nat.not_lt_zero, Nat.lt_irrefl, Nat.le_refl, Bool.false_eq_true, false_and, and_false, true_and, and_true, if_pos, if_neg, if_true, if_false, not_true_eq_false, not_false_eq_true, m0, e1, ll0, l3, k118 (show 1 ≤ d by omega), in_d4, hv, Option.isSome_none, Bool.false_eq_true, if_false]
      exact q
    | some w =>
      obtain ⟨rfl, hw⟩ := dec_some (by omega) hv
      simp only [hx, hv] at H
      have hi4 : i < 4 := by omega
      have hs' := wst_lt o3.1 hi4 hw
      have hz' : zP (Z 1) (wst (Z 2) i w) := fun j h1 h2 => by
        rw [stt_wst hi4 h2 hw, if_neg (by omega)]; exact o3.2 j h1 h2
      simp (disch := first | assumption | exact ct_i | exact ct_r | exact ct_n | exact ct_h | omega | exact z_in (by omega) (by omega) | exact b01 | exact Or.inl rfl | exact Or.inr rfl) only [b184, e184_0, e184_1, e184_2, e184_5, e184_8, e184_9, e184_10, e184_11, e184_14, e184_17, e184_20, e184_22, e184_23, e184_24, e184_27, e184_28, e184_31, e184_32, e184_33, e184_34, e184_35, e184_38, e184_39, e184_42, e184_45, ct_i, ct_r, ct_n, ct_h, opt_v, opt_s, ref_s, ref_n, eq_self_iff_true, true_or, or_true, zl0, zl1, zl2, zl3, zl4, zl5, zl6, zl7, zl8, zl9, zl10, zl16, zl32, zl40, zl100, zl160, zIc1, zI_lt, zI_le, nI_eq, nI_add, z_sub, nI_clamp, zI_of, uu_eq, uu_ne, Nat.reduceLT, Nat.reduceLeDiff, Nat.reduceEqDiff, Nat.reduceAdd, Nat.reduceSub, Nat.reduceMul, Nat.not_lt_zero, Nat.lt_irrefl, Nat.le_refl, Bool.false_eq_true, false_and, and_false, true_and, and_true, if_pos, if_neg, if_true, if_false, not_true_eq_false, not_false_eq_true, m0, e1, ll0, l3, k118 (show 1 ≤ d by omega), in_d4, hv, Option.isSome_some]
      refine kAs (by omega) hk (fun I1 ee hf hT => ?_)
      have hf1 : frM I (u2 I1 7 i (nI w)) := frM_u hf (by unfold scM; omega)
      have hk1 := RM_fr hk hf1
      have hT1 : thS (Z 1) D (wst (Z 2) i w) (u2 I1 7 i (nI w)) := by
        refine ⟨?_, ?_, fun j hj => ⟨?_, ?_⟩⟩
        · rw [uu_ne _ _ _ _ (by omega), tno_wst hi4 hw]; exact hT.1
        · rw [uu_ne _ _ _ _ (by omega), rmo_wst hi4 hw]; exact hT.2.1
        · rw [stt_wst hi4 (by omega) hw]
          by_cases hj2 : j = i
          · subst hj2; rw [uu_eq, if_pos rfl]
          · rw [uu_ne _ _ _ _ (by omega), if_neg hj2]; exact (hT.2.2 j hj).1
        · rw [uu_ne _ _ _ _ (by omega)]; exact (hT.2.2 j hj).2
      simp (disch := first | assumption | exact ct_i | exact ct_r | exact ct_n | exact ct_h | omega | exact z_in (by omega) (by omega) | exact b01 | exact Or.inl rfl | exact Or.inr rfl) only [e184_0, e184_1, e184_2, e184_5, e184_8, e184_9, e184_10, e184_11, e184_14, e184_17, e184_20, e184_22, e184_23, e184_24, e184_27, e184_28, e184_31, e184_32, e184_33, e184_34, e184_35, e184_38, e184_39, e184_42, e184_45, ct_i, ct_r, ct_n, ct_h, opt_v, opt_s, ref_s, ref_n, eq_self_iff_true, true_or, or_true, zl0, zl1, zl2, zl3, zl4, zl5, zl6, zl7, zl8, zl9, zl10, zl16, zl32, zl40, zl100, zl160, zIc1, zI_lt, zI_le, nI_eq, nI_add, z_sub, nI_clamp, zI_of, uu_eq, uu_ne, Nat.reduceLT, Nat.reduceLeDiff, Nat.reduceEqDiff, Nat.reduceAdd, Nat.reduceSub, Nat.reduceMul, Nat.not_lt_zero, Nat.lt_irrefl, Nat.le_refl, Bool.false_eq_true, false_and, and_false, true_and, and_true, if_pos, if_neg, if_true, if_false, not_true_eq_false, not_false_eq_true, m0, x7, y7, r10]
      refine k161 (by omega) (RM_B hk1) hs' hz' hT1 (fun I2 hf2 hA => ?_)
      have hq : qI (bh (Z 1) D (tx (Z 4))) (Z 1) (wst (Z 2) i w) (sq Z D tx (wst (Z 2) i w)) (sq Z D tx (wst (Z 2) i w)).length 0 := bfs_I (bh_g hB) hs'
      obtain ⟨r1, r2⟩ := rms_N (qB_of hq) _ (Nat.le_refl _)
      have q := H _ (RM_fr hk1 (frF_M hf2)).2
      have e3 := k164 (Q := fun v h1 => aE (a_cl_ d) 184 (42, [.ref 0, .int (nI i), .int (nI w)], v.toList ++ [], h1) Q) (n := n) (t := t) (L := L) (show 2 ≤ d by omega) hM hA (qB_of hq)
      rw [show rms (bfs (bh (Z 1) D (tx (Z 4))) (Z 1) (wst (Z 2) i w)) (bfs (bh (Z 1) D (tx (Z 4))) (Z 1) (wst (Z 2) i w)).length = nI (rmN (sq Z D tx (wst (Z 2) i w)) (sq Z D tx (wst (Z 2) i w)).length) from r1] at e3
      simp (disch := first | assumption | exact ct_i | exact ct_r | exact ct_n | exact ct_h | omega | exact z_in (by omega) (by omega) | exact b01 | exact Or.inl rfl | exact Or.inr rfl) only [e184_0, e184_1, e184_2, e184_5, e184_8, e184_9, e184_10, e184_11, e184_14, e184_17, e184_20, e184_22, e184_23, e184_24, e184_27, e184_28, e184_31, e184_32, e184_33, e184_34, e184_35, e184_38, e184_42, e184_45, ct_i, ct_r, ct_n, ct_h, opt_v, opt_s, ref_s, ref_n, eq_self_iff_true, true_or, or_true, zl0, zl1, zl2, zl3, zl4, zl5, zl6, zl7, zl8, zl9, zl10, zl16, zl32, zl40, zl100, zl160, zIc1, zI_lt, zI_le, nI_eq, nI_add, z_sub, nI_clamp, zI_of, uu_eq, uu_ne, Nat.reduceLT, Nat.reduceLeDiff, Nat.reduceEqDiff, Nat.reduceAdd, Nat.reduceSub, Nat.reduceMul, Nat.not_lt_zero, Nat.lt_irrefl, Nat.le_refl, Bool.false_eq_true, false_and, and_false, true_and, and_true, if_pos, if_neg, if_true, if_false, not_true_eq_false, not_false_eq_true, m0]
      simp (disch := first | assumption | exact ct_i | exact ct_r | exact ct_n | exact ct_h | omega | exact z_in (by omega) (by omega) | exact b01 | exact Or.inl rfl | exact Or.inr rfl) only [e184_39, ct_i, ct_r, ct_n, ct_h, opt_v, opt_s, ref_s, ref_n, eq_self_iff_true, true_or, or_true, m0]
      rw [e3]
      simp (disch := first | assumption | exact ct_i | exact ct_r | exact ct_n | exact ct_h | omega | exact z_in (by omega) (by omega) | exact b01 | exact Or.inl rfl | exact Or.inr rfl) only [e184_0, e184_1, e184_2, e184_5, e184_8, e184_9, e184_10, e184_11, e184_14, e184_17, e184_20, e184_22, e184_23, e184_24, e184_27, e184_28, e184_31, e184_32, e184_33, e184_34, e184_35, e184_38, e184_39, e184_42, e184_45, ct_i, ct_r, ct_n, ct_h, opt_v, opt_s, ref_s, ref_n, eq_self_iff_true, true_or, or_true, zl0, zl1, zl2, zl3, zl4, zl5, zl6, zl7, zl8, zl9, zl10, zl16, zl32, zl40, zl100, zl160, zIc1, zI_lt, zI_le, nI_eq, nI_add, z_sub, nI_clamp, zI_of, uu_eq, uu_ne, Nat.reduceLT, Nat.reduceLeDiff, Nat.reduceEqDiff, Nat.reduceAdd, Nat.reduceSub, Nat.reduceMul, Nat.not_lt_zero, Nat.lt_irrefl, Nat.le_refl, Bool.false_eq_true, false_and, and_false, true_and, and_true, if_pos, if_neg, if_true, if_false, not_true_eq_false, not_false_eq_true, k183 (show 1 ≤ d by omega) r2]
      exact q
theorem dB_oil {nd i : Nat} (h : dB nd D) : dB nd (u2 D i 4 0) := fun j hj => by
  obtain ⟨b0, b1, b2, b3, b4⟩ := h j hj
  rw [uu_ne _ _ _ _ (by omega), uu_ne _ _ _ _ (by omega), uu_ne _ _ _ _ (by omega), uu_ne _ _ _ _ (by omega)]
  refine ⟨b0, b1, b2, b3, ?_⟩
  by_cases hj2 : j = i
  · subst hj2; rw [uu_eq]; decide
  · rw [uu_ne _ _ _ _ (by omega)]; exact b4
theorem dM_oil {nd i : Nat} (h : dM nd D I) : dM nd (u2 D i 4 0) I := ⟨h.1, fun j hj => by
  rw [uu_ne _ _ _ _ (by omega), uu_ne _ _ _ _ (by omega), uu_ne _ _ _ _ (by omega), uu_ne _ _ _ _ (by omega)]; exact h.2 j hj⟩
theorem k182l (hd : 6 ≤ d) (H : ∀ I', RM T0 Z D tx tp so sz it (n, t, sh, I', L, R) → Q (some (.int (oilF Z D tx (Z 1)).1)) (n, t, sh, I', L, R)) :
    ∀ m i I l4, i + m = Z 1 → l4.category = 1 → RM T0 Z D tx tp so sz it (n, t, sh, I, L, R) → aE (a_cl_ d) 182 (6, [.ref 0, .int (oilF Z D tx i).1, .int (nI (oilF Z D tx i).2), .int (nI i), l4], [], (n, t, sh, I, L, R)) Q := by
  intro m
  induction m with
  | zero =>
    intro i I l4 hi hc hk
    obtain rfl : i = Z 1 := by omega
    obtain ⟨hM, hD, hn4, hB, hR⟩ := RM_B hk
    have m0 := mm_0 hM
    have h1 := hD.1
    have q := H I hk
    rw [e182_6]
    simp (disch := first | assumption | exact ct_i | exact ct_r | exact ct_n | exact ct_h | omega | exact z_in (by omega) (by omega) | exact b01 | exact Or.inl rfl | exact Or.inr rfl) only [e182_0, e182_1, e182_2, e182_3, e182_4, e182_5, e182_7, e182_8, e182_11, e182_14, e182_15, e182_18, e182_19, e182_22, e182_23, e182_24, e182_25, e182_26, e182_29, e182_30, e182_33, e182_36, e182_38, e182_39, e182_42, e182_44, e182_45, e182_48, e182_49, e182_50, e182_52, e182_53, e182_56, e182_59, e182_60, ct_i, ct_r, ct_n, ct_h, opt_v, opt_s, ref_s, ref_n, eq_self_iff_true, true_or, or_true, zl0, zl1, zl2, zl3, zl4, zl5, zl6, zl7, zl8, zl9, zl10, zl16, zl32, zl40, zl100, zl160, zIc1, zI_lt, zI_le, nI_eq, nI_add, z_sub, nI_clamp, zI_of, uu_eq, uu_ne, Nat.reduceLT, Nat.reduceLeDiff, Nat.reduceEqDiff, Nat.reduceAdd, Nat.reduceSub, Nat.reduceMul, Nat.not_lt_zero, Nat.lt_irrefl, Nat.le_refl, Bool.false_eq_true, false_and, and_false, true_and, and_true, if_pos, if_neg, if_true, if_false, not_true_eq_false, not_false_eq_true, m0, h1]
    exact q
  | succ m ih =>
    intro i I l4 hi hc hk
    obtain ⟨hM, hD, hn4, hB, hR⟩ := RM_B hk
    have m0 := mm_0 hM; have x8 := mm_x8 hM; have y8 := mm_y8 hM; have r11 := mm_r11 hM
    have h1 := hD.1
    have o3 := hk.1.2.2.1
    have hlt : i < Z 1 := by omega
    rw [e182_6]
    simp (disch := first | assumption | exact ct_i | exact ct_r | exact ct_n | exact ct_h | omega | exact z_in (by omega) (by omega) | exact b01 | exact Or.inl rfl | exact Or.inr rfl) only [e182_0, e182_1, e182_2, e182_3, e182_4, e182_5, e182_7, e182_8, e182_11, e182_14, e182_15, e182_18, e182_19, e182_22, e182_23, e182_24, e182_25, e182_26, e182_29, e182_30, e182_33, e182_36, e182_38, e182_39, e182_42, e182_44, e182_45, e182_48, e182_49, e182_50, e182_52, e182_53, e182_56, e182_59, e182_60, ct_i, ct_r, ct_n, ct_h, opt_v, opt_s, ref_s, ref_n, eq_self_iff_true, true_or, or_true, zl0, zl1, zl2, zl3, zl4, zl5, zl6, zl7, zl8, zl9, zl10, zl16, zl32, zl40, zl100, zl160, zIc1, zI_lt, zI_le, nI_eq, nI_add, z_sub, nI_clamp, zI_of, uu_eq, uu_ne, Nat.reduceLT, Nat.reduceLeDiff, Nat.reduceEqDiff, Nat.reduceAdd, Nat.reduceSub, Nat.reduceMul, Nat.not_lt_zero, Nat.lt_irrefl, Nat.le_refl, Bool.false_eq_true, false_and, and_false, true_and, and_true, if_pos, if_neg, if_true, if_false, not_true_eq_false, not_false_eq_true, m0, h1]
    refine kAs (by omega) hk (fun I1 ee hf hT => ?_)
    have hf1 : frM I (u2 I1 8 i (nI 0)) := frM_u hf (by unfold scM; omega)
    have hk1 := RM_fr hk hf1
    have hT1 : thS (Z 1) (u2 D i 4 0) (Z 2) (u2 I1 8 i (nI 0)) := by
      refine ⟨?_, ?_, fun j hj => ⟨?_, ?_⟩⟩
      · rw [uu_ne _ _ _ _ (by omega)]; exact hT.1
      · rw [uu_ne _ _ _ _ (by omega)]; exact hT.2.1
      · rw [uu_ne _ _ _ _ (by omega)]; exact (hT.2.2 j hj).1
      · by_cases hj2 : j = i
        · subst hj2; rw [uu_eq, uu_eq]
        · rw [uu_ne _ _ _ _ (by omega), uu_ne _ _ _ _ (by omega)]; exact (hT.2.2 j hj).2
    have hm1 := RM_B hk1
    have hm2 : mB (Z 1) (u2 D i 4 0) (tx (Z 4)) (Z 4) sh R (u2 I1 8 i (nI 0)) := ⟨hm1.1, dM_oil hm1.2.1, hm1.2.2.1, dB_oil hm1.2.2.2.1, hm1.2.2.2.2⟩
    simp (disch := first | assumption | exact ct_i | exact ct_r | exact ct_n | exact ct_h | omega | exact z_in (by omega) (by omega) | exact b01 | exact Or.inl rfl | exact Or.inr rfl) only [e182_0, e182_1, e182_2, e182_3, e182_4, e182_5, e182_7, e182_8, e182_11, e182_14, e182_15, e182_18, e182_19, e182_22, e182_23, e182_24, e182_25, e182_26, e182_29, e182_30, e182_33, e182_36, e182_38, e182_39, e182_42, e182_44, e182_45, e182_48, e182_49, e182_50, e182_52, e182_53, e182_56, e182_59, e182_60, ct_i, ct_r, ct_n, ct_h, opt_v, opt_s, ref_s, ref_n, eq_self_iff_true, true_or, or_true, zl0, zl1, zl2, zl3, zl4, zl5, zl6, zl7, zl8, zl9, zl10, zl16, zl32, zl40, zl100, zl160, zIc1, zI_lt, zI_le, nI_eq, nI_add, z_sub, nI_clamp, zI_of, uu_eq, uu_ne, Nat.reduceLT, Nat.reduceLeDiff, Nat.reduceEqDiff, Nat.reduceAdd, Nat.reduceSub, Nat.reduceMul, Nat.not_lt_zero, Nat.lt_irrefl, Nat.le_refl, Bool.false_eq_true, false_and, and_false, true_and, and_true, if_pos, if_neg, if_true, if_false, not_true_eq_false, not_false_eq_true, m0, x8, y8, r11]
    refine k161 (by omega) hm2 o3.1 o3.2 hT1 (fun I2 hf2 hA => ?_)
    have hq : qI (bh (Z 1) (u2 D i 4 0) (tx (Z 4))) (Z 1) (Z 2) (sq Z (u2 D i 4 0) tx (Z 2)) (sq Z (u2 D i 4 0) tx (Z 2)).length 0 := bfs_I (bh_g (dB_oil hB)) o3.1
    obtain ⟨r1, r2⟩ := rms_N (qB_of hq) _ (Nat.le_refl _)
    have hpos : 0 < oilC Z D tx i := pop6_pos _ r2 (rmN_pos _ hq.1.1)
    have hC6 : ∀ m, m < 64 → pop6 m ≤ 6 := by decide
    have hb1 : oilC Z D tx i ≤ 6 := hC6 _ r2
    have hle : ∀ k, k ≤ Z 1 → (oilF Z D tx k).2 ≤ 6 ∧ ((oilF Z D tx k).1 = -nI 1 ∧ (oilF Z D tx k).2 = 0 ∨ ∃ c, c < 4 ∧ (oilF Z D tx k).1 = nI c) := by
      intro k
      induction k with
      | zero => intro _; exact ⟨Nat.zero_le 6, Or.inl ⟨rfl, rfl⟩⟩
      | succ k ihk =>
        intro hk'
        obtain ⟨a1, a2⟩ := ihk (by omega)
        simp only [oilF]
        split
        · refine ⟨?_, Or.inr ⟨k, by omega, rfl⟩⟩
          exact hC6 _ (rms_N (qB_of (bfs_I (g := bh (Z 1) (u2 D k 4 0) (tx (Z 4))) (nd := Z 1) (bh_g (dB_oil hB)) o3.1)) _ (Nat.le_refl _)).2
        · exact ⟨a1, a2⟩
    obtain ⟨l1, l2⟩ := hle i (by omega)
    have hk2 := RM_fr hk1 (frF_M hf2)
    have e3 := k164 (Q := fun v h1 => aE (a_cl_ d) 182 (33, [.ref 0, .int (oilF Z D tx i).1, .int (nI (oilF Z D tx i).2), .int (nI i), l4], v.toList ++ [], h1) Q) (n := n) (t := t) (L := L) (show 2 ≤ d by omega) hM hA (qB_of hq)
    rw [show rms (bfs (bh (Z 1) (u2 D i 4 0) (tx (Z 4))) (Z 1) (Z 2)) (bfs (bh (Z 1) (u2 D i 4 0) (tx (Z 4))) (Z 1) (Z 2)).length = nI (rmN (sq Z (u2 D i 4 0) tx (Z 2)) (sq Z (u2 D i 4 0) tx (Z 2)).length) from r1] at e3
    simp (disch := first | assumption | exact ct_i | exact ct_r | exact ct_n | exact ct_h | omega | exact z_in (by omega) (by omega) | exact b01 | exact Or.inl rfl | exact Or.inr rfl) only [e182_0, e182_1, e182_2, e182_3, e182_4, e182_5, e182_7, e182_8, e182_11, e182_14, e182_15, e182_18, e182_19, e182_22, e182_23, e182_24, e182_25, e182_26, e182_29, e182_33, e182_36, e182_38, e182_39, e182_42, e182_44, e182_45, e182_48, e182_49, e182_50, e182_52, e182_53, e182_56, e182_59, e182_60, ct_i, ct_r, ct_n, ct_h, opt_v, opt_s, ref_s, ref_n, eq_self_iff_true, true_or, or_true, zl0, zl1, zl2, zl3, zl4, zl5, zl6, zl7, zl8, zl9, zl10, zl16, zl32, zl40, zl100, zl160, zIc1, zI_lt, zI_le, nI_eq, nI_add, z_sub, nI_clamp, zI_of, uu_eq, uu_ne, Nat.reduceLT, Nat.reduceLeDiff, Nat.reduceEqDiff, Nat.reduceAdd, Nat.reduceSub, Nat.reduceMul, Nat.not_lt_zero, Nat.lt_irrefl, Nat.le_refl, Bool.false_eq_true, false_and, and_false, true_and, and_true, if_pos, if_neg, if_true, if_false, not_true_eq_false, not_false_eq_true, m0]
    simp (disch := first | assumption | exact ct_i | exact ct_r | exact ct_n | exact ct_h | omega | exact z_in (by omega) (by omega) | exact b01 | exact Or.inl rfl | exact Or.inr rfl) only [e182_30, ct_i, ct_r, ct_n, ct_h, opt_v, opt_s, ref_s, ref_n, eq_self_iff_true, true_or, or_true, m0]
    rw [e3]
    have e5 : pop6 (rmN (sq Z (u2 D i 4 0) tx (Z 2)) (sq Z (u2 D i 4 0) tx (Z 2)).length) = oilC Z D tx i := rfl
    have qq := ih (i + 1) I2 (.int (nI (oilC Z D tx i))) (by omega) rfl hk2
    simp only [oilF] at qq
    rcases l2 with ⟨g1, g2⟩ | ⟨c, hc4, g1⟩
    · have hneg : -nI 1 < nI 0 := by decide
      rw [if_pos (by omega)] at qq
      rw [g1, g2]
      simp (disch := first | assumption | exact ct_i | exact ct_r | exact ct_n | exact ct_h | omega | exact z_in (by omega) (by omega) | exact b01 | exact Or.inl rfl | exact Or.inr rfl) only [e182_0, e182_1, e182_2, e182_3, e182_4, e182_5, e182_7, e182_8, e182_11, e182_14, e182_15, e182_18, e182_19, e182_22, e182_23, e182_24, e182_25, e182_26, e182_29, e182_30, e182_33, e182_36, e182_38, e182_39, e182_42, e182_44, e182_45, e182_48, e182_49, e182_50, e182_52, e182_53, e182_56, e182_59, e182_60, ct_i, ct_r, ct_n, ct_h, opt_v, opt_s, ref_s, ref_n, eq_self_iff_true, true_or, or_true, zl0, zl1, zl2, zl3, zl4, zl5, zl6, zl7, zl8, zl9, zl10, zl16, zl32, zl40, zl100, zl160, zIc1, zI_lt, zI_le, nI_eq, nI_add, z_sub, nI_clamp, zI_of, uu_eq, uu_ne, Nat.reduceLT, Nat.reduceLeDiff, Nat.reduceEqDiff, Nat.reduceAdd, Nat.reduceSub, Nat.reduceMul, Nat.not_lt_zero, Nat.lt_irrefl, Nat.le_refl, Bool.false_eq_true, false_and, and_false, true_and, and_true, if_pos, if_neg, if_true, if_false, not_true_eq_false, not_false_eq_true, k183 (show 1 ≤ d by omega) r2, e5, hneg]
      exact qq
    · rw [g1]
      by_cases hlt2 : (oilF Z D tx i).2 < oilC Z D tx i
      · rw [if_pos hlt2] at qq
        simp (disch := first | assumption | exact ct_i | exact ct_r | exact ct_n | exact ct_h | omega | exact z_in (by omega) (by omega) | exact b01 | exact Or.inl rfl | exact Or.inr rfl) only [e182_0, e182_1, e182_2, e182_3, e182_4, e182_5, e182_7, e182_8, e182_11, e182_14, e182_15, e182_18, e182_19, e182_22, e182_23, e182_24, e182_25, e182_26, e182_29, e182_30, e182_33, e182_36, e182_38, e182_39, e182_42, e182_44, e182_45, e182_48, e182_49, e182_50, e182_52, e182_53, e182_56, e182_59, e182_60, ct_i, ct_r, ct_n, ct_h, opt_v, opt_s, ref_s, ref_n, eq_self_iff_true, true_or, or_true, zl0, zl1, zl2, zl3, zl4, zl5, zl6, zl7, zl8, zl9, zl10, zl16, zl32, zl40, zl100, zl160, zIc1, zI_lt, zI_le, nI_eq, nI_add, z_sub, nI_clamp, zI_of, uu_eq, uu_ne, Nat.reduceLT, Nat.reduceLeDiff, Nat.reduceEqDiff, Nat.reduceAdd, Nat.reduceSub, Nat.reduceMul, Nat.not_lt_zero, Nat.lt_irrefl, Nat.le_refl, Bool.false_eq_true, false_and, and_false, true_and, and_true, if_pos, if_neg, if_true, if_false, not_true_eq_false, not_false_eq_true, k183 (show 1 ≤ d by omega) r2, e5, hlt2]
        exact qq
      · rw [if_neg hlt2, g1] at qq
        have hle2 : oilC Z D tx i ≤ (oilF Z D tx i).2 := by omega
        simp (disch := first | assumption | exact ct_i | exact ct_r | exact ct_n | exact ct_h | omega | exact z_in (by omega) (by omega) | exact b01 | exact Or.inl rfl | exact Or.inr rfl) only [e182_0, e182_1, e182_2, e182_3, e182_4, e182_5, e182_7, e182_8, e182_11, e182_14, e182_15, e182_18, e182_19, e182_22, e182_23, e182_24, e182_25, e182_26, e182_29, e182_30, e182_33, e182_36, e182_38, e182_39, e182_42, e182_44, e182_45, e182_48, e182_49, e182_50, e182_52, e182_53, e182_56, e182_59, e182_60, ct_i, ct_r, ct_n, ct_h, opt_v, opt_s, ref_s, ref_n, eq_self_iff_true, true_or, or_true, zl0, zl1, zl2, zl3, zl4, zl5, zl6, zl7, zl8, zl9, zl10, zl16, zl32, zl40, zl100, zl160, zIc1, zI_lt, zI_le, nI_eq, nI_add, z_sub, nI_clamp, zI_of, uu_eq, uu_ne, Nat.reduceLT, Nat.reduceLeDiff, Nat.reduceEqDiff, Nat.reduceAdd, Nat.reduceSub, Nat.reduceMul, Nat.not_lt_zero, Nat.lt_irrefl, Nat.le_refl, Bool.false_eq_true, false_and, and_false, true_and, and_true, if_pos, if_neg, if_true, if_false, not_true_eq_false, not_false_eq_true, k183 (show 1 ≤ d by omega) r2, e5, hle2]
        exact qq
theorem k182 (hd : 7 ≤ d) (hk : RM T0 Z D tx tp so sz it (n, t, sh, I, L, R)) (H : ∀ h', RMh T0 Z D tx tp so sz it h' → Q (some (.int (oilF Z D tx (Z 1)).1)) h') : aC d 182 [.ref 0] (n, t, sh, I, L, R) Q := by
  obtain ⟨d, rfl⟩ : ∃ e, d = e + 1 := ⟨d - 1, by omega⟩
  simp (disch := first | assumption | exact ct_i | exact ct_r | exact ct_n | exact ct_h | omega | exact z_in (by omega) (by omega) | exact b01 | exact Or.inl rfl | exact Or.inr rfl) only [b182, e182_0, e182_1, e182_2, e182_3, e182_4, e182_5, e182_7, e182_8, e182_11, e182_14, e182_15, e182_18, e182_19, e182_22, e182_23, e182_24, e182_25, e182_26, e182_29, e182_30, e182_33, e182_36, e182_38, e182_39, e182_42, e182_44, e182_45, e182_48, e182_49, e182_50, e182_52, e182_53, e182_56, e182_59, e182_60, ct_i, ct_r, ct_n, ct_h, opt_v, opt_s, ref_s, ref_n, eq_self_iff_true, true_or, or_true, zl0, zl1, zl2, zl3, zl4, zl5, zl6, zl7, zl8, zl9, zl10, zl16, zl32, zl40, zl100, zl160, zIc1, zI_lt, zI_le, nI_eq, nI_add, z_sub, nI_clamp, zI_of, uu_eq, uu_ne, Nat.reduceLT, Nat.reduceLeDiff, Nat.reduceEqDiff, Nat.reduceAdd, Nat.reduceSub, Nat.reduceMul, Nat.not_lt_zero, Nat.lt_irrefl, Nat.le_refl, Bool.false_eq_true, false_and, and_false, true_and, and_true, if_pos, if_neg, if_true, if_false, not_true_eq_false, not_false_eq_true]
  exact k182l (by omega) (fun I' hR => H _ hR.2) (Z 1) 0 I a_hole (by omega) rfl hk
end
