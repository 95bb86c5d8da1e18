/-! the class's call: a door -/
section
variable {T0 : Nat} {Z : Nat → Nat} {D : Nat → Nat → Nat} {tx : Nat → Nat → List Nat} {tp so sz : Nat → Nat} {it : Nat → Nat → Int32} {d : Nat} {n t : Nat} {sh : Nat → Nat × Nat} {I : Nat → Nat → Int32} {L : Nat → Nat → Int64} {R : Nat → Nat → Option Nat} {I' : Nat → Nat → Int32} {Q : Option Value → aH → Prop}
theorem k79 (hd : 10 ≤ d) (hk : RK T0 Z D tx tp so sz it (n, t, sh, I, L, R)) {x y z : Int32} (H : ∀ h', RK T0 (dooS Z D x y z).2.1 (dooS Z D x y z).2.2 tx tp so sz it h' → Q (some (.int (dooS Z D x y z).1)) h') : aC d 79 [.ref 0, .int x, .int y, .int z] (n, t, sh, I, L, R) Q := by
  obtain ⟨d, rfl⟩ : ∃ e, d = e + 1 := ⟨d - 1, by omega⟩
  obtain ⟨⟨o1, ⟨o2, hB⟩, o3, o4, o5, o6, o7⟩, hn, hK, hcl, hD', hM, h4, h5, h6, h7, h8, h9⟩ := id hk
  simp only [] at hn hK hcl hD' hM h4 h5 h6 h7 h8 h9
  obtain ⟨c1, c2, c3, c4, c5, c6, c7, c8, c9, c10⟩ := cP0 hK
  have s2 := (cPh hK).1
  have z100' := z100
  have z10' := z10
  unfold dooS at H
  cases hx : dec x 6 with
  | none =>
    simp only [hx] at H
    have := H _ hk
    rcases dec_none hx with hv | hv
    · simp (disch := first | assumption | exact ct_i | exact ct_r | exact ct_n | exact ct_h | omega | exact z_in (by omega) (by omega) | exact b01 | exact Or.inl rfl | exact Or.inr rfl) only [b79, e79_0, e79_1, e79_4, e79_5, e79_7, e79_10, e79_11, e79_14, e79_15, e79_18, e79_19, e79_21, e79_24, e79_26, e79_27, e79_28, e79_30, e79_31, e79_33, e79_34, e79_36, e79_37, e79_39, e79_40, e79_42, e79_43, e79_45, e79_46, e79_48, e79_49, e79_52, e79_54, e79_57, e79_60, e79_61, e79_64, e79_66, e79_69, e79_72, e79_74, e79_75, e79_78, e79_80, e79_81, e79_82, e79_85, e79_88, e79_89, e79_92, e79_94, e79_95, e79_96, e79_99, e79_102, e79_103, e79_104, e79_106, e79_108, e79_110, e79_111, e79_114, e79_117, ct_i, ct_r, ct_n, ct_h, opt_v, opt_s, ref_s, ref_n, eq_self_iff_true, true_or, or_true, zl0, zl1, zl2, zl3, zl4, zl5, zl6, zl7, zl8, zl9, zl10, zl16, zl32, zl40, zl100, zl160, zIc1, zI_lt, zI_le, nI_eq, nI_add, z_sub, nI_clamp, zI_of, uu_eq, uu_ne, Nat.reduceLT, Nat.reduceLeDiff, Nat.reduceEqDiff, Nat.reduceAdd, Nat.reduceSub, Nat.reduceMul, Nat.not_lt_zero, Nat.lt_irrefl, Nat.le_refl, Bool.false_eq_true, false_and, and_false, true_and, and_true, if_pos, if_neg, if_true, if_false, not_true_eq_false, not_false_eq_true, hv]
      exact this
    · simp (disch := first | assumption | exact ct_i | exact ct_r | exact ct_n | exact ct_h | omega | exact z_in (by omega) (by omega) | exact b01 | exact Or.inl rfl | exact Or.inr rfl) only [b79, e79_0, e79_1, e79_4, e79_5, e79_7, e79_10, e79_11, e79_14, e79_15, e79_18, e79_19, e79_21, e79_24, e79_26, e79_27, e79_28, e79_30, e79_31, e79_33, e79_34, e79_36, e79_37, e79_39, e79_40, e79_42, e79_43, e79_45, e79_46, e79_48, e79_49, e79_52, e79_54, e79_57, e79_60, e79_61, e79_64, e79_66, e79_69, e79_72, e79_74, e79_75, e79_78, e79_80, e79_81, e79_82, e79_85, e79_88, e79_89, e79_92, e79_94, e79_95, e79_96, e79_99, e79_102, e79_103, e79_104, e79_106, e79_108, e79_110, e79_111, e79_114, e79_117, ct_i, ct_r, ct_n, ct_h, opt_v, opt_s, ref_s, ref_n, eq_self_iff_true, true_or, or_true, zl0, zl1, zl2, zl3, zl4, zl5, zl6, zl7, zl8, zl9, zl10, zl16, zl32, zl40, zl100, zl160, zIc1, zI_lt, zI_le, nI_eq, nI_add, z_sub, nI_clamp, zI_of, uu_eq, uu_ne, Nat.reduceLT, Nat.reduceLeDiff, Nat.reduceEqDiff, Nat.reduceAdd, Nat.reduceSub, Nat.reduceMul, Nat.not_lt_zero, Nat.lt_irrefl, Nat.le_refl, Bool.false_eq_true, false_and, and_false, true_and, and_true, if_true, if_false, not_true_eq_false, not_false_eq_true, hv, zl6, ite_self]
      exact this
  | some kd =>
    obtain ⟨rfl, hkd⟩ := dec_some (by decide) hx
    cases hz : dec z 10 with
    | none =>
      simp only [hx, hz] at H
      have := H _ hk
      have hv : z < nI 0 ∨ ¬ z ≤ 9 := by
        rcases dec_none hz with h | h
        · exact Or.inl h
        · right
          rw [Int32.le_iff_toInt_le] at h ⊢
          have e1 : (nI 10).toInt = 10 := by decide
          have e2 : (9 : Int32).toInt = 9 := by decide
          omega
      by_cases hy : y < nI 0
      · simp (disch := first | assumption | exact ct_i | exact ct_r | exact ct_n | exact ct_h | omega | exact z_in (by omega) (by omega) | exact b01 | exact Or.inl rfl | exact Or.inr rfl) only [b79, e79_0, e79_1, e79_4, e79_5, e79_7, e79_10, e79_11, e79_14, e79_15, e79_18, e79_19, e79_21, e79_24, e79_26, e79_27, e79_28, e79_30, e79_31, e79_33, e79_34, e79_36, e79_37, e79_39, e79_40, e79_42, e79_43, e79_45, e79_46, e79_48, e79_49, e79_52, e79_54, e79_57, e79_60, e79_61, e79_64, e79_66, e79_69, e79_72, e79_74, e79_75, e79_78, e79_80, e79_81, e79_82, e79_85, e79_88, e79_89, e79_92, e79_94, e79_95, e79_96, e79_99, e79_102, e79_103, e79_104, e79_106, e79_108, e79_110, e79_111, e79_114, e79_117, ct_i, ct_r, ct_n, ct_h, opt_v, opt_s, ref_s, ref_n, eq_self_iff_true, true_or, or_true, zl0, zl1, zl2, zl3, zl4, zl5, zl6, zl7, zl8, zl9, zl10, zl16, zl32, zl40, zl100, zl160, zIc1, zI_lt, zI_le, nI_eq, nI_add, z_sub, nI_clamp, zI_of, uu_eq, uu_ne, Nat.reduceLT, Nat.reduceLeDiff, Nat.reduceEqDiff, Nat.reduceAdd, Nat.reduceSub, Nat.reduceMul, Nat.not_lt_zero, Nat.lt_irrefl, Nat.le_refl, Bool.false_eq_true, false_and, and_false, true_and, and_true, if_pos, if_neg, if_true, if_false, not_true_eq_false, not_false_eq_true, hy]
        exact this
      · rcases hv with hv | hv
        · simp (disch := first | assumption | exact ct_i | exact ct_r | exact ct_n | exact ct_h | omega | exact z_in (by omega) (by omega) | exact b01 | exact Or.inl rfl | exact Or.inr rfl) only [b79, e79_0, e79_1, e79_4, e79_5, e79_7, e79_10, e79_11, e79_14, e79_15, e79_18, e79_19, e79_21, e79_24, e79_26, e79_27, e79_28, e79_30, e79_31, e79_33, e79_34, e79_36, e79_37, e79_39, e79_40, e79_42, e79_43, e79_45, e79_46, e79_48, e79_49, e79_52, e79_54, e79_57, e79_60, e79_61, e79_64, e79_66, e79_69, e79_72, e79_74, e79_75, e79_78, e79_80, e79_81, e79_82, e79_85, e79_88, e79_89, e79_92, e79_94, e79_95, e79_96, e79_99, e79_102, e79_103, e79_104, e79_106, e79_108, e79_110, e79_111, e79_114, e79_117, ct_i, ct_r, ct_n, ct_h, opt_v, opt_s, ref_s, ref_n, eq_self_iff_true, true_or, or_true, zl0, zl1, zl2, zl3, zl4, zl5, zl6, zl7, zl8, zl9, zl10, zl16, zl32, zl40, zl100, zl160, zIc1, zI_lt, zI_le, nI_eq, nI_add, z_sub, nI_clamp, zI_of, uu_eq, uu_ne, Nat.reduceLT, Nat.reduceLeDiff, Nat.reduceEqDiff, Nat.reduceAdd, Nat.reduceSub, Nat.reduceMul, Nat.not_lt_zero, Nat.lt_irrefl, Nat.le_refl, Bool.false_eq_true, false_and, and_false, true_and, and_true, if_pos, if_neg, if_true, if_false, not_true_eq_false, not_false_eq_true, hy, hv]
          exact this
        · have hv' : ¬ z ≤ nI 9 := hv
          by_cases hz0 : z < nI 0
          · simp (disch := first | assumption | exact ct_i | exact ct_r | exact ct_n | exact ct_h | omega | exact z_in (by omega) (by omega) | exact b01 | exact Or.inl rfl | exact Or.inr rfl) only [b79, e79_0, e79_1, e79_4, e79_5, e79_7, e79_10, e79_11, e79_14, e79_15, e79_18, e79_19, e79_21, e79_24, e79_26, e79_27, e79_28, e79_30, e79_31, e79_33, e79_34, e79_36, e79_37, e79_39, e79_40, e79_42, e79_43, e79_45, e79_46, e79_48, e79_49, e79_52, e79_54, e79_57, e79_60, e79_61, e79_64, e79_66, e79_69, e79_72, e79_74, e79_75, e79_78, e79_80, e79_81, e79_82, e79_85, e79_88, e79_89, e79_92, e79_94, e79_95, e79_96, e79_99, e79_102, e79_103, e79_104, e79_106, e79_108, e79_110, e79_111, e79_114, e79_117, ct_i, ct_r, ct_n, ct_h, opt_v, opt_s, ref_s, ref_n, eq_self_iff_true, true_or, or_true, zl0, zl1, zl2, zl3, zl4, zl5, zl6, zl7, zl8, zl9, zl10, zl16, zl32, zl40, zl100, zl160, zIc1, zI_lt, zI_le, nI_eq, nI_add, z_sub, nI_clamp, zI_of, uu_eq, uu_ne, Nat.reduceLT, Nat.reduceLeDiff, Nat.reduceEqDiff, Nat.reduceAdd, Nat.reduceSub, Nat.reduceMul, Nat.not_lt_zero, Nat.lt_irrefl, Nat.le_refl, Bool.false_eq_true, false_and, and_false, true_and, and_true, if_pos, if_neg, if_true, if_false, not_true_eq_false, not_false_eq_true, hy, hz0]
            exact this
          · simp (disch := first | assumption | exact ct_i | exact ct_r | exact ct_n | exact ct_h | omega | exact z_in (by omega) (by omega) | exact b01 | exact Or.inl rfl | exact Or.inr rfl) only [b79, e79_0, e79_1, e79_4, e79_5, e79_7, e79_10, e79_11, e79_14, e79_15, e79_18, e79_19, e79_21, e79_24, e79_26, e79_27, e79_28, e79_30, e79_31, e79_33, e79_34, e79_36, e79_37, e79_39, e79_40, e79_42, e79_43, e79_45, e79_46, e79_48, e79_49, e79_52, e79_54, e79_57, e79_60, e79_61, e79_64, e79_66, e79_69, e79_72, e79_74, e79_75, e79_78, e79_80, e79_81, e79_82, e79_85, e79_88, e79_89, e79_92, e79_94, e79_95, e79_96, e79_99, e79_102, e79_103, e79_104, e79_106, e79_108, e79_110, e79_111, e79_114, e79_117, ct_i, ct_r, ct_n, ct_h, opt_v, opt_s, ref_s, ref_n, eq_self_iff_true, true_or, or_true, zl0, zl1, zl2, zl3, zl4, zl5, zl6, zl7, zl8, zl9, zl10, zl16, zl32, zl40, zl100, zl160, zIc1, zI_lt, zI_le, nI_eq, nI_add, z_sub, nI_clamp, zI_of, uu_eq, uu_ne, Nat.reduceLT, Nat.reduceLeDiff, Nat.reduceEqDiff, Nat.reduceAdd, Nat.reduceSub, Nat.reduceMul, Nat.not_lt_zero, Nat.lt_irrefl, Nat.le_refl, Bool.false_eq_true, false_and, and_false, true_and, and_true, if_pos, if_neg, if_true, if_false, not_true_eq_false, not_false_eq_true, hy, hz0, hv']
            exact this
    | some nu =>
      obtain ⟨rfl, hnu⟩ := dec_some (by decide) hz
      by_cases hy : y < nI 0
      · simp only [hx, hz, if_pos hy] at H
        have := H _ hk
        simp (disch := first | assumption | exact ct_i | exact ct_r | exact ct_n | exact ct_h | omega | exact z_in (by omega) (by omega) | exact b01 | exact Or.inl rfl | exact Or.inr rfl) only [b79, e79_0, e79_1, e79_4, e79_5, e79_7, e79_10, e79_11, e79_14, e79_15, e79_18, e79_19, e79_21, e79_24, e79_26, e79_27, e79_28, e79_30, e79_31, e79_33, e79_34, e79_36, e79_37, e79_39, e79_40, e79_42, e79_43, e79_45, e79_46, e79_48, e79_49, e79_52, e79_54, e79_57, e79_60, e79_61, e79_64, e79_66, e79_69, e79_72, e79_74, e79_75, e79_78, e79_80, e79_81, e79_82, e79_85, e79_88, e79_89, e79_92, e79_94, e79_95, e79_96, e79_99, e79_102, e79_103, e79_104, e79_106, e79_108, e79_110, e79_111, e79_114, e79_117, ct_i, ct_r, ct_n, ct_h, opt_v, opt_s, ref_s, ref_n, eq_self_iff_true, true_or, or_true, zl0, zl1, zl2, zl3, zl4, zl5, zl6, zl7, zl8, zl9, zl10, zl16, zl32, zl40, zl100, zl160, zIc1, zI_lt, zI_le, nI_eq, nI_add, z_sub, nI_clamp, zI_of, uu_eq, uu_ne, Nat.reduceLT, Nat.reduceLeDiff, Nat.reduceEqDiff, Nat.reduceAdd, Nat.reduceSub, Nat.reduceMul, Nat.not_lt_zero, Nat.lt_irrefl, Nat.le_refl, Bool.false_eq_true, false_and, and_false, true_and, and_true, if_pos, if_neg, if_true, if_false, not_true_eq_false, not_false_eq_true, hy]
        exact this
      · simp only [hx, hz, if_neg hy] at H
        obtain ⟨w, hw, rfl⟩ := nI_of hy
        rw [nI_clamp hw] at H
        have w1 : w / 10 - w / 10 / 10 * 10 = w / 10 % 10 := by omega
        have w2 : w - w / 10 * 10 = w % 10 := by omega
        have n1 : ∀ r, ¬ r < Z 0 → r < 2 ^ 31 → (nI r < nI 0 ∨ nI (Z 0) ≤ nI r) := fun r h h2 => Or.inr ((zI_le (by omega) (by omega)).mpr (by omega))
        by_cases ha : w / 100 < Z 0
        · by_cases hb : w / 10 % 10 < Z 0
          · by_cases hc : w % 10 < 4
            · rw [if_pos ⟨ha, hb, hc⟩] at H
              by_cases h14 : Z 1 < 4
              · rw [if_pos h14] at H
                obtain ⟨hn1, hn2, hn3⟩ := hn
                subst hn1
                have g1 : ((u1 sh (47 + Z 1) (0, 7)) 1).1 = 1 := by rw [u1_ne _ _ _ (by omega)]; exact s2
                have g2 : ((u1 sh (47 + Z 1) (0, 7)) (47 + Z 1)).1 = 0 := by rw [u1_eq]
                have g3 : ((u1 sh (47 + Z 1) (0, 7)) 0).1 = 6 := by rw [u1_ne _ _ _ (by omega)]; exact c1
                simp (disch := first | assumption | exact ct_i | exact ct_r | exact ct_n | exact ct_h | omega | exact z_in (by omega) (by omega) | exact b01 | exact Or.inl rfl | exact Or.inr rfl) only [b79, e79_0, e79_1, e79_4, e79_5, e79_7, e79_10, e79_11, e79_14, e79_15, e79_18, e79_19, e79_21, e79_24, e79_26, e79_27, e79_28, e79_30, e79_31, e79_33, e79_34, e79_36, e79_37, e79_39, e79_40, e79_42, e79_43, e79_45, e79_46, e79_48, e79_49, e79_52, e79_54, e79_57, e79_60, e79_61, e79_64, e79_66, e79_69, e79_72, e79_74, e79_75, e79_78, e79_80, e79_81, e79_82, e79_85, e79_88, e79_89, e79_92, e79_94, e79_95, e79_96, e79_99, e79_102, e79_103, e79_104, e79_106, e79_108, e79_110, e79_111, e79_114, e79_117, ct_i, ct_r, ct_n, ct_h, opt_v, opt_s, ref_s, ref_n, eq_self_iff_true, true_or, or_true, zl0, zl1, zl2, zl3, zl4, zl5, zl6, zl7, zl8, zl9, zl10, zl16, zl32, zl40, zl100, zl160, zIc1, zI_lt, zI_le, nI_eq, nI_add, z_sub, nI_clamp, zI_of, uu_eq, uu_ne, Nat.reduceLT, Nat.reduceLeDiff, Nat.reduceEqDiff, Nat.reduceAdd, Nat.reduceSub, Nat.reduceMul, Nat.not_lt_zero, Nat.lt_irrefl, Nat.le_refl, Bool.false_eq_true, false_and, and_false, true_and, and_true, if_pos, if_neg, if_true, if_false, not_true_eq_false, not_false_eq_true, c1, c6, s2, pk_div, zI_mul, w1, w2, k14 (show 1 ≤ d by omega) hK h5 o1.2 ha, k14 (show 1 ≤ d by omega) hK h5 o1.2 hb, hD'.1, k3 (show 1 ≤ d by omega) g2]
                have hl : nu < 10 := hnu
                have hB' : dB (Z 1 + 1) (dN D (Z 1) (w / 100) (w / 10 % 10) (w % 10) nu kd) := by
                  intro i hi
                  by_cases h : i = Z 1
                  · subst h
                    simp (disch := omega) only [dN, uu_eq, uu_ne]
                    exact ⟨by omega, by omega, by omega, hnu, hkd⟩
                  · simp (disch := omega) only [dN, uu_ne]
                    exact hB i (by omega)
                have hT := RC_rT hk.1 hk.2
                have hcell : ∀ k, k < 5 → u2 (u2 (u2 (u2 (u2 I (47 + Z 1) 4 (nI kd)) (47 + Z 1) 0 (nI (w / 100))) (47 + Z 1) 1 (nI (w / 10 % 10))) (47 + Z 1) 2 (nI (w % 10))) (47 + Z 1) 3 (nI nu) (47 + Z 1) k = nI (dN D (Z 1) (w / 100) (w / 10 % 10) (w % 10) nu kd (Z 1) k) := by
                  intro k hk5
                  rcases (show k = 0 ∨ k = 1 ∨ k = 2 ∨ k = 3 ∨ k = 4 by omega) with rfl | rfl | rfl | rfl | rfl <;> simp (disch := omega) only [dN, uu_eq, uu_ne]
                refine k15 (D := dN D (Z 1) (w / 100) (w / 10 % 10) (w % 10) nu kd) (r := Z 4) (f := tx (Z 4)) (by omega) (cK_sh hK (Nat.le_refl _)) h14 (u1_eq _ _ _) ?_ (fun i hi k hk5 => ?_) hB' ⟨hT.1, hT.2.1, txC_fr hT.2.1 (fun x k hx => ?_) hT.2.2.1, hT.2.2.2⟩ (fun I' L' hI' hL' hm => ?_)
                · simp (disch := omega) only [uu_ne]; exact hD'.1
                · by_cases h : i = Z 1
                  · subst h; exact hcell k hk5
                  · simp (disch := omega) only [dN, uu_ne]
                    exact hD'.2 i (by omega) k hk5
                · have := hT.2.1
                  simp (disch := omega) only [uu_ne]
                · have := H _ (RK_door hk h14 (by omega) (by omega) hc hnu hkd (fun x k hx => by simp (disch := omega) only [uu_ne]) hcell hI' (fun x k hx => by simp (disch := omega) only [uu_ne]) hL' hm)
                  simp (disch := first | assumption | exact ct_i | exact ct_r | exact ct_n | exact ct_h | omega | exact z_in (by omega) (by omega) | exact b01 | exact Or.inl rfl | exact Or.inr rfl) only [e79_0, e79_1, e79_4, e79_5, e79_7, e79_10, e79_11, e79_14, e79_15, e79_18, e79_19, e79_21, e79_24, e79_26, e79_27, e79_28, e79_30, e79_31, e79_33, e79_34, e79_36, e79_37, e79_39, e79_40, e79_42, e79_43, e79_45, e79_46, e79_48, e79_49, e79_52, e79_54, e79_57, e79_60, e79_61, e79_64, e79_66, e79_69, e79_72, e79_74, e79_75, e79_78, e79_80, e79_81, e79_82, e79_85, e79_88, e79_89, e79_92, e79_94, e79_95, e79_96, e79_99, e79_102, e79_103, e79_104, e79_106, e79_108, e79_110, e79_111, e79_114, e79_117, ct_i, ct_r, ct_n, ct_h, opt_v, opt_s, ref_s, ref_n, eq_self_iff_true, true_or, or_true]
                  exact this
              · rw [if_neg h14] at H
                have := H _ hk
                simp (disch := first | assumption | exact ct_i | exact ct_r | exact ct_n | exact ct_h | omega | exact z_in (by omega) (by omega) | exact b01 | exact Or.inl rfl | exact Or.inr rfl) only [b79, e79_0, e79_1, e79_4, e79_5, e79_7, e79_10, e79_11, e79_14, e79_15, e79_18, e79_19, e79_21, e79_24, e79_26, e79_27, e79_28, e79_30, e79_31, e79_33, e79_34, e79_36, e79_37, e79_39, e79_40, e79_42, e79_43, e79_45, e79_46, e79_48, e79_49, e79_52, e79_54, e79_57, e79_60, e79_61, e79_64, e79_66, e79_69, e79_72, e79_74, e79_75, e79_78, e79_80, e79_81, e79_82, e79_85, e79_88, e79_89, e79_92, e79_94, e79_95, e79_96, e79_99, e79_102, e79_103, e79_104, e79_106, e79_108, e79_110, e79_111, e79_114, e79_117, ct_i, ct_r, ct_n, ct_h, opt_v, opt_s, ref_s, ref_n, eq_self_iff_true, true_or, or_true, zl0, zl1, zl2, zl3, zl4, zl5, zl6, zl7, zl8, zl9, zl10, zl16, zl32, zl40, zl100, zl160, zIc1, zI_lt, zI_le, nI_eq, nI_add, z_sub, nI_clamp, zI_of, uu_eq, uu_ne, Nat.reduceLT, Nat.reduceLeDiff, Nat.reduceEqDiff, Nat.reduceAdd, Nat.reduceSub, Nat.reduceMul, Nat.not_lt_zero, Nat.lt_irrefl, Nat.le_refl, Bool.false_eq_true, false_and, and_false, true_and, and_true, if_pos, if_neg, if_true, if_false, not_true_eq_false, not_false_eq_true, c1, c6, s2, pk_div, zI_mul, w1, w2, k14 (show 1 ≤ d by omega) hK h5 o1.2 ha, k14 (show 1 ≤ d by omega) hK h5 o1.2 hb, hD'.1]
                exact this
            · rw [if_neg (fun h => hc h.2.2)] at H
              have := H _ hk
              simp (disch := first | assumption | exact ct_i | exact ct_r | exact ct_n | exact ct_h | omega | exact z_in (by omega) (by omega) | exact b01 | exact Or.inl rfl | exact Or.inr rfl) only [b79, e79_0, e79_1, e79_4, e79_5, e79_7, e79_10, e79_11, e79_14, e79_15, e79_18, e79_19, e79_21, e79_24, e79_26, e79_27, e79_28, e79_30, e79_31, e79_33, e79_34, e79_36, e79_37, e79_39, e79_40, e79_42, e79_43, e79_45, e79_46, e79_48, e79_49, e79_52, e79_54, e79_57, e79_60, e79_61, e79_64, e79_66, e79_69, e79_72, e79_74, e79_75, e79_78, e79_80, e79_81, e79_82, e79_85, e79_88, e79_89, e79_92, e79_94, e79_95, e79_96, e79_99, e79_102, e79_103, e79_104, e79_106, e79_108, e79_110, e79_111, e79_114, e79_117, ct_i, ct_r, ct_n, ct_h, opt_v, opt_s, ref_s, ref_n, eq_self_iff_true, true_or, or_true, zl0, zl1, zl2, zl3, zl4, zl5, zl6, zl7, zl8, zl9, zl10, zl16, zl32, zl40, zl100, zl160, zIc1, zI_lt, zI_le, nI_eq, nI_add, z_sub, nI_clamp, zI_of, uu_eq, uu_ne, Nat.reduceLT, Nat.reduceLeDiff, Nat.reduceEqDiff, Nat.reduceAdd, Nat.reduceSub, Nat.reduceMul, Nat.not_lt_zero, Nat.lt_irrefl, Nat.le_refl, Bool.false_eq_true, false_and, and_false, true_and, and_true, if_pos, if_neg, if_true, if_false, not_true_eq_false, not_false_eq_true, c1, c6, s2, pk_div, zI_mul, w1, w2, k14 (show 1 ≤ d by omega) hK h5 o1.2 ha, k14 (show 1 ≤ d by omega) hK h5 o1.2 hb]
              exact this
          · rw [if_neg (fun h => hb h.2.1)] at H
            have := H _ hk
            simp (disch := first | assumption | exact ct_i | exact ct_r | exact ct_n | exact ct_h | omega | exact z_in (by omega) (by omega) | exact b01 | exact Or.inl rfl | exact Or.inr rfl) only [b79, e79_0, e79_1, e79_4, e79_5, e79_7, e79_10, e79_11, e79_14, e79_15, e79_18, e79_19, e79_21, e79_24, e79_26, e79_27, e79_28, e79_30, e79_31, e79_33, e79_34, e79_36, e79_37, e79_39, e79_40, e79_42, e79_43, e79_45, e79_46, e79_48, e79_49, e79_52, e79_54, e79_57, e79_60, e79_61, e79_64, e79_66, e79_69, e79_72, e79_74, e79_75, e79_78, e79_80, e79_81, e79_82, e79_85, e79_88, e79_89, e79_92, e79_94, e79_95, e79_96, e79_99, e79_102, e79_103, e79_104, e79_106, e79_108, e79_110, e79_111, e79_114, e79_117, ct_i, ct_r, ct_n, ct_h, opt_v, opt_s, ref_s, ref_n, eq_self_iff_true, true_or, or_true, zl0, zl1, zl2, zl3, zl4, zl5, zl6, zl7, zl8, zl9, zl10, zl16, zl32, zl40, zl100, zl160, zIc1, zI_lt, zI_le, nI_eq, nI_add, z_sub, nI_clamp, zI_of, uu_eq, uu_ne, Nat.reduceLT, Nat.reduceLeDiff, Nat.reduceEqDiff, Nat.reduceAdd, Nat.reduceSub, Nat.reduceMul, Nat.not_lt_zero, Nat.lt_irrefl, Nat.le_refl, Bool.false_eq_true, false_and, and_false, true_and, and_true, if_pos, if_neg, if_true, if_false, not_true_eq_false, not_false_eq_true, c1, c6, s2, pk_div, zI_mul, w1, w2, k14 (show 1 ≤ d by omega) hK h5 o1.2 ha, k14n (show 1 ≤ d by omega) hK h5 o1.2 (n1 _ hb (by omega))]
            exact this
        · rw [if_neg (fun h => ha h.1)] at H
          have := H _ hk
          simp (disch := first | assumption | exact ct_i | exact ct_r | exact ct_n | exact ct_h | omega | exact z_in (by omega) (by omega) | exact b01 | exact Or.inl rfl | exact Or.inr rfl) only [b79, e79_0, e79_1, e79_4, e79_5, e79_7, e79_10, e79_11, e79_14, e79_15, e79_18, e79_19, e79_21, e79_24, e79_26, e79_27, e79_28, e79_30, e79_31, e79_33, e79_34, e79_36, e79_37, e79_39, e79_40, e79_42, e79_43, e79_45, e79_46, e79_48, e79_49, e79_52, e79_54, e79_57, e79_60, e79_61, e79_64, e79_66, e79_69, e79_72, e79_74, e79_75, e79_78, e79_80, e79_81, e79_82, e79_85, e79_88, e79_89, e79_92, e79_94, e79_95, e79_96, e79_99, e79_102, e79_103, e79_104, e79_106, e79_108, e79_110, e79_111, e79_114, e79_117, ct_i, ct_r, ct_n, ct_h, opt_v, opt_s, ref_s, ref_n, eq_self_iff_true, true_or, or_true, zl0, zl1, zl2, zl3, zl4, zl5, zl6, zl7, zl8, zl9, zl10, zl16, zl32, zl40, zl100, zl160, zIc1, zI_lt, zI_le, nI_eq, nI_add, z_sub, nI_clamp, zI_of, uu_eq, uu_ne, Nat.reduceLT, Nat.reduceLeDiff, Nat.reduceEqDiff, Nat.reduceAdd, Nat.reduceSub, Nat.reduceMul, Nat.not_lt_zero, Nat.lt_irrefl, Nat.le_refl, Bool.false_eq_true, false_and, and_false, true_and, and_true, if_pos, if_neg, if_true, if_false, not_true_eq_false, not_false_eq_true, c1, c6, s2, pk_div, zI_mul, w1, w2, k14n (show 1 ≤ d by omega) hK h5 o1.2 (n1 _ ha (by omega))]
          exact this
end
