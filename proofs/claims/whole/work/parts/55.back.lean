/-! the class's calls: the image again; what is under what -/
def bkF (now : Nat) : Nat → Nat → Nat → Nat
  | 0, _, s => s
  | m + 1, i, s => bkF now m (i + 1) (wst s i (stt now i))
theorem bkF_ok {now : Nat} : ∀ m i s, i + m ≤ 4 → s < 6144 → bkF now m i s < 6144 ∧ rmo (bkF now m i s) = rmo s ∧ tno (bkF now m i s) = tno s ∧ ∀ j, j < 4 → stt (bkF now m i s) j = if i ≤ j ∧ j < i + m then stt now j else stt s j
  | 0, i, s, h, hs => ⟨hs, rfl, rfl, fun j hj => by rw [if_neg (by omega)]; rfl⟩
  | m + 1, i, s, h, hs => by
    have hl : stt now i < 4 := stt_lt
    have h1 := wst_lt hs (show i < 4 by omega) hl
    obtain ⟨a, b, c, e⟩ := bkF_ok (now := now) m (i + 1) (wst s i (stt now i)) (by omega) h1
    refine ⟨a, b.trans (rmo_wst (by omega) hl), c.trans (tno_wst (by omega) hl), fun j hj => ?_⟩
    show stt (bkF now m (i + 1) (wst s i (stt now i))) j = _
    rw [e j hj, stt_wst (by omega) hj hl]
    by_cases h1 : j = i
    · subst h1; rw [if_neg (by omega), if_pos rfl, if_pos (by omega)]
    · by_cases h2 : i + 1 ≤ j ∧ j < i + 1 + m
      · rw [if_pos h2, if_pos (by omega)]
      · rw [if_neg h2, if_neg h1, if_neg (by omega)]
def bacS (Z : Nat → Nat) : Int32 × (Nat → Nat) := if Z 6 = 1 ∧ rmo (Z 7) < Z 0 then (nI (rmo (bkF (Z 2) (Z 1 - Z 8) (Z 8) (Z 7))), u1 (u1 Z 2 (bkF (Z 2) (Z 1 - Z 8) (Z 8) (Z 7))) 4 (Z 9)) else (-nI 3, Z)
section
variable {T0 : Nat} {Z : Nat → Nat} {D : Nat → Nat → Nat} {tx : Nat → Nat → List Nat} {tp so sz : Nat → Nat} {it : Nat → Nat → Int32} {d : Nat} {n t : Nat} {sh : Nat → Nat × Nat} {I : Nat → Nat → Int32} {L : Nat → Nat → Int64} {R : Nat → Nat → Option Nat} {I' : Nat → Nat → Int32} {Q : Option Value → aH → Prop}
theorem k109l (hd : 1 ≤ d) (hk : RK T0 Z D tx tp so sz it (n, t, sh, I, L, R)) {s' : Nat} (H : aE (a_cl_ d) 109 (68, [.ref 0, .int (nI s'), .int (nI (Z 1))], [], (n, t, sh, I, L, R)) Q) : ∀ m i s, i + m = Z 1 → s < 6144 → bkF (Z 2) m i s = s' →
    aE (a_cl_ d) 109 (37, [.ref 0, .int (nI s), .int (nI i)], [], (n, t, sh, I, L, R)) Q := by
  obtain ⟨⟨o1, ⟨o2, hB⟩, o3, o4, o5, o6, o7⟩, hn, hK, hcl, hD', hM, h4, h5, h6, h7, h8, h9⟩ := id hk
  simp only [] at hn hK hcl hD' hM h4 h5 h6 h7 h8 h9
  obtain ⟨c1, c2, c3, c4, c5, c6, c7, c8, c9, c10⟩ := cP0 hK
  have s2 := (cPh hK).1
  intro m
  induction m with
  | zero =>
    intro i s hi hs hb
    obtain rfl : i = Z 1 := by omega
    simp only [bkF] at hb
    subst hb
    rw [e109_37]
    simp (disch := first | assumption | exact ct_i | exact ct_r | exact ct_n | exact ct_h | omega | exact z_in (by omega) (by omega) | exact b01 | exact Or.inl rfl | exact Or.inr rfl) only [e109_0, e109_1, e109_4, e109_7, e109_8, e109_11, e109_12, e109_15, e109_18, e109_21, e109_24, e109_26, e109_27, e109_28, e109_31, e109_32, e109_33, e109_36, e109_38, e109_39, e109_42, e109_45, e109_48, e109_49, e109_50, e109_51, e109_54, e109_55, e109_58, e109_61, e109_62, e109_65, e109_69, e109_70, e109_73, e109_74, e109_75, e109_78, e109_81, e109_82, e109_85, e109_88, ct_i, ct_r, ct_n, ct_h, opt_v, opt_s, ref_s, ref_n, eq_self_iff_true, true_or, or_true, zl0, zl1, zl2, zl3, zl4, zl5, zl6, zl7, zl8, zl9, zl10, zl16, zl32, zl40, zl100, zl160, zIc1, zI_lt, zI_le, nI_eq, nI_add, z_sub, nI_clamp, zI_of, uu_eq, uu_ne, Nat.reduceLT, Nat.reduceLeDiff, Nat.reduceEqDiff, Nat.reduceAdd, Nat.reduceSub, Nat.reduceMul, Nat.not_lt_zero, Nat.lt_irrefl, Nat.le_refl, Bool.false_eq_true, false_and, and_false, true_and, and_true, if_pos, if_neg, if_true, if_false, not_true_eq_false, not_false_eq_true, c1, c6, s2, hD'.1]
    exact H
  | succ m ih =>
    intro i s hi hs hb
    have hl : stt (Z 2) i < 4 := stt_lt
    rw [e109_37]
    simp (disch := first | assumption | exact ct_i | exact ct_r | exact ct_n | exact ct_h | omega | exact z_in (by omega) (by omega) | exact b01 | exact Or.inl rfl | exact Or.inr rfl) only [e109_0, e109_1, e109_4, e109_7, e109_8, e109_11, e109_12, e109_15, e109_18, e109_21, e109_24, e109_26, e109_27, e109_28, e109_31, e109_32, e109_33, e109_36, e109_38, e109_39, e109_42, e109_45, e109_48, e109_49, e109_50, e109_51, e109_54, e109_55, e109_58, e109_61, e109_62, e109_65, e109_69, e109_70, e109_73, e109_74, e109_75, e109_78, e109_81, e109_82, e109_85, e109_88, ct_i, ct_r, ct_n, ct_h, opt_v, opt_s, ref_s, ref_n, eq_self_iff_true, true_or, or_true, zl0, zl1, zl2, zl3, zl4, zl5, zl6, zl7, zl8, zl9, zl10, zl16, zl32, zl40, zl100, zl160, zIc1, zI_lt, zI_le, nI_eq, nI_add, z_sub, nI_clamp, zI_of, uu_eq, uu_ne, Nat.reduceLT, Nat.reduceLeDiff, Nat.reduceEqDiff, Nat.reduceAdd, Nat.reduceSub, Nat.reduceMul, Nat.not_lt_zero, Nat.lt_irrefl, Nat.le_refl, Bool.false_eq_true, false_and, and_false, true_and, and_true, if_pos, if_neg, if_true, if_false, not_true_eq_false, not_false_eq_true, c1, c6, s2, hD'.1, h6.2.2.1, k194 hd o3.1 (show i < 4 by omega), k195 hd hs (show i < 4 by omega) hl]
    exact ih (i + 1) _ (by omega) (wst_lt hs (show i < 4 by omega) hl) hb
theorem k109 (hd : 12 ≤ d) (hk : RK T0 Z D tx tp so sz it (n, t, sh, I, L, R)) (H : ∀ h', RK T0 (bacS Z).2 D tx tp so sz it h' → Q (some (.int (bacS Z).1)) h') : aC d 109 [.ref 0] (n, t, sh, I, L, R) Q := by
  obtain ⟨d, rfl⟩ : ∃ e, d = e + 1 := ⟨d - 1, by omega⟩
  obtain ⟨⟨o1, ⟨o2, hB⟩, o3, o4, o5, o6, o7⟩, hn, hK, hcl, hD', hM, h4, h5, h6, h7, h8, h9⟩ := id hk
  simp only [] at hn hK hcl hD' hM h4 h5 h6 h7 h8 h9
  obtain ⟨c1, c2, c3, c4, c5, c6, c7, c8, c9, c10⟩ := cP0 hK
  have s2 := (cPh hK).1
  unfold bacS at H
  rcases o6 with hz | ⟨hz, z7, z8, z9, z0⟩
  · rw [if_neg (by omega)] at H
    have := H _ hk
    have e8 : I 0 8 = nI 0 := by rw [h6.2.2.2.1, hz]
    simp (disch := first | assumption | exact ct_i | exact ct_r | exact ct_n | exact ct_h | omega | exact z_in (by omega) (by omega) | exact b01 | exact Or.inl rfl | exact Or.inr rfl) only [b109, e109_0, e109_1, e109_4, e109_7, e109_8, e109_11, e109_12, e109_15, e109_18, e109_21, e109_24, e109_26, e109_27, e109_28, e109_31, e109_32, e109_33, e109_36, e109_38, e109_39, e109_42, e109_45, e109_48, e109_49, e109_50, e109_51, e109_54, e109_55, e109_58, e109_61, e109_62, e109_65, e109_69, e109_70, e109_73, e109_74, e109_75, e109_78, e109_81, e109_82, e109_85, e109_88, ct_i, ct_r, ct_n, ct_h, opt_v, opt_s, ref_s, ref_n, eq_self_iff_true, true_or, or_true, zl0, zl1, zl2, zl3, zl4, zl5, zl6, zl7, zl8, zl9, zl10, zl16, zl32, zl40, zl100, zl160, zIc1, zI_lt, zI_le, nI_eq, nI_add, z_sub, nI_clamp, zI_of, uu_eq, uu_ne, Nat.reduceLT, Nat.reduceLeDiff, Nat.reduceEqDiff, Nat.reduceAdd, Nat.reduceSub, Nat.reduceMul, Nat.not_lt_zero, Nat.lt_irrefl, Nat.le_refl, Bool.false_eq_true, false_and, and_false, true_and, and_true, if_pos, if_neg, if_true, if_false, not_true_eq_false, not_false_eq_true, c1, e8]
    exact this
  · have e8 : I 0 8 = nI 1 := by rw [h6.2.2.2.1, hz]
    have hr := rmo_lt z7
    by_cases hrc : rmo (Z 7) < Z 0
    · rw [if_pos ⟨hz, hrc⟩] at H
      simp (disch := first | assumption | exact ct_i | exact ct_r | exact ct_n | exact ct_h | omega | exact z_in (by omega) (by omega) | exact b01 | exact Or.inl rfl | exact Or.inr rfl) only [b109, e109_0, e109_1, e109_4, e109_7, e109_8, e109_11, e109_12, e109_15, e109_18, e109_21, e109_24, e109_26, e109_27, e109_28, e109_31, e109_32, e109_33, e109_36, e109_38, e109_39, e109_42, e109_45, e109_48, e109_49, e109_50, e109_51, e109_54, e109_55, e109_58, e109_61, e109_62, e109_65, e109_69, e109_70, e109_73, e109_74, e109_75, e109_78, e109_81, e109_82, e109_85, e109_88, ct_i, ct_r, ct_n, ct_h, opt_v, opt_s, ref_s, ref_n, eq_self_iff_true, true_or, or_true, zl0, zl1, zl2, zl3, zl4, zl5, zl6, zl7, zl8, zl9, zl10, zl16, zl32, zl40, zl100, zl160, zIc1, zI_lt, zI_le, nI_eq, nI_add, z_sub, nI_clamp, zI_of, uu_eq, uu_ne, Nat.reduceLT, Nat.reduceLeDiff, Nat.reduceEqDiff, Nat.reduceAdd, Nat.reduceSub, Nat.reduceMul, Nat.not_lt_zero, Nat.lt_irrefl, Nat.le_refl, Bool.false_eq_true, false_and, and_false, true_and, and_true, if_pos, if_neg, if_true, if_false, not_true_eq_false, not_false_eq_true, c1, c6, s2, e8, h6, k198 (show 1 ≤ d by omega) z7, k14 (show 1 ≤ d by omega) hK h5 o1.2 hrc]
      obtain ⟨a, b, c, e⟩ := bkF_ok (now := Z 2) (Z 1 - Z 8) (Z 8) (Z 7) (by omega) z7
      refine k109l (by omega) hk ?_ (Z 1 - Z 8) (Z 8) (Z 7) (by omega) z7 rfl
      have hR := RK_now hk a (fun j hj hj4 => by rw [e j hj4, if_neg (by omega)]; exact z0 j (by omega) hj4)
      simp (disch := first | assumption | exact ct_i | exact ct_r | exact ct_n | exact ct_h | omega | exact z_in (by omega) (by omega) | exact b01 | exact Or.inl rfl | exact Or.inr rfl) only [e109_0, e109_1, e109_4, e109_7, e109_8, e109_11, e109_12, e109_15, e109_18, e109_21, e109_24, e109_26, e109_27, e109_28, e109_31, e109_32, e109_33, e109_36, e109_38, e109_39, e109_42, e109_45, e109_48, e109_49, e109_50, e109_51, e109_54, e109_55, e109_58, e109_61, e109_62, e109_65, e109_68, e109_69, e109_70, e109_73, e109_74, e109_75, e109_78, e109_81, e109_82, e109_85, e109_88, ct_i, ct_r, ct_n, ct_h, opt_v, opt_s, ref_s, ref_n, eq_self_iff_true, true_or, or_true, zl0, zl1, zl2, zl3, zl4, zl5, zl6, zl7, zl8, zl9, zl10, zl16, zl32, zl40, zl100, zl160, zIc1, zI_lt, zI_le, nI_eq, nI_add, z_sub, nI_clamp, zI_of, uu_eq, uu_ne, Nat.reduceLT, Nat.reduceLeDiff, Nat.reduceEqDiff, Nat.reduceAdd, Nat.reduceSub, Nat.reduceMul, Nat.not_lt_zero, Nat.lt_irrefl, Nat.le_refl, Bool.false_eq_true, false_and, and_false, true_and, and_true, if_pos, if_neg, if_true, if_false, not_true_eq_false, not_false_eq_true, c1, h6]
      refine k78 (by omega) hR (r := Z 9) (by rw [u1_ne _ _ _ (by decide)]; exact z9) (fun h' hR' => ?_)
      obtain ⟨n', t', sh', I'', L'', R''⟩ := h'
      have h6' := hR'.2.2.2.2.2.2.2.2.1
      simp (disch := omega) only [u1_ne, u1_eq] at h6'
      have c1' := (cP0 hR'.2.2.1).1
      simp only [] at c1'
      have := H _ hR'
      simp (disch := first | assumption | exact ct_i | exact ct_r | exact ct_n | exact ct_h | omega | exact z_in (by omega) (by omega) | exact b01 | exact Or.inl rfl | exact Or.inr rfl) only [e109_0, e109_1, e109_4, e109_7, e109_8, e109_11, e109_12, e109_15, e109_18, e109_21, e109_24, e109_26, e109_27, e109_28, e109_31, e109_32, e109_33, e109_36, e109_38, e109_39, e109_42, e109_45, e109_48, e109_49, e109_50, e109_51, e109_54, e109_55, e109_58, e109_61, e109_62, e109_65, e109_68, e109_69, e109_70, e109_73, e109_74, e109_75, e109_78, e109_81, e109_82, e109_85, e109_88, ct_i, ct_r, ct_n, ct_h, opt_v, opt_s, ref_s, ref_n, eq_self_iff_true, true_or, or_true, zl0, zl1, zl2, zl3, zl4, zl5, zl6, zl7, zl8, zl9, zl10, zl16, zl32, zl40, zl100, zl160, zIc1, zI_lt, zI_le, nI_eq, nI_add, z_sub, nI_clamp, zI_of, uu_eq, uu_ne, Nat.reduceLT, Nat.reduceLeDiff, Nat.reduceEqDiff, Nat.reduceAdd, Nat.reduceSub, Nat.reduceMul, Nat.not_lt_zero, Nat.lt_irrefl, Nat.le_refl, Bool.false_eq_true, false_and, and_false, true_and, and_true, if_pos, if_neg, if_true, if_false, not_true_eq_false, not_false_eq_true, c1', h6'.2.2.1, k198 (show 1 ≤ d by omega) a]
      exact this
    · rw [if_neg (by omega)] at H
      have := H _ hk
      have hx : nI (rmo (Z 7)) < nI 0 ∨ nI (Z 0) ≤ nI (rmo (Z 7)) := Or.inr ((zI_le (by omega) (by omega)).mpr (by omega))
      simp (disch := first | assumption | exact ct_i | exact ct_r | exact ct_n | exact ct_h | omega | exact z_in (by omega) (by omega) | exact b01 | exact Or.inl rfl | exact Or.inr rfl) only [b109, e109_0, e109_1, e109_4, e109_7, e109_8, e109_11, e109_12, e109_15, e109_18, e109_21, e109_24, e109_26, e109_27, e109_28, e109_31, e109_32, e109_33, e109_36, e109_38, e109_39, e109_42, e109_45, e109_48, e109_49, e109_50, e109_51, e109_54, e109_55, e109_58, e109_61, e109_62, e109_65, e109_69, e109_70, e109_73, e109_74, e109_75, e109_78, e109_81, e109_82, e109_85, e109_88, ct_i, ct_r, ct_n, ct_h, opt_v, opt_s, ref_s, ref_n, eq_self_iff_true, true_or, or_true, zl0, zl1, zl2, zl3, zl4, zl5, zl6, zl7, zl8, zl9, zl10, zl16, zl32, zl40, zl100, zl160, zIc1, zI_lt, zI_le, nI_eq, nI_add, z_sub, nI_clamp, zI_of, uu_eq, uu_ne, Nat.reduceLT, Nat.reduceLeDiff, Nat.reduceEqDiff, Nat.reduceAdd, Nat.reduceSub, Nat.reduceMul, Nat.not_lt_zero, Nat.lt_irrefl, Nat.le_refl, Bool.false_eq_true, false_and, and_false, true_and, and_true, if_pos, if_neg, if_true, if_false, not_true_eq_false, not_false_eq_true, c1, c6, s2, e8, h6, k198 (show 1 ≤ d by omega) z7, k14n (show 1 ≤ d by omega) hK h5 o1.2 hx]
      exact this
end
