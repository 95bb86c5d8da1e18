/-! the class's calls: rows gone, with costs; situations of beginning -/
def cntP (p : Nat → Bool) : Nat → Nat
  | 0 => 0
  | n + 1 => if p n = true then cntP p n + 1 else cntP p n
theorem cntP_le {p : Nat → Bool} : ∀ n, cntP p n ≤ n
  | 0 => Nat.le_refl 0
  | n + 1 => by
    have := cntP_le (p := p) n
    simp only [cntP]; split <;> omega
def sumN (f : Nat → Nat) : Nat → Nat
  | 0 => 0
  | n + 1 => sumN f n + f n
theorem sumN_le {f : Nat → Nat} {b : Nat} (h : ∀ i, f i ≤ b) : ∀ n, sumN f n ≤ n * b
  | 0 => Nat.zero_le _
  | n + 1 => by
    have := sumN_le h n
    have := h n
    simp only [sumN]
    rw [Nat.succ_mul]; omega
def hmC (Z : Nat → Nat) (D : Nat → Nat → Nat) (tx : Nat → Nat → List Nat) (sz : Nat → Nat) (it : Nat → Nat → Int32) (j rt : Nat) (n : Nat) : Nat := cntP (fun s => decide ((rwS Z D tx (it j) (sz j) (rt * 256 + s)).1 = sz j)) n
def hmS (Z : Nat → Nat) (D : Nat → Nat → Nat) (tx : Nat → Nat → List Nat) (sz : Nat → Nat) (it : Nat → Nat → Int32) (j : Nat) (n : Nat) : Nat := sumN (fun rt => hmC Z D tx sz it j rt (4 ^ Z 1)) n
def heaS (Z : Nat → Nat) (D : Nat → Nat → Nat) (tx : Nat → Nat → List Nat) (so sz : Nat → Nat) (it : Nat → Nat → Int32) (x w : Int32) : Int32 := match dec x 4, dec w 2 with
  | some j, some k => if so j = 0 then -11 else if k = 0 then hrS Z D tx sz it j (Z 0) else nI (hmS Z D tx sz it j (Z 0 * 4))
  | _, _ => -nI 2
theorem z_lt2 {v : Int32} (h : dec v 2 = none) : (v < nI 0 ∨ ¬ v ≤ nI 1) := by
  rcases dec_none h with h | h
  · exact Or.inl h
  · right
    rw [Int32.le_iff_toInt_le] at h ⊢
    have e1 : (nI 2).toInt = 2 := by decide
    have e2 : (nI 1).toInt = 1 := by decide
    omega
theorem z_four {m : Nat} (h : m ≤ 4) : nI 1 <<< ((nI 2 * nI m) &&& 31) = nI (4 ^ m) := by
  rcases (show m = 0 ∨ m = 1 ∨ m = 2 ∨ m = 3 ∨ m = 4 by omega) with rfl | rfl | rfl | rfl | rfl <;> decide
theorem four_le {m : Nat} (h : m ≤ 4) : 4 ^ m ≤ 256 := by
  rcases (show m = 0 ∨ m = 1 ∨ m = 2 ∨ m = 3 ∨ m = 4 by omega) with rfl | rfl | rfl | rfl | rfl <;> decide
section
variable {T0 : Nat} {Z : Nat → Nat} {D : Nat → Nat → Nat} {tx : Nat → Nat → List Nat} {tp so sz : Nat → Nat} {it : Nat → Nat → Int32} {d : Nat} {n t : Nat} {sh : Nat → Nat × Nat} {I : Nat → Nat → Int32} {L : Nat → Nat → Int64} {R : Nat → Nat → Option Nat} {I' : Nat → Nat → Int32} {Q : Option Value → aH → Prop}
theorem k100m (hd : 4 ≤ d) {j : Nat} (hj : j < 4) {l1 l2 : Int32} {f0 : Nat × Nat × Int32} (H : ∀ I' l6 l7, RK T0 Z D tx tp so sz it (n, t, sh, I', L, R) → f0.2.1 < 6144 → aE (a_cl_ d) 100 (109, [.ref 0, .int l1, .int l2, .ref (15 + 2 * j), .int f0.2.2, .int (nI f0.2.1), l6, l7], [], (n, t, sh, I', L, R)) Q) : ∀ m i s c I l7, i + m = sz j → s < 6144 → RK T0 Z D tx tp so sz it (n, t, sh, I, L, R) → rwT Z D tx (it j) m i s c = f0 →
    aE (a_cl_ d) 100 (44, [.ref 0, .int l1, .int l2, .ref (15 + 2 * j), .int c, .int (nI s), .int (nI i), l7], [], (n, t, sh, I, L, R)) Q := by
  intro m
  induction m with
  | zero =>
    intro i s c I l7 hi hs hk hf
    obtain ⟨⟨o1, ⟨o2, hB⟩, o3, o4, o5, o6, o7⟩, hn, hK, hcl, hD', hM, h4, h5, h6, h7, h8, h9⟩ := id hk
    simp only [] at hn hK hcl hD' hM h4 h5 h6 h7 h8 h9
    have s4 := (cPr hK hj).1
    obtain ⟨p1, p2, p3⟩ := h9 j hj
    obtain ⟨q1, q2, q3⟩ := o7 j hj
    obtain rfl : i = sz j := by omega
    simp only [rwT] at hf
    subst hf
    rw [e100_44]
    simp (disch := first | assumption | exact ct_i | exact ct_r | exact ct_n | exact ct_h | omega | exact z_in (by omega) (by omega) | exact b01 | exact Or.inl rfl | exact Or.inr rfl) only [e100_0, e100_1, e100_2, e100_5, e100_5n, e100_6, e100_6n, e100_7n, e100_7, e100_10, e100_11, e100_14, e100_15, e100_16, e100_19, e100_21, e100_22, e100_22n, e100_23, e100_26, e100_29, e100_31, e100_32, e100_33, e100_35, e100_36, e100_39, e100_41, e100_42, e100_46, e100_46n, e100_47, e100_50, e100_53, e100_54, e100_57, e100_59, e100_59n, e100_60, e100_62, e100_65, e100_68, e100_70, e100_72, e100_73, e100_76, e100_79, e100_81, e100_82, e100_85, e100_87, e100_87n, e100_88, e100_90, e100_93, e100_96, e100_97, e100_99, e100_101, e100_103, e100_106, e100_110, e100_113, e100_115, e100_118, e100_120, e100_123, ct_i, ct_r, ct_n, ct_h, opt_v, opt_s, ref_s, ref_n, eq_self_iff_true, true_or, or_true, zl0, zl1, zl2, zl3, zl4, zl5, zl6, zl7, zl8, zl9, zl10, zl16, zl32, zl40, zl100, zl160, zIc1, zI_lt, zI_le, nI_eq, nI_add, z_sub, nI_clamp, zI_of, uu_eq, uu_ne, Nat.reduceLT, Nat.reduceLeDiff, Nat.reduceEqDiff, Nat.reduceAdd, Nat.reduceSub, Nat.reduceMul, Nat.not_lt_zero, Nat.lt_irrefl, Nat.le_refl, Bool.false_eq_true, false_and, and_false, true_and, and_true, if_pos, if_neg, if_true, if_false, not_true_eq_false, not_false_eq_true, s4, p2]
    exact H I _ _ hk hs
  | succ m ih =>
    intro i s c I l7 hi hs hk hf
    obtain ⟨⟨o1, ⟨o2, hB⟩, o3, o4, o5, o6, o7⟩, hn, hK, hcl, hD', hM, h4, h5, h6, h7, h8, h9⟩ := id hk
    simp only [] at hn hK hcl hD' hM h4 h5 h6 h7 h8 h9
    obtain ⟨c1, c2, c3, c4, c5, c6, c7, c8, c9, c10⟩ := cP0 hK
    have s2 := (cPh hK).1
    have hS := cPr hK hj
    have s4 := hS.1
    obtain ⟨p1, p2, p3⟩ := h9 j hj
    obtain ⟨q1, q2, q3⟩ := o7 j hj
    have e := p3 i (by omega)
    simp only [rwT] at hf
    rw [e100_44]
    cases hg : gI Z D tx s (it j i) with
    | none =>
      rw [hg] at hf
      subst hf
      simp (disch := first | assumption | exact ct_i | exact ct_r | exact ct_n | exact ct_h | omega | exact z_in (by omega) (by omega) | exact b01 | exact Or.inl rfl | exact Or.inr rfl) only [e100_0, e100_1, e100_2, e100_5, e100_5n, e100_6, e100_6n, e100_7n, e100_7, e100_10, e100_11, e100_14, e100_15, e100_16, e100_19, e100_21, e100_22, e100_22n, e100_23, e100_26, e100_29, e100_31, e100_32, e100_33, e100_35, e100_36, e100_39, e100_41, e100_42, e100_46, e100_46n, e100_47, e100_50, e100_53, e100_54, e100_57, e100_59, e100_59n, e100_60, e100_62, e100_65, e100_68, e100_70, e100_72, e100_73, e100_76, e100_79, e100_81, e100_82, e100_85, e100_87, e100_87n, e100_88, e100_90, e100_93, e100_96, e100_97, e100_99, e100_101, e100_103, e100_106, e100_110, e100_113, e100_115, e100_118, e100_120, e100_123, ct_i, ct_r, ct_n, ct_h, opt_v, opt_s, ref_s, ref_n, eq_self_iff_true, true_or, or_true, zl0, zl1, zl2, zl3, zl4, zl5, zl6, zl7, zl8, zl9, zl10, zl16, zl32, zl40, zl100, zl160, zIc1, zI_lt, zI_le, nI_eq, nI_add, z_sub, nI_clamp, zI_of, uu_eq, uu_ne, Nat.reduceLT, Nat.reduceLeDiff, Nat.reduceEqDiff, Nat.reduceAdd, Nat.reduceSub, Nat.reduceMul, Nat.not_lt_zero, Nat.lt_irrefl, Nat.le_refl, Bool.false_eq_true, false_and, and_false, true_and, and_true, if_pos, if_neg, if_true, if_false, not_true_eq_false, not_false_eq_true, c1, c6, s2, s4, p2, k63 (show 2 ≤ d by omega) hS p2 q2 (show i < sz j by omega), e, k20g hd hk hs, hg, oI]
      exact H I _ _ hk hs
    | some s' =>
      have hs' := gI_lt hB hg
      rw [hg] at hf
      obtain ⟨i', hx, hb⟩ : ∃ i', dec (it j i) (Z 1) = some i' ∧ bh (Z 1) D (tx (Z 4)) s i' = some s' := by
        unfold gI at hg
        split at hg
        · exact ⟨_, ‹_›, hg⟩
        · cases hg
      obtain ⟨hxe, hi'⟩ := dec_some (by omega) hx
      simp (disch := first | assumption | exact ct_i | exact ct_r | exact ct_n | exact ct_h | omega | exact z_in (by omega) (by omega) | exact b01 | exact Or.inl rfl | exact Or.inr rfl) only [e100_0, e100_1, e100_2, e100_5, e100_5n, e100_6, e100_6n, e100_7n, e100_7, e100_10, e100_11, e100_14, e100_15, e100_16, e100_19, e100_21, e100_22, e100_22n, e100_23, e100_26, e100_29, e100_31, e100_32, e100_33, e100_35, e100_36, e100_39, e100_41, e100_42, e100_46, e100_46n, e100_47, e100_50, e100_53, e100_54, e100_57, e100_59, e100_59n, e100_60, e100_62, e100_65, e100_68, e100_70, e100_72, e100_73, e100_76, e100_79, e100_81, e100_82, e100_85, e100_87, e100_87n, e100_88, e100_90, e100_93, e100_96, e100_97, e100_99, e100_101, e100_103, e100_106, e100_110, e100_113, e100_115, e100_118, e100_120, e100_123, ct_i, ct_r, ct_n, ct_h, opt_v, opt_s, ref_s, ref_n, eq_self_iff_true, true_or, or_true, zl0, zl1, zl2, zl3, zl4, zl5, zl6, zl7, zl8, zl9, zl10, zl16, zl32, zl40, zl100, zl160, zIc1, zI_lt, zI_le, nI_eq, nI_add, z_sub, nI_clamp, zI_of, uu_eq, uu_ne, Nat.reduceLT, Nat.reduceLeDiff, Nat.reduceEqDiff, Nat.reduceAdd, Nat.reduceSub, Nat.reduceMul, Nat.not_lt_zero, Nat.lt_irrefl, Nat.le_refl, Bool.false_eq_true, false_and, and_false, true_and, and_true, if_pos, if_neg, if_true, if_false, not_true_eq_false, not_false_eq_true, c1, c6, s2, s4, p2, k63 (show 2 ≤ d by omega) hS p2 q2 (show i < sz j by omega), e, k20g hd hk hs, hg, oI, oI_ne hs']
      rw [hxe]
      refine k22 (by omega) hK hD' hB (RC_rT hk.1 hk.2) hs hi' (fun I' hI' => ?_)
      have hR : RK T0 Z D tx tp so sz it (n, t, sh, I', L, R) := ⟨hk.1, RC_fr hk.1 (frA_3 hI') (fun _ _ _ => rfl) hk.2⟩
      simp (disch := first | assumption | exact ct_i | exact ct_r | exact ct_n | exact ct_h | omega | exact z_in (by omega) (by omega) | exact b01 | exact Or.inl rfl | exact Or.inr rfl) only [e100_0, e100_1, e100_2, e100_5, e100_5n, e100_6, e100_6n, e100_7n, e100_7, e100_10, e100_11, e100_14, e100_15, e100_16, e100_19, e100_21, e100_22, e100_22n, e100_23, e100_26, e100_29, e100_31, e100_32, e100_33, e100_35, e100_36, e100_39, e100_41, e100_42, e100_46, e100_46n, e100_47, e100_50, e100_53, e100_54, e100_57, e100_59, e100_59n, e100_60, e100_62, e100_65, e100_68, e100_70, e100_72, e100_73, e100_76, e100_79, e100_81, e100_82, e100_85, e100_87, e100_87n, e100_88, e100_90, e100_93, e100_96, e100_97, e100_99, e100_101, e100_103, e100_106, e100_110, e100_113, e100_115, e100_118, e100_120, e100_123, ct_i, ct_r, ct_n, ct_h, opt_v, opt_s, ref_s, ref_n, eq_self_iff_true, true_or, or_true, zl0, zl1, zl2, zl3, zl4, zl5, zl6, zl7, zl8, zl9, zl10, zl16, zl32, zl40, zl100, zl160, zIc1, zI_lt, zI_le, nI_eq, nI_add, z_sub, nI_clamp, zI_of, uu_eq, uu_ne, Nat.reduceLT, Nat.reduceLeDiff, Nat.reduceEqDiff, Nat.reduceAdd, Nat.reduceSub, Nat.reduceMul, Nat.not_lt_zero, Nat.lt_irrefl, Nat.le_refl, Bool.false_eq_true, false_and, and_false, true_and, and_true, if_pos, if_neg, if_true, if_false, not_true_eq_false, not_false_eq_true]
      refine ih (i + 1) s' _ I' _ (by omega) hs' hR ?_
      rw [← hf]
      unfold cI
      rw [hx]
theorem k100 (hd : 12 ≤ d) (hk : RK T0 Z D tx tp so sz it (n, t, sh, I, L, R)) {x w : Int32} (H : ∀ h', RK T0 Z D tx tp so sz it h' → Q (some (.int (rowS Z D tx so sz it x w))) h') : aC d 100 [.ref 0, .int x, .int w] (n, t, sh, I, L, R) Q := by
  obtain ⟨d, rfl⟩ : ∃ e, d = e + 1 := ⟨d - 1, by omega⟩
  obtain ⟨⟨o1, ⟨o2, hB⟩, o3, o4, o5, o6, o7⟩, hn, hK, hcl, hD', hM, h4, h5, h6, h7, h8, h9⟩ := id hk
  simp only [] at hn hK hcl hD' hM h4 h5 h6 h7 h8 h9
  obtain ⟨c1, c2, c3, c4, c5, c6, c7, c8, c9, c10⟩ := cP0 hK
  unfold rowS at H
  cases hx : dec x 4 with
  | none =>
    simp only [hx] at H
    have := H _ hk
    simp (disch := first | assumption | exact ct_i | exact ct_r | exact ct_n | exact ct_h | omega | exact z_in (by omega) (by omega) | exact b01 | exact Or.inl rfl | exact Or.inr rfl) only [b100, e100_0, e100_1, e100_2, e100_5, e100_5n, e100_6, e100_6n, e100_7n, e100_7, e100_10, e100_11, e100_14, e100_15, e100_16, e100_19, e100_21, e100_22, e100_22n, e100_23, e100_26, e100_29, e100_31, e100_32, e100_33, e100_35, e100_36, e100_39, e100_41, e100_42, e100_46, e100_46n, e100_47, e100_50, e100_53, e100_54, e100_57, e100_59, e100_59n, e100_60, e100_62, e100_65, e100_68, e100_70, e100_72, e100_73, e100_76, e100_79, e100_81, e100_82, e100_85, e100_87, e100_87n, e100_88, e100_90, e100_93, e100_96, e100_97, e100_99, e100_101, e100_103, e100_106, e100_110, e100_113, e100_115, e100_118, e100_120, e100_123, ct_i, ct_r, ct_n, ct_h, opt_v, opt_s, ref_s, ref_n, eq_self_iff_true, true_or, or_true, zl0, zl1, zl2, zl3, zl4, zl5, zl6, zl7, zl8, zl9, zl10, zl16, zl32, zl40, zl100, zl160, zIc1, zI_lt, zI_le, nI_eq, nI_add, z_sub, nI_clamp, zI_of, uu_eq, uu_ne, Nat.reduceLT, Nat.reduceLeDiff, Nat.reduceEqDiff, Nat.reduceAdd, Nat.reduceSub, Nat.reduceMul, Nat.not_lt_zero, Nat.lt_irrefl, Nat.le_refl, Bool.false_eq_true, false_and, and_false, true_and, and_true, if_pos, if_neg, if_true, if_false, not_true_eq_false, not_false_eq_true, c1, k99n (show 1 ≤ d by omega) (dec_none hx)]
    exact this
  | some j =>
    obtain ⟨rfl, hj⟩ := dec_some (by decide) hx
    have hS := cPr hK hj
    have s4 := hS.1
    obtain ⟨p1, p2, p3⟩ := h9 j hj
    obtain ⟨q1, q2, q3⟩ := o7 j hj
    cases hw : dec w 2 with
    | none =>
      simp only [hx, hw] at H
      have := H _ hk
      rcases z_lt2 hw with hv | hv
      · simp (disch := first | assumption | exact ct_i | exact ct_r | exact ct_n | exact ct_h | omega | exact z_in (by omega) (by omega) | exact b01 | exact Or.inl rfl | exact Or.inr rfl) only [b100, e100_0, e100_1, e100_2, e100_5, e100_5n, e100_6, e100_6n, e100_7n, e100_7, e100_10, e100_11, e100_14, e100_15, e100_16, e100_19, e100_21, e100_22, e100_22n, e100_23, e100_26, e100_29, e100_31, e100_32, e100_33, e100_35, e100_36, e100_39, e100_41, e100_42, e100_46, e100_46n, e100_47, e100_50, e100_53, e100_54, e100_57, e100_59, e100_59n, e100_60, e100_62, e100_65, e100_68, e100_70, e100_72, e100_73, e100_76, e100_79, e100_81, e100_82, e100_85, e100_87, e100_87n, e100_88, e100_90, e100_93, e100_96, e100_97, e100_99, e100_101, e100_103, e100_106, e100_110, e100_113, e100_115, e100_118, e100_120, e100_123, ct_i, ct_r, ct_n, ct_h, opt_v, opt_s, ref_s, ref_n, eq_self_iff_true, true_or, or_true, zl0, zl1, zl2, zl3, zl4, zl5, zl6, zl7, zl8, zl9, zl10, zl16, zl32, zl40, zl100, zl160, zIc1, zI_lt, zI_le, nI_eq, nI_add, z_sub, nI_clamp, zI_of, uu_eq, uu_ne, Nat.reduceLT, Nat.reduceLeDiff, Nat.reduceEqDiff, Nat.reduceAdd, Nat.reduceSub, Nat.reduceMul, Nat.not_lt_zero, Nat.lt_irrefl, Nat.le_refl, Bool.false_eq_true, false_and, and_false, true_and, and_true, if_pos, if_neg, if_true, if_false, not_true_eq_false, not_false_eq_true, c1, k99 (show 1 ≤ d by omega) hK hj, hv]
        exact this
      · simp (disch := first | assumption | exact ct_i | exact ct_r | exact ct_n | exact ct_h | omega | exact z_in (by omega) (by omega) | exact b01 | exact Or.inl rfl | exact Or.inr rfl) only [b100, e100_0, e100_1, e100_2, e100_5, e100_5n, e100_6, e100_6n, e100_7n, e100_7, e100_10, e100_11, e100_14, e100_15, e100_16, e100_19, e100_21, e100_22, e100_22n, e100_23, e100_26, e100_29, e100_31, e100_32, e100_33, e100_35, e100_36, e100_39, e100_41, e100_42, e100_46, e100_46n, e100_47, e100_50, e100_53, e100_54, e100_57, e100_59, e100_59n, e100_60, e100_62, e100_65, e100_68, e100_70, e100_72, e100_73, e100_76, e100_79, e100_81, e100_82, e100_85, e100_87, e100_87n, e100_88, e100_90, e100_93, e100_96, e100_97, e100_99, e100_101, e100_103, e100_106, e100_110, e100_113, e100_115, e100_118, e100_120, e100_123, ct_i, ct_r, ct_n, ct_h, opt_v, opt_s, ref_s, ref_n, eq_self_iff_true, true_or, or_true, zl0, zl1, zl2, zl3, zl4, zl5, zl6, zl7, zl8, zl9, zl10, zl16, zl32, zl40, zl100, zl160, zIc1, zI_lt, zI_le, nI_eq, nI_add, z_sub, nI_clamp, zI_of, uu_eq, uu_ne, Nat.reduceLT, Nat.reduceLeDiff, Nat.reduceEqDiff, Nat.reduceAdd, Nat.reduceSub, Nat.reduceMul, Nat.not_lt_zero, Nat.lt_irrefl, Nat.le_refl, Bool.false_eq_true, false_and, and_false, true_and, and_true, if_true, if_false, not_true_eq_false, not_false_eq_true, c1, k99 (show 1 ≤ d by omega) hK hj, hv, ite_self]
        exact this
    | some k =>
      obtain ⟨rfl, hk2⟩ := dec_some (by decide) hw
      by_cases hs : so j = 0
      · simp only [hx, hw, if_pos hs] at H
        have := H _ hk
        simp (disch := first | assumption | exact ct_i | exact ct_r | exact ct_n | exact ct_h | omega | exact z_in (by omega) (by omega) | exact b01 | exact Or.inl rfl | exact Or.inr rfl) only [b100, e100_0, e100_1, e100_2, e100_5, e100_5n, e100_6, e100_6n, e100_7n, e100_7, e100_10, e100_11, e100_14, e100_15, e100_16, e100_19, e100_21, e100_22, e100_22n, e100_23, e100_26, e100_29, e100_31, e100_32, e100_33, e100_35, e100_36, e100_39, e100_41, e100_42, e100_46, e100_46n, e100_47, e100_50, e100_53, e100_54, e100_57, e100_59, e100_59n, e100_60, e100_62, e100_65, e100_68, e100_70, e100_72, e100_73, e100_76, e100_79, e100_81, e100_82, e100_85, e100_87, e100_87n, e100_88, e100_90, e100_93, e100_96, e100_97, e100_99, e100_101, e100_103, e100_106, e100_110, e100_113, e100_115, e100_118, e100_120, e100_123, ct_i, ct_r, ct_n, ct_h, opt_v, opt_s, ref_s, ref_n, eq_self_iff_true, true_or, or_true, zl0, zl1, zl2, zl3, zl4, zl5, zl6, zl7, zl8, zl9, zl10, zl16, zl32, zl40, zl100, zl160, zIc1, zI_lt, zI_le, nI_eq, nI_add, z_sub, nI_clamp, zI_of, uu_eq, uu_ne, Nat.reduceLT, Nat.reduceLeDiff, Nat.reduceEqDiff, Nat.reduceAdd, Nat.reduceSub, Nat.reduceMul, Nat.not_lt_zero, Nat.lt_irrefl, Nat.le_refl, Bool.false_eq_true, false_and, and_false, true_and, and_true, if_pos, if_neg, if_true, if_false, not_true_eq_false, not_false_eq_true, c1, s4, k99 (show 1 ≤ d by omega) hK hj, k62 (show 1 ≤ d by omega) hS p1 q1, hs]
        exact this
      · simp only [hx, hw, if_neg hs] at H
        simp (disch := first | assumption | exact ct_i | exact ct_r | exact ct_n | exact ct_h | omega | exact z_in (by omega) (by omega) | exact b01 | exact Or.inl rfl | exact Or.inr rfl) only [b100, e100_0, e100_1, e100_2, e100_5, e100_5n, e100_6, e100_6n, e100_7n, e100_7, e100_10, e100_11, e100_14, e100_15, e100_16, e100_19, e100_21, e100_22, e100_22n, e100_23, e100_26, e100_29, e100_31, e100_32, e100_33, e100_35, e100_36, e100_39, e100_41, e100_42, e100_46, e100_46n, e100_47, e100_50, e100_53, e100_54, e100_57, e100_59, e100_59n, e100_60, e100_62, e100_65, e100_68, e100_70, e100_72, e100_73, e100_76, e100_79, e100_81, e100_82, e100_85, e100_87, e100_87n, e100_88, e100_90, e100_93, e100_96, e100_97, e100_99, e100_101, e100_103, e100_106, e100_110, e100_113, e100_115, e100_118, e100_120, e100_123, ct_i, ct_r, ct_n, ct_h, opt_v, opt_s, ref_s, ref_n, eq_self_iff_true, true_or, or_true, zl0, zl1, zl2, zl3, zl4, zl5, zl6, zl7, zl8, zl9, zl10, zl16, zl32, zl40, zl100, zl160, zIc1, zI_lt, zI_le, nI_eq, nI_add, z_sub, nI_clamp, zI_of, uu_eq, uu_ne, Nat.reduceLT, Nat.reduceLeDiff, Nat.reduceEqDiff, Nat.reduceAdd, Nat.reduceSub, Nat.reduceMul, Nat.not_lt_zero, Nat.lt_irrefl, Nat.le_refl, Bool.false_eq_true, false_and, and_false, true_and, and_true, if_pos, if_neg, if_true, if_false, not_true_eq_false, not_false_eq_true, c1, s4, k99 (show 1 ≤ d by omega) hK hj, k62 (show 1 ≤ d by omega) hS p1 q1, hs, h6.2.2.1]
        refine k100m (f0 := rwS Z D tx (it j) (sz j) (Z 2)) (by omega) hj (fun I' l6 l7 hR hs' => ?_) (sz j) 0 (Z 2) (nI 0) I _ (by omega) o3.1 hk rfl
        have := H _ hR
        rcases (show k = 0 ∨ k = 1 by omega) with rfl | rfl
        · simp (disch := first | assumption | exact ct_i | exact ct_r | exact ct_n | exact ct_h | omega | exact z_in (by omega) (by omega) | exact b01 | exact Or.inl rfl | exact Or.inr rfl) only [e100_0, e100_1, e100_2, e100_5, e100_5n, e100_6, e100_6n, e100_7n, e100_7, e100_10, e100_11, e100_14, e100_15, e100_16, e100_19, e100_21, e100_22, e100_22n, e100_23, e100_26, e100_29, e100_31, e100_32, e100_33, e100_35, e100_36, e100_39, e100_41, e100_42, e100_46, e100_46n, e100_47, e100_50, e100_53, e100_54, e100_57, e100_59, e100_59n, e100_60, e100_62, e100_65, e100_68, e100_70, e100_72, e100_73, e100_76, e100_79, e100_81, e100_82, e100_85, e100_87, e100_87n, e100_88, e100_90, e100_93, e100_96, e100_97, e100_99, e100_101, e100_103, e100_106, e100_109, e100_110, e100_113, e100_115, e100_118, e100_120, e100_123, ct_i, ct_r, ct_n, ct_h, opt_v, opt_s, ref_s, ref_n, eq_self_iff_true, true_or, or_true, zl0, zl1, zl2, zl3, zl4, zl5, zl6, zl7, zl8, zl9, zl10, zl16, zl32, zl40, zl100, zl160, zIc1, zI_lt, zI_le, nI_eq, nI_add, z_sub, nI_clamp, zI_of, uu_eq, uu_ne, Nat.reduceLT, Nat.reduceLeDiff, Nat.reduceEqDiff, Nat.reduceAdd, Nat.reduceSub, Nat.reduceMul, Nat.not_lt_zero, Nat.lt_irrefl, Nat.le_refl, Bool.false_eq_true, false_and, and_false, true_and, and_true, if_pos, if_neg, if_true, if_false, not_true_eq_false, not_false_eq_true]
          exact this
        · simp (disch := first | assumption | exact ct_i | exact ct_r | exact ct_n | exact ct_h | omega | exact z_in (by omega) (by omega) | exact b01 | exact Or.inl rfl | exact Or.inr rfl) only [e100_0, e100_1, e100_2, e100_5, e100_5n, e100_6, e100_6n, e100_7n, e100_7, e100_10, e100_11, e100_14, e100_15, e100_16, e100_19, e100_21, e100_22, e100_22n, e100_23, e100_26, e100_29, e100_31, e100_32, e100_33, e100_35, e100_36, e100_39, e100_41, e100_42, e100_46, e100_46n, e100_47, e100_50, e100_53, e100_54, e100_57, e100_59, e100_59n, e100_60, e100_62, e100_65, e100_68, e100_70, e100_72, e100_73, e100_76, e100_79, e100_81, e100_82, e100_85, e100_87, e100_87n, e100_88, e100_90, e100_93, e100_96, e100_97, e100_99, e100_101, e100_103, e100_106, e100_109, e100_110, e100_113, e100_115, e100_118, e100_120, e100_123, ct_i, ct_r, ct_n, ct_h, opt_v, opt_s, ref_s, ref_n, eq_self_iff_true, true_or, or_true, zl0, zl1, zl2, zl3, zl4, zl5, zl6, zl7, zl8, zl9, zl10, zl16, zl32, zl40, zl100, zl160, zIc1, zI_lt, zI_le, nI_eq, nI_add, z_sub, nI_clamp, zI_of, uu_eq, uu_ne, Nat.reduceLT, Nat.reduceLeDiff, Nat.reduceEqDiff, Nat.reduceAdd, Nat.reduceSub, Nat.reduceMul, Nat.not_lt_zero, Nat.lt_irrefl, Nat.le_refl, Bool.false_eq_true, false_and, and_false, true_and, and_true, if_pos, if_neg, if_true, if_false, not_true_eq_false, not_false_eq_true, k198 (show 1 ≤ d by omega) hs']
          exact this
end
