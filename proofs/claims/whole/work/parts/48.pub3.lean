/-! the class's calls: the number of rooms, the rule, the image -/
def setN (Z : Nat → Nat) (D : Nat → Nat → Nat) (v : Int32) : Int32 × (Nat → Nat) := match dec v 7 with
  | some r => if 1 ≤ r ∧ rmo (Z 2) < r ∧ hiF D (Z 1) < nI r then (nI (Z 0), u1 Z 0 r) else (-nI 2, Z)
  | none => (-nI 2, Z)
def setS (Z : Nat → Nat) (D : Nat → Nat → Nat) (w x v : Int32) : Int32 × (Nat → Nat) :=
  if w = nI 0 then setZ Z D x v else if w = nI 1 then setT Z v else if w = nI 2 then setR Z v else if w = nI 3 then setN Z D v else (-nI 2, Z)
def forS (Z : Nat → Nat) (x : Int32) : Int32 × (Nat → Nat) := match dec x (Z 3) with
  | some r => (nI (Z 4), u1 Z 4 r)
  | none => (-nI 2, Z)
def welS (Z : Nat → Nat) (tx : Nat → Nat → List Nat) : Int32 := if wl (tx (Z 4)) (Z 2) = true then nI 1 else nI 0
def imgS (Z : Nat → Nat) : Int32 × (Nat → Nat) := (nI (rmo (Z 2)), u1 (u1 (u1 (u1 Z 6 1) 7 (Z 2)) 8 (Z 1)) 9 (Z 4))
section
variable {T0 : Nat} {Z : Nat → Nat} {D : Nat → Nat → Nat} {tx : Nat → Nat → List Nat} {tp so sz : Nat → Nat} {it : Nat → Nat → Int32} {d : Nat} {n t : Nat} {sh : Nat → Nat × Nat} {I : Nat → Nat → Int32} {L : Nat → Nat → Int64} {R : Nat → Nat → Option Nat} {Q : Option Value → aH → Prop}
theorem RK_rc (h : RK T0 Z D tx tp so sz it (n, t, sh, I, L, R)) {r : Nat} (h1 : 1 ≤ r) (h6 : r ≤ 6) : RK T0 (u1 Z 0 r) D tx tp so sz it (n, t, sh, u2 I 1 0 (nI r), L, R) := by
  obtain ⟨o1, o2, o3, o4, o5, o6, o7⟩ := h.1
  obtain ⟨-, h0, hK, hcl, h2, h3, h4, h5, h6', h7, h8, h9⟩ := h
  simp only [] at h0 hK hcl h2 h3 h4 h5 h6' h7 h8 h9
  constructor
  · simp (disch := omega) only [okS, u1_ne, u1_eq]
    exact ⟨⟨h1, h6⟩, o2, o3, o4, o5, o6, o7⟩
  · simp (disch := omega) only [RC, u1_ne, u1_eq, uu_eq, uu_ne]
    refine ⟨h0, hK, hcl, ⟨?_, fun i hi k hk => ?_⟩, h3, h4, trivial, h6', fun i hi => ⟨fun p hp => ?_, fun p hp j hj => ?_⟩, ⟨h8.1, h8.2⟩, fun j hj => ⟨?_, ?_, fun k hk => ?_⟩⟩
    · rw [uu_ne _ _ _ _ (by omega)]; exact h2.1
    · rw [uu_ne _ _ _ _ (by omega)]; exact h2.2 i hi k hk
    · rw [uu_ne _ _ _ _ (by omega)]; exact (h7 i hi).1 p hp
    · rw [uu_ne _ _ _ _ (by omega)]; exact (h7 i hi).2 p hp j hj
    · exact (h9 j hj).1
    · exact (h9 j hj).2.1
    · exact (h9 j hj).2.2 k hk
theorem k84 (hd : 10 ≤ d) (hk : RK T0 Z D tx tp so sz it (n, t, sh, I, L, R)) {v : Int32} (H : ∀ h', RK T0 (setN Z D v).2 D tx tp so sz it h' → Q (some (.int (setN Z D v).1)) h') : aC d 84 [.ref 0, .int v] (n, t, sh, I, L, R) Q := by
  obtain ⟨d, rfl⟩ : ∃ e, d = e + 1 := ⟨d - 1, by omega⟩
  obtain ⟨⟨o1, ⟨o2, hB⟩, o3, o4, o5, o6, o7⟩, hn, hK, hcl, hD', hM, h4, h5, h6, h7, h8, h9⟩ := id hk
  simp only [] at hK hD' hM h4 h5 h6 h7 h8 h9
  obtain ⟨c1, c2, c3, c4, c5, c6, c7, c8, c9, c10⟩ := cP0 hK
  have s1 := (cPh hK).1
  have hr := rmo_lt o3.1
  unfold setN at H
  cases hv : dec v 7 with
  | none =>
    rw [hv] at H
    have := H _ hk
    have hv' : v < nI 1 ∨ ¬ v ≤ nI 6 := by
      have e1 : (nI 7).toInt = 7 := by decide
      have e2 : (nI 6).toInt = 6 := by decide
      have e3 : (nI 1).toInt = 1 := by decide
      have e4 : (nI 0).toInt = 0 := by decide
      rcases dec_none hv with h | h
      · left; rw [Int32.lt_iff_toInt_lt] at h ⊢; omega
      · right; rw [Int32.le_iff_toInt_le] at h ⊢; omega
    rcases hv' with hv' | hv'
    · simp (disch := first | assumption | exact ct_i | exact ct_r | exact ct_n | exact ct_h | omega | exact z_in (by omega) (by omega) | exact b01 | exact Or.inl rfl | exact Or.inr rfl) only [b84, e84_0, e84_1, e84_2, e84_5, e84_6, e84_8, e84_11, e84_13, e84_14, e84_15, e84_18, e84_21, e84_22, e84_25, e84_26, e84_29, e84_32, e84_33, e84_36, e84_38, e84_39, e84_40, e84_43, e84_46, e84_47, e84_48, e84_51, e84_52, e84_55, e84_56, ct_i, ct_r, ct_n, ct_h, opt_v, opt_s, ref_s, ref_n, eq_self_iff_true, true_or, or_true, zl0, zl1, zl2, zl3, zl4, zl5, zl6, zl7, zl8, zl9, zl10, zl16, zl32, zl40, zl100, zl160, zIc1, zI_lt, zI_le, nI_eq, nI_add, z_sub, nI_clamp, zI_of, uu_eq, uu_ne, Nat.reduceLT, Nat.reduceLeDiff, Nat.reduceEqDiff, Nat.reduceAdd, Nat.reduceSub, Nat.reduceMul, Nat.not_lt_zero, Nat.lt_irrefl, Nat.le_refl, Bool.false_eq_true, false_and, and_false, true_and, and_true, if_pos, if_neg, if_true, if_false, not_true_eq_false, not_false_eq_true, hv']
      exact this
    · simp (disch := first | assumption | exact ct_i | exact ct_r | exact ct_n | exact ct_h | omega | exact z_in (by omega) (by omega) | exact b01 | exact Or.inl rfl | exact Or.inr rfl) only [b84, e84_0, e84_1, e84_2, e84_5, e84_6, e84_8, e84_11, e84_13, e84_14, e84_15, e84_18, e84_21, e84_22, e84_25, e84_26, e84_29, e84_32, e84_33, e84_36, e84_38, e84_39, e84_40, e84_43, e84_46, e84_47, e84_48, e84_51, e84_52, e84_55, e84_56, ct_i, ct_r, ct_n, ct_h, opt_v, opt_s, ref_s, ref_n, eq_self_iff_true, true_or, or_true, zl0, zl1, zl2, zl3, zl4, zl5, zl6, zl7, zl8, zl9, zl10, zl16, zl32, zl40, zl100, zl160, zIc1, zI_lt, zI_le, nI_eq, nI_add, z_sub, nI_clamp, zI_of, uu_eq, uu_ne, Nat.reduceLT, Nat.reduceLeDiff, Nat.reduceEqDiff, Nat.reduceAdd, Nat.reduceSub, Nat.reduceMul, Nat.not_lt_zero, Nat.lt_irrefl, Nat.le_refl, Bool.false_eq_true, false_and, and_false, true_and, and_true, if_true, if_false, not_true_eq_false, not_false_eq_true, hv', ite_self]
      exact this
  | some r =>
    obtain ⟨rfl, hw⟩ := dec_some (by decide) hv
    rw [hv] at H
    by_cases hc : 1 ≤ r ∧ rmo (Z 2) < r ∧ hiF D (Z 1) < nI r
    · simp only [if_pos hc] at H
      have := H _ (RK_rc hk hc.1 (show r ≤ 6 by omega))
      have hc1 := hc.1
      have hc2 := hc.2.1
      simp (disch := first | assumption | exact ct_i | exact ct_r | exact ct_n | exact ct_h | omega | exact z_in (by omega) (by omega) | exact b01 | exact Or.inl rfl | exact Or.inr rfl) only [b84, e84_0, e84_1, e84_2, e84_5, e84_6, e84_8, e84_11, e84_13, e84_14, e84_15, e84_18, e84_21, e84_22, e84_25, e84_26, e84_29, e84_32, e84_33, e84_36, e84_38, e84_39, e84_40, e84_43, e84_46, e84_47, e84_48, e84_51, e84_52, e84_55, e84_56, ct_i, ct_r, ct_n, ct_h, opt_v, opt_s, ref_s, ref_n, eq_self_iff_true, true_or, or_true, zl0, zl1, zl2, zl3, zl4, zl5, zl6, zl7, zl8, zl9, zl10, zl16, zl32, zl40, zl100, zl160, zIc1, zI_lt, zI_le, nI_eq, nI_add, z_sub, nI_clamp, zI_of, uu_eq, uu_ne, Nat.reduceLT, Nat.reduceLeDiff, Nat.reduceEqDiff, Nat.reduceAdd, Nat.reduceSub, Nat.reduceMul, Nat.not_lt_zero, Nat.lt_irrefl, Nat.le_refl, Bool.false_eq_true, false_and, and_false, true_and, and_true, if_pos, if_neg, if_true, if_false, not_true_eq_false, not_false_eq_true, c1, c6, s1, h5, h6.2.2.1, k198 (show 1 ≤ d by omega) o3.1, k16 (show 2 ≤ d by omega) hK hD', hc.2.2]
      exact this
    · simp only [if_neg hc] at H
      have := H _ hk
      by_cases hc1 : 1 ≤ r
      · by_cases hc2 : rmo (Z 2) < r
        · have hc3 : ¬ hiF D (Z 1) < nI r := fun h => hc ⟨hc1, hc2, h⟩
          simp (disch := first | assumption | exact ct_i | exact ct_r | exact ct_n | exact ct_h | omega | exact z_in (by omega) (by omega) | exact b01 | exact Or.inl rfl | exact Or.inr rfl) only [b84, e84_0, e84_1, e84_2, e84_5, e84_6, e84_8, e84_11, e84_13, e84_14, e84_15, e84_18, e84_21, e84_22, e84_25, e84_26, e84_29, e84_32, e84_33, e84_36, e84_38, e84_39, e84_40, e84_43, e84_46, e84_47, e84_48, e84_51, e84_52, e84_55, e84_56, ct_i, ct_r, ct_n, ct_h, opt_v, opt_s, ref_s, ref_n, eq_self_iff_true, true_or, or_true, zl0, zl1, zl2, zl3, zl4, zl5, zl6, zl7, zl8, zl9, zl10, zl16, zl32, zl40, zl100, zl160, zIc1, zI_lt, zI_le, nI_eq, nI_add, z_sub, nI_clamp, zI_of, uu_eq, uu_ne, Nat.reduceLT, Nat.reduceLeDiff, Nat.reduceEqDiff, Nat.reduceAdd, Nat.reduceSub, Nat.reduceMul, Nat.not_lt_zero, Nat.lt_irrefl, Nat.le_refl, Bool.false_eq_true, false_and, and_false, true_and, and_true, if_pos, if_neg, if_true, if_false, not_true_eq_false, not_false_eq_true, c1, c6, s1, h5, h6.2.2.1, k198 (show 1 ≤ d by omega) o3.1, k16 (show 2 ≤ d by omega) hK hD', hc3]
          exact this
        · simp (disch := first | assumption | exact ct_i | exact ct_r | exact ct_n | exact ct_h | omega | exact z_in (by omega) (by omega) | exact b01 | exact Or.inl rfl | exact Or.inr rfl) only [b84, e84_0, e84_1, e84_2, e84_5, e84_6, e84_8, e84_11, e84_13, e84_14, e84_15, e84_18, e84_21, e84_22, e84_25, e84_26, e84_29, e84_32, e84_33, e84_36, e84_38, e84_39, e84_40, e84_43, e84_46, e84_47, e84_48, e84_51, e84_52, e84_55, e84_56, ct_i, ct_r, ct_n, ct_h, opt_v, opt_s, ref_s, ref_n, eq_self_iff_true, true_or, or_true, zl0, zl1, zl2, zl3, zl4, zl5, zl6, zl7, zl8, zl9, zl10, zl16, zl32, zl40, zl100, zl160, zIc1, zI_lt, zI_le, nI_eq, nI_add, z_sub, nI_clamp, zI_of, uu_eq, uu_ne, Nat.reduceLT, Nat.reduceLeDiff, Nat.reduceEqDiff, Nat.reduceAdd, Nat.reduceSub, Nat.reduceMul, Nat.not_lt_zero, Nat.lt_irrefl, Nat.le_refl, Bool.false_eq_true, false_and, and_false, true_and, and_true, if_pos, if_neg, if_true, if_false, not_true_eq_false, not_false_eq_true, c1, c6, s1, h5, h6.2.2.1, k198 (show 1 ≤ d by omega) o3.1]
          exact this
      · simp (disch := first | assumption | exact ct_i | exact ct_r | exact ct_n | exact ct_h | omega | exact z_in (by omega) (by omega) | exact b01 | exact Or.inl rfl | exact Or.inr rfl) only [b84, e84_0, e84_1, e84_2, e84_5, e84_6, e84_8, e84_11, e84_13, e84_14, e84_15, e84_18, e84_21, e84_22, e84_25, e84_26, e84_29, e84_32, e84_33, e84_36, e84_38, e84_39, e84_40, e84_43, e84_46, e84_47, e84_48, e84_51, e84_52, e84_55, e84_56, ct_i, ct_r, ct_n, ct_h, opt_v, opt_s, ref_s, ref_n, eq_self_iff_true, true_or, or_true, zl0, zl1, zl2, zl3, zl4, zl5, zl6, zl7, zl8, zl9, zl10, zl16, zl32, zl40, zl100, zl160, zIc1, zI_lt, zI_le, nI_eq, nI_add, z_sub, nI_clamp, zI_of, uu_eq, uu_ne, Nat.reduceLT, Nat.reduceLeDiff, Nat.reduceEqDiff, Nat.reduceAdd, Nat.reduceSub, Nat.reduceMul, Nat.not_lt_zero, Nat.lt_irrefl, Nat.le_refl, Bool.false_eq_true, false_and, and_false, true_and, and_true, if_pos, if_neg, if_true, if_false, not_true_eq_false, not_false_eq_true]
        exact this
theorem k80 (hd : 12 ≤ d) (hk : RK T0 Z D tx tp so sz it (n, t, sh, I, L, R)) {w x v : Int32} (H : ∀ h', RK T0 (setS Z D w x v).2 D tx tp so sz it h' → Q (some (.int (setS Z D w x v).1)) h') : aC d 80 [.ref 0, .int w, .int x, .int v] (n, t, sh, I, L, R) Q := by
  obtain ⟨d, rfl⟩ : ∃ e, d = e + 1 := ⟨d - 1, by omega⟩
  have c1 := (cP0 hk.2.2.1).1
  simp only [] at c1
  unfold setS at H
  by_cases w0 : w = nI 0
  · subst w0
    simp only [if_true] at H
    simp (disch := first | assumption | exact ct_i | exact ct_r | exact ct_n | exact ct_h | omega | exact z_in (by omega) (by omega) | exact b01 | exact Or.inl rfl | exact Or.inr rfl) only [b80, e80_0, e80_1, e80_32, e80_33, e80_34, e80_35, e80_38, e80_39, e80_40, e80_41, e80_44, e80_45, e80_46, e80_47, e80_50, e80_51, e80_52, e80_53, e80_56, e80_57, e80_59, ct_i, ct_r, ct_n, ct_h, opt_v, opt_s, ref_s, ref_n, eq_self_iff_true, true_or, or_true, zl0, zl1, zl2, zl3, zl4, zl5, zl6, zl7, zl8, zl9, zl10, zl16, zl32, zl40, zl100, zl160, zIc1, zI_lt, zI_le, nI_eq, nI_add, z_sub, nI_clamp, zI_of, uu_eq, uu_ne, Nat.reduceLT, Nat.reduceLeDiff, Nat.reduceEqDiff, Nat.reduceAdd, Nat.reduceSub, Nat.reduceMul, Nat.not_lt_zero, Nat.lt_irrefl, Nat.le_refl, Bool.false_eq_true, false_and, and_false, true_and, and_true, if_pos, if_neg, if_true, if_false, not_true_eq_false, not_false_eq_true, c1]
    refine k81 (by omega) hk (fun h' hR => ?_)
    simp (disch := first | assumption | exact ct_i | exact ct_r | exact ct_n | exact ct_h | omega | exact z_in (by omega) (by omega) | exact b01 | exact Or.inl rfl | exact Or.inr rfl) only [e80_0, e80_1, e80_32, e80_33, e80_34, e80_35, e80_38, e80_39, e80_40, e80_41, e80_44, e80_45, e80_46, e80_47, e80_50, e80_51, e80_52, e80_53, e80_56, e80_57, e80_59, ct_i, ct_r, ct_n, ct_h, opt_v, opt_s, ref_s, ref_n, eq_self_iff_true, true_or, or_true]
    exact H h' hR
  · by_cases w1 : w = nI 1
    · subst w1
      simp only [if_neg w0, if_true] at H
      simp (disch := first | assumption | exact ct_i | exact ct_r | exact ct_n | exact ct_h | omega | exact z_in (by omega) (by omega) | exact b01 | exact Or.inl rfl | exact Or.inr rfl) only [b80, e80_0, e80_1, e80_32, e80_33, e80_34, e80_35, e80_38, e80_39, e80_40, e80_41, e80_44, e80_45, e80_46, e80_47, e80_50, e80_51, e80_52, e80_53, e80_56, e80_57, e80_59, ct_i, ct_r, ct_n, ct_h, opt_v, opt_s, ref_s, ref_n, eq_self_iff_true, true_or, or_true, zl0, zl1, zl2, zl3, zl4, zl5, zl6, zl7, zl8, zl9, zl10, zl16, zl32, zl40, zl100, zl160, zIc1, zI_lt, zI_le, nI_eq, nI_add, z_sub, nI_clamp, zI_of, uu_eq, uu_ne, Nat.reduceLT, Nat.reduceLeDiff, Nat.reduceEqDiff, Nat.reduceAdd, Nat.reduceSub, Nat.reduceMul, Nat.not_lt_zero, Nat.lt_irrefl, Nat.le_refl, Bool.false_eq_true, false_and, and_false, true_and, and_true, if_pos, if_neg, if_true, if_false, not_true_eq_false, not_false_eq_true, c1]
      refine k82 (by omega) hk (fun h' hR => ?_)
      simp (disch := first | assumption | exact ct_i | exact ct_r | exact ct_n | exact ct_h | omega | exact z_in (by omega) (by omega) | exact b01 | exact Or.inl rfl | exact Or.inr rfl) only [e80_0, e80_1, e80_32, e80_33, e80_34, e80_35, e80_38, e80_39, e80_40, e80_41, e80_44, e80_45, e80_46, e80_47, e80_50, e80_51, e80_52, e80_53, e80_56, e80_57, e80_59, ct_i, ct_r, ct_n, ct_h, opt_v, opt_s, ref_s, ref_n, eq_self_iff_true, true_or, or_true]
      exact H h' hR
    · by_cases w2 : w = nI 2
      · subst w2
        simp only [if_neg w0, if_neg w1, if_true] at H
        simp (disch := first | assumption | exact ct_i | exact ct_r | exact ct_n | exact ct_h | omega | exact z_in (by omega) (by omega) | exact b01 | exact Or.inl rfl | exact Or.inr rfl) only [b80, e80_0, e80_1, e80_32, e80_33, e80_34, e80_35, e80_38, e80_39, e80_40, e80_41, e80_44, e80_45, e80_46, e80_47, e80_50, e80_51, e80_52, e80_53, e80_56, e80_57, e80_59, ct_i, ct_r, ct_n, ct_h, opt_v, opt_s, ref_s, ref_n, eq_self_iff_true, true_or, or_true, zl0, zl1, zl2, zl3, zl4, zl5, zl6, zl7, zl8, zl9, zl10, zl16, zl32, zl40, zl100, zl160, zIc1, zI_lt, zI_le, nI_eq, nI_add, z_sub, nI_clamp, zI_of, uu_eq, uu_ne, Nat.reduceLT, Nat.reduceLeDiff, Nat.reduceEqDiff, Nat.reduceAdd, Nat.reduceSub, Nat.reduceMul, Nat.not_lt_zero, Nat.lt_irrefl, Nat.le_refl, Bool.false_eq_true, false_and, and_false, true_and, and_true, if_pos, if_neg, if_true, if_false, not_true_eq_false, not_false_eq_true, c1]
        refine k83 (by omega) hk (fun h' hR => ?_)
        simp (disch := first | assumption | exact ct_i | exact ct_r | exact ct_n | exact ct_h | omega | exact z_in (by omega) (by omega) | exact b01 | exact Or.inl rfl | exact Or.inr rfl) only [e80_0, e80_1, e80_32, e80_33, e80_34, e80_35, e80_38, e80_39, e80_40, e80_41, e80_44, e80_45, e80_46, e80_47, e80_50, e80_51, e80_52, e80_53, e80_56, e80_57, e80_59, ct_i, ct_r, ct_n, ct_h, opt_v, opt_s, ref_s, ref_n, eq_self_iff_true, true_or, or_true]
        exact H h' hR
      · by_cases w3 : w = nI 3
        · subst w3
          simp only [if_neg w0, if_neg w1, if_neg w2, if_true] at H
          simp (disch := first | assumption | exact ct_i | exact ct_r | exact ct_n | exact ct_h | omega | exact z_in (by omega) (by omega) | exact b01 | exact Or.inl rfl | exact Or.inr rfl) only [b80, e80_0, e80_1, e80_32, e80_33, e80_34, e80_35, e80_38, e80_39, e80_40, e80_41, e80_44, e80_45, e80_46, e80_47, e80_50, e80_51, e80_52, e80_53, e80_56, e80_57, e80_59, ct_i, ct_r, ct_n, ct_h, opt_v, opt_s, ref_s, ref_n, eq_self_iff_true, true_or, or_true, zl0, zl1, zl2, zl3, zl4, zl5, zl6, zl7, zl8, zl9, zl10, zl16, zl32, zl40, zl100, zl160, zIc1, zI_lt, zI_le, nI_eq, nI_add, z_sub, nI_clamp, zI_of, uu_eq, uu_ne, Nat.reduceLT, Nat.reduceLeDiff, Nat.reduceEqDiff, Nat.reduceAdd, Nat.reduceSub, Nat.reduceMul, Nat.not_lt_zero, Nat.lt_irrefl, Nat.le_refl, Bool.false_eq_true, false_and, and_false, true_and, and_true, if_pos, if_neg, if_true, if_false, not_true_eq_false, not_false_eq_true, c1]
          refine k84 (by omega) hk (fun h' hR => ?_)
          simp (disch := first | assumption | exact ct_i | exact ct_r | exact ct_n | exact ct_h | omega | exact z_in (by omega) (by omega) | exact b01 | exact Or.inl rfl | exact Or.inr rfl) only [e80_0, e80_1, e80_32, e80_33, e80_34, e80_35, e80_38, e80_39, e80_40, e80_41, e80_44, e80_45, e80_46, e80_47, e80_50, e80_51, e80_52, e80_53, e80_56, e80_57, e80_59, ct_i, ct_r, ct_n, ct_h, opt_v, opt_s, ref_s, ref_n, eq_self_iff_true, true_or, or_true]
          exact H h' hR
        · simp only [if_neg w0, if_neg w1, if_neg w2, if_neg w3] at H
          have := H _ hk
          simp (disch := first | assumption | exact ct_i | exact ct_r | exact ct_n | exact ct_h | omega | exact z_in (by omega) (by omega) | exact b01 | exact Or.inl rfl | exact Or.inr rfl) only [b80, e80_0, e80_1, e80_32, e80_33, e80_34, e80_35, e80_38, e80_39, e80_40, e80_41, e80_44, e80_45, e80_46, e80_47, e80_50, e80_51, e80_52, e80_53, e80_56, e80_57, e80_59, ct_i, ct_r, ct_n, ct_h, opt_v, opt_s, ref_s, ref_n, eq_self_iff_true, true_or, or_true, zl0, zl1, zl2, zl3, zl4, zl5, zl6, zl7, zl8, zl9, zl10, zl16, zl32, zl40, zl100, zl160, zIc1, zI_lt, zI_le, nI_eq, nI_add, z_sub, nI_clamp, zI_of, uu_eq, uu_ne, Nat.reduceLT, Nat.reduceLeDiff, Nat.reduceEqDiff, Nat.reduceAdd, Nat.reduceSub, Nat.reduceMul, Nat.not_lt_zero, Nat.lt_irrefl, Nat.le_refl, Bool.false_eq_true, false_and, and_false, true_and, and_true, if_true, if_false, not_true_eq_false, not_false_eq_true, c1, w0, w1, w2, w3]
          exact this
theorem cl_r4 {m r : Nat} (h : ∀ a k b, R a k = some b → b < 47 + m) (hr : r < 6) : ∀ a k b, u2 R 1 4 (some (23 + 4 * r)) a k = some b → b < 47 + m := by
  intro a k b hb
  by_cases e : a = 1 ∧ k = 4
  · obtain ⟨rfl, rfl⟩ := e
    rw [uu_eq] at hb
    injection hb with hb; omega
  · rw [uu_ne _ _ _ _ e] at hb
    exact h a k b hb
/-- a rule is taken: a text there is -/
theorem k78 (hd : 8 ≤ d) (hk : RK T0 Z D tx tp so sz it (n, t, sh, I, L, R)) {r : Nat} (hr : r < Z 3) (H : ∀ h', RK T0 (u1 Z 4 r) D tx tp so sz it h' → Q none h') : aC d 78 [.ref 0, .int (nI r)] (n, t, sh, I, L, R) Q := by
  obtain ⟨d, rfl⟩ : ∃ e, d = e + 1 := ⟨d - 1, by omega⟩
  obtain ⟨⟨o1, ⟨o2, hB⟩, o3, o4, o5, o6, o7⟩, hn, hK, hcl, hD', hM, h4, h5, h6, h7, h8, h9⟩ := id hk
  simp only [] at hn hK hcl hD' hM h4 h5 h6 h7 h8 h9
  obtain ⟨c1, c2, c3, c4, c5, c6, c7, c8, c9, c10⟩ := cP0 hK
  have s1 := (cPh hK).1
  have r6 : r < 6 := by omega
  have e13 := cP13 hK r6
  have hD2 : hD (Z 1) D (u2 I 0 6 (nI r)) := ⟨by rw [uu_ne _ _ _ _ (by omega)]; exact hD'.1, fun i hi k hk => by rw [uu_ne _ _ _ _ (by omega)]; exact hD'.2 i hi k hk⟩
  have hC2 : txC (tx r) (24 + 4 * r) (25 + 4 * r) (u2 I 0 6 (nI r)) := txC_fr r6 (fun x k hx => uu_ne _ _ _ _ (by omega)) (h7 r hr)
  simp (disch := first | assumption | exact ct_i | exact ct_r | exact ct_n | exact ct_h | omega | exact z_in (by omega) (by omega) | exact b01 | exact Or.inl rfl | exact Or.inr rfl) only [b78, e78_0, e78_1, e78_4, e78_5, e78_6, e78_9, e78_12, e78_13, e78_14, e78_15, e78_18, e78_19, e78_22, e78_23, e78_26, e78_27, e78_28, e78_31, ct_i, ct_r, ct_n, ct_h, opt_v, opt_s, ref_s, ref_n, eq_self_iff_true, true_or, or_true, zl0, zl1, zl2, zl3, zl4, zl5, zl6, zl7, zl8, zl9, zl10, zl16, zl32, zl40, zl100, zl160, zIc1, zI_lt, zI_le, nI_eq, nI_add, z_sub, nI_clamp, zI_of, uu_eq, uu_ne, Nat.reduceLT, Nat.reduceLeDiff, Nat.reduceEqDiff, Nat.reduceAdd, Nat.reduceSub, Nat.reduceMul, Nat.not_lt_zero, Nat.lt_irrefl, Nat.le_refl, Bool.false_eq_true, false_and, and_false, true_and, and_true, if_pos, if_neg, if_true, if_false, not_true_eq_false, not_false_eq_true, c1, c4, c5, c6, c9, s1, h6.1, e13]
  refine k9 (by omega) hK hD2 hB r6 hC2 (o4.2.2 r hr) (fun I' L' hI' hL' hm' => ?_)
  simp (disch := first | assumption | exact ct_i | exact ct_r | exact ct_n | exact ct_h | omega | exact z_in (by omega) (by omega) | exact b01 | exact Or.inl rfl | exact Or.inr rfl) only [e78_0, e78_1, e78_4, e78_5, e78_6, e78_9, e78_12, e78_13, e78_14, e78_15, e78_18, e78_19, e78_22, e78_23, e78_26, e78_27, e78_28, e78_31, ct_i, ct_r, ct_n, ct_h, opt_v, opt_s, ref_s, ref_n, eq_self_iff_true, true_or, or_true]
  refine H _ ⟨?_, hn, cK_r4 hK, cl_r4 hcl r6, hD_fr hI' o2 hD2, ?_, by simp only [uu_eq, u1_eq], ?_, ?_, fun i hi => ?_, ⟨?_, fun k hk => ?_⟩, fun j hj => ⟨?_, ?_, fun k hk => ?_⟩⟩
  · simp (disch := omega) only [okS, u1_ne, u1_eq]
    exact ⟨o1, ⟨o2, hB⟩, o3, ⟨o4.1, hr, o4.2.2⟩, o5, o6, o7⟩
  · simp (disch := omega) only [u1_ne, u1_eq]; exact hm'
  · simp (disch := omega) only [u1_ne, u1_eq]
    rw [hI' _ _ (by unfold scr; omega), uu_ne _ _ _ _ (by omega)]; exact h5
  · simp (disch := omega) only [u1_ne, u1_eq]
    rw [hI' 0 5 (by unfold scr; omega), hI' 0 6 (by unfold scr; omega), hI' 0 7 (by unfold scr; omega), hI' 0 8 (by unfold scr; omega), hI' 0 9 (by unfold scr; omega), hI' 0 10 (by unfold scr; omega), hI' 0 11 (by unfold scr; omega)]
    simp (disch := omega) only [uu_ne, uu_eq]
    exact ⟨h6.1, trivial, h6.2.2⟩
  · rw [u1_ne _ _ _ (by decide)] at hi
    exact txC_fr (by omega) (fun x k hx => (hI' x k (by unfold scr; omega)).trans (uu_ne _ _ _ _ (by omega))) (h7 i hi)
  · simp (disch := omega) only [u1_ne, u1_eq]
    rw [hI' _ _ (by unfold scr; omega), uu_ne _ _ _ _ (by omega)]; exact h8.1
  · rw [u1_ne _ _ _ (by decide)] at hk
    simp only []
    rw [hI' _ _ (by unfold scr; omega), uu_ne _ _ _ _ (by omega)]; exact h8.2 k hk
  · simp only []
    rw [hI' _ _ (by unfold scr; omega), uu_ne _ _ _ _ (by omega)]; exact (h9 j hj).1
  · simp only []
    rw [hI' _ _ (by unfold scr; omega), uu_ne _ _ _ _ (by omega)]; exact (h9 j hj).2.1
  · simp only []
    rw [hI' _ _ (by unfold scr; omega), uu_ne _ _ _ _ (by omega)]; exact (h9 j hj).2.2 k hk
theorem k89 (hd : 10 ≤ d) (hk : RK T0 Z D tx tp so sz it (n, t, sh, I, L, R)) {x : Int32} (H : ∀ h', RK T0 (forS Z x).2 D tx tp so sz it h' → Q (some (.int (forS Z x).1)) h') : aC d 89 [.ref 0, .int x] (n, t, sh, I, L, R) Q := by
  obtain ⟨d, rfl⟩ : ∃ e, d = e + 1 := ⟨d - 1, by omega⟩
  obtain ⟨⟨o1, ⟨o2, hB⟩, o3, o4, o5, o6, o7⟩, hn, hK, hcl, hD', hM, h4, h5, h6, h7, h8, h9⟩ := id hk
  simp only [] at hn hK hcl hD' hM h4 h5 h6 h7 h8 h9
  obtain ⟨c1, c2, c3, c4, c5, c6, c7, c8, c9, c10⟩ := cP0 hK
  unfold forS at H
  cases hx : dec x (Z 3) with
  | none =>
    rw [hx] at H
    have := H _ hk
    have hx' : x < nI 0 ∨ ¬ x < nI (Z 3) := by
      rcases dec_none hx with h | h
      · exact Or.inl h
      · right; rw [Int32.lt_iff_toInt_lt]; rw [Int32.le_iff_toInt_le] at h; omega
    rcases hx' with hx' | hx'
    · simp (disch := first | assumption | exact ct_i | exact ct_r | exact ct_n | exact ct_h | omega | exact z_in (by omega) (by omega) | exact b01 | exact Or.inl rfl | exact Or.inr rfl) only [b89, e89_0, e89_1, e89_4, e89_5, e89_6, e89_9, e89_12, e89_14, e89_15, e89_16, e89_19, e89_20, e89_21, e89_22, e89_25, e89_26, ct_i, ct_r, ct_n, ct_h, opt_v, opt_s, ref_s, ref_n, eq_self_iff_true, true_or, or_true, zl0, zl1, zl2, zl3, zl4, zl5, zl6, zl7, zl8, zl9, zl10, zl16, zl32, zl40, zl100, zl160, zIc1, zI_lt, zI_le, nI_eq, nI_add, z_sub, nI_clamp, zI_of, uu_eq, uu_ne, Nat.reduceLT, Nat.reduceLeDiff, Nat.reduceEqDiff, Nat.reduceAdd, Nat.reduceSub, Nat.reduceMul, Nat.not_lt_zero, Nat.lt_irrefl, Nat.le_refl, Bool.false_eq_true, false_and, and_false, true_and, and_true, if_pos, if_neg, if_true, if_false, not_true_eq_false, not_false_eq_true, hx']
      exact this
    · simp (disch := first | assumption | exact ct_i | exact ct_r | exact ct_n | exact ct_h | omega | exact z_in (by omega) (by omega) | exact b01 | exact Or.inl rfl | exact Or.inr rfl) only [b89, e89_0, e89_1, e89_4, e89_5, e89_6, e89_9, e89_12, e89_14, e89_15, e89_16, e89_19, e89_20, e89_21, e89_22, e89_25, e89_26, ct_i, ct_r, ct_n, ct_h, opt_v, opt_s, ref_s, ref_n, eq_self_iff_true, true_or, or_true, zl0, zl1, zl2, zl3, zl4, zl5, zl6, zl7, zl8, zl9, zl10, zl16, zl32, zl40, zl100, zl160, zIc1, zI_lt, zI_le, nI_eq, nI_add, z_sub, nI_clamp, zI_of, uu_eq, uu_ne, Nat.reduceLT, Nat.reduceLeDiff, Nat.reduceEqDiff, Nat.reduceAdd, Nat.reduceSub, Nat.reduceMul, Nat.not_lt_zero, Nat.lt_irrefl, Nat.le_refl, Bool.false_eq_true, false_and, and_false, true_and, and_true, if_true, if_false, not_true_eq_false, not_false_eq_true, c1, h6.1, hx', ite_self]
      exact this
  | some r =>
    obtain ⟨rfl, hr⟩ := dec_some (by omega) hx
    rw [hx] at H
    simp (disch := first | assumption | exact ct_i | exact ct_r | exact ct_n | exact ct_h | omega | exact z_in (by omega) (by omega) | exact b01 | exact Or.inl rfl | exact Or.inr rfl) only [b89, e89_0, e89_1, e89_4, e89_5, e89_6, e89_9, e89_12, e89_14, e89_15, e89_16, e89_19, e89_20, e89_21, e89_22, e89_25, e89_26, ct_i, ct_r, ct_n, ct_h, opt_v, opt_s, ref_s, ref_n, eq_self_iff_true, true_or, or_true, zl0, zl1, zl2, zl3, zl4, zl5, zl6, zl7, zl8, zl9, zl10, zl16, zl32, zl40, zl100, zl160, zIc1, zI_lt, zI_le, nI_eq, nI_add, z_sub, nI_clamp, zI_of, uu_eq, uu_ne, Nat.reduceLT, Nat.reduceLeDiff, Nat.reduceEqDiff, Nat.reduceAdd, Nat.reduceSub, Nat.reduceMul, Nat.not_lt_zero, Nat.lt_irrefl, Nat.le_refl, Bool.false_eq_true, false_and, and_false, true_and, and_true, if_pos, if_neg, if_true, if_false, not_true_eq_false, not_false_eq_true, c1, h6.1, h6.2.1]
    refine k78 (by omega) hk hr (fun h' hR => ?_)
    simp (disch := first | assumption | exact ct_i | exact ct_r | exact ct_n | exact ct_h | omega | exact z_in (by omega) (by omega) | exact b01 | exact Or.inl rfl | exact Or.inr rfl) only [e89_0, e89_1, e89_4, e89_5, e89_6, e89_9, e89_12, e89_14, e89_15, e89_16, e89_19, e89_20, e89_21, e89_22, e89_25, e89_26, ct_i, ct_r, ct_n, ct_h, opt_v, opt_s, ref_s, ref_n, eq_self_iff_true, true_or, or_true]
    exact H h' hR
theorem k90 (hd : 10 ≤ d) (hk : RK T0 Z D tx tp so sz it (n, t, sh, I, L, R)) (H : ∀ h', RK T0 Z D tx tp so sz it h' → Q (some (.int (welS Z tx))) h') : aC d 90 [.ref 0] (n, t, sh, I, L, R) Q := by
  obtain ⟨d, rfl⟩ : ∃ e, d = e + 1 := ⟨d - 1, by omega⟩
  obtain ⟨⟨o1, ⟨o2, hB⟩, o3, o4, o5, o6, o7⟩, hn, hK, hcl, hD', hM, h4, h5, h6, h7, h8, h9⟩ := id hk
  simp only [] at hn hK hcl hD' hM h4 h5 h6 h7 h8 h9
  obtain ⟨c1, c2, c3, c4, c5, c6, c7, c8, c9, c10⟩ := cP0 hK
  have s1 := (cPh hK).1
  simp (disch := first | assumption | exact ct_i | exact ct_r | exact ct_n | exact ct_h | omega | exact z_in (by omega) (by omega) | exact b01 | exact Or.inl rfl | exact Or.inr rfl) only [b90, e90_0, e90_1, e90_4, e90_5, e90_8, e90_11, e90_14, e90_15, e90_18, e90_19, ct_i, ct_r, ct_n, ct_h, opt_v, opt_s, ref_s, ref_n, eq_self_iff_true, true_or, or_true, zl0, zl1, zl2, zl3, zl4, zl5, zl6, zl7, zl8, zl9, zl10, zl16, zl32, zl40, zl100, zl160, zIc1, zI_lt, zI_le, nI_eq, nI_add, z_sub, nI_clamp, zI_of, uu_eq, uu_ne, Nat.reduceLT, Nat.reduceLeDiff, Nat.reduceEqDiff, Nat.reduceAdd, Nat.reduceSub, Nat.reduceMul, Nat.not_lt_zero, Nat.lt_irrefl, Nat.le_refl, Bool.false_eq_true, false_and, and_false, true_and, and_true, if_pos, if_neg, if_true, if_false, not_true_eq_false, not_false_eq_true, c1, c6, s1, h6.2.2.1]
  refine k21 (by omega) hK (RC_rT hk.1 hk.2) o3.1 (fun I' hI' => ?_)
  have := H _ ⟨hk.1, RC_fr hk.1 (frA_3 hI') (fun _ _ _ => rfl) hk.2⟩
  unfold welS at this
  by_cases hw : wl (tx (Z 4)) (Z 2) = true
  · rw [if_pos hw] at this
    simp (disch := first | assumption | exact ct_i | exact ct_r | exact ct_n | exact ct_h | omega | exact z_in (by omega) (by omega) | exact b01 | exact Or.inl rfl | exact Or.inr rfl) only [e90_0, e90_1, e90_4, e90_5, e90_8, e90_11, e90_14, e90_15, e90_18, e90_19, ct_i, ct_r, ct_n, ct_h, opt_v, opt_s, ref_s, ref_n, eq_self_iff_true, true_or, or_true, zl0, zl1, zl2, zl3, zl4, zl5, zl6, zl7, zl8, zl9, zl10, zl16, zl32, zl40, zl100, zl160, zIc1, zI_lt, zI_le, nI_eq, nI_add, z_sub, nI_clamp, zI_of, uu_eq, uu_ne, Nat.reduceLT, Nat.reduceLeDiff, Nat.reduceEqDiff, Nat.reduceAdd, Nat.reduceSub, Nat.reduceMul, Nat.not_lt_zero, Nat.lt_irrefl, Nat.le_refl, Bool.false_eq_true, false_and, and_false, true_and, and_true, if_pos, if_neg, if_true, if_false, not_true_eq_false, not_false_eq_true, hw]
    exact this
  · rw [if_neg hw] at this
    simp (disch := first | assumption | exact ct_i | exact ct_r | exact ct_n | exact ct_h | omega | exact z_in (by omega) (by omega) | exact b01 | exact Or.inl rfl | exact Or.inr rfl) only [e90_0, e90_1, e90_4, e90_5, e90_8, e90_11, e90_14, e90_15, e90_18, e90_19, ct_i, ct_r, ct_n, ct_h, opt_v, opt_s, ref_s, ref_n, eq_self_iff_true, true_or, or_true, zl0, zl1, zl2, zl3, zl4, zl5, zl6, zl7, zl8, zl9, zl10, zl16, zl32, zl40, zl100, zl160, zIc1, zI_lt, zI_le, nI_eq, nI_add, z_sub, nI_clamp, zI_of, uu_eq, uu_ne, Nat.reduceLT, Nat.reduceLeDiff, Nat.reduceEqDiff, Nat.reduceAdd, Nat.reduceSub, Nat.reduceMul, Nat.not_lt_zero, Nat.lt_irrefl, Nat.le_refl, Bool.false_eq_true, false_and, and_false, true_and, and_true, if_pos, if_neg, if_true, if_false, not_true_eq_false, not_false_eq_true, hw]
    exact this
theorem k108 (hd : 10 ≤ d) (hk : RK T0 Z D tx tp so sz it (n, t, sh, I, L, R)) (H : ∀ h', RK T0 (imgS Z).2 D tx tp so sz it h' → Q (some (.int (imgS Z).1)) h') : aC d 108 [.ref 0] (n, t, sh, I, L, R) Q := by
  obtain ⟨d, rfl⟩ : ∃ e, d = e + 1 := ⟨d - 1, by omega⟩
  obtain ⟨⟨o1, ⟨o2, hB⟩, o3, o4, o5, o6, o7⟩, hn, hK, hcl, hD', hM, h4, h5, h6, h7, h8, h9⟩ := id hk
  simp only [] at hn hK hcl hD' hM h4 h5 h6 h7 h8 h9
  obtain ⟨c1, c2, c3, c4, c5, c6, c7, c8, c9, c10⟩ := cP0 hK
  have s1 := (cPh hK).1
  have := H (n, t, sh, u2 (u2 (u2 (u2 I 0 8 (nI 1)) 0 9 (nI (Z 2))) 0 10 (nI (Z 1))) 0 11 (nI (Z 4)), L, R) ⟨?_, RC_c0 hk.2 (fun x k hx => by simp (disch := omega) only [uu_ne]) ?_ ?_ ?_ ?_ ?_ ?_⟩
  · simp (disch := first | assumption | exact ct_i | exact ct_r | exact ct_n | exact ct_h | omega | exact z_in (by omega) (by omega) | exact b01 | exact Or.inl rfl | exact Or.inr rfl) only [b108, e108_0, e108_1, e108_2, e108_5, e108_6, e108_7, e108_10, e108_13, e108_14, e108_15, e108_18, e108_21, e108_24, e108_25, e108_26, e108_29, e108_32, e108_33, e108_36, e108_39, ct_i, ct_r, ct_n, ct_h, opt_v, opt_s, ref_s, ref_n, eq_self_iff_true, true_or, or_true, zl0, zl1, zl2, zl3, zl4, zl5, zl6, zl7, zl8, zl9, zl10, zl16, zl32, zl40, zl100, zl160, zIc1, zI_lt, zI_le, nI_eq, nI_add, z_sub, nI_clamp, zI_of, uu_eq, uu_ne, Nat.reduceLT, Nat.reduceLeDiff, Nat.reduceEqDiff, Nat.reduceAdd, Nat.reduceSub, Nat.reduceMul, Nat.not_lt_zero, Nat.lt_irrefl, Nat.le_refl, Bool.false_eq_true, false_and, and_false, true_and, and_true, if_pos, if_neg, if_true, if_false, not_true_eq_false, not_false_eq_true, c1, c6, s1, h6, hD'.1, k198 (show 1 ≤ d by omega) o3.1]
    exact this
  · simp (disch := omega) only [imgS, okS, u1_ne, u1_eq]
    exact ⟨o1, ⟨o2, hB⟩, o3, o4, o5, Or.inr ⟨trivial, o3.1, Nat.le_refl _, o4.2.1, o3.2⟩, o7⟩
  all_goals simp (disch := omega) only [imgS, u1_ne, u1_eq, uu_ne, uu_eq]
  exact ⟨h6.1, h6.2.1, h6.2.2.1, trivial, trivial, trivial, trivial⟩
end
