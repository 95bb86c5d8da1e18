/-! the class's calls: what is under what -/
def und (c a : Nat) : Bool := decide (c = a) || (match c with
  | 1 => decide (a = 0)
  | 2 => decide (a = 0)
  | 3 => decide (a = 0)
  | 4 => decide (a = 1) || decide (a = 0)
  | 5 => decide (a = 2) || decide (a = 0)
  | _ => false)
theorem ab0 : a_above.getD 0 (nI 0) = -nI 1 := rfl
theorem ab1 : a_above.getD 1 (nI 0) = nI 0 := rfl
theorem ab2 : a_above.getD 2 (nI 0) = nI 0 := rfl
theorem ab3 : a_above.getD 3 (nI 0) = nI 0 := rfl
theorem ab4 : a_above.getD 4 (nI 0) = nI 1 := rfl
theorem ab5 : a_above.getD 5 (nI 0) = nI 2 := rfl
theorem m1lt : (-nI 1 : Int32) < nI 0 := by decide
theorem k7 {d : Nat} (hd : 1 ≤ d) {c a : Nat} (hc : c < 6) (ha : a < 6) {n t : Nat} {sh : Nat → Nat × Nat} {I : Nat → Nat → Int32} {L : Nat → Nat → Int64} {R : Nat → Nat → Option Nat} {Q : Option Value → aH → Prop} (h0 : ¬ (sh 1000020).1 = 100) : aC d 7 [.int (nI c), .int (nI a)] (n, t, sh, I, L, R) Q ↔ Q (some (.int (if und c a = true then nI 1 else nI 0))) (n, t, sh, I, L, R) := by
  obtain ⟨d, rfl⟩ : ∃ e, d = e + 1 := ⟨d - 1, by omega⟩
  rcases (show c = 0 ∨ c = 1 ∨ c = 2 ∨ c = 3 ∨ c = 4 ∨ c = 5 by omega) with rfl | rfl | rfl | rfl | rfl | rfl <;> rcases (show a = 0 ∨ a = 1 ∨ a = 2 ∨ a = 3 ∨ a = 4 ∨ a = 5 by omega) with rfl | rfl | rfl | rfl | rfl | rfl
  all_goals simp +decide (disch := first | assumption | exact ct_i | exact ct_r | exact ct_n | exact ct_h | omega | exact z_in (by omega) (by omega) | exact Or.inl rfl | exact Or.inr rfl) only [b7, e7_0, e7_1, e7_2, e7_3, e7_4, e7_5, e7_7, e7_10, e7_11, e7_14, e7_15, e7_17, e7_20, e7_21, e7_22, e7_25, e7_26, e7_27, e7_30, e7_31, e7_31c, e7_32, e7_33, e7_36, e7_39, e7_40, ct_i, ct_r, ct_n, ct_h, opt_v, opt_s, ref_s, ref_n, eq_self_iff_true, true_or, or_true, zl0, zl1, zl2, zl3, zl4, zl5, zl6, zl7, zl8, zl9, zl10, zl16, zl32, zl40, zl100, zl160, zIc1, zI_lt, zI_le, nI_eq, nI_add, z_sub, nI_clamp, zI_of, uu_eq, uu_ne, Nat.reduceLT, Nat.reduceLeDiff, Nat.reduceEqDiff, Nat.reduceAdd, Nat.reduceSub, Nat.reduceMul, Nat.not_lt_zero, Nat.lt_irrefl, Nat.le_refl, Bool.false_eq_true, false_and, and_false, true_and, and_true, if_true, if_false, not_true_eq_false, not_false_eq_true, ab0, ab1, ab2, ab3, ab4, ab5, m1lt, und, if_true, if_false]
def takS (Z : Nat → Nat) (D : Nat → Nat → Nat) (x k : Int32) : Int32 := match dec k 6 with
  | none => -nI 2
  | some a => match dec x (Z 1) with
    | none => -11
    | some i => if und (D i 4) a = true then nI (D i 3) else -13
section
variable {T0 : Nat} {Z : Nat → Nat} {D : Nat → Nat → Nat} {tx : Nat → Nat → List Nat} {tp so sz : Nat → Nat} {it : Nat → Nat → Int32} {d : Nat} {n t : Nat} {sh : Nat → Nat × Nat} {I : Nat → Nat → Int32} {L : Nat → Nat → Int64} {R : Nat → Nat → Option Nat} {I' : Nat → Nat → Int32} {Q : Option Value → aH → Prop}
theorem k115 (hd : 12 ≤ d) (hk : RK T0 Z D tx tp so sz it (n, t, sh, I, L, R)) {x k : Int32} : aC d 115 [.ref 0, .int x, .int k] (n, t, sh, I, L, R) Q ↔ Q (some (.int (takS Z D x k))) (n, t, sh, I, L, R) := by
  obtain ⟨d, rfl⟩ : ∃ e, d = e + 1 := ⟨d - 1, by omega⟩
  obtain ⟨⟨o1, ⟨o2, hB⟩, o3, o4, o5, o6, o7⟩, hn, hK, hcl, hD', hM, h4, h5, h6, h7, h8, h9⟩ := id hk
  simp only [] at hn hK hcl hD' hM h4 h5 h6 h7 h8 h9
  obtain ⟨c1, c2, c3, c4, c5, c6, c7, c8, c9, c10⟩ := cP0 hK
  have s2 := (cPh hK).1
  unfold takS
  cases hw : dec k 6 with
  | none =>
    have hv : k < nI 0 ∨ ¬ k < nI 6 := by
      rcases dec_none hw with h | h
      · exact Or.inl h
      · right; rw [Int32.lt_iff_toInt_lt]; rw [Int32.le_iff_toInt_le] at h; omega
    rcases hv with hv | hv
    · simp (disch := first | assumption | exact ct_i | exact ct_r | exact ct_n | exact ct_h | omega | exact z_in (by omega) (by omega) | exact b01 | exact Or.inl rfl | exact Or.inr rfl) only [b115, e115_0, e115_1, e115_4, e115_5, e115_7, e115_10, e115_12, e115_13, e115_14, e115_17, e115_18, e115_21, e115_21n, e115_22, e115_22n, e115_23n, e115_23, e115_26, e115_28, e115_29, e115_29n, e115_30, e115_33, e115_34, e115_37, e115_40, e115_40n, e115_41, e115_44, e115_47, e115_49, ct_i, ct_r, ct_n, ct_h, opt_v, opt_s, ref_s, ref_n, eq_self_iff_true, true_or, or_true, zl0, zl1, zl2, zl3, zl4, zl5, zl6, zl7, zl8, zl9, zl10, zl16, zl32, zl40, zl100, zl160, zIc1, zI_lt, zI_le, nI_eq, nI_add, z_sub, nI_clamp, zI_of, uu_eq, uu_ne, Nat.reduceLT, Nat.reduceLeDiff, Nat.reduceEqDiff, Nat.reduceAdd, Nat.reduceSub, Nat.reduceMul, Nat.not_lt_zero, Nat.lt_irrefl, Nat.le_refl, Bool.false_eq_true, false_and, and_false, true_and, and_true, if_pos, if_neg, if_true, if_false, not_true_eq_false, not_false_eq_true, hv]
    · simp (disch := first | assumption | exact ct_i | exact ct_r | exact ct_n | exact ct_h | omega | exact z_in (by omega) (by omega) | exact b01 | exact Or.inl rfl | exact Or.inr rfl) only [b115, e115_0, e115_1, e115_4, e115_5, e115_7, e115_10, e115_12, e115_13, e115_14, e115_17, e115_18, e115_21, e115_21n, e115_22, e115_22n, e115_23n, e115_23, e115_26, e115_28, e115_29, e115_29n, e115_30, e115_33, e115_34, e115_37, e115_40, e115_40n, e115_41, e115_44, e115_47, e115_49, ct_i, ct_r, ct_n, ct_h, opt_v, opt_s, ref_s, ref_n, eq_self_iff_true, true_or, or_true, zl0, zl1, zl2, zl3, zl4, zl5, zl6, zl7, zl8, zl9, zl10, zl16, zl32, zl40, zl100, zl160, zIc1, zI_lt, zI_le, nI_eq, nI_add, z_sub, nI_clamp, zI_of, uu_eq, uu_ne, Nat.reduceLT, Nat.reduceLeDiff, Nat.reduceEqDiff, Nat.reduceAdd, Nat.reduceSub, Nat.reduceMul, Nat.not_lt_zero, Nat.lt_irrefl, Nat.le_refl, Bool.false_eq_true, false_and, and_false, true_and, and_true, if_true, if_false, not_true_eq_false, not_false_eq_true, hv, ite_self]
  | some a =>
    obtain ⟨rfl, ha⟩ := dec_some (by decide) hw
    cases hx : dec x (Z 1) with
    | none => simp (disch := first | assumption | exact ct_i | exact ct_r | exact ct_n | exact ct_h | omega | exact z_in (by omega) (by omega) | exact b01 | exact Or.inl rfl | exact Or.inr rfl) only [b115, e115_0, e115_1, e115_4, e115_5, e115_7, e115_10, e115_12, e115_13, e115_14, e115_17, e115_18, e115_21, e115_21n, e115_22, e115_22n, e115_23n, e115_23, e115_26, e115_28, e115_29, e115_29n, e115_30, e115_33, e115_34, e115_37, e115_40, e115_40n, e115_41, e115_44, e115_47, e115_49, ct_i, ct_r, ct_n, ct_h, opt_v, opt_s, ref_s, ref_n, eq_self_iff_true, true_or, or_true, zl0, zl1, zl2, zl3, zl4, zl5, zl6, zl7, zl8, zl9, zl10, zl16, zl32, zl40, zl100, zl160, zIc1, zI_lt, zI_le, nI_eq, nI_add, z_sub, nI_clamp, zI_of, uu_eq, uu_ne, Nat.reduceLT, Nat.reduceLeDiff, Nat.reduceEqDiff, Nat.reduceAdd, Nat.reduceSub, Nat.reduceMul, Nat.not_lt_zero, Nat.lt_irrefl, Nat.le_refl, Bool.false_eq_true, false_and, and_false, true_and, and_true, if_pos, if_neg, if_true, if_false, not_true_eq_false, not_false_eq_true, c1, c6, s2, k11n (show 1 ≤ d by omega) hK hD' (dec_none hx)]
    | some i =>
      obtain ⟨rfl, hi⟩ := dec_some (by omega) hx
      obtain ⟨g1, g2⟩ := cPd hK hi
      have hb := hB i hi
      have e3 := hD'.2 i hi 3 (by decide)
      have e4 := hD'.2 i hi 4 (by decide)
      by_cases hu : und (D i 4) a = true
      · simp (disch := first | assumption | exact ct_i | exact ct_r | exact ct_n | exact ct_h | omega | exact z_in (by omega) (by omega) | exact b01 | exact Or.inl rfl | exact Or.inr rfl) only [b115, e115_0, e115_1, e115_4, e115_5, e115_7, e115_10, e115_12, e115_13, e115_14, e115_17, e115_18, e115_21, e115_21n, e115_22, e115_22n, e115_23n, e115_23, e115_26, e115_28, e115_29, e115_29n, e115_30, e115_33, e115_34, e115_37, e115_40, e115_40n, e115_41, e115_44, e115_47, e115_49, ct_i, ct_r, ct_n, ct_h, opt_v, opt_s, ref_s, ref_n, eq_self_iff_true, true_or, or_true, zl0, zl1, zl2, zl3, zl4, zl5, zl6, zl7, zl8, zl9, zl10, zl16, zl32, zl40, zl100, zl160, zIc1, zI_lt, zI_le, nI_eq, nI_add, z_sub, nI_clamp, zI_of, uu_eq, uu_ne, Nat.reduceLT, Nat.reduceLeDiff, Nat.reduceEqDiff, Nat.reduceAdd, Nat.reduceSub, Nat.reduceMul, Nat.not_lt_zero, Nat.lt_irrefl, Nat.le_refl, Bool.false_eq_true, false_and, and_false, true_and, and_true, if_pos, if_neg, if_true, if_false, not_true_eq_false, not_false_eq_true, c1, c6, s2, g1, k11 (show 1 ≤ d by omega) hK hD' hi, e3, e4, k7 (show 1 ≤ d by omega) hb.2.2.2.2 ha (fun h => absurd ((congrArg Prod.fst (hn.2.2 1000020 (by omega))).symm.trans h) (by decide)), hu]
      · simp (disch := first | assumption | exact ct_i | exact ct_r | exact ct_n | exact ct_h | omega | exact z_in (by omega) (by omega) | exact b01 | exact Or.inl rfl | exact Or.inr rfl) only [b115, e115_0, e115_1, e115_4, e115_5, e115_7, e115_10, e115_12, e115_13, e115_14, e115_17, e115_18, e115_21, e115_21n, e115_22, e115_22n, e115_23n, e115_23, e115_26, e115_28, e115_29, e115_29n, e115_30, e115_33, e115_34, e115_37, e115_40, e115_40n, e115_41, e115_44, e115_47, e115_49, ct_i, ct_r, ct_n, ct_h, opt_v, opt_s, ref_s, ref_n, eq_self_iff_true, true_or, or_true, zl0, zl1, zl2, zl3, zl4, zl5, zl6, zl7, zl8, zl9, zl10, zl16, zl32, zl40, zl100, zl160, zIc1, zI_lt, zI_le, nI_eq, nI_add, z_sub, nI_clamp, zI_of, uu_eq, uu_ne, Nat.reduceLT, Nat.reduceLeDiff, Nat.reduceEqDiff, Nat.reduceAdd, Nat.reduceSub, Nat.reduceMul, Nat.not_lt_zero, Nat.lt_irrefl, Nat.le_refl, Bool.false_eq_true, false_and, and_false, true_and, and_true, if_pos, if_neg, if_true, if_false, not_true_eq_false, not_false_eq_true, c1, c6, s2, g1, k11 (show 1 ≤ d by omega) hK hD' hi, e3, e4, k7 (show 1 ≤ d by omega) hb.2.2.2.2 ha (fun h => absurd ((congrArg Prod.fst (hn.2.2 1000020 (by omega))).symm.trans h) (by decide)), hu]
end
