/-! the class's calls: rows gone -/
def gI (Z : Nat → Nat) (D : Nat → Nat → Nat) (tx : Nat → Nat → List Nat) (s : Nat) (x : Int32) : Option Nat := match dec x (Z 1) with
  | some i => bh (Z 1) D (tx (Z 4)) s i
  | none => none
def cI (Z : Nat → Nat) (D : Nat → Nat → Nat) (tx : Nat → Nat → List Nat) (s : Nat) (x : Int32) : Int32 := match dec x (Z 1) with
  | some i => cst (Z 1) D (tx (Z 4)) s i
  | none => nI 0
/-- a row gone as far as can be: where it ends, the situation there, the costs -/
def rwT (Z : Nat → Nat) (D : Nat → Nat → Nat) (tx : Nat → Nat → List Nat) (a : Nat → Int32) : Nat → Nat → Nat → Int32 → Nat × Nat × Int32
  | 0, i, s, c => (i, s, c)
  | m + 1, i, s, c => match gI Z D tx s (a i) with
    | some s' => rwT Z D tx a m (i + 1) s' (c + cI Z D tx s (a i))
    | none => (i, s, c)
def rwS (Z : Nat → Nat) (D : Nat → Nat → Nat) (tx : Nat → Nat → List Nat) (a : Nat → Int32) (z s : Nat) : Nat × Nat × Int32 := rwT Z D tx a z 0 s (nI 0)
def judS (Z : Nat → Nat) (D : Nat → Nat → Nat) (tx : Nat → Nat → List Nat) (so sz : Nat → Nat) (it : Nat → Nat → Int32) (x : Int32) : Int32 := match dec x 4 with
  | none => -nI 2
  | some j => if so j = 0 then -11 else if (rwS Z D tx (it j) (sz j) (Z 2)).1 = sz j then -nI 1 else nI (rwS Z D tx (it j) (sz j) (Z 2)).1
def rowS (Z : Nat → Nat) (D : Nat → Nat → Nat) (tx : Nat → Nat → List Nat) (so sz : Nat → Nat) (it : Nat → Nat → Int32) (x w : Int32) : Int32 := match dec x 4, dec w 2 with
  | some j, some k => if so j = 0 then -11 else if k = 0 then (rwS Z D tx (it j) (sz j) (Z 2)).2.2 else nI (rmo (rwS Z D tx (it j) (sz j) (Z 2)).2.1)
  | _, _ => -nI 2
theorem rwT_le {Z : Nat → Nat} {D : Nat → Nat → Nat} {tx : Nat → Nat → List Nat} {a : Nat → Int32} : ∀ m i s c, (rwT Z D tx a m i s c).1 ≤ i + m
  | 0, i, s, c => by simp [rwT]
  | m + 1, i, s, c => by
    simp only [rwT]
    split
    · have := rwT_le (Z := Z) (D := D) (tx := tx) (a := a) m (i + 1) ‹_› (c + cI Z D tx s (a i))
      omega
    · simp
theorem rwT_c {Z : Nat → Nat} {D : Nat → Nat → Nat} {tx : Nat → Nat → List Nat} {a : Nat → Int32} : ∀ m i s c c', (rwT Z D tx a m i s c).1 = (rwT Z D tx a m i s c').1
  | 0, i, s, c, c' => rfl
  | m + 1, i, s, c, c' => by
    simp only [rwT]
    cases gI Z D tx s (a i) with
    | none => rfl
    | some s' => exact rwT_c m (i + 1) s' _ _
section
variable {T0 : Nat} {Z : Nat → Nat} {D : Nat → Nat → Nat} {tx : Nat → Nat → List Nat} {tp so sz : Nat → Nat} {it : Nat → Nat → Int32} {d : Nat} {n t : Nat} {sh : Nat → Nat × Nat} {I : Nat → Nat → Int32} {L : Nat → Nat → Int64} {R : Nat → Nat → Option Nat} {I' : Nat → Nat → Int32} {Q : Option Value → aH → Prop}
theorem gI_lt (hB : dB (Z 1) D) {s : Nat} {x : Int32} {s' : Nat} (h : gI Z D tx s x = some s') : s' < 6144 := by
  unfold gI at h
  split at h
  · exact bh_lt hB h
  · cases h
theorem k20g (hd : 4 ≤ d) (hk : RK T0 Z D tx tp so sz it (n, t, sh, I, L, R)) {s : Nat} (hs : s < 6144) {x : Int32} : aC d 20 [.ref 1, .int (nI s), .int x] (n, t, sh, I, L, R) Q ↔ Q (some (.int (oI (gI Z D tx s x)))) (n, t, sh, I, L, R) := by
  obtain ⟨⟨o1, ⟨o2, hB⟩, o3, o4, o5, o6, o7⟩, hn, hK, hcl, hD', hM, h4, h5, h6, h7, h8, h9⟩ := hk
  simp only [] at hn hK hcl hD' hM h4 h5 h6 h7 h8 h9
  unfold gI
  cases hx : dec x (Z 1) with
  | none => exact k20n (by omega) hK hD' hs (dec_none hx)
  | some i =>
    obtain ⟨rfl, hi⟩ := dec_some (by omega) hx
    exact k20 hd hK hD' hB hM hs hi
theorem k98l (hd : 4 ≤ d) (hk : RK T0 Z D tx tp so sz it (n, t, sh, I, L, R)) {j : Nat} (hj : j < 4) {l1 : Int32} : ∀ m i s c, i + m = sz j → s < 6144 →
    (aE (a_cl_ d) 98 (31, [.ref 0, .int l1, .ref (15 + 2 * j), .int (nI s), .int (nI i)], [], (n, t, sh, I, L, R)) Q ↔ Q (some (.int (if (rwT Z D tx (it j) m i s c).1 = sz j then -nI 1 else nI (rwT Z D tx (it j) m i s c).1))) (n, t, sh, I, L, R)) := by
  obtain ⟨⟨o1, ⟨o2, hB⟩, o3, o4, o5, o6, o7⟩, hn, hK, hcl, hD', hM, h4, h5, h6, h7, h8, h9⟩ := id hk
  simp only [] at hn hK hcl hD' hM h4 h5 h6 h7 h8 h9
  obtain ⟨c1, c2, c3, c4, c5, c6, c7, c8, c9, c10⟩ := cP0 hK
  have s2 := (cPh hK).1
  have hS := cPr hK hj
  have s4 := hS.1
  obtain ⟨p1, p2, p3⟩ := h9 j hj
  obtain ⟨q1, q2, q3⟩ := o7 j hj
  intro m
  induction m with
  | zero =>
    intro i s c hi hs
    obtain rfl : i = sz j := by omega
    rw [e98_31]
    simp (disch := first | assumption | exact ct_i | exact ct_r | exact ct_n | exact ct_h | omega | exact z_in (by omega) (by omega) | exact b01 | exact Or.inl rfl | exact Or.inr rfl) only [e98_0, e98_1, e98_2, e98_5, e98_5n, e98_6, e98_6n, e98_7n, e98_7, e98_10, e98_12, e98_13, e98_13n, e98_14, e98_17, e98_20, e98_22, e98_23, e98_24, e98_27, e98_28, e98_29, e98_33, e98_33n, e98_34, e98_37, e98_40, e98_41, e98_44, e98_45, e98_45n, e98_46, e98_48, e98_51, e98_54, e98_55, e98_56, e98_57, e98_60, e98_62, e98_63, e98_66, e98_69, e98_70, ct_i, ct_r, ct_n, ct_h, opt_v, opt_s, ref_s, ref_n, eq_self_iff_true, true_or, or_true, zl0, zl1, zl2, zl3, zl4, zl5, zl6, zl7, zl8, zl9, zl10, zl16, zl32, zl40, zl100, zl160, zIc1, zI_lt, zI_le, nI_eq, nI_add, z_sub, nI_clamp, zI_of, uu_eq, uu_ne, Nat.reduceLT, Nat.reduceLeDiff, Nat.reduceEqDiff, Nat.reduceAdd, Nat.reduceSub, Nat.reduceMul, Nat.not_lt_zero, Nat.lt_irrefl, Nat.le_refl, Bool.false_eq_true, false_and, and_false, true_and, and_true, if_pos, if_neg, if_true, if_false, not_true_eq_false, not_false_eq_true, s4, p2, rwT]
  | succ m ih =>
    intro i s c hi hs
    rw [e98_31]
    have e := p3 i (by omega)
    cases hg : gI Z D tx s (it j i) with
    | none =>
      simp (disch := first | assumption | exact ct_i | exact ct_r | exact ct_n | exact ct_h | omega | exact z_in (by omega) (by omega) | exact b01 | exact Or.inl rfl | exact Or.inr rfl) only [e98_0, e98_1, e98_2, e98_5, e98_5n, e98_6, e98_6n, e98_7n, e98_7, e98_10, e98_12, e98_13, e98_13n, e98_14, e98_17, e98_20, e98_22, e98_23, e98_24, e98_27, e98_28, e98_29, e98_33, e98_33n, e98_34, e98_37, e98_40, e98_41, e98_44, e98_45, e98_45n, e98_46, e98_48, e98_51, e98_54, e98_55, e98_56, e98_57, e98_60, e98_62, e98_63, e98_66, e98_69, e98_70, ct_i, ct_r, ct_n, ct_h, opt_v, opt_s, ref_s, ref_n, eq_self_iff_true, true_or, or_true, zl0, zl1, zl2, zl3, zl4, zl5, zl6, zl7, zl8, zl9, zl10, zl16, zl32, zl40, zl100, zl160, zIc1, zI_lt, zI_le, nI_eq, nI_add, z_sub, nI_clamp, zI_of, uu_eq, uu_ne, Nat.reduceLT, Nat.reduceLeDiff, Nat.reduceEqDiff, Nat.reduceAdd, Nat.reduceSub, Nat.reduceMul, Nat.not_lt_zero, Nat.lt_irrefl, Nat.le_refl, Bool.false_eq_true, false_and, and_false, true_and, and_true, if_pos, if_neg, if_true, if_false, not_true_eq_false, not_false_eq_true, c1, c6, s2, s4, p2, k63 (show 2 ≤ d by omega) hS p2 q2 (show i < sz j by omega), e, k20g hd hk hs, hg, oI, rwT]
    | some s' =>
      have hs' := gI_lt hB hg
      have := ih (i + 1) s' (c + cI Z D tx s (it j i)) (by omega) hs'
      simp only [rwT, hg]
      rw [← this]
      simp (disch := first | assumption | exact ct_i | exact ct_r | exact ct_n | exact ct_h | omega | exact z_in (by omega) (by omega) | exact b01 | exact Or.inl rfl | exact Or.inr rfl) only [e98_0, e98_1, e98_2, e98_5, e98_5n, e98_6, e98_6n, e98_7n, e98_7, e98_10, e98_12, e98_13, e98_13n, e98_14, e98_17, e98_20, e98_22, e98_23, e98_24, e98_27, e98_28, e98_29, e98_33, e98_33n, e98_34, e98_37, e98_40, e98_41, e98_44, e98_45, e98_45n, e98_46, e98_48, e98_51, e98_54, e98_55, e98_56, e98_57, e98_60, e98_62, e98_63, e98_66, e98_69, e98_70, ct_i, ct_r, ct_n, ct_h, opt_v, opt_s, ref_s, ref_n, eq_self_iff_true, true_or, or_true, zl0, zl1, zl2, zl3, zl4, zl5, zl6, zl7, zl8, zl9, zl10, zl16, zl32, zl40, zl100, zl160, zIc1, zI_lt, zI_le, nI_eq, nI_add, z_sub, nI_clamp, zI_of, uu_eq, uu_ne, Nat.reduceLT, Nat.reduceLeDiff, Nat.reduceEqDiff, Nat.reduceAdd, Nat.reduceSub, Nat.reduceMul, Nat.not_lt_zero, Nat.lt_irrefl, Nat.le_refl, Bool.false_eq_true, false_and, and_false, true_and, and_true, if_pos, if_neg, if_true, if_false, not_true_eq_false, not_false_eq_true, c1, c6, s2, s4, p2, k63 (show 2 ≤ d by omega) hS p2 q2 (show i < sz j by omega), e, k20g hd hk hs, hg, oI, oI_ne hs']
theorem k98 (hd : 12 ≤ d) (hk : RK T0 Z D tx tp so sz it (n, t, sh, I, L, R)) {x : Int32} : aC d 98 [.ref 0, .int x] (n, t, sh, I, L, R) Q ↔ Q (some (.int (judS Z D tx so sz it x))) (n, t, sh, I, L, R) := by
  obtain ⟨d, rfl⟩ : ∃ e, d = e + 1 := ⟨d - 1, by omega⟩
  obtain ⟨⟨o1, ⟨o2, hB⟩, o3, o4, o5, o6, o7⟩, hn, hK, hcl, hD', hM, h4, h5, h6, h7, h8, h9⟩ := id hk
  simp only [] at hn hK hcl hD' hM h4 h5 h6 h7 h8 h9
  obtain ⟨c1, c2, c3, c4, c5, c6, c7, c8, c9, c10⟩ := cP0 hK
  unfold judS
  cases hx : dec x 4 with
  | none => simp (disch := first | assumption | exact ct_i | exact ct_r | exact ct_n | exact ct_h | omega | exact z_in (by omega) (by omega) | exact b01 | exact Or.inl rfl | exact Or.inr rfl) only [b98, e98_0, e98_1, e98_2, e98_5, e98_5n, e98_6, e98_6n, e98_7n, e98_7, e98_10, e98_12, e98_13, e98_13n, e98_14, e98_17, e98_20, e98_22, e98_23, e98_24, e98_27, e98_28, e98_29, e98_33, e98_33n, e98_34, e98_37, e98_40, e98_41, e98_44, e98_45, e98_45n, e98_46, e98_48, e98_51, e98_54, e98_55, e98_56, e98_57, e98_60, e98_62, e98_63, e98_66, e98_69, e98_70, ct_i, ct_r, ct_n, ct_h, opt_v, opt_s, ref_s, ref_n, eq_self_iff_true, true_or, or_true, zl0, zl1, zl2, zl3, zl4, zl5, zl6, zl7, zl8, zl9, zl10, zl16, zl32, zl40, zl100, zl160, zIc1, zI_lt, zI_le, nI_eq, nI_add, z_sub, nI_clamp, zI_of, uu_eq, uu_ne, Nat.reduceLT, Nat.reduceLeDiff, Nat.reduceEqDiff, Nat.reduceAdd, Nat.reduceSub, Nat.reduceMul, Nat.not_lt_zero, Nat.lt_irrefl, Nat.le_refl, Bool.false_eq_true, false_and, and_false, true_and, and_true, if_pos, if_neg, if_true, if_false, not_true_eq_false, not_false_eq_true, c1, k99n (show 1 ≤ d by omega) (dec_none hx)]
  | some j =>
    obtain ⟨rfl, hj⟩ := dec_some (by decide) hx
    have hS := cPr hK hj
    have s4 := hS.1
    obtain ⟨p1, p2, p3⟩ := h9 j hj
    obtain ⟨q1, q2, q3⟩ := o7 j hj
    by_cases hs : so j = 0
    · simp (disch := first | assumption | exact ct_i | exact ct_r | exact ct_n | exact ct_h | omega | exact z_in (by omega) (by omega) | exact b01 | exact Or.inl rfl | exact Or.inr rfl) only [b98, e98_0, e98_1, e98_2, e98_5, e98_5n, e98_6, e98_6n, e98_7n, e98_7, e98_10, e98_12, e98_13, e98_13n, e98_14, e98_17, e98_20, e98_22, e98_23, e98_24, e98_27, e98_28, e98_29, e98_33, e98_33n, e98_34, e98_37, e98_40, e98_41, e98_44, e98_45, e98_45n, e98_46, e98_48, e98_51, e98_54, e98_55, e98_56, e98_57, e98_60, e98_62, e98_63, e98_66, e98_69, e98_70, ct_i, ct_r, ct_n, ct_h, opt_v, opt_s, ref_s, ref_n, eq_self_iff_true, true_or, or_true, zl0, zl1, zl2, zl3, zl4, zl5, zl6, zl7, zl8, zl9, zl10, zl16, zl32, zl40, zl100, zl160, zIc1, zI_lt, zI_le, nI_eq, nI_add, z_sub, nI_clamp, zI_of, uu_eq, uu_ne, Nat.reduceLT, Nat.reduceLeDiff, Nat.reduceEqDiff, Nat.reduceAdd, Nat.reduceSub, Nat.reduceMul, Nat.not_lt_zero, Nat.lt_irrefl, Nat.le_refl, Bool.false_eq_true, false_and, and_false, true_and, and_true, if_pos, if_neg, if_true, if_false, not_true_eq_false, not_false_eq_true, c1, s4, k99 (show 1 ≤ d by omega) hK hj, k62 (show 1 ≤ d by omega) hS p1 q1, hs]
    · simp only [if_neg hs]
      refine Iff.trans ?_ (k98l (n := n) (t := t) (Q := Q) (l1 := nI j) (show 4 ≤ d by omega) hk hj (sz j) 0 (Z 2) (nI 0) (by omega) o3.1)
      simp (disch := first | assumption | exact ct_i | exact ct_r | exact ct_n | exact ct_h | omega | exact z_in (by omega) (by omega) | exact b01 | exact Or.inl rfl | exact Or.inr rfl) only [b98, e98_0, e98_1, e98_2, e98_5, e98_5n, e98_6, e98_6n, e98_7n, e98_7, e98_10, e98_12, e98_13, e98_13n, e98_14, e98_17, e98_20, e98_22, e98_23, e98_24, e98_27, e98_28, e98_29, e98_33, e98_33n, e98_34, e98_37, e98_40, e98_41, e98_44, e98_45, e98_45n, e98_46, e98_48, e98_51, e98_54, e98_55, e98_56, e98_57, e98_60, e98_62, e98_63, e98_66, e98_69, e98_70, ct_i, ct_r, ct_n, ct_h, opt_v, opt_s, ref_s, ref_n, eq_self_iff_true, true_or, or_true, zl0, zl1, zl2, zl3, zl4, zl5, zl6, zl7, zl8, zl9, zl10, zl16, zl32, zl40, zl100, zl160, zIc1, zI_lt, zI_le, nI_eq, nI_add, z_sub, nI_clamp, zI_of, uu_eq, uu_ne, Nat.reduceLT, Nat.reduceLeDiff, Nat.reduceEqDiff, Nat.reduceAdd, Nat.reduceSub, Nat.reduceMul, Nat.not_lt_zero, Nat.lt_irrefl, Nat.le_refl, Bool.false_eq_true, false_and, and_false, true_and, and_true, if_pos, if_neg, if_true, if_false, not_true_eq_false, not_false_eq_true, c1, s4, k99 (show 1 ≤ d by omega) hK hj, k62 (show 1 ≤ d by omega) hS p1 q1, hs, h6.2.2.1]
theorem k103l (hd : 4 ≤ d) (hk : RK T0 Z D tx tp so sz it (n, t, sh, I, L, R)) {j : Nat} (hj : j < 4) : ∀ m i s c, i + m = sz j → s < 6144 →
    (aE (a_cl_ d) 103 (2, [.ref 0, .ref (15 + 2 * j), .int (nI s), .int (nI i)], [], (n, t, sh, I, L, R)) Q ↔ Q (some (.int (if (rwT Z D tx (it j) m i s c).1 = sz j then nI 1 else nI 0))) (n, t, sh, I, L, R)) := by
  obtain ⟨⟨o1, ⟨o2, hB⟩, o3, o4, o5, o6, o7⟩, hn, hK, hcl, hD', hM, h4, h5, h6, h7, h8, h9⟩ := id hk
  simp only [] at hn hK hcl hD' hM h4 h5 h6 h7 h8 h9
  obtain ⟨c1, c2, c3, c4, c5, c6, c7, c8, c9, c10⟩ := cP0 hK
  have s2 := (cPh hK).1
  have hS := cPr hK hj
  have s4 := hS.1
  obtain ⟨p1, p2, p3⟩ := h9 j hj
  obtain ⟨q1, q2, q3⟩ := o7 j hj
  intro m
  induction m with
  | zero =>
    intro i s c hi hs
    obtain rfl : i = sz j := by omega
    rw [e103_2]
    simp (disch := first | assumption | exact ct_i | exact ct_r | exact ct_n | exact ct_h | omega | exact z_in (by omega) (by omega) | exact b01 | exact Or.inl rfl | exact Or.inr rfl) only [e103_0, e103_1, e103_3, e103_3n, e103_4, e103_7, e103_10, e103_11, e103_14, e103_15, e103_15n, e103_16, e103_17, e103_20, e103_23, e103_24, e103_25, e103_26, e103_29, e103_30, e103_31, e103_34, e103_37, e103_38, ct_i, ct_r, ct_n, ct_h, opt_v, opt_s, ref_s, ref_n, eq_self_iff_true, true_or, or_true, zl0, zl1, zl2, zl3, zl4, zl5, zl6, zl7, zl8, zl9, zl10, zl16, zl32, zl40, zl100, zl160, zIc1, zI_lt, zI_le, nI_eq, nI_add, z_sub, nI_clamp, zI_of, uu_eq, uu_ne, Nat.reduceLT, Nat.reduceLeDiff, Nat.reduceEqDiff, Nat.reduceAdd, Nat.reduceSub, Nat.reduceMul, Nat.not_lt_zero, Nat.lt_irrefl, Nat.le_refl, Bool.false_eq_true, false_and, and_false, true_and, and_true, if_pos, if_neg, if_true, if_false, not_true_eq_false, not_false_eq_true, s4, p2, rwT]
  | succ m ih =>
    intro i s c hi hs
    rw [e103_2]
    have e := p3 i (by omega)
    cases hg : gI Z D tx s (it j i) with
    | none =>
      simp (disch := first | assumption | exact ct_i | exact ct_r | exact ct_n | exact ct_h | omega | exact z_in (by omega) (by omega) | exact b01 | exact Or.inl rfl | exact Or.inr rfl) only [e103_0, e103_1, e103_3, e103_3n, e103_4, e103_7, e103_10, e103_11, e103_14, e103_15, e103_15n, e103_16, e103_17, e103_20, e103_23, e103_24, e103_25, e103_26, e103_29, e103_30, e103_31, e103_34, e103_37, e103_38, ct_i, ct_r, ct_n, ct_h, opt_v, opt_s, ref_s, ref_n, eq_self_iff_true, true_or, or_true, zl0, zl1, zl2, zl3, zl4, zl5, zl6, zl7, zl8, zl9, zl10, zl16, zl32, zl40, zl100, zl160, zIc1, zI_lt, zI_le, nI_eq, nI_add, z_sub, nI_clamp, zI_of, uu_eq, uu_ne, Nat.reduceLT, Nat.reduceLeDiff, Nat.reduceEqDiff, Nat.reduceAdd, Nat.reduceSub, Nat.reduceMul, Nat.not_lt_zero, Nat.lt_irrefl, Nat.le_refl, Bool.false_eq_true, false_and, and_false, true_and, and_true, if_pos, if_neg, if_true, if_false, not_true_eq_false, not_false_eq_true, c1, c6, s2, s4, p2, k63 (show 2 ≤ d by omega) hS p2 q2 (show i < sz j by omega), e, k20g hd hk hs, hg, oI, rwT]
    | some s' =>
      have hs' := gI_lt hB hg
      have := ih (i + 1) s' (c + cI Z D tx s (it j i)) (by omega) hs'
      simp only [rwT, hg]
      rw [← this]
      simp (disch := first | assumption | exact ct_i | exact ct_r | exact ct_n | exact ct_h | omega | exact z_in (by omega) (by omega) | exact b01 | exact Or.inl rfl | exact Or.inr rfl) only [e103_0, e103_1, e103_3, e103_3n, e103_4, e103_7, e103_10, e103_11, e103_14, e103_15, e103_15n, e103_16, e103_17, e103_20, e103_23, e103_24, e103_25, e103_26, e103_29, e103_30, e103_31, e103_34, e103_37, e103_38, ct_i, ct_r, ct_n, ct_h, opt_v, opt_s, ref_s, ref_n, eq_self_iff_true, true_or, or_true, zl0, zl1, zl2, zl3, zl4, zl5, zl6, zl7, zl8, zl9, zl10, zl16, zl32, zl40, zl100, zl160, zIc1, zI_lt, zI_le, nI_eq, nI_add, z_sub, nI_clamp, zI_of, uu_eq, uu_ne, Nat.reduceLT, Nat.reduceLeDiff, Nat.reduceEqDiff, Nat.reduceAdd, Nat.reduceSub, Nat.reduceMul, Nat.not_lt_zero, Nat.lt_irrefl, Nat.le_refl, Bool.false_eq_true, false_and, and_false, true_and, and_true, if_pos, if_neg, if_true, if_false, not_true_eq_false, not_false_eq_true, c1, c6, s2, s4, p2, k63 (show 2 ≤ d by omega) hS p2 q2 (show i < sz j by omega), e, k20g hd hk hs, hg, oI, oI_ne hs']
theorem k103 (hd : 5 ≤ d) (hk : RK T0 Z D tx tp so sz it (n, t, sh, I, L, R)) {j s : Nat} (hj : j < 4) (hs : s < 6144) : aC d 103 [.ref 0, .ref (15 + 2 * j), .int (nI s)] (n, t, sh, I, L, R) Q ↔ Q (some (.int (if (rwS Z D tx (it j) (sz j) s).1 = sz j then nI 1 else nI 0))) (n, t, sh, I, L, R) := by
  obtain ⟨d, rfl⟩ : ∃ e, d = e + 1 := ⟨d - 1, by omega⟩
  refine Iff.trans ?_ (k103l (n := n) (t := t) (Q := Q) (show 4 ≤ d by omega) hk hj (sz j) 0 s (nI 0) (by omega) hs)
  simp (disch := first | assumption | exact ct_i | exact ct_r | exact ct_n | exact ct_h | omega | exact z_in (by omega) (by omega) | exact b01 | exact Or.inl rfl | exact Or.inr rfl) only [b103, e103_0, e103_1, e103_3, e103_3n, e103_4, e103_7, e103_10, e103_11, e103_14, e103_15, e103_15n, e103_16, e103_17, e103_20, e103_23, e103_24, e103_25, e103_26, e103_29, e103_30, e103_31, e103_34, e103_37, e103_38, ct_i, ct_r, ct_n, ct_h, opt_v, opt_s, ref_s, ref_n, eq_self_iff_true, true_or, or_true, zl0, zl1, zl2, zl3, zl4, zl5, zl6, zl7, zl8, zl9, zl10, zl16, zl32, zl40, zl100, zl160, zIc1, zI_lt, zI_le, nI_eq, nI_add, z_sub, nI_clamp, zI_of, uu_eq, uu_ne, Nat.reduceLT, Nat.reduceLeDiff, Nat.reduceEqDiff, Nat.reduceAdd, Nat.reduceSub, Nat.reduceMul, Nat.not_lt_zero, Nat.lt_irrefl, Nat.le_refl, Bool.false_eq_true, false_and, and_false, true_and, and_true, if_pos, if_neg, if_true, if_false, not_true_eq_false, not_false_eq_true]
/-- the rooms of beginning -/
def hrS (Z : Nat → Nat) (D : Nat → Nat → Nat) (tx : Nat → Nat → List Nat) (sz : Nat → Nat) (it : Nat → Nat → Int32) (j : Nat) : Nat → Int32 := orF (fun r => decide ((rwS Z D tx (it j) (sz j) (wrm (Z 2) r)).1 = sz j))
theorem k102l (hd : 5 ≤ d) (hk : RK T0 Z D tx tp so sz it (n, t, sh, I, L, R)) {j : Nat} (hj : j < 4) : ∀ m i, i + m = Z 0 →
    (aE (a_cl_ d) 102 (4, [.ref 0, .ref (15 + 2 * j), .int (hrS Z D tx sz it j i), .int (nI i)], [], (n, t, sh, I, L, R)) Q ↔ Q (some (.int (hrS Z D tx sz it j (Z 0)))) (n, t, sh, I, L, R)) := by
  obtain ⟨⟨o1, ⟨o2, hB⟩, o3, o4, o5, o6, o7⟩, hn, hK, hcl, hD', hM, h4, h5, h6, h7, h8, h9⟩ := id hk
  simp only [] at hn hK hcl hD' hM h4 h5 h6 h7 h8 h9
  obtain ⟨c1, c2, c3, c4, c5, c6, c7, c8, c9, c10⟩ := cP0 hK
  have s2 := (cPh hK).1
  intro m
  induction m with
  | zero =>
    intro i hi
    obtain rfl : i = Z 0 := by omega
    rw [e102_4]
    simp (disch := first | assumption | exact ct_i | exact ct_r | exact ct_n | exact ct_h | omega | exact z_in (by omega) (by omega) | exact b01 | exact Or.inl rfl | exact Or.inr rfl) only [e102_0, e102_1, e102_2, e102_3, e102_5, e102_6, e102_9, e102_12, e102_15, e102_16, e102_16n, e102_17, e102_18, e102_21, e102_22, e102_25, e102_28, e102_31, e102_32, e102_33, e102_34, e102_35, e102_36, e102_37, e102_40, e102_43, e102_44, ct_i, ct_r, ct_n, ct_h, opt_v, opt_s, ref_s, ref_n, eq_self_iff_true, true_or, or_true, zl0, zl1, zl2, zl3, zl4, zl5, zl6, zl7, zl8, zl9, zl10, zl16, zl32, zl40, zl100, zl160, zIc1, zI_lt, zI_le, nI_eq, nI_add, z_sub, nI_clamp, zI_of, uu_eq, uu_ne, Nat.reduceLT, Nat.reduceLeDiff, Nat.reduceEqDiff, Nat.reduceAdd, Nat.reduceSub, Nat.reduceMul, Nat.not_lt_zero, Nat.lt_irrefl, Nat.le_refl, Bool.false_eq_true, false_and, and_false, true_and, and_true, if_pos, if_neg, if_true, if_false, not_true_eq_false, not_false_eq_true, c1, c6, s2, h5]
  | succ m ih =>
    intro i hi
    rw [e102_4, ← ih (i + 1) (by omega)]
    by_cases hc : (rwS Z D tx (it j) (sz j) (wrm (Z 2) i)).1 = sz j
    · have e : hrS Z D tx sz it j (i + 1) = hrS Z D tx sz it j i ||| (nI 1 <<< (nI i &&& 31)) := if_pos (decide_eq_true hc)
      simp (disch := first | assumption | exact ct_i | exact ct_r | exact ct_n | exact ct_h | omega | exact z_in (by omega) (by omega) | exact b01 | exact Or.inl rfl | exact Or.inr rfl) only [e102_0, e102_1, e102_2, e102_3, e102_5, e102_6, e102_9, e102_12, e102_15, e102_16, e102_16n, e102_17, e102_18, e102_21, e102_22, e102_25, e102_28, e102_31, e102_32, e102_33, e102_34, e102_35, e102_36, e102_37, e102_40, e102_43, e102_44, ct_i, ct_r, ct_n, ct_h, opt_v, opt_s, ref_s, ref_n, eq_self_iff_true, true_or, or_true, zl0, zl1, zl2, zl3, zl4, zl5, zl6, zl7, zl8, zl9, zl10, zl16, zl32, zl40, zl100, zl160, zIc1, zI_lt, zI_le, nI_eq, nI_add, z_sub, nI_clamp, zI_of, uu_eq, uu_ne, Nat.reduceLT, Nat.reduceLeDiff, Nat.reduceEqDiff, Nat.reduceAdd, Nat.reduceSub, Nat.reduceMul, Nat.not_lt_zero, Nat.lt_irrefl, Nat.le_refl, Bool.false_eq_true, false_and, and_false, true_and, and_true, if_pos, if_neg, if_true, if_false, not_true_eq_false, not_false_eq_true, c1, c6, s2, h5, h6.2.2.1, k199 (show 1 ≤ d by omega) o3.1 (show i < 6 by omega), k103 hd hk hj (wrm_lt (s := Z 2) (show i < 6 by omega)), hc, e]
    · have e : hrS Z D tx sz it j (i + 1) = hrS Z D tx sz it j i := if_neg (fun h => hc (of_decide_eq_true h))
      simp (disch := first | assumption | exact ct_i | exact ct_r | exact ct_n | exact ct_h | omega | exact z_in (by omega) (by omega) | exact b01 | exact Or.inl rfl | exact Or.inr rfl) only [e102_0, e102_1, e102_2, e102_3, e102_5, e102_6, e102_9, e102_12, e102_15, e102_16, e102_16n, e102_17, e102_18, e102_21, e102_22, e102_25, e102_28, e102_31, e102_32, e102_33, e102_34, e102_35, e102_36, e102_37, e102_40, e102_43, e102_44, ct_i, ct_r, ct_n, ct_h, opt_v, opt_s, ref_s, ref_n, eq_self_iff_true, true_or, or_true, zl0, zl1, zl2, zl3, zl4, zl5, zl6, zl7, zl8, zl9, zl10, zl16, zl32, zl40, zl100, zl160, zIc1, zI_lt, zI_le, nI_eq, nI_add, z_sub, nI_clamp, zI_of, uu_eq, uu_ne, Nat.reduceLT, Nat.reduceLeDiff, Nat.reduceEqDiff, Nat.reduceAdd, Nat.reduceSub, Nat.reduceMul, Nat.not_lt_zero, Nat.lt_irrefl, Nat.le_refl, Bool.false_eq_true, false_and, and_false, true_and, and_true, if_pos, if_neg, if_true, if_false, not_true_eq_false, not_false_eq_true, c1, c6, s2, h5, h6.2.2.1, k199 (show 1 ≤ d by omega) o3.1 (show i < 6 by omega), k103 hd hk hj (wrm_lt (s := Z 2) (show i < 6 by omega)), hc, e]
theorem k102 (hd : 6 ≤ d) (hk : RK T0 Z D tx tp so sz it (n, t, sh, I, L, R)) {j : Nat} (hj : j < 4) : aC d 102 [.ref 0, .ref (15 + 2 * j)] (n, t, sh, I, L, R) Q ↔ Q (some (.int (hrS Z D tx sz it j (Z 0)))) (n, t, sh, I, L, R) := by
  obtain ⟨d, rfl⟩ : ∃ e, d = e + 1 := ⟨d - 1, by omega⟩
  rw [← k102l (n := n) (t := t) (Q := Q) (show 5 ≤ d by omega) hk hj (Z 0) 0 (by omega)]
  simp (disch := first | assumption | exact ct_i | exact ct_r | exact ct_n | exact ct_h | omega | exact z_in (by omega) (by omega) | exact b01 | exact Or.inl rfl | exact Or.inr rfl) only [b102, e102_0, e102_1, e102_2, e102_3, e102_5, e102_6, e102_9, e102_12, e102_15, e102_16, e102_16n, e102_17, e102_18, e102_21, e102_22, e102_25, e102_28, e102_31, e102_32, e102_33, e102_34, e102_35, e102_36, e102_37, e102_40, e102_43, e102_44, ct_i, ct_r, ct_n, ct_h, opt_v, opt_s, ref_s, ref_n, eq_self_iff_true, true_or, or_true, zl0, zl1, zl2, zl3, zl4, zl5, zl6, zl7, zl8, zl9, zl10, zl16, zl32, zl40, zl100, zl160, zIc1, zI_lt, zI_le, nI_eq, nI_add, z_sub, nI_clamp, zI_of, uu_eq, uu_ne, Nat.reduceLT, Nat.reduceLeDiff, Nat.reduceEqDiff, Nat.reduceAdd, Nat.reduceSub, Nat.reduceMul, Nat.not_lt_zero, Nat.lt_irrefl, Nat.le_refl, Bool.false_eq_true, false_and, and_false, true_and, and_true, if_pos, if_neg, if_true, if_false, not_true_eq_false, not_false_eq_true, hrS, orF]
end
