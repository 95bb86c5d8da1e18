/-! the class's calls: those that ask -/
def RK (T0 : Nat) (Z : Nat → Nat) (D : Nat → Nat → Nat) (tx : Nat → Nat → List Nat) (tp so sz : Nat → Nat) (it : Nat → Nat → Int32) (h : aH) : Prop := okS Z D tx tp so sz ∧ RC T0 Z D tx tp so sz it h
def tldS (Z : Nat → Nat) (D : Nat → Nat → Nat) (tx : Nat → Nat → List Nat) (x w : Int32) : Int32 := match dec x (Z 1) with
  | none => -nI 2
  | some i => if w = nI 0 then nI (D i 4) else if w = nI 1 then nI (D i 0) else if w = nI 2 then nI (D i 1) else if w = nI 3 then nI (D i 2) else if w = nI 4 then nI (stt (Z 2) i)
    else if w = nI 5 then (if opS (Z 1) D (tx (Z 4)) (wrm (Z 2) (D i 0)) i = true then nI 1 else nI 0) else if w = nI 6 then nI (nxt (D i 4) (stt (Z 2) i)) else if w = nI 7 then nI (D i 3) else -nI 2
def opnS (Z : Nat → Nat) (D : Nat → Nat → Nat) (tx : Nat → Nat → List Nat) : Int32 := orF (fun i => (bh (Z 1) D (tx (Z 4)) (Z 2) i).isSome) (Z 1)
def cntS (Z : Nat → Nat) (w : Int32) : Int32 := if w = nI 0 then nI (Z 0) else if w = nI 1 then nI (Z 1) else if w = nI 2 then nI (tno (Z 2)) else if w = nI 3 then nI (rmo (Z 2)) else if w = nI 4 then nI (Z 3) else if w = nI 5 then nI (Z 5) else if w = nI 6 then nI (Z 4) else if w = nI 7 then nI (sts (Z 2)) else -nI 2
theorem rmo_wrm {s r : Nat} : rmo (wrm s r) = r := by unfold rmo wrm; omega
section
variable {T0 : Nat} {Z : Nat → Nat} {D : Nat → Nat → Nat} {tx : Nat → Nat → List Nat} {tp so sz : Nat → Nat} {it : Nat → Nat → Int32} {d : Nat} {n t : Nat} {sh : Nat → Nat × Nat} {I : Nat → Nat → Int32} {L : Nat → Nat → Int64} {R : Nat → Nat → Option Nat} {Q : Option Value → aH → Prop}
theorem k85 (hd : 12 ≤ d) (hk : RK T0 Z D tx tp so sz it (n, t, sh, I, L, R)) {x w : Int32} : aC d 85 [.ref 0, .int x, .int w] (n, t, sh, I, L, R) Q ↔ Q (some (.int (tldS Z D tx x w))) (n, t, sh, I, L, R) := by
  obtain ⟨d, rfl⟩ : ∃ e, d = e + 1 := ⟨d - 1, by omega⟩
  obtain ⟨⟨o1, ⟨o2, hB⟩, o3, o4, o5, o6, o7⟩, hn, hK, hcl, hD', hM, h4, h5, h6, h7, h8, h9⟩ := hk
  simp only [] at hK hD' hM h4 h5 h6 h7 h8 h9
  obtain ⟨c1, c2, c3, c4, c5, c6, c7, c8, c9, c10⟩ := cP0 hK
  have s1 := (cPh hK).1
  unfold tldS
  cases hx : dec x (Z 1) with
  | none =>
    simp (disch := first | assumption | exact ct_i | exact ct_r | exact ct_n | exact ct_h | omega | exact z_in (by omega) (by omega) | exact b01 | exact Or.inl rfl | exact Or.inr rfl) only [b85, e85_0, e85_1, e85_4, e85_5, e85_8, e85_8n, e85_9, e85_9n, e85_10n, e85_10, e85_13, e85_15, e85_16, e85_17, e85_64, e85_64n, e85_65, e85_68, e85_69, e85_69n, e85_70, e85_73, e85_74, e85_74n, e85_75, e85_78, e85_79, e85_79n, e85_80, e85_83, e85_84, e85_85, e85_88, e85_89, e85_92, e85_93, e85_94, e85_97, e85_98, e85_101, e85_101n, e85_102, e85_105, e85_108, e85_109, e85_112, e85_115, e85_116, e85_119, e85_120, e85_121, e85_121n, e85_122, e85_123, e85_126, e85_127, e85_130, e85_133, e85_134, e85_134n, e85_135, e85_138, e85_139, e85_141, ct_i, ct_r, ct_n, ct_h, opt_v, opt_s, ref_s, ref_n, eq_self_iff_true, true_or, or_true, zl0, zl1, zl2, zl3, zl4, zl5, zl6, zl7, zl8, zl9, zl10, zl16, zl32, zl40, zl100, zl160, zIc1, zI_lt, zI_le, nI_eq, nI_add, z_sub, nI_clamp, zI_of, uu_eq, uu_ne, Nat.reduceLT, Nat.reduceLeDiff, Nat.reduceEqDiff, Nat.reduceAdd, Nat.reduceSub, Nat.reduceMul, Nat.not_lt_zero, Nat.lt_irrefl, Nat.le_refl, Bool.false_eq_true, false_and, and_false, true_and, and_true, if_pos, if_neg, if_true, if_false, not_true_eq_false, not_false_eq_true, c1, c6, s1, k11n (show 1 ≤ d by omega) hK hD' (dec_none hx)]
  | some i =>
    obtain ⟨rfl, hi⟩ := dec_some (by omega) hx
    obtain ⟨g1, g2⟩ := cPd hK hi
    have hb := hB i hi
    have e0 := hD'.2 i hi 0 (by decide)
    have e1 := hD'.2 i hi 1 (by decide)
    have e2 := hD'.2 i hi 2 (by decide)
    have e3 := hD'.2 i hi 3 (by decide)
    have e4 := hD'.2 i hi 4 (by decide)
    have l1 : stt (Z 2) i < 4 := stt_lt
    have hr : rmo (wrm (Z 2) (D i 0)) = D i 0 ∨ rmo (wrm (Z 2) (D i 0)) = D i 1 := Or.inl rmo_wrm
    have k17' := k17 (n := n) (t := t) (I := I) (Q := fun v h1 => aE (a_cl_ d) 85 (112, [.ref 0, .int (nI i), .int w, .ref (47 + i)], v.toList ++ [], h1) Q) (show 3 ≤ d by omega) hK hD' hB hM (wrm_lt (s := Z 2) hb.1) hi hr
    by_cases ho : opS (Z 1) D (tx (Z 4)) (wrm (Z 2) (D i 0)) i = true
    · rw [ho] at k17'
      simp (disch := first | assumption | exact ct_i | exact ct_r | exact ct_n | exact ct_h | omega | exact z_in (by omega) (by omega) | exact b01 | exact Or.inl rfl | exact Or.inr rfl) only [b85, e85_0, e85_1, e85_4, e85_5, e85_8, e85_8n, e85_9, e85_9n, e85_10n, e85_10, e85_13, e85_15, e85_16, e85_17, e85_64, e85_64n, e85_65, e85_68, e85_69, e85_69n, e85_70, e85_73, e85_74, e85_74n, e85_75, e85_78, e85_79, e85_79n, e85_80, e85_83, e85_84, e85_85, e85_88, e85_89, e85_92, e85_93, e85_94, e85_97, e85_98, e85_101, e85_101n, e85_102, e85_105, e85_108, e85_109, e85_112, e85_115, e85_116, e85_119, e85_120, e85_121, e85_121n, e85_122, e85_123, e85_126, e85_127, e85_130, e85_133, e85_134, e85_134n, e85_135, e85_138, e85_139, e85_141, ct_i, ct_r, ct_n, ct_h, opt_v, opt_s, ref_s, ref_n, eq_self_iff_true, true_or, or_true, zl0, zl1, zl2, zl3, zl4, zl5, zl6, zl7, zl8, zl9, zl10, zl16, zl32, zl40, zl100, zl160, zIc1, zI_lt, zI_le, nI_eq, nI_add, z_sub, nI_clamp, zI_of, uu_eq, uu_ne, Nat.reduceLT, Nat.reduceLeDiff, Nat.reduceEqDiff, Nat.reduceAdd, Nat.reduceSub, Nat.reduceMul, Nat.not_lt_zero, Nat.lt_irrefl, Nat.le_refl, Bool.false_eq_true, false_and, and_false, true_and, and_true, if_true, if_false, not_true_eq_false, not_false_eq_true, c1, c6, s1, g1, e0, e1, e2, e3, e4, h6.2.2.1, k11 (show 1 ≤ d by omega) hK hD' hi, k194 (show 1 ≤ d by omega) o3.1 (show i < 4 by omega), k199 (show 1 ≤ d by omega) o3.1 hb.1, k17', ho, k5 (show 1 ≤ d by omega) g1 e4 hb.2.2.2.2 l1, z_if]
    · rw [if_neg ho] at k17'
      simp (disch := first | assumption | exact ct_i | exact ct_r | exact ct_n | exact ct_h | omega | exact z_in (by omega) (by omega) | exact b01 | exact Or.inl rfl | exact Or.inr rfl) only [b85, e85_0, e85_1, e85_4, e85_5, e85_8, e85_8n, e85_9, e85_9n, e85_10n, e85_10, e85_13, e85_15, e85_16, e85_17, e85_64, e85_64n, e85_65, e85_68, e85_69, e85_69n, e85_70, e85_73, e85_74, e85_74n, e85_75, e85_78, e85_79, e85_79n, e85_80, e85_83, e85_84, e85_85, e85_88, e85_89, e85_92, e85_93, e85_94, e85_97, e85_98, e85_101, e85_101n, e85_102, e85_105, e85_108, e85_109, e85_112, e85_115, e85_116, e85_119, e85_120, e85_121, e85_121n, e85_122, e85_123, e85_126, e85_127, e85_130, e85_133, e85_134, e85_134n, e85_135, e85_138, e85_139, e85_141, ct_i, ct_r, ct_n, ct_h, opt_v, opt_s, ref_s, ref_n, eq_self_iff_true, true_or, or_true, zl0, zl1, zl2, zl3, zl4, zl5, zl6, zl7, zl8, zl9, zl10, zl16, zl32, zl40, zl100, zl160, zIc1, zI_lt, zI_le, nI_eq, nI_add, z_sub, nI_clamp, zI_of, uu_eq, uu_ne, Nat.reduceLT, Nat.reduceLeDiff, Nat.reduceEqDiff, Nat.reduceAdd, Nat.reduceSub, Nat.reduceMul, Nat.not_lt_zero, Nat.lt_irrefl, Nat.le_refl, Bool.false_eq_true, false_and, and_false, true_and, and_true, if_true, if_false, not_true_eq_false, not_false_eq_true, c1, c6, s1, g1, e0, e1, e2, e3, e4, h6.2.2.1, k11 (show 1 ≤ d by omega) hK hD' hi, k194 (show 1 ≤ d by omega) o3.1 (show i < 4 by omega), k199 (show 1 ≤ d by omega) o3.1 hb.1, k17', ho, k5 (show 1 ≤ d by omega) g1 e4 hb.2.2.2.2 l1, z_if]
theorem k86 (hd : 12 ≤ d) (hk : RK T0 Z D tx tp so sz it (n, t, sh, I, L, R)) : aC d 86 [.ref 0] (n, t, sh, I, L, R) Q ↔ Q (some (.int (opnS Z D tx))) (n, t, sh, I, L, R) := by
  obtain ⟨d, rfl⟩ : ∃ e, d = e + 1 := ⟨d - 1, by omega⟩
  obtain ⟨⟨o1, ⟨o2, hB⟩, o3, o4, o5, o6, o7⟩, hn, hK, hcl, hD', hM, h4, h5, h6, h7, h8, h9⟩ := hk
  simp only [] at hK hD' hM h4 h5 h6 h7 h8 h9
  obtain ⟨c1, c2, c3, c4, c5, c6, c7, c8, c9, c10⟩ := cP0 hK
  have s1 := (cPh hK).1
  simp (disch := first | assumption | exact ct_i | exact ct_r | exact ct_n | exact ct_h | omega | exact z_in (by omega) (by omega) | exact b01 | exact Or.inl rfl | exact Or.inr rfl) only [b86, e86_0, e86_1, e86_4, e86_5, e86_8, e86_11, ct_i, ct_r, ct_n, ct_h, opt_v, opt_s, ref_s, ref_n, eq_self_iff_true, true_or, or_true, zl0, zl1, zl2, zl3, zl4, zl5, zl6, zl7, zl8, zl9, zl10, zl16, zl32, zl40, zl100, zl160, zIc1, zI_lt, zI_le, nI_eq, nI_add, z_sub, nI_clamp, zI_of, uu_eq, uu_ne, Nat.reduceLT, Nat.reduceLeDiff, Nat.reduceEqDiff, Nat.reduceAdd, Nat.reduceSub, Nat.reduceMul, Nat.not_lt_zero, Nat.lt_irrefl, Nat.le_refl, Bool.false_eq_true, false_and, and_false, true_and, and_true, if_pos, if_neg, if_true, if_false, not_true_eq_false, not_false_eq_true, c1, c6, s1, h6.2.2.1, k19 (show 5 ≤ d by omega) hK hD' hB hM o3.1, opnS]
theorem k110 (hd : 12 ≤ d) (hk : RK T0 Z D tx tp so sz it (n, t, sh, I, L, R)) {w : Int32} : aC d 110 [.ref 0, .int w] (n, t, sh, I, L, R) Q ↔ Q (some (.int (cntS Z w))) (n, t, sh, I, L, R) := by
  obtain ⟨d, rfl⟩ : ∃ e, d = e + 1 := ⟨d - 1, by omega⟩
  obtain ⟨⟨o1, ⟨o2, hB⟩, o3, o4, o5, o6, o7⟩, hn, hK, hcl, hD', hM, h4, h5, h6, h7, h8, h9⟩ := hk
  simp only [] at hK hD' hM h4 h5 h6 h7 h8 h9
  obtain ⟨c1, c2, c3, c4, c5, c6, c7, c8, c9, c10⟩ := cP0 hK
  have s1 := (cPh hK).1
  have s11 : (sh 11).1 = 2 := by rw [c_s11 hK]
  simp (disch := first | assumption | exact ct_i | exact ct_r | exact ct_n | exact ct_h | omega | exact z_in (by omega) (by omega) | exact b01 | exact Or.inl rfl | exact Or.inr rfl) only [b110, e110_0, e110_1, e110_48, e110_49, e110_52, e110_55, e110_56, e110_57, e110_60, e110_63, e110_64, e110_65, e110_68, e110_71, e110_72, e110_73, e110_76, e110_79, e110_80, e110_81, e110_84, e110_85, e110_86, e110_89, e110_92, e110_93, e110_94, e110_97, e110_98, e110_99, e110_102, e110_105, e110_106, e110_108, ct_i, ct_r, ct_n, ct_h, opt_v, opt_s, ref_s, ref_n, eq_self_iff_true, true_or, or_true, zl0, zl1, zl2, zl3, zl4, zl5, zl6, zl7, zl8, zl9, zl10, zl16, zl32, zl40, zl100, zl160, zIc1, zI_lt, zI_le, nI_eq, nI_add, z_sub, nI_clamp, zI_of, uu_eq, uu_ne, Nat.reduceLT, Nat.reduceLeDiff, Nat.reduceEqDiff, Nat.reduceAdd, Nat.reduceSub, Nat.reduceMul, Nat.not_lt_zero, Nat.lt_irrefl, Nat.le_refl, Bool.false_eq_true, false_and, and_false, true_and, and_true, if_true, if_false, not_true_eq_false, not_false_eq_true, c1, c6, c8, s1, s11, hD'.1, h5, h6, h8.1, k196 (show 1 ≤ d by omega) o3.1, k198 (show 1 ≤ d by omega) o3.1, k200 (show 2 ≤ d by omega) o3.1, z_if, cntS]
end
