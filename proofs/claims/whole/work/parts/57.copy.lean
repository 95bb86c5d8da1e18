/-! the class's calls: a row copied -/
def hsB (z : Nat) (x y : Int32) : Option (Nat × Nat) := if y < nI 0 ∨ x < nI 0 ∨ ¬ x.toNatClampNeg + y.toNatClampNeg ≤ z then none else some (x.toNatClampNeg, y.toNatClampNeg)
theorem hsB_some {z : Nat} {x y : Int32} {p : Nat × Nat} (h : hsB z x y = some p) : x = nI p.1 ∧ y = nI p.2 ∧ p.1 + p.2 ≤ z := by
  unfold hsB at h
  split at h
  · cases h
  · rename_i h1
    have h2 : ¬ y < nI 0 := fun hh => h1 (Or.inl hh)
    have h3 : ¬ x < nI 0 := fun hh => h1 (Or.inr (Or.inl hh))
    have h4 : x.toNatClampNeg + y.toNatClampNeg ≤ z := Decidable.not_not.mp (fun hh => h1 (Or.inr (Or.inr hh)))
    obtain ⟨i, hi, rfl⟩ := nI_of h3
    obtain ⟨m, hm, rfl⟩ := nI_of h2
    injection h with h; subst h
    rw [nI_clamp hi, nI_clamp hm] at h4 ⊢
    exact ⟨rfl, rfl, h4⟩
theorem hsB_none {z : Nat} {x y : Int32} (hz : z ≤ 40) (h : hsB z x y = none) : ¬ hsA z x y := by
  rintro ⟨i, m, rfl, rfl, him⟩
  unfold hsB at h
  rw [if_neg] at h
  · cases h
  · rw [zI_lt (by omega) (by omega), zI_lt (by omega) (by omega), nI_clamp (by omega), nI_clamp (by omega)]
    omega
def copS (so sz : Nat → Nat) (it : Nat → Nat → Int32) (x i y j m : Int32) : Int32 × (Nat → Nat → Int32) := match dec x 4, dec y 4 with
  | some a, some b => if so a = 0 ∨ so b = 0 then (-11, it) else if so a = so b then (match hsB (sz a) i m, hsB (sz b) j m with
    | some p, some q => (m, fun r k => if r = b then va_cpy (it a) (it b) p.1 q.1 p.2 k else it r k)
    | _, _ => (-12, it)) else (-13, it)
  | _, _ => (-nI 2, it)
section
variable {T0 : Nat} {Z : Nat → Nat} {D : Nat → Nat → Nat} {tx : Nat → Nat → List Nat} {tp so sz : Nat → Nat} {it : Nat → Nat → Int32} {d : Nat} {n t : Nat} {sh : Nat → Nat × Nat} {I : Nat → Nat → Int32} {L : Nat → Nat → Int64} {R : Nat → Nat → Option Nat} {I' : Nat → Nat → Int32} {Q : Option Value → aH → Prop}
theorem dI_eq {a b : Nat} (ha : a < 2 ^ 30) (hb : b < 2 ^ 30) : dI a = dI b ↔ a = b := by
  cases b with
  | zero => rw [show dI 0 = -nI 1 from rfl, dI_m (by omega)]
  | succ b => rw [dI_s, dI_n (by omega) (by omega)]
theorem k113 (hd : 12 ≤ d) (hk : RK T0 Z D tx tp so sz it (n, t, sh, I, L, R)) {x i y j m : Int32} (H : ∀ h', RK T0 Z D tx tp so sz (copS so sz it x i y j m).2 h' → Q (some (.int (copS so sz it x i y j m).1)) h') : aC d 113 [.ref 0, .int x, .int i, .int y, .int j, .int m] (n, t, sh, I, L, R) Q := by
  obtain ⟨d, rfl⟩ : ∃ e, d = e + 1 := ⟨d - 1, by omega⟩
  obtain ⟨⟨o1, ⟨o2, hB⟩, o3, o4, o5, o6, o7⟩, hn, hK, hcl, hD', hM, h4, h5, h6, h7, h8, h9⟩ := id hk
  simp only [] at hn hK hcl hD' hM h4 h5 h6 h7 h8 h9
  obtain ⟨c1, c2, c3, c4, c5, c6, c7, c8, c9, c10⟩ := cP0 hK
  unfold copS at H
  cases hx : dec x 4 with
  | none =>
    simp only [hx] at H
    have := H _ hk
    cases hy : dec y 4 with
    | none =>
      simp (disch := first | assumption | exact ct_i | exact ct_r | exact ct_n | exact ct_h | omega | exact z_in (by omega) (by omega) | exact b01 | exact Or.inl rfl | exact Or.inr rfl) only [b113, e113_0, e113_1, e113_2, e113_5, e113_5n, e113_7, e113_8, e113_9, e113_12, e113_12n, e113_14, e113_14n, e113_16n, e113_16, e113_19, e113_19n, e113_21n, e113_21, e113_24, e113_26, e113_27, e113_27n, e113_29, e113_32, e113_35, e113_35n, e113_37, e113_40, e113_43, e113_45, e113_46, e113_46n, e113_48, e113_51, e113_51n, e113_53, e113_56, e113_59, e113_61, e113_62, e113_62n, e113_64, e113_65, e113_67, e113_70, e113_73, e113_73n, e113_75, e113_77, e113_79, e113_82, e113_85, e113_87, e113_88, e113_88n, e113_90, e113_93, e113_94, e113_94n, e113_96, e113_99, e113_101, e113_103, e113_106, e113_108, ct_i, ct_r, ct_n, ct_h, opt_v, opt_s, ref_s, ref_n, eq_self_iff_true, true_or, or_true, zl0, zl1, zl2, zl3, zl4, zl5, zl6, zl7, zl8, zl9, zl10, zl16, zl32, zl40, zl100, zl160, zIc1, zI_lt, zI_le, nI_eq, nI_add, z_sub, nI_clamp, zI_of, uu_eq, uu_ne, Nat.reduceLT, Nat.reduceLeDiff, Nat.reduceEqDiff, Nat.reduceAdd, Nat.reduceSub, Nat.reduceMul, Nat.not_lt_zero, Nat.lt_irrefl, Nat.le_refl, Bool.false_eq_true, false_and, and_false, true_and, and_true, if_pos, if_neg, if_true, if_false, not_true_eq_false, not_false_eq_true, c1, k99n (show 1 ≤ d by omega) (dec_none hx), k99n (show 1 ≤ d by omega) (dec_none hy)]
      exact this
    | some b =>
      obtain ⟨rfl, hb⟩ := dec_some (by decide) hy
      simp (disch := first | assumption | exact ct_i | exact ct_r | exact ct_n | exact ct_h | omega | exact z_in (by omega) (by omega) | exact b01 | exact Or.inl rfl | exact Or.inr rfl) only [b113, e113_0, e113_1, e113_2, e113_5, e113_5n, e113_7, e113_8, e113_9, e113_12, e113_12n, e113_14, e113_14n, e113_16n, e113_16, e113_19, e113_19n, e113_21n, e113_21, e113_24, e113_26, e113_27, e113_27n, e113_29, e113_32, e113_35, e113_35n, e113_37, e113_40, e113_43, e113_45, e113_46, e113_46n, e113_48, e113_51, e113_51n, e113_53, e113_56, e113_59, e113_61, e113_62, e113_62n, e113_64, e113_65, e113_67, e113_70, e113_73, e113_73n, e113_75, e113_77, e113_79, e113_82, e113_85, e113_87, e113_88, e113_88n, e113_90, e113_93, e113_94, e113_94n, e113_96, e113_99, e113_101, e113_103, e113_106, e113_108, ct_i, ct_r, ct_n, ct_h, opt_v, opt_s, ref_s, ref_n, eq_self_iff_true, true_or, or_true, zl0, zl1, zl2, zl3, zl4, zl5, zl6, zl7, zl8, zl9, zl10, zl16, zl32, zl40, zl100, zl160, zIc1, zI_lt, zI_le, nI_eq, nI_add, z_sub, nI_clamp, zI_of, uu_eq, uu_ne, Nat.reduceLT, Nat.reduceLeDiff, Nat.reduceEqDiff, Nat.reduceAdd, Nat.reduceSub, Nat.reduceMul, Nat.not_lt_zero, Nat.lt_irrefl, Nat.le_refl, Bool.false_eq_true, false_and, and_false, true_and, and_true, if_pos, if_neg, if_true, if_false, not_true_eq_false, not_false_eq_true, c1, k99n (show 1 ≤ d by omega) (dec_none hx), k99 (show 1 ≤ d by omega) hK hb]
      exact this
  | some a =>
    obtain ⟨rfl, ha⟩ := dec_some (by decide) hx
    have hS := cPr hK ha
    have s4 := hS.1
    obtain ⟨p1, p2, p3⟩ := h9 a ha
    obtain ⟨q1, q2, q3⟩ := o7 a ha
    cases hy : dec y 4 with
    | none =>
      simp only [hx, hy] at H
      have := H _ hk
      simp (disch := first | assumption | exact ct_i | exact ct_r | exact ct_n | exact ct_h | omega | exact z_in (by omega) (by omega) | exact b01 | exact Or.inl rfl | exact Or.inr rfl) only [b113, e113_0, e113_1, e113_2, e113_5, e113_5n, e113_7, e113_8, e113_9, e113_12, e113_12n, e113_14, e113_14n, e113_16n, e113_16, e113_19, e113_19n, e113_21n, e113_21, e113_24, e113_26, e113_27, e113_27n, e113_29, e113_32, e113_35, e113_35n, e113_37, e113_40, e113_43, e113_45, e113_46, e113_46n, e113_48, e113_51, e113_51n, e113_53, e113_56, e113_59, e113_61, e113_62, e113_62n, e113_64, e113_65, e113_67, e113_70, e113_73, e113_73n, e113_75, e113_77, e113_79, e113_82, e113_85, e113_87, e113_88, e113_88n, e113_90, e113_93, e113_94, e113_94n, e113_96, e113_99, e113_101, e113_103, e113_106, e113_108, ct_i, ct_r, ct_n, ct_h, opt_v, opt_s, ref_s, ref_n, eq_self_iff_true, true_or, or_true, zl0, zl1, zl2, zl3, zl4, zl5, zl6, zl7, zl8, zl9, zl10, zl16, zl32, zl40, zl100, zl160, zIc1, zI_lt, zI_le, nI_eq, nI_add, z_sub, nI_clamp, zI_of, uu_eq, uu_ne, Nat.reduceLT, Nat.reduceLeDiff, Nat.reduceEqDiff, Nat.reduceAdd, Nat.reduceSub, Nat.reduceMul, Nat.not_lt_zero, Nat.lt_irrefl, Nat.le_refl, Bool.false_eq_true, false_and, and_false, true_and, and_true, if_pos, if_neg, if_true, if_false, not_true_eq_false, not_false_eq_true, c1, k99 (show 1 ≤ d by omega) hK ha, k99n (show 1 ≤ d by omega) (dec_none hy)]
      exact this
    | some b =>
      obtain ⟨rfl, hb⟩ := dec_some (by decide) hy
      have hS' := cPr hK hb
      have s4' := hS'.1
      obtain ⟨p1', p2', p3'⟩ := h9 b hb
      obtain ⟨q1', q2', q3'⟩ := o7 b hb
      simp only [hx, hy] at H
      by_cases ha0 : so a = 0
      · rw [if_pos (Or.inl ha0)] at H
        have := H _ hk
        simp (disch := first | assumption | exact ct_i | exact ct_r | exact ct_n | exact ct_h | omega | exact z_in (by omega) (by omega) | exact b01 | exact Or.inl rfl | exact Or.inr rfl) only [b113, e113_0, e113_1, e113_2, e113_5, e113_5n, e113_7, e113_8, e113_9, e113_12, e113_12n, e113_14, e113_14n, e113_16n, e113_16, e113_19, e113_19n, e113_21n, e113_21, e113_24, e113_26, e113_27, e113_27n, e113_29, e113_32, e113_35, e113_35n, e113_37, e113_40, e113_43, e113_45, e113_46, e113_46n, e113_48, e113_51, e113_51n, e113_53, e113_56, e113_59, e113_61, e113_62, e113_62n, e113_64, e113_65, e113_67, e113_70, e113_73, e113_73n, e113_75, e113_77, e113_79, e113_82, e113_85, e113_87, e113_88, e113_88n, e113_90, e113_93, e113_94, e113_94n, e113_96, e113_99, e113_101, e113_103, e113_106, e113_108, ct_i, ct_r, ct_n, ct_h, opt_v, opt_s, ref_s, ref_n, eq_self_iff_true, true_or, or_true, zl0, zl1, zl2, zl3, zl4, zl5, zl6, zl7, zl8, zl9, zl10, zl16, zl32, zl40, zl100, zl160, zIc1, zI_lt, zI_le, nI_eq, nI_add, z_sub, nI_clamp, zI_of, uu_eq, uu_ne, Nat.reduceLT, Nat.reduceLeDiff, Nat.reduceEqDiff, Nat.reduceAdd, Nat.reduceSub, Nat.reduceMul, Nat.not_lt_zero, Nat.lt_irrefl, Nat.le_refl, Bool.false_eq_true, false_and, and_false, true_and, and_true, if_pos, if_neg, if_true, if_false, not_true_eq_false, not_false_eq_true, c1, s4, s4', k99 (show 1 ≤ d by omega) hK ha, k99 (show 1 ≤ d by omega) hK hb, k62 (show 1 ≤ d by omega) hS p1 q1, ha0]
        exact this
      · by_cases hb0 : so b = 0
        · rw [if_pos (Or.inr hb0)] at H
          have := H _ hk
          simp (disch := first | assumption | exact ct_i | exact ct_r | exact ct_n | exact ct_h | omega | exact z_in (by omega) (by omega) | exact b01 | exact Or.inl rfl | exact Or.inr rfl) only [b113, e113_0, e113_1, e113_2, e113_5, e113_5n, e113_7, e113_8, e113_9, e113_12, e113_12n, e113_14, e113_14n, e113_16n, e113_16, e113_19, e113_19n, e113_21n, e113_21, e113_24, e113_26, e113_27, e113_27n, e113_29, e113_32, e113_35, e113_35n, e113_37, e113_40, e113_43, e113_45, e113_46, e113_46n, e113_48, e113_51, e113_51n, e113_53, e113_56, e113_59, e113_61, e113_62, e113_62n, e113_64, e113_65, e113_67, e113_70, e113_73, e113_73n, e113_75, e113_77, e113_79, e113_82, e113_85, e113_87, e113_88, e113_88n, e113_90, e113_93, e113_94, e113_94n, e113_96, e113_99, e113_101, e113_103, e113_106, e113_108, ct_i, ct_r, ct_n, ct_h, opt_v, opt_s, ref_s, ref_n, eq_self_iff_true, true_or, or_true, zl0, zl1, zl2, zl3, zl4, zl5, zl6, zl7, zl8, zl9, zl10, zl16, zl32, zl40, zl100, zl160, zIc1, zI_lt, zI_le, nI_eq, nI_add, z_sub, nI_clamp, zI_of, uu_eq, uu_ne, Nat.reduceLT, Nat.reduceLeDiff, Nat.reduceEqDiff, Nat.reduceAdd, Nat.reduceSub, Nat.reduceMul, Nat.not_lt_zero, Nat.lt_irrefl, Nat.le_refl, Bool.false_eq_true, false_and, and_false, true_and, and_true, if_pos, if_neg, if_true, if_false, not_true_eq_false, not_false_eq_true, c1, s4, s4', k99 (show 1 ≤ d by omega) hK ha, k99 (show 1 ≤ d by omega) hK hb, k62 (show 1 ≤ d by omega) hS p1 q1, ha0, k62 (show 1 ≤ d by omega) hS' p1' q1', hb0]
          exact this
        · rw [if_neg (by omega)] at H
          by_cases hab : so a = so b
          · rw [if_pos hab] at H
            have hde : dI (so a) = dI (so b) := by rw [hab]
            cases hA : hsB (sz a) i m with
            | none =>
              simp only [hA] at H
              have := H _ hk
              simp (disch := first | assumption | exact ct_i | exact ct_r | exact ct_n | exact ct_h | omega | exact z_in (by omega) (by omega) | exact b01 | exact Or.inl rfl | exact Or.inr rfl) only [b113, e113_0, e113_1, e113_2, e113_5, e113_5n, e113_7, e113_8, e113_9, e113_12, e113_12n, e113_14, e113_14n, e113_16n, e113_16, e113_19, e113_19n, e113_21n, e113_21, e113_24, e113_26, e113_27, e113_27n, e113_29, e113_32, e113_35, e113_35n, e113_37, e113_40, e113_43, e113_45, e113_46, e113_46n, e113_48, e113_51, e113_51n, e113_53, e113_56, e113_59, e113_61, e113_62, e113_62n, e113_64, e113_65, e113_67, e113_70, e113_73, e113_73n, e113_75, e113_77, e113_79, e113_82, e113_85, e113_87, e113_88, e113_88n, e113_90, e113_93, e113_94, e113_94n, e113_96, e113_99, e113_101, e113_103, e113_106, e113_108, ct_i, ct_r, ct_n, ct_h, opt_v, opt_s, ref_s, ref_n, eq_self_iff_true, true_or, or_true, zl0, zl1, zl2, zl3, zl4, zl5, zl6, zl7, zl8, zl9, zl10, zl16, zl32, zl40, zl100, zl160, zIc1, zI_lt, zI_le, nI_eq, nI_add, z_sub, nI_clamp, zI_of, uu_eq, uu_ne, Nat.reduceLT, Nat.reduceLeDiff, Nat.reduceEqDiff, Nat.reduceAdd, Nat.reduceSub, Nat.reduceMul, Nat.not_lt_zero, Nat.lt_irrefl, Nat.le_refl, Bool.false_eq_true, false_and, and_false, true_and, and_true, if_pos, if_neg, if_true, if_false, not_true_eq_false, not_false_eq_true, c1, s4, s4', k99 (show 1 ≤ d by omega) hK ha, k99 (show 1 ≤ d by omega) hK hb, k62 (show 1 ≤ d by omega) hS p1 q1, ha0, k62 (show 1 ≤ d by omega) hS' p1' q1', hb0, p1, p1', hde, k67n (show 1 ≤ d by omega) hS p2 q2 (hsB_none q2 hA)]
              exact this
            | some p =>
              obtain ⟨e1, e2, e3⟩ := hsB_some hA
              cases hB2 : hsB (sz b) j m with
              | none =>
                simp only [hA, hB2] at H
                have := H _ hk
                have hno := hsB_none q2' hB2
                subst e1; subst e2
                simp (disch := first | assumption | exact ct_i | exact ct_r | exact ct_n | exact ct_h | omega | exact z_in (by omega) (by omega) | exact b01 | exact Or.inl rfl | exact Or.inr rfl) only [b113, e113_0, e113_1, e113_2, e113_5, e113_5n, e113_7, e113_8, e113_9, e113_12, e113_12n, e113_14, e113_14n, e113_16n, e113_16, e113_19, e113_19n, e113_21n, e113_21, e113_24, e113_26, e113_27, e113_27n, e113_29, e113_32, e113_35, e113_35n, e113_37, e113_40, e113_43, e113_45, e113_46, e113_46n, e113_48, e113_51, e113_51n, e113_53, e113_56, e113_59, e113_61, e113_62, e113_62n, e113_64, e113_65, e113_67, e113_70, e113_73, e113_73n, e113_75, e113_77, e113_79, e113_82, e113_85, e113_87, e113_88, e113_88n, e113_90, e113_93, e113_94, e113_94n, e113_96, e113_99, e113_101, e113_103, e113_106, e113_108, ct_i, ct_r, ct_n, ct_h, opt_v, opt_s, ref_s, ref_n, eq_self_iff_true, true_or, or_true, zl0, zl1, zl2, zl3, zl4, zl5, zl6, zl7, zl8, zl9, zl10, zl16, zl32, zl40, zl100, zl160, zIc1, zI_lt, zI_le, nI_eq, nI_add, z_sub, nI_clamp, zI_of, uu_eq, uu_ne, Nat.reduceLT, Nat.reduceLeDiff, Nat.reduceEqDiff, Nat.reduceAdd, Nat.reduceSub, Nat.reduceMul, Nat.not_lt_zero, Nat.lt_irrefl, Nat.le_refl, Bool.false_eq_true, false_and, and_false, true_and, and_true, if_pos, if_neg, if_true, if_false, not_true_eq_false, not_false_eq_true, c1, s4, s4', k99 (show 1 ≤ d by omega) hK ha, k99 (show 1 ≤ d by omega) hK hb, k62 (show 1 ≤ d by omega) hS p1 q1, ha0, k62 (show 1 ≤ d by omega) hS' p1' q1', hb0, p1, p1', hde, k67 (show 1 ≤ d by omega) hS p2 q2 e3, k67n (show 1 ≤ d by omega) hS' p2' q2' hno]
                exact this
              | some q =>
                obtain ⟨f1, f2, f3⟩ := hsB_some hB2
                simp only [hA, hB2] at H
                subst e1; subst e2; subst f1
                have hpq : p.2 = q.2 := (nI_eq (by omega) (by omega)).mp f2
                have key := RK_sh hk hb (a := so b) (b := sz b) (w := va_cpy (it a) (it b) p.1 q.1 p.2) (I' := fun o => if o = 16 + 2 * b then va_cpy (I (16 + 2 * a)) (I (16 + 2 * b)) p.1 q.1 p.2 else I o) (fun x k hx => by
                  show (if x = 16 + 2 * b then va_cpy (I (16 + 2 * a)) (I (16 + 2 * b)) p.1 q.1 p.2 else I x) k = I x k
                  rw [if_neg (by omega)]) (by
                  show (if 15 + 2 * b = 16 + 2 * b then va_cpy (I (16 + 2 * a)) (I (16 + 2 * b)) p.1 q.1 p.2 else I (15 + 2 * b)) 0 = _
                  rw [if_neg (by omega)]; exact p1') (by
                  show (if 15 + 2 * b = 16 + 2 * b then va_cpy (I (16 + 2 * a)) (I (16 + 2 * b)) p.1 q.1 p.2 else I (15 + 2 * b)) 1 = _
                  rw [if_neg (by omega)]; exact p2') (fun k hk => by
                  show (if 16 + 2 * b = 16 + 2 * b then va_cpy (I (16 + 2 * a)) (I (16 + 2 * b)) p.1 q.1 p.2 else I (16 + 2 * b)) k = _
                  rw [if_pos rfl]
                  unfold va_cpy
                  by_cases h : q.1 ≤ k ∧ k < q.1 + p.2
                  · rw [if_pos h, if_pos h]; exact p3 _ (by omega)
                  · rw [if_neg h, if_neg h]; exact p3' k hk) q1' q2' q3'
                have g1 : u1 so b (so b) = so := by funext x; simp only [u1]; split <;> simp_all
                have g2 : u1 sz b (sz b) = sz := by funext x; simp only [u1]; split <;> simp_all
                rw [g1, g2] at key
                have := H _ key
                have hcp : (sh (16 + 2 * a)).1 = 100 ∧ (sh (16 + 2 * b)).1 = 100 ∧ ¬ nI p.1 < 0 ∧ ¬ nI q.1 < 0 ∧ ¬ nI p.2 < 0 ∧ (nI p.1).toNatClampNeg + (nI p.2).toNatClampNeg ≤ (sh (16 + 2 * a)).2 ∧ (nI q.1).toNatClampNeg + (nI p.2).toNatClampNeg ≤ (sh (16 + 2 * b)).2 := by
                  rw [nI_clamp (by omega), nI_clamp (by omega), nI_clamp (by omega), hS.2.2.1, hS'.2.2.1]
                  exact ⟨hS.2.1, hS'.2.1, nI_pos (by omega), nI_pos (by omega), nI_pos (by omega), by omega, by omega⟩
                have hq2 : q.1 + p.2 ≤ sz b := by omega
                simp (disch := first | assumption | exact ct_i | exact ct_r | exact ct_n | exact ct_h | omega | exact z_in (by omega) (by omega) | exact b01 | exact Or.inl rfl | exact Or.inr rfl) only [b113, e113_0, e113_1, e113_2, e113_5, e113_5n, e113_7, e113_8, e113_9, e113_12, e113_12n, e113_14, e113_14n, e113_16n, e113_16, e113_19, e113_19n, e113_21n, e113_21, e113_24, e113_26, e113_27, e113_27n, e113_29, e113_32, e113_35, e113_35n, e113_37, e113_40, e113_43, e113_45, e113_46, e113_46n, e113_48, e113_51, e113_51n, e113_53, e113_56, e113_59, e113_61, e113_62, e113_62n, e113_64, e113_65, e113_67, e113_70, e113_73, e113_73n, e113_75, e113_77, e113_79, e113_82, e113_85, e113_87, e113_88, e113_88n, e113_90, e113_93, e113_94, e113_94n, e113_96, e113_99, e113_101, e113_103, e113_106, e113_108, ct_i, ct_r, ct_n, ct_h, opt_v, opt_s, ref_s, ref_n, eq_self_iff_true, true_or, or_true, zl0, zl1, zl2, zl3, zl4, zl5, zl6, zl7, zl8, zl9, zl10, zl16, zl32, zl40, zl100, zl160, zIc1, zI_lt, zI_le, nI_eq, nI_add, z_sub, nI_clamp, zI_of, uu_eq, uu_ne, Nat.reduceLT, Nat.reduceLeDiff, Nat.reduceEqDiff, Nat.reduceAdd, Nat.reduceSub, Nat.reduceMul, Nat.not_lt_zero, Nat.lt_irrefl, Nat.le_refl, Bool.false_eq_true, false_and, and_false, true_and, and_true, if_pos, if_neg, if_true, if_false, not_true_eq_false, not_false_eq_true, c1, s4, s4', hS.2.2.2.1, hS'.2.2.2.1, k99 (show 1 ≤ d by omega) hK ha, k99 (show 1 ≤ d by omega) hK hb, k62 (show 1 ≤ d by omega) hS p1 q1, ha0, k62 (show 1 ≤ d by omega) hS' p1' q1', hb0, p1, p1', hde, k67 (show 1 ≤ d by omega) hS p2 q2 e3, k67 (show 1 ≤ d by omega) hS' p2' q2' hq2]
                exact this
          · rw [if_neg hab] at H
            have := H _ hk
            have hde : ¬ dI (so a) = dI (so b) := fun h => hab ((dI_eq (by omega) (by omega)).mp h)
            simp (disch := first | assumption | exact ct_i | exact ct_r | exact ct_n | exact ct_h | omega | exact z_in (by omega) (by omega) | exact b01 | exact Or.inl rfl | exact Or.inr rfl) only [b113, e113_0, e113_1, e113_2, e113_5, e113_5n, e113_7, e113_8, e113_9, e113_12, e113_12n, e113_14, e113_14n, e113_16n, e113_16, e113_19, e113_19n, e113_21n, e113_21, e113_24, e113_26, e113_27, e113_27n, e113_29, e113_32, e113_35, e113_35n, e113_37, e113_40, e113_43, e113_45, e113_46, e113_46n, e113_48, e113_51, e113_51n, e113_53, e113_56, e113_59, e113_61, e113_62, e113_62n, e113_64, e113_65, e113_67, e113_70, e113_73, e113_73n, e113_75, e113_77, e113_79, e113_82, e113_85, e113_87, e113_88, e113_88n, e113_90, e113_93, e113_94, e113_94n, e113_96, e113_99, e113_101, e113_103, e113_106, e113_108, ct_i, ct_r, ct_n, ct_h, opt_v, opt_s, ref_s, ref_n, eq_self_iff_true, true_or, or_true, zl0, zl1, zl2, zl3, zl4, zl5, zl6, zl7, zl8, zl9, zl10, zl16, zl32, zl40, zl100, zl160, zIc1, zI_lt, zI_le, nI_eq, nI_add, z_sub, nI_clamp, zI_of, uu_eq, uu_ne, Nat.reduceLT, Nat.reduceLeDiff, Nat.reduceEqDiff, Nat.reduceAdd, Nat.reduceSub, Nat.reduceMul, Nat.not_lt_zero, Nat.lt_irrefl, Nat.le_refl, Bool.false_eq_true, false_and, and_false, true_and, and_true, if_pos, if_neg, if_true, if_false, not_true_eq_false, not_false_eq_true, c1, s4, s4', k99 (show 1 ≤ d by omega) hK ha, k99 (show 1 ≤ d by omega) hK hb, k62 (show 1 ≤ d by omega) hS p1 q1, ha0, k62 (show 1 ≤ d by omega) hS' p1' q1', hb0, p1, p1', hde]
            exact this
end
