/-! the class's search: all that can be come to -/
def fLg (L : Nat → Nat → Int64) (a len : Nat) (v : Int64) : Nat → Nat → Int64 := fun x k => if x = a ∧ k < len then v else L x k
theorem fLg_0 {L : Nat → Nat → Int64} {a : Nat} {v : Int64} : fLg L a 0 v = L := by
  funext x k; simp [fLg]
theorem fLg_s {L : Nat → Nat → Int64} {a i : Nat} {v : Int64} : u2 (fLg L a i v) a i v = fLg L a (i + 1) v := by
  funext x k
  simp only [u2, fLg]
  by_cases h : x = a ∧ k = i
  · rw [if_pos h, if_pos (by omega)]
  · rw [if_neg h]
    by_cases h2 : x = a ∧ k < i
    · rw [if_pos h2, if_pos (by omega)]
    · rw [if_neg h2, if_neg (by omega)]
theorem k216l {d : Nat} {a len : Nat} {v : Int64} {n t : Nat} {sh : Nat → Nat × Nat} {I : Nat → Nat → Int32} {L : Nat → Nat → Int64} {R : Nat → Nat → Option Nat} {Q : Option Value → aH → Prop} (h1 : (sh a).1 = 101) (h2 : (sh a).2 = len) (hl : len < 2 ^ 31) : ∀ k i, i + k = len →
    (aE (a_cl_ d) 216 (6, [.ref a, .long v, a_hole, .int (nI i), .int (nI len)], [], (n, t, sh, I, fLg L a i v, R)) Q ↔ Q none (n, t, sh, I, fLg L a len v, R)) := by
  intro k
  induction k with
  | zero =>
    intro i hi
    obtain rfl : i = len := by omega
    simp (disch := first | assumption | exact ct_i | exact ct_r | exact ct_n | exact ct_h | omega | exact z_in (by omega) (by omega) | exact b01 | exact Or.inl rfl | exact Or.inr rfl) only [e216_0, e216_1, e216_2, e216_2n, e216_3, e216_4, e216_6, e216_7, e216_9, e216_12, e216_12n, e216_13, e216_14, e216_15, e216_16, e216_19, e216_22, ct_i, ct_r, ct_n, ct_h, opt_v, opt_s, ref_s, ref_n, eq_self_iff_true, true_or, or_true, zl0, zl1, zl2, zl3, zl4, zl5, zl6, zl7, zl8, zl9, zl10, zl16, zl32, zl40, zl100, zl160, zIc1, zI_lt, zI_le, nI_eq, nI_add, z_sub, nI_clamp, zI_of, uu_eq, uu_ne, Nat.reduceLT, Nat.reduceLeDiff, Nat.reduceEqDiff, Nat.reduceAdd, Nat.reduceSub, Nat.reduceMul, Nat.not_lt_zero, Nat.lt_irrefl, Nat.le_refl, Bool.false_eq_true, false_and, and_false, true_and, and_true, if_pos, if_neg, if_true, if_false, not_true_eq_false, not_false_eq_true]
  | succ k ih =>
    intro i hi
    rw [e216_6]
    simp (disch := first | assumption | exact ct_i | exact ct_r | exact ct_n | exact ct_h | omega | exact z_in (by omega) (by omega) | exact b01 | exact Or.inl rfl | exact Or.inr rfl) only [e216_0, e216_1, e216_2, e216_2n, e216_3, e216_4, e216_7, e216_9, e216_12, e216_12n, e216_13, e216_14, e216_15, e216_16, e216_19, e216_22, ct_i, ct_r, ct_n, ct_h, opt_v, opt_s, ref_s, ref_n, eq_self_iff_true, true_or, or_true, zl0, zl1, zl2, zl3, zl4, zl5, zl6, zl7, zl8, zl9, zl10, zl16, zl32, zl40, zl100, zl160, zIc1, zI_lt, zI_le, nI_eq, nI_add, z_sub, nI_clamp, zI_of, uu_eq, uu_ne, Nat.reduceLT, Nat.reduceLeDiff, Nat.reduceEqDiff, Nat.reduceAdd, Nat.reduceSub, Nat.reduceMul, Nat.not_lt_zero, Nat.lt_irrefl, Nat.le_refl, Bool.false_eq_true, false_and, and_false, true_and, and_true, if_pos, if_neg, if_true, if_false, not_true_eq_false, not_false_eq_true, h1, h2, fLg_s]
    exact ih (i + 1) (by omega)
theorem k216 {d : Nat} (hd : 1 ≤ d) {a len : Nat} {v : Int64} {n t : Nat} {sh : Nat → Nat × Nat} {I : Nat → Nat → Int32} {L : Nat → Nat → Int64} {R : Nat → Nat → Option Nat} {Q : Option Value → aH → Prop} (h1 : (sh a).1 = 101) (h2 : (sh a).2 = len) (hl : len < 2 ^ 31) :
    aC d 216 [.ref a, .long v] (n, t, sh, I, L, R) Q ↔ Q none (n, t, sh, I, fLg L a len v, R) := by
  obtain ⟨d, rfl⟩ : ∃ e, d = e + 1 := ⟨d - 1, by omega⟩
  have := k216l (d := d) (v := v) (n := n) (t := t) (I := I) (L := L) (R := R) (Q := Q) h1 h2 hl len 0 (by omega)
  rw [fLg_0] at this
  rw [← this]
  simp (disch := first | assumption | exact ct_i | exact ct_r | exact ct_n | exact ct_h | omega | exact z_in (by omega) (by omega) | exact b01 | exact Or.inl rfl | exact Or.inr rfl) only [b216, e216_0, e216_1, e216_2, e216_2n, e216_3, e216_4, e216_7, e216_9, e216_12, e216_12n, e216_13, e216_14, e216_15, e216_16, e216_19, e216_22, ct_i, ct_r, ct_n, ct_h, opt_v, opt_s, ref_s, ref_n, eq_self_iff_true, true_or, or_true, zl0, zl1, zl2, zl3, zl4, zl5, zl6, zl7, zl8, zl9, zl10, zl16, zl32, zl40, zl100, zl160, zIc1, zI_lt, zI_le, nI_eq, nI_add, z_sub, nI_clamp, zI_of, uu_eq, uu_ne, Nat.reduceLT, Nat.reduceLeDiff, Nat.reduceEqDiff, Nat.reduceAdd, Nat.reduceSub, Nat.reduceMul, Nat.not_lt_zero, Nat.lt_irrefl, Nat.le_refl, Bool.false_eq_true, false_and, and_false, true_and, and_true, if_pos, if_neg, if_true, if_false, not_true_eq_false, not_false_eq_true, h1, h2]
theorem mkd_0 {L : Nat → Nat → Int64} : mkd (fun _ => false) (fLg L 10 96 0) := by
  intro s hs
  have : fLg L 10 96 0 10 (s / 64) = 0 := if_pos ⟨rfl, by omega⟩
  rw [this, bitL_0 (by omega)]
theorem qB_of {g : Nat → Nat → Option Nat} {nd s0 : Nat} {q : List (Nat × Nat)} {k d : Nat} (h : qI g nd s0 q k d) : qB q := by
  have hl := q_len h
  refine ⟨hl, fun j hj => h.1.2.2.2 _ (q_mem.mpr ⟨j, hj, rfl⟩), fun j hj => ?_⟩
  by_cases h0 : j = 0
  · subst h0; rw [h.2.2.2.2]; decide
  · have := qI_par h j (by omega) hj; omega
def frS (I I' : Nat → Nat → Int32) : Prop := ∀ x k, ¬ (x = 8 ∧ k = 0 ∨ x = 9) → I' x k = I x k
def frSL (L L' : Nat → Nat → Int64) : Prop := ∀ x k, ¬ x = 10 → L' x k = L x k
theorem hD_frS {nd : Nat} {D : Nat → Nat → Nat} {I I' : Nat → Nat → Int32} (h : frS I I') (hI : hD nd D I) : hD nd D I' :=
  ⟨(h 1 1 (by omega)).trans hI.1, fun i hi k hk => (h _ k (by omega)).trans (hI.2 i hi k hk)⟩
theorem mC_frS {nd : Nat} {D : Nat → Nat → Nat} {f : Nat → List Nat} {L L' : Nat → Nat → Int64} (h : frSL L L') (hM : mC nd D f L) : mC nd D f L' := by
  intro i hi st hst tn htn ks hks
  rw [h _ _ (by omega), h _ _ (by omega)]
  exact hM i hi st hst tn htn ks hks
theorem qA_app {q : List (Nat × Nat)} {I : Nat → Nat → Int32} {s a : Nat} (hq : qA q I) : qA (q ++ [(s, a)]) (u2 (u2 I 9 q.length (nI (s * 8192 + a))) 8 0 (nI (q.length + 1))) := by
  refine ⟨by rw [uu_eq]; simp, fun k hk => ?_⟩
  rw [uu_ne _ _ _ _ (by omega)]
  simp only [List.length_append, List.length_cons, List.length_nil] at hk
  by_cases h : k = q.length
  · subst h; rw [uu_eq, qS_last, qP_last]
  · rw [uu_ne _ _ _ _ (by omega), qS_app (by omega), qP_app (by omega)]
    exact hq.2 k (by omega)
theorem mkd_app {q : List (Nat × Nat)} {L : Nat → Nat → Int64} {s a : Nat} (hm : mkd (fun x => decide (x ∈ q.map Prod.fst)) L) (hs : s < 6144) : mkd (fun x => decide (x ∈ (q ++ [(s, a)]).map Prod.fst)) (u2 L 10 (s / 64) (L 10 (s / 64) ||| 1 <<< ((nI (s % 64)).toInt64 &&& 63))) := by
  intro x hx
  rw [mkd_set hm hs x hx]
  rw [Bool.eq_iff_iff]
  simp
section
variable {d nd : Nat} {D : Nat → Nat → Nat} {f : Nat → List Nat} {n t : Nat} {sh : Nat → Nat × Nat} {I0 : Nat → Nat → Int32} {L0 : Nat → Nat → Int64} {R : Nat → Nat → Option Nat} {Q : Option Value → aH → Prop}
theorem bh_g (hB : dB nd D) : ∀ s d y, bh nd D f s d = some y → y < 6144 := fun _ _ _ h => bh_lt hB h
theorem k45i (hd : 4 ≤ d) (hK : cK nd sh R) (hI0 : hD nd D I0) (hB : dB nd D) (hM0 : mC nd D f L0) {s0 k : Nat} {q : List (Nat × Nat)} {l2 : Value} (hk : k < q.length) (hq0 : qI (bh nd D f) nd s0 q k 0)
    (H : ∀ I' L' l6, frS I0 I' → frSL L0 L' → qA (exD (bh nd D f) k (qS q k) nd q) I' → mkd (fun x => decide (x ∈ (exD (bh nd D f) k (qS q k) nd q).map Prod.fst)) L' → aE (a_cl_ d) 45 (86, [.ref 8, .ref 1, l2, .int (nI k), .int (nI (qS q k)), .int (nI nd), l6], [], (n, t, sh, I', L', R)) Q) :
    ∀ m i I L l6, i + m = nd → frS I0 I → frSL L0 L → qA (exD (bh nd D f) k (qS q k) i q) I → mkd (fun x => decide (x ∈ (exD (bh nd D f) k (qS q k) i q).map Prod.fst)) L →
    aE (a_cl_ d) 45 (48, [.ref 8, .ref 1, l2, .int (nI k), .int (nI (qS q k)), .int (nI i), l6], [], (n, t, sh, I, L, R)) Q := by
  obtain ⟨h1, h2, h2', h3, h3', h4, h5⟩ := cPs hK
  obtain ⟨c1, c2, c2', c3, c3', c4, c5, c6⟩ := cPh hK
  intro m
  induction m with
  | zero =>
    intro i I L l6 hi hI hL hA hm
    obtain rfl : i = nd := by omega
    have e := (hD_frS hI hI0).1
    rw [e45_48]
    simp (disch := first | assumption | exact ct_i | exact ct_r | exact ct_n | exact ct_h | omega | exact z_in (by omega) (by omega) | exact b01 | exact Or.inl rfl | exact Or.inr rfl) only [e45_0, e45_1, e45_4, e45_5, e45_8, e45_9, e45_10, e45_13, e45_14, e45_15, e45_16, e45_19, e45_20, e45_21, e45_22, e45_23, e45_26, e45_29, e45_30, e45_31, e45_34, e45_35, e45_38, e45_39, e45_40, e45_43, e45_45, e45_46, e45_50, e45_50n, e45_51, e45_54, e45_57, e45_57n, e45_58, e45_60, e45_62, e45_65, e45_67, e45_69, e45_70, e45_73, e45_74, e45_76, e45_77, e45_80, e45_83, e45_89, e45_92, ct_i, ct_r, ct_n, ct_h, opt_v, opt_s, ref_s, ref_n, eq_self_iff_true, true_or, or_true, zl0, zl1, zl2, zl3, zl4, zl5, zl6, zl7, zl8, zl9, zl10, zl16, zl32, zl40, zl100, zl160, zIc1, zI_lt, zI_le, nI_eq, nI_add, z_sub, nI_clamp, zI_of, uu_eq, uu_ne, Nat.reduceLT, Nat.reduceLeDiff, Nat.reduceEqDiff, Nat.reduceAdd, Nat.reduceSub, Nat.reduceMul, Nat.not_lt_zero, Nat.lt_irrefl, Nat.le_refl, Bool.false_eq_true, false_and, and_false, true_and, and_true, if_pos, if_neg, if_true, if_false, not_true_eq_false, not_false_eq_true, c1, e]
    exact H I L l6 hI hL hA hm
  | succ m ih =>
    intro i I L l6 hi hI hL hA hm
    have hI1 := hD_frS hI hI0
    have hM1 := mC_frS hL hM0
    have hq1 := exD_I (bh_g hB) hq0 hk i (by omega)
    have hq2 := exD_I (bh_g hB) hq0 hk (i + 1) (by omega)
    have hs := (qB_of hq0).2.1 k hk
    have hl := q_len hq1
    have e := hI1.1
    rw [e45_48]
    cases hb : bh nd D f (qS q k) i with
    | none =>
      simp (disch := first | assumption | exact ct_i | exact ct_r | exact ct_n | exact ct_h | omega | exact z_in (by omega) (by omega) | exact b01 | exact Or.inl rfl | exact Or.inr rfl) only [e45_0, e45_1, e45_4, e45_5, e45_8, e45_9, e45_10, e45_13, e45_14, e45_15, e45_16, e45_19, e45_20, e45_21, e45_22, e45_23, e45_26, e45_29, e45_30, e45_31, e45_34, e45_35, e45_38, e45_39, e45_40, e45_43, e45_45, e45_46, e45_50, e45_50n, e45_51, e45_54, e45_57, e45_57n, e45_58, e45_60, e45_62, e45_65, e45_67, e45_69, e45_70, e45_73, e45_74, e45_76, e45_77, e45_80, e45_83, e45_89, e45_92, ct_i, ct_r, ct_n, ct_h, opt_v, opt_s, ref_s, ref_n, eq_self_iff_true, true_or, or_true, zl0, zl1, zl2, zl3, zl4, zl5, zl6, zl7, zl8, zl9, zl10, zl16, zl32, zl40, zl100, zl160, zIc1, zI_lt, zI_le, nI_eq, nI_add, z_sub, nI_clamp, zI_of, uu_eq, uu_ne, Nat.reduceLT, Nat.reduceLeDiff, Nat.reduceEqDiff, Nat.reduceAdd, Nat.reduceSub, Nat.reduceMul, Nat.not_lt_zero, Nat.lt_irrefl, Nat.le_refl, Bool.false_eq_true, false_and, and_false, true_and, and_true, if_pos, if_neg, if_true, if_false, not_true_eq_false, not_false_eq_true, c1, e, k20 hd hK hI1 hB hM1 hs (show i < nd by omega), hb, oI]
      have he : exD (bh nd D f) k (qS q k) (i + 1) q = exD (bh nd D f) k (qS q k) i q := by simp only [exD, hb]
      exact ih (i + 1) I L _ (by omega) hI hL (by rw [he]; exact hA) (by rw [he]; exact hm)
    | some y =>
      have hy := bh_lt hB hb
      by_cases hmem : y ∈ (exD (bh nd D f) k (qS q k) i q).map Prod.fst
      · have he : exD (bh nd D f) k (qS q k) (i + 1) q = exD (bh nd D f) k (qS q k) i q := by simp only [exD, hb, if_pos hmem]
        simp (disch := first | assumption | exact ct_i | exact ct_r | exact ct_n | exact ct_h | omega | exact z_in (by omega) (by omega) | exact b01 | exact Or.inl rfl | exact Or.inr rfl) only [e45_0, e45_1, e45_4, e45_5, e45_8, e45_9, e45_10, e45_13, e45_14, e45_15, e45_16, e45_19, e45_20, e45_21, e45_22, e45_23, e45_26, e45_29, e45_30, e45_31, e45_34, e45_35, e45_38, e45_39, e45_40, e45_43, e45_45, e45_46, e45_50, e45_50n, e45_51, e45_54, e45_57, e45_57n, e45_58, e45_60, e45_62, e45_65, e45_67, e45_69, e45_70, e45_73, e45_74, e45_76, e45_77, e45_80, e45_83, e45_89, e45_92, ct_i, ct_r, ct_n, ct_h, opt_v, opt_s, ref_s, ref_n, eq_self_iff_true, true_or, or_true, zl0, zl1, zl2, zl3, zl4, zl5, zl6, zl7, zl8, zl9, zl10, zl16, zl32, zl40, zl100, zl160, zIc1, zI_lt, zI_le, nI_eq, nI_add, z_sub, nI_clamp, zI_of, uu_eq, uu_ne, Nat.reduceLT, Nat.reduceLeDiff, Nat.reduceEqDiff, Nat.reduceAdd, Nat.reduceSub, Nat.reduceMul, Nat.not_lt_zero, Nat.lt_irrefl, Nat.le_refl, Bool.false_eq_true, false_and, and_false, true_and, and_true, if_pos, if_neg, if_true, if_false, not_true_eq_false, not_false_eq_true, c1, h1, e, k20 hd hK hI1 hB hM1 hs (show i < nd by omega), hb, oI, oI_ne hy, k46m (show 2 ≤ d by omega) hK hm hy (decide_eq_true hmem) hA.1 hl]
        exact ih (i + 1) I L _ (by omega) hI hL (by rw [he]; exact hA) (by rw [he]; exact hm)
      · have he : exD (bh nd D f) k (qS q k) (i + 1) q = exD (bh nd D f) k (qS q k) i q ++ [(y, k)] := by simp only [exD, hb, if_neg hmem]
        have hl2 := q_len hq2
        have hl0 := q_len hq0
        rw [he] at hl2
        simp only [List.length_append, List.length_cons, List.length_nil] at hl2
        simp (disch := first | assumption | exact ct_i | exact ct_r | exact ct_n | exact ct_h | omega | exact z_in (by omega) (by omega) | exact b01 | exact Or.inl rfl | exact Or.inr rfl) only [e45_0, e45_1, e45_4, e45_5, e45_8, e45_9, e45_10, e45_13, e45_14, e45_15, e45_16, e45_19, e45_20, e45_21, e45_22, e45_23, e45_26, e45_29, e45_30, e45_31, e45_34, e45_35, e45_38, e45_39, e45_40, e45_43, e45_45, e45_46, e45_50, e45_50n, e45_51, e45_54, e45_57, e45_57n, e45_58, e45_60, e45_62, e45_65, e45_67, e45_69, e45_70, e45_73, e45_74, e45_76, e45_77, e45_80, e45_83, e45_89, e45_92, ct_i, ct_r, ct_n, ct_h, opt_v, opt_s, ref_s, ref_n, eq_self_iff_true, true_or, or_true, zl0, zl1, zl2, zl3, zl4, zl5, zl6, zl7, zl8, zl9, zl10, zl16, zl32, zl40, zl100, zl160, zIc1, zI_lt, zI_le, nI_eq, nI_add, z_sub, nI_clamp, zI_of, uu_eq, uu_ne, Nat.reduceLT, Nat.reduceLeDiff, Nat.reduceEqDiff, Nat.reduceAdd, Nat.reduceSub, Nat.reduceMul, Nat.not_lt_zero, Nat.lt_irrefl, Nat.le_refl, Bool.false_eq_true, false_and, and_false, true_and, and_true, if_pos, if_neg, if_true, if_false, not_true_eq_false, not_false_eq_true, c1, h1, e, k20 hd hK hI1 hB hM1 hs (show i < nd by omega), hb, oI, oI_ne hy, k46 (show 2 ≤ d by omega) hK hm hy (show k < 8192 by omega) (by rw [decide_eq_false hmem]; decide) hA.1 (show _ < 6144 by omega)]
        refine ih (i + 1) _ _ _ (by omega) (fun x z hx => ?_) (fun x z hx => ?_) (by rw [he]; exact qA_app hA) (by rw [he]; exact mkd_app hm hy)
        · rw [uu_ne _ _ _ _ (by omega), uu_ne _ _ _ _ (by omega)]; exact hI x z hx
        · rw [uu_ne _ _ _ _ (by omega)]; exact hL x z hx
theorem k45o (hd : 4 ≤ d) (hK : cK nd sh R) (hI0 : hD nd D I0) (hB : dB nd D) (hM0 : mC nd D f L0) {s0 s1 : Nat} :
    ∀ F k q I L l4 l5 l6, F + k = 6144 → k ≤ q.length → qI (bh nd D f) nd s0 q k 0 → frS I0 I → frSL L0 L → qA q I → mkd (fun x => decide (x ∈ q.map Prod.fst)) L →
    (∀ I' L', frS I0 I' → frSL L0 L' → qA (bfsF (bh nd D f) nd F k q) I' → mkd (fun x => decide (x ∈ (bfsF (bh nd D f) nd F k q).map Prod.fst)) L' → Q none (n, t, sh, I', L', R)) →
    aE (a_cl_ d) 45 (21, [.ref 8, .ref 1, .int (nI s1), .int (nI k), l4, l5, l6], [], (n, t, sh, I, L, R)) Q := by
  obtain ⟨h1, h2, h2', h3, h3', h4, h5⟩ := cPs hK
  obtain ⟨c1, c2, c2', c3, c3', c4, c5, c6⟩ := cPh hK
  intro F
  induction F with
  | zero =>
    intro k q I L l4 l5 l6 hF hk hq hI hL hA hm H
    have hl := q_len hq
    rw [e45_21]
    simp (disch := first | assumption | exact ct_i | exact ct_r | exact ct_n | exact ct_h | omega | exact z_in (by omega) (by omega) | exact b01 | exact Or.inl rfl | exact Or.inr rfl) only [e45_0, e45_1, e45_4, e45_5, e45_8, e45_9, e45_10, e45_13, e45_14, e45_15, e45_16, e45_19, e45_20, e45_22, e45_23, e45_26, e45_29, e45_30, e45_31, e45_34, e45_35, e45_38, e45_39, e45_40, e45_43, e45_45, e45_46, e45_50, e45_50n, e45_51, e45_54, e45_57, e45_57n, e45_58, e45_60, e45_62, e45_65, e45_67, e45_69, e45_70, e45_73, e45_74, e45_76, e45_77, e45_80, e45_83, e45_86, e45_89, e45_92, ct_i, ct_r, ct_n, ct_h, opt_v, opt_s, ref_s, ref_n, eq_self_iff_true, true_or, or_true, zl0, zl1, zl2, zl3, zl4, zl5, zl6, zl7, zl8, zl9, zl10, zl16, zl32, zl40, zl100, zl160, zIc1, zI_lt, zI_le, nI_eq, nI_add, z_sub, nI_clamp, zI_of, uu_eq, uu_ne, Nat.reduceLT, Nat.reduceLeDiff, Nat.reduceEqDiff, Nat.reduceAdd, Nat.reduceSub, Nat.reduceMul, Nat.not_lt_zero, Nat.lt_irrefl, Nat.le_refl, Bool.false_eq_true, false_and, and_false, true_and, and_true, if_pos, if_neg, if_true, if_false, not_true_eq_false, not_false_eq_true, h1, hA.1]
    exact H I L hI hL hA hm
  | succ F ih =>
    intro k q I L l4 l5 l6 hF hk hq hI hL hA hm H
    have hl := q_len hq
    rw [e45_21]
    by_cases hkl : k < q.length
    · simp (disch := first | assumption | exact ct_i | exact ct_r | exact ct_n | exact ct_h | omega | exact z_in (by omega) (by omega) | exact b01 | exact Or.inl rfl | exact Or.inr rfl) only [e45_0, e45_1, e45_4, e45_5, e45_8, e45_9, e45_10, e45_13, e45_14, e45_15, e45_16, e45_19, e45_20, e45_22, e45_23, e45_26, e45_29, e45_30, e45_31, e45_34, e45_35, e45_38, e45_39, e45_40, e45_43, e45_45, e45_46, e45_50, e45_50n, e45_51, e45_54, e45_57, e45_57n, e45_58, e45_60, e45_62, e45_65, e45_67, e45_69, e45_70, e45_73, e45_74, e45_76, e45_77, e45_80, e45_83, e45_86, e45_89, e45_92, ct_i, ct_r, ct_n, ct_h, opt_v, opt_s, ref_s, ref_n, eq_self_iff_true, true_or, or_true, zl0, zl1, zl2, zl3, zl4, zl5, zl6, zl7, zl8, zl9, zl10, zl16, zl32, zl40, zl100, zl160, zIc1, zI_lt, zI_le, nI_eq, nI_add, z_sub, nI_clamp, zI_of, uu_eq, uu_ne, Nat.reduceLT, Nat.reduceLeDiff, Nat.reduceEqDiff, Nat.reduceAdd, Nat.reduceSub, Nat.reduceMul, Nat.not_lt_zero, Nat.lt_irrefl, Nat.le_refl, Bool.false_eq_true, false_and, and_false, true_and, and_true, if_pos, if_neg, if_true, if_false, not_true_eq_false, not_false_eq_true, h1, h2, h2', h4, hA.1, k49 (show 1 ≤ d by omega) hK hA (qB_of hq) hkl]
      refine k45i hd hK hI0 hB hM0 hkl hq (fun I' L' l6 hI' hL' hA' hm' => ?_) nd 0 I L l6 (by omega) hI hL hA hm
      simp (disch := first | assumption | exact ct_i | exact ct_r | exact ct_n | exact ct_h | omega | exact z_in (by omega) (by omega) | exact b01 | exact Or.inl rfl | exact Or.inr rfl) only [e45_0, e45_1, e45_4, e45_5, e45_8, e45_9, e45_10, e45_13, e45_14, e45_15, e45_16, e45_19, e45_20, e45_22, e45_23, e45_26, e45_29, e45_30, e45_31, e45_34, e45_35, e45_38, e45_39, e45_40, e45_43, e45_45, e45_46, e45_50, e45_50n, e45_51, e45_54, e45_57, e45_57n, e45_58, e45_60, e45_62, e45_65, e45_67, e45_69, e45_70, e45_73, e45_74, e45_76, e45_77, e45_80, e45_83, e45_86, e45_89, e45_92, ct_i, ct_r, ct_n, ct_h, opt_v, opt_s, ref_s, ref_n, eq_self_iff_true, true_or, or_true, zl0, zl1, zl2, zl3, zl4, zl5, zl6, zl7, zl8, zl9, zl10, zl16, zl32, zl40, zl100, zl160, zIc1, zI_lt, zI_le, nI_eq, nI_add, z_sub, nI_clamp, zI_of, uu_eq, uu_ne, Nat.reduceLT, Nat.reduceLeDiff, Nat.reduceEqDiff, Nat.reduceAdd, Nat.reduceSub, Nat.reduceMul, Nat.not_lt_zero, Nat.lt_irrefl, Nat.le_refl, Bool.false_eq_true, false_and, and_false, true_and, and_true, if_pos, if_neg, if_true, if_false, not_true_eq_false, not_false_eq_true]
      refine ih (k + 1) _ I' L' _ _ _ (by omega) (Nat.le_trans hkl exD_len) (qI_next (exD_I (bh_g hB) hq hkl nd (Nat.le_refl _))) hI' hL' hA' hm' (fun I'' L'' a b c e => H I'' L'' a b ?_ ?_)
      · simp only [bfsF, if_pos hkl]; exact c
      · simp only [bfsF, if_pos hkl]; exact e
    · simp (disch := first | assumption | exact ct_i | exact ct_r | exact ct_n | exact ct_h | omega | exact z_in (by omega) (by omega) | exact b01 | exact Or.inl rfl | exact Or.inr rfl) only [e45_0, e45_1, e45_4, e45_5, e45_8, e45_9, e45_10, e45_13, e45_14, e45_15, e45_16, e45_19, e45_20, e45_22, e45_23, e45_26, e45_29, e45_30, e45_31, e45_34, e45_35, e45_38, e45_39, e45_40, e45_43, e45_45, e45_46, e45_50, e45_50n, e45_51, e45_54, e45_57, e45_57n, e45_58, e45_60, e45_62, e45_65, e45_67, e45_69, e45_70, e45_73, e45_74, e45_76, e45_77, e45_80, e45_83, e45_86, e45_89, e45_92, ct_i, ct_r, ct_n, ct_h, opt_v, opt_s, ref_s, ref_n, eq_self_iff_true, true_or, or_true, zl0, zl1, zl2, zl3, zl4, zl5, zl6, zl7, zl8, zl9, zl10, zl16, zl32, zl40, zl100, zl160, zIc1, zI_lt, zI_le, nI_eq, nI_add, z_sub, nI_clamp, zI_of, uu_eq, uu_ne, Nat.reduceLT, Nat.reduceLeDiff, Nat.reduceEqDiff, Nat.reduceAdd, Nat.reduceSub, Nat.reduceMul, Nat.not_lt_zero, Nat.lt_irrefl, Nat.le_refl, Bool.false_eq_true, false_and, and_false, true_and, and_true, if_pos, if_neg, if_true, if_false, not_true_eq_false, not_false_eq_true, h1, hA.1]
      refine H I L hI hL ?_ ?_
      · simp only [bfsF, if_neg hkl]; exact hA
      · simp only [bfsF, if_neg hkl]; exact hm
theorem k45 (hd : 5 ≤ d) (hK : cK nd sh R) (hI0 : hD nd D I0) (hB : dB nd D) (hM0 : mC nd D f L0) {s0 : Nat} (hs : s0 < 6144)
    (H : ∀ I' L', frS I0 I' → frSL L0 L' → qA (bfs (bh nd D f) nd s0) I' → mkd (fun x => decide (x ∈ (bfs (bh nd D f) nd s0).map Prod.fst)) L' → Q none (n, t, sh, I', L', R)) :
    aC d 45 [.ref 8, .ref 1, .int (nI s0)] (n, t, sh, I0, L0, R) Q := by
  obtain ⟨d, rfl⟩ : ∃ e, d = e + 1 := ⟨d - 1, by omega⟩
  obtain ⟨h1, h2, h2', h3, h3', h4, h5⟩ := cPs hK
  have e0 : u2 I0 8 0 (nI 0) 8 0 = nI 0 := uu_eq _ _ _ _
  simp (disch := first | assumption | exact ct_i | exact ct_r | exact ct_n | exact ct_h | omega | exact z_in (by omega) (by omega) | exact b01 | exact Or.inl rfl | exact Or.inr rfl) only [b45, e45_0, e45_1, e45_4, e45_5, e45_8, e45_9, e45_10, e45_13, e45_14, e45_15, e45_16, e45_19, e45_20, e45_22, e45_23, e45_26, e45_29, e45_30, e45_31, e45_34, e45_35, e45_38, e45_39, e45_40, e45_43, e45_45, e45_46, e45_50, e45_50n, e45_51, e45_54, e45_57, e45_57n, e45_58, e45_60, e45_62, e45_65, e45_67, e45_69, e45_70, e45_73, e45_74, e45_76, e45_77, e45_80, e45_83, e45_86, e45_89, e45_92, ct_i, ct_r, ct_n, ct_h, opt_v, opt_s, ref_s, ref_n, eq_self_iff_true, true_or, or_true, zl0, zl1, zl2, zl3, zl4, zl5, zl6, zl7, zl8, zl9, zl10, zl16, zl32, zl40, zl100, zl160, zIc1, zI_lt, zI_le, nI_eq, nI_add, z_sub, nI_clamp, zI_of, uu_eq, uu_ne, Nat.reduceLT, Nat.reduceLeDiff, Nat.reduceEqDiff, Nat.reduceAdd, Nat.reduceSub, Nat.reduceMul, Nat.not_lt_zero, Nat.lt_irrefl, Nat.le_refl, Bool.false_eq_true, false_and, and_false, true_and, and_true, if_pos, if_neg, if_true, if_false, not_true_eq_false, not_false_eq_true, h1, h5, k216 (show 1 ≤ d by omega) h3 h3', k46 (show 2 ≤ d by omega) hK mkd_0 hs (show 0 < 8192 by omega) (by decide) e0 (show 0 < 6144 by omega)]
  refine k45o (s0 := s0) (s1 := s0) (by omega) hK hI0 hB hM0 6144 0 [(s0, 0)] _ _ _ _ _ rfl (by simp) ?_ (fun x z hx => ?_) (fun x z hx => ?_) ?_ ?_ H
  · refine ⟨⟨by simp, by simp [qS], by simp, by simp; exact hs⟩, fun j h1 h2 => ?_, fun j j' h1 h2 h3 => ?_, fun k' d' h1 h2 h3 => by omega, by simp [qP]⟩
    · simp at h2; omega
    · simp at h3; omega
  · rw [uu_ne _ _ _ _ (by omega), uu_ne _ _ _ _ (by omega), uu_ne _ _ _ _ (by omega)]
  · rw [uu_ne _ _ _ _ (by omega)]
    exact if_neg (by omega)
  · exact qA_app (q := []) (s := s0) (a := 0) ⟨uu_eq _ _ _ _, fun k hk => by simp at hk⟩
  · exact mkd_app (q := []) (s := s0) (a := 0) mkd_0 hs
end
