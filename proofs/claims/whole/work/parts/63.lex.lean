/-! the tape's tokens -/
section
variable (tp : Nat → Nat) (s : Nat)
def bk (p : Nat) : Nat := if p < s then tp p else 256
def run (P : Nat → Bool) : Nat → Nat → Nat
  | 0, p => p
  | f + 1, p => if P (tp p) = true then run P f (p + 1) else p
def sk (P : Nat → Bool) (p : Nat) : Nat := run tp P (s - p) p
/-- the word's number: by the letters of all words, one after the other -/
def wlF (fr len : Nat) : Nat → Nat → Nat → Nat → Bool → Option Nat
  | 0, _, _, _, _ => none
  | m + 1, i, w, l, a => if wb 0 i = 32 then (if a = true ∧ l = len then some w else wlF fr len m (i + 1) (w + 1) 0 true)
    else wlF fr len m (i + 1) w (l + 1) (a && decide (l < len) && decide (bk tp s (fr + l) = wb 0 i))
def nuF : Nat → Nat → Nat → Nat
  | 0, _, v => v
  | f + 1, p, v => if isD (tp p) = true then nuF f (p + 1) (10 * v + (tp p - 48)) else v
def nv (p : Nat) : Nat := nuF tp (s - p) p 0
def wdT (p : Nat) : Nat := match wlF tp s p (sk tp s isL p - p) 57 0 0 0 true with | some w => 300 + w | none => 257
def tk (p : Nat) : Nat := if p < s then (if isL (tp p) = true then wdT tp s p else if isD (tp p) = true then (if sk tp s isD p - p ≤ 4 then 258 else 257) else if isS (tp p) = true then tp p else 257) else 256
def te (p : Nat) : Nat := if p < s then (if isL (tp p) = true then sk tp s isL p else if isD (tp p) = true then sk tp s isD p else p + 1) else p
def nx (p : Nat) : Nat := sk tp s isB (te tp s p)
end
section
variable {tp : Nat → Nat} {s : Nat} {P : Nat → Bool}
theorem sk_step {p : Nat} (h : p < s) (hP : P (tp p) = true) : sk tp s P p = sk tp s P (p + 1) := by
  unfold sk
  obtain ⟨m, hm⟩ : ∃ m, s - p = m + 1 := ⟨s - p - 1, by omega⟩
  rw [hm, show s - (p + 1) = m by omega]
  simp only [run, if_pos hP]
theorem sk_stop {p : Nat} (hP : ¬ P (tp p) = true) : sk tp s P p = p := by
  unfold sk
  cases s - p with
  | zero => rfl
  | succ m => simp only [run, if_neg hP]
theorem sk_end {p : Nat} (h : s ≤ p) : sk tp s P p = p := by
  unfold sk
  rw [show s - p = 0 by omega]; rfl
theorem run_ge : ∀ f p, p ≤ run tp P f p
  | 0, p => Nat.le_refl _
  | f + 1, p => by
    simp only [run]; split
    · exact Nat.le_trans (Nat.le_succ p) (run_ge f (p + 1))
    · exact Nat.le_refl _
theorem run_le : ∀ f p, run tp P f p ≤ p + f
  | 0, p => Nat.le_refl _
  | f + 1, p => by
    simp only [run]; split
    · have := run_le f (p + 1); omega
    · omega
theorem sk_ge {p : Nat} : p ≤ sk tp s P p := run_ge _ _
theorem sk_le {p : Nat} (h : p ≤ s) : sk tp s P p ≤ s := by
  have := run_le (tp := tp) (P := P) (s - p) p
  unfold sk; omega
theorem sk_gt {p : Nat} (h : p < s) (hP : P (tp p) = true) : p < sk tp s P p := by
  rw [sk_step h hP]; exact sk_ge
theorem te_gt {p : Nat} (h : p < s) : p < te tp s p := by
  unfold te
  rw [if_pos h]
  split
  · exact sk_gt h (by assumption)
  · split
    · exact sk_gt h (by assumption)
    · omega
theorem te_le {p : Nat} (h : p ≤ s) : te tp s p ≤ s := by
  unfold te
  split
  · split
    · exact sk_le h
    · split
      · exact sk_le h
      · omega
  · exact h
theorem te_ge {p : Nat} : p ≤ te tp s p := by
  by_cases h : p < s
  · exact Nat.le_of_lt (te_gt h)
  · unfold te; rw [if_neg h]; exact Nat.le_refl _
theorem nx_gt {p : Nat} (h : p < s) : p < nx tp s p := Nat.lt_of_lt_of_le (te_gt h) sk_ge
theorem nx_le {p : Nat} (h : p ≤ s) : nx tp s p ≤ s := sk_le (te_le h)
theorem wlF_le {fr len : Nat} : ∀ m i w l a r, wlF tp s fr len m i w l a = some r → r ≤ w + m
  | 0, _, _, _, _, r, h => by simp [wlF] at h
  | m + 1, i, w, l, a, r, h => by
    simp only [wlF] at h
    split at h
    · split at h
      · cases h; omega
      · have := wlF_le m _ _ _ _ _ h; omega
    · have := wlF_le m _ _ _ _ _ h; omega
theorem wdT_c {p : Nat} : wdT tp s p = 257 ∨ 300 ≤ wdT tp s p ∧ wdT tp s p ≤ 357 := by
  unfold wdT
  cases h : wlF tp s p (sk tp s isL p - p) 57 0 0 0 true with
  | none => exact Or.inl rfl
  | some w => have := wlF_le _ _ _ _ _ _ h; right; simp only []; omega
theorem tk_end {p : Nat} (h : ¬ p < s) : tk tp s p = 256 := by unfold tk; rw [if_neg h]
theorem isS_lt {x : Nat} (h : isS x = true) : x < 128 := by
  by_cases h1 : x < 128
  · exact h1
  · rw [isS_hi (by omega)] at h; cases h
theorem tk_lt {p : Nat} : tk tp s p < 400 := by
  unfold tk
  have := wdT_c (tp := tp) (s := s) (p := p)
  repeat' split
  all_goals first | omega | (have := isS_lt (by assumption); omega)
theorem tk_ne {p : Nat} (h : ¬ tk tp s p = 256) : p < s := by
  by_cases h1 : p < s
  · exact h1
  · exact absurd (tk_end h1) h
end
/-- the tape in the heap -/
def tpC (tp : Nat → Nat) (s : Nat) (I : Nat → Nat → Int32) : Prop := s ≤ 160 ∧ (∀ k, k < s → tp k < 256) ∧ I 11 0 = nI s ∧ ∀ k, k < s → I 12 k = nI (tp k)
/-- what reading changes -/
def frG (I0 I : Nat → Nat → Int32) : Prop := ∀ x k, ¬ (x = 11 ∧ 2 ≤ k ∧ k ≤ 5) → I x k = I0 x k
theorem tpC_frG {tp : Nat → Nat} {s : Nat} {I0 I : Nat → Nat → Int32} (h : tpC tp s I0) (f : frG I0 I) : tpC tp s I :=
  ⟨h.1, h.2.1, (f 11 0 (by omega)).trans h.2.2.1, fun k hk => (f 12 k (by omega)).trans (h.2.2.2 k hk)⟩
/-- the reader, a token ahead -/
def rS (tp : Nat → Nat) (s p : Nat) (I : Nat → Nat → Int32) : Prop := p ≤ s ∧ I 11 2 = nI (te tp s p) ∧ I 11 3 = nI (tk tp s p) ∧ I 11 4 = nI p ∧ (tk tp s p = 258 → I 11 5 = nI (nv tp s p))
section
variable {tp : Nat → Nat} {s d nd : Nat} {n t : Nat} {sh : Nat → Nat × Nat} {I : Nat → Nat → Int32} {L : Nat → Nat → Int64} {R : Nat → Nat → Option Nat} {Q : Option Value → aH → Prop}
theorem k28 (hd : 1 ≤ d) (hK : cK nd sh R) (hT : tpC tp s I) {p : Nat} (hp : p < 2000) : aC d 28 [.ref 11, .int (nI p)] (n, t, sh, I, L, R) Q ↔ Q (some (.int (nI (bk tp s p)))) (n, t, sh, I, L, R) := by
  obtain ⟨d, rfl⟩ : ∃ e, d = e + 1 := ⟨d - 1, by omega⟩
  obtain ⟨h1, h2, h3, h4⟩ := cPq hK
  obtain ⟨t1, t2, t3, t4⟩ := hT
  have e1 : (160 : Int32) = nI 160 := rfl
  have e2 : (256 : Int32) = nI 256 := rfl
  by_cases h : p < s
  · have := t4 p h
    simp (disch := first | assumption | exact ct_i | exact ct_r | exact ct_n | exact ct_h | omega | exact z_in (by omega) (by omega) | exact b01 | exact Or.inl rfl | exact Or.inr rfl) only [b28, e28_0, e28_1, e28_4, e28_5, e28_6, e28_9, e28_12, e28_13, e28_16, e28_19, e28_20, e28_23, e28_24, e28_25, e28_28, e28_31, ct_i, ct_r, ct_n, ct_h, opt_v, opt_s, ref_s, ref_n, eq_self_iff_true, true_or, or_true, zl0, zl1, zl2, zl3, zl4, zl5, zl6, zl7, zl8, zl9, zl10, zl16, zl32, zl40, zl100, zl160, zIc1, zI_lt, zI_le, nI_eq, nI_add, z_sub, nI_clamp, zI_of, uu_eq, uu_ne, Nat.reduceLT, Nat.reduceLeDiff, Nat.reduceEqDiff, Nat.reduceAdd, Nat.reduceSub, Nat.reduceMul, Nat.not_lt_zero, Nat.lt_irrefl, Nat.le_refl, Bool.false_eq_true, false_and, and_false, true_and, and_true, if_pos, if_neg, if_true, if_false, not_true_eq_false, not_false_eq_true, h1, h2, h3, h4, t3, e1, e2, bk, h, this]
  · simp (disch := first | assumption | exact ct_i | exact ct_r | exact ct_n | exact ct_h | omega | exact z_in (by omega) (by omega) | exact b01 | exact Or.inl rfl | exact Or.inr rfl) only [b28, e28_0, e28_1, e28_4, e28_5, e28_6, e28_9, e28_12, e28_13, e28_16, e28_19, e28_20, e28_23, e28_24, e28_25, e28_28, e28_31, ct_i, ct_r, ct_n, ct_h, opt_v, opt_s, ref_s, ref_n, eq_self_iff_true, true_or, or_true, zl0, zl1, zl2, zl3, zl4, zl5, zl6, zl7, zl8, zl9, zl10, zl16, zl32, zl40, zl100, zl160, zIc1, zI_lt, zI_le, nI_eq, nI_add, z_sub, nI_clamp, zI_of, uu_eq, uu_ne, Nat.reduceLT, Nat.reduceLeDiff, Nat.reduceEqDiff, Nat.reduceAdd, Nat.reduceSub, Nat.reduceMul, Nat.not_lt_zero, Nat.lt_irrefl, Nat.le_refl, Bool.false_eq_true, false_and, and_false, true_and, and_true, if_pos, if_neg, if_true, if_false, not_true_eq_false, not_false_eq_true, h1, h2, h3, h4, t3, e1, e2, bk, h]
theorem bk_lt (hT : tpC tp s I) {p : Nat} : bk tp s p < 257 := by
  unfold bk; split
  · have := hT.2.1 p (by assumption); omega
  · omega
theorem k31l (hd : 4 ≤ d) (hK : cK nd sh R) (hs : ∀ x, 1000000 ≤ x → sh x = (999, 0)) (hT : tpC tp s I) {fr len : Nat} (hfr : fr ≤ s) (hlen : len ≤ 160) {l7 : Value} :
    ∀ m i w l a l7, i + m = 57 → w ≤ i → l ≤ i →
    (aE (a_cl_ d) 31 (11, [.ref 11, .int (nI fr), .int (nI len), .int (nI w), .int (nI l), .int (if a = true then nI 1 else nI 0), .int (nI i), l7], [], (n, t, sh, I, L, R)) Q ↔
      Q (some (.int (match wlF tp s fr len m i w l a with | some r => nI r | none => -1))) (n, t, sh, I, L, R)) := by
  obtain ⟨h1, h2, h3, h4⟩ := cPq hK
  have s160 := hT.1
  have hlenW : ∀ Q : Option Value → aH → Prop, aC d 202 [.ref 1000000] (n, t, sh, I, L, R) Q ↔ Q (some (.int (nI 57))) (n, t, sh, I, L, R) := fun Q => k202 (i := 0) (show 2 ≤ d by omega) (by decide) hs
  have s1 : (a_ck 1000000).1 = 1 := rfl
  have hw57 : wn 0 = 57 := rfl
  have e32 : (32 : Int32) = nI 32 := rfl
  intro m
  induction m with
  | zero =>
    intro i w l a l7 hi hw hl
    obtain rfl : i = 57 := by omega
    rw [e31_11]
    simp (disch := first | assumption | exact ct_i | exact ct_r | exact ct_n | exact ct_h | omega | exact z_in (by omega) (by omega) | exact b01 | exact Or.inl rfl | exact Or.inr rfl) only [e31_0, e31_1, e31_2, e31_3, e31_5, e31_6, e31_8, e31_9, e31_13, e31_15, e31_18, e31_21, e31_23, e31_25, e31_28, e31_30, e31_32, e31_34, e31_37, e31_39, e31_42, e31_44, e31_45, e31_48, e31_49, e31_50, e31_53, e31_54, e31_56, e31_57, e31_59, e31_62, e31_64, e31_67, e31_69, e31_70, e31_73, e31_74, e31_75, e31_77, e31_78, e31_81, e31_83, e31_86, e31_87, e31_90, e31_91, e31_93, e31_96, e31_99, e31_102, e31_103, ct_i, ct_r, ct_n, ct_h, opt_v, opt_s, ref_s, ref_n, eq_self_iff_true, true_or, or_true, zl0, zl1, zl2, zl3, zl4, zl5, zl6, zl7, zl8, zl9, zl10, zl16, zl32, zl40, zl100, zl160, zIc1, zI_lt, zI_le, nI_eq, nI_add, z_sub, nI_clamp, zI_of, uu_eq, uu_ne, Nat.reduceLT, Nat.reduceLeDiff, Nat.reduceEqDiff, Nat.reduceAdd, Nat.reduceSub, Nat.reduceMul, Nat.not_lt_zero, Nat.lt_irrefl, Nat.le_refl, Bool.false_eq_true, false_and, and_false, true_and, and_true, if_pos, if_neg, if_true, if_false, not_true_eq_false, not_false_eq_true, s1, hlenW, wlF]
  | succ m ih =>
    intro i w l a l7 hi hw hl
    have hi' : i < 57 := by omega
    have hch : ∀ Q : Option Value → aH → Prop, aC d 204 [.ref 1000000, .int (nI i)] (n, t, sh, I, L, R) Q ↔ Q (some (.int (nI (wb 0 i)))) (n, t, sh, I, L, R) := fun Q => k204 (i := 0) (show 4 ≤ d by omega) (by decide) hs (by rw [hw57]; omega)
    obtain ⟨w1, w2⟩ := wb_c (i := 0) (j := i) (by decide) (by rw [hw57]; omega)
    rw [e31_11]
    simp only [wlF]
    by_cases c : wb 0 i = 32
    · rw [if_pos c]
      cases a with
      | true =>
        by_cases hq : l = len
        · subst hq
          simp (disch := first | assumption | exact ct_i | exact ct_r | exact ct_n | exact ct_h | omega | exact z_in (by omega) (by omega) | exact b01 | exact Or.inl rfl | exact Or.inr rfl) only [e31_0, e31_1, e31_2, e31_3, e31_5, e31_6, e31_8, e31_9, e31_13, e31_15, e31_18, e31_21, e31_23, e31_25, e31_28, e31_30, e31_32, e31_34, e31_37, e31_39, e31_42, e31_44, e31_45, e31_48, e31_49, e31_50, e31_53, e31_54, e31_56, e31_57, e31_59, e31_62, e31_64, e31_67, e31_69, e31_70, e31_73, e31_74, e31_75, e31_77, e31_78, e31_81, e31_83, e31_86, e31_87, e31_90, e31_91, e31_93, e31_96, e31_99, e31_102, e31_103, ct_i, ct_r, ct_n, ct_h, opt_v, opt_s, ref_s, ref_n, eq_self_iff_true, true_or, or_true, zl0, zl1, zl2, zl3, zl4, zl5, zl6, zl7, zl8, zl9, zl10, zl16, zl32, zl40, zl100, zl160, zIc1, zI_lt, zI_le, nI_eq, nI_add, z_sub, nI_clamp, zI_of, uu_eq, uu_ne, Nat.reduceLT, Nat.reduceLeDiff, Nat.reduceEqDiff, Nat.reduceAdd, Nat.reduceSub, Nat.reduceMul, Nat.not_lt_zero, Nat.lt_irrefl, Nat.le_refl, Bool.false_eq_true, false_and, and_false, true_and, and_true, if_pos, if_neg, if_true, if_false, not_true_eq_false, not_false_eq_true, s1, hlenW, hch, c, e32]
        · simp (disch := first | assumption | exact ct_i | exact ct_r | exact ct_n | exact ct_h | omega | exact z_in (by omega) (by omega) | exact b01 | exact Or.inl rfl | exact Or.inr rfl) only [e31_0, e31_1, e31_2, e31_3, e31_5, e31_6, e31_8, e31_9, e31_13, e31_15, e31_18, e31_21, e31_23, e31_25, e31_28, e31_30, e31_32, e31_34, e31_37, e31_39, e31_42, e31_44, e31_45, e31_48, e31_49, e31_50, e31_53, e31_54, e31_56, e31_57, e31_59, e31_62, e31_64, e31_67, e31_69, e31_70, e31_73, e31_74, e31_75, e31_77, e31_78, e31_81, e31_83, e31_86, e31_87, e31_90, e31_91, e31_93, e31_96, e31_99, e31_102, e31_103, ct_i, ct_r, ct_n, ct_h, opt_v, opt_s, ref_s, ref_n, eq_self_iff_true, true_or, or_true, zl0, zl1, zl2, zl3, zl4, zl5, zl6, zl7, zl8, zl9, zl10, zl16, zl32, zl40, zl100, zl160, zIc1, zI_lt, zI_le, nI_eq, nI_add, z_sub, nI_clamp, zI_of, uu_eq, uu_ne, Nat.reduceLT, Nat.reduceLeDiff, Nat.reduceEqDiff, Nat.reduceAdd, Nat.reduceSub, Nat.reduceMul, Nat.not_lt_zero, Nat.lt_irrefl, Nat.le_refl, Bool.false_eq_true, false_and, and_false, true_and, and_true, if_pos, if_neg, if_true, if_false, not_true_eq_false, not_false_eq_true, s1, hlenW, hch, c, e32, hq]
          exact ih (i + 1) (w + 1) 0 true _ (by omega) (by omega) (by omega)
      | false =>
        simp (disch := first | assumption | exact ct_i | exact ct_r | exact ct_n | exact ct_h | omega | exact z_in (by omega) (by omega) | exact b01 | exact Or.inl rfl | exact Or.inr rfl) only [e31_0, e31_1, e31_2, e31_3, e31_5, e31_6, e31_8, e31_9, e31_13, e31_15, e31_18, e31_21, e31_23, e31_25, e31_28, e31_30, e31_32, e31_34, e31_37, e31_39, e31_42, e31_44, e31_45, e31_48, e31_49, e31_50, e31_53, e31_54, e31_56, e31_57, e31_59, e31_62, e31_64, e31_67, e31_69, e31_70, e31_73, e31_74, e31_75, e31_77, e31_78, e31_81, e31_83, e31_86, e31_87, e31_90, e31_91, e31_93, e31_96, e31_99, e31_102, e31_103, ct_i, ct_r, ct_n, ct_h, opt_v, opt_s, ref_s, ref_n, eq_self_iff_true, true_or, or_true, zl0, zl1, zl2, zl3, zl4, zl5, zl6, zl7, zl8, zl9, zl10, zl16, zl32, zl40, zl100, zl160, zIc1, zI_lt, zI_le, nI_eq, nI_add, z_sub, nI_clamp, zI_of, uu_eq, uu_ne, Nat.reduceLT, Nat.reduceLeDiff, Nat.reduceEqDiff, Nat.reduceAdd, Nat.reduceSub, Nat.reduceMul, Nat.not_lt_zero, Nat.lt_irrefl, Nat.le_refl, Bool.false_eq_true, false_and, and_false, true_and, and_true, if_pos, if_neg, if_true, if_false, not_true_eq_false, not_false_eq_true, s1, hlenW, hch, c, e32]
        exact ih (i + 1) (w + 1) 0 true _ (by omega) (by omega) (by omega)
    · rw [if_neg c]
      cases a with
      | false =>
        simp (disch := first | assumption | exact ct_i | exact ct_r | exact ct_n | exact ct_h | omega | exact z_in (by omega) (by omega) | exact b01 | exact Or.inl rfl | exact Or.inr rfl) only [e31_0, e31_1, e31_2, e31_3, e31_5, e31_6, e31_8, e31_9, e31_13, e31_15, e31_18, e31_21, e31_23, e31_25, e31_28, e31_30, e31_32, e31_34, e31_37, e31_39, e31_42, e31_44, e31_45, e31_48, e31_49, e31_50, e31_53, e31_54, e31_56, e31_57, e31_59, e31_62, e31_64, e31_67, e31_69, e31_70, e31_73, e31_74, e31_75, e31_77, e31_78, e31_81, e31_83, e31_86, e31_87, e31_90, e31_91, e31_93, e31_96, e31_99, e31_102, e31_103, ct_i, ct_r, ct_n, ct_h, opt_v, opt_s, ref_s, ref_n, eq_self_iff_true, true_or, or_true, zl0, zl1, zl2, zl3, zl4, zl5, zl6, zl7, zl8, zl9, zl10, zl16, zl32, zl40, zl100, zl160, zIc1, zI_lt, zI_le, nI_eq, nI_add, z_sub, nI_clamp, zI_of, uu_eq, uu_ne, Nat.reduceLT, Nat.reduceLeDiff, Nat.reduceEqDiff, Nat.reduceAdd, Nat.reduceSub, Nat.reduceMul, Nat.not_lt_zero, Nat.lt_irrefl, Nat.le_refl, Bool.false_eq_true, false_and, and_false, true_and, and_true, if_pos, if_neg, if_true, if_false, not_true_eq_false, not_false_eq_true, s1, hlenW, hch, c, e32, Bool.false_and]
        exact ih (i + 1) w (l + 1) false _ (by omega) (by omega) (by omega)
      | true =>
        by_cases hq : l < len
        · have hbk := bk_lt hT (p := fr + l)
          by_cases hb : bk tp s (fr + l) = wb 0 i
          · have := ih (i + 1) w (l + 1) true (.int (nI (wb 0 i))) (by omega) (by omega) (by omega)
            simp (disch := first | assumption | exact ct_i | exact ct_r | exact ct_n | exact ct_h | omega | exact z_in (by omega) (by omega) | exact b01 | exact Or.inl rfl | exact Or.inr rfl) only [e31_0, e31_1, e31_2, e31_3, e31_5, e31_6, e31_8, e31_9, e31_13, e31_15, e31_18, e31_21, e31_23, e31_25, e31_28, e31_30, e31_32, e31_34, e31_37, e31_39, e31_42, e31_44, e31_45, e31_48, e31_49, e31_50, e31_53, e31_54, e31_56, e31_57, e31_59, e31_62, e31_64, e31_67, e31_69, e31_70, e31_73, e31_74, e31_75, e31_77, e31_78, e31_81, e31_83, e31_86, e31_87, e31_90, e31_91, e31_93, e31_96, e31_99, e31_102, e31_103, ct_i, ct_r, ct_n, ct_h, opt_v, opt_s, ref_s, ref_n, eq_self_iff_true, true_or, or_true, zl0, zl1, zl2, zl3, zl4, zl5, zl6, zl7, zl8, zl9, zl10, zl16, zl32, zl40, zl100, zl160, zIc1, zI_lt, zI_le, nI_eq, nI_add, z_sub, nI_clamp, zI_of, uu_eq, uu_ne, Nat.reduceLT, Nat.reduceLeDiff, Nat.reduceEqDiff, Nat.reduceAdd, Nat.reduceSub, Nat.reduceMul, Nat.not_lt_zero, Nat.lt_irrefl, Nat.le_refl, Bool.false_eq_true, false_and, and_false, true_and, and_true, if_pos, if_neg, if_true, if_false, not_true_eq_false, not_false_eq_true, s1, hlenW, hch, c, e32, hq, h1, k28 (show 1 ≤ d by omega) hK hT (show fr + l < 2000 by omega), hb, decide_true, Bool.and_true]
            exact this
          · have := ih (i + 1) w (l + 1) false (.int (nI (wb 0 i))) (by omega) (by omega) (by omega)
            simp (disch := first | assumption | exact ct_i | exact ct_r | exact ct_n | exact ct_h | omega | exact z_in (by omega) (by omega) | exact b01 | exact Or.inl rfl | exact Or.inr rfl) only [e31_0, e31_1, e31_2, e31_3, e31_5, e31_6, e31_8, e31_9, e31_13, e31_15, e31_18, e31_21, e31_23, e31_25, e31_28, e31_30, e31_32, e31_34, e31_37, e31_39, e31_42, e31_44, e31_45, e31_48, e31_49, e31_50, e31_53, e31_54, e31_56, e31_57, e31_59, e31_62, e31_64, e31_67, e31_69, e31_70, e31_73, e31_74, e31_75, e31_77, e31_78, e31_81, e31_83, e31_86, e31_87, e31_90, e31_91, e31_93, e31_96, e31_99, e31_102, e31_103, ct_i, ct_r, ct_n, ct_h, opt_v, opt_s, ref_s, ref_n, eq_self_iff_true, true_or, or_true, zl0, zl1, zl2, zl3, zl4, zl5, zl6, zl7, zl8, zl9, zl10, zl16, zl32, zl40, zl100, zl160, zIc1, zI_lt, zI_le, nI_eq, nI_add, z_sub, nI_clamp, zI_of, uu_eq, uu_ne, Nat.reduceLT, Nat.reduceLeDiff, Nat.reduceEqDiff, Nat.reduceAdd, Nat.reduceSub, Nat.reduceMul, Nat.not_lt_zero, Nat.lt_irrefl, Nat.le_refl, Bool.false_eq_true, false_and, and_false, true_and, and_true, if_pos, if_neg, if_true, if_false, not_true_eq_false, not_false_eq_true, s1, hlenW, hch, c, e32, hq, h1, k28 (show 1 ≤ d by omega) hK hT (show fr + l < 2000 by omega), hb, decide_true, decide_false, Bool.and_false]
            exact this
        · have := ih (i + 1) w (l + 1) false (.int (nI (wb 0 i))) (by omega) (by omega) (by omega)
          simp (disch := first | assumption | exact ct_i | exact ct_r | exact ct_n | exact ct_h | omega | exact z_in (by omega) (by omega) | exact b01 | exact Or.inl rfl | exact Or.inr rfl) only [e31_0, e31_1, e31_2, e31_3, e31_5, e31_6, e31_8, e31_9, e31_13, e31_15, e31_18, e31_21, e31_23, e31_25, e31_28, e31_30, e31_32, e31_34, e31_37, e31_39, e31_42, e31_44, e31_45, e31_48, e31_49, e31_50, e31_53, e31_54, e31_56, e31_57, e31_59, e31_62, e31_64, e31_67, e31_69, e31_70, e31_73, e31_74, e31_75, e31_77, e31_78, e31_81, e31_83, e31_86, e31_87, e31_90, e31_91, e31_93, e31_96, e31_99, e31_102, e31_103, ct_i, ct_r, ct_n, ct_h, opt_v, opt_s, ref_s, ref_n, eq_self_iff_true, true_or, or_true, zl0, zl1, zl2, zl3, zl4, zl5, zl6, zl7, zl8, zl9, zl10, zl16, zl32, zl40, zl100, zl160, zIc1, zI_lt, zI_le, nI_eq, nI_add, z_sub, nI_clamp, zI_of, uu_eq, uu_ne, Nat.reduceLT, Nat.reduceLeDiff, Nat.reduceEqDiff, Nat.reduceAdd, Nat.reduceSub, Nat.reduceMul, Nat.not_lt_zero, Nat.lt_irrefl, Nat.le_refl, Bool.false_eq_true, false_and, and_false, true_and, and_true, if_pos, if_neg, if_true, if_false, not_true_eq_false, not_false_eq_true, s1, hlenW, hch, c, e32, hq, decide_false, Bool.and_false, Bool.false_and]
          exact this
theorem k31 (hd : 5 ≤ d) (hK : cK nd sh R) (hs : ∀ x, 1000000 ≤ x → sh x = (999, 0)) (hT : tpC tp s I) {fr len : Nat} (hfr : fr ≤ s) (hlen : len ≤ 160) :
    aC d 31 [.ref 11, .int (nI fr), .int (nI len)] (n, t, sh, I, L, R) Q ↔ Q (some (.int (match wlF tp s fr len 57 0 0 0 true with | some r => nI r | none => -1))) (n, t, sh, I, L, R) := by
  obtain ⟨d, rfl⟩ : ∃ e, d = e + 1 := ⟨d - 1, by omega⟩
  simp (disch := first | assumption | exact ct_i | exact ct_r | exact ct_n | exact ct_h | omega | exact z_in (by omega) (by omega) | exact b01 | exact Or.inl rfl | exact Or.inr rfl) only [b31, e31_0, e31_1, e31_2, e31_3, e31_5, e31_6, e31_8, e31_9, e31_13, e31_15, e31_18, e31_21, e31_23, e31_25, e31_28, e31_30, e31_32, e31_34, e31_37, e31_39, e31_42, e31_44, e31_45, e31_48, e31_49, e31_50, e31_53, e31_54, e31_56, e31_57, e31_59, e31_62, e31_64, e31_67, e31_69, e31_70, e31_73, e31_74, e31_75, e31_77, e31_78, e31_81, e31_83, e31_86, e31_87, e31_90, e31_91, e31_93, e31_96, e31_99, e31_102, e31_103, ct_i, ct_r, ct_n, ct_h, opt_v, opt_s, ref_s, ref_n, eq_self_iff_true, true_or, or_true, zl0, zl1, zl2, zl3, zl4, zl5, zl6, zl7, zl8, zl9, zl10, zl16, zl32, zl40, zl100, zl160, zIc1, zI_lt, zI_le, nI_eq, nI_add, z_sub, nI_clamp, zI_of, uu_eq, uu_ne, Nat.reduceLT, Nat.reduceLeDiff, Nat.reduceEqDiff, Nat.reduceAdd, Nat.reduceSub, Nat.reduceMul, Nat.not_lt_zero, Nat.lt_irrefl, Nat.le_refl, Bool.false_eq_true, false_and, and_false, true_and, and_true, if_true, if_false, not_true_eq_false, not_false_eq_true]
  exact k31l (l7 := .null) (show 4 ≤ d by omega) hK hs hT hfr hlen 57 0 0 0 true _ rfl (Nat.le_refl _) (Nat.le_refl _)
end
