/-! the reader's next token -/
section
variable {tp : Nat → Nat} {s d nd : Nat} {n t : Nat} {sh : Nat → Nat × Nat} {L : Nat → Nat → Int64} {R : Nat → Nat → Option Nat} {Q : Option Value → aH → Prop}
theorem frG_at {I0 I : Nat → Nat → Int32} (f : frG I0 I) {k : Nat} {v : Int32} (hk : 2 ≤ k ∧ k ≤ 5) : frG I0 (u2 I 11 k v) := fun x y h => by
  rw [uu_ne _ _ _ _ (by omega)]; exact f x y h
theorem frG_0 (I : Nat → Nat → Int32) : frG I I := fun _ _ _ => rfl
theorem tpC_at {I : Nat → Nat → Int32} {k : Nat} {v : Int32} (hT : tpC tp s I) (hk : 2 ≤ k ∧ k ≤ 5) : tpC tp s (u2 I 11 k v) := tpC_frG hT (frG_at (frG_0 I) hk)
theorem bk_in {p : Nat} (h : p < s) : bk tp s p = tp p := if_pos h
/-- a run of letters is gone over -/
theorem k30l (hd : 7 ≤ d) (hK : cK nd sh R) {l1 : Value} {I0 : Nat → Nat → Int32} {p : Nat} (hp : p ≤ s)
    (H : ∀ I', frG I0 I' → I' 11 2 = nI (sk tp s isL p) → I' 11 4 = nI p → tpC tp s I' → aE (a_cl_ d) 30 (38, [.ref 11, l1], [], (n, t, sh, I', L, R)) Q) :
    ∀ m a I, a + m = s → p ≤ a → sk tp s isL p = sk tp s isL a → frG I0 I → tpC tp s I → I 11 2 = nI a → I 11 4 = nI p →
    aE (a_cl_ d) 30 (0, [.ref 11, l1], [], (n, t, sh, I, L, R)) Q := by
  obtain ⟨h1, h2, h3, h4⟩ := cPq hK
  intro m
  induction m with
  | zero =>
    intro a I ha hpa hsk hf hT h5 h6
    obtain rfl : a = s := by omega
    have hs := hT.1
    have h0 := hT.2.2.1
    rw [sk_end (Nat.le_refl _)] at hsk
    rw [e30_0]
    simp (disch := first | assumption | exact ct_i | exact ct_r | exact ct_n | exact ct_h | omega | exact z_in (by omega) (by omega) | exact b01 | exact Or.inl rfl | exact Or.inr rfl) only [e30_1, e30_4, e30_5, e30_8, e30_11, e30_12, e30_13, e30_16, e30_19, e30_22, e30_25, e30_26, e30_27, e30_30, e30_31, e30_32, e30_35, e30_39, e30_40, e30_43, e30_44, e30_47, e30_48, e30_51, e30_52, e30_55, e30_56, e30_57, e30_58, e30_61, e30_64, e30_67, e30_70, e30_71, e30_72, e30_75, ct_i, ct_r, ct_n, ct_h, opt_v, opt_s, ref_s, ref_n, eq_self_iff_true, true_or, or_true, zl0, zl1, zl2, zl3, zl4, zl5, zl6, zl7, zl8, zl9, zl10, zl16, zl32, zl40, zl100, zl160, zIc1, zI_lt, zI_le, nI_eq, nI_add, z_sub, nI_clamp, zI_of, uu_eq, uu_ne, Nat.reduceLT, Nat.reduceLeDiff, Nat.reduceEqDiff, Nat.reduceAdd, Nat.reduceSub, Nat.reduceMul, Nat.not_lt_zero, Nat.lt_irrefl, Nat.le_refl, Bool.false_eq_true, false_and, and_false, true_and, and_true, if_pos, if_neg, if_true, if_false, not_true_eq_false, not_false_eq_true, h1, h5, h0]
    exact H I hf (h5.trans (by rw [hsk])) h6 hT
  | succ m ih =>
    intro a I ha hpa hsk hf hT h5 h6
    have hs := hT.1
    have h0 := hT.2.2.1
    have hlt : a < s := by omega
    have hb := hT.2.1 a hlt
    rw [e30_0]
    by_cases hL : isL (tp a) = true
    · simp (disch := first | assumption | exact ct_i | exact ct_r | exact ct_n | exact ct_h | omega | exact z_in (by omega) (by omega) | exact b01 | exact Or.inl rfl | exact Or.inr rfl) only [e30_1, e30_4, e30_5, e30_8, e30_11, e30_12, e30_13, e30_16, e30_19, e30_22, e30_25, e30_26, e30_27, e30_30, e30_31, e30_32, e30_35, e30_39, e30_40, e30_43, e30_44, e30_47, e30_48, e30_51, e30_52, e30_55, e30_56, e30_57, e30_58, e30_61, e30_64, e30_67, e30_70, e30_71, e30_72, e30_75, ct_i, ct_r, ct_n, ct_h, opt_v, opt_s, ref_s, ref_n, eq_self_iff_true, true_or, or_true, zl0, zl1, zl2, zl3, zl4, zl5, zl6, zl7, zl8, zl9, zl10, zl16, zl32, zl40, zl100, zl160, zIc1, zI_lt, zI_le, nI_eq, nI_add, z_sub, nI_clamp, zI_of, uu_eq, uu_ne, Nat.reduceLT, Nat.reduceLeDiff, Nat.reduceEqDiff, Nat.reduceAdd, Nat.reduceSub, Nat.reduceMul, Nat.not_lt_zero, Nat.lt_irrefl, Nat.le_refl, Bool.false_eq_true, false_and, and_false, true_and, and_true, if_pos, if_neg, if_true, if_false, not_true_eq_false, not_false_eq_true, h1, h5, h0, k28 (show 1 ≤ d by omega) hK hT (show a < 2000 by omega), bk_in hlt, k29 (show 1 ≤ d by omega) (show tp a < 2000 by omega), hL]
      exact ih (a + 1) _ (by omega) (by omega) (by rw [hsk, sk_step hlt hL]) (frG_at hf (by omega)) (tpC_at hT (by omega)) (uu_eq _ _ _ _) (by rw [uu_ne _ _ _ _ (by omega)]; exact h6)
    · rw [sk_stop hL] at hsk
      simp (disch := first | assumption | exact ct_i | exact ct_r | exact ct_n | exact ct_h | omega | exact z_in (by omega) (by omega) | exact b01 | exact Or.inl rfl | exact Or.inr rfl) only [e30_1, e30_4, e30_5, e30_8, e30_11, e30_12, e30_13, e30_16, e30_19, e30_22, e30_25, e30_26, e30_27, e30_30, e30_31, e30_32, e30_35, e30_39, e30_40, e30_43, e30_44, e30_47, e30_48, e30_51, e30_52, e30_55, e30_56, e30_57, e30_58, e30_61, e30_64, e30_67, e30_70, e30_71, e30_72, e30_75, ct_i, ct_r, ct_n, ct_h, opt_v, opt_s, ref_s, ref_n, eq_self_iff_true, true_or, or_true, zl0, zl1, zl2, zl3, zl4, zl5, zl6, zl7, zl8, zl9, zl10, zl16, zl32, zl40, zl100, zl160, zIc1, zI_lt, zI_le, nI_eq, nI_add, z_sub, nI_clamp, zI_of, uu_eq, uu_ne, Nat.reduceLT, Nat.reduceLeDiff, Nat.reduceEqDiff, Nat.reduceAdd, Nat.reduceSub, Nat.reduceMul, Nat.not_lt_zero, Nat.lt_irrefl, Nat.le_refl, Bool.false_eq_true, false_and, and_false, true_and, and_true, if_pos, if_neg, if_true, if_false, not_true_eq_false, not_false_eq_true, h1, h5, h0, k28 (show 1 ≤ d by omega) hK hT (show a < 2000 by omega), bk_in hlt, k29 (show 1 ≤ d by omega) (show tp a < 2000 by omega), hL]
      exact H I hf (h5.trans (by rw [hsk])) h6 hT
theorem k30 (hd : 8 ≤ d) (hK : cK nd sh R) (hs : ∀ x, 1000000 ≤ x → sh x = (999, 0)) {I : Nat → Nat → Int32} (hT : tpC tp s I) {p : Nat} (hp : p ≤ s) (h2 : I 11 2 = nI p) (h4 : I 11 4 = nI p)
    (H : ∀ I', frG I I' → I' 11 2 = nI (sk tp s isL p) → I' 11 4 = nI p → I' 11 3 = nI (wdT tp s p) → Q none (n, t, sh, I', L, R)) : aC d 30 [.ref 11] (n, t, sh, I, L, R) Q := by
  obtain ⟨d, rfl⟩ : ∃ e, d = e + 1 := ⟨d - 1, by omega⟩
  obtain ⟨s1, s2, s3, s4⟩ := cPq hK
  have h160 := hT.1
  simp (disch := first | assumption | exact ct_i | exact ct_r | exact ct_n | exact ct_h | omega | exact z_in (by omega) (by omega) | exact b01 | exact Or.inl rfl | exact Or.inr rfl) only [b30, ct_i, ct_r, ct_n, ct_h, opt_v, opt_s, ref_s, ref_n, eq_self_iff_true, true_or, or_true]
  refine k30l (I0 := I) (show 7 ≤ d by omega) hK hp (fun I' hf g2 g4 hT' => ?_) (s - p) p I (by omega) (Nat.le_refl _) rfl (frG_0 I) hT h2 h4
  have g := sk_ge (tp := tp) (s := s) (P := isL) (p := p)
  have g' := sk_le (tp := tp) (P := isL) hp
  have e300 : (300 : Int32) = nI 300 := rfl
  have e257 : (257 : Int32) = nI 257 := rfl
  have hw : ∀ r, wlF tp s p (sk tp s isL p - p) 57 0 0 0 true = some r → r ≤ 57 := fun r h => by have := wlF_le _ _ _ _ _ _ h; omega
  cases hF : wlF tp s p (sk tp s isL p - p) 57 0 0 0 true with
  | none =>
    have hneg : ¬ nI 0 ≤ -nI 1 := by decide
    have hwd : wdT tp s p = 257 := by unfold wdT; rw [hF]
    simp (disch := first | assumption | exact ct_i | exact ct_r | exact ct_n | exact ct_h | omega | exact z_in (by omega) (by omega) | exact b01 | exact Or.inl rfl | exact Or.inr rfl) only [e30_1, e30_4, e30_5, e30_8, e30_11, e30_12, e30_13, e30_16, e30_19, e30_22, e30_25, e30_26, e30_27, e30_30, e30_31, e30_32, e30_35, e30_38, e30_39, e30_40, e30_43, e30_44, e30_47, e30_48, e30_51, e30_52, e30_55, e30_56, e30_57, e30_58, e30_61, e30_64, e30_67, e30_70, e30_71, e30_72, e30_75, ct_i, ct_r, ct_n, ct_h, opt_v, opt_s, ref_s, ref_n, eq_self_iff_true, true_or, or_true, zl0, zl1, zl2, zl3, zl4, zl5, zl6, zl7, zl8, zl9, zl10, zl16, zl32, zl40, zl100, zl160, zIc1, zI_lt, zI_le, nI_eq, nI_add, z_sub, nI_clamp, zI_of, uu_eq, uu_ne, Nat.reduceLT, Nat.reduceLeDiff, Nat.reduceEqDiff, Nat.reduceAdd, Nat.reduceSub, Nat.reduceMul, Nat.not_lt_zero, Nat.lt_irrefl, Nat.le_refl, Bool.false_eq_true, false_and, and_false, true_and, and_true, if_pos, if_neg, if_true, if_false, not_true_eq_false, not_false_eq_true, s1, g2, g4, k31 (show 5 ≤ d by omega) hK hs hT' hp (show sk tp s isL p - p ≤ 160 by omega), hF, hneg, e257]
    refine H _ (frG_at hf (by omega)) ?_ ?_ ?_
    · rw [uu_ne _ _ _ _ (by omega)]; exact g2
    · rw [uu_ne _ _ _ _ (by omega)]; exact g4
    · rw [uu_eq, hwd]
  | some w =>
    have := hw w hF
    have hwd : wdT tp s p = 300 + w := by unfold wdT; rw [hF]
    simp (disch := first | assumption | exact ct_i | exact ct_r | exact ct_n | exact ct_h | omega | exact z_in (by omega) (by omega) | exact b01 | exact Or.inl rfl | exact Or.inr rfl) only [e30_1, e30_4, e30_5, e30_8, e30_11, e30_12, e30_13, e30_16, e30_19, e30_22, e30_25, e30_26, e30_27, e30_30, e30_31, e30_32, e30_35, e30_38, e30_39, e30_40, e30_43, e30_44, e30_47, e30_48, e30_51, e30_52, e30_55, e30_56, e30_57, e30_58, e30_61, e30_64, e30_67, e30_70, e30_71, e30_72, e30_75, ct_i, ct_r, ct_n, ct_h, opt_v, opt_s, ref_s, ref_n, eq_self_iff_true, true_or, or_true, zl0, zl1, zl2, zl3, zl4, zl5, zl6, zl7, zl8, zl9, zl10, zl16, zl32, zl40, zl100, zl160, zIc1, zI_lt, zI_le, nI_eq, nI_add, z_sub, nI_clamp, zI_of, uu_eq, uu_ne, Nat.reduceLT, Nat.reduceLeDiff, Nat.reduceEqDiff, Nat.reduceAdd, Nat.reduceSub, Nat.reduceMul, Nat.not_lt_zero, Nat.lt_irrefl, Nat.le_refl, Bool.false_eq_true, false_and, and_false, true_and, and_true, if_pos, if_neg, if_true, if_false, not_true_eq_false, not_false_eq_true, s1, g2, g4, k31 (show 5 ≤ d by omega) hK hs hT' hp (show sk tp s isL p - p ≤ 160 by omega), hF, e300]
    refine H _ (frG_at hf (by omega)) ?_ ?_ ?_
    · rw [uu_ne _ _ _ _ (by omega)]; exact g2
    · rw [uu_ne _ _ _ _ (by omega)]; exact g4
    · rw [uu_eq, hwd]
theorem nuF_i {v x : Nat} (h : isD x = true) : nI v * 10 + nI x - 48 = nI (10 * v + (x - 48)) := by
  have e10 : (10 : Int32) = nI 10 := rfl
  have e48 : (48 : Int32) = nI 48 := rfl
  simp only [isD, Bool.and_eq_true, decide_eq_true_eq] at h
  rw [e10, e48, zI_mul, nI_add, z_sub (by omega)]
  congr 1; omega
theorem k33l (hd : 7 ≤ d) (hK : cK nd sh R) {I0 : Nat → Nat → Int32} {p : Nat} (hp : p ≤ s)
    (H : ∀ I', frG I0 I' → I' 11 2 = nI (sk tp s isD p) → I' 11 4 = nI p → I' 11 5 = nI (nv tp s p) → tpC tp s I' → aE (a_cl_ d) 33 (66, [.ref 11], [], (n, t, sh, I', L, R)) Q) :
    ∀ m a I v, a + m = s → p ≤ a → sk tp s isD p = sk tp s isD a → frG I0 I → tpC tp s I → I 11 2 = nI a → I 11 4 = nI p → I 11 5 = nI v → nv tp s p = nuF tp m a v →
    aE (a_cl_ d) 33 (5, [.ref 11], [], (n, t, sh, I, L, R)) Q := by
  obtain ⟨h1, h2, h3, h4⟩ := cPq hK
  intro m
  induction m with
  | zero =>
    intro a I v ha hpa hsk hf hT h5 h6 h7 h8
    obtain rfl : a = s := by omega
    have hs := hT.1
    have h0 := hT.2.2.1
    rw [sk_end (Nat.le_refl _)] at hsk
    simp only [nuF] at h8
    rw [e33_5]
    simp (disch := first | assumption | exact ct_i | exact ct_r | exact ct_n | exact ct_h | omega | exact z_in (by omega) (by omega) | exact b01 | exact Or.inl rfl | exact Or.inr rfl) only [e33_0, e33_1, e33_2, e33_6, e33_9, e33_10, e33_13, e33_16, e33_17, e33_18, e33_21, e33_24, e33_27, e33_30, e33_31, e33_32, e33_35, e33_37, e33_38, e33_39, e33_40, e33_43, e33_46, e33_47, e33_49, e33_50, e33_53, e33_54, e33_55, e33_58, e33_59, e33_60, e33_63, e33_67, e33_68, e33_71, e33_72, e33_75, e33_76, e33_77, e33_80, e33_83, e33_86, e33_89, e33_92, ct_i, ct_r, ct_n, ct_h, opt_v, opt_s, ref_s, ref_n, eq_self_iff_true, true_or, or_true, zl0, zl1, zl2, zl3, zl4, zl5, zl6, zl7, zl8, zl9, zl10, zl16, zl32, zl40, zl100, zl160, zIc1, zI_lt, zI_le, nI_eq, nI_add, z_sub, nI_clamp, zI_of, uu_eq, uu_ne, Nat.reduceLT, Nat.reduceLeDiff, Nat.reduceEqDiff, Nat.reduceAdd, Nat.reduceSub, Nat.reduceMul, Nat.not_lt_zero, Nat.lt_irrefl, Nat.le_refl, Bool.false_eq_true, false_and, and_false, true_and, and_true, if_pos, if_neg, if_true, if_false, not_true_eq_false, not_false_eq_true, h1, h5, h0]
    exact H I hf (h5.trans (by rw [hsk])) h6 (h7.trans (by rw [h8])) hT
  | succ m ih =>
    intro a I v ha hpa hsk hf hT h5 h6 h7 h8
    have hs := hT.1
    have h0 := hT.2.2.1
    have hlt : a < s := by omega
    have hb := hT.2.1 a hlt
    simp only [nuF] at h8
    rw [e33_5]
    by_cases hL : isD (tp a) = true
    · rw [if_pos hL] at h8
      simp (disch := first | assumption | exact ct_i | exact ct_r | exact ct_n | exact ct_h | omega | exact z_in (by omega) (by omega) | exact b01 | exact Or.inl rfl | exact Or.inr rfl) only [e33_0, e33_1, e33_2, e33_6, e33_9, e33_10, e33_13, e33_16, e33_17, e33_18, e33_21, e33_24, e33_27, e33_30, e33_31, e33_32, e33_35, e33_37, e33_38, e33_39, e33_40, e33_43, e33_46, e33_47, e33_49, e33_50, e33_53, e33_54, e33_55, e33_58, e33_59, e33_60, e33_63, e33_67, e33_68, e33_71, e33_72, e33_75, e33_76, e33_77, e33_80, e33_83, e33_86, e33_89, e33_92, ct_i, ct_r, ct_n, ct_h, opt_v, opt_s, ref_s, ref_n, eq_self_iff_true, true_or, or_true, zl0, zl1, zl2, zl3, zl4, zl5, zl6, zl7, zl8, zl9, zl10, zl16, zl32, zl40, zl100, zl160, zIc1, zI_lt, zI_le, nI_eq, nI_add, z_sub, nI_clamp, zI_of, uu_eq, uu_ne, Nat.reduceLT, Nat.reduceLeDiff, Nat.reduceEqDiff, Nat.reduceAdd, Nat.reduceSub, Nat.reduceMul, Nat.not_lt_zero, Nat.lt_irrefl, Nat.le_refl, Bool.false_eq_true, false_and, and_false, true_and, and_true, if_pos, if_neg, if_true, if_false, not_true_eq_false, not_false_eq_true, h1, h5, h0, h7, k28 (show 1 ≤ d by omega) hK hT (show a < 2000 by omega), bk_in hlt, k32 (show 1 ≤ d by omega) (show tp a < 2000 by omega), hL]
      rw [show nI v * nI 10 + nI (tp a) - 48 = nI (10 * v + (tp a - 48)) from nuF_i hL]
      exact ih (a + 1) _ _ (by omega) (by omega) (by rw [hsk, sk_step hlt hL]) (frG_at (frG_at hf (by omega)) (by omega)) (tpC_at (tpC_at hT (by omega)) (by omega)) (uu_eq _ _ _ _) (by simp (disch := omega) only [uu_ne]; exact h6) (by simp (disch := omega) only [uu_ne, uu_eq]) h8
    · rw [sk_stop hL] at hsk
      rw [if_neg hL] at h8
      simp (disch := first | assumption | exact ct_i | exact ct_r | exact ct_n | exact ct_h | omega | exact z_in (by omega) (by omega) | exact b01 | exact Or.inl rfl | exact Or.inr rfl) only [e33_0, e33_1, e33_2, e33_6, e33_9, e33_10, e33_13, e33_16, e33_17, e33_18, e33_21, e33_24, e33_27, e33_30, e33_31, e33_32, e33_35, e33_37, e33_38, e33_39, e33_40, e33_43, e33_46, e33_47, e33_49, e33_50, e33_53, e33_54, e33_55, e33_58, e33_59, e33_60, e33_63, e33_67, e33_68, e33_71, e33_72, e33_75, e33_76, e33_77, e33_80, e33_83, e33_86, e33_89, e33_92, ct_i, ct_r, ct_n, ct_h, opt_v, opt_s, ref_s, ref_n, eq_self_iff_true, true_or, or_true, zl0, zl1, zl2, zl3, zl4, zl5, zl6, zl7, zl8, zl9, zl10, zl16, zl32, zl40, zl100, zl160, zIc1, zI_lt, zI_le, nI_eq, nI_add, z_sub, nI_clamp, zI_of, uu_eq, uu_ne, Nat.reduceLT, Nat.reduceLeDiff, Nat.reduceEqDiff, Nat.reduceAdd, Nat.reduceSub, Nat.reduceMul, Nat.not_lt_zero, Nat.lt_irrefl, Nat.le_refl, Bool.false_eq_true, false_and, and_false, true_and, and_true, if_pos, if_neg, if_true, if_false, not_true_eq_false, not_false_eq_true, h1, h5, h0, k28 (show 1 ≤ d by omega) hK hT (show a < 2000 by omega), bk_in hlt, k32 (show 1 ≤ d by omega) (show tp a < 2000 by omega), hL]
      exact H I hf (h5.trans (by rw [hsk])) h6 (h7.trans (by rw [h8])) hT
theorem k33 (hd : 8 ≤ d) (hK : cK nd sh R) {I : Nat → Nat → Int32} (hT : tpC tp s I) {p : Nat} (hp : p ≤ s) (h2 : I 11 2 = nI p) (h4 : I 11 4 = nI p)
    (H : ∀ I', frG I I' → I' 11 2 = nI (sk tp s isD p) → I' 11 4 = nI p → I' 11 3 = nI (if sk tp s isD p - p ≤ 4 then 258 else 257) → I' 11 5 = nI (nv tp s p) → Q none (n, t, sh, I', L, R)) : aC d 33 [.ref 11] (n, t, sh, I, L, R) Q := by
  obtain ⟨d, rfl⟩ : ∃ e, d = e + 1 := ⟨d - 1, by omega⟩
  obtain ⟨s1, s2, s3, s4⟩ := cPq hK
  have h160 := hT.1
  have e4 : (4 : Int32) = nI 4 := rfl
  have e258 : (258 : Int32) = nI 258 := rfl
  have e257 : (257 : Int32) = nI 257 := rfl
  simp (disch := first | assumption | exact ct_i | exact ct_r | exact ct_n | exact ct_h | omega | exact z_in (by omega) (by omega) | exact b01 | exact Or.inl rfl | exact Or.inr rfl) only [b33, e33_0, e33_1, e33_2, ct_i, ct_r, ct_n, ct_h, opt_v, opt_s, ref_s, ref_n, eq_self_iff_true, true_or, or_true, s1]
  refine k33l (I0 := I) (show 7 ≤ d by omega) hK hp (fun I' hf g2 g4 g5 hT' => ?_) (s - p) p _ 0 (by omega) (Nat.le_refl _) rfl (frG_at (frG_0 I) (by omega)) (tpC_at hT (by omega)) (by rw [uu_ne _ _ _ _ (by omega)]; exact h2) (by rw [uu_ne _ _ _ _ (by omega)]; exact h4) (uu_eq _ _ _ _) rfl
  have g := sk_ge (tp := tp) (s := s) (P := isD) (p := p)
  have g' := sk_le (tp := tp) (P := isD) hp
  by_cases hc : sk tp s isD p - p ≤ 4
  · simp (disch := first | assumption | exact ct_i | exact ct_r | exact ct_n | exact ct_h | omega | exact z_in (by omega) (by omega) | exact b01 | exact Or.inl rfl | exact Or.inr rfl) only [e33_0, e33_1, e33_2, e33_6, e33_9, e33_10, e33_13, e33_16, e33_17, e33_18, e33_21, e33_24, e33_27, e33_30, e33_31, e33_32, e33_35, e33_37, e33_38, e33_39, e33_40, e33_43, e33_46, e33_47, e33_49, e33_50, e33_53, e33_54, e33_55, e33_58, e33_59, e33_60, e33_63, e33_66, e33_67, e33_68, e33_71, e33_72, e33_75, e33_76, e33_77, e33_80, e33_83, e33_86, e33_89, e33_92, ct_i, ct_r, ct_n, ct_h, opt_v, opt_s, ref_s, ref_n, eq_self_iff_true, true_or, or_true, zl0, zl1, zl2, zl3, zl4, zl5, zl6, zl7, zl8, zl9, zl10, zl16, zl32, zl40, zl100, zl160, zIc1, zI_lt, zI_le, nI_eq, nI_add, z_sub, nI_clamp, zI_of, uu_eq, uu_ne, Nat.reduceLT, Nat.reduceLeDiff, Nat.reduceEqDiff, Nat.reduceAdd, Nat.reduceSub, Nat.reduceMul, Nat.not_lt_zero, Nat.lt_irrefl, Nat.le_refl, Bool.false_eq_true, false_and, and_false, true_and, and_true, if_pos, if_neg, if_true, if_false, not_true_eq_false, not_false_eq_true, s1, g2, g4, hc, e258]
    refine H _ (frG_at hf (by omega)) ?_ ?_ ?_ ?_
    · rw [uu_ne _ _ _ _ (by omega)]; exact g2
    · rw [uu_ne _ _ _ _ (by omega)]; exact g4
    · rw [uu_eq, if_pos hc]
    · rw [uu_ne _ _ _ _ (by omega)]; exact g5
  · simp (disch := first | assumption | exact ct_i | exact ct_r | exact ct_n | exact ct_h | omega | exact z_in (by omega) (by omega) | exact b01 | exact Or.inl rfl | exact Or.inr rfl) only [e33_0, e33_1, e33_2, e33_6, e33_9, e33_10, e33_13, e33_16, e33_17, e33_18, e33_21, e33_24, e33_27, e33_30, e33_31, e33_32, e33_35, e33_37, e33_38, e33_39, e33_40, e33_43, e33_46, e33_47, e33_49, e33_50, e33_53, e33_54, e33_55, e33_58, e33_59, e33_60, e33_63, e33_66, e33_67, e33_68, e33_71, e33_72, e33_75, e33_76, e33_77, e33_80, e33_83, e33_86, e33_89, e33_92, ct_i, ct_r, ct_n, ct_h, opt_v, opt_s, ref_s, ref_n, eq_self_iff_true, true_or, or_true, zl0, zl1, zl2, zl3, zl4, zl5, zl6, zl7, zl8, zl9, zl10, zl16, zl32, zl40, zl100, zl160, zIc1, zI_lt, zI_le, nI_eq, nI_add, z_sub, nI_clamp, zI_of, uu_eq, uu_ne, Nat.reduceLT, Nat.reduceLeDiff, Nat.reduceEqDiff, Nat.reduceAdd, Nat.reduceSub, Nat.reduceMul, Nat.not_lt_zero, Nat.lt_irrefl, Nat.le_refl, Bool.false_eq_true, false_and, and_false, true_and, and_true, if_pos, if_neg, if_true, if_false, not_true_eq_false, not_false_eq_true, s1, g2, g4, hc, e257]
    refine H _ (frG_at hf (by omega)) ?_ ?_ ?_ ?_
    · rw [uu_ne _ _ _ _ (by omega)]; exact g2
    · rw [uu_ne _ _ _ _ (by omega)]; exact g4
    · rw [uu_eq, if_neg hc]
    · rw [uu_ne _ _ _ _ (by omega)]; exact g5
theorem k27l (hd : 7 ≤ d) (hK : cK nd sh R) {l1 : Value} {I0 : Nat → Nat → Int32} {p : Nat} (hp : p ≤ s)
    (H : ∀ I', frG I0 I' → I' 11 2 = nI (sk tp s isB p) → tpC tp s I' → aE (a_cl_ d) 27 (50, [.ref 11, l1], [], (n, t, sh, I', L, R)) Q) :
    ∀ m a I, a + m = s → p ≤ a → sk tp s isB p = sk tp s isB a → frG I0 I → tpC tp s I → I 11 2 = nI a →
    aE (a_cl_ d) 27 (0, [.ref 11, l1], [], (n, t, sh, I, L, R)) Q := by
  obtain ⟨h1, h2, h3, h4⟩ := cPq hK
  have e32 : (32 : Int32) = nI 32 := rfl
  have e10 : (10 : Int32) = nI 10 := rfl
  intro m
  induction m with
  | zero =>
    intro a I ha hpa hsk hf hT h5
    obtain rfl : a = s := by omega
    have hs := hT.1
    have h0 := hT.2.2.1
    rw [sk_end (Nat.le_refl _)] at hsk
    rw [e27_0]
    simp (disch := first | assumption | exact ct_i | exact ct_r | exact ct_n | exact ct_h | omega | exact z_in (by omega) (by omega) | exact b01 | exact Or.inl rfl | exact Or.inr rfl) only [e27_1, e27_4, e27_5, e27_8, e27_11, e27_12, e27_13, e27_16, e27_19, e27_21, e27_24, e27_25, e27_26, e27_29, e27_32, e27_34, e27_37, e27_38, e27_39, e27_42, e27_43, e27_44, e27_47, e27_51, e27_52, e27_55, e27_58, e27_59, e27_60, e27_63, e27_66, e27_67, e27_68, e27_71, e27_74, e27_75, e27_78, e27_81, e27_84, e27_85, e27_88, e27_91, e27_92, e27_95, e27_98, e27_99, e27_102, e27_105, e27_106, e27_109, e27_112, e27_113, e27_114, e27_117, e27_120, e27_121, e27_124, e27_127, e27_130, e27_131, e27_132, e27_135, e27_136, e27_137, e27_140, ct_i, ct_r, ct_n, ct_h, opt_v, opt_s, ref_s, ref_n, eq_self_iff_true, true_or, or_true, zl0, zl1, zl2, zl3, zl4, zl5, zl6, zl7, zl8, zl9, zl10, zl16, zl32, zl40, zl100, zl160, zIc1, zI_lt, zI_le, nI_eq, nI_add, z_sub, nI_clamp, zI_of, uu_eq, uu_ne, Nat.reduceLT, Nat.reduceLeDiff, Nat.reduceEqDiff, Nat.reduceAdd, Nat.reduceSub, Nat.reduceMul, Nat.not_lt_zero, Nat.lt_irrefl, Nat.le_refl, Bool.false_eq_true, false_and, and_false, true_and, and_true, if_pos, if_neg, if_true, if_false, not_true_eq_false, not_false_eq_true, h1, h5, h0]
    exact H I hf (h5.trans (by rw [hsk])) hT
  | succ m ih =>
    intro a I ha hpa hsk hf hT h5
    have hs := hT.1
    have h0 := hT.2.2.1
    have hlt : a < s := by omega
    have hb := hT.2.1 a hlt
    have hB : isB (tp a) = true ↔ tp a = 32 ∨ tp a = 10 := by simp [isB]
    rw [e27_0]
    have go : isB (tp a) = true → aE (a_cl_ d) 27 (0, [.ref 11, l1], [], (n, t, sh, u2 I 11 2 (nI (a + 1)), L, R)) Q := fun hL =>
      ih (a + 1) _ (by omega) (by omega) (by rw [hsk, sk_step hlt hL]) (frG_at hf (by omega)) (tpC_at hT (by omega)) (uu_eq _ _ _ _)
    by_cases c1 : tp a = 32
    · have := go (hB.mpr (Or.inl c1))
      simp (disch := first | assumption | exact ct_i | exact ct_r | exact ct_n | exact ct_h | omega | exact z_in (by omega) (by omega) | exact b01 | exact Or.inl rfl | exact Or.inr rfl) only [e27_1, e27_4, e27_5, e27_8, e27_11, e27_12, e27_13, e27_16, e27_19, e27_21, e27_24, e27_25, e27_26, e27_29, e27_32, e27_34, e27_37, e27_38, e27_39, e27_42, e27_43, e27_44, e27_47, e27_51, e27_52, e27_55, e27_58, e27_59, e27_60, e27_63, e27_66, e27_67, e27_68, e27_71, e27_74, e27_75, e27_78, e27_81, e27_84, e27_85, e27_88, e27_91, e27_92, e27_95, e27_98, e27_99, e27_102, e27_105, e27_106, e27_109, e27_112, e27_113, e27_114, e27_117, e27_120, e27_121, e27_124, e27_127, e27_130, e27_131, e27_132, e27_135, e27_136, e27_137, e27_140, ct_i, ct_r, ct_n, ct_h, opt_v, opt_s, ref_s, ref_n, eq_self_iff_true, true_or, or_true, zl0, zl1, zl2, zl3, zl4, zl5, zl6, zl7, zl8, zl9, zl10, zl16, zl32, zl40, zl100, zl160, zIc1, zI_lt, zI_le, nI_eq, nI_add, z_sub, nI_clamp, zI_of, uu_eq, uu_ne, Nat.reduceLT, Nat.reduceLeDiff, Nat.reduceEqDiff, Nat.reduceAdd, Nat.reduceSub, Nat.reduceMul, Nat.not_lt_zero, Nat.lt_irrefl, Nat.le_refl, Bool.false_eq_true, false_and, and_false, true_and, and_true, if_pos, if_neg, if_true, if_false, not_true_eq_false, not_false_eq_true, h1, h5, h0, k28 (show 1 ≤ d by omega) hK hT (show a < 2000 by omega), bk_in hlt, e32, e10, c1]
      exact this
    · by_cases c2 : tp a = 10
      · have := go (hB.mpr (Or.inr c2))
        simp (disch := first | assumption | exact ct_i | exact ct_r | exact ct_n | exact ct_h | omega | exact z_in (by omega) (by omega) | exact b01 | exact Or.inl rfl | exact Or.inr rfl) only [e27_1, e27_4, e27_5, e27_8, e27_11, e27_12, e27_13, e27_16, e27_19, e27_21, e27_24, e27_25, e27_26, e27_29, e27_32, e27_34, e27_37, e27_38, e27_39, e27_42, e27_43, e27_44, e27_47, e27_51, e27_52, e27_55, e27_58, e27_59, e27_60, e27_63, e27_66, e27_67, e27_68, e27_71, e27_74, e27_75, e27_78, e27_81, e27_84, e27_85, e27_88, e27_91, e27_92, e27_95, e27_98, e27_99, e27_102, e27_105, e27_106, e27_109, e27_112, e27_113, e27_114, e27_117, e27_120, e27_121, e27_124, e27_127, e27_130, e27_131, e27_132, e27_135, e27_136, e27_137, e27_140, ct_i, ct_r, ct_n, ct_h, opt_v, opt_s, ref_s, ref_n, eq_self_iff_true, true_or, or_true, zl0, zl1, zl2, zl3, zl4, zl5, zl6, zl7, zl8, zl9, zl10, zl16, zl32, zl40, zl100, zl160, zIc1, zI_lt, zI_le, nI_eq, nI_add, z_sub, nI_clamp, zI_of, uu_eq, uu_ne, Nat.reduceLT, Nat.reduceLeDiff, Nat.reduceEqDiff, Nat.reduceAdd, Nat.reduceSub, Nat.reduceMul, Nat.not_lt_zero, Nat.lt_irrefl, Nat.le_refl, Bool.false_eq_true, false_and, and_false, true_and, and_true, if_pos, if_neg, if_true, if_false, not_true_eq_false, not_false_eq_true, h1, h5, h0, k28 (show 1 ≤ d by omega) hK hT (show a < 2000 by omega), bk_in hlt, e32, e10, c2]
        exact this
      · have hnB : ¬ isB (tp a) = true := fun h => by have := hB.mp h; omega
        rw [sk_stop hnB] at hsk
        simp (disch := first | assumption | exact ct_i | exact ct_r | exact ct_n | exact ct_h | omega | exact z_in (by omega) (by omega) | exact b01 | exact Or.inl rfl | exact Or.inr rfl) only [e27_1, e27_4, e27_5, e27_8, e27_11, e27_12, e27_13, e27_16, e27_19, e27_21, e27_24, e27_25, e27_26, e27_29, e27_32, e27_34, e27_37, e27_38, e27_39, e27_42, e27_43, e27_44, e27_47, e27_51, e27_52, e27_55, e27_58, e27_59, e27_60, e27_63, e27_66, e27_67, e27_68, e27_71, e27_74, e27_75, e27_78, e27_81, e27_84, e27_85, e27_88, e27_91, e27_92, e27_95, e27_98, e27_99, e27_102, e27_105, e27_106, e27_109, e27_112, e27_113, e27_114, e27_117, e27_120, e27_121, e27_124, e27_127, e27_130, e27_131, e27_132, e27_135, e27_136, e27_137, e27_140, ct_i, ct_r, ct_n, ct_h, opt_v, opt_s, ref_s, ref_n, eq_self_iff_true, true_or, or_true, zl0, zl1, zl2, zl3, zl4, zl5, zl6, zl7, zl8, zl9, zl10, zl16, zl32, zl40, zl100, zl160, zIc1, zI_lt, zI_le, nI_eq, nI_add, z_sub, nI_clamp, zI_of, uu_eq, uu_ne, Nat.reduceLT, Nat.reduceLeDiff, Nat.reduceEqDiff, Nat.reduceAdd, Nat.reduceSub, Nat.reduceMul, Nat.not_lt_zero, Nat.lt_irrefl, Nat.le_refl, Bool.false_eq_true, false_and, and_false, true_and, and_true, if_pos, if_neg, if_true, if_false, not_true_eq_false, not_false_eq_true, h1, h5, h0, k28 (show 1 ≤ d by omega) hK hT (show a < 2000 by omega), bk_in hlt, e32, e10, c1, c2]
        exact H I hf (h5.trans (by rw [hsk])) hT
theorem k27 (hd : 9 ≤ d) (hK : cK nd sh R) (hs : ∀ x, 1000000 ≤ x → sh x = (999, 0)) {I : Nat → Nat → Int32} (hT : tpC tp s I) {a : Nat} (ha : a ≤ s) (h2 : I 11 2 = nI a)
    (H : ∀ I', frG I I' → rS tp s (sk tp s isB a) I' → Q none (n, t, sh, I', L, R)) : aC d 27 [.ref 11] (n, t, sh, I, L, R) Q := by
  obtain ⟨d, rfl⟩ : ∃ e, d = e + 1 := ⟨d - 1, by omega⟩
  obtain ⟨s1, s2, s3, s4⟩ := cPq hK
  have h160 := hT.1
  have e256 : (256 : Int32) = nI 256 := rfl
  have e257 : (257 : Int32) = nI 257 := rfl
  simp (disch := first | assumption | exact ct_i | exact ct_r | exact ct_n | exact ct_h | omega | exact z_in (by omega) (by omega) | exact b01 | exact Or.inl rfl | exact Or.inr rfl) only [b27, ct_i, ct_r, ct_n, ct_h, opt_v, opt_s, ref_s, ref_n, eq_self_iff_true, true_or, or_true]
  refine k27l (I0 := I) (show 7 ≤ d by omega) hK ha (fun I' hf g2 hT' => ?_) (s - a) a I (by omega) (Nat.le_refl _) rfl (frG_0 I) hT h2
  have hps := sk_le (tp := tp) (P := isB) ha
  revert H g2
  generalize sk tp s isB a = p at *
  intro H g2
  have hk28 : ∀ Q : Option Value → aH → Prop, aC d 28 [.ref 11, .int (nI p)] (n, t, sh, u2 I' 11 4 (nI p), L, R) Q ↔ Q (some (.int (nI (bk tp s p)))) (n, t, sh, u2 I' 11 4 (nI p), L, R) := fun Q => k28 (show 1 ≤ d by omega) hK (tpC_at hT' (by omega)) (show p < 2000 by omega)
  by_cases hlt : p < s
  · have hb := hT'.2.1 p hlt
    rw [show bk tp s p = tp p from bk_in hlt] at hk28
    by_cases hL : isL (tp p) = true
    · simp (disch := first | assumption | exact ct_i | exact ct_r | exact ct_n | exact ct_h | omega | exact z_in (by omega) (by omega) | exact b01 | exact Or.inl rfl | exact Or.inr rfl) only [e27_1, e27_4, e27_5, e27_8, e27_11, e27_12, e27_13, e27_16, e27_19, e27_21, e27_24, e27_25, e27_26, e27_29, e27_32, e27_34, e27_37, e27_38, e27_39, e27_42, e27_43, e27_44, e27_47, e27_50, e27_51, e27_52, e27_55, e27_58, e27_59, e27_60, e27_63, e27_66, e27_67, e27_68, e27_71, e27_74, e27_75, e27_78, e27_81, e27_84, e27_85, e27_88, e27_91, e27_92, e27_95, e27_98, e27_99, e27_102, e27_105, e27_106, e27_109, e27_112, e27_113, e27_114, e27_117, e27_120, e27_121, e27_124, e27_127, e27_130, e27_131, e27_132, e27_135, e27_136, e27_137, e27_140, ct_i, ct_r, ct_n, ct_h, opt_v, opt_s, ref_s, ref_n, eq_self_iff_true, true_or, or_true, zl0, zl1, zl2, zl3, zl4, zl5, zl6, zl7, zl8, zl9, zl10, zl16, zl32, zl40, zl100, zl160, zIc1, zI_lt, zI_le, nI_eq, nI_add, z_sub, nI_clamp, zI_of, uu_eq, uu_ne, Nat.reduceLT, Nat.reduceLeDiff, Nat.reduceEqDiff, Nat.reduceAdd, Nat.reduceSub, Nat.reduceMul, Nat.not_lt_zero, Nat.lt_irrefl, Nat.le_refl, Bool.false_eq_true, false_and, and_false, true_and, and_true, if_pos, if_neg, if_true, if_false, not_true_eq_false, not_false_eq_true, s1, g2, e256, e257, hk28, k29 (show 1 ≤ d by omega) (show tp p < 2000 by omega), hL]
      refine k30 (show 8 ≤ d by omega) hK hs (tpC_at hT' (by omega)) hps (by rw [uu_ne _ _ _ _ (by omega)]; exact g2) (uu_eq _ _ _ _) (fun I2 f2 q2 q4 q3 => ?_)
      simp (disch := first | assumption | exact ct_i | exact ct_r | exact ct_n | exact ct_h | omega | exact z_in (by omega) (by omega) | exact b01 | exact Or.inl rfl | exact Or.inr rfl) only [e27_1, e27_4, e27_5, e27_8, e27_11, e27_12, e27_13, e27_16, e27_19, e27_21, e27_24, e27_25, e27_26, e27_29, e27_32, e27_34, e27_37, e27_38, e27_39, e27_42, e27_43, e27_44, e27_47, e27_50, e27_51, e27_52, e27_55, e27_58, e27_59, e27_60, e27_63, e27_66, e27_67, e27_68, e27_71, e27_74, e27_75, e27_78, e27_81, e27_84, e27_85, e27_88, e27_91, e27_92, e27_95, e27_98, e27_99, e27_102, e27_105, e27_106, e27_109, e27_112, e27_113, e27_114, e27_117, e27_120, e27_121, e27_124, e27_127, e27_130, e27_131, e27_132, e27_135, e27_136, e27_137, e27_140, ct_i, ct_r, ct_n, ct_h, opt_v, opt_s, ref_s, ref_n, eq_self_iff_true, true_or, or_true]
      refine H I2 (fun x k h => (f2 x k h).trans (frG_at hf (by omega) x k h)) ⟨hps, ?_, ?_, q4, ?_⟩
      · rw [q2]; unfold te; rw [if_pos hlt, if_pos hL]
      · rw [q3]; unfold tk; rw [if_pos hlt, if_pos hL]
      · intro hc
        unfold tk at hc
        rw [if_pos hlt, if_pos hL] at hc
        have := wdT_c (tp := tp) (s := s) (p := p)
        omega
    · by_cases hD : isD (tp p) = true
      · simp (disch := first | assumption | exact ct_i | exact ct_r | exact ct_n | exact ct_h | omega | exact z_in (by omega) (by omega) | exact b01 | exact Or.inl rfl | exact Or.inr rfl) only [e27_1, e27_4, e27_5, e27_8, e27_11, e27_12, e27_13, e27_16, e27_19, e27_21, e27_24, e27_25, e27_26, e27_29, e27_32, e27_34, e27_37, e27_38, e27_39, e27_42, e27_43, e27_44, e27_47, e27_50, e27_51, e27_52, e27_55, e27_58, e27_59, e27_60, e27_63, e27_66, e27_67, e27_68, e27_71, e27_74, e27_75, e27_78, e27_81, e27_84, e27_85, e27_88, e27_91, e27_92, e27_95, e27_98, e27_99, e27_102, e27_105, e27_106, e27_109, e27_112, e27_113, e27_114, e27_117, e27_120, e27_121, e27_124, e27_127, e27_130, e27_131, e27_132, e27_135, e27_136, e27_137, e27_140, ct_i, ct_r, ct_n, ct_h, opt_v, opt_s, ref_s, ref_n, eq_self_iff_true, true_or, or_true, zl0, zl1, zl2, zl3, zl4, zl5, zl6, zl7, zl8, zl9, zl10, zl16, zl32, zl40, zl100, zl160, zIc1, zI_lt, zI_le, nI_eq, nI_add, z_sub, nI_clamp, zI_of, uu_eq, uu_ne, Nat.reduceLT, Nat.reduceLeDiff, Nat.reduceEqDiff, Nat.reduceAdd, Nat.reduceSub, Nat.reduceMul, Nat.not_lt_zero, Nat.lt_irrefl, Nat.le_refl, Bool.false_eq_true, false_and, and_false, true_and, and_true, if_pos, if_neg, if_true, if_false, not_true_eq_false, not_false_eq_true, s1, g2, e256, e257, hk28, k29 (show 1 ≤ d by omega) (show tp p < 2000 by omega), hL, k32 (show 1 ≤ d by omega) (show tp p < 2000 by omega), hD]
        refine k33 (show 8 ≤ d by omega) hK (tpC_at hT' (by omega)) hps (by rw [uu_ne _ _ _ _ (by omega)]; exact g2) (uu_eq _ _ _ _) (fun I2 f2 q2 q4 q3 q5 => ?_)
        simp (disch := first | assumption | exact ct_i | exact ct_r | exact ct_n | exact ct_h | omega | exact z_in (by omega) (by omega) | exact b01 | exact Or.inl rfl | exact Or.inr rfl) only [e27_1, e27_4, e27_5, e27_8, e27_11, e27_12, e27_13, e27_16, e27_19, e27_21, e27_24, e27_25, e27_26, e27_29, e27_32, e27_34, e27_37, e27_38, e27_39, e27_42, e27_43, e27_44, e27_47, e27_50, e27_51, e27_52, e27_55, e27_58, e27_59, e27_60, e27_63, e27_66, e27_67, e27_68, e27_71, e27_74, e27_75, e27_78, e27_81, e27_84, e27_85, e27_88, e27_91, e27_92, e27_95, e27_98, e27_99, e27_102, e27_105, e27_106, e27_109, e27_112, e27_113, e27_114, e27_117, e27_120, e27_121, e27_124, e27_127, e27_130, e27_131, e27_132, e27_135, e27_136, e27_137, e27_140, ct_i, ct_r, ct_n, ct_h, opt_v, opt_s, ref_s, ref_n, eq_self_iff_true, true_or, or_true]
        refine H I2 (fun x k h => (f2 x k h).trans (frG_at hf (by omega) x k h)) ⟨hps, ?_, ?_, q4, fun _ => q5⟩
        · rw [q2]; unfold te; rw [if_pos hlt, if_neg hL, if_pos hD]
        · rw [q3]; unfold tk; rw [if_pos hlt, if_neg hL, if_pos hD]
      · have hte : te tp s p = p + 1 := by unfold te; rw [if_pos hlt, if_neg hL, if_neg hD]
        by_cases hS : isS (tp p) = true
        · have htk : tk tp s p = tp p := by unfold tk; rw [if_pos hlt, if_neg hL, if_neg hD, if_pos hS]
          simp (disch := first | assumption | exact ct_i | exact ct_r | exact ct_n | exact ct_h | omega | exact z_in (by omega) (by omega) | exact b01 | exact Or.inl rfl | exact Or.inr rfl) only [e27_1, e27_4, e27_5, e27_8, e27_11, e27_12, e27_13, e27_16, e27_19, e27_21, e27_24, e27_25, e27_26, e27_29, e27_32, e27_34, e27_37, e27_38, e27_39, e27_42, e27_43, e27_44, e27_47, e27_50, e27_51, e27_52, e27_55, e27_58, e27_59, e27_60, e27_63, e27_66, e27_67, e27_68, e27_71, e27_74, e27_75, e27_78, e27_81, e27_84, e27_85, e27_88, e27_91, e27_92, e27_95, e27_98, e27_99, e27_102, e27_105, e27_106, e27_109, e27_112, e27_113, e27_114, e27_117, e27_120, e27_121, e27_124, e27_127, e27_130, e27_131, e27_132, e27_135, e27_136, e27_137, e27_140, ct_i, ct_r, ct_n, ct_h, opt_v, opt_s, ref_s, ref_n, eq_self_iff_true, true_or, or_true, zl0, zl1, zl2, zl3, zl4, zl5, zl6, zl7, zl8, zl9, zl10, zl16, zl32, zl40, zl100, zl160, zIc1, zI_lt, zI_le, nI_eq, nI_add, z_sub, nI_clamp, zI_of, uu_eq, uu_ne, Nat.reduceLT, Nat.reduceLeDiff, Nat.reduceEqDiff, Nat.reduceAdd, Nat.reduceSub, Nat.reduceMul, Nat.not_lt_zero, Nat.lt_irrefl, Nat.le_refl, Bool.false_eq_true, false_and, and_false, true_and, and_true, if_pos, if_neg, if_true, if_false, not_true_eq_false, not_false_eq_true, s1, g2, e256, e257, hk28, k29 (show 1 ≤ d by omega) (show tp p < 2000 by omega), hL, k32 (show 1 ≤ d by omega) (show tp p < 2000 by omega), hD, k34 (show 5 ≤ d by omega) hs (show tp p < 2000 by omega), hS]
          refine H _ (frG_at (frG_at (frG_at hf (by omega)) (by omega)) (by omega)) ⟨hps, ?_, ?_, ?_, fun hc => ?_⟩
          · rw [uu_eq, hte]
          · simp (disch := omega) only [uu_ne, uu_eq]; rw [htk]
          · simp (disch := omega) only [uu_ne, uu_eq]
          · omega
        · have htk : tk tp s p = 257 := by unfold tk; rw [if_pos hlt, if_neg hL, if_neg hD, if_neg hS]
          simp (disch := first | assumption | exact ct_i | exact ct_r | exact ct_n | exact ct_h | omega | exact z_in (by omega) (by omega) | exact b01 | exact Or.inl rfl | exact Or.inr rfl) only [e27_1, e27_4, e27_5, e27_8, e27_11, e27_12, e27_13, e27_16, e27_19, e27_21, e27_24, e27_25, e27_26, e27_29, e27_32, e27_34, e27_37, e27_38, e27_39, e27_42, e27_43, e27_44, e27_47, e27_50, e27_51, e27_52, e27_55, e27_58, e27_59, e27_60, e27_63, e27_66, e27_67, e27_68, e27_71, e27_74, e27_75, e27_78, e27_81, e27_84, e27_85, e27_88, e27_91, e27_92, e27_95, e27_98, e27_99, e27_102, e27_105, e27_106, e27_109, e27_112, e27_113, e27_114, e27_117, e27_120, e27_121, e27_124, e27_127, e27_130, e27_131, e27_132, e27_135, e27_136, e27_137, e27_140, ct_i, ct_r, ct_n, ct_h, opt_v, opt_s, ref_s, ref_n, eq_self_iff_true, true_or, or_true, zl0, zl1, zl2, zl3, zl4, zl5, zl6, zl7, zl8, zl9, zl10, zl16, zl32, zl40, zl100, zl160, zIc1, zI_lt, zI_le, nI_eq, nI_add, z_sub, nI_clamp, zI_of, uu_eq, uu_ne, Nat.reduceLT, Nat.reduceLeDiff, Nat.reduceEqDiff, Nat.reduceAdd, Nat.reduceSub, Nat.reduceMul, Nat.not_lt_zero, Nat.lt_irrefl, Nat.le_refl, Bool.false_eq_true, false_and, and_false, true_and, and_true, if_pos, if_neg, if_true, if_false, not_true_eq_false, not_false_eq_true, s1, g2, e256, e257, hk28, k29 (show 1 ≤ d by omega) (show tp p < 2000 by omega), hL, k32 (show 1 ≤ d by omega) (show tp p < 2000 by omega), hD, k34 (show 5 ≤ d by omega) hs (show tp p < 2000 by omega), hS]
          refine H _ (frG_at (frG_at (frG_at hf (by omega)) (by omega)) (by omega)) ⟨hps, ?_, ?_, ?_, fun hc => ?_⟩
          · rw [uu_eq, hte]
          · simp (disch := omega) only [uu_ne, uu_eq]; rw [htk]
          · simp (disch := omega) only [uu_ne, uu_eq]
          · omega
  · rw [show bk tp s p = 256 from if_neg hlt] at hk28
    have hte : te tp s p = p := by unfold te; rw [if_neg hlt]
    have htk := tk_end (tp := tp) hlt
    simp (disch := first | assumption | exact ct_i | exact ct_r | exact ct_n | exact ct_h | omega | exact z_in (by omega) (by omega) | exact b01 | exact Or.inl rfl | exact Or.inr rfl) only [e27_1, e27_4, e27_5, e27_8, e27_11, e27_12, e27_13, e27_16, e27_19, e27_21, e27_24, e27_25, e27_26, e27_29, e27_32, e27_34, e27_37, e27_38, e27_39, e27_42, e27_43, e27_44, e27_47, e27_50, e27_51, e27_52, e27_55, e27_58, e27_59, e27_60, e27_63, e27_66, e27_67, e27_68, e27_71, e27_74, e27_75, e27_78, e27_81, e27_84, e27_85, e27_88, e27_91, e27_92, e27_95, e27_98, e27_99, e27_102, e27_105, e27_106, e27_109, e27_112, e27_113, e27_114, e27_117, e27_120, e27_121, e27_124, e27_127, e27_130, e27_131, e27_132, e27_135, e27_136, e27_137, e27_140, ct_i, ct_r, ct_n, ct_h, opt_v, opt_s, ref_s, ref_n, eq_self_iff_true, true_or, or_true, zl0, zl1, zl2, zl3, zl4, zl5, zl6, zl7, zl8, zl9, zl10, zl16, zl32, zl40, zl100, zl160, zIc1, zI_lt, zI_le, nI_eq, nI_add, z_sub, nI_clamp, zI_of, uu_eq, uu_ne, Nat.reduceLT, Nat.reduceLeDiff, Nat.reduceEqDiff, Nat.reduceAdd, Nat.reduceSub, Nat.reduceMul, Nat.not_lt_zero, Nat.lt_irrefl, Nat.le_refl, Bool.false_eq_true, false_and, and_false, true_and, and_true, if_pos, if_neg, if_true, if_false, not_true_eq_false, not_false_eq_true, s1, g2, e256, e257, hk28]
    refine H _ (frG_at (frG_at hf (by omega)) (by omega)) ⟨hps, ?_, ?_, ?_, fun hc => ?_⟩
    · simp (disch := omega) only [uu_ne, uu_eq]; rw [hte]; exact g2
    · simp (disch := omega) only [uu_ne, uu_eq]; rw [htk]
    · simp (disch := omega) only [uu_ne, uu_eq]
    · omega
end
