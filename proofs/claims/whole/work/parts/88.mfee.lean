/-! the model's call: feed -/
theorem byN_m {b : Int64} {i : Nat} : ((b >>> ((nI (8 * i)).toInt64 &&& 63)) &&& 255).toInt32 = nI (byN b i) := by
  rw [Int64.toInt32_and, ← byN_c]
  rfl
section
variable {T0 : Nat} {Z : Nat → Nat} {D : Nat → Nat → Nat} {tx : Nat → Nat → List Nat} {tp so sz : Nat → Nat} {it : Nat → Nat → Int32} {d : Nat} {n t : Nat} {sh : Nat → Nat × Nat} {I : Nat → Nat → Int32} {L : Nat → Nat → Int64} {R : Nat → Nat → Option Nat} {I' : Nat → Nat → Int32} {Q : Option Value → aH → Prop}
theorem okS_tape (h : okS Z D tx tp so sz) (h160 : Z 5 < 160) {c : Nat} (hc : c < 256) : okS (u1 Z 5 (Z 5 + 1)) D tx (u1 tp (Z 5) c) so sz := by
  obtain ⟨o1, ⟨o2, hB⟩, o3, o4, o5, o6, o7⟩ := h
  simp (disch := omega) only [okS, u1_ne, u1_eq]
  refine ⟨o1, ⟨o2, hB⟩, o3, o4, ⟨by omega, fun k hk => ?_⟩, o6, o7⟩
  by_cases h : k = Z 5
  · subst h; rw [u1_eq]; exact hc
  · rw [u1_ne _ _ _ h]; exact o5.2 k (by omega)
/-- where only the tape changes -/
theorem MI_tp {Z' tp' : Nat → Nat} (h : MI Z D tx tp so sz it I) (hz : ∀ k, ¬ k = 5 → Z' k = Z k) (e : ∀ x k, ¬ (x = 0 ∧ k = 15 ∨ x = 9) → I' x k = I x k) (h5 : I' 0 15 = nI (Z' 5)) (h9 : ∀ k, k < Z' 5 → I' 9 k = nI (tp' k)) : MI Z' D tx tp' so sz it I' := by
  obtain ⟨⟨a1, a2⟩, ⟨b1, b2, b3⟩, c1, ⟨d1, d2⟩, ⟨e1, e2⟩, f1, ⟨g1, g2⟩, i1, j1⟩ := h
  unfold MI
  simp (disch := omega) only [hz]
  refine ⟨⟨?_, fun d hd => ⟨?_, ?_, ?_, ?_⟩⟩, ⟨?_, ?_, ?_⟩, fun d hd => ⟨?_, ?_⟩, ⟨h5, h9⟩, ⟨?_, ?_⟩, fun i hi => ?_, ⟨?_, fun hq => ?_⟩, fun j hj => ⟨?_, ?_, fun k hk => ?_⟩, fun j hj => ?_⟩
  · exact (e _ _ (by omega)).trans a1
  · exact (e _ _ (by omega)).trans (a2 d hd).1
  · exact (e _ _ (by omega)).trans (a2 d hd).2.1
  · exact (e _ _ (by omega)).trans (a2 d hd).2.2.1
  · exact (e _ _ (by omega)).trans (a2 d hd).2.2.2
  · exact (e _ _ (by omega)).trans b1
  · exact (e _ _ (by omega)).trans b2
  · exact (e _ _ (by omega)).trans b3
  · exact (e _ _ (by omega)).trans (c1 d hd).1
  · exact (e _ _ (by omega)).trans (c1 d hd).2
  · exact (e _ _ (by omega)).trans e1
  · exact (e _ _ (by omega)).trans e2
  · exact txM_fr (f1 i hi) (fun x k hx => e x k (by omega))
  · exact (e _ _ (by omega)).trans g1
  · obtain ⟨⟨q1, q2, q3, q4⟩, q5⟩ := g2 hq
    exact ⟨⟨(e _ _ (by omega)).trans q1, (e _ _ (by omega)).trans q2, (e _ _ (by omega)).trans q3, (e _ _ (by omega)).trans q4⟩, fun d hd => (e _ _ (by omega)).trans (q5 d hd)⟩
  · exact (e _ _ (by omega)).trans (i1 j hj).1
  · exact (e _ _ (by omega)).trans (i1 j hj).2.1
  · exact (e _ _ (by omega)).trans ((i1 j hj).2.2 k hk)
  · exact (e _ _ (by omega)).trans (j1 j hj)
theorem RM_tape (hk : RM T0 Z D tx tp so sz it (n, t, sh, I, L, R)) (h160 : Z 5 < 160) {c : Nat} (hc : c < 256) : RM T0 (u1 Z 5 (Z 5 + 1)) D tx (u1 tp (Z 5) c) so sz it (n, t, sh, u2 (u2 I 9 (Z 5) (nI c)) 0 15 (nI (Z 5 + 1)), L, R) := by
  refine ⟨okS_tape hk.1 h160 hc, hk.2.1, hk.2.2.1, hk.2.2.2.1, MI_tp hk.2.2.2.2 (fun k hk => u1_ne _ _ _ hk) (fun x k hx => ?_) ?_ (fun k hk' => ?_)⟩
  all_goals try dsimp only
  · simp (disch := omega) only [uu_ne]
  · rw [u1_eq, uu_eq]
  · rw [u1_eq] at hk'
    rw [uu_ne _ _ _ _ (by omega)]
    by_cases h : k = Z 5
    · subst h; rw [uu_eq, u1_eq]
    · rw [uu_ne _ _ _ _ (by omega), u1_ne _ _ _ h]; exact hk.2.2.2.2.2.2.2.1.2 k (by omega)
theorem k136l {m0 : Nat} (hm0 : m0 ≤ 8) {b : Int64} {v : (Nat → Nat) × (Nat → Nat)} (H : ∀ h', RM T0 v.1 D tx v.2 so sz it h' → Q (some (.int (nI (v.1 5)))) h') : ∀ m i Z tp h, i + m = m0 → Z 5 + m ≤ 160 → RM T0 Z D tx tp so sz it h → feF b m i Z tp = v →
    aE (a_cl_ d) 136 (33, [.ref 0, .int (nI m0), .long b, a_hole, .int (nI i)], [], h) Q := by
  intro m
  induction m with
  | zero =>
    rintro i Z tp ⟨n, t, sh, I, L, R⟩ hi h160 hk hv
    obtain rfl : i = m0 := by omega
    simp only [feF] at hv
    subst hv
    have hM := hk.2.2.1
    simp only [] at hM
    have m0 := mm_0 hM
    have h5 := hk.2.2.2.2.2.2.2.1.1
    simp only [] at h5
    have q := H _ hk
    rw [e136_33]
    simp (disch := first | assumption | exact ct_i | exact ct_r | exact ct_n | exact ct_h | omega | exact z_in (by omega) (by omega) | exact b01 | exact Or.inl rfl | exact Or.inr rfl) only [e136_0, e136_1, e136_2, e136_3, e136_6, e136_9, e136_12, e136_14, e136_15, e136_16, e136_19, e136_20, e136_21, e136_24, e136_27, e136_29, e136_30, e136_31, e136_35, e136_36, e136_39, e136_40, e136_43, e136_44, e136_47, e136_48, e136_50, e136_52, e136_53, e136_54, e136_57, e136_58, e136_59, e136_60, e136_61, e136_62, e136_65, e136_66, e136_67, e136_70, e136_73, e136_76, e136_77, e136_80, ct_i, ct_r, ct_n, ct_h, opt_v, opt_s, ref_s, ref_n, eq_self_iff_true, true_or, or_true, zl0, zl1, zl2, zl3, zl4, zl5, zl6, zl7, zl8, zl9, zl10, zl16, zl32, zl40, zl100, zl160, zIc1, zI_lt, zI_le, nI_eq, nI_add, z_sub, nI_clamp, zI_of, uu_eq, uu_ne, Nat.reduceLT, Nat.reduceLeDiff, Nat.reduceEqDiff, Nat.reduceAdd, Nat.reduceSub, Nat.reduceMul, Nat.not_lt_zero, Nat.lt_irrefl, Nat.le_refl, Bool.false_eq_true, false_and, and_false, true_and, and_true, if_pos, if_neg, if_true, if_false, not_true_eq_false, not_false_eq_true, m0, h5]
    exact q
  | succ m ih =>
    rintro i Z tp ⟨n, t, sh, I, L, R⟩ hi h160 hk hv
    simp only [feF] at hv
    have hM := hk.2.2.1
    simp only [] at hM
    have x9 := mm_x9 hM
    have y9 := mm_y9 hM
    have r14 := mm_r14 hM
    have mm := mm_0 hM
    have h5 := hk.2.2.2.2.2.2.2.1.1
    simp only [] at h5
    have hz : Z 5 < 160 := by omega
    have hlt : i < m0 := by omega
    rw [e136_33]
    simp (disch := first | assumption | exact ct_i | exact ct_r | exact ct_n | exact ct_h | omega | exact z_in (by omega) (by omega) | exact b01 | exact Or.inl rfl | exact Or.inr rfl) only [e136_0, e136_1, e136_2, e136_3, e136_6, e136_9, e136_12, e136_14, e136_15, e136_16, e136_19, e136_20, e136_21, e136_24, e136_27, e136_29, e136_30, e136_31, e136_35, e136_36, e136_39, e136_40, e136_43, e136_44, e136_47, e136_48, e136_50, e136_52, e136_53, e136_54, e136_57, e136_58, e136_59, e136_60, e136_61, e136_62, e136_65, e136_66, e136_67, e136_70, e136_73, e136_76, e136_77, e136_80, ct_i, ct_r, ct_n, ct_h, opt_v, opt_s, ref_s, ref_n, eq_self_iff_true, true_or, or_true, zl0, zl1, zl2, zl3, zl4, zl5, zl6, zl7, zl8, zl9, zl10, zl16, zl32, zl40, zl100, zl160, zIc1, zI_lt, zI_le, nI_eq, nI_add, z_sub, nI_clamp, zI_of, uu_eq, uu_ne, Nat.reduceLT, Nat.reduceLeDiff, Nat.reduceEqDiff, Nat.reduceAdd, Nat.reduceSub, Nat.reduceMul, Nat.not_lt_zero, Nat.lt_irrefl, Nat.le_refl, Bool.false_eq_true, false_and, and_false, true_and, and_true, if_pos, if_neg, if_true, if_false, not_true_eq_false, not_false_eq_true, zI_mul, mm, x9, y9, r14, h5, byN_m]
    exact ih (i + 1) _ _ _ (by omega) (by rw [u1_eq]; omega) (RM_tape hk hz byN_lt) hv
theorem k136 (hd : 2 ≤ d) (hk : RM T0 Z D tx tp so sz it (n, t, sh, I, L, R)) {x : Int32} {b : Int64} (H : ∀ h', RMh T0 (feeS Z tp x b).2.1 D tx (feeS Z tp x b).2.2 so sz it h' → Q (some (.int (feeS Z tp x b).1)) h') : aC d 136 [.ref 0, .int x, .long b] (n, t, sh, I, L, R) Q := by
  obtain ⟨d, rfl⟩ : ∃ e, d = e + 1 := ⟨d - 1, by omega⟩
  have hM := hk.2.2.1
  simp only [] at hM
  have mm := mm_0 hM
  have h5 := hk.2.2.2.2.2.2.2.1.1
  simp only [] at h5
  have o5 := hk.1.2.2.2.2.1.1
  have l8 : (8 : Int64) = (nI 8).toInt64 := rfl
  have e1 : (nI 1).toInt = 1 := by decide
  have e8 : (nI 8).toInt = 8 := by decide
  have e9 : (nI 9).toInt = 9 := by decide
  have e0 : (nI 0).toInt = 0 := by decide
  unfold feeS at H
  cases hx : dec x 9 with
  | none =>
    simp only [hx] at H
    have q := H _ hk.2
    have hv : ¬ (nI 1 ≤ x ∧ x ≤ nI 8) := fun h => by
      rw [Int32.le_iff_toInt_le, Int32.le_iff_toInt_le] at h
      rcases dec_none hx with g | g
      · rw [Int32.lt_iff_toInt_lt] at g; omega
      · rw [Int32.le_iff_toInt_le] at g; omega
    simp (disch := first | assumption | exact ct_i | exact ct_r | exact ct_n | exact ct_h | omega | exact z_in (by omega) (by omega) | exact b01 | exact Or.inl rfl | exact Or.inr rfl) only [b136, e136_0, e136_1, e136_2, e136_3, e136_6, e136_9, e136_12, e136_14, e136_15, e136_16, e136_19, e136_20, e136_21, e136_24, e136_27, e136_29, e136_30, e136_31, e136_35, e136_36, e136_39, e136_40, e136_43, e136_44, e136_47, e136_48, e136_50, e136_52, e136_53, e136_54, e136_57, e136_58, e136_59, e136_60, e136_61, e136_62, e136_65, e136_66, e136_67, e136_70, e136_73, e136_76, e136_77, e136_80, ct_i, ct_r, ct_n, ct_h, opt_v, opt_s, ref_s, ref_n, eq_self_iff_true, true_or, or_true, zl0, zl1, zl2, zl3, zl4, zl5, zl6, zl7, zl8, zl9, zl10, zl16, zl32, zl40, zl100, zl160, zIc1, zI_lt, zI_le, nI_eq, nI_add, z_sub, nI_clamp, zI_of, uu_eq, uu_ne, Nat.reduceLT, Nat.reduceLeDiff, Nat.reduceEqDiff, Nat.reduceAdd, Nat.reduceSub, Nat.reduceMul, Nat.not_lt_zero, Nat.lt_irrefl, Nat.le_refl, Bool.false_eq_true, false_and, and_false, true_and, and_true, if_pos, if_neg, if_true, if_false, not_true_eq_false, not_false_eq_true, mm, ll1, l8, k118 (show 1 ≤ d by omega), hv]
    exact q
  | some m =>
    obtain ⟨rfl, hm⟩ := dec_some (by decide) hx
    simp only [hx] at H
    by_cases h0 : m = 0
    · rw [if_pos h0] at H
      have q := H _ hk.2
      subst h0
      have hv : ¬ (nI 1 ≤ nI 0 ∧ nI 0 ≤ nI 8) := by decide
      simp (disch := first | assumption | exact ct_i | exact ct_r | exact ct_n | exact ct_h | omega | exact z_in (by omega) (by omega) | exact b01 | exact Or.inl rfl | exact Or.inr rfl) only [b136, e136_0, e136_1, e136_2, e136_3, e136_6, e136_9, e136_12, e136_14, e136_15, e136_16, e136_19, e136_20, e136_21, e136_24, e136_27, e136_29, e136_30, e136_31, e136_35, e136_36, e136_39, e136_40, e136_43, e136_44, e136_47, e136_48, e136_50, e136_52, e136_53, e136_54, e136_57, e136_58, e136_59, e136_60, e136_61, e136_62, e136_65, e136_66, e136_67, e136_70, e136_73, e136_76, e136_77, e136_80, ct_i, ct_r, ct_n, ct_h, opt_v, opt_s, ref_s, ref_n, eq_self_iff_true, true_or, or_true, zl0, zl1, zl2, zl3, zl4, zl5, zl6, zl7, zl8, zl9, zl10, zl16, zl32, zl40, zl100, zl160, zIc1, zI_lt, zI_le, nI_eq, nI_add, z_sub, nI_clamp, zI_of, uu_eq, uu_ne, Nat.reduceLT, Nat.reduceLeDiff, Nat.reduceEqDiff, Nat.reduceAdd, Nat.reduceSub, Nat.reduceMul, Nat.not_lt_zero, Nat.lt_irrefl, Nat.le_refl, Bool.false_eq_true, false_and, and_false, true_and, and_true, if_pos, if_neg, if_true, if_false, not_true_eq_false, not_false_eq_true, mm, ll1, l8, k118 (show 1 ≤ d by omega), hv]
      exact q
    · rw [if_neg h0] at H
      have hv : nI 1 ≤ nI m ∧ nI m ≤ nI 8 := by
        rw [zI_le (by decide) (by omega), zI_le (by omega) (by decide)]; omega
      by_cases hf : 160 < Z 5 + m
      · rw [if_pos hf] at H
        have q := H _ hk.2
        simp (disch := first | assumption | exact ct_i | exact ct_r | exact ct_n | exact ct_h | omega | exact z_in (by omega) (by omega) | exact b01 | exact Or.inl rfl | exact Or.inr rfl) only [b136, e136_0, e136_1, e136_2, e136_3, e136_6, e136_9, e136_12, e136_14, e136_15, e136_16, e136_19, e136_20, e136_21, e136_24, e136_27, e136_29, e136_30, e136_31, e136_35, e136_36, e136_39, e136_40, e136_43, e136_44, e136_47, e136_48, e136_50, e136_52, e136_53, e136_54, e136_57, e136_58, e136_59, e136_60, e136_61, e136_62, e136_65, e136_66, e136_67, e136_70, e136_73, e136_76, e136_77, e136_80, ct_i, ct_r, ct_n, ct_h, opt_v, opt_s, ref_s, ref_n, eq_self_iff_true, true_or, or_true, zl0, zl1, zl2, zl3, zl4, zl5, zl6, zl7, zl8, zl9, zl10, zl16, zl32, zl40, zl100, zl160, zIc1, zI_lt, zI_le, nI_eq, nI_add, z_sub, nI_clamp, zI_of, uu_eq, uu_ne, Nat.reduceLT, Nat.reduceLeDiff, Nat.reduceEqDiff, Nat.reduceAdd, Nat.reduceSub, Nat.reduceMul, Nat.not_lt_zero, Nat.lt_irrefl, Nat.le_refl, Bool.false_eq_true, false_and, and_false, true_and, and_true, if_pos, if_neg, if_true, if_false, not_true_eq_false, not_false_eq_true, mm, ll1, l8, k118 (show 1 ≤ d by omega), hv, h5]
        exact q
      · rw [if_neg hf] at H
        simp (disch := first | assumption | exact ct_i | exact ct_r | exact ct_n | exact ct_h | omega | exact z_in (by omega) (by omega) | exact b01 | exact Or.inl rfl | exact Or.inr rfl) only [b136, e136_0, e136_1, e136_2, e136_3, e136_6, e136_9, e136_12, e136_14, e136_15, e136_16, e136_19, e136_20, e136_21, e136_24, e136_27, e136_29, e136_30, e136_31, e136_35, e136_36, e136_39, e136_40, e136_43, e136_44, e136_47, e136_48, e136_50, e136_52, e136_53, e136_54, e136_57, e136_58, e136_59, e136_60, e136_61, e136_62, e136_65, e136_66, e136_67, e136_70, e136_73, e136_76, e136_77, e136_80, ct_i, ct_r, ct_n, ct_h, opt_v, opt_s, ref_s, ref_n, eq_self_iff_true, true_or, or_true, zl0, zl1, zl2, zl3, zl4, zl5, zl6, zl7, zl8, zl9, zl10, zl16, zl32, zl40, zl100, zl160, zIc1, zI_lt, zI_le, nI_eq, nI_add, z_sub, nI_clamp, zI_of, uu_eq, uu_ne, Nat.reduceLT, Nat.reduceLeDiff, Nat.reduceEqDiff, Nat.reduceAdd, Nat.reduceSub, Nat.reduceMul, Nat.not_lt_zero, Nat.lt_irrefl, Nat.le_refl, Bool.false_eq_true, false_and, and_false, true_and, and_true, if_pos, if_neg, if_true, if_false, not_true_eq_false, not_false_eq_true, mm, ll1, l8, k118 (show 1 ≤ d by omega), hv, h5]
        refine k136l (show m ≤ 8 by omega) (v := feF b m 0 Z tp) (fun h' hR => ?_) m 0 Z tp _ (by omega) (by omega) hk rfl
        rw [feF_5]
        exact H h' hR.2
end
