/-! the model's situations as one number -/
def zP (nd s : Nat) : Prop := ∀ i, nd ≤ i → i < 4 → stt s i = 0
theorem s_dig {s : Nat} (hs : s < 6144) : (((( rmo s * 4 + tno s) * 4 + stt s 3) * 4 + stt s 2) * 4 + stt s 1) * 4 + stt s 0 = s := by
  simp only [stt, rmo, tno, Nat.reducePow, Nat.div_one]
  omega
section
variable {D : Nat → Nat → Nat} {f : Nat → List Nat} {d nd s r : Nat} {n t : Nat} {sh : Nat → Nat × Nat} {I : Nat → Nat → Int32} {L : Nat → Nat → Int64} {R : Nat → Nat → Option Nat} {Q : Option Value → aH → Prop}
theorem k162s (hM : mK sh R) (h1 : I 0 1 = nI nd) (hn : nd ≤ 4) (hT : thS nd D s I) (hz : zP nd s) {e v : Nat} (he : e < 4) (hv : v < 10000) :
    aE (a_cl_ d) 162 (14, [.ref 0, .int (nI v), .int (nI e)], [], (n, t, sh, I, L, R)) Q ↔ aE (a_cl_ d) 162 (14, [.ref 0, .int (nI (v * 4 + stt s e)), .int (nI e + -nI 1)], [], (n, t, sh, I, L, R)) Q := by
  have m0 := mm_0 hM; have x7 := mm_x7 hM; have y7 := mm_y7 hM; have r10 := mm_r10 hM
  rw [e162_14]
  have hneg : ¬ nI e < nI 0 := fun h => by rw [zI_lt (by omega) (by decide)] at h; omega
  by_cases hlt : e < nd
  · have g := (hT.2.2 e hlt).1
    simp (disch := first | assumption | exact ct_i | exact ct_r | exact ct_n | exact ct_h | omega | exact z_in (by omega) (by omega) | exact b01 | exact Or.inl rfl | exact Or.inr rfl) only [e162_0, e162_1, e162_4, e162_5, e162_6, e162_7, e162_10, e162_11, e162_12, e162_13, e162_15, e162_18, e162_19, e162_20, e162_21, e162_22, e162_23, e162_26, e162_29, e162_30, e162_33, e162_34, e162_35, e162_38, e162_39, e162_40, e162_41, e162_44, e162_47, e162_48, ct_i, ct_r, ct_n, ct_h, opt_v, opt_s, ref_s, ref_n, eq_self_iff_true, true_or, or_true, zl0, zl1, zl2, zl3, zl4, zl5, zl6, zl7, zl8, zl9, zl10, zl16, zl32, zl40, zl100, zl160, zIc1, zI_lt, zI_le, nI_eq, nI_add, z_sub, nI_clamp, zI_of, uu_eq, uu_ne, Nat.reduceLT, Nat.reduceLeDiff, Nat.reduceEqDiff, Nat.reduceAdd, Nat.reduceSub, Nat.reduceMul, Nat.not_lt_zero, Nat.lt_irrefl, Nat.le_refl, Bool.false_eq_true, false_and, and_false, true_and, and_true, if_pos, if_neg, if_true, if_false, not_true_eq_false, not_false_eq_true, zI_mul, zIm1, m0, x7, y7, r10, h1, g, if_neg hneg]
    rw [Nat.mul_comm 4 v]
  · have g := hz e (by omega) he
    simp (disch := first | assumption | exact ct_i | exact ct_r | exact ct_n | exact ct_h | omega | exact z_in (by omega) (by omega) | exact b01 | exact Or.inl rfl | exact Or.inr rfl) only [e162_0, e162_1, e162_4, e162_5, e162_6, e162_7, e162_10, e162_11, e162_12, e162_13, e162_15, e162_18, e162_19, e162_20, e162_21, e162_22, e162_23, e162_26, e162_29, e162_30, e162_33, e162_34, e162_35, e162_38, e162_39, e162_40, e162_41, e162_44, e162_47, e162_48, ct_i, ct_r, ct_n, ct_h, opt_v, opt_s, ref_s, ref_n, eq_self_iff_true, true_or, or_true, zl0, zl1, zl2, zl3, zl4, zl5, zl6, zl7, zl8, zl9, zl10, zl16, zl32, zl40, zl100, zl160, zIc1, zI_lt, zI_le, nI_eq, nI_add, z_sub, nI_clamp, zI_of, uu_eq, uu_ne, Nat.reduceLT, Nat.reduceLeDiff, Nat.reduceEqDiff, Nat.reduceAdd, Nat.reduceSub, Nat.reduceMul, Nat.not_lt_zero, Nat.lt_irrefl, Nat.le_refl, Bool.false_eq_true, false_and, and_false, true_and, and_true, if_pos, if_neg, if_true, if_false, not_true_eq_false, not_false_eq_true, zI_mul, zIm1, m0, x7, y7, r10, h1, g, if_neg hneg]
    rw [Nat.mul_comm 4 v]
theorem k162 (hd : 1 ≤ d) (hM : mK sh R) (h1 : I 0 1 = nI nd) (hn : nd ≤ 4) (hT : thS nd D s I) (hs : s < 6144) (hz : zP nd s) : aC d 162 [.ref 0] (n, t, sh, I, L, R) Q ↔ Q (some (.int (nI s))) (n, t, sh, I, L, R) := by
  obtain ⟨d, rfl⟩ : ∃ e, d = e + 1 := ⟨d - 1, by omega⟩
  have m0 := mm_0 hM
  have t1 := hT.1
  have t2 := hT.2.1
  have hr := rmo_lt hs
  have ht : tno s < 4 := tno_lt
  have l3 : stt s 3 < 4 := stt_lt
  have l2 : stt s 2 < 4 := stt_lt
  have l1 : stt s 1 < 4 := stt_lt
  have l0 : stt s 0 < 4 := stt_lt
  have e32 : nI 3 + -nI 1 = nI 2 := by decide
  have e21 : nI 2 + -nI 1 = nI 1 := by decide
  have e10 : nI 1 + -nI 1 = nI 0 := by decide
  have e0m : nI 0 + -nI 1 = -nI 1 := by decide
  have hneg : -nI 1 < nI 0 := by decide
  simp (disch := first | assumption | exact ct_i | exact ct_r | exact ct_n | exact ct_h | omega | exact z_in (by omega) (by omega) | exact b01 | exact Or.inl rfl | exact Or.inr rfl) only [b162, e162_0, e162_1, e162_4, e162_5, e162_6, e162_7, e162_10, e162_11, e162_12, e162_13, e162_15, e162_18, e162_19, e162_20, e162_21, e162_22, e162_23, e162_26, e162_29, e162_30, e162_33, e162_34, e162_35, e162_38, e162_39, e162_40, e162_41, e162_44, e162_47, e162_48, ct_i, ct_r, ct_n, ct_h, opt_v, opt_s, ref_s, ref_n, eq_self_iff_true, true_or, or_true, zl0, zl1, zl2, zl3, zl4, zl5, zl6, zl7, zl8, zl9, zl10, zl16, zl32, zl40, zl100, zl160, zIc1, zI_lt, zI_le, nI_eq, nI_add, z_sub, nI_clamp, zI_of, uu_eq, uu_ne, Nat.reduceLT, Nat.reduceLeDiff, Nat.reduceEqDiff, Nat.reduceAdd, Nat.reduceSub, Nat.reduceMul, Nat.not_lt_zero, Nat.lt_irrefl, Nat.le_refl, Bool.false_eq_true, false_and, and_false, true_and, and_true, if_pos, if_neg, if_true, if_false, not_true_eq_false, not_false_eq_true, zI_mul, m0, t1, t2]
  rw [k162s hM h1 hn hT hz (by decide) (by omega), e32, k162s hM h1 hn hT hz (by decide) (by omega), e21, k162s hM h1 hn hT hz (by decide) (by omega), e10, k162s hM h1 hn hT hz (by decide) (by omega), e0m, s_dig hs, e162_14]
  simp (disch := first | assumption | exact ct_i | exact ct_r | exact ct_n | exact ct_h | omega | exact z_in (by omega) (by omega) | exact b01 | exact Or.inl rfl | exact Or.inr rfl) only [e162_0, e162_1, e162_4, e162_5, e162_6, e162_7, e162_10, e162_11, e162_12, e162_13, e162_15, e162_18, e162_19, e162_20, e162_21, e162_22, e162_23, e162_26, e162_29, e162_30, e162_33, e162_34, e162_35, e162_38, e162_39, e162_40, e162_41, e162_44, e162_47, e162_48, ct_i, ct_r, ct_n, ct_h, opt_v, opt_s, ref_s, ref_n, eq_self_iff_true, true_or, or_true, zl0, zl1, zl2, zl3, zl4, zl5, zl6, zl7, zl8, zl9, zl10, zl16, zl32, zl40, zl100, zl160, zIc1, zI_lt, zI_le, nI_eq, nI_add, z_sub, nI_clamp, zI_of, uu_eq, uu_ne, Nat.reduceLT, Nat.reduceLeDiff, Nat.reduceEqDiff, Nat.reduceAdd, Nat.reduceSub, Nat.reduceMul, Nat.not_lt_zero, Nat.lt_irrefl, Nat.le_refl, Bool.false_eq_true, false_and, and_false, true_and, and_true, if_pos, if_neg, if_true, if_false, not_true_eq_false, not_false_eq_true, hneg]
/-- what taking a situation into thought changes -/
def frC (I I' : Nat → Nat → Int32) : Prop := ∀ x k, ¬ (x = 0 ∧ (k = 12 ∨ k = 13) ∨ x = 7) → I' x k = I x k
theorem k163 (hd : 1 ≤ d) (hM : mK sh R) {y : Nat} (hy : y < 6144) (hk : ∀ j, j < nd → I 8 j = nI (D j 4)) (hn : nd ≤ 4) (H : ∀ I', frC I I' → thS nd D y I' → Q none (n, t, sh, I', L, R)) : aC d 163 [.ref 0, .int (nI y)] (n, t, sh, I, L, R) Q := by
  obtain ⟨d, rfl⟩ : ∃ e, d = e + 1 := ⟨d - 1, by omega⟩
  have m0 := mm_0 hM; have x7 := mm_x7 hM; have y7 := mm_y7 hM; have r10 := mm_r10 hM
  have n4 : ¬ nI 4 = 0 := by decide
  have q1 : y - y / 4 * 4 = stt y 0 := by unfold stt; omega
  have q2 : y / 4 - y / 4 / 4 * 4 = stt y 1 := by unfold stt; omega
  have q3 : y / 4 / 4 - y / 4 / 4 / 4 * 4 = stt y 2 := by unfold stt; omega
  have q4 : y / 4 / 4 / 4 - y / 4 / 4 / 4 / 4 * 4 = stt y 3 := by unfold stt; omega
  have q5 : y / 4 / 4 / 4 / 4 - y / 4 / 4 / 4 / 4 / 4 * 4 = tno y := by unfold tno; omega
  have q7 : y / 4 / 4 / 4 / 4 - rmo y * 4 = tno y := by unfold tno rmo; omega
  have q6 : y / 4 / 4 / 4 / 4 / 4 = rmo y := by unfold rmo; omega
  simp (disch := first | assumption | exact ct_i | exact ct_r | exact ct_n | exact ct_h | omega | exact z_in (by omega) (by omega) | exact b01 | exact Or.inl rfl | exact Or.inr rfl) only [b163, e163_0, e163_1, e163_2, e163_3, e163_4, e163_5, e163_6, e163_9, e163_10, e163_13, e163_14, e163_15, e163_16, e163_17, e163_18, e163_19, e163_20, e163_21, e163_22, e163_25, e163_28, e163_29, e163_30, e163_31, e163_32, e163_35, e163_36, e163_37, e163_38, e163_39, e163_42, ct_i, ct_r, ct_n, ct_h, opt_v, opt_s, ref_s, ref_n, eq_self_iff_true, true_or, or_true, zl0, zl1, zl2, zl3, zl4, zl5, zl6, zl7, zl8, zl9, zl10, zl16, zl32, zl40, zl100, zl160, zIc1, zI_lt, zI_le, nI_eq, nI_add, z_sub, nI_clamp, zI_of, uu_eq, uu_ne, Nat.reduceLT, Nat.reduceLeDiff, Nat.reduceEqDiff, Nat.reduceAdd, Nat.reduceSub, Nat.reduceMul, Nat.not_lt_zero, Nat.lt_irrefl, Nat.le_refl, Bool.false_eq_true, false_and, and_false, true_and, and_true, if_pos, if_neg, if_true, if_false, not_true_eq_false, not_false_eq_true, zI_mul, pk_div, m0, x7, y7, r10, q1, q2, q3, q4, q5, q6, q7]
  refine H _ (fun x k hx => by simp (disch := omega) only [uu_ne]) ⟨?_, ?_, fun j hj => ⟨?_, ?_⟩⟩
  · simp (disch := omega) only [uu_ne, uu_eq]
  · simp (disch := omega) only [uu_ne, uu_eq]
  · rcases (show j = 0 ∨ j = 1 ∨ j = 2 ∨ j = 3 by omega) with rfl | rfl | rfl | rfl <;> simp (disch := omega) only [uu_ne, uu_eq]
  · simp (disch := omega) only [uu_ne]; exact hk j hj
theorem zP_aft (hn : nd ≤ 4) {i : Nat} (hi : i < nd) (hz : zP nd s) : zP nd (aft D s i) := fun j h1 h2 => by
  rw [stt_aft (by omega) h2, if_neg (by omega)]; exact hz j h1 h2
theorem zP_bh (hn : nd ≤ 4) {i y : Nat} (h : bh nd D f s i = some y) (hz : zP nd s) : zP nd y := by
  unfold bh at h
  split at h
  · rename_i hc
    cases h
    exact zP_aft hn hc.1 hz
  · cases h
end
/-! the pure search once more: what is appended keeps the distances -/
theorem dpF_app {q : List (Nat × Nat)} {x : Nat × Nat} (hp : qPar q) : ∀ F j, j < q.length → dpF (q ++ [x]) F j = dpF q F j
  | 0, _, _ => rfl
  | F + 1, j, h => by
    simp only [dpF]
    by_cases h0 : j = 0
    · rw [if_pos h0, if_pos h0]
    · rw [if_neg h0, if_neg h0, qP_app h, dpF_app hp F _ (by have := hp j (by omega) h; omega)]
theorem dep_app {q : List (Nat × Nat)} {x : Nat × Nat} (hp : qPar q) {j : Nat} (h : j < q.length) : dep (q ++ [x]) j = dep q j := dpF_app hp j j h
theorem q_zP {nd s0 : Nat} {D : Nat → Nat → Nat} {f : Nat → List Nat} (hn : nd ≤ 4) (hz : zP nd s0) {q : List (Nat × Nat)} {k d : Nat} (h : qI (bh nd D f) nd s0 q k d) : ∀ F j, j ≤ F → j < q.length → zP nd (qS q j) := by
  intro F
  induction F with
  | zero =>
    intro j hj hl
    obtain rfl : j = 0 := by omega
    rw [h.1.2.1]; exact hz
  | succ F ih =>
    intro j hj hl
    by_cases h0 : j = 0
    · subst h0; rw [h.1.2.1]; exact hz
    · obtain ⟨h1, _, e, _, h2, _⟩ := h.2.1 j (by omega) hl
      exact zP_bh hn h2 (ih _ (by omega) (by omega))
