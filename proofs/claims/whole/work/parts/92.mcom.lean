/-! the model's calls: come, shortest -/
theorem aC_det {d m : Nat} {args : List Value} {h : aH} {v0 : Option Value} {h0 : aH} {Q : Option Value → aH → Prop} (key : ∀ Q : Option Value → aH → Prop, Q v0 h0 → aC d m args h Q) : aC d m args h Q ↔ Q v0 h0 := by
  obtain ⟨v, h', a, rfl, rfl⟩ := key (fun v h' => v = v0 ∧ h' = h0) ⟨rfl, rfl⟩
  exact aC_of a (Nat.le_refl _)
theorem orF_0 {p : Nat → Bool} {nd : Nat} (hn : nd ≤ 4) : orF p nd = nI 0 ↔ ∀ i, i < nd → p i = false := by
  have e : ∀ a b c d : Bool, ∀ nd, nd ≤ 4 → (orF (fun i => if i = 0 then a else if i = 1 then b else if i = 2 then c else d) nd = nI 0 ↔ ∀ i, i < nd → (if i = 0 then a else if i = 1 then b else if i = 2 then c else d) = false) := by decide
  have ec : ∀ m, m ≤ 4 → orF (fun i => if i = 0 then p 0 else if i = 1 then p 1 else if i = 2 then p 2 else p 3) m = orF p m := by
    intro m hm
    rcases (show m = 0 ∨ m = 1 ∨ m = 2 ∨ m = 3 ∨ m = 4 by omega) with rfl | rfl | rfl | rfl | rfl <;> rfl
  rw [← ec nd hn, e _ _ _ _ nd hn]
  refine forall_congr' fun i => ⟨fun h hi => ?_, fun h hi => ?_⟩
  · have := h hi
    rcases (show i = 0 ∨ i = 1 ∨ i = 2 ∨ i = 3 by omega) with rfl | rfl | rfl | rfl <;> exact this
  · have := h hi
    rcases (show i = 0 ∨ i = 1 ∨ i = 2 ∨ i = 3 by omega) with rfl | rfl | rfl | rfl <;> exact this
section
variable {D : Nat → Nat → Nat} {d nd : Nat} {n t : Nat} {sh : Nat → Nat × Nat} {I : Nat → Nat → Int32} {L : Nat → Nat → Int64} {R : Nat → Nat → Option Nat} {Q : Option Value → aH → Prop} {g : Nat → Nat → Option Nat} {q : List (Nat × Nat)}
theorem k165 (hd : 1 ≤ d) {s : Nat} (hs : s < 6144) : aC d 165 [.int (nI s)] (n, t, sh, I, L, R) Q ↔ Q (some (.int (nI (rmo s)))) (n, t, sh, I, L, R) := by
  obtain ⟨d, rfl⟩ : ∃ e, d = e + 1 := ⟨d - 1, by omega⟩
  have e1 : (1024 : Int32) = nI 1024 := rfl
  have e2 : ¬ nI 1024 = 0 := by decide
  have e3 : s / 1024 = rmo s := rfl
  simp (disch := first | assumption | exact ct_i | exact ct_r | exact ct_n | exact ct_h | omega | exact z_in (by omega) (by omega) | exact b01 | exact Or.inl rfl | exact Or.inr rfl) only [b165, e165_0, e165_1, e165_4, e165_5, ct_i, ct_r, ct_n, ct_h, opt_v, opt_s, ref_s, ref_n, eq_self_iff_true, true_or, or_true, zl0, zl1, zl2, zl3, zl4, zl5, zl6, zl7, zl8, zl9, zl10, zl16, zl32, zl40, zl100, zl160, zIc1, zI_lt, zI_le, nI_eq, nI_add, z_sub, nI_clamp, zI_of, uu_eq, uu_ne, Nat.reduceLT, Nat.reduceLeDiff, Nat.reduceEqDiff, Nat.reduceAdd, Nat.reduceSub, Nat.reduceMul, Nat.not_lt_zero, Nat.lt_irrefl, Nat.le_refl, Bool.false_eq_true, false_and, and_false, true_and, and_true, if_pos, if_neg, if_true, if_false, not_true_eq_false, not_false_eq_true, e1, pk_div, e3]
theorem k164l (hd : 1 ≤ d) (hM : mK sh R) (hA : fA g nd q q.length 0 I) (hB : qB q) : ∀ m i, i + m = q.length → (aE (a_cl_ d) 164 (4, [.ref 0, .int (rms q i), .int (nI i)], [], (n, t, sh, I, L, R)) Q ↔ Q (some (.int (rms q q.length))) (n, t, sh, I, L, R)) := by
  have m0 := mm_0 hM; have x16 := mm_x16 hM; have y16 := mm_y16 hM; have r32 := mm_r32 hM
  have h33 := hA.1
  have hl := hB.1
  intro m
  induction m with
  | zero =>
    intro i hi
    obtain rfl : i = q.length := by omega
    rw [e164_4]
    simp (disch := first | assumption | exact ct_i | exact ct_r | exact ct_n | exact ct_h | omega | exact z_in (by omega) (by omega) | exact b01 | exact Or.inl rfl | exact Or.inr rfl) only [e164_0, e164_1, e164_2, e164_3, e164_5, e164_6, e164_9, e164_12, e164_13, e164_14, e164_15, e164_18, e164_19, e164_20, e164_23, e164_24, e164_25, e164_26, e164_29, e164_32, e164_33, ct_i, ct_r, ct_n, ct_h, opt_v, opt_s, ref_s, ref_n, eq_self_iff_true, true_or, or_true, zl0, zl1, zl2, zl3, zl4, zl5, zl6, zl7, zl8, zl9, zl10, zl16, zl32, zl40, zl100, zl160, zIc1, zI_lt, zI_le, nI_eq, nI_add, z_sub, nI_clamp, zI_of, uu_eq, uu_ne, Nat.reduceLT, Nat.reduceLeDiff, Nat.reduceEqDiff, Nat.reduceAdd, Nat.reduceSub, Nat.reduceMul, Nat.not_lt_zero, Nat.lt_irrefl, Nat.le_refl, Bool.false_eq_true, false_and, and_false, true_and, and_true, if_pos, if_neg, if_true, if_false, not_true_eq_false, not_false_eq_true, m0, h33]
  | succ m ih =>
    intro i hi
    have hlt : i < q.length := by omega
    have h16 := hA.2.1 i hlt
    have hs := hB.2.1 i hlt
    have qq := ih (i + 1) (by omega)
    simp only [rms] at qq
    rw [e164_4]
    simp (disch := first | assumption | exact ct_i | exact ct_r | exact ct_n | exact ct_h | omega | exact z_in (by omega) (by omega) | exact b01 | exact Or.inl rfl | exact Or.inr rfl) only [e164_0, e164_1, e164_2, e164_3, e164_5, e164_6, e164_9, e164_12, e164_13, e164_14, e164_15, e164_18, e164_19, e164_20, e164_23, e164_24, e164_25, e164_26, e164_29, e164_32, e164_33, ct_i, ct_r, ct_n, ct_h, opt_v, opt_s, ref_s, ref_n, eq_self_iff_true, true_or, or_true, zl0, zl1, zl2, zl3, zl4, zl5, zl6, zl7, zl8, zl9, zl10, zl16, zl32, zl40, zl100, zl160, zIc1, zI_lt, zI_le, nI_eq, nI_add, z_sub, nI_clamp, zI_of, uu_eq, uu_ne, Nat.reduceLT, Nat.reduceLeDiff, Nat.reduceEqDiff, Nat.reduceAdd, Nat.reduceSub, Nat.reduceMul, Nat.not_lt_zero, Nat.lt_irrefl, Nat.le_refl, Bool.false_eq_true, false_and, and_false, true_and, and_true, if_pos, if_neg, if_true, if_false, not_true_eq_false, not_false_eq_true, m0, x16, y16, r32, h33, h16, k165 hd hs]
    exact qq
theorem k164 (hd : 2 ≤ d) (hM : mK sh R) (hA : fA g nd q q.length 0 I) (hB : qB q) : aC d 164 [.ref 0] (n, t, sh, I, L, R) Q ↔ Q (some (.int (rms q q.length))) (n, t, sh, I, L, R) := by
  obtain ⟨d, rfl⟩ : ∃ e, d = e + 1 := ⟨d - 1, by omega⟩
  simp (disch := first | assumption | exact ct_i | exact ct_r | exact ct_n | exact ct_h | omega | exact z_in (by omega) (by omega) | exact b01 | exact Or.inl rfl | exact Or.inr rfl) only [b164, e164_0, e164_1, e164_2, e164_3, e164_5, e164_6, e164_9, e164_12, e164_13, e164_14, e164_15, e164_18, e164_19, e164_20, e164_23, e164_24, e164_25, e164_26, e164_29, e164_32, e164_33, ct_i, ct_r, ct_n, ct_h, opt_v, opt_s, ref_s, ref_n, eq_self_iff_true, true_or, or_true, zl0, zl1, zl2, zl3, zl4, zl5, zl6, zl7, zl8, zl9, zl10, zl16, zl32, zl40, zl100, zl160, zIc1, zI_lt, zI_le, nI_eq, nI_add, z_sub, nI_clamp, zI_of, uu_eq, uu_ne, Nat.reduceLT, Nat.reduceLeDiff, Nat.reduceEqDiff, Nat.reduceAdd, Nat.reduceSub, Nat.reduceMul, Nat.not_lt_zero, Nat.lt_irrefl, Nat.le_refl, Bool.false_eq_true, false_and, and_false, true_and, and_true, if_pos, if_neg, if_true, if_false, not_true_eq_false, not_false_eq_true]
  exact k164l (by omega) hM hA hB q.length 0 (by omega)
theorem k166l (hM : mK sh R) (h1 : I 0 1 = nI nd) (hn : nd ≤ 4) (hA : fA g nd q q.length 0 I) (hB : qB q) (hg : ∀ s d y, g s d = some y → y < 6144) {k : Nat} (hk : k < q.length) {b : Bool} (H : Q (some (.int (if b = true then nI 1 else nI 0))) (n, t, sh, I, L, R)) :
    ∀ m i, i + m = nd → (b = true ↔ ∀ j, i ≤ j → j < nd → g (qS q k) j = none) → aE (a_cl_ d) 166 (2, [.ref 0, .int (nI (qS q k)), .int (nI i)], [], (n, t, sh, I, L, R)) Q := by
  have m0 := mm_0 hM; have x18 := mm_x18 hM; have y18 := mm_y18 hM; have r35 := mm_r35 hM
  have hs := hB.2.1 k hk
  intro m
  induction m with
  | zero =>
    intro i hi hb
    obtain rfl : i = nd := by omega
    have : b = true := hb.mpr (fun j h1 h2 => by omega)
    subst this
    simp only [if_true] at H
    rw [e166_2]
    simp (disch := first | assumption | exact ct_i | exact ct_r | exact ct_n | exact ct_h | omega | exact z_in (by omega) (by omega) | exact b01 | exact Or.inl rfl | exact Or.inr rfl) only [e166_0, e166_1, e166_3, e166_4, e166_7, e166_10, e166_11, e166_14, e166_15, e166_16, e166_17, e166_18, e166_19, e166_20, e166_23, e166_24, e166_25, e166_28, e166_31, e166_32, ct_i, ct_r, ct_n, ct_h, opt_v, opt_s, ref_s, ref_n, eq_self_iff_true, true_or, or_true, zl0, zl1, zl2, zl3, zl4, zl5, zl6, zl7, zl8, zl9, zl10, zl16, zl32, zl40, zl100, zl160, zIc1, zI_lt, zI_le, nI_eq, nI_add, z_sub, nI_clamp, zI_of, uu_eq, uu_ne, Nat.reduceLT, Nat.reduceLeDiff, Nat.reduceEqDiff, Nat.reduceAdd, Nat.reduceSub, Nat.reduceMul, Nat.not_lt_zero, Nat.lt_irrefl, Nat.le_refl, Bool.false_eq_true, false_and, and_false, true_and, and_true, if_pos, if_neg, if_true, if_false, not_true_eq_false, not_false_eq_true, m0, h1]
    exact H
  | succ m ih =>
    intro i hi hb
    have hlt : i < nd := by omega
    have hl := hA.2.2.2.2 k i hk hlt (Or.inl hk)
    rw [e166_2]
    cases hg1 : g (qS q k) i with
    | none =>
      rw [hg1] at hl
      have hl' : I 18 (4 * qS q k + i) = -nI 1 := hl
      have hneg : -nI 1 < nI 0 := by decide
      have qq := ih (i + 1) (by omega) (hb.trans ⟨fun h j h1 h2 => h j (by omega) h2, fun h j h1 h2 => by
        by_cases hj : j = i
        · subst hj; exact hg1
        · exact h j (by omega) h2⟩)
      simp (disch := first | assumption | exact ct_i | exact ct_r | exact ct_n | exact ct_h | omega | exact z_in (by omega) (by omega) | exact b01 | exact Or.inl rfl | exact Or.inr rfl) only [e166_0, e166_1, e166_3, e166_4, e166_7, e166_10, e166_11, e166_14, e166_15, e166_16, e166_17, e166_18, e166_19, e166_20, e166_23, e166_24, e166_25, e166_28, e166_31, e166_32, ct_i, ct_r, ct_n, ct_h, opt_v, opt_s, ref_s, ref_n, eq_self_iff_true, true_or, or_true, zl0, zl1, zl2, zl3, zl4, zl5, zl6, zl7, zl8, zl9, zl10, zl16, zl32, zl40, zl100, zl160, zIc1, zI_lt, zI_le, nI_eq, nI_add, z_sub, nI_clamp, zI_of, uu_eq, uu_ne, Nat.reduceLT, Nat.reduceLeDiff, Nat.reduceEqDiff, Nat.reduceAdd, Nat.reduceSub, Nat.reduceMul, Nat.not_lt_zero, Nat.lt_irrefl, Nat.le_refl, Bool.false_eq_true, false_and, and_false, true_and, and_true, if_pos, if_neg, if_true, if_false, not_true_eq_false, not_false_eq_true, zI_mul, m0, x18, y18, r35, h1, hl', hneg]
      exact qq
    | some y =>
      rw [hg1] at hl
      have hy := hg _ _ _ hg1
      have hl' : I 18 (4 * qS q k + i) = nI y := hl
      have : ¬ b = true := fun h => by have := hb.mp h i (Nat.le_refl _) hlt; rw [hg1] at this; cases this
      rw [Bool.not_eq_true] at this
      subst this
      simp only [Bool.false_eq_true, if_false] at H
      simp (disch := first | assumption | exact ct_i | exact ct_r | exact ct_n | exact ct_h | omega | exact z_in (by omega) (by omega) | exact b01 | exact Or.inl rfl | exact Or.inr rfl) only [e166_0, e166_1, e166_3, e166_4, e166_7, e166_10, e166_11, e166_14, e166_15, e166_16, e166_17, e166_18, e166_19, e166_20, e166_23, e166_24, e166_25, e166_28, e166_31, e166_32, ct_i, ct_r, ct_n, ct_h, opt_v, opt_s, ref_s, ref_n, eq_self_iff_true, true_or, or_true, zl0, zl1, zl2, zl3, zl4, zl5, zl6, zl7, zl8, zl9, zl10, zl16, zl32, zl40, zl100, zl160, zIc1, zI_lt, zI_le, nI_eq, nI_add, z_sub, nI_clamp, zI_of, uu_eq, uu_ne, Nat.reduceLT, Nat.reduceLeDiff, Nat.reduceEqDiff, Nat.reduceAdd, Nat.reduceSub, Nat.reduceMul, Nat.not_lt_zero, Nat.lt_irrefl, Nat.le_refl, Bool.false_eq_true, false_and, and_false, true_and, and_true, if_pos, if_neg, if_true, if_false, not_true_eq_false, not_false_eq_true, zI_mul, m0, x18, y18, r35, h1, hl']
      exact H
theorem k166 (hd : 1 ≤ d) (hM : mK sh R) (h1 : I 0 1 = nI nd) (hn : nd ≤ 4) (hA : fA g nd q q.length 0 I) (hB : qB q) (hg : ∀ s d y, g s d = some y → y < 6144) {k : Nat} (hk : k < q.length) :
    aC d 166 [.ref 0, .int (nI (qS q k))] (n, t, sh, I, L, R) Q ↔ Q (some (.int (if orF (fun i => (g (qS q k) i).isSome) nd = nI 0 then nI 1 else nI 0))) (n, t, sh, I, L, R) := by
  have key : ∀ Q : Option Value → aH → Prop, Q (some (.int (if decide (orF (fun i => (g (qS q k) i).isSome) nd = nI 0) = true then nI 1 else nI 0))) (n, t, sh, I, L, R) → aC d 166 [.ref 0, .int (nI (qS q k))] (n, t, sh, I, L, R) Q := fun Q H => by
    obtain ⟨d, rfl⟩ : ∃ e, d = e + 1 := ⟨d - 1, by omega⟩
    simp (disch := first | assumption | exact ct_i | exact ct_r | exact ct_n | exact ct_h | omega | exact z_in (by omega) (by omega) | exact b01 | exact Or.inl rfl | exact Or.inr rfl) only [b166, e166_0, e166_1, e166_3, e166_4, e166_7, e166_10, e166_11, e166_14, e166_15, e166_16, e166_17, e166_18, e166_19, e166_20, e166_23, e166_24, e166_25, e166_28, e166_31, e166_32, ct_i, ct_r, ct_n, ct_h, opt_v, opt_s, ref_s, ref_n, eq_self_iff_true, true_or, or_true, zl0, zl1, zl2, zl3, zl4, zl5, zl6, zl7, zl8, zl9, zl10, zl16, zl32, zl40, zl100, zl160, zIc1, zI_lt, zI_le, nI_eq, nI_add, z_sub, nI_clamp, zI_of, uu_eq, uu_ne, Nat.reduceLT, Nat.reduceLeDiff, Nat.reduceEqDiff, Nat.reduceAdd, Nat.reduceSub, Nat.reduceMul, Nat.not_lt_zero, Nat.lt_irrefl, Nat.le_refl, Bool.false_eq_true, false_and, and_false, true_and, and_true, if_pos, if_neg, if_true, if_false, not_true_eq_false, not_false_eq_true]
    refine k166l hM h1 hn hA hB hg hk H nd 0 (by omega) ?_
    rw [decide_eq_true_iff, orF_0 hn]
    refine ⟨fun h j _ hj => ?_, fun h j hj => ?_⟩
    · have := h j hj
      revert this; cases g (qS q k) j <;> simp
    · rw [h j (Nat.zero_le _) hj]; rfl
  simp only [decide_eq_true_eq] at key
  exact aC_det key
theorem k160l (hd : 2 ≤ d) (hM : mK sh R) (h1 : I 0 1 = nI nd) (hn : nd ≤ 4) (hA : fA g nd q q.length 0 I) (hB : qB q) (hg : ∀ s d y, g s d = some y → y < 6144) {v1 : Int32} : ∀ m i, i + m = q.length → (aE (a_cl_ d) 160 (68, [.ref 0, .int v1, .int (nI (lsc g nd q i)), .int (nI i)], [], (n, t, sh, I, L, R)) Q ↔ Q (some (.int (nI (lsc g nd q q.length)))) (n, t, sh, I, L, R)) := by
  have m0 := mm_0 hM; have x16 := mm_x16 hM; have y16 := mm_y16 hM; have r32 := mm_r32 hM
  have h33 := hA.1
  have hl := hB.1
  intro m
  induction m with
  | zero =>
    intro i hi
    obtain rfl : i = q.length := by omega
    rw [e160_68]
    simp (disch := first | assumption | exact ct_i | exact ct_r | exact ct_n | exact ct_h | omega | exact z_in (by omega) (by omega) | exact b01 | exact Or.inl rfl | exact Or.inr rfl) only [e160_0, e160_1, e160_2, e160_3, e160_6, e160_9, e160_12, e160_14, e160_15, e160_16, e160_19, e160_20, e160_23, e160_24, e160_27, e160_28, e160_31, e160_32, e160_33, e160_34, e160_37, e160_38, e160_41, e160_42, e160_43, e160_44, e160_47, e160_48, e160_51, e160_52, e160_55, e160_56, e160_59, e160_60, e160_61, e160_62, e160_63, e160_64, e160_65, e160_66, e160_67, e160_69, e160_70, e160_73, e160_76, e160_77, e160_78, e160_79, e160_82, e160_83, e160_84, e160_87, e160_90, e160_91, e160_94, e160_95, e160_96, e160_97, e160_100, e160_103, e160_104, ct_i, ct_r, ct_n, ct_h, opt_v, opt_s, ref_s, ref_n, eq_self_iff_true, true_or, or_true, zl0, zl1, zl2, zl3, zl4, zl5, zl6, zl7, zl8, zl9, zl10, zl16, zl32, zl40, zl100, zl160, zIc1, zI_lt, zI_le, nI_eq, nI_add, z_sub, nI_clamp, zI_of, uu_eq, uu_ne, Nat.reduceLT, Nat.reduceLeDiff, Nat.reduceEqDiff, Nat.reduceAdd, Nat.reduceSub, Nat.reduceMul, Nat.not_lt_zero, Nat.lt_irrefl, Nat.le_refl, Bool.false_eq_true, false_and, and_false, true_and, and_true, if_pos, if_neg, if_true, if_false, not_true_eq_false, not_false_eq_true, m0, h33]
  | succ m ih =>
    intro i hi
    have hlt : i < q.length := by omega
    have h16 := hA.2.1 i hlt
    have hs := hB.2.1 i hlt
    have qq := ih (i + 1) (by omega)
    simp only [lsc] at qq
    rw [e160_68]
    by_cases ho : orF (fun i_1 => (g (qS q i) i_1).isSome) nd = nI 0
    · rw [if_pos ho] at qq
      simp (disch := first | assumption | exact ct_i | exact ct_r | exact ct_n | exact ct_h | omega | exact z_in (by omega) (by omega) | exact b01 | exact Or.inl rfl | exact Or.inr rfl) only [e160_0, e160_1, e160_2, e160_3, e160_6, e160_9, e160_12, e160_14, e160_15, e160_16, e160_19, e160_20, e160_23, e160_24, e160_27, e160_28, e160_31, e160_32, e160_33, e160_34, e160_37, e160_38, e160_41, e160_42, e160_43, e160_44, e160_47, e160_48, e160_51, e160_52, e160_55, e160_56, e160_59, e160_60, e160_61, e160_62, e160_63, e160_64, e160_65, e160_66, e160_67, e160_69, e160_70, e160_73, e160_76, e160_77, e160_78, e160_79, e160_82, e160_83, e160_84, e160_87, e160_90, e160_91, e160_94, e160_95, e160_96, e160_97, e160_100, e160_103, e160_104, ct_i, ct_r, ct_n, ct_h, opt_v, opt_s, ref_s, ref_n, eq_self_iff_true, true_or, or_true, zl0, zl1, zl2, zl3, zl4, zl5, zl6, zl7, zl8, zl9, zl10, zl16, zl32, zl40, zl100, zl160, zIc1, zI_lt, zI_le, nI_eq, nI_add, z_sub, nI_clamp, zI_of, uu_eq, uu_ne, Nat.reduceLT, Nat.reduceLeDiff, Nat.reduceEqDiff, Nat.reduceAdd, Nat.reduceSub, Nat.reduceMul, Nat.not_lt_zero, Nat.lt_irrefl, Nat.le_refl, Bool.false_eq_true, false_and, and_false, true_and, and_true, if_pos, if_neg, if_true, if_false, not_true_eq_false, not_false_eq_true, m0, x16, y16, r32, h33, h16, k166 (show 1 ≤ d by omega) hM h1 hn hA hB hg hlt, ho]
      exact qq
    · rw [if_neg ho] at qq
      simp (disch := first | assumption | exact ct_i | exact ct_r | exact ct_n | exact ct_h | omega | exact z_in (by omega) (by omega) | exact b01 | exact Or.inl rfl | exact Or.inr rfl) only [e160_0, e160_1, e160_2, e160_3, e160_6, e160_9, e160_12, e160_14, e160_15, e160_16, e160_19, e160_20, e160_23, e160_24, e160_27, e160_28, e160_31, e160_32, e160_33, e160_34, e160_37, e160_38, e160_41, e160_42, e160_43, e160_44, e160_47, e160_48, e160_51, e160_52, e160_55, e160_56, e160_59, e160_60, e160_61, e160_62, e160_63, e160_64, e160_65, e160_66, e160_67, e160_69, e160_70, e160_73, e160_76, e160_77, e160_78, e160_79, e160_82, e160_83, e160_84, e160_87, e160_90, e160_91, e160_94, e160_95, e160_96, e160_97, e160_100, e160_103, e160_104, ct_i, ct_r, ct_n, ct_h, opt_v, opt_s, ref_s, ref_n, eq_self_iff_true, true_or, or_true, zl0, zl1, zl2, zl3, zl4, zl5, zl6, zl7, zl8, zl9, zl10, zl16, zl32, zl40, zl100, zl160, zIc1, zI_lt, zI_le, nI_eq, nI_add, z_sub, nI_clamp, zI_of, uu_eq, uu_ne, Nat.reduceLT, Nat.reduceLeDiff, Nat.reduceEqDiff, Nat.reduceAdd, Nat.reduceSub, Nat.reduceMul, Nat.not_lt_zero, Nat.lt_irrefl, Nat.le_refl, Bool.false_eq_true, false_and, and_false, true_and, and_true, if_pos, if_neg, if_true, if_false, not_true_eq_false, not_false_eq_true, m0, x16, y16, r32, h33, h16, k166 (show 1 ≤ d by omega) hM h1 hn hA hB hg hlt, if_neg ho, Nat.add_zero]
      exact qq
end
section
variable {T0 : Nat} {Z : Nat → Nat} {D : Nat → Nat → Nat} {tx : Nat → Nat → List Nat} {tp so sz : Nat → Nat} {it : Nat → Nat → Int32} {d : Nat} {n t : Nat} {sh : Nat → Nat × Nat} {I : Nat → Nat → Int32} {L : Nat → Nat → Int64} {R : Nat → Nat → Option Nat} {I' : Nat → Nat → Int32} {Q : Option Value → aH → Prop}
/-- all is found from the situation at hand -/
theorem kFA (hd : 5 ≤ d) (hk : RM T0 Z D tx tp so sz it (n, t, sh, I, L, R)) (hT : thS (Z 1) D (Z 2) I) (H : ∀ I', frF I I' → RM T0 Z D tx tp so sz it (n, t, sh, I', L, R) → I' 0 1 = nI (Z 1) → fA (bh (Z 1) D (tx (Z 4))) (Z 1) (sq Z D tx (Z 2)) (sq Z D tx (Z 2)).length 0 I' → Q none (n, t, sh, I', L, R)) : aC d 161 [.ref 0] (n, t, sh, I, L, R) Q := by
  have o3 := hk.1.2.2.1
  refine k161 hd (RM_B hk) o3.1 o3.2 hT (fun I' hf hA => ?_)
  have hk' := RM_fr hk (frF_M hf)
  exact H I' hf hk' hk'.2.2.2.2.1.1 hA
theorem sq_B (ho : okS Z D tx tp so sz) : qB (sq Z D tx (Z 2)) ∧ 0 < (sq Z D tx (Z 2)).length ∧ qPar (sq Z D tx (Z 2)) := by
  have hq : qI (bh (Z 1) D (tx (Z 4))) (Z 1) (Z 2) (sq Z D tx (Z 2)) (sq Z D tx (Z 2)).length 0 := bfs_I (bh_g ho.2.1.2) ho.2.2.1.1
  exact ⟨qB_of hq, hq.1.1, qI_par hq⟩
theorem k160 (hd : 7 ≤ d) (hk : RM T0 Z D tx tp so sz it (n, t, sh, I, L, R)) {w : Int32} (H : ∀ h', RMh T0 Z D tx tp so sz it h' → Q (some (.int (comS Z D tx w))) h') : aC d 160 [.ref 0, .int w] (n, t, sh, I, L, R) Q := by
  obtain ⟨d, rfl⟩ : ∃ e, d = e + 1 := ⟨d - 1, by omega⟩
  have hM := hk.2.2.1
  simp only [] at hM
  have m0 := mm_0 hM; have x16 := mm_x16 hM; have y16 := mm_y16 hM; have r32 := mm_r32 hM; have x17 := mm_x17 hM; have y17 := mm_y17 hM; have r34 := mm_r34 hM
  have l3 : (3 : Int64) = (nI 3).toInt64 := rfl
  obtain ⟨hB, hq0, hpar⟩ := sq_B hk.1
  obtain ⟨_, _, hn4, hBd, _⟩ := RM_B hk
  unfold comS at H
  cases hw : dec w 4 with
  | none =>
    simp only [hw] at H
    have q := H _ hk.2
    simp (disch := first | assumption | exact ct_i | exact ct_r | exact ct_n | exact ct_h | omega | exact z_in (by omega) (by omega) | exact b01 | exact Or.inl rfl | exact Or.inr rfl) only [b160, e160_0, e160_1, e160_2, e160_3, e160_6, e160_9, e160_12, e160_14, e160_15, e160_16, e160_19, e160_20, e160_23, e160_24, e160_27, e160_28, e160_31, e160_32, e160_33, e160_34, e160_37, e160_38, e160_41, e160_42, e160_43, e160_44, e160_47, e160_48, e160_51, e160_52, e160_55, e160_56, e160_59, e160_60, e160_61, e160_62, e160_63, e160_64, e160_65, e160_66, e160_67, e160_69, e160_70, e160_73, e160_76, e160_77, e160_78, e160_79, e160_82, e160_83, e160_84, e160_87, e160_90, e160_91, e160_94, e160_95, e160_96, e160_97, e160_100, e160_103, e160_104, ct_i, ct_r, ct_n, ct_h, opt_v, opt_s, ref_s, ref_n, eq_self_iff_true, true_or, or_true, zl0, zl1, zl2, zl3, zl4, zl5, zl6, zl7, zl8, zl9, zl10, zl16, zl32, zl40, zl100, zl160, zIc1, zI_lt, zI_le, nI_eq, nI_add, z_sub, nI_clamp, zI_of, uu_eq, uu_ne, Nat.reduceLT, Nat.reduceLeDiff, Nat.reduceEqDiff, Nat.reduceAdd, Nat.reduceSub, Nat.reduceMul, Nat.not_lt_zero, Nat.lt_irrefl, Nat.le_refl, Bool.false_eq_true, false_and, and_false, true_and, and_true, if_pos, if_neg, if_true, if_false, not_true_eq_false, not_false_eq_true, m0, ll0, l3, k118 (show 1 ≤ d by omega), in_d4, hw, Option.isSome_none, Bool.false_eq_true, if_false]
    exact q
  | some k =>
    obtain ⟨rfl, hk4⟩ := dec_some (by omega) hw
    simp only [hw] at H
    simp (disch := first | assumption | exact ct_i | exact ct_r | exact ct_n | exact ct_h | omega | exact z_in (by omega) (by omega) | exact b01 | exact Or.inl rfl | exact Or.inr rfl) only [b160, e160_0, e160_1, e160_2, e160_3, e160_6, e160_9, e160_12, e160_14, e160_15, e160_16, e160_19, e160_20, e160_23, e160_24, e160_27, e160_28, e160_31, e160_32, e160_33, e160_34, e160_37, e160_38, e160_41, e160_42, e160_43, e160_44, e160_47, e160_48, e160_51, e160_52, e160_55, e160_56, e160_59, e160_60, e160_61, e160_62, e160_63, e160_64, e160_65, e160_66, e160_67, e160_69, e160_70, e160_73, e160_76, e160_77, e160_78, e160_79, e160_82, e160_83, e160_84, e160_87, e160_90, e160_91, e160_94, e160_95, e160_96, e160_97, e160_100, e160_103, e160_104, ct_i, ct_r, ct_n, ct_h, opt_v, opt_s, ref_s, ref_n, eq_self_iff_true, true_or, or_true, zl0, zl1, zl2, zl3, zl4, zl5, zl6, zl7, zl8, zl9, zl10, zl16, zl32, zl40, zl100, zl160, zIc1, zI_lt, zI_le, nI_eq, nI_add, z_sub, nI_clamp, zI_of, uu_eq, uu_ne, Nat.reduceLT, Nat.reduceLeDiff, Nat.reduceEqDiff, Nat.reduceAdd, Nat.reduceSub, Nat.reduceMul, Nat.not_lt_zero, Nat.lt_irrefl, Nat.le_refl, Bool.false_eq_true, false_and, and_false, true_and, and_true, if_pos, if_neg, if_true, if_false, not_true_eq_false, not_false_eq_true, m0, ll0, l3, k118 (show 1 ≤ d by omega), in_d4, hw, Option.isSome_some]
    refine kAs (by omega) hk (fun I1 ee hf hT => ?_)
    simp (disch := first | assumption | exact ct_i | exact ct_r | exact ct_n | exact ct_h | omega | exact z_in (by omega) (by omega) | exact b01 | exact Or.inl rfl | exact Or.inr rfl) only [e160_0, e160_1, e160_2, e160_3, e160_6, e160_9, e160_12, e160_14, e160_15, e160_16, e160_19, e160_20, e160_23, e160_24, e160_27, e160_28, e160_31, e160_32, e160_33, e160_34, e160_37, e160_38, e160_41, e160_42, e160_43, e160_44, e160_47, e160_48, e160_51, e160_52, e160_55, e160_56, e160_59, e160_60, e160_61, e160_62, e160_63, e160_64, e160_65, e160_66, e160_67, e160_69, e160_70, e160_73, e160_76, e160_77, e160_78, e160_79, e160_82, e160_83, e160_84, e160_87, e160_90, e160_91, e160_94, e160_95, e160_96, e160_97, e160_100, e160_103, e160_104, ct_i, ct_r, ct_n, ct_h, opt_v, opt_s, ref_s, ref_n, eq_self_iff_true, true_or, or_true, zl0, zl1, zl2, zl3, zl4, zl5, zl6, zl7, zl8, zl9, zl10, zl16, zl32, zl40, zl100, zl160, zIc1, zI_lt, zI_le, nI_eq, nI_add, z_sub, nI_clamp, zI_of, uu_eq, uu_ne, Nat.reduceLT, Nat.reduceLeDiff, Nat.reduceEqDiff, Nat.reduceAdd, Nat.reduceSub, Nat.reduceMul, Nat.not_lt_zero, Nat.lt_irrefl, Nat.le_refl, Bool.false_eq_true, false_and, and_false, true_and, and_true, if_pos, if_neg, if_true, if_false, not_true_eq_false, not_false_eq_true, m0]
    refine kFA (by omega) (RM_fr hk hf) hT (fun I2 hf2 hk2 h1 hA => ?_)
    have q := H _ hk2.2
    have h33 := hA.1
    have hl := hB.1
    rcases (show k = 0 ∨ k = 1 ∨ k = 2 ∨ k = 3 by omega) with rfl | rfl | rfl | rfl
    · simp only [if_true] at q
      simp (disch := first | assumption | exact ct_i | exact ct_r | exact ct_n | exact ct_h | omega | exact z_in (by omega) (by omega) | exact b01 | exact Or.inl rfl | exact Or.inr rfl) only [e160_0, e160_1, e160_2, e160_3, e160_6, e160_9, e160_12, e160_14, e160_15, e160_16, e160_19, e160_20, e160_23, e160_24, e160_27, e160_28, e160_31, e160_32, e160_33, e160_34, e160_37, e160_38, e160_41, e160_42, e160_43, e160_44, e160_47, e160_48, e160_51, e160_52, e160_55, e160_56, e160_59, e160_60, e160_61, e160_62, e160_63, e160_64, e160_65, e160_66, e160_67, e160_69, e160_70, e160_73, e160_76, e160_77, e160_78, e160_79, e160_82, e160_83, e160_84, e160_87, e160_90, e160_91, e160_94, e160_95, e160_96, e160_97, e160_100, e160_103, e160_104, ct_i, ct_r, ct_n, ct_h, opt_v, opt_s, ref_s, ref_n, eq_self_iff_true, true_or, or_true, zl0, zl1, zl2, zl3, zl4, zl5, zl6, zl7, zl8, zl9, zl10, zl16, zl32, zl40, zl100, zl160, zIc1, zI_lt, zI_le, nI_eq, nI_add, z_sub, nI_clamp, zI_of, uu_eq, uu_ne, Nat.reduceLT, Nat.reduceLeDiff, Nat.reduceEqDiff, Nat.reduceAdd, Nat.reduceSub, Nat.reduceMul, Nat.not_lt_zero, Nat.lt_irrefl, Nat.le_refl, Bool.false_eq_true, false_and, and_false, true_and, and_true, if_pos, if_neg, if_true, if_false, not_true_eq_false, not_false_eq_true, m0, k164 (show 2 ≤ d by omega) hM hA hB]
      exact q
    · simp only [Nat.reduceEqDiff, if_true, if_false] at q
      simp (disch := first | assumption | exact ct_i | exact ct_r | exact ct_n | exact ct_h | omega | exact z_in (by omega) (by omega) | exact b01 | exact Or.inl rfl | exact Or.inr rfl) only [e160_0, e160_1, e160_2, e160_3, e160_6, e160_9, e160_12, e160_14, e160_15, e160_16, e160_19, e160_20, e160_23, e160_24, e160_27, e160_28, e160_31, e160_32, e160_33, e160_34, e160_37, e160_38, e160_41, e160_42, e160_43, e160_44, e160_47, e160_48, e160_51, e160_52, e160_55, e160_56, e160_59, e160_60, e160_61, e160_62, e160_63, e160_64, e160_65, e160_66, e160_67, e160_69, e160_70, e160_73, e160_76, e160_77, e160_78, e160_79, e160_82, e160_83, e160_84, e160_87, e160_90, e160_91, e160_94, e160_95, e160_96, e160_97, e160_100, e160_103, e160_104, ct_i, ct_r, ct_n, ct_h, opt_v, opt_s, ref_s, ref_n, eq_self_iff_true, true_or, or_true, zl0, zl1, zl2, zl3, zl4, zl5, zl6, zl7, zl8, zl9, zl10, zl16, zl32, zl40, zl100, zl160, zIc1, zI_lt, zI_le, nI_eq, nI_add, z_sub, nI_clamp, zI_of, uu_eq, uu_ne, Nat.reduceLT, Nat.reduceLeDiff, Nat.reduceEqDiff, Nat.reduceAdd, Nat.reduceSub, Nat.reduceMul, Nat.not_lt_zero, Nat.lt_irrefl, Nat.le_refl, Bool.false_eq_true, false_and, and_false, true_and, and_true, if_pos, if_neg, if_true, if_false, not_true_eq_false, not_false_eq_true, m0, h33]
      exact q
    · simp only [Nat.reduceEqDiff, if_true, if_false] at q
      have hlt : (sq Z D tx (Z 2)).length - 1 < (sq Z D tx (Z 2)).length := by omega
      have h16 := hA.2.1 _ hlt
      have h17 := hA.2.2.1 _ hlt
      have hs := hB.2.1 _ hlt
      simp (disch := first | assumption | exact ct_i | exact ct_r | exact ct_n | exact ct_h | omega | exact z_in (by omega) (by omega) | exact b01 | exact Or.inl rfl | exact Or.inr rfl) only [e160_0, e160_1, e160_2, e160_3, e160_6, e160_9, e160_12, e160_14, e160_15, e160_16, e160_19, e160_20, e160_23, e160_24, e160_27, e160_28, e160_31, e160_32, e160_33, e160_34, e160_37, e160_38, e160_41, e160_42, e160_43, e160_44, e160_47, e160_48, e160_51, e160_52, e160_55, e160_56, e160_59, e160_60, e160_61, e160_62, e160_63, e160_64, e160_65, e160_66, e160_67, e160_69, e160_70, e160_73, e160_76, e160_77, e160_78, e160_79, e160_82, e160_83, e160_84, e160_87, e160_90, e160_91, e160_94, e160_95, e160_96, e160_97, e160_100, e160_103, e160_104, ct_i, ct_r, ct_n, ct_h, opt_v, opt_s, ref_s, ref_n, eq_self_iff_true, true_or, or_true, zl0, zl1, zl2, zl3, zl4, zl5, zl6, zl7, zl8, zl9, zl10, zl16, zl32, zl40, zl100, zl160, zIc1, zI_lt, zI_le, nI_eq, nI_add, z_sub, nI_clamp, zI_of, uu_eq, uu_ne, Nat.reduceLT, Nat.reduceLeDiff, Nat.reduceEqDiff, Nat.reduceAdd, Nat.reduceSub, Nat.reduceMul, Nat.not_lt_zero, Nat.lt_irrefl, Nat.le_refl, Bool.false_eq_true, false_and, and_false, true_and, and_true, if_pos, if_neg, if_true, if_false, not_true_eq_false, not_false_eq_true, m0, x16, y16, r32, x17, y17, r34, h33, h16, h17]
      exact q
    · simp only [Nat.reduceEqDiff, if_true, if_false] at q
      simp (disch := first | assumption | exact ct_i | exact ct_r | exact ct_n | exact ct_h | omega | exact z_in (by omega) (by omega) | exact b01 | exact Or.inl rfl | exact Or.inr rfl) only [e160_0, e160_1, e160_2, e160_3, e160_6, e160_9, e160_12, e160_14, e160_15, e160_16, e160_19, e160_20, e160_23, e160_24, e160_27, e160_28, e160_31, e160_32, e160_33, e160_34, e160_37, e160_38, e160_41, e160_42, e160_43, e160_44, e160_47, e160_48, e160_51, e160_52, e160_55, e160_56, e160_59, e160_60, e160_61, e160_62, e160_63, e160_64, e160_65, e160_66, e160_67, e160_69, e160_70, e160_73, e160_76, e160_77, e160_78, e160_79, e160_82, e160_83, e160_84, e160_87, e160_90, e160_91, e160_94, e160_95, e160_96, e160_97, e160_100, e160_103, e160_104, ct_i, ct_r, ct_n, ct_h, opt_v, opt_s, ref_s, ref_n, eq_self_iff_true, true_or, or_true, zl0, zl1, zl2, zl3, zl4, zl5, zl6, zl7, zl8, zl9, zl10, zl16, zl32, zl40, zl100, zl160, zIc1, zI_lt, zI_le, nI_eq, nI_add, z_sub, nI_clamp, zI_of, uu_eq, uu_ne, Nat.reduceLT, Nat.reduceLeDiff, Nat.reduceEqDiff, Nat.reduceAdd, Nat.reduceSub, Nat.reduceMul, Nat.not_lt_zero, Nat.lt_irrefl, Nat.le_refl, Bool.false_eq_true, false_and, and_false, true_and, and_true, if_pos, if_neg, if_true, if_false, not_true_eq_false, not_false_eq_true, m0, x16, y16, r32, h33]
      exact (k160l (by omega) hM h1 hn4 hA hB (bh_g hBd) (sq Z D tx (Z 2)).length 0 (by omega)).mpr q
theorem ffi_up {p : Nat → Bool} {n : Nat} (h : ffi p n = none) (hp : p n = true) : ∀ m, n < m → ffi p m = some n
  | 0, hm => by omega
  | m + 1, hm => by
    by_cases hmn : m = n
    · subst hmn
      simp only [ffi, h, hp, if_true]
    · simp only [ffi, ffi_up h hp m (by omega)]
theorem k168l (hd : 1 ≤ d) {g : Nat → Nat → Option Nat} {nd : Nat} {q : List (Nat × Nat)} (hM : mK sh R) (hA : fA g nd q q.length 0 I) (hB : qB q) {rm : Nat} (hr : rm < 6) :
    ∀ m i, i + m = q.length → ffi (fun k => decide (rmo (qS q k) = rm)) i = none → (aE (a_cl_ d) 168 (2, [.ref 0, .int (nI rm), .int (nI i)], [], (n, t, sh, I, L, R)) Q ↔ Q (some (.int (dpO q (firR q rm)))) (n, t, sh, I, L, R)) := by
  have m0 := mm_0 hM; have x16 := mm_x16 hM; have y16 := mm_y16 hM; have r32 := mm_r32 hM; have x17 := mm_x17 hM; have y17 := mm_y17 hM; have r34 := mm_r34 hM
  have h33 := hA.1
  have hl := hB.1
  intro m
  induction m with
  | zero =>
    intro i hi hf
    obtain rfl : i = q.length := by omega
    have hfr : firR q rm = none := hf
    rw [e168_2]
    simp (disch := first | assumption | exact ct_i | exact ct_r | exact ct_n | exact ct_h | omega | exact z_in (by omega) (by omega) | exact b01 | exact Or.inl rfl | exact Or.inr rfl) only [e168_0, e168_1, e168_3, e168_4, e168_7, e168_10, e168_11, e168_14, e168_15, e168_16, e168_19, e168_20, e168_23, e168_24, e168_27, e168_28, e168_31, e168_32, e168_33, e168_34, e168_35, e168_38, e168_41, e168_42, ct_i, ct_r, ct_n, ct_h, opt_v, opt_s, ref_s, ref_n, eq_self_iff_true, true_or, or_true, zl0, zl1, zl2, zl3, zl4, zl5, zl6, zl7, zl8, zl9, zl10, zl16, zl32, zl40, zl100, zl160, zIc1, zI_lt, zI_le, nI_eq, nI_add, z_sub, nI_clamp, zI_of, uu_eq, uu_ne, Nat.reduceLT, Nat.reduceLeDiff, Nat.reduceEqDiff, Nat.reduceAdd, Nat.reduceSub, Nat.reduceMul, Nat.not_lt_zero, Nat.lt_irrefl, Nat.le_refl, Bool.false_eq_true, false_and, and_false, true_and, and_true, if_pos, if_neg, if_true, if_false, not_true_eq_false, not_false_eq_true, m0, h33, hfr, dpO]
  | succ m ih =>
    intro i hi hf
    have hlt : i < q.length := by omega
    have h16 := hA.2.1 i hlt
    have h17 := hA.2.2.1 i hlt
    have hs := hB.2.1 i hlt
    have hrm := rmo_lt hs
    rw [e168_2]
    by_cases hc : rmo (qS q i) = rm
    · have hfr : firR q rm = some i := ffi_up hf (decide_eq_true hc) _ hlt
      simp (disch := first | assumption | exact ct_i | exact ct_r | exact ct_n | exact ct_h | omega | exact z_in (by omega) (by omega) | exact b01 | exact Or.inl rfl | exact Or.inr rfl) only [e168_0, e168_1, e168_3, e168_4, e168_7, e168_10, e168_11, e168_14, e168_15, e168_16, e168_19, e168_20, e168_23, e168_24, e168_27, e168_28, e168_31, e168_32, e168_33, e168_34, e168_35, e168_38, e168_41, e168_42, ct_i, ct_r, ct_n, ct_h, opt_v, opt_s, ref_s, ref_n, eq_self_iff_true, true_or, or_true, zl0, zl1, zl2, zl3, zl4, zl5, zl6, zl7, zl8, zl9, zl10, zl16, zl32, zl40, zl100, zl160, zIc1, zI_lt, zI_le, nI_eq, nI_add, z_sub, nI_clamp, zI_of, uu_eq, uu_ne, Nat.reduceLT, Nat.reduceLeDiff, Nat.reduceEqDiff, Nat.reduceAdd, Nat.reduceSub, Nat.reduceMul, Nat.not_lt_zero, Nat.lt_irrefl, Nat.le_refl, Bool.false_eq_true, false_and, and_false, true_and, and_true, if_pos, if_neg, if_true, if_false, not_true_eq_false, not_false_eq_true, m0, x16, y16, r32, x17, y17, r34, h33, h16, h17, k165 hd hs, hc, hfr, dpO]
    · have qq := ih (i + 1) (by omega) (by simp only [ffi, hf, decide_eq_false hc, Bool.false_eq_true, if_false])
      simp (disch := first | assumption | exact ct_i | exact ct_r | exact ct_n | exact ct_h | omega | exact z_in (by omega) (by omega) | exact b01 | exact Or.inl rfl | exact Or.inr rfl) only [e168_0, e168_1, e168_3, e168_4, e168_7, e168_10, e168_11, e168_14, e168_15, e168_16, e168_19, e168_20, e168_23, e168_24, e168_27, e168_28, e168_31, e168_32, e168_33, e168_34, e168_35, e168_38, e168_41, e168_42, ct_i, ct_r, ct_n, ct_h, opt_v, opt_s, ref_s, ref_n, eq_self_iff_true, true_or, or_true, zl0, zl1, zl2, zl3, zl4, zl5, zl6, zl7, zl8, zl9, zl10, zl16, zl32, zl40, zl100, zl160, zIc1, zI_lt, zI_le, nI_eq, nI_add, z_sub, nI_clamp, zI_of, uu_eq, uu_ne, Nat.reduceLT, Nat.reduceLeDiff, Nat.reduceEqDiff, Nat.reduceAdd, Nat.reduceSub, Nat.reduceMul, Nat.not_lt_zero, Nat.lt_irrefl, Nat.le_refl, Bool.false_eq_true, false_and, and_false, true_and, and_true, if_pos, if_neg, if_true, if_false, not_true_eq_false, not_false_eq_true, m0, x16, y16, r32, h33, h16, k165 hd hs, hc]
      exact qq
theorem k168 (hd : 2 ≤ d) {g : Nat → Nat → Option Nat} {nd : Nat} {q : List (Nat × Nat)} (hM : mK sh R) (hA : fA g nd q q.length 0 I) (hB : qB q) {rm : Nat} (hr : rm < 6) : aC d 168 [.ref 0, .int (nI rm)] (n, t, sh, I, L, R) Q ↔ Q (some (.int (dpO q (firR q rm)))) (n, t, sh, I, L, R) := by
  obtain ⟨d, rfl⟩ : ∃ e, d = e + 1 := ⟨d - 1, by omega⟩
  simp (disch := first | assumption | exact ct_i | exact ct_r | exact ct_n | exact ct_h | omega | exact z_in (by omega) (by omega) | exact b01 | exact Or.inl rfl | exact Or.inr rfl) only [b168, e168_0, e168_1, e168_3, e168_4, e168_7, e168_10, e168_11, e168_14, e168_15, e168_16, e168_19, e168_20, e168_23, e168_24, e168_27, e168_28, e168_31, e168_32, e168_33, e168_34, e168_35, e168_38, e168_41, e168_42, ct_i, ct_r, ct_n, ct_h, opt_v, opt_s, ref_s, ref_n, eq_self_iff_true, true_or, or_true, zl0, zl1, zl2, zl3, zl4, zl5, zl6, zl7, zl8, zl9, zl10, zl16, zl32, zl40, zl100, zl160, zIc1, zI_lt, zI_le, nI_eq, nI_add, z_sub, nI_clamp, zI_of, uu_eq, uu_ne, Nat.reduceLT, Nat.reduceLeDiff, Nat.reduceEqDiff, Nat.reduceAdd, Nat.reduceSub, Nat.reduceMul, Nat.not_lt_zero, Nat.lt_irrefl, Nat.le_refl, Bool.false_eq_true, false_and, and_false, true_and, and_true, if_pos, if_neg, if_true, if_false, not_true_eq_false, not_false_eq_true]
  exact k168l (by omega) hM hA hB hr q.length 0 (by omega) rfl
theorem k167 (hd : 7 ≤ d) (hk : RM T0 Z D tx tp so sz it (n, t, sh, I, L, R)) {x : Int32} (H : ∀ h', RMh T0 Z D tx tp so sz it h' → Q (some (.int (shoS Z D tx x))) h') : aC d 167 [.ref 0, .int x] (n, t, sh, I, L, R) Q := by
  obtain ⟨d, rfl⟩ : ∃ e, d = e + 1 := ⟨d - 1, by omega⟩
  have hM := hk.2.2.1
  simp only [] at hM
  have m0 := mm_0 hM
  obtain ⟨hB, hq0, hpar⟩ := sq_B hk.1
  have g0 := hk.2.2.2.2.2.1.1
  simp only [] at g0
  have o1 := hk.1.1
  have e2 := fun Q => k119 (Q := Q) (n := n) (t := t) (L := L) (show 2 ≤ d by omega) hM g0 o1.2 (x := x)
  unfold shoS at H
  cases hx : dec x (Z 0) with
  | none =>
    simp only [hx] at H
    have q := H _ hk.2
    simp only [hx, Option.isSome_none, Bool.false_eq_true, if_false] at e2
    simp (disch := first | assumption | exact ct_i | exact ct_r | exact ct_n | exact ct_h | omega | exact z_in (by omega) (by omega) | exact b01 | exact Or.inl rfl | exact Or.inr rfl) only [b167, e167_0, e167_1, e167_2, e167_5, e167_8, e167_10, e167_11, e167_12, e167_15, e167_16, e167_19, e167_20, e167_21, e167_24, ct_i, ct_r, ct_n, ct_h, opt_v, opt_s, ref_s, ref_n, eq_self_iff_true, true_or, or_true, zl0, zl1, zl2, zl3, zl4, zl5, zl6, zl7, zl8, zl9, zl10, zl16, zl32, zl40, zl100, zl160, zIc1, zI_lt, zI_le, nI_eq, nI_add, z_sub, nI_clamp, zI_of, uu_eq, uu_ne, Nat.reduceLT, Nat.reduceLeDiff, Nat.reduceEqDiff, Nat.reduceAdd, Nat.reduceSub, Nat.reduceMul, Nat.not_lt_zero, Nat.lt_irrefl, Nat.le_refl, Bool.false_eq_true, false_and, and_false, true_and, and_true, if_pos, if_neg, if_true, if_false, not_true_eq_false, not_false_eq_true, m0, e2]
    exact q
  | some r =>
    obtain ⟨rfl, hr⟩ := dec_some (by omega) hx
    simp only [hx] at H
    simp only [hx, Option.isSome_some, if_true] at e2
    simp (disch := first | assumption | exact ct_i | exact ct_r | exact ct_n | exact ct_h | omega | exact z_in (by omega) (by omega) | exact b01 | exact Or.inl rfl | exact Or.inr rfl) only [b167, e167_0, e167_1, e167_2, e167_5, e167_8, e167_10, e167_11, e167_12, e167_15, e167_16, e167_19, e167_20, e167_21, e167_24, ct_i, ct_r, ct_n, ct_h, opt_v, opt_s, ref_s, ref_n, eq_self_iff_true, true_or, or_true, zl0, zl1, zl2, zl3, zl4, zl5, zl6, zl7, zl8, zl9, zl10, zl16, zl32, zl40, zl100, zl160, zIc1, zI_lt, zI_le, nI_eq, nI_add, z_sub, nI_clamp, zI_of, uu_eq, uu_ne, Nat.reduceLT, Nat.reduceLeDiff, Nat.reduceEqDiff, Nat.reduceAdd, Nat.reduceSub, Nat.reduceMul, Nat.not_lt_zero, Nat.lt_irrefl, Nat.le_refl, Bool.false_eq_true, false_and, and_false, true_and, and_true, if_pos, if_neg, if_true, if_false, not_true_eq_false, not_false_eq_true, m0, e2]
    refine kAs (by omega) hk (fun I1 ee hf hT => ?_)
    simp (disch := first | assumption | exact ct_i | exact ct_r | exact ct_n | exact ct_h | omega | exact z_in (by omega) (by omega) | exact b01 | exact Or.inl rfl | exact Or.inr rfl) only [e167_0, e167_1, e167_2, e167_5, e167_8, e167_10, e167_11, e167_12, e167_15, e167_16, e167_19, e167_20, e167_21, e167_24, ct_i, ct_r, ct_n, ct_h, opt_v, opt_s, ref_s, ref_n, eq_self_iff_true, true_or, or_true, zl0, zl1, zl2, zl3, zl4, zl5, zl6, zl7, zl8, zl9, zl10, zl16, zl32, zl40, zl100, zl160, zIc1, zI_lt, zI_le, nI_eq, nI_add, z_sub, nI_clamp, zI_of, uu_eq, uu_ne, Nat.reduceLT, Nat.reduceLeDiff, Nat.reduceEqDiff, Nat.reduceAdd, Nat.reduceSub, Nat.reduceMul, Nat.not_lt_zero, Nat.lt_irrefl, Nat.le_refl, Bool.false_eq_true, false_and, and_false, true_and, and_true, if_pos, if_neg, if_true, if_false, not_true_eq_false, not_false_eq_true, m0]
    refine kFA (by omega) (RM_fr hk hf) hT (fun I2 hf2 hk2 h1 hA => ?_)
    have q := H _ hk2.2
    simp (disch := first | assumption | exact ct_i | exact ct_r | exact ct_n | exact ct_h | omega | exact z_in (by omega) (by omega) | exact b01 | exact Or.inl rfl | exact Or.inr rfl) only [e167_0, e167_1, e167_2, e167_5, e167_8, e167_10, e167_11, e167_12, e167_15, e167_16, e167_19, e167_20, e167_21, e167_24, ct_i, ct_r, ct_n, ct_h, opt_v, opt_s, ref_s, ref_n, eq_self_iff_true, true_or, or_true, zl0, zl1, zl2, zl3, zl4, zl5, zl6, zl7, zl8, zl9, zl10, zl16, zl32, zl40, zl100, zl160, zIc1, zI_lt, zI_le, nI_eq, nI_add, z_sub, nI_clamp, zI_of, uu_eq, uu_ne, Nat.reduceLT, Nat.reduceLeDiff, Nat.reduceEqDiff, Nat.reduceAdd, Nat.reduceSub, Nat.reduceMul, Nat.not_lt_zero, Nat.lt_irrefl, Nat.le_refl, Bool.false_eq_true, false_and, and_false, true_and, and_true, if_pos, if_neg, if_true, if_false, not_true_eq_false, not_false_eq_true, m0, k168 (show 2 ≤ d by omega) hM hA hB (show r < 6 by omega)]
    exact q
end
