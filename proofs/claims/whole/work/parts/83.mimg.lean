/-! the model's calls: the image, back, what is over a kind -/
section
variable {T0 : Nat} {Z : Nat → Nat} {D : Nat → Nat → Nat} {tx : Nat → Nat → List Nat} {tp so sz : Nat → Nat} {it : Nat → Nat → Int32} {d : Nat} {n t : Nat} {sh : Nat → Nat × Nat} {I : Nat → Nat → Int32} {L : Nat → Nat → Int64} {R : Nat → Nat → Option Nat} {I' : Nat → Nat → Int32} {Q : Option Value → aH → Prop}
theorem k185l (hM : mK sh R) {nd : Nat} (hn : nd ≤ 4) {I0 : Nat → Nat → Int32} {s : Nat} (h1 : I0 0 1 = nI nd) (h6 : ∀ j, j < nd → I0 6 j = nI (stt s j)) (h3 : I0 0 3 = nI (rmo s))
    (H : ∀ I', (∀ x k, ¬ x = 20 → I' x k = I0 x k) → (∀ j, j < nd → I' 20 j = nI (stt s j)) → Q (some (.int (nI (rmo s)))) (n, t, sh, I', L, R)) :
    ∀ m i I, i + m = nd → (∀ x k, ¬ x = 20 → I x k = I0 x k) → (∀ j, j < i → I 20 j = nI (stt s j)) → aE (a_cl_ d) 185 (39, [.ref 0, .int (nI i)], [], (n, t, sh, I, L, R)) Q := by
  have m0 := mm_0 hM; have x6 := mm_x6 hM; have y6 := mm_y6 hM; have r9 := mm_r9 hM; have x20 := mm_x20 hM; have y20 := mm_y20 hM; have r43 := mm_r43 hM
  intro m
  induction m with
  | zero =>
    intro i I hi hf hj
    obtain rfl : i = nd := by omega
    have g1 := (hf 0 1 (by omega)).trans h1
    have g3 := (hf 0 3 (by omega)).trans h3
    have q := H I hf hj
    rw [e185_39]
    simp (disch := first | assumption | exact ct_i | exact ct_r | exact ct_n | exact ct_h | omega | exact z_in (by omega) (by omega) | exact b01 | exact Or.inl rfl | exact Or.inr rfl) only [e185_0, e185_1, e185_2, e185_5, e185_6, e185_7, e185_10, e185_13, e185_14, e185_15, e185_18, e185_21, e185_22, e185_23, e185_26, e185_29, e185_30, e185_31, e185_34, e185_37, e185_38, e185_40, e185_41, e185_44, e185_47, e185_48, e185_51, e185_52, e185_53, e185_56, e185_57, e185_58, e185_59, e185_62, e185_65, e185_66, e185_69, ct_i, ct_r, ct_n, ct_h, opt_v, opt_s, ref_s, ref_n, eq_self_iff_true, true_or, or_true, zl0, zl1, zl2, zl3, zl4, zl5, zl6, zl7, zl8, zl9, zl10, zl16, zl32, zl40, zl100, zl160, zIc1, zI_lt, zI_le, nI_eq, nI_add, z_sub, nI_clamp, zI_of, uu_eq, uu_ne, Nat.reduceLT, Nat.reduceLeDiff, Nat.reduceEqDiff, Nat.reduceAdd, Nat.reduceSub, Nat.reduceMul, Nat.not_lt_zero, Nat.lt_irrefl, Nat.le_refl, Bool.false_eq_true, false_and, and_false, true_and, and_true, if_pos, if_neg, if_true, if_false, not_true_eq_false, not_false_eq_true, m0, g1, g3]
    exact q
  | succ m ih =>
    intro i I hi hf hj
    have g1 := (hf 0 1 (by omega)).trans h1
    have g6 := (hf 6 i (by omega)).trans (h6 i (by omega))
    have hlt : i < nd := by omega
    rw [e185_39]
    simp (disch := first | assumption | exact ct_i | exact ct_r | exact ct_n | exact ct_h | omega | exact z_in (by omega) (by omega) | exact b01 | exact Or.inl rfl | exact Or.inr rfl) only [e185_0, e185_1, e185_2, e185_5, e185_6, e185_7, e185_10, e185_13, e185_14, e185_15, e185_18, e185_21, e185_22, e185_23, e185_26, e185_29, e185_30, e185_31, e185_34, e185_37, e185_38, e185_40, e185_41, e185_44, e185_47, e185_48, e185_51, e185_52, e185_53, e185_56, e185_57, e185_58, e185_59, e185_62, e185_66, e185_69, ct_i, ct_r, ct_n, ct_h, opt_v, opt_s, ref_s, ref_n, eq_self_iff_true, true_or, or_true, zl0, zl1, zl2, zl3, zl4, zl5, zl6, zl7, zl8, zl9, zl10, zl16, zl32, zl40, zl100, zl160, zIc1, zI_lt, zI_le, nI_eq, nI_add, z_sub, nI_clamp, zI_of, uu_eq, uu_ne, Nat.reduceLT, Nat.reduceLeDiff, Nat.reduceEqDiff, Nat.reduceAdd, Nat.reduceSub, Nat.reduceMul, Nat.not_lt_zero, Nat.lt_irrefl, Nat.le_refl, Bool.false_eq_true, false_and, and_false, true_and, and_true, if_pos, if_neg, if_true, if_false, not_true_eq_false, not_false_eq_true, m0, x6, y6, r9, x20, y20, r43, g1, g6]
    refine ih (i + 1) _ (by omega) (fun x k hx => by rw [uu_ne _ _ _ _ (by omega)]; exact hf x k hx) (fun j hji => ?_)
    by_cases h : j = i
    · subst h; rw [uu_eq]
    · rw [uu_ne _ _ _ _ (by omega)]; exact hj j (by omega)
theorem k185 (hd : 1 ≤ d) (hk : RM T0 Z D tx tp so sz it (n, t, sh, I, L, R)) (H : ∀ h', RMh T0 (imgS Z).2 D tx tp so sz it h' → Q (some (.int (imgS Z).1)) h') : aC d 185 [.ref 0] (n, t, sh, I, L, R) Q := by
  obtain ⟨d, rfl⟩ : ∃ e, d = e + 1 := ⟨d - 1, by omega⟩
  obtain ⟨hM, hD, hn4, hB, hR⟩ := RM_B hk
  have m0 := mm_0 hM
  obtain ⟨_, _, _, _, ⟨a1, a2⟩, ⟨b1, b2, b3⟩, c1, ⟨d1, d2⟩, ⟨e1, e2⟩, f1, ⟨g1, g2⟩, i1, j1⟩ := id hk
  simp only [] at a1 a2 b1 b2 b3 c1 d1 d2 e1 e2 f1 g1 g2 i1 j1
  have hb1 : nI 1 = 0 ∨ nI 1 = 1 := Or.inr rfl
  simp (disch := first | assumption | exact ct_i | exact ct_r | exact ct_n | exact ct_h | omega | exact z_in (by omega) (by omega) | exact b01 | exact Or.inl rfl | exact Or.inr rfl) only [b185, e185_0, e185_1, e185_2, e185_5, e185_6, e185_7, e185_10, e185_13, e185_14, e185_15, e185_18, e185_21, e185_22, e185_23, e185_26, e185_29, e185_30, e185_31, e185_34, e185_37, e185_38, e185_40, e185_41, e185_44, e185_47, e185_48, e185_51, e185_52, e185_53, e185_56, e185_57, e185_58, e185_59, e185_62, e185_65, e185_66, e185_69, ct_i, ct_r, ct_n, ct_h, opt_v, opt_s, ref_s, ref_n, eq_self_iff_true, true_or, or_true, zl0, zl1, zl2, zl3, zl4, zl5, zl6, zl7, zl8, zl9, zl10, zl16, zl32, zl40, zl100, zl160, zIc1, zI_lt, zI_le, nI_eq, nI_add, z_sub, nI_clamp, zI_of, uu_eq, uu_ne, Nat.reduceLT, Nat.reduceLeDiff, Nat.reduceEqDiff, Nat.reduceAdd, Nat.reduceSub, Nat.reduceMul, Nat.not_lt_zero, Nat.lt_irrefl, Nat.le_refl, Bool.false_eq_true, false_and, and_false, true_and, and_true, if_pos, if_neg, if_true, if_false, not_true_eq_false, not_false_eq_true, m0, a1, b2, b3, e2]
  refine k185l (s := Z 2) hM hn4 ?_ (fun j hj => ?_) ?_ (fun I' hf h20 => H _ ⟨hk.2.1, hk.2.2.1, hk.2.2.2.1, ?_⟩) (Z 1) 0 _ (by omega) (fun _ _ _ => rfl) (fun j hj => by omega)
  · simp (disch := omega) only [uu_ne]; exact a1
  · simp (disch := omega) only [uu_ne]; exact (c1 j hj).2
  · simp (disch := omega) only [uu_ne]; exact b3
  · have e : ∀ x k, ¬ x = 20 → ¬ (x = 0 ∧ 38 ≤ k ∧ k ≤ 42) → I' x k = I x k := fun x k h1 h2 => by
      rw [hf x k h1]; simp (disch := omega) only [uu_ne]
    unfold MI imgS
    simp (disch := omega) only [u1_ne, u1_eq]
    refine ⟨⟨?_, fun d hd => ⟨?_, ?_, ?_, ?_⟩⟩, ⟨?_, ?_, ?_⟩, fun d hd => ⟨?_, ?_⟩, ⟨?_, fun k hk => ?_⟩, ⟨?_, ?_⟩, fun i hi => ?_, ⟨?_, fun hq => ⟨⟨?_, ?_, ?_, ?_⟩, fun d hd => h20 d hd⟩⟩, fun j hj => ⟨?_, ?_, fun k hk => ?_⟩, fun j hj => ?_⟩
    · exact (e _ _ (by omega) (by omega)).trans a1
    · exact (e _ _ (by omega) (by omega)).trans (a2 d hd).1
    · exact (e _ _ (by omega) (by omega)).trans (a2 d hd).2.1
    · exact (e _ _ (by omega) (by omega)).trans (a2 d hd).2.2.1
    · exact (e _ _ (by omega) (by omega)).trans (a2 d hd).2.2.2
    · exact (e _ _ (by omega) (by omega)).trans b1
    · exact (e _ _ (by omega) (by omega)).trans b2
    · exact (e _ _ (by omega) (by omega)).trans b3
    · exact (e _ _ (by omega) (by omega)).trans (c1 d hd).1
    · exact (e _ _ (by omega) (by omega)).trans (c1 d hd).2
    · exact (e _ _ (by omega) (by omega)).trans d1
    · exact (e _ _ (by omega) (by omega)).trans (d2 k hk)
    · exact (e _ _ (by omega) (by omega)).trans e1
    · exact (e _ _ (by omega) (by omega)).trans e2
    · exact txM_fr (f1 i hi) (fun x k hx => e x k (by omega) (by omega))
    · try dsimp only
      rw [hf _ _ (by omega)]; simp (disch := omega) only [uu_ne, uu_eq]
    · try dsimp only
      rw [hf _ _ (by omega)]; simp (disch := omega) only [uu_ne, uu_eq]
    · try dsimp only
      rw [hf _ _ (by omega)]; simp (disch := omega) only [uu_ne, uu_eq]
    · try dsimp only
      rw [hf _ _ (by omega)]; simp (disch := omega) only [uu_ne, uu_eq]
    · try dsimp only
      rw [hf _ _ (by omega)]; simp (disch := omega) only [uu_ne, uu_eq]
    · exact (e _ _ (by omega) (by omega)).trans (i1 j hj).1
    · exact (e _ _ (by omega) (by omega)).trans (i1 j hj).2.1
    · exact (e _ _ (by omega) (by omega)).trans ((i1 j hj).2.2 k hk)
    · exact (e _ _ (by omega) (by omega)).trans (j1 j hj)
theorem k186l (hM : mK sh R) {kd : Nat} (hn : kd ≤ 4) {I0 : Nat → Nat → Int32} {s : Nat} (h39 : I0 0 39 = nI kd) (h20 : ∀ j, j < kd → I0 20 j = nI (stt s j)) (h3 : I0 0 3 = nI (rmo s))
    (H : ∀ I', (∀ x k, ¬ (x = 6 ∧ k < kd) → I' x k = I0 x k) → (∀ j, j < kd → I' 6 j = nI (stt s j)) → Q (some (.int (nI (rmo s)))) (n, t, sh, I', L, R)) :
    ∀ m i I, i + m = kd → (∀ x k, ¬ (x = 6 ∧ k < kd) → I x k = I0 x k) → (∀ j, j < i → I 6 j = nI (stt s j)) → aE (a_cl_ d) 186 (47, [.ref 0, .int (nI i)], [], (n, t, sh, I, L, R)) Q := by
  have m0 := mm_0 hM; have x6 := mm_x6 hM; have y6 := mm_y6 hM; have r9 := mm_r9 hM; have x20 := mm_x20 hM; have y20 := mm_y20 hM; have r43 := mm_r43 hM
  intro m
  induction m with
  | zero =>
    intro i I hi hf hj
    obtain rfl : i = kd := by omega
    have g1 := (hf 0 39 (by omega)).trans h39
    have g3 := (hf 0 3 (by omega)).trans h3
    have q := H I hf hj
    rw [e186_47]
    simp (disch := first | assumption | exact ct_i | exact ct_r | exact ct_n | exact ct_h | omega | exact z_in (by omega) (by omega) | exact b01 | exact Or.inl rfl | exact Or.inr rfl) only [e186_0, e186_1, e186_4, e186_7, e186_8, e186_9, e186_12, e186_15, e186_18, e186_20, e186_21, e186_22, e186_23, e186_26, e186_29, e186_30, e186_31, e186_34, e186_37, e186_38, e186_39, e186_42, e186_45, e186_46, e186_48, e186_49, e186_52, e186_55, e186_56, e186_59, e186_60, e186_61, e186_64, e186_65, e186_66, e186_67, e186_70, e186_73, e186_74, e186_77, ct_i, ct_r, ct_n, ct_h, opt_v, opt_s, ref_s, ref_n, eq_self_iff_true, true_or, or_true, zl0, zl1, zl2, zl3, zl4, zl5, zl6, zl7, zl8, zl9, zl10, zl16, zl32, zl40, zl100, zl160, zIc1, zI_lt, zI_le, nI_eq, nI_add, z_sub, nI_clamp, zI_of, uu_eq, uu_ne, Nat.reduceLT, Nat.reduceLeDiff, Nat.reduceEqDiff, Nat.reduceAdd, Nat.reduceSub, Nat.reduceMul, Nat.not_lt_zero, Nat.lt_irrefl, Nat.le_refl, Bool.false_eq_true, false_and, and_false, true_and, and_true, if_pos, if_neg, if_true, if_false, not_true_eq_false, not_false_eq_true, m0, g1, g3]
    exact q
  | succ m ih =>
    intro i I hi hf hj
    have g1 := (hf 0 39 (by omega)).trans h39
    have g6 := (hf 20 i (by omega)).trans (h20 i (by omega))
    have hlt : i < kd := by omega
    rw [e186_47]
    simp (disch := first | assumption | exact ct_i | exact ct_r | exact ct_n | exact ct_h | omega | exact z_in (by omega) (by omega) | exact b01 | exact Or.inl rfl | exact Or.inr rfl) only [e186_0, e186_1, e186_4, e186_7, e186_8, e186_9, e186_12, e186_15, e186_18, e186_20, e186_21, e186_22, e186_23, e186_26, e186_29, e186_30, e186_31, e186_34, e186_37, e186_38, e186_39, e186_42, e186_45, e186_46, e186_48, e186_49, e186_52, e186_55, e186_56, e186_59, e186_60, e186_61, e186_64, e186_65, e186_66, e186_67, e186_70, e186_74, e186_77, ct_i, ct_r, ct_n, ct_h, opt_v, opt_s, ref_s, ref_n, eq_self_iff_true, true_or, or_true, zl0, zl1, zl2, zl3, zl4, zl5, zl6, zl7, zl8, zl9, zl10, zl16, zl32, zl40, zl100, zl160, zIc1, zI_lt, zI_le, nI_eq, nI_add, z_sub, nI_clamp, zI_of, uu_eq, uu_ne, Nat.reduceLT, Nat.reduceLeDiff, Nat.reduceEqDiff, Nat.reduceAdd, Nat.reduceSub, Nat.reduceMul, Nat.not_lt_zero, Nat.lt_irrefl, Nat.le_refl, Bool.false_eq_true, false_and, and_false, true_and, and_true, if_pos, if_neg, if_true, if_false, not_true_eq_false, not_false_eq_true, m0, x6, y6, r9, x20, y20, r43, g1, g6]
    refine ih (i + 1) _ (by omega) (fun x k hx => by rw [uu_ne _ _ _ _ (by omega)]; exact hf x k hx) (fun j hji => ?_)
    by_cases h : j = i
    · subst h; rw [uu_eq]
    · rw [uu_ne _ _ _ _ (by omega)]; exact hj j (by omega)
theorem k186 (hd : 3 ≤ d) (hk : RM T0 Z D tx tp so sz it (n, t, sh, I, L, R)) (H : ∀ h', RMh T0 (bacS Z).2 D tx tp so sz it h' → Q (some (.int (bacS Z).1)) h') : aC d 186 [.ref 0] (n, t, sh, I, L, R) Q := by
  obtain ⟨d, rfl⟩ : ∃ e, d = e + 1 := ⟨d - 1, by omega⟩
  obtain ⟨hM, hD, hn4, hB, hR⟩ := RM_B hk
  have m0 := mm_0 hM
  obtain ⟨_, _, _, _, ⟨a1, a2⟩, ⟨b1, b2, b3⟩, c1, ⟨d1, d2⟩, ⟨e1, e2⟩, f1, ⟨g1, g2⟩, i1, j1⟩ := id hk
  simp only [] at a1 a2 b1 b2 b3 c1 d1 d2 e1 e2 f1 g1 g2 i1 j1
  have o1 := hk.1.1
  have o6 := hk.1.2.2.2.2.2.1
  unfold bacS at H
  by_cases hz : Z 6 = 1
  · obtain ⟨z1, z2, z3, z4, z5⟩ : Z 6 = 1 ∧ Z 7 < 6144 ∧ Z 8 ≤ Z 1 ∧ Z 9 < Z 3 ∧ ∀ i, Z 8 ≤ i → i < 4 → stt (Z 7) i = 0 := o6.resolve_left (by omega)
    obtain ⟨⟨q1, q2, q3, q4⟩, q5⟩ := g2 hz
    rw [hz] at g1
    have hr := rmo_lt z2
    have e9 := fun Q => k119 (Q := Q) (n := n) (t := t) (L := L) (show 2 ≤ d by omega) hM b1 o1.2 (x := nI (rmo (Z 7)))
    obtain ⟨k1, k2, k3, k4⟩ := bkF_ok (now := Z 2) (Z 1 - Z 8) (Z 8) (Z 7) (by omega) z2
    by_cases hc : rmo (Z 7) < Z 0
    · rw [if_pos ⟨hz, hc⟩] at H
      rw [dec_nI hc (by omega)] at e9
      simp only [Option.isSome_some, if_true] at e9
      simp (disch := first | assumption | exact ct_i | exact ct_r | exact ct_n | exact ct_h | omega | exact z_in (by omega) (by omega) | exact b01 | exact Or.inl rfl | exact Or.inr rfl) only [b186, e186_0, e186_1, e186_4, e186_7, e186_8, e186_9, e186_12, e186_15, e186_18, e186_20, e186_21, e186_22, e186_23, e186_26, e186_29, e186_30, e186_31, e186_34, e186_37, e186_38, e186_39, e186_42, e186_45, e186_46, e186_48, e186_49, e186_52, e186_55, e186_56, e186_59, e186_60, e186_61, e186_64, e186_65, e186_66, e186_67, e186_70, e186_73, e186_74, e186_77, ct_i, ct_r, ct_n, ct_h, opt_v, opt_s, ref_s, ref_n, eq_self_iff_true, true_or, or_true, zl0, zl1, zl2, zl3, zl4, zl5, zl6, zl7, zl8, zl9, zl10, zl16, zl32, zl40, zl100, zl160, zIc1, zI_lt, zI_le, nI_eq, nI_add, z_sub, nI_clamp, zI_of, uu_eq, uu_ne, Nat.reduceLT, Nat.reduceLeDiff, Nat.reduceEqDiff, Nat.reduceAdd, Nat.reduceSub, Nat.reduceMul, Nat.not_lt_zero, Nat.lt_irrefl, Nat.le_refl, Bool.false_eq_true, false_and, and_false, true_and, and_true, if_pos, if_neg, if_true, if_false, not_true_eq_false, not_false_eq_true, m0, g1, q3, e9, q2, q4]
      simp only [k2] at H
      refine k186l (s := Z 7) (kd := Z 8) hM (by omega) ?_ (fun j hj => ?_) ?_ (fun I' hf h6 => H _ ⟨hk.2.1, hk.2.2.1, hk.2.2.2.1, MI_24 hk.2.2.2.2 (fun k hk => ?_) (fun x k hx => ?_) ?_ ?_ ?_ (fun j hj => ?_)⟩) (Z 8) 0 _ (by omega) (fun _ _ _ => rfl) (fun j hj => by omega)
      · simp (disch := omega) only [uu_ne]; exact q1
      · simp (disch := omega) only [uu_ne]; exact q5 j hj
      · simp (disch := omega) only [uu_ne, uu_eq]
      · simp (disch := omega) only [u1_ne]
      · try dsimp only
        rw [hf _ _ (by omega)]; simp (disch := omega) only [uu_ne]
      · try dsimp only
        rw [hf _ _ (by omega), u1_ne _ _ _ (by decide), u1_eq, k3]; simp (disch := omega) only [uu_ne, uu_eq]
      · try dsimp only
        rw [hf _ _ (by omega), u1_ne _ _ _ (by decide), u1_eq, k2]; simp (disch := omega) only [uu_ne, uu_eq]
      · try dsimp only
        rw [hf _ _ (by omega), u1_eq]; simp (disch := omega) only [uu_ne, uu_eq]
      · try dsimp only
        rw [u1_ne _ _ _ (by decide), u1_eq, k4 j (by omega)]
        by_cases h8 : j < Z 8
        · rw [if_neg (by omega)]; exact h6 j h8
        · rw [if_pos (by omega), hf _ _ (by omega)]
          simp (disch := omega) only [uu_ne]
          exact (c1 j hj).2
    · rw [if_neg (fun h => hc h.2)] at H
      have q := H _ hk.2
      have hdn : dec (nI (rmo (Z 7))) (Z 0) = none := by
        unfold dec; rw [if_pos (Or.inr (by rw [zI_le (by omega) (by omega)]; omega))]
      rw [hdn] at e9
      simp only [Option.isSome_none, Bool.false_eq_true, if_false] at e9
      simp (disch := first | assumption | exact ct_i | exact ct_r | exact ct_n | exact ct_h | omega | exact z_in (by omega) (by omega) | exact b01 | exact Or.inl rfl | exact Or.inr rfl) only [b186, e186_0, e186_1, e186_4, e186_7, e186_8, e186_9, e186_12, e186_15, e186_18, e186_20, e186_21, e186_22, e186_23, e186_26, e186_29, e186_30, e186_31, e186_34, e186_37, e186_38, e186_39, e186_42, e186_45, e186_46, e186_48, e186_49, e186_52, e186_55, e186_56, e186_59, e186_60, e186_61, e186_64, e186_65, e186_66, e186_67, e186_70, e186_73, e186_74, e186_77, ct_i, ct_r, ct_n, ct_h, opt_v, opt_s, ref_s, ref_n, eq_self_iff_true, true_or, or_true, zl0, zl1, zl2, zl3, zl4, zl5, zl6, zl7, zl8, zl9, zl10, zl16, zl32, zl40, zl100, zl160, zIc1, zI_lt, zI_le, nI_eq, nI_add, z_sub, nI_clamp, zI_of, uu_eq, uu_ne, Nat.reduceLT, Nat.reduceLeDiff, Nat.reduceEqDiff, Nat.reduceAdd, Nat.reduceSub, Nat.reduceMul, Nat.not_lt_zero, Nat.lt_irrefl, Nat.le_refl, Bool.false_eq_true, false_and, and_false, true_and, and_true, if_pos, if_neg, if_true, if_false, not_true_eq_false, not_false_eq_true, m0, g1, q3, e9]
      exact q
  · rw [if_neg (fun h => hz h.1)] at H
    have q := H _ hk.2
    have hz0 : Z 6 = 0 := by rcases o6 with h | h; exact h; exact absurd h.1 hz
    rw [hz0] at g1
    simp (disch := first | assumption | exact ct_i | exact ct_r | exact ct_n | exact ct_h | omega | exact z_in (by omega) (by omega) | exact b01 | exact Or.inl rfl | exact Or.inr rfl) only [b186, e186_0, e186_1, e186_4, e186_7, e186_8, e186_9, e186_12, e186_15, e186_18, e186_20, e186_21, e186_22, e186_23, e186_26, e186_29, e186_30, e186_31, e186_34, e186_37, e186_38, e186_39, e186_42, e186_45, e186_46, e186_48, e186_49, e186_52, e186_55, e186_56, e186_59, e186_60, e186_61, e186_64, e186_65, e186_66, e186_67, e186_70, e186_73, e186_74, e186_77, ct_i, ct_r, ct_n, ct_h, opt_v, opt_s, ref_s, ref_n, eq_self_iff_true, true_or, or_true, zl0, zl1, zl2, zl3, zl4, zl5, zl6, zl7, zl8, zl9, zl10, zl16, zl32, zl40, zl100, zl160, zIc1, zI_lt, zI_le, nI_eq, nI_add, z_sub, nI_clamp, zI_of, uu_eq, uu_ne, Nat.reduceLT, Nat.reduceLeDiff, Nat.reduceEqDiff, Nat.reduceAdd, Nat.reduceSub, Nat.reduceMul, Nat.not_lt_zero, Nat.lt_irrefl, Nat.le_refl, Bool.false_eq_true, false_and, and_false, true_and, and_true, if_pos, if_neg, if_true, if_false, not_true_eq_false, not_false_eq_true, m0, g1]
    exact q
theorem k193 (hd : 1 ≤ d) {c : Nat} (hc : c < 6) : aC d 193 [.int (nI c)] (n, t, sh, I, L, R) Q ↔ Q (some (.int (nI (if c = 4 then 1 else if c = 5 then 2 else 0)))) (n, t, sh, I, L, R) := by
  obtain ⟨d, rfl⟩ : ∃ e, d = e + 1 := ⟨d - 1, by omega⟩
  rcases (show c = 0 ∨ c = 1 ∨ c = 2 ∨ c = 3 ∨ c = 4 ∨ c = 5 by omega) with rfl | rfl | rfl | rfl | rfl | rfl <;> simp (disch := first | assumption | exact ct_i | exact ct_r | exact ct_n | exact ct_h | omega | exact z_in (by omega) (by omega) | exact b01 | exact Or.inl rfl | exact Or.inr rfl) only [b193, e193_0, e193_1, e193_2, e193_5, e193_6, e193_9, e193_10, e193_11, e193_14, e193_15, e193_18, e193_19, ct_i, ct_r, ct_n, ct_h, opt_v, opt_s, ref_s, ref_n, eq_self_iff_true, true_or, or_true, zl0, zl1, zl2, zl3, zl4, zl5, zl6, zl7, zl8, zl9, zl10, zl16, zl32, zl40, zl100, zl160, zIc1, zI_lt, zI_le, nI_eq, nI_add, z_sub, nI_clamp, zI_of, uu_eq, uu_ne, Nat.reduceLT, Nat.reduceLeDiff, Nat.reduceEqDiff, Nat.reduceAdd, Nat.reduceSub, Nat.reduceMul, Nat.not_lt_zero, Nat.lt_irrefl, Nat.le_refl, Bool.false_eq_true, false_and, and_false, true_and, and_true, if_pos, if_neg, if_true, if_false, not_true_eq_false, not_false_eq_true]
def ovr (c : Nat) : Nat := if c = 4 then 1 else if c = 5 then 2 else 0
def ovF (c a : Nat) : Nat := if c = a ∨ c = 0 then c else if ovr c = a ∨ ovr c = 0 then ovr c else ovr (ovr c)
theorem ovF_ok : ∀ c, c < 6 → ∀ a, a < 6 → ((ovF c a = a ↔ und c a = true) ∧ ovF c a < 6 ∧ ovr c < 6 ∧ ovr (ovr c) = 0) := by decide
theorem k192s (hd : 1 ≤ d) {c a : Nat} (hc : c < 6) (ha : a < 6) {x : Int32} : aE (a_cl_ d) 192 (33, [.ref 0, .int x, .int (nI a), .int (nI c)], [], (n, t, sh, I, L, R)) Q ↔
    if c = a ∨ c = 0 then aE (a_cl_ d) 192 (50, [.ref 0, .int x, .int (nI a), .int (nI c)], [], (n, t, sh, I, L, R)) Q else aE (a_cl_ d) 192 (33, [.ref 0, .int x, .int (nI a), .int (nI (ovr c))], [], (n, t, sh, I, L, R)) Q := by
  unfold ovr
  by_cases h1 : c = a
  · subst h1
    rw [if_pos (Or.inl rfl), e192_33]
    simp (disch := first | assumption | exact ct_i | exact ct_r | exact ct_n | exact ct_h | omega | exact z_in (by omega) (by omega) | exact b01 | exact Or.inl rfl | exact Or.inr rfl) only [e192_0, e192_1, e192_2, e192_3, e192_6, e192_9, e192_12, e192_14, e192_15, e192_16, e192_17, e192_20, e192_23, e192_25, e192_26, e192_27, e192_30, e192_31, e192_32, e192_34, e192_35, e192_38, e192_39, e192_42, e192_43, e192_46, e192_47, e192_51, e192_52, e192_55, e192_56, e192_59, e192_60, e192_61, e192_64, e192_66, ct_i, ct_r, ct_n, ct_h, opt_v, opt_s, ref_s, ref_n, eq_self_iff_true, true_or, or_true, zl0, zl1, zl2, zl3, zl4, zl5, zl6, zl7, zl8, zl9, zl10, zl16, zl32, zl40, zl100, zl160, zIc1, zI_lt, zI_le, nI_eq, nI_add, z_sub, nI_clamp, zI_of, uu_eq, uu_ne, Nat.reduceLT, Nat.reduceLeDiff, Nat.reduceEqDiff, Nat.reduceAdd, Nat.reduceSub, Nat.reduceMul, Nat.not_lt_zero, Nat.lt_irrefl, Nat.le_refl, Bool.false_eq_true, false_and, and_false, true_and, and_true, if_pos, if_neg, if_true, if_false, not_true_eq_false, not_false_eq_true]
  · by_cases h2 : c = 0
    · subst h2
      rw [if_pos (Or.inr rfl), e192_33]
      simp (disch := first | assumption | exact ct_i | exact ct_r | exact ct_n | exact ct_h | omega | exact z_in (by omega) (by omega) | exact b01 | exact Or.inl rfl | exact Or.inr rfl) only [e192_0, e192_1, e192_2, e192_3, e192_6, e192_9, e192_12, e192_14, e192_15, e192_16, e192_17, e192_20, e192_23, e192_25, e192_26, e192_27, e192_30, e192_31, e192_32, e192_34, e192_35, e192_38, e192_39, e192_42, e192_43, e192_46, e192_47, e192_51, e192_52, e192_55, e192_56, e192_59, e192_60, e192_61, e192_64, e192_66, ct_i, ct_r, ct_n, ct_h, opt_v, opt_s, ref_s, ref_n, eq_self_iff_true, true_or, or_true, zl0, zl1, zl2, zl3, zl4, zl5, zl6, zl7, zl8, zl9, zl10, zl16, zl32, zl40, zl100, zl160, zIc1, zI_lt, zI_le, nI_eq, nI_add, z_sub, nI_clamp, zI_of, uu_eq, uu_ne, Nat.reduceLT, Nat.reduceLeDiff, Nat.reduceEqDiff, Nat.reduceAdd, Nat.reduceSub, Nat.reduceMul, Nat.not_lt_zero, Nat.lt_irrefl, Nat.le_refl, Bool.false_eq_true, false_and, and_false, true_and, and_true, if_pos, if_neg, if_true, if_false, not_true_eq_false, not_false_eq_true, h1]
    · rw [if_neg (fun h => h.elim h1 h2), e192_33]
      simp (disch := first | assumption | exact ct_i | exact ct_r | exact ct_n | exact ct_h | omega | exact z_in (by omega) (by omega) | exact b01 | exact Or.inl rfl | exact Or.inr rfl) only [e192_0, e192_1, e192_2, e192_3, e192_6, e192_9, e192_12, e192_14, e192_15, e192_16, e192_17, e192_20, e192_23, e192_25, e192_26, e192_27, e192_30, e192_31, e192_32, e192_34, e192_35, e192_38, e192_39, e192_42, e192_43, e192_46, e192_47, e192_51, e192_52, e192_55, e192_56, e192_59, e192_60, e192_61, e192_64, e192_66, ct_i, ct_r, ct_n, ct_h, opt_v, opt_s, ref_s, ref_n, eq_self_iff_true, true_or, or_true, zl0, zl1, zl2, zl3, zl4, zl5, zl6, zl7, zl8, zl9, zl10, zl16, zl32, zl40, zl100, zl160, zIc1, zI_lt, zI_le, nI_eq, nI_add, z_sub, nI_clamp, zI_of, uu_eq, uu_ne, Nat.reduceLT, Nat.reduceLeDiff, Nat.reduceEqDiff, Nat.reduceAdd, Nat.reduceSub, Nat.reduceMul, Nat.not_lt_zero, Nat.lt_irrefl, Nat.le_refl, Bool.false_eq_true, false_and, and_false, true_and, and_true, if_true, if_false, not_true_eq_false, not_false_eq_true, h1, h2, k193 hd hc, nI_eq, zI_le, Nat.le_zero_eq]
theorem k192m (hd : 1 ≤ d) {c a : Nat} (hc : c < 6) (ha : a < 6) {x : Int32} : aE (a_cl_ d) 192 (33, [.ref 0, .int x, .int (nI a), .int (nI c)], [], (n, t, sh, I, L, R)) Q ↔ aE (a_cl_ d) 192 (50, [.ref 0, .int x, .int (nI a), .int (nI (ovF c a))], [], (n, t, sh, I, L, R)) Q := by
  obtain ⟨_, _, h3, h4⟩ := ovF_ok c hc a ha
  unfold ovF
  rw [k192s hd hc ha]
  by_cases h1 : c = a ∨ c = 0
  · rw [if_pos h1, if_pos h1]
  · rw [if_neg h1, if_neg h1, k192s hd h3 ha]
    by_cases h2 : ovr c = a ∨ ovr c = 0
    · rw [if_pos h2, if_pos h2]
    · rw [if_neg h2, if_neg h2, k192s hd (by omega) ha, if_pos (Or.inr h4)]
theorem k192 (hd : 3 ≤ d) (hk : RM T0 Z D tx tp so sz it (n, t, sh, I, L, R)) {x k : Int32} (H : ∀ h', RMh T0 Z D tx tp so sz it h' → Q (some (.int (takS Z D x k))) h') : aC d 192 [.ref 0, .int x, .int k] (n, t, sh, I, L, R) Q := by
  obtain ⟨d, rfl⟩ : ∃ e, d = e + 1 := ⟨d - 1, by omega⟩
  obtain ⟨hM, hD, hn4, hB, hR⟩ := RM_B hk
  have m0 := mm_0 hM; have x1 := mm_x1 hM; have y1 := mm_y1 hM; have r4 := mm_r4 hM; have x5 := mm_x5 hM; have y5 := mm_y5 hM; have r8 := mm_r8 hM
  obtain ⟨_, _, _, _, m1, m2, m3, m4, m5, m6, m7⟩ := id hk
  simp only [] at m1 m3
  have q := H _ hk.2
  have e1 := fun Q => k121 (Q := Q) (n := n) (t := t) (L := L) (show 2 ≤ d by omega) hM hD hn4 (x := x)
  unfold takS at q
  cases hv : dec k 6 with
  | none =>
    simp only [hv] at q
    simp (disch := first | assumption | exact ct_i | exact ct_r | exact ct_n | exact ct_h | omega | exact z_in (by omega) (by omega) | exact b01 | exact Or.inl rfl | exact Or.inr rfl) only [b192, e192_0, e192_1, e192_2, e192_3, e192_6, e192_9, e192_12, e192_14, e192_15, e192_16, e192_17, e192_20, e192_23, e192_25, e192_26, e192_27, e192_30, e192_31, e192_32, e192_34, e192_35, e192_38, e192_39, e192_42, e192_43, e192_46, e192_47, e192_50, e192_51, e192_52, e192_55, e192_56, e192_59, e192_60, e192_61, e192_64, e192_66, ct_i, ct_r, ct_n, ct_h, opt_v, opt_s, ref_s, ref_n, eq_self_iff_true, true_or, or_true, zl0, zl1, zl2, zl3, zl4, zl5, zl6, zl7, zl8, zl9, zl10, zl16, zl32, zl40, zl100, zl160, zIc1, zI_lt, zI_le, nI_eq, nI_add, z_sub, nI_clamp, zI_of, uu_eq, uu_ne, Nat.reduceLT, Nat.reduceLeDiff, Nat.reduceEqDiff, Nat.reduceAdd, Nat.reduceSub, Nat.reduceMul, Nat.not_lt_zero, Nat.lt_irrefl, Nat.le_refl, Bool.false_eq_true, false_and, and_false, true_and, and_true, if_pos, if_neg, if_true, if_false, not_true_eq_false, not_false_eq_true, m0, ll0, ll5, k118 (show 1 ≤ d by omega), in_d6, hv, Option.isSome_none, Bool.false_eq_true, if_false]
    exact q
  | some a =>
    obtain ⟨rfl, ha⟩ := dec_some (by omega) hv
    simp only [hv] at q
    cases hx : dec x (Z 1) with
    | none =>
      simp only [hx] at q
      simp only [hx, Option.isSome_none, Bool.false_eq_true, if_false] at e1
      simp (disch := first | assumption | exact ct_i | exact ct_r | exact ct_n | exact ct_h | omega | exact z_in (by omega) (by omega) | exact b01 | exact Or.inl rfl | exact Or.inr rfl) only [b192, e192_0, e192_1, e192_2, e192_3, e192_6, e192_9, e192_12, e192_14, e192_15, e192_16, e192_17, e192_20, e192_23, e192_25, e192_26, e192_27, e192_30, e192_31, e192_32, e192_34, e192_35, e192_38, e192_39, e192_42, e192_43, e192_46, e192_47, e192_50, e192_51, e192_52, e192_55, e192_56, e192_59, e192_60, e192_61, e192_64, e192_66, ct_i, ct_r, ct_n, ct_h, opt_v, opt_s, ref_s, ref_n, eq_self_iff_true, true_or, or_true, zl0, zl1, zl2, zl3, zl4, zl5, zl6, zl7, zl8, zl9, zl10, zl16, zl32, zl40, zl100, zl160, zIc1, zI_lt, zI_le, nI_eq, nI_add, z_sub, nI_clamp, zI_of, uu_eq, uu_ne, Nat.reduceLT, Nat.reduceLeDiff, Nat.reduceEqDiff, Nat.reduceAdd, Nat.reduceSub, Nat.reduceMul, Nat.not_lt_zero, Nat.lt_irrefl, Nat.le_refl, Bool.false_eq_true, false_and, and_false, true_and, and_true, if_pos, if_neg, if_true, if_false, not_true_eq_false, not_false_eq_true, m0, ll0, ll5, k118 (show 1 ≤ d by omega), in_d6, hv, Option.isSome_some, if_true, e1]
      exact q
    | some i =>
      obtain ⟨rfl, hi⟩ := dec_some (by omega) hx
      simp only [hx] at q
      simp only [hx, Option.isSome_some, if_true] at e1
      have gk := (m3 i hi).1
      have gn := (m1.2 i hi).2.2.2
      obtain ⟨b0, b1, b2, b3, b4⟩ := hB i hi
      obtain ⟨u1, u2, _, _⟩ := ovF_ok _ b4 a ha
      simp (disch := first | assumption | exact ct_i | exact ct_r | exact ct_n | exact ct_h | omega | exact z_in (by omega) (by omega) | exact b01 | exact Or.inl rfl | exact Or.inr rfl) only [b192, e192_0, e192_1, e192_2, e192_3, e192_6, e192_9, e192_12, e192_14, e192_15, e192_16, e192_17, e192_20, e192_23, e192_25, e192_26, e192_27, e192_30, e192_31, e192_32, e192_34, e192_35, e192_38, e192_39, e192_42, e192_43, e192_46, e192_47, e192_50, e192_51, e192_52, e192_55, e192_56, e192_59, e192_60, e192_61, e192_64, e192_66, ct_i, ct_r, ct_n, ct_h, opt_v, opt_s, ref_s, ref_n, eq_self_iff_true, true_or, or_true, zl0, zl1, zl2, zl3, zl4, zl5, zl6, zl7, zl8, zl9, zl10, zl16, zl32, zl40, zl100, zl160, zIc1, zI_lt, zI_le, nI_eq, nI_add, z_sub, nI_clamp, zI_of, uu_eq, uu_ne, Nat.reduceLT, Nat.reduceLeDiff, Nat.reduceEqDiff, Nat.reduceAdd, Nat.reduceSub, Nat.reduceMul, Nat.not_lt_zero, Nat.lt_irrefl, Nat.le_refl, Bool.false_eq_true, false_and, and_false, true_and, and_true, if_pos, if_neg, if_true, if_false, not_true_eq_false, not_false_eq_true, m0, x1, y1, r4, x5, y5, r8, ll0, ll5, k118 (show 1 ≤ d by omega), in_d6, hv, Option.isSome_some, if_true, e1, gk]
      rw [k192m (show 1 ≤ d by omega) b4 ha]
      by_cases hu : und (D i 4) a = true
      · rw [if_pos hu] at q
        have hu2 := u1.mpr hu
        simp (disch := first | assumption | exact ct_i | exact ct_r | exact ct_n | exact ct_h | omega | exact z_in (by omega) (by omega) | exact b01 | exact Or.inl rfl | exact Or.inr rfl) only [e192_0, e192_1, e192_2, e192_3, e192_6, e192_9, e192_12, e192_14, e192_15, e192_16, e192_17, e192_20, e192_23, e192_25, e192_26, e192_27, e192_30, e192_31, e192_32, e192_34, e192_35, e192_38, e192_39, e192_42, e192_43, e192_46, e192_47, e192_50, e192_51, e192_52, e192_55, e192_56, e192_59, e192_60, e192_61, e192_64, e192_66, ct_i, ct_r, ct_n, ct_h, opt_v, opt_s, ref_s, ref_n, eq_self_iff_true, true_or, or_true, zl0, zl1, zl2, zl3, zl4, zl5, zl6, zl7, zl8, zl9, zl10, zl16, zl32, zl40, zl100, zl160, zIc1, zI_lt, zI_le, nI_eq, nI_add, z_sub, nI_clamp, zI_of, uu_eq, uu_ne, Nat.reduceLT, Nat.reduceLeDiff, Nat.reduceEqDiff, Nat.reduceAdd, Nat.reduceSub, Nat.reduceMul, Nat.not_lt_zero, Nat.lt_irrefl, Nat.le_refl, Bool.false_eq_true, false_and, and_false, true_and, and_true, if_pos, if_neg, if_true, if_false, not_true_eq_false, not_false_eq_true, m0, x1, y1, r4, x5, y5, r8, gn, hu2]
        exact q
      · rw [if_neg hu] at q
        have hu2 : ¬ ovF (D i 4) a = a := fun h => hu (u1.mp h)
        simp (disch := first | assumption | exact ct_i | exact ct_r | exact ct_n | exact ct_h | omega | exact z_in (by omega) (by omega) | exact b01 | exact Or.inl rfl | exact Or.inr rfl) only [e192_0, e192_1, e192_2, e192_3, e192_6, e192_9, e192_12, e192_14, e192_15, e192_16, e192_17, e192_20, e192_23, e192_25, e192_26, e192_27, e192_30, e192_31, e192_32, e192_34, e192_35, e192_38, e192_39, e192_42, e192_43, e192_46, e192_47, e192_50, e192_51, e192_52, e192_55, e192_56, e192_59, e192_60, e192_61, e192_64, e192_66, ct_i, ct_r, ct_n, ct_h, opt_v, opt_s, ref_s, ref_n, eq_self_iff_true, true_or, or_true, zl0, zl1, zl2, zl3, zl4, zl5, zl6, zl7, zl8, zl9, zl10, zl16, zl32, zl40, zl100, zl160, zIc1, zI_lt, zI_le, nI_eq, nI_add, z_sub, nI_clamp, zI_of, uu_eq, uu_ne, Nat.reduceLT, Nat.reduceLeDiff, Nat.reduceEqDiff, Nat.reduceAdd, Nat.reduceSub, Nat.reduceMul, Nat.not_lt_zero, Nat.lt_irrefl, Nat.le_refl, Bool.false_eq_true, false_and, and_false, true_and, and_true, if_pos, if_neg, if_true, if_false, not_true_eq_false, not_false_eq_true, m0, x1, y1, r4, x5, y5, r8, gn, hu2]
        exact q
end
