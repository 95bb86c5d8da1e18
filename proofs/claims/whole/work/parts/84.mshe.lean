/-! the model's calls: sheets -/
section
variable {T0 : Nat} {Z : Nat → Nat} {D : Nat → Nat → Nat} {tx : Nat → Nat → List Nat} {tp so sz : Nat → Nat} {it : Nat → Nat → Int32} {d : Nat} {n t : Nat} {sh : Nat → Nat × Nat} {I : Nat → Nat → Int32} {L : Nat → Nat → Int64} {R : Nat → Nat → Option Nat} {I' : Nat → Nat → Int32} {Q : Option Value → aH → Prop}
theorem MI_sh {so' sz' : Nat → Nat} {it' : Nat → Nat → Int32} (h : MI Z D tx tp so sz it I) (e : ∀ x k, ¬ (x = 21 ∨ x = 22 ∨ x = 23 ∨ x = 24) → I' x k = I x k)
    (hs : ∀ j, j < 4 → I' 21 j = dI (so' j) ∧ I' 22 j = nI (sz' j) ∧ ∀ k, k < 40 → I' 23 (40 * j + k) = it' j k) : MI Z D tx tp so' sz' it' I' := by
  obtain ⟨⟨a1, a2⟩, ⟨b1, b2, b3⟩, c1, ⟨d1, d2⟩, ⟨e1, e2⟩, f1, ⟨g1, g2⟩, i1, j1⟩ := h
  refine ⟨⟨?_, fun d hd => ⟨?_, ?_, ?_, ?_⟩⟩, ⟨?_, ?_, ?_⟩, fun d hd => ⟨?_, ?_⟩, ⟨?_, fun k hk => ?_⟩, ⟨?_, ?_⟩, fun i hi => ?_, ⟨?_, fun hq => ?_⟩, hs, fun j hj => ?_⟩
  · exact (e _ _ (by omega)).trans a1
  · exact (e _ _ (by omega)).trans (a2 d hd).1
  · exact (e _ _ (by omega)).trans (a2 d hd).2.1
  · exact (e _ _ (by omega)).trans (a2 d hd).2.2.1
  · exact (e _ _ (by omega)).trans (a2 d hd).2.2.2
  · exact (e _ _ (by omega)).trans b1
  · exact (e _ _ (by omega)).trans b2
  · exact (e _ _ (by omega)).trans b3
  · exact (e _ _ (by omega)).trans (c1 d hd).1
  · exact (e _ _ (by omega)).trans (c1 d hd).2
  · exact (e _ _ (by omega)).trans d1
  · exact (e _ _ (by omega)).trans (d2 k hk)
  · exact (e _ _ (by omega)).trans e1
  · exact (e _ _ (by omega)).trans e2
  · exact txM_fr (f1 i hi) (fun x k hx => e x k (by omega))
  · exact (e _ _ (by omega)).trans g1
  · obtain ⟨⟨q1, q2, q3, q4⟩, q5⟩ := g2 hq
    exact ⟨⟨(e _ _ (by omega)).trans q1, (e _ _ (by omega)).trans q2, (e _ _ (by omega)).trans q3, (e _ _ (by omega)).trans q4⟩, fun d hd => (e _ _ (by omega)).trans (q5 d hd)⟩
  · exact (e _ _ (by omega)).trans (j1 j hj)
theorem k188l (hM : mK sh R) {j : Nat} (hj : j < 4) {v2 v3 : Int32} {I0 : Nat → Nat → Int32} (H : ∀ I', (∀ x k, ¬ (x = 23 ∧ 40 * j ≤ k ∧ k < 40 * j + 40) → I' x k = I0 x k) → (∀ k, k < 40 → I' 23 (40 * j + k) = nI 0) → Q (some (.int (nI 1))) (n, t, sh, I', L, R)) :
    ∀ m i I, i + m = 40 → (∀ x k, ¬ (x = 23 ∧ 40 * j ≤ k ∧ k < 40 * j + 40) → I x k = I0 x k) → (∀ k, k < i → I 23 (40 * j + k) = nI 0) →
    aE (a_cl_ d) 188 (73, [.ref 0, .int (nI j), .int v2, .int v3, .int (nI (40 * j + i))], [], (n, t, sh, I, L, R)) Q := by
  have m0 := mm_0 hM; have x23 := mm_x23 hM; have y23 := mm_y23 hM; have r46 := mm_r46 hM
  intro m
  induction m with
  | zero =>
    intro i I hi hf hz
    obtain rfl : i = 40 := by omega
    have q := H I hf hz
    rw [e188_73]
    simp (disch := first | assumption | exact ct_i | exact ct_r | exact ct_n | exact ct_h | omega | exact z_in (by omega) (by omega) | exact b01 | exact Or.inl rfl | exact Or.inr rfl) only [e188_0, e188_1, e188_4, e188_7, e188_8, e188_9, e188_12, e188_15, e188_18, e188_21, e188_22, e188_25, e188_26, e188_28, e188_31, e188_33, e188_34, e188_35, e188_38, e188_39, e188_42, e188_44, e188_45, e188_46, e188_49, e188_50, e188_51, e188_52, e188_53, e188_56, e188_57, e188_58, e188_61, e188_62, e188_65, e188_66, e188_67, e188_69, e188_70, e188_71, e188_75, e188_77, e188_78, e188_79, e188_81, e188_82, e188_85, e188_86, e188_89, e188_91, e188_92, e188_93, e188_96, e188_99, e188_100, ct_i, ct_r, ct_n, ct_h, opt_v, opt_s, ref_s, ref_n, eq_self_iff_true, true_or, or_true, zl0, zl1, zl2, zl3, zl4, zl5, zl6, zl7, zl8, zl9, zl10, zl16, zl32, zl40, zl100, zl160, zIc1, zI_lt, zI_le, nI_eq, nI_add, z_sub, nI_clamp, zI_of, uu_eq, uu_ne, Nat.reduceLT, Nat.reduceLeDiff, Nat.reduceEqDiff, Nat.reduceAdd, Nat.reduceSub, Nat.reduceMul, Nat.not_lt_zero, Nat.lt_irrefl, Nat.le_refl, Bool.false_eq_true, false_and, and_false, true_and, and_true, if_pos, if_neg, if_true, if_false, not_true_eq_false, not_false_eq_true, zI_mul, m0]
    exact q
  | succ m ih =>
    intro i I hi hf hz
    have hlt : 40 * j + i < 40 * j + 40 := by omega
    have e40 : 40 * j = 40 * j := rfl
    rw [e188_73]
    simp (disch := first | assumption | exact ct_i | exact ct_r | exact ct_n | exact ct_h | omega | exact z_in (by omega) (by omega) | exact b01 | exact Or.inl rfl | exact Or.inr rfl) only [e188_0, e188_1, e188_4, e188_7, e188_8, e188_9, e188_12, e188_15, e188_18, e188_21, e188_22, e188_25, e188_26, e188_28, e188_31, e188_33, e188_34, e188_35, e188_38, e188_39, e188_42, e188_44, e188_45, e188_46, e188_49, e188_50, e188_51, e188_52, e188_53, e188_56, e188_57, e188_58, e188_61, e188_62, e188_65, e188_66, e188_67, e188_69, e188_70, e188_71, e188_75, e188_77, e188_78, e188_79, e188_81, e188_82, e188_85, e188_86, e188_89, e188_91, e188_92, e188_93, e188_96, e188_100, ct_i, ct_r, ct_n, ct_h, opt_v, opt_s, ref_s, ref_n, eq_self_iff_true, true_or, or_true, zl0, zl1, zl2, zl3, zl4, zl5, zl6, zl7, zl8, zl9, zl10, zl16, zl32, zl40, zl100, zl160, zIc1, zI_lt, zI_le, nI_eq, nI_add, z_sub, nI_clamp, zI_of, uu_eq, uu_ne, Nat.reduceLT, Nat.reduceLeDiff, Nat.reduceEqDiff, Nat.reduceAdd, Nat.reduceSub, Nat.reduceMul, Nat.not_lt_zero, Nat.lt_irrefl, Nat.le_refl, Bool.false_eq_true, false_and, and_false, true_and, and_true, if_pos, if_neg, if_true, if_false, not_true_eq_false, not_false_eq_true, zI_mul, m0, x23, y23, r46]
    refine ih (i + 1) _ (by omega) (fun x k hx => by rw [uu_ne _ _ _ _ (by omega)]; exact hf x k hx) (fun k hk => ?_)
    by_cases h : k = i
    · subst h; rw [uu_eq]
    · rw [uu_ne _ _ _ _ (by omega)]; exact hz k (by omega)
theorem k188w (hM : mK sh R) (hk : RMh T0 Z D tx tp so sz it (n, t, sh, I, L, R)) {j : Nat} (hj : j < 4) {a z : Nat} {v2 v3 : Int32} (H : ∀ h', RMh T0 Z D tx tp (u1 so j a) (u1 sz j z) (fun b k => if b = j then nI 0 else it b k) h' → Q (some (.int (nI 1))) h') :
    aE (a_cl_ d) 188 (73, [.ref 0, .int (nI j), .int v2, .int v3, .int (nI (40 * j))], [], (n, t, sh, u2 (u2 I 21 j (dI a)) 22 j (nI z), L, R)) Q := by
  refine k188l hM hj (I0 := u2 (u2 I 21 j (dI a)) 22 j (nI z)) (fun I' hf hz => H _ ⟨hk.1, hk.2.1, hk.2.2.1, MI_sh hk.2.2.2 (fun x k hx => ?_) (fun i hi => ⟨?_, ?_, fun k hk => ?_⟩)⟩) 40 0 _ (by omega) (fun _ _ _ => rfl) (fun k hk => by omega)
  · try dsimp only
    rw [hf _ _ (by omega)]; simp (disch := omega) only [uu_ne]
  · try dsimp only
    rw [hf _ _ (by omega), uu_ne _ _ _ _ (by omega)]
    by_cases h : i = j
    · subst h; rw [uu_eq, u1_eq]
    · rw [uu_ne _ _ _ _ (by omega), u1_ne _ _ _ h]; exact (hk.2.2.2.2.2.2.2.2.2.2.1 i hi).1
  · try dsimp only
    rw [hf _ _ (by omega)]
    by_cases h : i = j
    · subst h; rw [uu_eq, u1_eq]
    · rw [uu_ne _ _ _ _ (by omega), uu_ne _ _ _ _ (by omega), u1_ne _ _ _ h]; exact (hk.2.2.2.2.2.2.2.2.2.2.1 i hi).2.1
  · try dsimp only
    by_cases h : i = j
    · subst h; rw [if_pos rfl]; exact hz k (by omega)
    · rw [if_neg h, hf _ _ (by omega), uu_ne _ _ _ _ (by omega), uu_ne _ _ _ _ (by omega)]
      rename_i hk1
      exact (hk1.2.2.2.2.2.2.2.2.2.2.1 i hi).2.2 k (by omega)
theorem k188 (hd : 3 ≤ d) (hk : RM T0 Z D tx tp so sz it (n, t, sh, I, L, R)) {x y z : Int32} (H : ∀ h', RMh T0 Z D tx tp (sheS so sz it x y z).2.1 (sheS so sz it x y z).2.2.1 (sheS so sz it x y z).2.2.2 h' → Q (some (.int (sheS so sz it x y z).1)) h') : aC d 188 [.ref 0, .int x, .int y, .int z] (n, t, sh, I, L, R) Q := by
  obtain ⟨d, rfl⟩ : ∃ e, d = e + 1 := ⟨d - 1, by omega⟩
  have hM := hk.2.2.1
  simp only [] at hM
  have m0 := mm_0 hM; have x21 := mm_x21 hM; have y21 := mm_y21 hM; have r44 := mm_r44 hM; have x22 := mm_x22 hM; have y22 := mm_y22 hM; have r45 := mm_r45 hM; have x23 := mm_x23 hM; have y23 := mm_y23 hM; have r46 := mm_r46 hM
  have l2 : (2 : Int64) = (nI 2).toInt64 := rfl
  have e1 := fun Q => k175 (Q := Q) (n := n) (t := t) (sh := sh) (I := I) (L := L) (R := R) (show 2 ≤ d by omega) (x := x)
  have em1 : (-nI 1).toInt = -1 := by decide
  have e0 : (nI 0).toInt = 0 := by decide
  have e2 : (nI 2).toInt = 2 := by decide
  have e3 : (nI 3).toInt = 3 := by decide
  unfold sheS at H
  cases hx : dec x 4 with
  | none =>
    simp only [hx] at H
    have q := H _ hk.2
    simp only [hx, Option.isSome_none, Bool.false_eq_true, if_false] at e1
    simp (disch := first | assumption | exact ct_i | exact ct_r | exact ct_n | exact ct_h | omega | exact z_in (by omega) (by omega) | exact b01 | exact Or.inl rfl | exact Or.inr rfl) only [b188, e188_0, e188_1, e188_4, e188_7, e188_8, e188_9, e188_12, e188_15, e188_18, e188_21, e188_22, e188_25, e188_26, e188_28, e188_31, e188_33, e188_34, e188_35, e188_38, e188_39, e188_42, e188_44, e188_45, e188_46, e188_49, e188_50, e188_51, e188_52, e188_53, e188_56, e188_57, e188_58, e188_61, e188_62, e188_65, e188_66, e188_67, e188_69, e188_70, e188_71, e188_75, e188_77, e188_78, e188_79, e188_81, e188_82, e188_85, e188_86, e188_89, e188_91, e188_92, e188_93, e188_96, e188_99, e188_100, ct_i, ct_r, ct_n, ct_h, opt_v, opt_s, ref_s, ref_n, eq_self_iff_true, true_or, or_true, zl0, zl1, zl2, zl3, zl4, zl5, zl6, zl7, zl8, zl9, zl10, zl16, zl32, zl40, zl100, zl160, zIc1, zI_lt, zI_le, nI_eq, nI_add, z_sub, nI_clamp, zI_of, uu_eq, uu_ne, Nat.reduceLT, Nat.reduceLeDiff, Nat.reduceEqDiff, Nat.reduceAdd, Nat.reduceSub, Nat.reduceMul, Nat.not_lt_zero, Nat.lt_irrefl, Nat.le_refl, Bool.false_eq_true, false_and, and_false, true_and, and_true, if_pos, if_neg, if_true, if_false, not_true_eq_false, not_false_eq_true, m0, e1]
    exact q
  | some j =>
    obtain ⟨rfl, hj⟩ := dec_some (by omega) hx
    simp only [hx] at H
    simp only [hx, Option.isSome_some, if_true] at e1
    have h40 : 40 * j = 40 * j := rfl
    cases hy : dcs y with
    | none =>
      simp only [hy] at H
      have q := H _ hk.2
      have hin : ¬ (-nI 1 ≤ y ∧ y ≤ nI 2) := fun h => by
        unfold dcs at hy
        split at hy
        · cases hy
        · rename_i hy1
          split at hy
          · cases hy
          · rename_i h3
            rw [Int32.le_iff_toInt_le, Int32.le_iff_toInt_le, em1, e2] at h
            have : ¬ y.toInt = -1 := fun e => hy1 (Int32.toInt_inj.mp (by rw [e, em1]))
            rcases dec_none h3 with g | g
            · rw [Int32.lt_iff_toInt_lt, e0] at g; omega
            · rw [Int32.le_iff_toInt_le, e3] at g; omega
      simp (disch := first | assumption | exact ct_i | exact ct_r | exact ct_n | exact ct_h | omega | exact z_in (by omega) (by omega) | exact b01 | exact Or.inl rfl | exact Or.inr rfl) only [b188, e188_0, e188_1, e188_4, e188_7, e188_8, e188_9, e188_12, e188_15, e188_18, e188_21, e188_22, e188_25, e188_26, e188_28, e188_31, e188_33, e188_34, e188_35, e188_38, e188_39, e188_42, e188_44, e188_45, e188_46, e188_49, e188_50, e188_51, e188_52, e188_53, e188_56, e188_57, e188_58, e188_61, e188_62, e188_65, e188_66, e188_67, e188_69, e188_70, e188_71, e188_75, e188_77, e188_78, e188_79, e188_81, e188_82, e188_85, e188_86, e188_89, e188_91, e188_92, e188_93, e188_96, e188_99, e188_100, ct_i, ct_r, ct_n, ct_h, opt_v, opt_s, ref_s, ref_n, eq_self_iff_true, true_or, or_true, zl0, zl1, zl2, zl3, zl4, zl5, zl6, zl7, zl8, zl9, zl10, zl16, zl32, zl40, zl100, zl160, zIc1, zI_lt, zI_le, nI_eq, nI_add, z_sub, nI_clamp, zI_of, uu_eq, uu_ne, Nat.reduceLT, Nat.reduceLeDiff, Nat.reduceEqDiff, Nat.reduceAdd, Nat.reduceSub, Nat.reduceMul, Nat.not_lt_zero, Nat.lt_irrefl, Nat.le_refl, Bool.false_eq_true, false_and, and_false, true_and, and_true, if_pos, if_neg, if_true, if_false, not_true_eq_false, not_false_eq_true, m0, e1, llm, l2, k118 (show 1 ≤ d by omega), hin]
      exact q
    | some a =>
      cases a with
      | zero =>
        simp only [hy] at H
        have hy0 : y = -nI 1 := by
          unfold dcs at hy
          split at hy
          · assumption
          · split at hy
            · injection hy with hy; omega
            · cases hy
        subst hy0
        have hin : -nI 1 ≤ -nI 1 ∧ -nI 1 ≤ nI 2 := by decide
        have hneg : -nI 1 < nI 0 := by decide
        have hneg2 : ¬ nI 0 ≤ -nI 1 := by decide
        simp (disch := first | assumption | exact ct_i | exact ct_r | exact ct_n | exact ct_h | omega | exact z_in (by omega) (by omega) | exact b01 | exact Or.inl rfl | exact Or.inr rfl) only [b188, e188_0, e188_1, e188_4, e188_7, e188_8, e188_9, e188_12, e188_15, e188_18, e188_21, e188_22, e188_25, e188_26, e188_28, e188_31, e188_33, e188_34, e188_35, e188_38, e188_39, e188_42, e188_44, e188_45, e188_46, e188_49, e188_50, e188_51, e188_52, e188_53, e188_56, e188_57, e188_58, e188_61, e188_62, e188_65, e188_66, e188_67, e188_69, e188_70, e188_71, e188_75, e188_77, e188_78, e188_79, e188_81, e188_82, e188_85, e188_86, e188_89, e188_91, e188_92, e188_93, e188_96, e188_99, e188_100, ct_i, ct_r, ct_n, ct_h, opt_v, opt_s, ref_s, ref_n, eq_self_iff_true, true_or, or_true, zl0, zl1, zl2, zl3, zl4, zl5, zl6, zl7, zl8, zl9, zl10, zl16, zl32, zl40, zl100, zl160, zIc1, zI_lt, zI_le, nI_eq, nI_add, z_sub, nI_clamp, zI_of, uu_eq, uu_ne, Nat.reduceLT, Nat.reduceLeDiff, Nat.reduceEqDiff, Nat.reduceAdd, Nat.reduceSub, Nat.reduceMul, Nat.not_lt_zero, Nat.lt_irrefl, Nat.le_refl, Bool.false_eq_true, false_and, and_false, true_and, and_true, if_pos, if_neg, if_true, if_false, not_true_eq_false, not_false_eq_true, zI_mul, m0, x21, y21, r44, x22, y22, r45, e1, llm, l2, k118 (show 1 ≤ d by omega), hin, hneg, hneg2]
        exact k188w hM hk.2 hj (a := 0) (z := 0) H
      | succ a =>
        simp only [hy] at H
        have hya : ∃ a, y = nI a ∧ a < 3 ∧ dcs y = some (a + 1) := by
          unfold dcs at hy
          split at hy
          · cases hy
          · split at hy
            · rename_i k hk3
              obtain ⟨g1, g2⟩ := dec_some (by decide) hk3
              subst g1
              refine ⟨k, rfl, g2, ?_⟩
              unfold dcs
              rw [if_neg (fun h => by have := congrArg Int32.toInt h; rw [nI_toInt (by omega), em1] at this; omega), hk3]
            · cases hy
        obtain ⟨b, rfl, hb, hyb⟩ := hya
        rw [hy] at hyb
        have hab : a = b := by injection hyb with h; omega
        subst hab
        have hin : -nI 1 ≤ nI a ∧ nI a ≤ nI 2 := by
          rw [Int32.le_iff_toInt_le, Int32.le_iff_toInt_le, em1, e2, nI_toInt (by omega)]; omega
        by_cases hz : z ≤ nI 40
        · rw [if_neg (fun h => h hz)] at H
          by_cases hz0 : z < nI 0
          · rw [if_pos hz0] at H
            have q := H _ hk.2
            have hz1 : ¬ nI 0 ≤ z := fun h => by rw [Int32.le_iff_toInt_le] at h; rw [Int32.lt_iff_toInt_lt] at hz0; omega
            simp (disch := first | assumption | exact ct_i | exact ct_r | exact ct_n | exact ct_h | omega | exact z_in (by omega) (by omega) | exact b01 | exact Or.inl rfl | exact Or.inr rfl) only [b188, e188_0, e188_1, e188_4, e188_7, e188_8, e188_9, e188_12, e188_15, e188_18, e188_21, e188_22, e188_25, e188_26, e188_28, e188_31, e188_33, e188_34, e188_35, e188_38, e188_39, e188_42, e188_44, e188_45, e188_46, e188_49, e188_50, e188_51, e188_52, e188_53, e188_56, e188_57, e188_58, e188_61, e188_62, e188_65, e188_66, e188_67, e188_69, e188_70, e188_71, e188_75, e188_77, e188_78, e188_79, e188_81, e188_82, e188_85, e188_86, e188_89, e188_91, e188_92, e188_93, e188_96, e188_99, e188_100, ct_i, ct_r, ct_n, ct_h, opt_v, opt_s, ref_s, ref_n, eq_self_iff_true, true_or, or_true, zl0, zl1, zl2, zl3, zl4, zl5, zl6, zl7, zl8, zl9, zl10, zl16, zl32, zl40, zl100, zl160, zIc1, zI_lt, zI_le, nI_eq, nI_add, z_sub, nI_clamp, zI_of, uu_eq, uu_ne, Nat.reduceLT, Nat.reduceLeDiff, Nat.reduceEqDiff, Nat.reduceAdd, Nat.reduceSub, Nat.reduceMul, Nat.not_lt_zero, Nat.lt_irrefl, Nat.le_refl, Bool.false_eq_true, false_and, and_false, true_and, and_true, if_pos, if_neg, if_true, if_false, not_true_eq_false, not_false_eq_true, zI_mul, m0, e1, llm, l2, k118 (show 1 ≤ d by omega), hin, hz, hz0, hz1]
            exact q
          · rw [if_neg hz0] at H
            have hz1 : nI 0 ≤ z := by rw [Int32.le_iff_toInt_le]; rw [Int32.lt_iff_toInt_lt] at hz0; omega
            obtain ⟨zn, rfl, hzn⟩ : ∃ k, z = nI k ∧ k ≤ 40 := by
              have e40 : (nI 40).toInt = 40 := by decide
              rw [Int32.le_iff_toInt_le, e0] at hz1
              rw [Int32.le_iff_toInt_le, e40] at hz
              refine ⟨z.toInt.toNat, Int32.toInt_inj.mp ?_, by omega⟩
              rw [nI_toInt (by omega)]; omega
            rw [nI_clamp (by omega)] at H
            simp (disch := first | assumption | exact ct_i | exact ct_r | exact ct_n | exact ct_h | omega | exact z_in (by omega) (by omega) | exact b01 | exact Or.inl rfl | exact Or.inr rfl) only [b188, e188_0, e188_1, e188_4, e188_7, e188_8, e188_9, e188_12, e188_15, e188_18, e188_21, e188_22, e188_25, e188_26, e188_28, e188_31, e188_33, e188_34, e188_35, e188_38, e188_39, e188_42, e188_44, e188_45, e188_46, e188_49, e188_50, e188_51, e188_52, e188_53, e188_56, e188_57, e188_58, e188_61, e188_62, e188_65, e188_66, e188_67, e188_69, e188_70, e188_71, e188_75, e188_77, e188_78, e188_79, e188_81, e188_82, e188_85, e188_86, e188_89, e188_91, e188_92, e188_93, e188_96, e188_99, e188_100, ct_i, ct_r, ct_n, ct_h, opt_v, opt_s, ref_s, ref_n, eq_self_iff_true, true_or, or_true, zl0, zl1, zl2, zl3, zl4, zl5, zl6, zl7, zl8, zl9, zl10, zl16, zl32, zl40, zl100, zl160, zIc1, zI_lt, zI_le, nI_eq, nI_add, z_sub, nI_clamp, zI_of, uu_eq, uu_ne, Nat.reduceLT, Nat.reduceLeDiff, Nat.reduceEqDiff, Nat.reduceAdd, Nat.reduceSub, Nat.reduceMul, Nat.not_lt_zero, Nat.lt_irrefl, Nat.le_refl, Bool.false_eq_true, false_and, and_false, true_and, and_true, if_pos, if_neg, if_true, if_false, not_true_eq_false, not_false_eq_true, zI_mul, m0, x21, y21, r44, x22, y22, r45, e1, llm, l2, k118 (show 1 ≤ d by omega), hin, hzn]
            exact k188w hM hk.2 hj (a := a + 1) (z := zn) H
        · rw [if_pos hz] at H
          have q := H _ hk.2
          simp (disch := first | assumption | exact ct_i | exact ct_r | exact ct_n | exact ct_h | omega | exact z_in (by omega) (by omega) | exact b01 | exact Or.inl rfl | exact Or.inr rfl) only [b188, e188_0, e188_1, e188_4, e188_7, e188_8, e188_9, e188_12, e188_15, e188_18, e188_21, e188_22, e188_25, e188_26, e188_28, e188_31, e188_33, e188_34, e188_35, e188_38, e188_39, e188_42, e188_44, e188_45, e188_46, e188_49, e188_50, e188_51, e188_52, e188_53, e188_56, e188_57, e188_58, e188_61, e188_62, e188_65, e188_66, e188_67, e188_69, e188_70, e188_71, e188_75, e188_77, e188_78, e188_79, e188_81, e188_82, e188_85, e188_86, e188_89, e188_91, e188_92, e188_93, e188_96, e188_99, e188_100, ct_i, ct_r, ct_n, ct_h, opt_v, opt_s, ref_s, ref_n, eq_self_iff_true, true_or, or_true, zl0, zl1, zl2, zl3, zl4, zl5, zl6, zl7, zl8, zl9, zl10, zl16, zl32, zl40, zl100, zl160, zIc1, zI_lt, zI_le, nI_eq, nI_add, z_sub, nI_clamp, zI_of, uu_eq, uu_ne, Nat.reduceLT, Nat.reduceLeDiff, Nat.reduceEqDiff, Nat.reduceAdd, Nat.reduceSub, Nat.reduceMul, Nat.not_lt_zero, Nat.lt_irrefl, Nat.le_refl, Bool.false_eq_true, false_and, and_false, true_and, and_true, if_pos, if_neg, if_true, if_false, not_true_eq_false, not_false_eq_true, zI_mul, m0, e1, llm, l2, k118 (show 1 ≤ d by omega), hin, hz]
          exact q
theorem k189 (hd : 3 ≤ d) (hk : RM T0 Z D tx tp so sz it (n, t, sh, I, L, R)) {x y v : Int32} (H : ∀ h', RMh T0 Z D tx tp so sz (celS so sz it x y v).2 h' → Q (some (.int (celS so sz it x y v).1)) h') : aC d 189 [.ref 0, .int x, .int y, .int v] (n, t, sh, I, L, R) Q := by
  obtain ⟨d, rfl⟩ : ∃ e, d = e + 1 := ⟨d - 1, by omega⟩
  have hM := hk.2.2.1
  simp only [] at hM
  have m0 := mm_0 hM; have x21 := mm_x21 hM; have y21 := mm_y21 hM; have r44 := mm_r44 hM; have x22 := mm_x22 hM; have y22 := mm_y22 hM; have r45 := mm_r45 hM; have x23 := mm_x23 hM; have y23 := mm_y23 hM; have r46 := mm_r46 hM
  have o7 := hk.1.2.2.2.2.2.2
  have e1 := fun Q => k175 (Q := Q) (n := n) (t := t) (sh := sh) (I := I) (L := L) (R := R) (show 2 ≤ d by omega) (x := x)
  unfold celS at H
  cases hx : dec x 4 with
  | none =>
    simp only [hx] at H
    have q := H _ hk.2
    simp only [hx, Option.isSome_none, Bool.false_eq_true, if_false] at e1
    simp (disch := first | assumption | exact ct_i | exact ct_r | exact ct_n | exact ct_h | omega | exact z_in (by omega) (by omega) | exact b01 | exact Or.inl rfl | exact Or.inr rfl) only [b189, e189_0, e189_1, e189_4, e189_7, e189_9, e189_10, e189_11, e189_14, e189_15, e189_16, e189_19, e189_21, e189_22, e189_23, e189_24, e189_25, e189_26, e189_29, e189_30, e189_31, e189_32, e189_33, e189_34, e189_37, e189_40, e189_42, e189_43, e189_44, e189_47, e189_49, e189_50, e189_51, e189_52, e189_53, e189_54, e189_57, e189_58, e189_59, e189_62, e189_63, e189_64, e189_67, e189_68, e189_71, e189_72, e189_73, e189_74, e189_77, e189_78, e189_79, e189_82, e189_83, e189_84, e189_85, ct_i, ct_r, ct_n, ct_h, opt_v, opt_s, ref_s, ref_n, eq_self_iff_true, true_or, or_true, zl0, zl1, zl2, zl3, zl4, zl5, zl6, zl7, zl8, zl9, zl10, zl16, zl32, zl40, zl100, zl160, zIc1, zI_lt, zI_le, nI_eq, nI_add, z_sub, nI_clamp, zI_of, uu_eq, uu_ne, Nat.reduceLT, Nat.reduceLeDiff, Nat.reduceEqDiff, Nat.reduceAdd, Nat.reduceSub, Nat.reduceMul, Nat.not_lt_zero, Nat.lt_irrefl, Nat.le_refl, Bool.false_eq_true, false_and, and_false, true_and, and_true, if_pos, if_neg, if_true, if_false, not_true_eq_false, not_false_eq_true, m0, e1]
    exact q
  | some j =>
    obtain ⟨rfl, hj⟩ := dec_some (by omega) hx
    simp only [hx] at H
    simp only [hx, Option.isSome_some, if_true] at e1
    obtain ⟨s21, s22, s23⟩ := hk.2.2.2.2.2.2.2.2.2.2.2.1 j hj
    simp only [] at s21 s22 s23
    obtain ⟨p1, p2, p3⟩ := o7 j hj
    by_cases hs : so j = 0
    · rw [if_pos hs] at H
      have q := H _ hk.2
      have g : I 21 j = -nI 1 := by rw [s21, hs]; rfl
      have hneg2 : ¬ nI 0 ≤ -nI 1 := by decide
      simp (disch := first | assumption | exact ct_i | exact ct_r | exact ct_n | exact ct_h | omega | exact z_in (by omega) (by omega) | exact b01 | exact Or.inl rfl | exact Or.inr rfl) only [b189, e189_0, e189_1, e189_4, e189_7, e189_9, e189_10, e189_11, e189_14, e189_15, e189_16, e189_19, e189_21, e189_22, e189_23, e189_24, e189_25, e189_26, e189_29, e189_30, e189_31, e189_32, e189_33, e189_34, e189_37, e189_40, e189_42, e189_43, e189_44, e189_47, e189_49, e189_50, e189_51, e189_52, e189_53, e189_54, e189_57, e189_58, e189_59, e189_62, e189_63, e189_64, e189_67, e189_68, e189_71, e189_72, e189_73, e189_74, e189_77, e189_78, e189_79, e189_82, e189_83, e189_84, e189_85, ct_i, ct_r, ct_n, ct_h, opt_v, opt_s, ref_s, ref_n, eq_self_iff_true, true_or, or_true, zl0, zl1, zl2, zl3, zl4, zl5, zl6, zl7, zl8, zl9, zl10, zl16, zl32, zl40, zl100, zl160, zIc1, zI_lt, zI_le, nI_eq, nI_add, z_sub, nI_clamp, zI_of, uu_eq, uu_ne, Nat.reduceLT, Nat.reduceLeDiff, Nat.reduceEqDiff, Nat.reduceAdd, Nat.reduceSub, Nat.reduceMul, Nat.not_lt_zero, Nat.lt_irrefl, Nat.le_refl, Bool.false_eq_true, false_and, and_false, true_and, and_true, if_pos, if_neg, if_true, if_false, not_true_eq_false, not_false_eq_true, m0, x21, y21, r44, x22, y22, r45, e1, g, hneg2]
      exact q
    · rw [if_neg hs] at H
      obtain ⟨c, hc⟩ : ∃ c, so j = c + 1 := ⟨so j - 1, by omega⟩
      have g : I 21 j = nI c := by rw [s21, hc]; rfl
      have ed := in_dec (x := y) (show sz j < 2 ^ 30 by omega)
      cases hy : dec y (sz j) with
      | none =>
        simp only [hy] at H
        have q := H _ hk.2
        have hin : ¬ (nI 0 ≤ y ∧ y ≤ nI (sz j) - nI 1) := fun h => by have := ed.mp h; rw [hy] at this; cases this
        have hc4 : c < 4 := by omega
        simp (disch := first | assumption | exact ct_i | exact ct_r | exact ct_n | exact ct_h | omega | exact z_in (by omega) (by omega) | exact b01 | exact Or.inl rfl | exact Or.inr rfl) only [b189, e189_0, e189_1, e189_4, e189_7, e189_9, e189_10, e189_11, e189_14, e189_15, e189_16, e189_19, e189_21, e189_22, e189_23, e189_24, e189_25, e189_26, e189_29, e189_30, e189_31, e189_32, e189_33, e189_34, e189_37, e189_40, e189_42, e189_43, e189_44, e189_47, e189_49, e189_50, e189_51, e189_52, e189_53, e189_54, e189_57, e189_58, e189_59, e189_62, e189_63, e189_64, e189_67, e189_68, e189_71, e189_72, e189_73, e189_74, e189_77, e189_78, e189_79, e189_82, e189_83, e189_84, e189_85, ct_i, ct_r, ct_n, ct_h, opt_v, opt_s, ref_s, ref_n, eq_self_iff_true, true_or, or_true, zl0, zl1, zl2, zl3, zl4, zl5, zl6, zl7, zl8, zl9, zl10, zl16, zl32, zl40, zl100, zl160, zIc1, zI_lt, zI_le, nI_eq, nI_add, z_sub, nI_clamp, zI_of, uu_eq, uu_ne, Nat.reduceLT, Nat.reduceLeDiff, Nat.reduceEqDiff, Nat.reduceAdd, Nat.reduceSub, Nat.reduceMul, Nat.not_lt_zero, Nat.lt_irrefl, Nat.le_refl, Bool.false_eq_true, false_and, and_false, true_and, and_true, if_pos, if_neg, if_true, if_false, not_true_eq_false, not_false_eq_true, zI_mul, m0, x21, y21, r44, x22, y22, r45, e1, g, s22, ll0, k118 (show 1 ≤ d by omega), if_neg hin]
        exact q
      | some i =>
        obtain ⟨rfl, hi⟩ := dec_some (by omega) hy
        simp only [hy] at H
        have hin : nI 0 ≤ nI i ∧ nI i ≤ nI (sz j - 1) := by
          rw [zI_le (by decide) (by omega), zI_le (by omega) (by omega)]; omega
        have hc4 : c < 4 := by omega
        have fin : ∀ w, w = ctv (so j) v → Q (some (.int (nI 1))) (n, t, sh, u2 I 23 (40 * j + i) w, L, R) := fun w hw => by
          refine H _ ⟨hk.2.1, hk.2.2.1, hk.2.2.2.1, MI_sh hk.2.2.2.2 (fun x k hx => ?_) (fun b hb => ⟨?_, ?_, fun k hk' => ?_⟩)⟩
          · try dsimp only
            rw [uu_ne _ _ _ _ (by omega)]
          · try dsimp only
            rw [uu_ne _ _ _ _ (by omega)]; exact (hk.2.2.2.2.2.2.2.2.2.2.2.1 b hb).1
          · try dsimp only
            rw [uu_ne _ _ _ _ (by omega)]; exact (hk.2.2.2.2.2.2.2.2.2.2.2.1 b hb).2.1
          · try dsimp only
            by_cases h : b = j ∧ k = i
            · obtain ⟨rfl, rfl⟩ := h; rw [uu_eq, uu_eq, hw]
            · rw [uu_ne _ _ _ _ (by omega), uu_ne _ _ _ _ h]; exact (hk.2.2.2.2.2.2.2.2.2.2.2.1 b hb).2.2 k hk'
        have hji : 40 * j + i < 160 := by omega
        unfold ctv at fin
        by_cases c0 : c = 0
        · subst c0
          have q := fin v.toInt8.toInt32 (by rw [if_pos hc])
          simp (disch := first | assumption | exact ct_i | exact ct_r | exact ct_n | exact ct_h | omega | exact z_in (by omega) (by omega) | exact b01 | exact Or.inl rfl | exact Or.inr rfl) only [b189, e189_0, e189_1, e189_4, e189_7, e189_9, e189_10, e189_11, e189_14, e189_15, e189_16, e189_19, e189_21, e189_22, e189_23, e189_24, e189_25, e189_26, e189_29, e189_30, e189_31, e189_32, e189_33, e189_34, e189_37, e189_40, e189_42, e189_43, e189_44, e189_47, e189_49, e189_50, e189_51, e189_52, e189_53, e189_54, e189_57, e189_58, e189_59, e189_62, e189_63, e189_64, e189_67, e189_68, e189_71, e189_72, e189_73, e189_74, e189_77, e189_78, e189_79, e189_82, e189_83, e189_84, e189_85, ct_i, ct_r, ct_n, ct_h, opt_v, opt_s, ref_s, ref_n, eq_self_iff_true, true_or, or_true, zl0, zl1, zl2, zl3, zl4, zl5, zl6, zl7, zl8, zl9, zl10, zl16, zl32, zl40, zl100, zl160, zIc1, zI_lt, zI_le, nI_eq, nI_add, z_sub, nI_clamp, zI_of, uu_eq, uu_ne, Nat.reduceLT, Nat.reduceLeDiff, Nat.reduceEqDiff, Nat.reduceAdd, Nat.reduceSub, Nat.reduceMul, Nat.not_lt_zero, Nat.lt_irrefl, Nat.le_refl, Bool.false_eq_true, false_and, and_false, true_and, and_true, if_pos, if_neg, if_true, if_false, not_true_eq_false, not_false_eq_true, zI_mul, m0, x21, y21, r44, x22, y22, r45, x23, y23, r46, e1, g, s22, ll0, k118 (show 1 ≤ d by omega), hin]
          exact q
        · by_cases c1 : c = 1
          · subst c1
            have q := fin v.toInt16.toInt32 (by rw [if_neg (by omega), if_pos hc])
            simp (disch := first | assumption | exact ct_i | exact ct_r | exact ct_n | exact ct_h | omega | exact z_in (by omega) (by omega) | exact b01 | exact Or.inl rfl | exact Or.inr rfl) only [b189, e189_0, e189_1, e189_4, e189_7, e189_9, e189_10, e189_11, e189_14, e189_15, e189_16, e189_19, e189_21, e189_22, e189_23, e189_24, e189_25, e189_26, e189_29, e189_30, e189_31, e189_32, e189_33, e189_34, e189_37, e189_40, e189_42, e189_43, e189_44, e189_47, e189_49, e189_50, e189_51, e189_52, e189_53, e189_54, e189_57, e189_58, e189_59, e189_62, e189_63, e189_64, e189_67, e189_68, e189_71, e189_72, e189_73, e189_74, e189_77, e189_78, e189_79, e189_82, e189_83, e189_84, e189_85, ct_i, ct_r, ct_n, ct_h, opt_v, opt_s, ref_s, ref_n, eq_self_iff_true, true_or, or_true, zl0, zl1, zl2, zl3, zl4, zl5, zl6, zl7, zl8, zl9, zl10, zl16, zl32, zl40, zl100, zl160, zIc1, zI_lt, zI_le, nI_eq, nI_add, z_sub, nI_clamp, zI_of, uu_eq, uu_ne, Nat.reduceLT, Nat.reduceLeDiff, Nat.reduceEqDiff, Nat.reduceAdd, Nat.reduceSub, Nat.reduceMul, Nat.not_lt_zero, Nat.lt_irrefl, Nat.le_refl, Bool.false_eq_true, false_and, and_false, true_and, and_true, if_pos, if_neg, if_true, if_false, not_true_eq_false, not_false_eq_true, zI_mul, m0, x21, y21, r44, x22, y22, r45, x23, y23, r46, e1, g, s22, ll0, k118 (show 1 ≤ d by omega), hin]
            exact q
          · have q := fin v (by rw [if_neg (by omega), if_neg (by omega)])
            simp (disch := first | assumption | exact ct_i | exact ct_r | exact ct_n | exact ct_h | omega | exact z_in (by omega) (by omega) | exact b01 | exact Or.inl rfl | exact Or.inr rfl) only [b189, e189_0, e189_1, e189_4, e189_7, e189_9, e189_10, e189_11, e189_14, e189_15, e189_16, e189_19, e189_21, e189_22, e189_23, e189_24, e189_25, e189_26, e189_29, e189_30, e189_31, e189_32, e189_33, e189_34, e189_37, e189_40, e189_42, e189_43, e189_44, e189_47, e189_49, e189_50, e189_51, e189_52, e189_53, e189_54, e189_57, e189_58, e189_59, e189_62, e189_63, e189_64, e189_67, e189_68, e189_71, e189_72, e189_73, e189_74, e189_77, e189_78, e189_79, e189_82, e189_83, e189_84, e189_85, ct_i, ct_r, ct_n, ct_h, opt_v, opt_s, ref_s, ref_n, eq_self_iff_true, true_or, or_true, zl0, zl1, zl2, zl3, zl4, zl5, zl6, zl7, zl8, zl9, zl10, zl16, zl32, zl40, zl100, zl160, zIc1, zI_lt, zI_le, nI_eq, nI_add, z_sub, nI_clamp, zI_of, uu_eq, uu_ne, Nat.reduceLT, Nat.reduceLeDiff, Nat.reduceEqDiff, Nat.reduceAdd, Nat.reduceSub, Nat.reduceMul, Nat.not_lt_zero, Nat.lt_irrefl, Nat.le_refl, Bool.false_eq_true, false_and, and_false, true_and, and_true, if_pos, if_neg, if_true, if_false, not_true_eq_false, not_false_eq_true, zI_mul, m0, x21, y21, r44, x22, y22, r45, x23, y23, r46, e1, g, s22, ll0, k118 (show 1 ≤ d by omega), hin, c0, c1]
            exact q
end
