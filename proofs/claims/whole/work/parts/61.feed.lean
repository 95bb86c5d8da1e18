/-! the class's call: bytes onto the tape -/
def byN (b : Int64) (i : Nat) : Nat := (b >>> ((nI (8 * i)).toInt64 &&& 63)).toBitVec.toNat % 256
theorem byN_lt {b : Int64} {i : Nat} : byN b i < 256 := Nat.mod_lt _ (by decide)
theorem byN_c {b : Int64} {i : Nat} : (b >>> ((nI (8 * i)).toInt64 &&& 63)).toInt32 &&& 255 = nI (byN b i) := by
  rw [pk_and _ 8 (by decide)]
  congr 1
  have : (b >>> ((nI (8 * i)).toInt64 &&& 63)).toInt32.toBitVec = (b >>> ((nI (8 * i)).toInt64 &&& 63)).toBitVec.setWidth 32 := by
    rw [Int64.toBitVec_toInt32, BitVec.signExtend_eq_setWidth_of_le _ (by decide)]
  rw [this, BitVec.toNat_setWidth]
  unfold byN
  omega
def feF (b : Int64) : Nat → Nat → (Nat → Nat) → (Nat → Nat) → (Nat → Nat) × (Nat → Nat)
  | 0, _, Z, tp => (Z, tp)
  | m + 1, i, Z, tp => feF b m (i + 1) (u1 Z 5 (Z 5 + 1)) (u1 tp (Z 5) (byN b i))
theorem feF_5 {b : Int64} : ∀ m i Z tp, (feF b m i Z tp).1 5 = Z 5 + m
  | 0, _, _, _ => rfl
  | m + 1, i, Z, tp => by
    simp only [feF]
    rw [feF_5 m, u1_eq]; omega
def feeS (Z tp : Nat → Nat) (x : Int32) (b : Int64) : Int32 × (Nat → Nat) × (Nat → Nat) := match dec x 9 with
  | some m => if m = 0 then (-nI 2, Z, tp) else if 160 < Z 5 + m then (-nI 4, Z, tp) else (nI (Z 5 + m), feF b m 0 Z tp)
  | none => (-nI 2, Z, tp)
section
variable {nd : Nat} {sh : Nat → Nat × Nat} {R : Nat → Nat → Option Nat}
theorem cPq (h : cK nd sh R) : (sh 11).1 = 2 ∧ (sh 12).1 = 100 ∧ (sh 12).2 = 160 ∧ R 11 1 = some 12 := by
  rw [c_s11 h, c_s12 h]
  exact ⟨rfl, rfl, rfl, c_r11_1 h⟩
end
section
variable {T0 : Nat} {Z : Nat → Nat} {D : Nat → Nat → Nat} {tx : Nat → Nat → List Nat} {tp so sz : Nat → Nat} {it : Nat → Nat → Int32} {d : Nat} {n t : Nat} {sh : Nat → Nat × Nat} {I : Nat → Nat → Int32} {L : Nat → Nat → Int64} {R : Nat → Nat → Option Nat} {I' : Nat → Nat → Int32} {Q : Option Value → aH → Prop}
theorem k25 (hd : 1 ≤ d) {nd : Nat} (hK : cK nd sh R) {z : Nat} (hz : I 11 0 = nI z) (h160 : z < 160) {v : Int32} : aC d 25 [.ref 11, .int v] (n, t, sh, I, L, R) Q ↔ Q none (n, t, sh, u2 (u2 I 12 z v) 11 0 (nI (z + 1)), L, R) := by
  obtain ⟨d, rfl⟩ : ∃ e, d = e + 1 := ⟨d - 1, by omega⟩
  obtain ⟨h1, h2, h3, h4⟩ := cPq hK
  have hl : z < 160 := h160
  have e160 : (160 : Int32) = nI 160 := rfl
  simp (disch := first | assumption | exact ct_i | exact ct_r | exact ct_n | exact ct_h | omega | exact z_in (by omega) (by omega) | exact b01 | exact Or.inl rfl | exact Or.inr rfl) only [b25, e25_0, e25_1, e25_4, e25_7, e25_10, e25_11, e25_12, e25_15, e25_16, e25_19, e25_20, e25_21, e25_22, e25_23, e25_26, e25_27, e25_28, e25_31, ct_i, ct_r, ct_n, ct_h, opt_v, opt_s, ref_s, ref_n, eq_self_iff_true, true_or, or_true, zl0, zl1, zl2, zl3, zl4, zl5, zl6, zl7, zl8, zl9, zl10, zl16, zl32, zl40, zl100, zl160, zIc1, zI_lt, zI_le, nI_eq, nI_add, z_sub, nI_clamp, zI_of, uu_eq, uu_ne, Nat.reduceLT, Nat.reduceLeDiff, Nat.reduceEqDiff, Nat.reduceAdd, Nat.reduceSub, Nat.reduceMul, Nat.not_lt_zero, Nat.lt_irrefl, Nat.le_refl, Bool.false_eq_true, false_and, and_false, true_and, and_true, if_pos, if_neg, if_true, if_false, not_true_eq_false, not_false_eq_true, h1, h2, h3, h4, hz]
theorem RK_tape (hk : RK T0 Z D tx tp so sz it (n, t, sh, I, L, R)) (h160 : Z 5 < 160) {c : Nat} (hc : c < 256) : RK T0 (u1 Z 5 (Z 5 + 1)) D tx (u1 tp (Z 5) c) so sz it (n, t, sh, u2 (u2 I 12 (Z 5) (nI c)) 11 0 (nI (Z 5 + 1)), L, R) := by
  obtain ⟨⟨o1, ⟨o2, hB⟩, o3, o4, o5, o6, o7⟩, hn, hK, hcl, hD', hM, h4, h5, h6, h7, h8, h9⟩ := hk
  simp only [] at hn hK hcl hD' hM h4 h5 h6 h7 h8 h9
  have e : ∀ x k, ¬ x = 11 → ¬ x = 12 → u2 (u2 I 12 (Z 5) (nI c)) 11 0 (nI (Z 5 + 1)) x k = I x k := fun x k h1 h2 => by simp (disch := omega) only [uu_ne]
  constructor
  · simp (disch := omega) only [okS, u1_ne, u1_eq]
    refine ⟨o1, ⟨o2, hB⟩, o3, o4, ⟨by omega, fun k hk => ?_⟩, o6, o7⟩
    by_cases h : k = Z 5
    · subst h; rw [u1_eq]; exact hc
    · rw [u1_ne _ _ _ h]; exact o5.2 k (by omega)
  · simp (disch := omega) only [RC, u1_ne, u1_eq]
    refine ⟨hn, hK, hcl, ⟨?_, fun i hi k hk => ?_⟩, hM, h4, ?_, ?_, fun i hi => ?_, ⟨uu_eq _ _ _ _, fun k hk => ?_⟩, fun j hj => ⟨?_, ?_, fun k hk => ?_⟩⟩
    · rw [e _ _ (by omega) (by omega)]; exact hD'.1
    · rw [e _ _ (by omega) (by omega)]; exact hD'.2 i hi k hk
    · rw [e _ _ (by omega) (by omega)]; exact h5
    · rw [e 0 5 (by omega) (by omega), e 0 6 (by omega) (by omega), e 0 7 (by omega) (by omega), e 0 8 (by omega) (by omega), e 0 9 (by omega) (by omega), e 0 10 (by omega) (by omega), e 0 11 (by omega) (by omega)]
      exact h6
    · exact txC_fr (by omega) (fun x k hx => e x k (by omega) (by omega)) (h7 i hi)
    · rw [uu_ne _ _ _ _ (by omega)]
      by_cases h : k = Z 5
      · subst h; rw [uu_eq, u1_eq]
      · rw [uu_ne _ _ _ _ (by omega), u1_ne _ _ _ h]; exact h8.2 k (by omega)
    · rw [e _ _ (by omega) (by omega)]; exact (h9 j hj).1
    · rw [e _ _ (by omega) (by omega)]; exact (h9 j hj).2.1
    · rw [e _ _ (by omega) (by omega)]; exact (h9 j hj).2.2 k hk
theorem k87l (hd : 2 ≤ d) {m0 : Nat} (hm0 : m0 ≤ 8) {b : Int64} {v : (Nat → Nat) × (Nat → Nat)} (H : ∀ h', RK T0 v.1 D tx v.2 so sz it h' → Q (some (.int (nI (v.1 5)))) h') : ∀ m i Z tp h, i + m = m0 → Z 5 + m ≤ 160 → RK T0 Z D tx tp so sz it h → feF b m i Z tp = v →
    aE (a_cl_ d) 87 (35, [.ref 0, .int (nI m0), .long b, a_hole, .int (nI i)], [], h) Q := by
  intro m
  induction m with
  | zero =>
    rintro i Z tp ⟨n, t, sh, I, L, R⟩ hi h160 hk hv
    obtain rfl : i = m0 := by omega
    simp only [feF] at hv
    subst hv
    have hK := hk.2.2.1
    have h8 := hk.2.2.2.2.2.2.2.2.2.2.1
    simp only [] at hK h8
    obtain ⟨c1, c2, c3, c4, c5, c6, c7, c8, c9, c10⟩ := cP0 hK
    have s1 := (cPq hK).1
    have := H _ hk
    rw [e87_35]
    simp (disch := first | assumption | exact ct_i | exact ct_r | exact ct_n | exact ct_h | omega | exact z_in (by omega) (by omega) | exact b01 | exact Or.inl rfl | exact Or.inr rfl) only [e87_0, e87_1, e87_2, e87_5, e87_6, e87_8, e87_11, e87_13, e87_14, e87_15, e87_18, e87_19, e87_22, e87_25, e87_26, e87_29, e87_31, e87_32, e87_33, e87_37, e87_38, e87_41, e87_42, e87_45, e87_46, e87_48, e87_50, e87_51, e87_52, e87_53, e87_56, e87_57, e87_60, e87_63, e87_66, e87_67, e87_70, e87_73, ct_i, ct_r, ct_n, ct_h, opt_v, opt_s, ref_s, ref_n, eq_self_iff_true, true_or, or_true, zl0, zl1, zl2, zl3, zl4, zl5, zl6, zl7, zl8, zl9, zl10, zl16, zl32, zl40, zl100, zl160, zIc1, zI_lt, zI_le, nI_eq, nI_add, z_sub, nI_clamp, zI_of, uu_eq, uu_ne, Nat.reduceLT, Nat.reduceLeDiff, Nat.reduceEqDiff, Nat.reduceAdd, Nat.reduceSub, Nat.reduceMul, Nat.not_lt_zero, Nat.lt_irrefl, Nat.le_refl, Bool.false_eq_true, false_and, and_false, true_and, and_true, if_pos, if_neg, if_true, if_false, not_true_eq_false, not_false_eq_true, c1, c8, s1, h8.1]
    exact this
  | succ m ih =>
    rintro i Z tp ⟨n, t, sh, I, L, R⟩ hi h160 hk hv
    simp only [feF] at hv
    have hK := hk.2.2.1
    have h8 := hk.2.2.2.2.2.2.2.2.2.2.1
    simp only [] at hK h8
    obtain ⟨c1, c2, c3, c4, c5, c6, c7, c8, c9, c10⟩ := cP0 hK
    have s1 := (cPq hK).1
    rw [e87_35]
    have hz : Z 5 < 160 := by omega
    simp (disch := first | assumption | exact ct_i | exact ct_r | exact ct_n | exact ct_h | omega | exact z_in (by omega) (by omega) | exact b01 | exact Or.inl rfl | exact Or.inr rfl) only [e87_0, e87_1, e87_2, e87_5, e87_6, e87_8, e87_11, e87_13, e87_14, e87_15, e87_18, e87_19, e87_22, e87_25, e87_26, e87_29, e87_31, e87_32, e87_33, e87_37, e87_38, e87_41, e87_42, e87_45, e87_46, e87_48, e87_50, e87_51, e87_52, e87_53, e87_56, e87_57, e87_60, e87_63, e87_66, e87_67, e87_70, e87_73, ct_i, ct_r, ct_n, ct_h, opt_v, opt_s, ref_s, ref_n, eq_self_iff_true, true_or, or_true, zl0, zl1, zl2, zl3, zl4, zl5, zl6, zl7, zl8, zl9, zl10, zl16, zl32, zl40, zl100, zl160, zIc1, zI_lt, zI_le, nI_eq, nI_add, z_sub, nI_clamp, zI_of, uu_eq, uu_ne, Nat.reduceLT, Nat.reduceLeDiff, Nat.reduceEqDiff, Nat.reduceAdd, Nat.reduceSub, Nat.reduceMul, Nat.not_lt_zero, Nat.lt_irrefl, Nat.le_refl, Bool.false_eq_true, false_and, and_false, true_and, and_true, if_pos, if_neg, if_true, if_false, not_true_eq_false, not_false_eq_true, zI_mul, c1, c8, s1, byN_c, k25 (show 1 ≤ d by omega) hK h8.1 hz]
    exact ih (i + 1) _ _ _ (by omega) (by rw [u1_eq]; omega) (RK_tape hk hz byN_lt) hv
theorem k87 (hd : 12 ≤ d) (hk : RK T0 Z D tx tp so sz it (n, t, sh, I, L, R)) {x : Int32} {b : Int64} (H : ∀ h', RK T0 (feeS Z tp x b).2.1 D tx (feeS Z tp x b).2.2 so sz it h' → Q (some (.int (feeS Z tp x b).1)) h') : aC d 87 [.ref 0, .int x, .long b] (n, t, sh, I, L, R) Q := by
  obtain ⟨d, rfl⟩ : ∃ e, d = e + 1 := ⟨d - 1, by omega⟩
  have o5 := hk.1.2.2.2.2.1
  have hK := hk.2.2.1
  have h8 := hk.2.2.2.2.2.2.2.2.2.2.1
  simp only [] at hK h8
  obtain ⟨c1, c2, c3, c4, c5, c6, c7, c8, c9, c10⟩ := cP0 hK
  have s1 := (cPq hK).1
  have e160 : (160 : Int32) = nI 160 := rfl
  unfold feeS at H
  cases hx : dec x 9 with
  | none =>
    rw [hx] at H
    have := H _ hk
    have hv : x < nI 1 ∨ ¬ x ≤ nI 8 := by
      have e1 : (nI 9).toInt = 9 := by decide
      have e2 : (nI 8).toInt = 8 := by decide
      have e3 : (nI 1).toInt = 1 := by decide
      have e4 : (nI 0).toInt = 0 := by decide
      rcases dec_none hx with h | h
      · left; rw [Int32.lt_iff_toInt_lt] at h ⊢; omega
      · right; rw [Int32.le_iff_toInt_le] at h ⊢; omega
    rcases hv with hv | hv
    · simp (disch := first | assumption | exact ct_i | exact ct_r | exact ct_n | exact ct_h | omega | exact z_in (by omega) (by omega) | exact b01 | exact Or.inl rfl | exact Or.inr rfl) only [b87, e87_0, e87_1, e87_2, e87_5, e87_6, e87_8, e87_11, e87_13, e87_14, e87_15, e87_18, e87_19, e87_22, e87_25, e87_26, e87_29, e87_31, e87_32, e87_33, e87_37, e87_38, e87_41, e87_42, e87_45, e87_46, e87_48, e87_50, e87_51, e87_52, e87_53, e87_56, e87_57, e87_60, e87_63, e87_66, e87_67, e87_70, e87_73, ct_i, ct_r, ct_n, ct_h, opt_v, opt_s, ref_s, ref_n, eq_self_iff_true, true_or, or_true, zl0, zl1, zl2, zl3, zl4, zl5, zl6, zl7, zl8, zl9, zl10, zl16, zl32, zl40, zl100, zl160, zIc1, zI_lt, zI_le, nI_eq, nI_add, z_sub, nI_clamp, zI_of, uu_eq, uu_ne, Nat.reduceLT, Nat.reduceLeDiff, Nat.reduceEqDiff, Nat.reduceAdd, Nat.reduceSub, Nat.reduceMul, Nat.not_lt_zero, Nat.lt_irrefl, Nat.le_refl, Bool.false_eq_true, false_and, and_false, true_and, and_true, if_pos, if_neg, if_true, if_false, not_true_eq_false, not_false_eq_true, hv]
      exact this
    · simp (disch := first | assumption | exact ct_i | exact ct_r | exact ct_n | exact ct_h | omega | exact z_in (by omega) (by omega) | exact b01 | exact Or.inl rfl | exact Or.inr rfl) only [b87, e87_0, e87_1, e87_2, e87_5, e87_6, e87_8, e87_11, e87_13, e87_14, e87_15, e87_18, e87_19, e87_22, e87_25, e87_26, e87_29, e87_31, e87_32, e87_33, e87_37, e87_38, e87_41, e87_42, e87_45, e87_46, e87_48, e87_50, e87_51, e87_52, e87_53, e87_56, e87_57, e87_60, e87_63, e87_66, e87_67, e87_70, e87_73, ct_i, ct_r, ct_n, ct_h, opt_v, opt_s, ref_s, ref_n, eq_self_iff_true, true_or, or_true, zl0, zl1, zl2, zl3, zl4, zl5, zl6, zl7, zl8, zl9, zl10, zl16, zl32, zl40, zl100, zl160, zIc1, zI_lt, zI_le, nI_eq, nI_add, z_sub, nI_clamp, zI_of, uu_eq, uu_ne, Nat.reduceLT, Nat.reduceLeDiff, Nat.reduceEqDiff, Nat.reduceAdd, Nat.reduceSub, Nat.reduceMul, Nat.not_lt_zero, Nat.lt_irrefl, Nat.le_refl, Bool.false_eq_true, false_and, and_false, true_and, and_true, if_true, if_false, not_true_eq_false, not_false_eq_true, hv, ite_self]
      exact this
  | some m =>
    obtain ⟨rfl, hm⟩ := dec_some (by decide) hx
    simp only [hx] at H
    by_cases h0 : m = 0
    · rw [if_pos h0] at H
      have := H _ hk
      subst h0
      simp (disch := first | assumption | exact ct_i | exact ct_r | exact ct_n | exact ct_h | omega | exact z_in (by omega) (by omega) | exact b01 | exact Or.inl rfl | exact Or.inr rfl) only [b87, e87_0, e87_1, e87_2, e87_5, e87_6, e87_8, e87_11, e87_13, e87_14, e87_15, e87_18, e87_19, e87_22, e87_25, e87_26, e87_29, e87_31, e87_32, e87_33, e87_37, e87_38, e87_41, e87_42, e87_45, e87_46, e87_48, e87_50, e87_51, e87_52, e87_53, e87_56, e87_57, e87_60, e87_63, e87_66, e87_67, e87_70, e87_73, ct_i, ct_r, ct_n, ct_h, opt_v, opt_s, ref_s, ref_n, eq_self_iff_true, true_or, or_true, zl0, zl1, zl2, zl3, zl4, zl5, zl6, zl7, zl8, zl9, zl10, zl16, zl32, zl40, zl100, zl160, zIc1, zI_lt, zI_le, nI_eq, nI_add, z_sub, nI_clamp, zI_of, uu_eq, uu_ne, Nat.reduceLT, Nat.reduceLeDiff, Nat.reduceEqDiff, Nat.reduceAdd, Nat.reduceSub, Nat.reduceMul, Nat.not_lt_zero, Nat.lt_irrefl, Nat.le_refl, Bool.false_eq_true, false_and, and_false, true_and, and_true, if_pos, if_neg, if_true, if_false, not_true_eq_false, not_false_eq_true]
      exact this
    · rw [if_neg h0] at H
      by_cases hf : 160 < Z 5 + m
      · rw [if_pos hf] at H
        have := H _ hk
        simp (disch := first | assumption | exact ct_i | exact ct_r | exact ct_n | exact ct_h | omega | exact z_in (by omega) (by omega) | exact b01 | exact Or.inl rfl | exact Or.inr rfl) only [b87, e87_0, e87_1, e87_2, e87_5, e87_6, e87_8, e87_11, e87_13, e87_14, e87_15, e87_18, e87_19, e87_22, e87_25, e87_26, e87_29, e87_31, e87_32, e87_33, e87_37, e87_38, e87_41, e87_42, e87_45, e87_46, e87_48, e87_50, e87_51, e87_52, e87_53, e87_56, e87_57, e87_60, e87_63, e87_66, e87_67, e87_70, e87_73, ct_i, ct_r, ct_n, ct_h, opt_v, opt_s, ref_s, ref_n, eq_self_iff_true, true_or, or_true, zl0, zl1, zl2, zl3, zl4, zl5, zl6, zl7, zl8, zl9, zl10, zl16, zl32, zl40, zl100, zl160, zIc1, zI_lt, zI_le, nI_eq, nI_add, z_sub, nI_clamp, zI_of, uu_eq, uu_ne, Nat.reduceLT, Nat.reduceLeDiff, Nat.reduceEqDiff, Nat.reduceAdd, Nat.reduceSub, Nat.reduceMul, Nat.not_lt_zero, Nat.lt_irrefl, Nat.le_refl, Bool.false_eq_true, false_and, and_false, true_and, and_true, if_pos, if_neg, if_true, if_false, not_true_eq_false, not_false_eq_true, c1, c8, s1, h8.1]
        exact this
      · rw [if_neg hf] at H
        simp (disch := first | assumption | exact ct_i | exact ct_r | exact ct_n | exact ct_h | omega | exact z_in (by omega) (by omega) | exact b01 | exact Or.inl rfl | exact Or.inr rfl) only [b87, e87_0, e87_1, e87_2, e87_5, e87_6, e87_8, e87_11, e87_13, e87_14, e87_15, e87_18, e87_19, e87_22, e87_25, e87_26, e87_29, e87_31, e87_32, e87_33, e87_37, e87_38, e87_41, e87_42, e87_45, e87_46, e87_48, e87_50, e87_51, e87_52, e87_53, e87_56, e87_57, e87_60, e87_63, e87_66, e87_67, e87_70, e87_73, ct_i, ct_r, ct_n, ct_h, opt_v, opt_s, ref_s, ref_n, eq_self_iff_true, true_or, or_true, zl0, zl1, zl2, zl3, zl4, zl5, zl6, zl7, zl8, zl9, zl10, zl16, zl32, zl40, zl100, zl160, zIc1, zI_lt, zI_le, nI_eq, nI_add, z_sub, nI_clamp, zI_of, uu_eq, uu_ne, Nat.reduceLT, Nat.reduceLeDiff, Nat.reduceEqDiff, Nat.reduceAdd, Nat.reduceSub, Nat.reduceMul, Nat.not_lt_zero, Nat.lt_irrefl, Nat.le_refl, Bool.false_eq_true, false_and, and_false, true_and, and_true, if_pos, if_neg, if_true, if_false, not_true_eq_false, not_false_eq_true, c1, c8, s1, h8.1]
        refine k87l (by omega) (show m ≤ 8 by omega) (v := feF b m 0 Z tp) (fun h' hR => ?_) m 0 Z tp _ (by omega) (by omega) hk rfl
        rw [feF_5]
        exact H h' hR
end
