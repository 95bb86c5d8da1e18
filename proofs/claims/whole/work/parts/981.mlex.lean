/-! the model's tokens -/
def tpM (tp : Nat → Nat) (s : Nat) (I : Nat → Nat → Int32) : Prop := (s ≤ 160 ∧ ∀ k, k < s → tp k < 256) ∧ (I 0 15 = nI s ∧ ∀ k, k < s → I 9 k = nI (tp k)) ∧ ∀ j, j < 57 → I 13 j = nI (wb 0 j)
/-- what the next token changes -/
def frQ (I0 I : Nat → Nat → Int32) : Prop := ∀ x k, ¬ (x = 0 ∧ 22 ≤ k ∧ k ≤ 25) → I x k = I0 x k
theorem frQ_0 (I : Nat → Nat → Int32) : frQ I I := fun _ _ _ => rfl
theorem frQ_u {I0 I : Nat → Nat → Int32} (f : frQ I0 I) {k : Nat} {v : Int32} (hk : 22 ≤ k ∧ k ≤ 25) : frQ I0 (u2 I 0 k v) := fun x y h => by
  rw [uu_ne _ _ _ _ (by omega)]; exact f x y h
theorem tpM_Q {tp : Nat → Nat} {s : Nat} {I0 I : Nat → Nat → Int32} (h : tpM tp s I0) (f : frQ I0 I) : tpM tp s I :=
  ⟨h.1, ⟨(f _ _ (by omega)).trans h.2.1.1, fun k hk => (f _ _ (by omega)).trans (h.2.1.2 k hk)⟩, fun j hj => (f _ _ (by omega)).trans (h.2.2 j hj)⟩
theorem tpM_u {tp : Nat → Nat} {s : Nat} {I : Nat → Nat → Int32} (h : tpM tp s I) {k : Nat} {v : Int32} (hk : 22 ≤ k ∧ k ≤ 25) : tpM tp s (u2 I 0 k v) := tpM_Q h (frQ_u (frQ_0 I) hk)
/-- the model's sort and worth of a token -/
def tkM (t : Nat) : Nat := if t = 256 then 0 else if t = 257 then 5 else if t = 258 then 1 else if t < 256 then 4 else if t < 306 then 2 else 3
def woM (t v : Nat) : Nat := if t = 258 then v else if t < 256 then t else if t < 306 then t - 300 else t - 306
/-- the model's reader, a token ahead -/
def mS (tp : Nat → Nat) (s p : Nat) (I : Nat → Nat → Int32) : Prop := p ≤ s ∧ I 0 23 = nI (te tp s p) ∧ I 0 22 = nI p ∧ I 0 24 = nI (tkM (tk tp s p)) ∧ (¬ tk tp s p = 256 → ¬ tk tp s p = 257 → I 0 25 = nI (woM (tk tp s p) (nv tp s p)))
section
variable {tp : Nat → Nat} {s d : Nat} {n t : Nat} {sh : Nat → Nat × Nat} {I : Nat → Nat → Int32} {L : Nat → Nat → Int64} {R : Nat → Nat → Option Nat} {Q : Option Value → aH → Prop}
theorem k139 (hd : 1 ≤ d) (hM : mK sh R) (hT : tpM tp s I) {p : Nat} (hp : p < 2000) : aC d 139 [.ref 0, .int (nI p)] (n, t, sh, I, L, R) Q ↔ Q (some (.int (if p < s then nI (tp p) else -nI 1))) (n, t, sh, I, L, R) := by
  obtain ⟨d, rfl⟩ : ∃ e, d = e + 1 := ⟨d - 1, by omega⟩
  have m0 := mm_0 hM; have x9 := mm_x9 hM; have y9 := mm_y9 hM; have r14 := mm_r14 hM
  obtain ⟨⟨t1, t2⟩, ⟨t3, t4⟩, t5⟩ := hT
  by_cases h : p < s
  · have := t4 p h
    simp (disch := first | assumption | exact ct_i | exact ct_r | exact ct_n | exact ct_h | omega | exact z_in (by omega) (by omega) | exact b01 | exact Or.inl rfl | exact Or.inr rfl) only [b139, e139_0, e139_1, e139_2, e139_5, e139_8, e139_9, e139_12, e139_13, e139_14, e139_17, e139_18, ct_i, ct_r, ct_n, ct_h, opt_v, opt_s, ref_s, ref_n, eq_self_iff_true, true_or, or_true, zl0, zl1, zl2, zl3, zl4, zl5, zl6, zl7, zl8, zl9, zl10, zl16, zl32, zl40, zl100, zl160, zIc1, zI_lt, zI_le, nI_eq, nI_add, z_sub, nI_clamp, zI_of, uu_eq, uu_ne, Nat.reduceLT, Nat.reduceLeDiff, Nat.reduceEqDiff, Nat.reduceAdd, Nat.reduceSub, Nat.reduceMul, Nat.not_lt_zero, Nat.lt_irrefl, Nat.le_refl, Bool.false_eq_true, false_and, and_false, true_and, and_true, if_pos, if_neg, if_true, if_false, not_true_eq_false, not_false_eq_true, m0, x9, y9, r14, t3, this, h]
  · simp (disch := first | assumption | exact ct_i | exact ct_r | exact ct_n | exact ct_h | omega | exact z_in (by omega) (by omega) | exact b01 | exact Or.inl rfl | exact Or.inr rfl) only [b139, e139_0, e139_1, e139_2, e139_5, e139_8, e139_9, e139_12, e139_13, e139_14, e139_17, e139_18, ct_i, ct_r, ct_n, ct_h, opt_v, opt_s, ref_s, ref_n, eq_self_iff_true, true_or, or_true, zl0, zl1, zl2, zl3, zl4, zl5, zl6, zl7, zl8, zl9, zl10, zl16, zl32, zl40, zl100, zl160, zIc1, zI_lt, zI_le, nI_eq, nI_add, z_sub, nI_clamp, zI_of, uu_eq, uu_ne, Nat.reduceLT, Nat.reduceLeDiff, Nat.reduceEqDiff, Nat.reduceAdd, Nat.reduceSub, Nat.reduceMul, Nat.not_lt_zero, Nat.lt_irrefl, Nat.le_refl, Bool.false_eq_true, false_and, and_false, true_and, and_true, if_pos, if_neg, if_true, if_false, not_true_eq_false, not_false_eq_true, m0, x9, y9, r14, t3, h]
theorem k140 (hd : 2 ≤ d) {x : Nat} (hx : x < 2000) : aC d 140 [.int (nI x)] (n, t, sh, I, L, R) Q ↔ Q (some (.int (if isL x = true then nI 1 else nI 0))) (n, t, sh, I, L, R) := by
  obtain ⟨d, rfl⟩ : ∃ e, d = e + 1 := ⟨d - 1, by omega⟩
  have e1 : (97 : Int64) = (nI 97).toInt64 := rfl
  have e2 : (122 : Int64) = (nI 122).toInt64 := rfl
  have e3 : (nI 97 ≤ nI x ∧ nI x ≤ nI 122) ↔ isL x = true := by
    rw [zI_le (by decide) (by omega), zI_le (by omega) (by decide)]; simp [isL]
  have hb : (if isL x = true then nI 1 else nI 0) = 0 ∨ (if isL x = true then nI 1 else nI 0) = 1 := b01
  simp (disch := first | assumption | exact ct_i | exact ct_r | exact ct_n | exact ct_h | omega | exact z_in (by omega) (by omega) | exact b01 | exact Or.inl rfl | exact Or.inr rfl) only [b140, e140_0, e140_1, e140_2, e140_5, e140_8, e140_11, ct_i, ct_r, ct_n, ct_h, opt_v, opt_s, ref_s, ref_n, eq_self_iff_true, true_or, or_true, e1, e2, k118 (show 1 ≤ d by omega), e3]
theorem k140n (hd : 2 ≤ d) : aC d 140 [.int (-nI 1)] (n, t, sh, I, L, R) Q ↔ Q (some (.int (nI 0))) (n, t, sh, I, L, R) := by
  obtain ⟨d, rfl⟩ : ∃ e, d = e + 1 := ⟨d - 1, by omega⟩
  have e1 : (97 : Int64) = (nI 97).toInt64 := rfl
  have e2 : (122 : Int64) = (nI 122).toInt64 := rfl
  have e3 : ¬ (nI 97 ≤ -nI 1 ∧ -nI 1 ≤ nI 122) := by decide
  simp (disch := first | assumption | exact ct_i | exact ct_r | exact ct_n | exact ct_h | omega | exact z_in (by omega) (by omega) | exact b01 | exact Or.inl rfl | exact Or.inr rfl) only [b140, e140_0, e140_1, e140_2, e140_5, e140_8, e140_11, ct_i, ct_r, ct_n, ct_h, opt_v, opt_s, ref_s, ref_n, eq_self_iff_true, true_or, or_true, e1, e2, k118 (show 1 ≤ d by omega), if_neg e3]
theorem k142 (hd : 2 ≤ d) {x : Nat} (hx : x < 2000) : aC d 142 [.int (nI x)] (n, t, sh, I, L, R) Q ↔ Q (some (.int (if isD x = true then nI 1 else nI 0))) (n, t, sh, I, L, R) := by
  obtain ⟨d, rfl⟩ : ∃ e, d = e + 1 := ⟨d - 1, by omega⟩
  have e1 : (48 : Int64) = (nI 48).toInt64 := rfl
  have e2 : (57 : Int64) = (nI 57).toInt64 := rfl
  have e3 : (nI 48 ≤ nI x ∧ nI x ≤ nI 57) ↔ isD x = true := by
    rw [zI_le (by decide) (by omega), zI_le (by omega) (by decide)]; simp [isD]
  simp (disch := first | assumption | exact ct_i | exact ct_r | exact ct_n | exact ct_h | omega | exact z_in (by omega) (by omega) | exact b01 | exact Or.inl rfl | exact Or.inr rfl) only [b142, e142_0, e142_1, e142_2, e142_5, e142_8, e142_11, ct_i, ct_r, ct_n, ct_h, opt_v, opt_s, ref_s, ref_n, eq_self_iff_true, true_or, or_true, e1, e2, k118 (show 1 ≤ d by omega), e3]
theorem k142n (hd : 2 ≤ d) : aC d 142 [.int (-nI 1)] (n, t, sh, I, L, R) Q ↔ Q (some (.int (nI 0))) (n, t, sh, I, L, R) := by
  obtain ⟨d, rfl⟩ : ∃ e, d = e + 1 := ⟨d - 1, by omega⟩
  have e1 : (48 : Int64) = (nI 48).toInt64 := rfl
  have e2 : (57 : Int64) = (nI 57).toInt64 := rfl
  have e3 : ¬ (nI 48 ≤ -nI 1 ∧ -nI 1 ≤ nI 57) := by decide
  simp (disch := first | assumption | exact ct_i | exact ct_r | exact ct_n | exact ct_h | omega | exact z_in (by omega) (by omega) | exact b01 | exact Or.inl rfl | exact Or.inr rfl) only [b142, e142_0, e142_1, e142_2, e142_5, e142_8, e142_11, ct_i, ct_r, ct_n, ct_h, opt_v, opt_s, ref_s, ref_n, eq_self_iff_true, true_or, or_true, e1, e2, k118 (show 1 ≤ d by omega), if_neg e3]
theorem isS_e (x : Nat) : isS x = true ↔ x = 40 ∨ x = 41 ∨ x = 59 ∨ x = 43 ∨ x = 45 ∨ x = 42 ∨ x = 60 ∨ x = 61 := by simp [isS]
theorem k143 (hd : 1 ≤ d) {x : Nat} (hx : x < 2000) : aC d 143 [.int (nI x)] (n, t, sh, I, L, R) Q ↔ Q (some (.int (if isS x = true then nI 1 else nI 0))) (n, t, sh, I, L, R) := by
  obtain ⟨d, rfl⟩ : ∃ e, d = e + 1 := ⟨d - 1, by omega⟩
  have a1 : (41 : Int32) = nI 41 := rfl
  have a2 : (59 : Int32) = nI 59 := rfl
  have a3 : (43 : Int32) = nI 43 := rfl
  have a4 : (45 : Int32) = nI 45 := rfl
  have a5 : (42 : Int32) = nI 42 := rfl
  have a6 : (60 : Int32) = nI 60 := rfl
  have a7 : (61 : Int32) = nI 61 := rfl
  by_cases hS : isS x = true
  · have hc := (isS_e x).mp hS
    rw [if_pos hS]
    rcases hc with rfl | rfl | rfl | rfl | rfl | rfl | rfl | rfl <;> simp (disch := first | assumption | exact ct_i | exact ct_r | exact ct_n | exact ct_h | omega | exact z_in (by omega) (by omega) | exact b01 | exact Or.inl rfl | exact Or.inr rfl) only [b143, e143_0, e143_1, e143_3, e143_6, e143_7, e143_9, e143_12, e143_13, e143_15, e143_18, e143_19, e143_21, e143_24, e143_25, e143_27, e143_30, e143_31, e143_33, e143_36, e143_37, e143_39, e143_42, e143_43, e143_45, e143_48, e143_49, e143_52, e143_53, ct_i, ct_r, ct_n, ct_h, opt_v, opt_s, ref_s, ref_n, eq_self_iff_true, true_or, or_true, zl0, zl1, zl2, zl3, zl4, zl5, zl6, zl7, zl8, zl9, zl10, zl16, zl32, zl40, zl100, zl160, zIc1, zI_lt, zI_le, nI_eq, nI_add, z_sub, nI_clamp, zI_of, uu_eq, uu_ne, Nat.reduceLT, Nat.reduceLeDiff, Nat.reduceEqDiff, Nat.reduceAdd, Nat.reduceSub, Nat.reduceMul, Nat.not_lt_zero, Nat.lt_irrefl, Nat.le_refl, Bool.false_eq_true, false_and, and_false, true_and, and_true, if_pos, if_neg, if_true, if_false, not_true_eq_false, not_false_eq_true, a1, a2, a3, a4, a5, a6, a7]
  · have hc : ¬ (x = 40 ∨ x = 41 ∨ x = 59 ∨ x = 43 ∨ x = 45 ∨ x = 42 ∨ x = 60 ∨ x = 61) := fun h => hS ((isS_e x).mpr h)
    have c1 : ¬ x = 40 := by omega
    have c2 : ¬ x = 41 := by omega
    have c3 : ¬ x = 59 := by omega
    have c4 : ¬ x = 43 := by omega
    have c5 : ¬ x = 45 := by omega
    have c6 : ¬ x = 42 := by omega
    have c7 : ¬ x = 60 := by omega
    have c8 : ¬ x = 61 := by omega
    rw [if_neg hS]
    simp (disch := first | assumption | exact ct_i | exact ct_r | exact ct_n | exact ct_h | omega | exact z_in (by omega) (by omega) | exact b01 | exact Or.inl rfl | exact Or.inr rfl) only [b143, e143_0, e143_1, e143_3, e143_6, e143_7, e143_9, e143_12, e143_13, e143_15, e143_18, e143_19, e143_21, e143_24, e143_25, e143_27, e143_30, e143_31, e143_33, e143_36, e143_37, e143_39, e143_42, e143_43, e143_45, e143_48, e143_49, e143_52, e143_53, ct_i, ct_r, ct_n, ct_h, opt_v, opt_s, ref_s, ref_n, eq_self_iff_true, true_or, or_true, zl0, zl1, zl2, zl3, zl4, zl5, zl6, zl7, zl8, zl9, zl10, zl16, zl32, zl40, zl100, zl160, zIc1, zI_lt, zI_le, nI_eq, nI_add, z_sub, nI_clamp, zI_of, uu_eq, uu_ne, Nat.reduceLT, Nat.reduceLeDiff, Nat.reduceEqDiff, Nat.reduceAdd, Nat.reduceSub, Nat.reduceMul, Nat.not_lt_zero, Nat.lt_irrefl, Nat.le_refl, Bool.false_eq_true, false_and, and_false, true_and, and_true, if_pos, if_neg, if_true, if_false, not_true_eq_false, not_false_eq_true, a1, a2, a3, a4, a5, a6, a7, c1, c2, c3, c4, c5, c6, c7, c8]
theorem wb_last : ∀ i, i < 57 → ¬ wb 0 i = 32 → i + 1 < 57 := by decide
theorem k141l (hM : mK sh R) (hT : tpM tp s I) {fr at1 : Nat} (h22 : I 0 22 = nI fr) (h23 : I 0 23 = nI at1) (hfa : fr ≤ at1) (hs : at1 ≤ s) :
    ∀ m i w l a, i + m + 1 = 57 → w ≤ i → l ≤ i →
    (aE (a_cl_ d) 141 (18, [.ref 0, .int (nI (i - l)), .int (nI w), .int (nI l), .int (if a = true then nI 1 else nI 0)], [], (n, t, sh, I, L, R)) Q ↔
      Q (some (.int (match wlF tp s fr (at1 - fr) (m + 1) i w l a with | some r => nI r | none => -nI 1))) (n, t, sh, I, L, R)) := by
  have m0 := mm_0 hM; have x9 := mm_x9 hM; have y9 := mm_y9 hM; have r14 := mm_r14 hM; have x13 := mm_x13 hM; have y13 := mm_y13 hM; have r29 := mm_r29 hM
  obtain ⟨⟨t1, t2⟩, ⟨t3, t4⟩, t5⟩ := hT
  have e32 : (32 : Int32) = nI 32 := rfl
  have e57 : Int32.ofNat 57 = nI 57 := rfl
  have g13 : 100 ≤ (sh 13).1 ∧ (sh 13).1 < 118 := by omega
  intro m
  induction m with
  | zero =>
    intro i w l a hi hw hl
    obtain rfl : i = 56 := by omega
    have g56 := t5 56 (by decide)
    have hsp : wb 0 56 = 32 := by decide
    rw [hsp] at g56
    have el : 56 - l + l = 56 := by omega
    have ea : 56 - l + (l + 1) = 57 := by omega
    have ez : nI at1 - nI fr = nI (at1 - fr) := z_sub hfa
    rw [e141_18]
    simp only [wlF, hsp, if_true]
    cases a with
    | true =>
      by_cases hq : l = at1 - fr
      · have el' : 56 - (at1 - fr) + (at1 - fr) = 56 := by omega
        simp (disch := first | assumption | exact ct_i | exact ct_r | exact ct_n | exact ct_h | omega | exact z_in (by omega) (by omega) | exact b01 | exact Or.inl rfl | exact Or.inr rfl) only [e141_0, e141_1, e141_2, e141_3, e141_4, e141_5, e141_6, e141_9, e141_10, e141_13, e141_14, e141_15, e141_16, e141_19, e141_22, e141_23, e141_24, e141_25, e141_26, e141_28, e141_31, e141_33, e141_36, e141_37, e141_40, e141_41, e141_42, e141_43, e141_46, e141_49, e141_50, e141_53, e141_54, e141_57, e141_58, e141_59, e141_60, e141_61, e141_64, e141_65, e141_66, e141_67, e141_68, e141_71, e141_72, e141_75, e141_76, e141_78, e141_81, e141_84, e141_86, e141_89, e141_90, e141_91, e141_94, e141_95, e141_98, e141_99, e141_102, e141_103, e141_104, e141_105, e141_106, e141_107, e141_108, e141_109, e141_110, e141_113, e141_116, e141_117, ct_i, ct_r, ct_n, ct_h, opt_v, opt_s, ref_s, ref_n, eq_self_iff_true, true_or, or_true, zl0, zl1, zl2, zl3, zl4, zl5, zl6, zl7, zl8, zl9, zl10, zl16, zl32, zl40, zl100, zl160, zIc1, zI_lt, zI_le, nI_eq, nI_add, z_sub, nI_clamp, zI_of, uu_eq, uu_ne, Nat.reduceLT, Nat.reduceLeDiff, Nat.reduceEqDiff, Nat.reduceAdd, Nat.reduceSub, Nat.reduceMul, Nat.not_lt_zero, Nat.lt_irrefl, Nat.le_refl, Bool.false_eq_true, false_and, and_false, true_and, and_true, if_pos, if_neg, if_true, if_false, not_true_eq_false, not_false_eq_true, m0, x9, y9, r14, x13, y13, r29, el, el', g56, e32, h22, h23, ez, hq]
      · simp (disch := first | assumption | exact ct_i | exact ct_r | exact ct_n | exact ct_h | omega | exact z_in (by omega) (by omega) | exact b01 | exact Or.inl rfl | exact Or.inr rfl) only [e141_0, e141_1, e141_2, e141_3, e141_4, e141_5, e141_6, e141_9, e141_10, e141_13, e141_14, e141_15, e141_16, e141_19, e141_22, e141_23, e141_24, e141_25, e141_26, e141_28, e141_31, e141_33, e141_36, e141_37, e141_40, e141_41, e141_42, e141_43, e141_46, e141_49, e141_50, e141_53, e141_54, e141_57, e141_58, e141_59, e141_60, e141_61, e141_64, e141_65, e141_66, e141_67, e141_68, e141_71, e141_72, e141_75, e141_76, e141_78, e141_81, e141_84, e141_86, e141_89, e141_90, e141_91, e141_94, e141_95, e141_98, e141_99, e141_102, e141_103, e141_104, e141_105, e141_106, e141_107, e141_108, e141_109, e141_110, e141_113, e141_116, e141_117, ct_i, ct_r, ct_n, ct_h, opt_v, opt_s, ref_s, ref_n, eq_self_iff_true, true_or, or_true, zl0, zl1, zl2, zl3, zl4, zl5, zl6, zl7, zl8, zl9, zl10, zl16, zl32, zl40, zl100, zl160, zIc1, zI_lt, zI_le, nI_eq, nI_add, z_sub, nI_clamp, zI_of, uu_eq, uu_ne, Nat.reduceLT, Nat.reduceLeDiff, Nat.reduceEqDiff, Nat.reduceAdd, Nat.reduceSub, Nat.reduceMul, Nat.not_lt_zero, Nat.lt_irrefl, Nat.le_refl, Bool.false_eq_true, false_and, and_false, true_and, and_true, if_pos, if_neg, if_true, if_false, not_true_eq_false, not_false_eq_true, m0, x9, y9, r14, x13, y13, r29, el, ea, g56, e32, h22, h23, ez, hq, g13, e57]
    | false =>
      simp (disch := first | assumption | exact ct_i | exact ct_r | exact ct_n | exact ct_h | omega | exact z_in (by omega) (by omega) | exact b01 | exact Or.inl rfl | exact Or.inr rfl) only [e141_0, e141_1, e141_2, e141_3, e141_4, e141_5, e141_6, e141_9, e141_10, e141_13, e141_14, e141_15, e141_16, e141_19, e141_22, e141_23, e141_24, e141_25, e141_26, e141_28, e141_31, e141_33, e141_36, e141_37, e141_40, e141_41, e141_42, e141_43, e141_46, e141_49, e141_50, e141_53, e141_54, e141_57, e141_58, e141_59, e141_60, e141_61, e141_64, e141_65, e141_66, e141_67, e141_68, e141_71, e141_72, e141_75, e141_76, e141_78, e141_81, e141_84, e141_86, e141_89, e141_90, e141_91, e141_94, e141_95, e141_98, e141_99, e141_102, e141_103, e141_104, e141_105, e141_106, e141_107, e141_108, e141_109, e141_110, e141_113, e141_116, e141_117, ct_i, ct_r, ct_n, ct_h, opt_v, opt_s, ref_s, ref_n, eq_self_iff_true, true_or, or_true, zl0, zl1, zl2, zl3, zl4, zl5, zl6, zl7, zl8, zl9, zl10, zl16, zl32, zl40, zl100, zl160, zIc1, zI_lt, zI_le, nI_eq, nI_add, z_sub, nI_clamp, zI_of, uu_eq, uu_ne, Nat.reduceLT, Nat.reduceLeDiff, Nat.reduceEqDiff, Nat.reduceAdd, Nat.reduceSub, Nat.reduceMul, Nat.not_lt_zero, Nat.lt_irrefl, Nat.le_refl, Bool.false_eq_true, false_and, and_false, true_and, and_true, if_pos, if_neg, if_true, if_false, not_true_eq_false, not_false_eq_true, m0, x9, y9, r14, x13, y13, r29, el, ea, g56, e32, h22, h23, ez, g13, e57]
  | succ m ih =>
    intro i w l a hi hw hl
    have hi57 : i < 57 := by omega
    have gi := t5 i hi57
    have wl128 := (wb_c0 i hi57).2
    have el : i - l + l = i := by omega
    have ea : i - l + (l + 1) = i + 1 := by omega
    have ez : nI at1 - nI fr = nI (at1 - fr) := z_sub hfa
    rw [e141_18]
    have hdef : wlF tp s fr (at1 - fr) (m + 1 + 1) i w l a = (if wb 0 i = 32 then (if a = true ∧ l = at1 - fr then some w else wlF tp s fr (at1 - fr) (m + 1) (i + 1) (w + 1) 0 true) else wlF tp s fr (at1 - fr) (m + 1) (i + 1) w (l + 1) (a && decide (l < at1 - fr) && decide (bk tp s (fr + l) = wb 0 i))) := rfl
    by_cases c : wb 0 i = 32
    · rw [c] at gi
      have q := ih (i + 1) (w + 1) 0 true (by omega) (by omega) (by omega)
      rw [Nat.sub_zero] at q
      simp only [if_true] at q
      cases a with
      | true =>
        by_cases hq : l = at1 - fr
        · have hW : wlF tp s fr (at1 - fr) (m + 1 + 1) i w l true = some w := by rw [hdef, if_pos c, if_pos ⟨rfl, hq⟩]
          rw [hW]
          have el' : i - (at1 - fr) + (at1 - fr) = i := by omega
          simp (disch := first | assumption | exact ct_i | exact ct_r | exact ct_n | exact ct_h | omega | exact z_in (by omega) (by omega) | exact b01 | exact Or.inl rfl | exact Or.inr rfl) only [e141_0, e141_1, e141_2, e141_3, e141_4, e141_5, e141_6, e141_9, e141_10, e141_13, e141_14, e141_15, e141_16, e141_19, e141_22, e141_23, e141_24, e141_25, e141_26, e141_28, e141_31, e141_33, e141_36, e141_37, e141_40, e141_41, e141_42, e141_43, e141_46, e141_49, e141_50, e141_53, e141_54, e141_57, e141_58, e141_59, e141_60, e141_61, e141_64, e141_65, e141_66, e141_67, e141_68, e141_71, e141_72, e141_75, e141_76, e141_78, e141_81, e141_84, e141_86, e141_89, e141_90, e141_91, e141_94, e141_95, e141_98, e141_99, e141_102, e141_103, e141_104, e141_105, e141_106, e141_107, e141_108, e141_109, e141_110, e141_113, e141_116, e141_117, ct_i, ct_r, ct_n, ct_h, opt_v, opt_s, ref_s, ref_n, eq_self_iff_true, true_or, or_true, zl0, zl1, zl2, zl3, zl4, zl5, zl6, zl7, zl8, zl9, zl10, zl16, zl32, zl40, zl100, zl160, zIc1, zI_lt, zI_le, nI_eq, nI_add, z_sub, nI_clamp, zI_of, uu_eq, uu_ne, Nat.reduceLT, Nat.reduceLeDiff, Nat.reduceEqDiff, Nat.reduceAdd, Nat.reduceSub, Nat.reduceMul, Nat.not_lt_zero, Nat.lt_irrefl, Nat.le_refl, Bool.false_eq_true, false_and, and_false, true_and, and_true, if_pos, if_neg, if_true, if_false, not_true_eq_false, not_false_eq_true, m0, x9, y9, r14, x13, y13, r29, el, el', gi, e32, h22, h23, ez, hq]
        · have hW : wlF tp s fr (at1 - fr) (m + 1 + 1) i w l true = wlF tp s fr (at1 - fr) (m + 1) (i + 1) (w + 1) 0 true := by rw [hdef, if_pos c, if_neg (fun h => hq h.2)]
          rw [hW]
          simp (disch := first | assumption | exact ct_i | exact ct_r | exact ct_n | exact ct_h | omega | exact z_in (by omega) (by omega) | exact b01 | exact Or.inl rfl | exact Or.inr rfl) only [e141_0, e141_1, e141_2, e141_3, e141_4, e141_5, e141_6, e141_9, e141_10, e141_13, e141_14, e141_15, e141_16, e141_19, e141_22, e141_23, e141_24, e141_25, e141_26, e141_28, e141_31, e141_33, e141_36, e141_37, e141_40, e141_41, e141_42, e141_43, e141_46, e141_49, e141_50, e141_53, e141_54, e141_57, e141_58, e141_59, e141_60, e141_61, e141_64, e141_65, e141_66, e141_67, e141_68, e141_71, e141_72, e141_75, e141_76, e141_78, e141_81, e141_84, e141_86, e141_89, e141_90, e141_91, e141_94, e141_95, e141_98, e141_99, e141_102, e141_103, e141_104, e141_105, e141_106, e141_107, e141_108, e141_109, e141_110, e141_113, e141_116, e141_117, ct_i, ct_r, ct_n, ct_h, opt_v, opt_s, ref_s, ref_n, eq_self_iff_true, true_or, or_true, zl0, zl1, zl2, zl3, zl4, zl5, zl6, zl7, zl8, zl9, zl10, zl16, zl32, zl40, zl100, zl160, zIc1, zI_lt, zI_le, nI_eq, nI_add, z_sub, nI_clamp, zI_of, uu_eq, uu_ne, Nat.reduceLT, Nat.reduceLeDiff, Nat.reduceEqDiff, Nat.reduceAdd, Nat.reduceSub, Nat.reduceMul, Nat.not_lt_zero, Nat.lt_irrefl, Nat.le_refl, Bool.false_eq_true, false_and, and_false, true_and, and_true, if_pos, if_neg, if_true, if_false, not_true_eq_false, not_false_eq_true, m0, x9, y9, r14, x13, y13, r29, el, ea, gi, e32, h22, h23, ez, hq, g13, e57]
          exact q
      | false =>
        have hW : wlF tp s fr (at1 - fr) (m + 1 + 1) i w l false = wlF tp s fr (at1 - fr) (m + 1) (i + 1) (w + 1) 0 true := by rw [hdef, if_pos c, if_neg (fun h => by cases h.1)]
        rw [hW]
        simp (disch := first | assumption | exact ct_i | exact ct_r | exact ct_n | exact ct_h | omega | exact z_in (by omega) (by omega) | exact b01 | exact Or.inl rfl | exact Or.inr rfl) only [e141_0, e141_1, e141_2, e141_3, e141_4, e141_5, e141_6, e141_9, e141_10, e141_13, e141_14, e141_15, e141_16, e141_19, e141_22, e141_23, e141_24, e141_25, e141_26, e141_28, e141_31, e141_33, e141_36, e141_37, e141_40, e141_41, e141_42, e141_43, e141_46, e141_49, e141_50, e141_53, e141_54, e141_57, e141_58, e141_59, e141_60, e141_61, e141_64, e141_65, e141_66, e141_67, e141_68, e141_71, e141_72, e141_75, e141_76, e141_78, e141_81, e141_84, e141_86, e141_89, e141_90, e141_91, e141_94, e141_95, e141_98, e141_99, e141_102, e141_103, e141_104, e141_105, e141_106, e141_107, e141_108, e141_109, e141_110, e141_113, e141_116, e141_117, ct_i, ct_r, ct_n, ct_h, opt_v, opt_s, ref_s, ref_n, eq_self_iff_true, true_or, or_true, zl0, zl1, zl2, zl3, zl4, zl5, zl6, zl7, zl8, zl9, zl10, zl16, zl32, zl40, zl100, zl160, zIc1, zI_lt, zI_le, nI_eq, nI_add, z_sub, nI_clamp, zI_of, uu_eq, uu_ne, Nat.reduceLT, Nat.reduceLeDiff, Nat.reduceEqDiff, Nat.reduceAdd, Nat.reduceSub, Nat.reduceMul, Nat.not_lt_zero, Nat.lt_irrefl, Nat.le_refl, Bool.false_eq_true, false_and, and_false, true_and, and_true, if_pos, if_neg, if_true, if_false, not_true_eq_false, not_false_eq_true, m0, x9, y9, r14, x13, y13, r29, el, ea, gi, e32, h22, h23, ez, g13, e57]
        exact q
    · rw [hdef, if_neg c]
      have eil : i + 1 - (l + 1) = i - l := by omega
      cases a with
      | false =>
        have q := ih (i + 1) w (l + 1) false (by omega) (by omega) (by omega)
        rw [eil] at q
        simp only [Bool.false_eq_true, if_false] at q
        simp (disch := first | assumption | exact ct_i | exact ct_r | exact ct_n | exact ct_h | omega | exact z_in (by omega) (by omega) | exact b01 | exact Or.inl rfl | exact Or.inr rfl) only [e141_0, e141_1, e141_2, e141_3, e141_4, e141_5, e141_6, e141_9, e141_10, e141_13, e141_14, e141_15, e141_16, e141_19, e141_22, e141_23, e141_24, e141_25, e141_26, e141_28, e141_31, e141_33, e141_36, e141_37, e141_40, e141_41, e141_42, e141_43, e141_46, e141_49, e141_50, e141_53, e141_54, e141_57, e141_58, e141_59, e141_60, e141_61, e141_64, e141_65, e141_66, e141_67, e141_68, e141_71, e141_72, e141_75, e141_76, e141_78, e141_81, e141_84, e141_86, e141_89, e141_90, e141_91, e141_94, e141_95, e141_98, e141_99, e141_102, e141_103, e141_104, e141_105, e141_106, e141_107, e141_108, e141_109, e141_110, e141_113, e141_116, e141_117, ct_i, ct_r, ct_n, ct_h, opt_v, opt_s, ref_s, ref_n, eq_self_iff_true, true_or, or_true, zl0, zl1, zl2, zl3, zl4, zl5, zl6, zl7, zl8, zl9, zl10, zl16, zl32, zl40, zl100, zl160, zIc1, zI_lt, zI_le, nI_eq, nI_add, z_sub, nI_clamp, zI_of, uu_eq, uu_ne, Nat.reduceLT, Nat.reduceLeDiff, Nat.reduceEqDiff, Nat.reduceAdd, Nat.reduceSub, Nat.reduceMul, Nat.not_lt_zero, Nat.lt_irrefl, Nat.le_refl, Bool.false_eq_true, false_and, and_false, true_and, and_true, if_pos, if_neg, if_true, if_false, not_true_eq_false, not_false_eq_true, m0, x9, y9, r14, x13, y13, r29, el, gi, e32, c, Bool.false_and]
        exact q
      | true =>
        by_cases hq : l < at1 - fr
        · have hlt : fr + l < at1 := by omega
          have hbs : bk tp s (fr + l) = tp (fr + l) := bk_in (by omega)
          have gt := t4 (fr + l) (by omega)
          have ht256 := t2 (fr + l) (by omega)
          have elr : (w + 1) = w + 1 := rfl
          by_cases hb : tp (fr + l) = wb 0 i
          · have q := ih (i + 1) w (l + 1) true (by omega) (by omega) (by omega)
            rw [eil] at q
            simp only [if_true] at q
            rw [hbs, decide_eq_true hq, decide_eq_true hb]
            simp (disch := first | assumption | exact ct_i | exact ct_r | exact ct_n | exact ct_h | omega | exact z_in (by omega) (by omega) | exact b01 | exact Or.inl rfl | exact Or.inr rfl) only [e141_0, e141_1, e141_2, e141_3, e141_4, e141_5, e141_6, e141_9, e141_10, e141_13, e141_14, e141_15, e141_16, e141_19, e141_22, e141_23, e141_24, e141_25, e141_26, e141_28, e141_31, e141_33, e141_36, e141_37, e141_40, e141_41, e141_42, e141_43, e141_46, e141_49, e141_50, e141_53, e141_54, e141_57, e141_58, e141_59, e141_60, e141_61, e141_64, e141_65, e141_66, e141_67, e141_68, e141_71, e141_72, e141_75, e141_76, e141_78, e141_81, e141_84, e141_86, e141_89, e141_90, e141_91, e141_94, e141_95, e141_98, e141_99, e141_102, e141_103, e141_104, e141_105, e141_106, e141_107, e141_108, e141_109, e141_110, e141_113, e141_116, e141_117, ct_i, ct_r, ct_n, ct_h, opt_v, opt_s, ref_s, ref_n, eq_self_iff_true, true_or, or_true, zl0, zl1, zl2, zl3, zl4, zl5, zl6, zl7, zl8, zl9, zl10, zl16, zl32, zl40, zl100, zl160, zIc1, zI_lt, zI_le, nI_eq, nI_add, z_sub, nI_clamp, zI_of, uu_eq, uu_ne, Nat.reduceLT, Nat.reduceLeDiff, Nat.reduceEqDiff, Nat.reduceAdd, Nat.reduceSub, Nat.reduceMul, Nat.not_lt_zero, Nat.lt_irrefl, Nat.le_refl, Bool.false_eq_true, false_and, and_false, true_and, and_true, if_pos, if_neg, if_true, if_false, not_true_eq_false, not_false_eq_true, m0, x9, y9, r14, x13, y13, r29, el, gi, e32, c, h22, h23, hlt, gt, hb, Bool.and_true]
            exact q
          · have q := ih (i + 1) w (l + 1) false (by omega) (by omega) (by omega)
            rw [eil] at q
            simp only [Bool.false_eq_true, if_false] at q
            rw [hbs, decide_eq_true hq, decide_eq_false hb]
            simp (disch := first | assumption | exact ct_i | exact ct_r | exact ct_n | exact ct_h | omega | exact z_in (by omega) (by omega) | exact b01 | exact Or.inl rfl | exact Or.inr rfl) only [e141_0, e141_1, e141_2, e141_3, e141_4, e141_5, e141_6, e141_9, e141_10, e141_13, e141_14, e141_15, e141_16, e141_19, e141_22, e141_23, e141_24, e141_25, e141_26, e141_28, e141_31, e141_33, e141_36, e141_37, e141_40, e141_41, e141_42, e141_43, e141_46, e141_49, e141_50, e141_53, e141_54, e141_57, e141_58, e141_59, e141_60, e141_61, e141_64, e141_65, e141_66, e141_67, e141_68, e141_71, e141_72, e141_75, e141_76, e141_78, e141_81, e141_84, e141_86, e141_89, e141_90, e141_91, e141_94, e141_95, e141_98, e141_99, e141_102, e141_103, e141_104, e141_105, e141_106, e141_107, e141_108, e141_109, e141_110, e141_113, e141_116, e141_117, ct_i, ct_r, ct_n, ct_h, opt_v, opt_s, ref_s, ref_n, eq_self_iff_true, true_or, or_true, zl0, zl1, zl2, zl3, zl4, zl5, zl6, zl7, zl8, zl9, zl10, zl16, zl32, zl40, zl100, zl160, zIc1, zI_lt, zI_le, nI_eq, nI_add, z_sub, nI_clamp, zI_of, uu_eq, uu_ne, Nat.reduceLT, Nat.reduceLeDiff, Nat.reduceEqDiff, Nat.reduceAdd, Nat.reduceSub, Nat.reduceMul, Nat.not_lt_zero, Nat.lt_irrefl, Nat.le_refl, Bool.false_eq_true, false_and, and_false, true_and, and_true, if_pos, if_neg, if_true, if_false, not_true_eq_false, not_false_eq_true, m0, x9, y9, r14, x13, y13, r29, el, gi, e32, c, h22, h23, hlt, gt, hb, Bool.and_false]
            exact q
        · have q := ih (i + 1) w (l + 1) false (by omega) (by omega) (by omega)
          rw [eil] at q
          simp only [Bool.false_eq_true, if_false] at q
          have hlt : ¬ fr + l < at1 := by omega
          rw [decide_eq_false hq]
          simp (disch := first | assumption | exact ct_i | exact ct_r | exact ct_n | exact ct_h | omega | exact z_in (by omega) (by omega) | exact b01 | exact Or.inl rfl | exact Or.inr rfl) only [e141_0, e141_1, e141_2, e141_3, e141_4, e141_5, e141_6, e141_9, e141_10, e141_13, e141_14, e141_15, e141_16, e141_19, e141_22, e141_23, e141_24, e141_25, e141_26, e141_28, e141_31, e141_33, e141_36, e141_37, e141_40, e141_41, e141_42, e141_43, e141_46, e141_49, e141_50, e141_53, e141_54, e141_57, e141_58, e141_59, e141_60, e141_61, e141_64, e141_65, e141_66, e141_67, e141_68, e141_71, e141_72, e141_75, e141_76, e141_78, e141_81, e141_84, e141_86, e141_89, e141_90, e141_91, e141_94, e141_95, e141_98, e141_99, e141_102, e141_103, e141_104, e141_105, e141_106, e141_107, e141_108, e141_109, e141_110, e141_113, e141_116, e141_117, ct_i, ct_r, ct_n, ct_h, opt_v, opt_s, ref_s, ref_n, eq_self_iff_true, true_or, or_true, zl0, zl1, zl2, zl3, zl4, zl5, zl6, zl7, zl8, zl9, zl10, zl16, zl32, zl40, zl100, zl160, zIc1, zI_lt, zI_le, nI_eq, nI_add, z_sub, nI_clamp, zI_of, uu_eq, uu_ne, Nat.reduceLT, Nat.reduceLeDiff, Nat.reduceEqDiff, Nat.reduceAdd, Nat.reduceSub, Nat.reduceMul, Nat.not_lt_zero, Nat.lt_irrefl, Nat.le_refl, Bool.false_eq_true, false_and, and_false, true_and, and_true, if_pos, if_neg, if_true, if_false, not_true_eq_false, not_false_eq_true, m0, x9, y9, r14, x13, y13, r29, el, gi, e32, c, h22, h23, hlt, Bool.and_false, Bool.false_and]
          exact q
theorem k141 (hd : 1 ≤ d) (hM : mK sh R) (hT : tpM tp s I) {fr at1 : Nat} (h22 : I 0 22 = nI fr) (h23 : I 0 23 = nI at1) (hfa : fr ≤ at1) (hs : at1 ≤ s) :
    aC d 141 [.ref 0] (n, t, sh, I, L, R) Q ↔ Q (some (.int (match wlF tp s fr (at1 - fr) 57 0 0 0 true with | some r => nI r | none => -nI 1))) (n, t, sh, I, L, R) := by
  obtain ⟨d, rfl⟩ : ∃ e, d = e + 1 := ⟨d - 1, by omega⟩
  have m0 := mm_0 hM; have x13 := mm_x13 hM; have y13 := mm_y13 hM; have r29 := mm_r29 hM
  have e57 : Int32.ofNat 57 = nI 57 := rfl
  have g13 : 100 ≤ (sh 13).1 ∧ (sh 13).1 < 118 := by omega
  simp (disch := first | assumption | exact ct_i | exact ct_r | exact ct_n | exact ct_h | omega | exact z_in (by omega) (by omega) | exact b01 | exact Or.inl rfl | exact Or.inr rfl) only [b141, e141_0, e141_1, e141_2, e141_3, e141_4, e141_5, e141_6, e141_9, e141_10, e141_13, e141_14, e141_15, e141_16, e141_19, e141_22, e141_23, e141_24, e141_25, e141_26, e141_28, e141_31, e141_33, e141_36, e141_37, e141_40, e141_41, e141_42, e141_43, e141_46, e141_49, e141_50, e141_53, e141_54, e141_57, e141_58, e141_59, e141_60, e141_61, e141_64, e141_65, e141_66, e141_67, e141_68, e141_71, e141_72, e141_75, e141_76, e141_78, e141_81, e141_84, e141_86, e141_89, e141_90, e141_91, e141_94, e141_95, e141_98, e141_99, e141_102, e141_103, e141_104, e141_105, e141_106, e141_107, e141_108, e141_109, e141_110, e141_113, e141_116, e141_117, ct_i, ct_r, ct_n, ct_h, opt_v, opt_s, ref_s, ref_n, eq_self_iff_true, true_or, or_true, zl0, zl1, zl2, zl3, zl4, zl5, zl6, zl7, zl8, zl9, zl10, zl16, zl32, zl40, zl100, zl160, zIc1, zI_lt, zI_le, nI_eq, nI_add, z_sub, nI_clamp, zI_of, uu_eq, uu_ne, Nat.reduceLT, Nat.reduceLeDiff, Nat.reduceEqDiff, Nat.reduceAdd, Nat.reduceSub, Nat.reduceMul, Nat.not_lt_zero, Nat.lt_irrefl, Nat.le_refl, Bool.false_eq_true, false_and, and_false, true_and, and_true, if_pos, if_neg, if_true, if_false, not_true_eq_false, not_false_eq_true, m0, x13, y13, r29, g13, e57]
  exact k141l hM hT h22 h23 hfa hs 56 0 0 0 true rfl (Nat.le_refl _) (Nat.le_refl _)
end
