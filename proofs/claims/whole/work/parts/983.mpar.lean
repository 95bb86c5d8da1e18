/-! the model's reader: what its small calls do -/
def frN (i : Nat) (I0 I : Nat → Nat → Int32) : Prop := ∀ x k, ¬ (x = 0 ∧ 21 ≤ k ∧ k ≤ 28 ∨ x = 10 ∧ 510 * i ≤ k) → I x k = I0 x k
def cdM (i : Nat) (c : List Nat) (I : Nat → Nat → Int32) : Prop := I 0 21 = nI (510 * i + c.length) ∧ ∀ j, j < c.length → I 10 (510 * i + j) = mCell (c.getD j 0)
def pO (tp : Nat → Nat) (s i o p : Nat) (c : List Nat) (I0 I : Nat → Nat → Int32) : Prop := mS tp s p I ∧ tpM tp s I ∧ I 0 27 = nI 0 ∧ cdM i c I ∧ I 0 26 = nI o ∧ frN i I0 I
def pW (i p e : Nat) (I0 I : Nat → Nat → Int32) : Prop := I 0 27 = nI 1 ∧ I 0 28 = nI p ∧ I 0 21 = nI (510 * i + e) ∧ frN i I0 I
section
variable {tp : Nat → Nat} {s d i o p : Nat} {c : List Nat} {n t : Nat} {sh : Nat → Nat × Nat} {I0 I : Nat → Nat → Int32} {L : Nat → Nat → Int64} {R : Nat → Nat → Option Nat} {Q : Option Value → aH → Prop}
theorem frN_Q {I' : Nat → Nat → Int32} (h : frN i I0 I) (f : frQ I I') : frN i I0 I' := fun x k hx => (f x k (by omega)).trans (h x k hx)
theorem frN_u {k : Nat} {v : Int32} (h : frN i I0 I) (hk : 21 ≤ k ∧ k ≤ 28) : frN i I0 (u2 I 0 k v) := fun x y hx => by rw [uu_ne _ _ _ _ (by omega)]; exact h x y hx
theorem k138p (hd : 4 ≤ d) (hM : mK sh R) (hP : pO tp s i o p c I0 I) (H : ∀ I', pO tp s i o (nx tp s p) c I0 I' → Q none (n, t, sh, I', L, R)) : aC d 138 [.ref 0] (n, t, sh, I, L, R) Q := by
  obtain ⟨h1, h2, h3, h4, h5, h6⟩ := hP
  exact k138 hd hM h2 (te_le h1.1) h1.2.1 (fun I' f r => H I' ⟨r, tpM_Q h2 f, (f _ _ (by omega)).trans h3, ⟨(f _ _ (by omega)).trans h4.1, fun j hj => (f _ _ (by omega)).trans (h4.2 j hj)⟩, (f _ _ (by omega)).trans h5, frN_Q h6 f⟩)
theorem k150a (hd : 1 ≤ d) (hM : mK sh R) {k : Nat} {v : Int32} (h21 : I 0 21 = nI k) (hk : k < 3570) : aC d 150 [.ref 0, .int v] (n, t, sh, I, L, R) Q ↔ Q none (n, t, sh, u2 (u2 I 10 k v) 0 21 (nI (k + 1)), L, R) := by
  obtain ⟨d, rfl⟩ : ∃ e, d = e + 1 := ⟨d - 1, by omega⟩
  have m0 := mm_0 hM; have x10 := mm_x10 hM; have y10 := mm_y10 hM; have r18 := mm_r18 hM
  simp (disch := first | assumption | exact ct_i | exact ct_r | exact ct_n | exact ct_h | omega | exact z_in (by omega) (by omega) | exact b01 | exact Or.inl rfl | exact Or.inr rfl) only [b150, e150_0, e150_1, e150_4, e150_5, e150_8, e150_9, e150_10, e150_11, e150_12, e150_15, e150_16, e150_17, e150_20, ct_i, ct_r, ct_n, ct_h, opt_v, opt_s, ref_s, ref_n, eq_self_iff_true, true_or, or_true, zl0, zl1, zl2, zl3, zl4, zl5, zl6, zl7, zl8, zl9, zl10, zl16, zl32, zl40, zl100, zl160, zIc1, zI_lt, zI_le, nI_eq, nI_add, z_sub, nI_clamp, zI_of, uu_eq, uu_ne, Nat.reduceLT, Nat.reduceLeDiff, Nat.reduceEqDiff, Nat.reduceAdd, Nat.reduceSub, Nat.reduceMul, Nat.not_lt_zero, Nat.lt_irrefl, Nat.le_refl, Bool.false_eq_true, false_and, and_false, true_and, and_true, if_pos, if_neg, if_true, if_false, not_true_eq_false, not_false_eq_true, m0, x10, y10, r18, h21]
theorem k150p (hd : 1 ≤ d) (hM : mK sh R) (hi : i < 6) (hP : pO tp s i o p c I0 I) (hl : c.length < 160) {k : Nat} {v : Int32} (hv : v = mCell k) (H : ∀ I', pO tp s i o p (c ++ [k]) I0 I' → Q none (n, t, sh, I', L, R)) : aC d 150 [.ref 0, .int v] (n, t, sh, I, L, R) Q := by
  obtain ⟨h1, h2, h3, h4, h5, h6⟩ := hP
  rw [k150a hd hM h4.1 (by omega)]
  refine H _ ⟨⟨h1.1, ?_, ?_, ?_, fun g1 g2 => ?_⟩, ⟨h2.1, ⟨?_, fun k hk => ?_⟩, fun j hj => ?_⟩, ?_, ⟨?_, fun j hj => ?_⟩, ?_, fun x y hx => ?_⟩
  · simp (disch := omega) only [uu_ne]; exact h1.2.1
  · simp (disch := omega) only [uu_ne]; exact h1.2.2.1
  · simp (disch := omega) only [uu_ne]; exact h1.2.2.2.1
  · simp (disch := omega) only [uu_ne]; exact h1.2.2.2.2 g1 g2
  · simp (disch := omega) only [uu_ne]; exact h2.2.1.1
  · simp (disch := omega) only [uu_ne]; exact h2.2.1.2 k hk
  · simp (disch := omega) only [uu_ne]; exact h2.2.2 j hj
  · simp (disch := omega) only [uu_ne]; exact h3
  · rw [uu_eq, List.length_append, List.length_singleton]; rfl
  · rw [List.length_append, List.length_singleton] at hj
    rw [uu_ne _ _ _ _ (by omega)]
    by_cases he : j = c.length
    · subst he; rw [uu_eq, getD_app2, hv]
    · rw [uu_ne _ _ _ _ (by omega), getD_app1 (by omega)]; exact h4.2 j (by omega)
  · simp (disch := omega) only [uu_ne]; exact h5
  · simp (disch := omega) only [uu_ne]; exact h6 x y hx
theorem k150w (hd : 1 ≤ d) (hM : mK sh R) (hi : i < 6) {e : Nat} (hP : pW i p e I0 I) (hl : e < 170) {v : Int32} (H : ∀ I', pW i p (e + 1) I0 I' → Q none (n, t, sh, I', L, R)) : aC d 150 [.ref 0, .int v] (n, t, sh, I, L, R) Q := by
  obtain ⟨h1, h2, h3, h4⟩ := hP
  rw [k150a hd hM h3 (by omega)]
  refine H _ ⟨?_, ?_, ?_, fun x y hx => ?_⟩
  · simp (disch := omega) only [uu_ne]; exact h1
  · simp (disch := omega) only [uu_ne]; exact h2
  · rw [uu_eq]; rfl
  · simp (disch := omega) only [uu_ne]; exact h4 x y hx
theorem tkM_4 {T : Nat} (h : T < 400) : tkM T = 4 ↔ T < 256 := by
  unfold tkM
  repeat' split
  all_goals omega
theorem tkM_3 {T : Nat} (h : T < 400) : tkM T = 3 ↔ 306 ≤ T := by
  unfold tkM
  repeat' split
  all_goals omega
theorem tkM_lt {T : Nat} : tkM T < 6 := by
  unfold tkM
  repeat' split
  all_goals omega
theorem k154p (hd : 1 ≤ d) (hM : mK sh R) (hP : pO tp s i o p c I0 I) {b : Nat} (hb : b < 128) : aC d 154 [.ref 0, .int (nI b)] (n, t, sh, I, L, R) Q ↔ Q (some (.int (if tk tp s p = b then nI 1 else nI 0))) (n, t, sh, I, L, R) := by
  obtain ⟨d, rfl⟩ : ∃ e, d = e + 1 := ⟨d - 1, by omega⟩
  have m0 := mm_0 hM
  obtain ⟨h1, h2, h3, h4, h5, h6⟩ := hP
  have hT := tk_lt (tp := tp) (s := s) (p := p)
  have h24 := h1.2.2.2.1
  have hlt := tkM_lt (T := tk tp s p)
  by_cases hs : tk tp s p < 256
  · have e4 := (tkM_4 hT).mpr hs
    have h25 := h1.2.2.2.2 (by omega) (by omega)
    have ew : woM (tk tp s p) (nv tp s p) = tk tp s p := by unfold woM; rw [if_neg (by omega), if_pos hs]
    rw [ew] at h25
    by_cases hc : tk tp s p = b
    · rw [e4] at h24
      rw [hc] at h25
      rw [if_pos hc]
      simp (disch := first | assumption | exact ct_i | exact ct_r | exact ct_n | exact ct_h | omega | exact z_in (by omega) (by omega) | exact b01 | exact Or.inl rfl | exact Or.inr rfl) only [b154, e154_0, e154_1, e154_4, e154_7, e154_8, e154_11, e154_12, e154_15, e154_16, e154_19, e154_20, e154_23, e154_24, e154_27, e154_28, ct_i, ct_r, ct_n, ct_h, opt_v, opt_s, ref_s, ref_n, eq_self_iff_true, true_or, or_true, zl0, zl1, zl2, zl3, zl4, zl5, zl6, zl7, zl8, zl9, zl10, zl16, zl32, zl40, zl100, zl160, zIc1, zI_lt, zI_le, nI_eq, nI_add, z_sub, nI_clamp, zI_of, uu_eq, uu_ne, Nat.reduceLT, Nat.reduceLeDiff, Nat.reduceEqDiff, Nat.reduceAdd, Nat.reduceSub, Nat.reduceMul, Nat.not_lt_zero, Nat.lt_irrefl, Nat.le_refl, Bool.false_eq_true, false_and, and_false, true_and, and_true, if_pos, if_neg, if_true, if_false, not_true_eq_false, not_false_eq_true, m0, h3, h24, h25]
    · rw [e4] at h24
      simp (disch := first | assumption | exact ct_i | exact ct_r | exact ct_n | exact ct_h | omega | exact z_in (by omega) (by omega) | exact b01 | exact Or.inl rfl | exact Or.inr rfl) only [b154, e154_0, e154_1, e154_4, e154_7, e154_8, e154_11, e154_12, e154_15, e154_16, e154_19, e154_20, e154_23, e154_24, e154_27, e154_28, ct_i, ct_r, ct_n, ct_h, opt_v, opt_s, ref_s, ref_n, eq_self_iff_true, true_or, or_true, zl0, zl1, zl2, zl3, zl4, zl5, zl6, zl7, zl8, zl9, zl10, zl16, zl32, zl40, zl100, zl160, zIc1, zI_lt, zI_le, nI_eq, nI_add, z_sub, nI_clamp, zI_of, uu_eq, uu_ne, Nat.reduceLT, Nat.reduceLeDiff, Nat.reduceEqDiff, Nat.reduceAdd, Nat.reduceSub, Nat.reduceMul, Nat.not_lt_zero, Nat.lt_irrefl, Nat.le_refl, Bool.false_eq_true, false_and, and_false, true_and, and_true, if_pos, if_neg, if_true, if_false, not_true_eq_false, not_false_eq_true, m0, h3, h24, h25, hc]
  · have e4 : ¬ tkM (tk tp s p) = 4 := fun h => hs ((tkM_4 hT).mp h)
    have hc : ¬ tk tp s p = b := by omega
    simp (disch := first | assumption | exact ct_i | exact ct_r | exact ct_n | exact ct_h | omega | exact z_in (by omega) (by omega) | exact b01 | exact Or.inl rfl | exact Or.inr rfl) only [b154, e154_0, e154_1, e154_4, e154_7, e154_8, e154_11, e154_12, e154_15, e154_16, e154_19, e154_20, e154_23, e154_24, e154_27, e154_28, ct_i, ct_r, ct_n, ct_h, opt_v, opt_s, ref_s, ref_n, eq_self_iff_true, true_or, or_true, zl0, zl1, zl2, zl3, zl4, zl5, zl6, zl7, zl8, zl9, zl10, zl16, zl32, zl40, zl100, zl160, zIc1, zI_lt, zI_le, nI_eq, nI_add, z_sub, nI_clamp, zI_of, uu_eq, uu_ne, Nat.reduceLT, Nat.reduceLeDiff, Nat.reduceEqDiff, Nat.reduceAdd, Nat.reduceSub, Nat.reduceMul, Nat.not_lt_zero, Nat.lt_irrefl, Nat.le_refl, Bool.false_eq_true, false_and, and_false, true_and, and_true, if_pos, if_neg, if_true, if_false, not_true_eq_false, not_false_eq_true, m0, h3, h24, e4, hc]
theorem k154w (hd : 1 ≤ d) (hM : mK sh R) {e : Nat} (hP : pW i p e I0 I) {v : Int32} : aC d 154 [.ref 0, .int v] (n, t, sh, I, L, R) Q ↔ Q (some (.int (nI 0))) (n, t, sh, I, L, R) := by
  obtain ⟨d, rfl⟩ : ∃ e, d = e + 1 := ⟨d - 1, by omega⟩
  have m0 := mm_0 hM
  have h1 := hP.1
  simp (disch := first | assumption | exact ct_i | exact ct_r | exact ct_n | exact ct_h | omega | exact z_in (by omega) (by omega) | exact b01 | exact Or.inl rfl | exact Or.inr rfl) only [b154, e154_0, e154_1, e154_4, e154_7, e154_8, e154_11, e154_12, e154_15, e154_16, e154_19, e154_20, e154_23, e154_24, e154_27, e154_28, ct_i, ct_r, ct_n, ct_h, opt_v, opt_s, ref_s, ref_n, eq_self_iff_true, true_or, or_true, zl0, zl1, zl2, zl3, zl4, zl5, zl6, zl7, zl8, zl9, zl10, zl16, zl32, zl40, zl100, zl160, zIc1, zI_lt, zI_le, nI_eq, nI_add, z_sub, nI_clamp, zI_of, uu_eq, uu_ne, Nat.reduceLT, Nat.reduceLeDiff, Nat.reduceEqDiff, Nat.reduceAdd, Nat.reduceSub, Nat.reduceMul, Nat.not_lt_zero, Nat.lt_irrefl, Nat.le_refl, Bool.false_eq_true, false_and, and_false, true_and, and_true, if_pos, if_neg, if_true, if_false, not_true_eq_false, not_false_eq_true, m0, h1]
theorem k144p (hd : 1 ≤ d) (hM : mK sh R) (hP : pO tp s i o p c I0 I) {k : Nat} (hk : k < 90) : aC d 144 [.ref 0, .int (nI k)] (n, t, sh, I, L, R) Q ↔ Q (some (.int (if tk tp s p = 306 + k then nI 1 else nI 0))) (n, t, sh, I, L, R) := by
  obtain ⟨d, rfl⟩ : ∃ e, d = e + 1 := ⟨d - 1, by omega⟩
  have m0 := mm_0 hM
  obtain ⟨h1, h2, h3, h4, h5, h6⟩ := hP
  have hT := tk_lt (tp := tp) (s := s) (p := p)
  have h24 := h1.2.2.2.1
  have hlt := tkM_lt (T := tk tp s p)
  by_cases hs : 306 ≤ tk tp s p
  · have e4 := (tkM_3 hT).mpr hs
    have h25 := h1.2.2.2.2 (by omega) (by omega)
    have ew : woM (tk tp s p) (nv tp s p) = tk tp s p - 306 := by unfold woM; rw [if_neg (by omega), if_neg (by omega), if_neg (by omega)]
    rw [ew] at h25
    by_cases hc : tk tp s p = 306 + k
    · have hc2 : tk tp s p - 306 = k := by omega
      rw [e4] at h24
      rw [hc2] at h25
      rw [if_pos hc]
      simp (disch := first | assumption | exact ct_i | exact ct_r | exact ct_n | exact ct_h | omega | exact z_in (by omega) (by omega) | exact b01 | exact Or.inl rfl | exact Or.inr rfl) only [b144, e144_0, e144_1, e144_4, e144_7, e144_8, e144_11, e144_12, e144_15, e144_16, e144_19, e144_20, e144_23, e144_24, e144_27, e144_28, ct_i, ct_r, ct_n, ct_h, opt_v, opt_s, ref_s, ref_n, eq_self_iff_true, true_or, or_true, zl0, zl1, zl2, zl3, zl4, zl5, zl6, zl7, zl8, zl9, zl10, zl16, zl32, zl40, zl100, zl160, zIc1, zI_lt, zI_le, nI_eq, nI_add, z_sub, nI_clamp, zI_of, uu_eq, uu_ne, Nat.reduceLT, Nat.reduceLeDiff, Nat.reduceEqDiff, Nat.reduceAdd, Nat.reduceSub, Nat.reduceMul, Nat.not_lt_zero, Nat.lt_irrefl, Nat.le_refl, Bool.false_eq_true, false_and, and_false, true_and, and_true, if_pos, if_neg, if_true, if_false, not_true_eq_false, not_false_eq_true, m0, h3, h24, h25]
    · have hc2 : ¬ tk tp s p - 306 = k := by omega
      rw [e4] at h24
      simp (disch := first | assumption | exact ct_i | exact ct_r | exact ct_n | exact ct_h | omega | exact z_in (by omega) (by omega) | exact b01 | exact Or.inl rfl | exact Or.inr rfl) only [b144, e144_0, e144_1, e144_4, e144_7, e144_8, e144_11, e144_12, e144_15, e144_16, e144_19, e144_20, e144_23, e144_24, e144_27, e144_28, ct_i, ct_r, ct_n, ct_h, opt_v, opt_s, ref_s, ref_n, eq_self_iff_true, true_or, or_true, zl0, zl1, zl2, zl3, zl4, zl5, zl6, zl7, zl8, zl9, zl10, zl16, zl32, zl40, zl100, zl160, zIc1, zI_lt, zI_le, nI_eq, nI_add, z_sub, nI_clamp, zI_of, uu_eq, uu_ne, Nat.reduceLT, Nat.reduceLeDiff, Nat.reduceEqDiff, Nat.reduceAdd, Nat.reduceSub, Nat.reduceMul, Nat.not_lt_zero, Nat.lt_irrefl, Nat.le_refl, Bool.false_eq_true, false_and, and_false, true_and, and_true, if_pos, if_neg, if_true, if_false, not_true_eq_false, not_false_eq_true, m0, h3, h24, h25, hc, hc2]
  · have e4 : ¬ tkM (tk tp s p) = 3 := fun h => hs ((tkM_3 hT).mp h)
    have hc : ¬ tk tp s p = 306 + k := by omega
    simp (disch := first | assumption | exact ct_i | exact ct_r | exact ct_n | exact ct_h | omega | exact z_in (by omega) (by omega) | exact b01 | exact Or.inl rfl | exact Or.inr rfl) only [b144, e144_0, e144_1, e144_4, e144_7, e144_8, e144_11, e144_12, e144_15, e144_16, e144_19, e144_20, e144_23, e144_24, e144_27, e144_28, ct_i, ct_r, ct_n, ct_h, opt_v, opt_s, ref_s, ref_n, eq_self_iff_true, true_or, or_true, zl0, zl1, zl2, zl3, zl4, zl5, zl6, zl7, zl8, zl9, zl10, zl16, zl32, zl40, zl100, zl160, zIc1, zI_lt, zI_le, nI_eq, nI_add, z_sub, nI_clamp, zI_of, uu_eq, uu_ne, Nat.reduceLT, Nat.reduceLeDiff, Nat.reduceEqDiff, Nat.reduceAdd, Nat.reduceSub, Nat.reduceMul, Nat.not_lt_zero, Nat.lt_irrefl, Nat.le_refl, Bool.false_eq_true, false_and, and_false, true_and, and_true, if_pos, if_neg, if_true, if_false, not_true_eq_false, not_false_eq_true, m0, h3, h24, e4, hc]
theorem k144w (hd : 1 ≤ d) (hM : mK sh R) {e : Nat} (hP : pW i p e I0 I) {v : Int32} : aC d 144 [.ref 0, .int v] (n, t, sh, I, L, R) Q ↔ Q (some (.int (nI 0))) (n, t, sh, I, L, R) := by
  obtain ⟨d, rfl⟩ : ∃ e, d = e + 1 := ⟨d - 1, by omega⟩
  have m0 := mm_0 hM
  have h1 := hP.1
  simp (disch := first | assumption | exact ct_i | exact ct_r | exact ct_n | exact ct_h | omega | exact z_in (by omega) (by omega) | exact b01 | exact Or.inl rfl | exact Or.inr rfl) only [b144, e144_0, e144_1, e144_4, e144_7, e144_8, e144_11, e144_12, e144_15, e144_16, e144_19, e144_20, e144_23, e144_24, e144_27, e144_28, ct_i, ct_r, ct_n, ct_h, opt_v, opt_s, ref_s, ref_n, eq_self_iff_true, true_or, or_true, zl0, zl1, zl2, zl3, zl4, zl5, zl6, zl7, zl8, zl9, zl10, zl16, zl32, zl40, zl100, zl160, zIc1, zI_lt, zI_le, nI_eq, nI_add, z_sub, nI_clamp, zI_of, uu_eq, uu_ne, Nat.reduceLT, Nat.reduceLeDiff, Nat.reduceEqDiff, Nat.reduceAdd, Nat.reduceSub, Nat.reduceMul, Nat.not_lt_zero, Nat.lt_irrefl, Nat.le_refl, Bool.false_eq_true, false_and, and_false, true_and, and_true, if_pos, if_neg, if_true, if_false, not_true_eq_false, not_false_eq_true, m0, h1]
theorem k145p (hd : 1 ≤ d) (hM : mK sh R) (hP : pO tp s i o p c I0 I) (H : ∀ I', pW i p c.length I0 I' → Q none (n, t, sh, I', L, R)) : aC d 145 [.ref 0] (n, t, sh, I, L, R) Q := by
  obtain ⟨d, rfl⟩ : ∃ e, d = e + 1 := ⟨d - 1, by omega⟩
  have m0 := mm_0 hM
  obtain ⟨h1, h2, h3, h4, h5, h6⟩ := hP
  have h22 := h1.2.2.1
  have hb1 : nI 1 = 0 ∨ nI 1 = 1 := Or.inr rfl
  simp (disch := first | assumption | exact ct_i | exact ct_r | exact ct_n | exact ct_h | omega | exact z_in (by omega) (by omega) | exact b01 | exact Or.inl rfl | exact Or.inr rfl) only [b145, e145_0, e145_1, e145_4, e145_7, e145_8, e145_9, e145_12, e145_13, e145_14, e145_17, e145_20, ct_i, ct_r, ct_n, ct_h, opt_v, opt_s, ref_s, ref_n, eq_self_iff_true, true_or, or_true, zl0, zl1, zl2, zl3, zl4, zl5, zl6, zl7, zl8, zl9, zl10, zl16, zl32, zl40, zl100, zl160, zIc1, zI_lt, zI_le, nI_eq, nI_add, z_sub, nI_clamp, zI_of, uu_eq, uu_ne, Nat.reduceLT, Nat.reduceLeDiff, Nat.reduceEqDiff, Nat.reduceAdd, Nat.reduceSub, Nat.reduceMul, Nat.not_lt_zero, Nat.lt_irrefl, Nat.le_refl, Bool.false_eq_true, false_and, and_false, true_and, and_true, if_pos, if_neg, if_true, if_false, not_true_eq_false, not_false_eq_true, m0, h3, h22]
  refine H _ ⟨?_, ?_, ?_, frN_u (frN_u h6 (by omega)) (by omega)⟩
  · simp (disch := omega) only [uu_ne, uu_eq]
  · rw [uu_eq]
  · simp (disch := omega) only [uu_ne]; exact h4.1
theorem k145w (hd : 1 ≤ d) (hM : mK sh R) {e : Nat} (hP : pW i p e I0 I) (H : Q none (n, t, sh, I, L, R)) : aC d 145 [.ref 0] (n, t, sh, I, L, R) Q := by
  obtain ⟨d, rfl⟩ : ∃ e, d = e + 1 := ⟨d - 1, by omega⟩
  have m0 := mm_0 hM
  have h1 := hP.1
  simp (disch := first | assumption | exact ct_i | exact ct_r | exact ct_n | exact ct_h | omega | exact z_in (by omega) (by omega) | exact b01 | exact Or.inl rfl | exact Or.inr rfl) only [b145, e145_0, e145_1, e145_4, e145_7, e145_8, e145_9, e145_12, e145_13, e145_14, e145_17, e145_20, ct_i, ct_r, ct_n, ct_h, opt_v, opt_s, ref_s, ref_n, eq_self_iff_true, true_or, or_true, zl0, zl1, zl2, zl3, zl4, zl5, zl6, zl7, zl8, zl9, zl10, zl16, zl32, zl40, zl100, zl160, zIc1, zI_lt, zI_le, nI_eq, nI_add, z_sub, nI_clamp, zI_of, uu_eq, uu_ne, Nat.reduceLT, Nat.reduceLeDiff, Nat.reduceEqDiff, Nat.reduceAdd, Nat.reduceSub, Nat.reduceMul, Nat.not_lt_zero, Nat.lt_irrefl, Nat.le_refl, Bool.false_eq_true, false_and, and_false, true_and, and_true, if_pos, if_neg, if_true, if_false, not_true_eq_false, not_false_eq_true, m0, h1]
  exact H
theorem pO_op {o' : Nat} (hP : pO tp s i o p c I0 I) : pO tp s i o' p c I0 (u2 I 0 26 (nI o')) := by
  obtain ⟨h1, h2, h3, h4, h5, h6⟩ := hP
  refine ⟨⟨h1.1, ?_, ?_, ?_, fun g1 g2 => ?_⟩, ⟨h2.1, ⟨?_, fun k hk => ?_⟩, fun j hj => ?_⟩, ?_, ⟨?_, fun j hj => ?_⟩, uu_eq _ _ _ _, frN_u h6 (by omega)⟩
  · rw [uu_ne _ _ _ _ (by omega)]; exact h1.2.1
  · rw [uu_ne _ _ _ _ (by omega)]; exact h1.2.2.1
  · rw [uu_ne _ _ _ _ (by omega)]; exact h1.2.2.2.1
  · rw [uu_ne _ _ _ _ (by omega)]; exact h1.2.2.2.2 g1 g2
  · rw [uu_ne _ _ _ _ (by omega)]; exact h2.2.1.1
  · rw [uu_ne _ _ _ _ (by omega)]; exact h2.2.1.2 k hk
  · rw [uu_ne _ _ _ _ (by omega)]; exact h2.2.2 j hj
  · rw [uu_ne _ _ _ _ (by omega)]; exact h3
  · rw [uu_ne _ _ _ _ (by omega)]; exact h4.1
  · rw [uu_ne _ _ _ _ (by omega)]; exact h4.2 j hj
theorem pW_op {e : Nat} {v : Int32} (hP : pW i p e I0 I) : pW i p e I0 (u2 I 0 26 v) := by
  obtain ⟨h1, h2, h3, h4⟩ := hP
  refine ⟨?_, ?_, ?_, frN_u h4 (by omega)⟩ <;> rw [uu_ne _ _ _ _ (by omega)] <;> assumption
theorem k149p (hd : 5 ≤ d) (hM : mK sh R) (hP : pO tp s i o p c I0 I) (ho : o < 5) (H : ∀ I', pO tp s i (o + 1) (nx tp s p) c I0 I' → Q (some (.int (nI 1))) (n, t, sh, I', L, R)) : aC d 149 [.ref 0] (n, t, sh, I, L, R) Q := by
  obtain ⟨d, rfl⟩ : ∃ e, d = e + 1 := ⟨d - 1, by omega⟩
  have m0 := mm_0 hM
  have h5 := hP.2.2.2.2.1
  have hb1 : nI 1 = 0 ∨ nI 1 = 1 := Or.inr rfl
  have ho5 : ¬ o = 5 := by omega
  simp (disch := first | assumption | exact ct_i | exact ct_r | exact ct_n | exact ct_h | omega | exact z_in (by omega) (by omega) | exact b01 | exact Or.inl rfl | exact Or.inr rfl) only [b149, e149_0, e149_1, e149_4, e149_5, e149_8, e149_9, e149_12, e149_13, e149_14, e149_15, e149_16, e149_19, e149_20, e149_21, e149_24, e149_25, e149_28, e149_29, ct_i, ct_r, ct_n, ct_h, opt_v, opt_s, ref_s, ref_n, eq_self_iff_true, true_or, or_true, zl0, zl1, zl2, zl3, zl4, zl5, zl6, zl7, zl8, zl9, zl10, zl16, zl32, zl40, zl100, zl160, zIc1, zI_lt, zI_le, nI_eq, nI_add, z_sub, nI_clamp, zI_of, uu_eq, uu_ne, Nat.reduceLT, Nat.reduceLeDiff, Nat.reduceEqDiff, Nat.reduceAdd, Nat.reduceSub, Nat.reduceMul, Nat.not_lt_zero, Nat.lt_irrefl, Nat.le_refl, Bool.false_eq_true, false_and, and_false, true_and, and_true, if_pos, if_neg, if_true, if_false, not_true_eq_false, not_false_eq_true, m0, h5, ho5]
  refine k138p (by omega) hM (pO_op hP) (fun I' hP' => ?_)
  simp (disch := first | assumption | exact ct_i | exact ct_r | exact ct_n | exact ct_h | omega | exact z_in (by omega) (by omega) | exact b01 | exact Or.inl rfl | exact Or.inr rfl) only [e149_0, e149_1, e149_4, e149_5, e149_8, e149_9, e149_12, e149_13, e149_14, e149_15, e149_16, e149_19, e149_20, e149_21, e149_24, e149_25, e149_28, e149_29, ct_i, ct_r, ct_n, ct_h, opt_v, opt_s, ref_s, ref_n, eq_self_iff_true, true_or, or_true, zl0, zl1, zl2, zl3, zl4, zl5, zl6, zl7, zl8, zl9, zl10, zl16, zl32, zl40, zl100, zl160, zIc1, zI_lt, zI_le, nI_eq, nI_add, z_sub, nI_clamp, zI_of, uu_eq, uu_ne, Nat.reduceLT, Nat.reduceLeDiff, Nat.reduceEqDiff, Nat.reduceAdd, Nat.reduceSub, Nat.reduceMul, Nat.not_lt_zero, Nat.lt_irrefl, Nat.le_refl, Bool.false_eq_true, false_and, and_false, true_and, and_true, if_pos, if_neg, if_true, if_false, not_true_eq_false, not_false_eq_true]
  exact H I' hP'
theorem k149w (hd : 2 ≤ d) (hM : mK sh R) (hP : pO tp s i 5 p c I0 I) (H : ∀ I', pW i p c.length I0 I' → Q (some (.int (nI 0))) (n, t, sh, I', L, R)) : aC d 149 [.ref 0] (n, t, sh, I, L, R) Q := by
  obtain ⟨d, rfl⟩ : ∃ e, d = e + 1 := ⟨d - 1, by omega⟩
  have m0 := mm_0 hM
  have h5 := hP.2.2.2.2.1
  simp (disch := first | assumption | exact ct_i | exact ct_r | exact ct_n | exact ct_h | omega | exact z_in (by omega) (by omega) | exact b01 | exact Or.inl rfl | exact Or.inr rfl) only [b149, e149_0, e149_1, e149_4, e149_5, e149_8, e149_9, e149_12, e149_13, e149_14, e149_15, e149_16, e149_19, e149_20, e149_21, e149_24, e149_25, e149_28, e149_29, ct_i, ct_r, ct_n, ct_h, opt_v, opt_s, ref_s, ref_n, eq_self_iff_true, true_or, or_true, zl0, zl1, zl2, zl3, zl4, zl5, zl6, zl7, zl8, zl9, zl10, zl16, zl32, zl40, zl100, zl160, zIc1, zI_lt, zI_le, nI_eq, nI_add, z_sub, nI_clamp, zI_of, uu_eq, uu_ne, Nat.reduceLT, Nat.reduceLeDiff, Nat.reduceEqDiff, Nat.reduceAdd, Nat.reduceSub, Nat.reduceMul, Nat.not_lt_zero, Nat.lt_irrefl, Nat.le_refl, Bool.false_eq_true, false_and, and_false, true_and, and_true, if_pos, if_neg, if_true, if_false, not_true_eq_false, not_false_eq_true, m0, h5]
  refine k145p (by omega) hM hP (fun I' hP' => ?_)
  simp (disch := first | assumption | exact ct_i | exact ct_r | exact ct_n | exact ct_h | omega | exact z_in (by omega) (by omega) | exact b01 | exact Or.inl rfl | exact Or.inr rfl) only [e149_0, e149_1, e149_4, e149_5, e149_8, e149_9, e149_12, e149_13, e149_14, e149_15, e149_16, e149_19, e149_20, e149_21, e149_24, e149_25, e149_28, e149_29, ct_i, ct_r, ct_n, ct_h, opt_v, opt_s, ref_s, ref_n, eq_self_iff_true, true_or, or_true, zl0, zl1, zl2, zl3, zl4, zl5, zl6, zl7, zl8, zl9, zl10, zl16, zl32, zl40, zl100, zl160, zIc1, zI_lt, zI_le, nI_eq, nI_add, z_sub, nI_clamp, zI_of, uu_eq, uu_ne, Nat.reduceLT, Nat.reduceLeDiff, Nat.reduceEqDiff, Nat.reduceAdd, Nat.reduceSub, Nat.reduceMul, Nat.not_lt_zero, Nat.lt_irrefl, Nat.le_refl, Bool.false_eq_true, false_and, and_false, true_and, and_true, if_pos, if_neg, if_true, if_false, not_true_eq_false, not_false_eq_true]
  exact H I' hP'
end
