/-! the class's reader does the pure reading -/
def frP (i : Nat) (I0 I : Nat → Nat → Int32) : Prop := ∀ x k, ¬ (x = 11 ∧ 2 ≤ k ∧ k ≤ 5 ∨ x = 23 + 4 * i ∧ k = 3 ∨ x = 24 + 4 * i) → I x k = I0 x k
def cdC (i : Nat) (c : List Nat) (I : Nat → Nat → Int32) : Prop := I (23 + 4 * i) 3 = nI c.length ∧ ∀ j, j < c.length → I (24 + 4 * i) j = cCell (c.getD j 0)
def rP (tp : Nat → Nat) (s i p : Nat) (c : List Nat) (I0 I : Nat → Nat → Int32) : Prop := rS tp s p I ∧ tpC tp s I ∧ cdC i c I ∧ frP i I0 I
def mdC (lv : Nat) : Nat := if lv = 0 then 35 else if lv = 2 then 36 else if lv = 8 then 37 else if lv = 9 then 38 else if lv = 4 then 39 else if lv = 6 then 40 else 41
def kD (lv : Nat) : Nat := if lv = 0 then 6 else if lv = 2 then 5 else if lv = 8 then 4 else if lv = 9 then 3 else if lv = 4 then 2 else if lv = 6 then 1 else 0
theorem opc_0 {t k : Nat} (h : opc 0 t = some k) : t = 309 ∧ k = 10008 := by
  by_cases ht : t = 309
  · subst ht; exact ⟨rfl, (Option.some.inj h).symm⟩
  · simp [opc, ht] at h
theorem opc_2 {t k : Nat} (h : opc 2 t = some k) : t = 310 ∧ k = 10009 := by
  by_cases ht : t = 310
  · subst ht; exact ⟨rfl, (Option.some.inj h).symm⟩
  · simp [opc, ht] at h
theorem opc_4 {t k : Nat} (h : opc 4 t = some k) : t = 43 ∧ k = 10012 ∨ t = 45 ∧ k = 10013 := by
  by_cases ht : t = 43
  · subst ht; exact Or.inl ⟨rfl, (Option.some.inj h).symm⟩
  · by_cases ht2 : t = 45
    · subst ht2; exact Or.inr ⟨rfl, (Option.some.inj h).symm⟩
    · simp [opc, ht, ht2] at h
theorem opc_6 {t k : Nat} (h : opc 6 t = some k) : t = 42 ∧ k = 10014 := by
  by_cases ht : t = 42
  · subst ht; exact ⟨rfl, (Option.some.inj h).symm⟩
  · simp [opc, ht] at h
theorem opc_0n {t : Nat} (h : opc 0 t = none) : ¬ t = 309 := fun ht => by subst ht; cases h
theorem opc_2n {t : Nat} (h : opc 2 t = none) : ¬ t = 310 := fun ht => by subst ht; cases h
theorem opc_4n {t : Nat} (h : opc 4 t = none) : ¬ t = 43 ∧ ¬ t = 45 := ⟨(fun ht => by subst ht; cases h), (fun ht => by subst ht; cases h)⟩
theorem opc_6n {t : Nat} (h : opc 6 t = none) : ¬ t = 42 := fun ht => by subst ht; cases h
section
variable {tp : Nat → Nat} {s d nd i p : Nat} {c : List Nat} {n t : Nat} {sh : Nat → Nat × Nat} {I0 I : Nat → Nat → Int32} {L : Nat → Nat → Int64} {R : Nat → Nat → Option Nat} {Q : Option Value → aH → Prop}
theorem frP_G (hi : i < 6) {I' : Nat → Nat → Int32} (h : frP i I0 I) (f : frG I I') : frP i I0 I' := fun x k hx => (f x k (by omega)).trans (h x k hx)
theorem cdC_G (hi : i < 6) {I' : Nat → Nat → Int32} (h : cdC i c I) (f : frG I I') : cdC i c I' := ⟨(f _ _ (by omega)).trans h.1, fun j hj => (f _ _ (by omega)).trans (h.2 j hj)⟩
theorem k27p (hd : 9 ≤ d) (hK : cK nd sh R) (hs : ∀ x, 1000000 ≤ x → sh x = (999, 0)) (hi : i < 6) (hP : rP tp s i p c I0 I) (H : ∀ I', rP tp s i (nx tp s p) c I0 I' → Q none (n, t, sh, I', L, R)) : aC d 27 [.ref 11] (n, t, sh, I, L, R) Q :=
  k27 hd hK hs hP.2.1 (te_le hP.1.1) hP.1.2.1 (fun I' f r => H I' ⟨r, tpC_frG hP.2.1 f, cdC_G hi hP.2.2.1 f, frP_G hi hP.2.2.2 f⟩)
theorem getD_app1 {a : List Nat} {k j : Nat} (h : j < a.length) : (a ++ [k]).getD j 0 = a.getD j 0 := by
  rw [List.getD_eq_getElem?_getD, List.getD_eq_getElem?_getD, List.getElem?_append_left h]
theorem getD_app2 {a : List Nat} {k : Nat} : (a ++ [k]).getD a.length 0 = k := by
  rw [List.getD_eq_getElem?_getD, List.getElem?_append_right (Nat.le_refl _), Nat.sub_self]; rfl
theorem k70p (hd : 1 ≤ d) (hK : cK nd sh R) (hi : i < 6) (hP : rP tp s i p c I0 I) (hl : c.length < 160) {k : Nat} {v : Int32} (hv : v = cCell k) (H : ∀ I', rP tp s i p (c ++ [k]) I0 I' → Q none (n, t, sh, I', L, R)) : aC d 70 [.ref (23 + 4 * i), .int v] (n, t, sh, I, L, R) Q := by
  obtain ⟨h1, h2, h3, h4⟩ := hP
  rw [k70 hd (cPt hK hi) h3.1 hl]
  refine H _ ⟨?_, ?_, ⟨?_, fun j hj => ?_⟩, fun x k hx => ?_⟩
  · obtain ⟨r1, r2, r3, r4, r5⟩ := h1
    refine ⟨r1, ?_, ?_, ?_, fun h => ?_⟩ <;> simp (disch := omega) only [uu_ne]
    · exact r2
    · exact r3
    · exact r4
    · exact r5 h
  · obtain ⟨r1, r2, r3, r4⟩ := h2
    refine ⟨r1, r2, ?_, fun k hk => ?_⟩ <;> simp (disch := omega) only [uu_ne]
    · exact r3
    · exact r4 k hk
  · rw [uu_eq, List.length_append, List.length_singleton]
  · rw [List.length_append, List.length_singleton] at hj
    rw [uu_ne _ _ _ _ (by omega)]
    by_cases he : j = c.length
    · subst he; rw [uu_eq, getD_app2, hv]
    · rw [uu_ne _ _ _ _ (by omega), getD_app1 (by omega)]; exact h3.2 j (by omega)
  · simp (disch := omega) only [uu_ne]; exact h4 x k hx
end
section
variable (tp : Nat → Nat) (s i : Nat) (n t : Nat) (sh : Nat → Nat × Nat) (I0 : Nat → Nat → Int32) (L : Nat → Nat → Int64) (R : Nat → Nat → Option Nat)
def CGc (lv o p : Nat) (c : List Nat) (b : Bool) (p1 : Nat) (c1 : List Nat) : Prop := ∀ d I Q, 12 * (5 - o) + 10 + kD lv ≤ d → c.length ≤ p → rP tp s i p c I0 I → (∀ I', rP tp s i p1 c1 I0 I' → Q (some (.int (if b = true then nI 1 else nI 0))) (n, t, sh, I', L, R)) →
  aC d (mdC lv) [.ref 11, .ref (23 + 4 * i), .int (nI o)] (n, t, sh, I, L, R) Q
def CGl (lv o p : Nat) (c : List Nat) (b : Bool) (p1 : Nat) (c1 : List Nat) : Prop := ∀ d I Q j l4, 12 * (5 - o) + 9 + kD (lv - 1) ≤ d → c.length ≤ p → j ≤ p → rP tp s i p c I0 I → (∀ I', rP tp s i p1 c1 I0 I' → Q (some (.int (if b = true then nI 1 else nI 0))) (n, t, sh, I', L, R)) →
  aE (a_cl_ d) (mdC (lv - 1)) (13, .ref 11 :: .ref (23 + 4 * i) :: .int (nI o) :: .int (nI j) :: (if lv = 5 then [l4] else []), [], (n, t, sh, I, L, R)) Q
def CG (lv o p : Nat) (c : List Nat) (b : Bool) (p1 : Nat) (c1 : List Nat) : Prop := o ≤ 5 → if lv % 2 = 1 ∧ lv < 8 then CGl tp s i n t sh I0 L R lv o p c b p1 c1 else CGc tp s i n t sh I0 L R lv o p c b p1 c1
end
section
variable {tp : Nat → Nat} {s i nd : Nat} {n t : Nat} {sh : Nat → Nat × Nat} {I0 : Nat → Nat → Int32} {L : Nat → Nat → Int64} {R : Nat → Nat → Option Nat}
theorem CG_c {lv o p : Nat} {c : List Nat} {b : Bool} {p1 : Nat} {c1 : List Nat} (h : ¬ (lv % 2 = 1 ∧ lv < 8)) : CG tp s i n t sh I0 L R lv o p c b p1 c1 ↔ (o ≤ 5 → CGc tp s i n t sh I0 L R lv o p c b p1 c1) := by unfold CG; rw [if_neg h]
theorem CG_l {lv o p : Nat} {c : List Nat} {b : Bool} {p1 : Nat} {c1 : List Nat} (h : lv % 2 = 1 ∧ lv < 8) : CG tp s i n t sh I0 L R lv o p c b p1 c1 ↔ (o ≤ 5 → CGl tp s i n t sh I0 L R lv o p c b p1 c1) := by unfold CG; rw [if_pos h]

theorem q1_0 (hK : cK nd sh R) (hs : ∀ x, 1000000 ≤ x → sh x = (999, 0)) (hi : i < 6) {o p : Nat} {c : List Nat} {p1 : Nat} {c1 : List Nat} {b : Bool} {p2 : Nat} {c2 : List Nat} (B : Bd s p c p1 c1) (g1 : CG tp s i n t sh I0 L R 2 o p c true p1 c1) (g2 : CG tp s i n t sh I0 L R 1 o p1 c1 b p2 c2) : CG tp s i n t sh I0 L R 0 o p c b p2 c2 := by
  rw [CG_c (by decide)] at g1 ⊢
  rw [CG_l (by decide)] at g2
  obtain ⟨s1, s2, s3, s4⟩ := cPq hK
  have sT := (cPt hK hi).1
  obtain ⟨B1, B2, B3, B4⟩ := B
  intro ho d I Q hd hc hP H
  simp only [kD, Nat.reduceEqDiff, if_true, if_false] at hd
  show aC d 35 _ _ _
  obtain ⟨d, rfl⟩ : ∃ e, d = e + 1 := ⟨d - 1, by omega⟩
  simp (disch := first | assumption | exact ct_i | exact ct_r | exact ct_n | exact ct_h | omega | exact z_in (by omega) (by omega) | exact b01 | exact Or.inl rfl | exact Or.inr rfl) only [b35, e35_0, e35_1, e35_1n, e35_2, e35_3, e35_6, e35_9, e35_10, e35_11, e35_12, e35_14, e35_17, e35_20, e35_21, e35_24, e35_27, e35_30, e35_31, e35_34, e35_35, e35_35n, e35_36, e35_37, e35_40, e35_43, e35_44, e35_45, e35_45n, e35_46, e35_48, e35_51, e35_54, e35_57, e35_58, ct_i, ct_r, ct_n, ct_h, opt_v, opt_s, ref_s, ref_n, eq_self_iff_true, true_or, or_true, s1]
  refine g1 ho d I _ (by simp only [kD, Nat.reduceEqDiff, if_true, if_false]; omega) hc hP (fun I' hP' => ?_)
  simp (disch := first | assumption | exact ct_i | exact ct_r | exact ct_n | exact ct_h | omega | exact z_in (by omega) (by omega) | exact b01 | exact Or.inl rfl | exact Or.inr rfl) only [e35_0, e35_1, e35_1n, e35_2, e35_3, e35_6, e35_9, e35_10, e35_11, e35_12, e35_14, e35_17, e35_20, e35_21, e35_24, e35_27, e35_30, e35_31, e35_34, e35_35, e35_35n, e35_36, e35_37, e35_40, e35_43, e35_44, e35_45, e35_45n, e35_46, e35_48, e35_51, e35_54, e35_57, e35_58, ct_i, ct_r, ct_n, ct_h, opt_v, opt_s, ref_s, ref_n, eq_self_iff_true, true_or, or_true, zl0, zl1, zl2, zl3, zl4, zl5, zl6, zl7, zl8, zl9, zl10, zl16, zl32, zl40, zl100, zl160, zIc1, zI_lt, zI_le, nI_eq, nI_add, z_sub, nI_clamp, zI_of, uu_eq, uu_ne, Nat.reduceLT, Nat.reduceLeDiff, Nat.reduceEqDiff, Nat.reduceAdd, Nat.reduceSub, Nat.reduceMul, Nat.not_lt_zero, Nat.lt_irrefl, Nat.le_refl, Bool.false_eq_true, false_and, and_false, true_and, and_true, if_pos, if_neg, if_true, if_false, not_true_eq_false, not_false_eq_true]
  exact g2 ho d I' Q 0 a_hole (by simp only [kD, Nat.reduceSub, Nat.reduceEqDiff, if_true, if_false]; omega) (by omega) (Nat.zero_le _) hP' H
theorem q2_0 (hK : cK nd sh R) (hs : ∀ x, 1000000 ≤ x → sh x = (999, 0)) (hi : i < 6) {o p : Nat} {c : List Nat} {p1 : Nat} {c1 : List Nat} (B : Bd s p c p1 c1) (g1 : CG tp s i n t sh I0 L R 2 o p c false p1 c1) : CG tp s i n t sh I0 L R 0 o p c false p1 c1 := by
  rw [CG_c (by decide)] at g1 ⊢
  obtain ⟨s1, s2, s3, s4⟩ := cPq hK
  have sT := (cPt hK hi).1
  obtain ⟨B1, B2, B3, B4⟩ := B
  intro ho d I Q hd hc hP H
  simp only [kD, Nat.reduceEqDiff, if_true, if_false] at hd
  show aC d 35 _ _ _
  obtain ⟨d, rfl⟩ : ∃ e, d = e + 1 := ⟨d - 1, by omega⟩
  simp (disch := first | assumption | exact ct_i | exact ct_r | exact ct_n | exact ct_h | omega | exact z_in (by omega) (by omega) | exact b01 | exact Or.inl rfl | exact Or.inr rfl) only [b35, e35_0, e35_1, e35_1n, e35_2, e35_3, e35_6, e35_9, e35_10, e35_11, e35_12, e35_14, e35_17, e35_20, e35_21, e35_24, e35_27, e35_30, e35_31, e35_34, e35_35, e35_35n, e35_36, e35_37, e35_40, e35_43, e35_44, e35_45, e35_45n, e35_46, e35_48, e35_51, e35_54, e35_57, e35_58, ct_i, ct_r, ct_n, ct_h, opt_v, opt_s, ref_s, ref_n, eq_self_iff_true, true_or, or_true, s1]
  refine g1 ho d I _ (by simp only [kD, Nat.reduceEqDiff, if_true, if_false]; omega) hc hP (fun I' hP' => ?_)
  have := H I' hP'
  simp (disch := first | assumption | exact ct_i | exact ct_r | exact ct_n | exact ct_h | omega | exact z_in (by omega) (by omega) | exact b01 | exact Or.inl rfl | exact Or.inr rfl) only [Bool.false_eq_true, if_false] at this
  simp (disch := first | assumption | exact ct_i | exact ct_r | exact ct_n | exact ct_h | omega | exact z_in (by omega) (by omega) | exact b01 | exact Or.inl rfl | exact Or.inr rfl) only [e35_0, e35_1, e35_1n, e35_2, e35_3, e35_6, e35_9, e35_10, e35_11, e35_12, e35_14, e35_17, e35_20, e35_21, e35_24, e35_27, e35_30, e35_31, e35_34, e35_35, e35_35n, e35_36, e35_37, e35_40, e35_43, e35_44, e35_45, e35_45n, e35_46, e35_48, e35_51, e35_54, e35_57, e35_58, ct_i, ct_r, ct_n, ct_h, opt_v, opt_s, ref_s, ref_n, eq_self_iff_true, true_or, or_true, zl0, zl1, zl2, zl3, zl4, zl5, zl6, zl7, zl8, zl9, zl10, zl16, zl32, zl40, zl100, zl160, zIc1, zI_lt, zI_le, nI_eq, nI_add, z_sub, nI_clamp, zI_of, uu_eq, uu_ne, Nat.reduceLT, Nat.reduceLeDiff, Nat.reduceEqDiff, Nat.reduceAdd, Nat.reduceSub, Nat.reduceMul, Nat.not_lt_zero, Nat.lt_irrefl, Nat.le_refl, Bool.false_eq_true, false_and, and_false, true_and, and_true, if_pos, if_neg, if_true, if_false, not_true_eq_false, not_false_eq_true]
  exact this
theorem q3_0 (hK : cK nd sh R) (hs : ∀ x, 1000000 ≤ x → sh x = (999, 0)) (hi : i < 6) {o p : Nat} {c : List Nat} (hop : opc 0 (tk tp s p) = none) : CG tp s i n t sh I0 L R 1 o p c true p c := by
  rw [CG_l (by decide)]
  obtain ⟨s1, s2, s3, s4⟩ := cPq hK
  have sT := (cPt hK hi).1
  have e309 : (309 : Int32) = nI 309 := rfl
  have e310 : (310 : Int32) = nI 310 := rfl
  have e311 : (311 : Int32) = nI 311 := rfl
  have e43 : (43 : Int32) = nI 43 := rfl
  have e45 : (45 : Int32) = nI 45 := rfl
  have e42 : (42 : Int32) = nI 42 := rfl
  have e60 : (60 : Int32) = nI 60 := rfl
  have e61 : (61 : Int32) = nI 61 := rfl
  have e160 : (160 : Int32) = nI 160 := rfl
  have e258 : (258 : Int32) = nI 258 := rfl
  have e300 : (300 : Int32) = nI 300 := rfl
  have e306 : (306 : Int32) = nI 306 := rfl
  have e40 : (40 : Int32) = nI 40 := rfl
  have e41 : (41 : Int32) = nI 41 := rfl
  have e5 : (5 : Int32) = nI 5 := rfl
  intro ho d I Q j l4 hd hc hj hP H
  have hT := tk_lt (tp := tp) (s := s) (p := p)
  have hn := opc_0n hop
  have h3 := hP.1.2.2.1
  have := H I hP
  simp only [if_true] at this
  have h160 := hP.2.1.1
  have hps := hP.1.1
  show aE (a_cl_ d) 35 (13, [.ref 11, .ref (23 + 4 * i), .int (nI o), .int (nI j)], [], _) Q
  rw [e35_13]
  by_cases hj2 : j < 160
  · simp (disch := first | assumption | exact ct_i | exact ct_r | exact ct_n | exact ct_h | omega | exact z_in (by omega) (by omega) | exact b01 | exact Or.inl rfl | exact Or.inr rfl) only [e35_0, e35_1, e35_1n, e35_2, e35_3, e35_6, e35_9, e35_10, e35_11, e35_12, e35_14, e35_17, e35_20, e35_21, e35_24, e35_27, e35_30, e35_31, e35_34, e35_35, e35_35n, e35_36, e35_37, e35_40, e35_43, e35_44, e35_45, e35_45n, e35_46, e35_48, e35_51, e35_54, e35_57, e35_58, ct_i, ct_r, ct_n, ct_h, opt_v, opt_s, ref_s, ref_n, eq_self_iff_true, true_or, or_true, zl0, zl1, zl2, zl3, zl4, zl5, zl6, zl7, zl8, zl9, zl10, zl16, zl32, zl40, zl100, zl160, zIc1, zI_lt, zI_le, nI_eq, nI_add, z_sub, nI_clamp, zI_of, uu_eq, uu_ne, Nat.reduceLT, Nat.reduceLeDiff, Nat.reduceEqDiff, Nat.reduceAdd, Nat.reduceSub, Nat.reduceMul, Nat.not_lt_zero, Nat.lt_irrefl, Nat.le_refl, Bool.false_eq_true, false_and, and_false, true_and, and_true, if_pos, if_neg, if_true, if_false, not_true_eq_false, not_false_eq_true, s1, h3, e309, e160, hn]
    exact this
  · simp (disch := first | assumption | exact ct_i | exact ct_r | exact ct_n | exact ct_h | omega | exact z_in (by omega) (by omega) | exact b01 | exact Or.inl rfl | exact Or.inr rfl) only [e35_0, e35_1, e35_1n, e35_2, e35_3, e35_6, e35_9, e35_10, e35_11, e35_12, e35_14, e35_17, e35_20, e35_21, e35_24, e35_27, e35_30, e35_31, e35_34, e35_35, e35_35n, e35_36, e35_37, e35_40, e35_43, e35_44, e35_45, e35_45n, e35_46, e35_48, e35_51, e35_54, e35_57, e35_58, ct_i, ct_r, ct_n, ct_h, opt_v, opt_s, ref_s, ref_n, eq_self_iff_true, true_or, or_true, zl0, zl1, zl2, zl3, zl4, zl5, zl6, zl7, zl8, zl9, zl10, zl16, zl32, zl40, zl100, zl160, zIc1, zI_lt, zI_le, nI_eq, nI_add, z_sub, nI_clamp, zI_of, uu_eq, uu_ne, Nat.reduceLT, Nat.reduceLeDiff, Nat.reduceEqDiff, Nat.reduceAdd, Nat.reduceSub, Nat.reduceMul, Nat.not_lt_zero, Nat.lt_irrefl, Nat.le_refl, Bool.false_eq_true, false_and, and_false, true_and, and_true, if_pos, if_neg, if_true, if_false, not_true_eq_false, not_false_eq_true, s1, h3, e309, e160, hn]
    exact this

theorem q4_0 (hK : cK nd sh R) (hs : ∀ x, 1000000 ≤ x → sh x = (999, 0)) (hi : i < 6) {o p : Nat} {c : List Nat} {k p1 : Nat} {c1 : List Nat} {b : Bool} {p2 : Nat} {c2 : List Nat} (hp : p ≤ s) (hop : opc 0 (tk tp s p) = some k) (B : Bd s (nx tp s p) c p1 c1) (g1 : CG tp s i n t sh I0 L R 2 o (nx tp s p) c true p1 c1) (g2 : CG tp s i n t sh I0 L R 1 o p1 (c1 ++ [k]) b p2 c2) : CG tp s i n t sh I0 L R 1 o p c b p2 c2 := by
  rw [CG_c (by decide)] at g1
  rw [CG_l (by decide)] at g2 ⊢
  obtain ⟨s1, s2, s3, s4⟩ := cPq hK
  have sT := (cPt hK hi).1
  obtain ⟨B1, B2, B3, B4⟩ := B
  have e309 : (309 : Int32) = nI 309 := rfl
  have e310 : (310 : Int32) = nI 310 := rfl
  have e311 : (311 : Int32) = nI 311 := rfl
  have e43 : (43 : Int32) = nI 43 := rfl
  have e45 : (45 : Int32) = nI 45 := rfl
  have e42 : (42 : Int32) = nI 42 := rfl
  have e60 : (60 : Int32) = nI 60 := rfl
  have e61 : (61 : Int32) = nI 61 := rfl
  have e160 : (160 : Int32) = nI 160 := rfl
  have e258 : (258 : Int32) = nI 258 := rfl
  have e300 : (300 : Int32) = nI 300 := rfl
  have e306 : (306 : Int32) = nI 306 := rfl
  have e40 : (40 : Int32) = nI 40 := rfl
  have e41 : (41 : Int32) = nI 41 := rfl
  have e5 : (5 : Int32) = nI 5 := rfl
  intro ho d I Q j l4 hd hc hj hP H
  have hlt := tk_ne (opc_ne hop).1
  have hnx := nx_gt (tp := tp) hlt
  have h3 := hP.1.2.2.1
  have h160 := hP.2.1.1
  have hj2 : j < 160 := by omega
  obtain ⟨ht, rfl⟩ := opc_0 hop
  show aE (a_cl_ d) 35 (13, [.ref 11, .ref (23 + 4 * i), .int (nI o), .int (nI j)], [], _) Q
  rw [e35_13]
  simp (disch := first | assumption | exact ct_i | exact ct_r | exact ct_n | exact ct_h | omega | exact z_in (by omega) (by omega) | exact b01 | exact Or.inl rfl | exact Or.inr rfl) only [e35_0, e35_1, e35_1n, e35_2, e35_3, e35_6, e35_9, e35_10, e35_11, e35_12, e35_14, e35_17, e35_20, e35_21, e35_24, e35_27, e35_30, e35_31, e35_34, e35_35, e35_35n, e35_36, e35_37, e35_40, e35_43, e35_44, e35_45, e35_45n, e35_46, e35_48, e35_51, e35_54, e35_57, e35_58, ct_i, ct_r, ct_n, ct_h, opt_v, opt_s, ref_s, ref_n, eq_self_iff_true, true_or, or_true, zl0, zl1, zl2, zl3, zl4, zl5, zl6, zl7, zl8, zl9, zl10, zl16, zl32, zl40, zl100, zl160, zIc1, zI_lt, zI_le, nI_eq, nI_add, z_sub, nI_clamp, zI_of, uu_eq, uu_ne, Nat.reduceLT, Nat.reduceLeDiff, Nat.reduceEqDiff, Nat.reduceAdd, Nat.reduceSub, Nat.reduceMul, Nat.not_lt_zero, Nat.lt_irrefl, Nat.le_refl, Bool.false_eq_true, false_and, and_false, true_and, and_true, if_pos, if_neg, if_true, if_false, not_true_eq_false, not_false_eq_true, s1, h3, e309, e160, ht]
  refine k27p (by simp only [kD, Nat.reduceSub, Nat.reduceEqDiff, if_true, if_false] at hd; omega) hK hs hi hP (fun I' hP' => ?_)
  simp (disch := first | assumption | exact ct_i | exact ct_r | exact ct_n | exact ct_h | omega | exact z_in (by omega) (by omega) | exact b01 | exact Or.inl rfl | exact Or.inr rfl) only [e35_0, e35_1, e35_1n, e35_2, e35_3, e35_6, e35_9, e35_10, e35_11, e35_12, e35_14, e35_17, e35_20, e35_21, e35_24, e35_27, e35_30, e35_31, e35_34, e35_35, e35_35n, e35_36, e35_37, e35_40, e35_43, e35_44, e35_45, e35_45n, e35_46, e35_48, e35_51, e35_54, e35_57, e35_58, ct_i, ct_r, ct_n, ct_h, opt_v, opt_s, ref_s, ref_n, eq_self_iff_true, true_or, or_true, zl0, zl1, zl2, zl3, zl4, zl5, zl6, zl7, zl8, zl9, zl10, zl16, zl32, zl40, zl100, zl160, zIc1, zI_lt, zI_le, nI_eq, nI_add, z_sub, nI_clamp, zI_of, uu_eq, uu_ne, Nat.reduceLT, Nat.reduceLeDiff, Nat.reduceEqDiff, Nat.reduceAdd, Nat.reduceSub, Nat.reduceMul, Nat.not_lt_zero, Nat.lt_irrefl, Nat.le_refl, Bool.false_eq_true, false_and, and_false, true_and, and_true, if_pos, if_neg, if_true, if_false, not_true_eq_false, not_false_eq_true, s1]
  refine g1 ho d I' _ (by simp only [kD, Nat.reduceSub, Nat.reduceEqDiff, if_true, if_false] at hd ⊢; omega) (by omega) hP' (fun I2 hP2 => ?_)
  simp (disch := first | assumption | exact ct_i | exact ct_r | exact ct_n | exact ct_h | omega | exact z_in (by omega) (by omega) | exact b01 | exact Or.inl rfl | exact Or.inr rfl) only [e35_0, e35_1, e35_1n, e35_2, e35_3, e35_6, e35_9, e35_10, e35_11, e35_12, e35_14, e35_17, e35_20, e35_21, e35_24, e35_27, e35_30, e35_31, e35_34, e35_35, e35_35n, e35_36, e35_37, e35_40, e35_43, e35_44, e35_45, e35_45n, e35_46, e35_48, e35_51, e35_54, e35_57, e35_58, ct_i, ct_r, ct_n, ct_h, opt_v, opt_s, ref_s, ref_n, eq_self_iff_true, true_or, or_true, zl0, zl1, zl2, zl3, zl4, zl5, zl6, zl7, zl8, zl9, zl10, zl16, zl32, zl40, zl100, zl160, zIc1, zI_lt, zI_le, nI_eq, nI_add, z_sub, nI_clamp, zI_of, uu_eq, uu_ne, Nat.reduceLT, Nat.reduceLeDiff, Nat.reduceEqDiff, Nat.reduceAdd, Nat.reduceSub, Nat.reduceMul, Nat.not_lt_zero, Nat.lt_irrefl, Nat.le_refl, Bool.false_eq_true, false_and, and_false, true_and, and_true, if_pos, if_neg, if_true, if_false, not_true_eq_false, not_false_eq_true, s1]
  refine k70p (show 1 ≤ d by omega) hK hi hP2 (show c1.length < 160 by omega) (show -nI 9 = cCell 10008 by decide) (fun I3 hP3 => ?_)
  simp (disch := first | assumption | exact ct_i | exact ct_r | exact ct_n | exact ct_h | omega | exact z_in (by omega) (by omega) | exact b01 | exact Or.inl rfl | exact Or.inr rfl) only [e35_0, e35_1, e35_1n, e35_2, e35_3, e35_6, e35_9, e35_10, e35_11, e35_12, e35_14, e35_17, e35_20, e35_21, e35_24, e35_27, e35_30, e35_31, e35_34, e35_35, e35_35n, e35_36, e35_37, e35_40, e35_43, e35_44, e35_45, e35_45n, e35_46, e35_48, e35_51, e35_54, e35_57, e35_58, ct_i, ct_r, ct_n, ct_h, opt_v, opt_s, ref_s, ref_n, eq_self_iff_true, true_or, or_true, zl0, zl1, zl2, zl3, zl4, zl5, zl6, zl7, zl8, zl9, zl10, zl16, zl32, zl40, zl100, zl160, zIc1, zI_lt, zI_le, nI_eq, nI_add, z_sub, nI_clamp, zI_of, uu_eq, uu_ne, Nat.reduceLT, Nat.reduceLeDiff, Nat.reduceEqDiff, Nat.reduceAdd, Nat.reduceSub, Nat.reduceMul, Nat.not_lt_zero, Nat.lt_irrefl, Nat.le_refl, Bool.false_eq_true, false_and, and_false, true_and, and_true, if_pos, if_neg, if_true, if_false, not_true_eq_false, not_false_eq_true, s1]
  exact g2 ho d I3 Q (j + 1) a_hole hd (by rw [List.length_append, List.length_singleton]; omega) (by omega) hP3 H

theorem q5_0 (hK : cK nd sh R) (hs : ∀ x, 1000000 ≤ x → sh x = (999, 0)) (hi : i < 6) {o p : Nat} {c : List Nat} {k p1 : Nat} {c1 : List Nat} (hp : p ≤ s) (hop : opc 0 (tk tp s p) = some k) (B : Bd s (nx tp s p) c p1 c1) (g1 : CG tp s i n t sh I0 L R 2 o (nx tp s p) c false p1 c1) : CG tp s i n t sh I0 L R 1 o p c false p1 c1 := by
  rw [CG_c (by decide)] at g1
  rw [CG_l (by decide)]
  obtain ⟨s1, s2, s3, s4⟩ := cPq hK
  have sT := (cPt hK hi).1
  obtain ⟨B1, B2, B3, B4⟩ := B
  have e309 : (309 : Int32) = nI 309 := rfl
  have e310 : (310 : Int32) = nI 310 := rfl
  have e311 : (311 : Int32) = nI 311 := rfl
  have e43 : (43 : Int32) = nI 43 := rfl
  have e45 : (45 : Int32) = nI 45 := rfl
  have e42 : (42 : Int32) = nI 42 := rfl
  have e60 : (60 : Int32) = nI 60 := rfl
  have e61 : (61 : Int32) = nI 61 := rfl
  have e160 : (160 : Int32) = nI 160 := rfl
  have e258 : (258 : Int32) = nI 258 := rfl
  have e300 : (300 : Int32) = nI 300 := rfl
  have e306 : (306 : Int32) = nI 306 := rfl
  have e40 : (40 : Int32) = nI 40 := rfl
  have e41 : (41 : Int32) = nI 41 := rfl
  have e5 : (5 : Int32) = nI 5 := rfl
  intro ho d I Q j l4 hd hc hj hP H
  have hlt := tk_ne (opc_ne hop).1
  have hnx := nx_gt (tp := tp) hlt
  have h3 := hP.1.2.2.1
  have h160 := hP.2.1.1
  have hj2 : j < 160 := by omega
  obtain ⟨ht, rfl⟩ := opc_0 hop
  show aE (a_cl_ d) 35 (13, [.ref 11, .ref (23 + 4 * i), .int (nI o), .int (nI j)], [], _) Q
  rw [e35_13]
  simp (disch := first | assumption | exact ct_i | exact ct_r | exact ct_n | exact ct_h | omega | exact z_in (by omega) (by omega) | exact b01 | exact Or.inl rfl | exact Or.inr rfl) only [e35_0, e35_1, e35_1n, e35_2, e35_3, e35_6, e35_9, e35_10, e35_11, e35_12, e35_14, e35_17, e35_20, e35_21, e35_24, e35_27, e35_30, e35_31, e35_34, e35_35, e35_35n, e35_36, e35_37, e35_40, e35_43, e35_44, e35_45, e35_45n, e35_46, e35_48, e35_51, e35_54, e35_57, e35_58, ct_i, ct_r, ct_n, ct_h, opt_v, opt_s, ref_s, ref_n, eq_self_iff_true, true_or, or_true, zl0, zl1, zl2, zl3, zl4, zl5, zl6, zl7, zl8, zl9, zl10, zl16, zl32, zl40, zl100, zl160, zIc1, zI_lt, zI_le, nI_eq, nI_add, z_sub, nI_clamp, zI_of, uu_eq, uu_ne, Nat.reduceLT, Nat.reduceLeDiff, Nat.reduceEqDiff, Nat.reduceAdd, Nat.reduceSub, Nat.reduceMul, Nat.not_lt_zero, Nat.lt_irrefl, Nat.le_refl, Bool.false_eq_true, false_and, and_false, true_and, and_true, if_pos, if_neg, if_true, if_false, not_true_eq_false, not_false_eq_true, s1, h3, e309, e160, ht]
  refine k27p (by simp only [kD, Nat.reduceSub, Nat.reduceEqDiff, if_true, if_false] at hd; omega) hK hs hi hP (fun I' hP' => ?_)
  simp (disch := first | assumption | exact ct_i | exact ct_r | exact ct_n | exact ct_h | omega | exact z_in (by omega) (by omega) | exact b01 | exact Or.inl rfl | exact Or.inr rfl) only [e35_0, e35_1, e35_1n, e35_2, e35_3, e35_6, e35_9, e35_10, e35_11, e35_12, e35_14, e35_17, e35_20, e35_21, e35_24, e35_27, e35_30, e35_31, e35_34, e35_35, e35_35n, e35_36, e35_37, e35_40, e35_43, e35_44, e35_45, e35_45n, e35_46, e35_48, e35_51, e35_54, e35_57, e35_58, ct_i, ct_r, ct_n, ct_h, opt_v, opt_s, ref_s, ref_n, eq_self_iff_true, true_or, or_true, zl0, zl1, zl2, zl3, zl4, zl5, zl6, zl7, zl8, zl9, zl10, zl16, zl32, zl40, zl100, zl160, zIc1, zI_lt, zI_le, nI_eq, nI_add, z_sub, nI_clamp, zI_of, uu_eq, uu_ne, Nat.reduceLT, Nat.reduceLeDiff, Nat.reduceEqDiff, Nat.reduceAdd, Nat.reduceSub, Nat.reduceMul, Nat.not_lt_zero, Nat.lt_irrefl, Nat.le_refl, Bool.false_eq_true, false_and, and_false, true_and, and_true, if_pos, if_neg, if_true, if_false, not_true_eq_false, not_false_eq_true, s1]
  refine g1 ho d I' _ (by simp only [kD, Nat.reduceSub, Nat.reduceEqDiff, if_true, if_false] at hd ⊢; omega) (by omega) hP' (fun I2 hP2 => ?_)
  have := H I2 hP2
  simp (disch := first | assumption | exact ct_i | exact ct_r | exact ct_n | exact ct_h | omega | exact z_in (by omega) (by omega) | exact b01 | exact Or.inl rfl | exact Or.inr rfl) only [Bool.false_eq_true, if_false] at this
  simp (disch := first | assumption | exact ct_i | exact ct_r | exact ct_n | exact ct_h | omega | exact z_in (by omega) (by omega) | exact b01 | exact Or.inl rfl | exact Or.inr rfl) only [e35_0, e35_1, e35_1n, e35_2, e35_3, e35_6, e35_9, e35_10, e35_11, e35_12, e35_14, e35_17, e35_20, e35_21, e35_24, e35_27, e35_30, e35_31, e35_34, e35_35, e35_35n, e35_36, e35_37, e35_40, e35_43, e35_44, e35_45, e35_45n, e35_46, e35_48, e35_51, e35_54, e35_57, e35_58, ct_i, ct_r, ct_n, ct_h, opt_v, opt_s, ref_s, ref_n, eq_self_iff_true, true_or, or_true, zl0, zl1, zl2, zl3, zl4, zl5, zl6, zl7, zl8, zl9, zl10, zl16, zl32, zl40, zl100, zl160, zIc1, zI_lt, zI_le, nI_eq, nI_add, z_sub, nI_clamp, zI_of, uu_eq, uu_ne, Nat.reduceLT, Nat.reduceLeDiff, Nat.reduceEqDiff, Nat.reduceAdd, Nat.reduceSub, Nat.reduceMul, Nat.not_lt_zero, Nat.lt_irrefl, Nat.le_refl, Bool.false_eq_true, false_and, and_false, true_and, and_true, if_pos, if_neg, if_true, if_false, not_true_eq_false, not_false_eq_true]
  exact this

theorem q1_2 (hK : cK nd sh R) (hs : ∀ x, 1000000 ≤ x → sh x = (999, 0)) (hi : i < 6) {o p : Nat} {c : List Nat} {p1 : Nat} {c1 : List Nat} {b : Bool} {p2 : Nat} {c2 : List Nat} (B : Bd s p c p1 c1) (g1 : CG tp s i n t sh I0 L R 8 o p c true p1 c1) (g2 : CG tp s i n t sh I0 L R 3 o p1 c1 b p2 c2) : CG tp s i n t sh I0 L R 2 o p c b p2 c2 := by
  rw [CG_c (by decide)] at g1 ⊢
  rw [CG_l (by decide)] at g2
  obtain ⟨s1, s2, s3, s4⟩ := cPq hK
  have sT := (cPt hK hi).1
  obtain ⟨B1, B2, B3, B4⟩ := B
  intro ho d I Q hd hc hP H
  simp only [kD, Nat.reduceEqDiff, if_true, if_false] at hd
  show aC d 36 _ _ _
  obtain ⟨d, rfl⟩ : ∃ e, d = e + 1 := ⟨d - 1, by omega⟩
  simp (disch := first | assumption | exact ct_i | exact ct_r | exact ct_n | exact ct_h | omega | exact z_in (by omega) (by omega) | exact b01 | exact Or.inl rfl | exact Or.inr rfl) only [b36, e36_0, e36_1, e36_1n, e36_2, e36_3, e36_6, e36_9, e36_10, e36_11, e36_12, e36_14, e36_17, e36_20, e36_21, e36_24, e36_27, e36_30, e36_31, e36_34, e36_35, e36_35n, e36_36, e36_37, e36_40, e36_43, e36_44, e36_45, e36_45n, e36_46, e36_48, e36_51, e36_54, e36_57, e36_58, ct_i, ct_r, ct_n, ct_h, opt_v, opt_s, ref_s, ref_n, eq_self_iff_true, true_or, or_true, s1]
  refine g1 ho d I _ (by simp only [kD, Nat.reduceEqDiff, if_true, if_false]; omega) hc hP (fun I' hP' => ?_)
  simp (disch := first | assumption | exact ct_i | exact ct_r | exact ct_n | exact ct_h | omega | exact z_in (by omega) (by omega) | exact b01 | exact Or.inl rfl | exact Or.inr rfl) only [e36_0, e36_1, e36_1n, e36_2, e36_3, e36_6, e36_9, e36_10, e36_11, e36_12, e36_14, e36_17, e36_20, e36_21, e36_24, e36_27, e36_30, e36_31, e36_34, e36_35, e36_35n, e36_36, e36_37, e36_40, e36_43, e36_44, e36_45, e36_45n, e36_46, e36_48, e36_51, e36_54, e36_57, e36_58, ct_i, ct_r, ct_n, ct_h, opt_v, opt_s, ref_s, ref_n, eq_self_iff_true, true_or, or_true, zl0, zl1, zl2, zl3, zl4, zl5, zl6, zl7, zl8, zl9, zl10, zl16, zl32, zl40, zl100, zl160, zIc1, zI_lt, zI_le, nI_eq, nI_add, z_sub, nI_clamp, zI_of, uu_eq, uu_ne, Nat.reduceLT, Nat.reduceLeDiff, Nat.reduceEqDiff, Nat.reduceAdd, Nat.reduceSub, Nat.reduceMul, Nat.not_lt_zero, Nat.lt_irrefl, Nat.le_refl, Bool.false_eq_true, false_and, and_false, true_and, and_true, if_pos, if_neg, if_true, if_false, not_true_eq_false, not_false_eq_true]
  exact g2 ho d I' Q 0 a_hole (by simp only [kD, Nat.reduceSub, Nat.reduceEqDiff, if_true, if_false]; omega) (by omega) (Nat.zero_le _) hP' H
theorem q2_2 (hK : cK nd sh R) (hs : ∀ x, 1000000 ≤ x → sh x = (999, 0)) (hi : i < 6) {o p : Nat} {c : List Nat} {p1 : Nat} {c1 : List Nat} (B : Bd s p c p1 c1) (g1 : CG tp s i n t sh I0 L R 8 o p c false p1 c1) : CG tp s i n t sh I0 L R 2 o p c false p1 c1 := by
  rw [CG_c (by decide)] at g1 ⊢
  obtain ⟨s1, s2, s3, s4⟩ := cPq hK
  have sT := (cPt hK hi).1
  obtain ⟨B1, B2, B3, B4⟩ := B
  intro ho d I Q hd hc hP H
  simp only [kD, Nat.reduceEqDiff, if_true, if_false] at hd
  show aC d 36 _ _ _
  obtain ⟨d, rfl⟩ : ∃ e, d = e + 1 := ⟨d - 1, by omega⟩
  simp (disch := first | assumption | exact ct_i | exact ct_r | exact ct_n | exact ct_h | omega | exact z_in (by omega) (by omega) | exact b01 | exact Or.inl rfl | exact Or.inr rfl) only [b36, e36_0, e36_1, e36_1n, e36_2, e36_3, e36_6, e36_9, e36_10, e36_11, e36_12, e36_14, e36_17, e36_20, e36_21, e36_24, e36_27, e36_30, e36_31, e36_34, e36_35, e36_35n, e36_36, e36_37, e36_40, e36_43, e36_44, e36_45, e36_45n, e36_46, e36_48, e36_51, e36_54, e36_57, e36_58, ct_i, ct_r, ct_n, ct_h, opt_v, opt_s, ref_s, ref_n, eq_self_iff_true, true_or, or_true, s1]
  refine g1 ho d I _ (by simp only [kD, Nat.reduceEqDiff, if_true, if_false]; omega) hc hP (fun I' hP' => ?_)
  have := H I' hP'
  simp (disch := first | assumption | exact ct_i | exact ct_r | exact ct_n | exact ct_h | omega | exact z_in (by omega) (by omega) | exact b01 | exact Or.inl rfl | exact Or.inr rfl) only [Bool.false_eq_true, if_false] at this
  simp (disch := first | assumption | exact ct_i | exact ct_r | exact ct_n | exact ct_h | omega | exact z_in (by omega) (by omega) | exact b01 | exact Or.inl rfl | exact Or.inr rfl) only [e36_0, e36_1, e36_1n, e36_2, e36_3, e36_6, e36_9, e36_10, e36_11, e36_12, e36_14, e36_17, e36_20, e36_21, e36_24, e36_27, e36_30, e36_31, e36_34, e36_35, e36_35n, e36_36, e36_37, e36_40, e36_43, e36_44, e36_45, e36_45n, e36_46, e36_48, e36_51, e36_54, e36_57, e36_58, ct_i, ct_r, ct_n, ct_h, opt_v, opt_s, ref_s, ref_n, eq_self_iff_true, true_or, or_true, zl0, zl1, zl2, zl3, zl4, zl5, zl6, zl7, zl8, zl9, zl10, zl16, zl32, zl40, zl100, zl160, zIc1, zI_lt, zI_le, nI_eq, nI_add, z_sub, nI_clamp, zI_of, uu_eq, uu_ne, Nat.reduceLT, Nat.reduceLeDiff, Nat.reduceEqDiff, Nat.reduceAdd, Nat.reduceSub, Nat.reduceMul, Nat.not_lt_zero, Nat.lt_irrefl, Nat.le_refl, Bool.false_eq_true, false_and, and_false, true_and, and_true, if_pos, if_neg, if_true, if_false, not_true_eq_false, not_false_eq_true]
  exact this
theorem q3_2 (hK : cK nd sh R) (hs : ∀ x, 1000000 ≤ x → sh x = (999, 0)) (hi : i < 6) {o p : Nat} {c : List Nat} (hop : opc 2 (tk tp s p) = none) : CG tp s i n t sh I0 L R 3 o p c true p c := by
  rw [CG_l (by decide)]
  obtain ⟨s1, s2, s3, s4⟩ := cPq hK
  have sT := (cPt hK hi).1
  have e309 : (309 : Int32) = nI 309 := rfl
  have e310 : (310 : Int32) = nI 310 := rfl
  have e311 : (311 : Int32) = nI 311 := rfl
  have e43 : (43 : Int32) = nI 43 := rfl
  have e45 : (45 : Int32) = nI 45 := rfl
  have e42 : (42 : Int32) = nI 42 := rfl
  have e60 : (60 : Int32) = nI 60 := rfl
  have e61 : (61 : Int32) = nI 61 := rfl
  have e160 : (160 : Int32) = nI 160 := rfl
  have e258 : (258 : Int32) = nI 258 := rfl
  have e300 : (300 : Int32) = nI 300 := rfl
  have e306 : (306 : Int32) = nI 306 := rfl
  have e40 : (40 : Int32) = nI 40 := rfl
  have e41 : (41 : Int32) = nI 41 := rfl
  have e5 : (5 : Int32) = nI 5 := rfl
  intro ho d I Q j l4 hd hc hj hP H
  have hT := tk_lt (tp := tp) (s := s) (p := p)
  have hn := opc_2n hop
  have h3 := hP.1.2.2.1
  have := H I hP
  simp only [if_true] at this
  have h160 := hP.2.1.1
  have hps := hP.1.1
  show aE (a_cl_ d) 36 (13, [.ref 11, .ref (23 + 4 * i), .int (nI o), .int (nI j)], [], _) Q
  rw [e36_13]
  by_cases hj2 : j < 160
  · simp (disch := first | assumption | exact ct_i | exact ct_r | exact ct_n | exact ct_h | omega | exact z_in (by omega) (by omega) | exact b01 | exact Or.inl rfl | exact Or.inr rfl) only [e36_0, e36_1, e36_1n, e36_2, e36_3, e36_6, e36_9, e36_10, e36_11, e36_12, e36_14, e36_17, e36_20, e36_21, e36_24, e36_27, e36_30, e36_31, e36_34, e36_35, e36_35n, e36_36, e36_37, e36_40, e36_43, e36_44, e36_45, e36_45n, e36_46, e36_48, e36_51, e36_54, e36_57, e36_58, ct_i, ct_r, ct_n, ct_h, opt_v, opt_s, ref_s, ref_n, eq_self_iff_true, true_or, or_true, zl0, zl1, zl2, zl3, zl4, zl5, zl6, zl7, zl8, zl9, zl10, zl16, zl32, zl40, zl100, zl160, zIc1, zI_lt, zI_le, nI_eq, nI_add, z_sub, nI_clamp, zI_of, uu_eq, uu_ne, Nat.reduceLT, Nat.reduceLeDiff, Nat.reduceEqDiff, Nat.reduceAdd, Nat.reduceSub, Nat.reduceMul, Nat.not_lt_zero, Nat.lt_irrefl, Nat.le_refl, Bool.false_eq_true, false_and, and_false, true_and, and_true, if_pos, if_neg, if_true, if_false, not_true_eq_false, not_false_eq_true, s1, h3, e310, e160, hn]
    exact this
  · simp (disch := first | assumption | exact ct_i | exact ct_r | exact ct_n | exact ct_h | omega | exact z_in (by omega) (by omega) | exact b01 | exact Or.inl rfl | exact Or.inr rfl) only [e36_0, e36_1, e36_1n, e36_2, e36_3, e36_6, e36_9, e36_10, e36_11, e36_12, e36_14, e36_17, e36_20, e36_21, e36_24, e36_27, e36_30, e36_31, e36_34, e36_35, e36_35n, e36_36, e36_37, e36_40, e36_43, e36_44, e36_45, e36_45n, e36_46, e36_48, e36_51, e36_54, e36_57, e36_58, ct_i, ct_r, ct_n, ct_h, opt_v, opt_s, ref_s, ref_n, eq_self_iff_true, true_or, or_true, zl0, zl1, zl2, zl3, zl4, zl5, zl6, zl7, zl8, zl9, zl10, zl16, zl32, zl40, zl100, zl160, zIc1, zI_lt, zI_le, nI_eq, nI_add, z_sub, nI_clamp, zI_of, uu_eq, uu_ne, Nat.reduceLT, Nat.reduceLeDiff, Nat.reduceEqDiff, Nat.reduceAdd, Nat.reduceSub, Nat.reduceMul, Nat.not_lt_zero, Nat.lt_irrefl, Nat.le_refl, Bool.false_eq_true, false_and, and_false, true_and, and_true, if_pos, if_neg, if_true, if_false, not_true_eq_false, not_false_eq_true, s1, h3, e310, e160, hn]
    exact this

theorem q4_2 (hK : cK nd sh R) (hs : ∀ x, 1000000 ≤ x → sh x = (999, 0)) (hi : i < 6) {o p : Nat} {c : List Nat} {k p1 : Nat} {c1 : List Nat} {b : Bool} {p2 : Nat} {c2 : List Nat} (hp : p ≤ s) (hop : opc 2 (tk tp s p) = some k) (B : Bd s (nx tp s p) c p1 c1) (g1 : CG tp s i n t sh I0 L R 8 o (nx tp s p) c true p1 c1) (g2 : CG tp s i n t sh I0 L R 3 o p1 (c1 ++ [k]) b p2 c2) : CG tp s i n t sh I0 L R 3 o p c b p2 c2 := by
  rw [CG_c (by decide)] at g1
  rw [CG_l (by decide)] at g2 ⊢
  obtain ⟨s1, s2, s3, s4⟩ := cPq hK
  have sT := (cPt hK hi).1
  obtain ⟨B1, B2, B3, B4⟩ := B
  have e309 : (309 : Int32) = nI 309 := rfl
  have e310 : (310 : Int32) = nI 310 := rfl
  have e311 : (311 : Int32) = nI 311 := rfl
  have e43 : (43 : Int32) = nI 43 := rfl
  have e45 : (45 : Int32) = nI 45 := rfl
  have e42 : (42 : Int32) = nI 42 := rfl
  have e60 : (60 : Int32) = nI 60 := rfl
  have e61 : (61 : Int32) = nI 61 := rfl
  have e160 : (160 : Int32) = nI 160 := rfl
  have e258 : (258 : Int32) = nI 258 := rfl
  have e300 : (300 : Int32) = nI 300 := rfl
  have e306 : (306 : Int32) = nI 306 := rfl
  have e40 : (40 : Int32) = nI 40 := rfl
  have e41 : (41 : Int32) = nI 41 := rfl
  have e5 : (5 : Int32) = nI 5 := rfl
  intro ho d I Q j l4 hd hc hj hP H
  have hlt := tk_ne (opc_ne hop).1
  have hnx := nx_gt (tp := tp) hlt
  have h3 := hP.1.2.2.1
  have h160 := hP.2.1.1
  have hj2 : j < 160 := by omega
  obtain ⟨ht, rfl⟩ := opc_2 hop
  show aE (a_cl_ d) 36 (13, [.ref 11, .ref (23 + 4 * i), .int (nI o), .int (nI j)], [], _) Q
  rw [e36_13]
  simp (disch := first | assumption | exact ct_i | exact ct_r | exact ct_n | exact ct_h | omega | exact z_in (by omega) (by omega) | exact b01 | exact Or.inl rfl | exact Or.inr rfl) only [e36_0, e36_1, e36_1n, e36_2, e36_3, e36_6, e36_9, e36_10, e36_11, e36_12, e36_14, e36_17, e36_20, e36_21, e36_24, e36_27, e36_30, e36_31, e36_34, e36_35, e36_35n, e36_36, e36_37, e36_40, e36_43, e36_44, e36_45, e36_45n, e36_46, e36_48, e36_51, e36_54, e36_57, e36_58, ct_i, ct_r, ct_n, ct_h, opt_v, opt_s, ref_s, ref_n, eq_self_iff_true, true_or, or_true, zl0, zl1, zl2, zl3, zl4, zl5, zl6, zl7, zl8, zl9, zl10, zl16, zl32, zl40, zl100, zl160, zIc1, zI_lt, zI_le, nI_eq, nI_add, z_sub, nI_clamp, zI_of, uu_eq, uu_ne, Nat.reduceLT, Nat.reduceLeDiff, Nat.reduceEqDiff, Nat.reduceAdd, Nat.reduceSub, Nat.reduceMul, Nat.not_lt_zero, Nat.lt_irrefl, Nat.le_refl, Bool.false_eq_true, false_and, and_false, true_and, and_true, if_pos, if_neg, if_true, if_false, not_true_eq_false, not_false_eq_true, s1, h3, e310, e160, ht]
  refine k27p (by simp only [kD, Nat.reduceSub, Nat.reduceEqDiff, if_true, if_false] at hd; omega) hK hs hi hP (fun I' hP' => ?_)
  simp (disch := first | assumption | exact ct_i | exact ct_r | exact ct_n | exact ct_h | omega | exact z_in (by omega) (by omega) | exact b01 | exact Or.inl rfl | exact Or.inr rfl) only [e36_0, e36_1, e36_1n, e36_2, e36_3, e36_6, e36_9, e36_10, e36_11, e36_12, e36_14, e36_17, e36_20, e36_21, e36_24, e36_27, e36_30, e36_31, e36_34, e36_35, e36_35n, e36_36, e36_37, e36_40, e36_43, e36_44, e36_45, e36_45n, e36_46, e36_48, e36_51, e36_54, e36_57, e36_58, ct_i, ct_r, ct_n, ct_h, opt_v, opt_s, ref_s, ref_n, eq_self_iff_true, true_or, or_true, zl0, zl1, zl2, zl3, zl4, zl5, zl6, zl7, zl8, zl9, zl10, zl16, zl32, zl40, zl100, zl160, zIc1, zI_lt, zI_le, nI_eq, nI_add, z_sub, nI_clamp, zI_of, uu_eq, uu_ne, Nat.reduceLT, Nat.reduceLeDiff, Nat.reduceEqDiff, Nat.reduceAdd, Nat.reduceSub, Nat.reduceMul, Nat.not_lt_zero, Nat.lt_irrefl, Nat.le_refl, Bool.false_eq_true, false_and, and_false, true_and, and_true, if_pos, if_neg, if_true, if_false, not_true_eq_false, not_false_eq_true, s1]
  refine g1 ho d I' _ (by simp only [kD, Nat.reduceSub, Nat.reduceEqDiff, if_true, if_false] at hd ⊢; omega) (by omega) hP' (fun I2 hP2 => ?_)
  simp (disch := first | assumption | exact ct_i | exact ct_r | exact ct_n | exact ct_h | omega | exact z_in (by omega) (by omega) | exact b01 | exact Or.inl rfl | exact Or.inr rfl) only [e36_0, e36_1, e36_1n, e36_2, e36_3, e36_6, e36_9, e36_10, e36_11, e36_12, e36_14, e36_17, e36_20, e36_21, e36_24, e36_27, e36_30, e36_31, e36_34, e36_35, e36_35n, e36_36, e36_37, e36_40, e36_43, e36_44, e36_45, e36_45n, e36_46, e36_48, e36_51, e36_54, e36_57, e36_58, ct_i, ct_r, ct_n, ct_h, opt_v, opt_s, ref_s, ref_n, eq_self_iff_true, true_or, or_true, zl0, zl1, zl2, zl3, zl4, zl5, zl6, zl7, zl8, zl9, zl10, zl16, zl32, zl40, zl100, zl160, zIc1, zI_lt, zI_le, nI_eq, nI_add, z_sub, nI_clamp, zI_of, uu_eq, uu_ne, Nat.reduceLT, Nat.reduceLeDiff, Nat.reduceEqDiff, Nat.reduceAdd, Nat.reduceSub, Nat.reduceMul, Nat.not_lt_zero, Nat.lt_irrefl, Nat.le_refl, Bool.false_eq_true, false_and, and_false, true_and, and_true, if_pos, if_neg, if_true, if_false, not_true_eq_false, not_false_eq_true, s1]
  refine k70p (show 1 ≤ d by omega) hK hi hP2 (show c1.length < 160 by omega) (show -nI 10 = cCell 10009 by decide) (fun I3 hP3 => ?_)
  simp (disch := first | assumption | exact ct_i | exact ct_r | exact ct_n | exact ct_h | omega | exact z_in (by omega) (by omega) | exact b01 | exact Or.inl rfl | exact Or.inr rfl) only [e36_0, e36_1, e36_1n, e36_2, e36_3, e36_6, e36_9, e36_10, e36_11, e36_12, e36_14, e36_17, e36_20, e36_21, e36_24, e36_27, e36_30, e36_31, e36_34, e36_35, e36_35n, e36_36, e36_37, e36_40, e36_43, e36_44, e36_45, e36_45n, e36_46, e36_48, e36_51, e36_54, e36_57, e36_58, ct_i, ct_r, ct_n, ct_h, opt_v, opt_s, ref_s, ref_n, eq_self_iff_true, true_or, or_true, zl0, zl1, zl2, zl3, zl4, zl5, zl6, zl7, zl8, zl9, zl10, zl16, zl32, zl40, zl100, zl160, zIc1, zI_lt, zI_le, nI_eq, nI_add, z_sub, nI_clamp, zI_of, uu_eq, uu_ne, Nat.reduceLT, Nat.reduceLeDiff, Nat.reduceEqDiff, Nat.reduceAdd, Nat.reduceSub, Nat.reduceMul, Nat.not_lt_zero, Nat.lt_irrefl, Nat.le_refl, Bool.false_eq_true, false_and, and_false, true_and, and_true, if_pos, if_neg, if_true, if_false, not_true_eq_false, not_false_eq_true, s1]
  exact g2 ho d I3 Q (j + 1) a_hole hd (by rw [List.length_append, List.length_singleton]; omega) (by omega) hP3 H

theorem q5_2 (hK : cK nd sh R) (hs : ∀ x, 1000000 ≤ x → sh x = (999, 0)) (hi : i < 6) {o p : Nat} {c : List Nat} {k p1 : Nat} {c1 : List Nat} (hp : p ≤ s) (hop : opc 2 (tk tp s p) = some k) (B : Bd s (nx tp s p) c p1 c1) (g1 : CG tp s i n t sh I0 L R 8 o (nx tp s p) c false p1 c1) : CG tp s i n t sh I0 L R 3 o p c false p1 c1 := by
  rw [CG_c (by decide)] at g1
  rw [CG_l (by decide)]
  obtain ⟨s1, s2, s3, s4⟩ := cPq hK
  have sT := (cPt hK hi).1
  obtain ⟨B1, B2, B3, B4⟩ := B
  have e309 : (309 : Int32) = nI 309 := rfl
  have e310 : (310 : Int32) = nI 310 := rfl
  have e311 : (311 : Int32) = nI 311 := rfl
  have e43 : (43 : Int32) = nI 43 := rfl
  have e45 : (45 : Int32) = nI 45 := rfl
  have e42 : (42 : Int32) = nI 42 := rfl
  have e60 : (60 : Int32) = nI 60 := rfl
  have e61 : (61 : Int32) = nI 61 := rfl
  have e160 : (160 : Int32) = nI 160 := rfl
  have e258 : (258 : Int32) = nI 258 := rfl
  have e300 : (300 : Int32) = nI 300 := rfl
  have e306 : (306 : Int32) = nI 306 := rfl
  have e40 : (40 : Int32) = nI 40 := rfl
  have e41 : (41 : Int32) = nI 41 := rfl
  have e5 : (5 : Int32) = nI 5 := rfl
  intro ho d I Q j l4 hd hc hj hP H
  have hlt := tk_ne (opc_ne hop).1
  have hnx := nx_gt (tp := tp) hlt
  have h3 := hP.1.2.2.1
  have h160 := hP.2.1.1
  have hj2 : j < 160 := by omega
  obtain ⟨ht, rfl⟩ := opc_2 hop
  show aE (a_cl_ d) 36 (13, [.ref 11, .ref (23 + 4 * i), .int (nI o), .int (nI j)], [], _) Q
  rw [e36_13]
  simp (disch := first | assumption | exact ct_i | exact ct_r | exact ct_n | exact ct_h | omega | exact z_in (by omega) (by omega) | exact b01 | exact Or.inl rfl | exact Or.inr rfl) only [e36_0, e36_1, e36_1n, e36_2, e36_3, e36_6, e36_9, e36_10, e36_11, e36_12, e36_14, e36_17, e36_20, e36_21, e36_24, e36_27, e36_30, e36_31, e36_34, e36_35, e36_35n, e36_36, e36_37, e36_40, e36_43, e36_44, e36_45, e36_45n, e36_46, e36_48, e36_51, e36_54, e36_57, e36_58, ct_i, ct_r, ct_n, ct_h, opt_v, opt_s, ref_s, ref_n, eq_self_iff_true, true_or, or_true, zl0, zl1, zl2, zl3, zl4, zl5, zl6, zl7, zl8, zl9, zl10, zl16, zl32, zl40, zl100, zl160, zIc1, zI_lt, zI_le, nI_eq, nI_add, z_sub, nI_clamp, zI_of, uu_eq, uu_ne, Nat.reduceLT, Nat.reduceLeDiff, Nat.reduceEqDiff, Nat.reduceAdd, Nat.reduceSub, Nat.reduceMul, Nat.not_lt_zero, Nat.lt_irrefl, Nat.le_refl, Bool.false_eq_true, false_and, and_false, true_and, and_true, if_pos, if_neg, if_true, if_false, not_true_eq_false, not_false_eq_true, s1, h3, e310, e160, ht]
  refine k27p (by simp only [kD, Nat.reduceSub, Nat.reduceEqDiff, if_true, if_false] at hd; omega) hK hs hi hP (fun I' hP' => ?_)
  simp (disch := first | assumption | exact ct_i | exact ct_r | exact ct_n | exact ct_h | omega | exact z_in (by omega) (by omega) | exact b01 | exact Or.inl rfl | exact Or.inr rfl) only [e36_0, e36_1, e36_1n, e36_2, e36_3, e36_6, e36_9, e36_10, e36_11, e36_12, e36_14, e36_17, e36_20, e36_21, e36_24, e36_27, e36_30, e36_31, e36_34, e36_35, e36_35n, e36_36, e36_37, e36_40, e36_43, e36_44, e36_45, e36_45n, e36_46, e36_48, e36_51, e36_54, e36_57, e36_58, ct_i, ct_r, ct_n, ct_h, opt_v, opt_s, ref_s, ref_n, eq_self_iff_true, true_or, or_true, zl0, zl1, zl2, zl3, zl4, zl5, zl6, zl7, zl8, zl9, zl10, zl16, zl32, zl40, zl100, zl160, zIc1, zI_lt, zI_le, nI_eq, nI_add, z_sub, nI_clamp, zI_of, uu_eq, uu_ne, Nat.reduceLT, Nat.reduceLeDiff, Nat.reduceEqDiff, Nat.reduceAdd, Nat.reduceSub, Nat.reduceMul, Nat.not_lt_zero, Nat.lt_irrefl, Nat.le_refl, Bool.false_eq_true, false_and, and_false, true_and, and_true, if_pos, if_neg, if_true, if_false, not_true_eq_false, not_false_eq_true, s1]
  refine g1 ho d I' _ (by simp only [kD, Nat.reduceSub, Nat.reduceEqDiff, if_true, if_false] at hd ⊢; omega) (by omega) hP' (fun I2 hP2 => ?_)
  have := H I2 hP2
  simp (disch := first | assumption | exact ct_i | exact ct_r | exact ct_n | exact ct_h | omega | exact z_in (by omega) (by omega) | exact b01 | exact Or.inl rfl | exact Or.inr rfl) only [Bool.false_eq_true, if_false] at this
  simp (disch := first | assumption | exact ct_i | exact ct_r | exact ct_n | exact ct_h | omega | exact z_in (by omega) (by omega) | exact b01 | exact Or.inl rfl | exact Or.inr rfl) only [e36_0, e36_1, e36_1n, e36_2, e36_3, e36_6, e36_9, e36_10, e36_11, e36_12, e36_14, e36_17, e36_20, e36_21, e36_24, e36_27, e36_30, e36_31, e36_34, e36_35, e36_35n, e36_36, e36_37, e36_40, e36_43, e36_44, e36_45, e36_45n, e36_46, e36_48, e36_51, e36_54, e36_57, e36_58, ct_i, ct_r, ct_n, ct_h, opt_v, opt_s, ref_s, ref_n, eq_self_iff_true, true_or, or_true, zl0, zl1, zl2, zl3, zl4, zl5, zl6, zl7, zl8, zl9, zl10, zl16, zl32, zl40, zl100, zl160, zIc1, zI_lt, zI_le, nI_eq, nI_add, z_sub, nI_clamp, zI_of, uu_eq, uu_ne, Nat.reduceLT, Nat.reduceLeDiff, Nat.reduceEqDiff, Nat.reduceAdd, Nat.reduceSub, Nat.reduceMul, Nat.not_lt_zero, Nat.lt_irrefl, Nat.le_refl, Bool.false_eq_true, false_and, and_false, true_and, and_true, if_pos, if_neg, if_true, if_false, not_true_eq_false, not_false_eq_true]
  exact this

theorem q1_4 (hK : cK nd sh R) (hs : ∀ x, 1000000 ≤ x → sh x = (999, 0)) (hi : i < 6) {o p : Nat} {c : List Nat} {p1 : Nat} {c1 : List Nat} {b : Bool} {p2 : Nat} {c2 : List Nat} (B : Bd s p c p1 c1) (g1 : CG tp s i n t sh I0 L R 6 o p c true p1 c1) (g2 : CG tp s i n t sh I0 L R 5 o p1 c1 b p2 c2) : CG tp s i n t sh I0 L R 4 o p c b p2 c2 := by
  rw [CG_c (by decide)] at g1 ⊢
  rw [CG_l (by decide)] at g2
  obtain ⟨s1, s2, s3, s4⟩ := cPq hK
  have sT := (cPt hK hi).1
  obtain ⟨B1, B2, B3, B4⟩ := B
  intro ho d I Q hd hc hP H
  simp only [kD, Nat.reduceEqDiff, if_true, if_false] at hd
  show aC d 39 _ _ _
  obtain ⟨d, rfl⟩ : ∃ e, d = e + 1 := ⟨d - 1, by omega⟩
  simp (disch := first | assumption | exact ct_i | exact ct_r | exact ct_n | exact ct_h | omega | exact z_in (by omega) (by omega) | exact b01 | exact Or.inl rfl | exact Or.inr rfl) only [b39, e39_0, e39_1, e39_1n, e39_2, e39_3, e39_6, e39_9, e39_10, e39_11, e39_12, e39_14, e39_17, e39_20, e39_21, e39_24, e39_26, e39_29, e39_30, e39_33, e39_35, e39_38, e39_39, e39_42, e39_44, e39_47, e39_49, e39_52, e39_54, e39_56, e39_57, e39_60, e39_61, e39_61n, e39_62, e39_63, e39_66, e39_69, e39_70, e39_71, e39_71n, e39_72, e39_74, e39_77, e39_80, e39_83, e39_84, ct_i, ct_r, ct_n, ct_h, opt_v, opt_s, ref_s, ref_n, eq_self_iff_true, true_or, or_true, s1]
  refine g1 ho d I _ (by simp only [kD, Nat.reduceEqDiff, if_true, if_false]; omega) hc hP (fun I' hP' => ?_)
  simp (disch := first | assumption | exact ct_i | exact ct_r | exact ct_n | exact ct_h | omega | exact z_in (by omega) (by omega) | exact b01 | exact Or.inl rfl | exact Or.inr rfl) only [e39_0, e39_1, e39_1n, e39_2, e39_3, e39_6, e39_9, e39_10, e39_11, e39_12, e39_14, e39_17, e39_20, e39_21, e39_24, e39_26, e39_29, e39_30, e39_33, e39_35, e39_38, e39_39, e39_42, e39_44, e39_47, e39_49, e39_52, e39_54, e39_56, e39_57, e39_60, e39_61, e39_61n, e39_62, e39_63, e39_66, e39_69, e39_70, e39_71, e39_71n, e39_72, e39_74, e39_77, e39_80, e39_83, e39_84, ct_i, ct_r, ct_n, ct_h, opt_v, opt_s, ref_s, ref_n, eq_self_iff_true, true_or, or_true, zl0, zl1, zl2, zl3, zl4, zl5, zl6, zl7, zl8, zl9, zl10, zl16, zl32, zl40, zl100, zl160, zIc1, zI_lt, zI_le, nI_eq, nI_add, z_sub, nI_clamp, zI_of, uu_eq, uu_ne, Nat.reduceLT, Nat.reduceLeDiff, Nat.reduceEqDiff, Nat.reduceAdd, Nat.reduceSub, Nat.reduceMul, Nat.not_lt_zero, Nat.lt_irrefl, Nat.le_refl, Bool.false_eq_true, false_and, and_false, true_and, and_true, if_pos, if_neg, if_true, if_false, not_true_eq_false, not_false_eq_true]
  exact g2 ho d I' Q 0 a_hole (by simp only [kD, Nat.reduceSub, Nat.reduceEqDiff, if_true, if_false]; omega) (by omega) (Nat.zero_le _) hP' H
theorem q2_4 (hK : cK nd sh R) (hs : ∀ x, 1000000 ≤ x → sh x = (999, 0)) (hi : i < 6) {o p : Nat} {c : List Nat} {p1 : Nat} {c1 : List Nat} (B : Bd s p c p1 c1) (g1 : CG tp s i n t sh I0 L R 6 o p c false p1 c1) : CG tp s i n t sh I0 L R 4 o p c false p1 c1 := by
  rw [CG_c (by decide)] at g1 ⊢
  obtain ⟨s1, s2, s3, s4⟩ := cPq hK
  have sT := (cPt hK hi).1
  obtain ⟨B1, B2, B3, B4⟩ := B
  intro ho d I Q hd hc hP H
  simp only [kD, Nat.reduceEqDiff, if_true, if_false] at hd
  show aC d 39 _ _ _
  obtain ⟨d, rfl⟩ : ∃ e, d = e + 1 := ⟨d - 1, by omega⟩
  simp (disch := first | assumption | exact ct_i | exact ct_r | exact ct_n | exact ct_h | omega | exact z_in (by omega) (by omega) | exact b01 | exact Or.inl rfl | exact Or.inr rfl) only [b39, e39_0, e39_1, e39_1n, e39_2, e39_3, e39_6, e39_9, e39_10, e39_11, e39_12, e39_14, e39_17, e39_20, e39_21, e39_24, e39_26, e39_29, e39_30, e39_33, e39_35, e39_38, e39_39, e39_42, e39_44, e39_47, e39_49, e39_52, e39_54, e39_56, e39_57, e39_60, e39_61, e39_61n, e39_62, e39_63, e39_66, e39_69, e39_70, e39_71, e39_71n, e39_72, e39_74, e39_77, e39_80, e39_83, e39_84, ct_i, ct_r, ct_n, ct_h, opt_v, opt_s, ref_s, ref_n, eq_self_iff_true, true_or, or_true, s1]
  refine g1 ho d I _ (by simp only [kD, Nat.reduceEqDiff, if_true, if_false]; omega) hc hP (fun I' hP' => ?_)
  have := H I' hP'
  simp (disch := first | assumption | exact ct_i | exact ct_r | exact ct_n | exact ct_h | omega | exact z_in (by omega) (by omega) | exact b01 | exact Or.inl rfl | exact Or.inr rfl) only [Bool.false_eq_true, if_false] at this
  simp (disch := first | assumption | exact ct_i | exact ct_r | exact ct_n | exact ct_h | omega | exact z_in (by omega) (by omega) | exact b01 | exact Or.inl rfl | exact Or.inr rfl) only [e39_0, e39_1, e39_1n, e39_2, e39_3, e39_6, e39_9, e39_10, e39_11, e39_12, e39_14, e39_17, e39_20, e39_21, e39_24, e39_26, e39_29, e39_30, e39_33, e39_35, e39_38, e39_39, e39_42, e39_44, e39_47, e39_49, e39_52, e39_54, e39_56, e39_57, e39_60, e39_61, e39_61n, e39_62, e39_63, e39_66, e39_69, e39_70, e39_71, e39_71n, e39_72, e39_74, e39_77, e39_80, e39_83, e39_84, ct_i, ct_r, ct_n, ct_h, opt_v, opt_s, ref_s, ref_n, eq_self_iff_true, true_or, or_true, zl0, zl1, zl2, zl3, zl4, zl5, zl6, zl7, zl8, zl9, zl10, zl16, zl32, zl40, zl100, zl160, zIc1, zI_lt, zI_le, nI_eq, nI_add, z_sub, nI_clamp, zI_of, uu_eq, uu_ne, Nat.reduceLT, Nat.reduceLeDiff, Nat.reduceEqDiff, Nat.reduceAdd, Nat.reduceSub, Nat.reduceMul, Nat.not_lt_zero, Nat.lt_irrefl, Nat.le_refl, Bool.false_eq_true, false_and, and_false, true_and, and_true, if_pos, if_neg, if_true, if_false, not_true_eq_false, not_false_eq_true]
  exact this
theorem q3_4 (hK : cK nd sh R) (hs : ∀ x, 1000000 ≤ x → sh x = (999, 0)) (hi : i < 6) {o p : Nat} {c : List Nat} (hop : opc 4 (tk tp s p) = none) : CG tp s i n t sh I0 L R 5 o p c true p c := by
  rw [CG_l (by decide)]
  obtain ⟨s1, s2, s3, s4⟩ := cPq hK
  have sT := (cPt hK hi).1
  have e309 : (309 : Int32) = nI 309 := rfl
  have e310 : (310 : Int32) = nI 310 := rfl
  have e311 : (311 : Int32) = nI 311 := rfl
  have e43 : (43 : Int32) = nI 43 := rfl
  have e45 : (45 : Int32) = nI 45 := rfl
  have e42 : (42 : Int32) = nI 42 := rfl
  have e60 : (60 : Int32) = nI 60 := rfl
  have e61 : (61 : Int32) = nI 61 := rfl
  have e160 : (160 : Int32) = nI 160 := rfl
  have e258 : (258 : Int32) = nI 258 := rfl
  have e300 : (300 : Int32) = nI 300 := rfl
  have e306 : (306 : Int32) = nI 306 := rfl
  have e40 : (40 : Int32) = nI 40 := rfl
  have e41 : (41 : Int32) = nI 41 := rfl
  have e5 : (5 : Int32) = nI 5 := rfl
  intro ho d I Q j l4 hd hc hj hP H
  have hT := tk_lt (tp := tp) (s := s) (p := p)
  have hn := opc_4n hop
  have h3 := hP.1.2.2.1
  have := H I hP
  simp only [if_true] at this
  have h160 := hP.2.1.1
  have hps := hP.1.1
  show aE (a_cl_ d) 39 (13, [.ref 11, .ref (23 + 4 * i), .int (nI o), .int (nI j), l4], [], _) Q
  rw [e39_13]
  by_cases hj2 : j < 160
  · simp (disch := first | assumption | exact ct_i | exact ct_r | exact ct_n | exact ct_h | omega | exact z_in (by omega) (by omega) | exact b01 | exact Or.inl rfl | exact Or.inr rfl) only [e39_0, e39_1, e39_1n, e39_2, e39_3, e39_6, e39_9, e39_10, e39_11, e39_12, e39_14, e39_17, e39_20, e39_21, e39_24, e39_26, e39_29, e39_30, e39_33, e39_35, e39_38, e39_39, e39_42, e39_44, e39_47, e39_49, e39_52, e39_54, e39_56, e39_57, e39_60, e39_61, e39_61n, e39_62, e39_63, e39_66, e39_69, e39_70, e39_71, e39_71n, e39_72, e39_74, e39_77, e39_80, e39_83, e39_84, ct_i, ct_r, ct_n, ct_h, opt_v, opt_s, ref_s, ref_n, eq_self_iff_true, true_or, or_true, zl0, zl1, zl2, zl3, zl4, zl5, zl6, zl7, zl8, zl9, zl10, zl16, zl32, zl40, zl100, zl160, zIc1, zI_lt, zI_le, nI_eq, nI_add, z_sub, nI_clamp, zI_of, uu_eq, uu_ne, Nat.reduceLT, Nat.reduceLeDiff, Nat.reduceEqDiff, Nat.reduceAdd, Nat.reduceSub, Nat.reduceMul, Nat.not_lt_zero, Nat.lt_irrefl, Nat.le_refl, Bool.false_eq_true, false_and, and_false, true_and, and_true, if_pos, if_neg, if_true, if_false, not_true_eq_false, not_false_eq_true, s1, h3, e43, e45, e160, hn]
    exact this
  · simp (disch := first | assumption | exact ct_i | exact ct_r | exact ct_n | exact ct_h | omega | exact z_in (by omega) (by omega) | exact b01 | exact Or.inl rfl | exact Or.inr rfl) only [e39_0, e39_1, e39_1n, e39_2, e39_3, e39_6, e39_9, e39_10, e39_11, e39_12, e39_14, e39_17, e39_20, e39_21, e39_24, e39_26, e39_29, e39_30, e39_33, e39_35, e39_38, e39_39, e39_42, e39_44, e39_47, e39_49, e39_52, e39_54, e39_56, e39_57, e39_60, e39_61, e39_61n, e39_62, e39_63, e39_66, e39_69, e39_70, e39_71, e39_71n, e39_72, e39_74, e39_77, e39_80, e39_83, e39_84, ct_i, ct_r, ct_n, ct_h, opt_v, opt_s, ref_s, ref_n, eq_self_iff_true, true_or, or_true, zl0, zl1, zl2, zl3, zl4, zl5, zl6, zl7, zl8, zl9, zl10, zl16, zl32, zl40, zl100, zl160, zIc1, zI_lt, zI_le, nI_eq, nI_add, z_sub, nI_clamp, zI_of, uu_eq, uu_ne, Nat.reduceLT, Nat.reduceLeDiff, Nat.reduceEqDiff, Nat.reduceAdd, Nat.reduceSub, Nat.reduceMul, Nat.not_lt_zero, Nat.lt_irrefl, Nat.le_refl, Bool.false_eq_true, false_and, and_false, true_and, and_true, if_pos, if_neg, if_true, if_false, not_true_eq_false, not_false_eq_true, s1, h3, e43, e45, e160, hn]
    exact this

theorem q4_4 (hK : cK nd sh R) (hs : ∀ x, 1000000 ≤ x → sh x = (999, 0)) (hi : i < 6) {o p : Nat} {c : List Nat} {k p1 : Nat} {c1 : List Nat} {b : Bool} {p2 : Nat} {c2 : List Nat} (hp : p ≤ s) (hop : opc 4 (tk tp s p) = some k) (B : Bd s (nx tp s p) c p1 c1) (g1 : CG tp s i n t sh I0 L R 6 o (nx tp s p) c true p1 c1) (g2 : CG tp s i n t sh I0 L R 5 o p1 (c1 ++ [k]) b p2 c2) : CG tp s i n t sh I0 L R 5 o p c b p2 c2 := by
  rw [CG_c (by decide)] at g1
  rw [CG_l (by decide)] at g2 ⊢
  obtain ⟨s1, s2, s3, s4⟩ := cPq hK
  have sT := (cPt hK hi).1
  obtain ⟨B1, B2, B3, B4⟩ := B
  have e309 : (309 : Int32) = nI 309 := rfl
  have e310 : (310 : Int32) = nI 310 := rfl
  have e311 : (311 : Int32) = nI 311 := rfl
  have e43 : (43 : Int32) = nI 43 := rfl
  have e45 : (45 : Int32) = nI 45 := rfl
  have e42 : (42 : Int32) = nI 42 := rfl
  have e60 : (60 : Int32) = nI 60 := rfl
  have e61 : (61 : Int32) = nI 61 := rfl
  have e160 : (160 : Int32) = nI 160 := rfl
  have e258 : (258 : Int32) = nI 258 := rfl
  have e300 : (300 : Int32) = nI 300 := rfl
  have e306 : (306 : Int32) = nI 306 := rfl
  have e40 : (40 : Int32) = nI 40 := rfl
  have e41 : (41 : Int32) = nI 41 := rfl
  have e5 : (5 : Int32) = nI 5 := rfl
  intro ho d I Q j l4 hd hc hj hP H
  have hlt := tk_ne (opc_ne hop).1
  have hnx := nx_gt (tp := tp) hlt
  have h3 := hP.1.2.2.1
  have h160 := hP.2.1.1
  have hj2 : j < 160 := by omega
  rcases opc_4 hop with ⟨ht, rfl⟩ | ⟨ht, rfl⟩
  · show aE (a_cl_ d) 39 (13, [.ref 11, .ref (23 + 4 * i), .int (nI o), .int (nI j), l4], [], _) Q
    rw [e39_13]
    simp (disch := first | assumption | exact ct_i | exact ct_r | exact ct_n | exact ct_h | omega | exact z_in (by omega) (by omega) | exact b01 | exact Or.inl rfl | exact Or.inr rfl) only [e39_0, e39_1, e39_1n, e39_2, e39_3, e39_6, e39_9, e39_10, e39_11, e39_12, e39_14, e39_17, e39_20, e39_21, e39_24, e39_26, e39_29, e39_30, e39_33, e39_35, e39_38, e39_39, e39_42, e39_44, e39_47, e39_49, e39_52, e39_54, e39_56, e39_57, e39_60, e39_61, e39_61n, e39_62, e39_63, e39_66, e39_69, e39_70, e39_71, e39_71n, e39_72, e39_74, e39_77, e39_80, e39_83, e39_84, ct_i, ct_r, ct_n, ct_h, opt_v, opt_s, ref_s, ref_n, eq_self_iff_true, true_or, or_true, zl0, zl1, zl2, zl3, zl4, zl5, zl6, zl7, zl8, zl9, zl10, zl16, zl32, zl40, zl100, zl160, zIc1, zI_lt, zI_le, nI_eq, nI_add, z_sub, nI_clamp, zI_of, uu_eq, uu_ne, Nat.reduceLT, Nat.reduceLeDiff, Nat.reduceEqDiff, Nat.reduceAdd, Nat.reduceSub, Nat.reduceMul, Nat.not_lt_zero, Nat.lt_irrefl, Nat.le_refl, Bool.false_eq_true, false_and, and_false, true_and, and_true, if_pos, if_neg, if_true, if_false, not_true_eq_false, not_false_eq_true, s1, h3, e43, e45, e160, ht]
    refine k27p (by simp only [kD, Nat.reduceSub, Nat.reduceEqDiff, if_true, if_false] at hd; omega) hK hs hi hP (fun I' hP' => ?_)
    simp (disch := first | assumption | exact ct_i | exact ct_r | exact ct_n | exact ct_h | omega | exact z_in (by omega) (by omega) | exact b01 | exact Or.inl rfl | exact Or.inr rfl) only [e39_0, e39_1, e39_1n, e39_2, e39_3, e39_6, e39_9, e39_10, e39_11, e39_12, e39_14, e39_17, e39_20, e39_21, e39_24, e39_26, e39_29, e39_30, e39_33, e39_35, e39_38, e39_39, e39_42, e39_44, e39_47, e39_49, e39_52, e39_54, e39_56, e39_57, e39_60, e39_61, e39_61n, e39_62, e39_63, e39_66, e39_69, e39_70, e39_71, e39_71n, e39_72, e39_74, e39_77, e39_80, e39_83, e39_84, ct_i, ct_r, ct_n, ct_h, opt_v, opt_s, ref_s, ref_n, eq_self_iff_true, true_or, or_true, zl0, zl1, zl2, zl3, zl4, zl5, zl6, zl7, zl8, zl9, zl10, zl16, zl32, zl40, zl100, zl160, zIc1, zI_lt, zI_le, nI_eq, nI_add, z_sub, nI_clamp, zI_of, uu_eq, uu_ne, Nat.reduceLT, Nat.reduceLeDiff, Nat.reduceEqDiff, Nat.reduceAdd, Nat.reduceSub, Nat.reduceMul, Nat.not_lt_zero, Nat.lt_irrefl, Nat.le_refl, Bool.false_eq_true, false_and, and_false, true_and, and_true, if_pos, if_neg, if_true, if_false, not_true_eq_false, not_false_eq_true, s1]
    refine g1 ho d I' _ (by simp only [kD, Nat.reduceSub, Nat.reduceEqDiff, if_true, if_false] at hd ⊢; omega) (by omega) hP' (fun I2 hP2 => ?_)
    simp (disch := first | assumption | exact ct_i | exact ct_r | exact ct_n | exact ct_h | omega | exact z_in (by omega) (by omega) | exact b01 | exact Or.inl rfl | exact Or.inr rfl) only [e39_0, e39_1, e39_1n, e39_2, e39_3, e39_6, e39_9, e39_10, e39_11, e39_12, e39_14, e39_17, e39_20, e39_21, e39_24, e39_26, e39_29, e39_30, e39_33, e39_35, e39_38, e39_39, e39_42, e39_44, e39_47, e39_49, e39_52, e39_54, e39_56, e39_57, e39_60, e39_61, e39_61n, e39_62, e39_63, e39_66, e39_69, e39_70, e39_71, e39_71n, e39_72, e39_74, e39_77, e39_80, e39_83, e39_84, ct_i, ct_r, ct_n, ct_h, opt_v, opt_s, ref_s, ref_n, eq_self_iff_true, true_or, or_true, zl0, zl1, zl2, zl3, zl4, zl5, zl6, zl7, zl8, zl9, zl10, zl16, zl32, zl40, zl100, zl160, zIc1, zI_lt, zI_le, nI_eq, nI_add, z_sub, nI_clamp, zI_of, uu_eq, uu_ne, Nat.reduceLT, Nat.reduceLeDiff, Nat.reduceEqDiff, Nat.reduceAdd, Nat.reduceSub, Nat.reduceMul, Nat.not_lt_zero, Nat.lt_irrefl, Nat.le_refl, Bool.false_eq_true, false_and, and_false, true_and, and_true, if_pos, if_neg, if_true, if_false, not_true_eq_false, not_false_eq_true, s1]
    refine k70p (show 1 ≤ d by omega) hK hi hP2 (show c1.length < 160 by omega) (show -13 = cCell 10012 by decide) (fun I3 hP3 => ?_)
    simp (disch := first | assumption | exact ct_i | exact ct_r | exact ct_n | exact ct_h | omega | exact z_in (by omega) (by omega) | exact b01 | exact Or.inl rfl | exact Or.inr rfl) only [e39_0, e39_1, e39_1n, e39_2, e39_3, e39_6, e39_9, e39_10, e39_11, e39_12, e39_14, e39_17, e39_20, e39_21, e39_24, e39_26, e39_29, e39_30, e39_33, e39_35, e39_38, e39_39, e39_42, e39_44, e39_47, e39_49, e39_52, e39_54, e39_56, e39_57, e39_60, e39_61, e39_61n, e39_62, e39_63, e39_66, e39_69, e39_70, e39_71, e39_71n, e39_72, e39_74, e39_77, e39_80, e39_83, e39_84, ct_i, ct_r, ct_n, ct_h, opt_v, opt_s, ref_s, ref_n, eq_self_iff_true, true_or, or_true, zl0, zl1, zl2, zl3, zl4, zl5, zl6, zl7, zl8, zl9, zl10, zl16, zl32, zl40, zl100, zl160, zIc1, zI_lt, zI_le, nI_eq, nI_add, z_sub, nI_clamp, zI_of, uu_eq, uu_ne, Nat.reduceLT, Nat.reduceLeDiff, Nat.reduceEqDiff, Nat.reduceAdd, Nat.reduceSub, Nat.reduceMul, Nat.not_lt_zero, Nat.lt_irrefl, Nat.le_refl, Bool.false_eq_true, false_and, and_false, true_and, and_true, if_pos, if_neg, if_true, if_false, not_true_eq_false, not_false_eq_true, s1]
    exact g2 ho d I3 Q (j + 1) (.int (cCell 10012)) hd (by rw [List.length_append, List.length_singleton]; omega) (by omega) hP3 H
  · show aE (a_cl_ d) 39 (13, [.ref 11, .ref (23 + 4 * i), .int (nI o), .int (nI j), l4], [], _) Q
    rw [e39_13]
    simp (disch := first | assumption | exact ct_i | exact ct_r | exact ct_n | exact ct_h | omega | exact z_in (by omega) (by omega) | exact b01 | exact Or.inl rfl | exact Or.inr rfl) only [e39_0, e39_1, e39_1n, e39_2, e39_3, e39_6, e39_9, e39_10, e39_11, e39_12, e39_14, e39_17, e39_20, e39_21, e39_24, e39_26, e39_29, e39_30, e39_33, e39_35, e39_38, e39_39, e39_42, e39_44, e39_47, e39_49, e39_52, e39_54, e39_56, e39_57, e39_60, e39_61, e39_61n, e39_62, e39_63, e39_66, e39_69, e39_70, e39_71, e39_71n, e39_72, e39_74, e39_77, e39_80, e39_83, e39_84, ct_i, ct_r, ct_n, ct_h, opt_v, opt_s, ref_s, ref_n, eq_self_iff_true, true_or, or_true, zl0, zl1, zl2, zl3, zl4, zl5, zl6, zl7, zl8, zl9, zl10, zl16, zl32, zl40, zl100, zl160, zIc1, zI_lt, zI_le, nI_eq, nI_add, z_sub, nI_clamp, zI_of, uu_eq, uu_ne, Nat.reduceLT, Nat.reduceLeDiff, Nat.reduceEqDiff, Nat.reduceAdd, Nat.reduceSub, Nat.reduceMul, Nat.not_lt_zero, Nat.lt_irrefl, Nat.le_refl, Bool.false_eq_true, false_and, and_false, true_and, and_true, if_pos, if_neg, if_true, if_false, not_true_eq_false, not_false_eq_true, s1, h3, e43, e45, e160, ht]
    refine k27p (by simp only [kD, Nat.reduceSub, Nat.reduceEqDiff, if_true, if_false] at hd; omega) hK hs hi hP (fun I' hP' => ?_)
    simp (disch := first | assumption | exact ct_i | exact ct_r | exact ct_n | exact ct_h | omega | exact z_in (by omega) (by omega) | exact b01 | exact Or.inl rfl | exact Or.inr rfl) only [e39_0, e39_1, e39_1n, e39_2, e39_3, e39_6, e39_9, e39_10, e39_11, e39_12, e39_14, e39_17, e39_20, e39_21, e39_24, e39_26, e39_29, e39_30, e39_33, e39_35, e39_38, e39_39, e39_42, e39_44, e39_47, e39_49, e39_52, e39_54, e39_56, e39_57, e39_60, e39_61, e39_61n, e39_62, e39_63, e39_66, e39_69, e39_70, e39_71, e39_71n, e39_72, e39_74, e39_77, e39_80, e39_83, e39_84, ct_i, ct_r, ct_n, ct_h, opt_v, opt_s, ref_s, ref_n, eq_self_iff_true, true_or, or_true, zl0, zl1, zl2, zl3, zl4, zl5, zl6, zl7, zl8, zl9, zl10, zl16, zl32, zl40, zl100, zl160, zIc1, zI_lt, zI_le, nI_eq, nI_add, z_sub, nI_clamp, zI_of, uu_eq, uu_ne, Nat.reduceLT, Nat.reduceLeDiff, Nat.reduceEqDiff, Nat.reduceAdd, Nat.reduceSub, Nat.reduceMul, Nat.not_lt_zero, Nat.lt_irrefl, Nat.le_refl, Bool.false_eq_true, false_and, and_false, true_and, and_true, if_pos, if_neg, if_true, if_false, not_true_eq_false, not_false_eq_true, s1]
    refine g1 ho d I' _ (by simp only [kD, Nat.reduceSub, Nat.reduceEqDiff, if_true, if_false] at hd ⊢; omega) (by omega) hP' (fun I2 hP2 => ?_)
    simp (disch := first | assumption | exact ct_i | exact ct_r | exact ct_n | exact ct_h | omega | exact z_in (by omega) (by omega) | exact b01 | exact Or.inl rfl | exact Or.inr rfl) only [e39_0, e39_1, e39_1n, e39_2, e39_3, e39_6, e39_9, e39_10, e39_11, e39_12, e39_14, e39_17, e39_20, e39_21, e39_24, e39_26, e39_29, e39_30, e39_33, e39_35, e39_38, e39_39, e39_42, e39_44, e39_47, e39_49, e39_52, e39_54, e39_56, e39_57, e39_60, e39_61, e39_61n, e39_62, e39_63, e39_66, e39_69, e39_70, e39_71, e39_71n, e39_72, e39_74, e39_77, e39_80, e39_83, e39_84, ct_i, ct_r, ct_n, ct_h, opt_v, opt_s, ref_s, ref_n, eq_self_iff_true, true_or, or_true, zl0, zl1, zl2, zl3, zl4, zl5, zl6, zl7, zl8, zl9, zl10, zl16, zl32, zl40, zl100, zl160, zIc1, zI_lt, zI_le, nI_eq, nI_add, z_sub, nI_clamp, zI_of, uu_eq, uu_ne, Nat.reduceLT, Nat.reduceLeDiff, Nat.reduceEqDiff, Nat.reduceAdd, Nat.reduceSub, Nat.reduceMul, Nat.not_lt_zero, Nat.lt_irrefl, Nat.le_refl, Bool.false_eq_true, false_and, and_false, true_and, and_true, if_pos, if_neg, if_true, if_false, not_true_eq_false, not_false_eq_true, s1]
    refine k70p (show 1 ≤ d by omega) hK hi hP2 (show c1.length < 160 by omega) (show -14 = cCell 10013 by decide) (fun I3 hP3 => ?_)
    simp (disch := first | assumption | exact ct_i | exact ct_r | exact ct_n | exact ct_h | omega | exact z_in (by omega) (by omega) | exact b01 | exact Or.inl rfl | exact Or.inr rfl) only [e39_0, e39_1, e39_1n, e39_2, e39_3, e39_6, e39_9, e39_10, e39_11, e39_12, e39_14, e39_17, e39_20, e39_21, e39_24, e39_26, e39_29, e39_30, e39_33, e39_35, e39_38, e39_39, e39_42, e39_44, e39_47, e39_49, e39_52, e39_54, e39_56, e39_57, e39_60, e39_61, e39_61n, e39_62, e39_63, e39_66, e39_69, e39_70, e39_71, e39_71n, e39_72, e39_74, e39_77, e39_80, e39_83, e39_84, ct_i, ct_r, ct_n, ct_h, opt_v, opt_s, ref_s, ref_n, eq_self_iff_true, true_or, or_true, zl0, zl1, zl2, zl3, zl4, zl5, zl6, zl7, zl8, zl9, zl10, zl16, zl32, zl40, zl100, zl160, zIc1, zI_lt, zI_le, nI_eq, nI_add, z_sub, nI_clamp, zI_of, uu_eq, uu_ne, Nat.reduceLT, Nat.reduceLeDiff, Nat.reduceEqDiff, Nat.reduceAdd, Nat.reduceSub, Nat.reduceMul, Nat.not_lt_zero, Nat.lt_irrefl, Nat.le_refl, Bool.false_eq_true, false_and, and_false, true_and, and_true, if_pos, if_neg, if_true, if_false, not_true_eq_false, not_false_eq_true, s1]
    exact g2 ho d I3 Q (j + 1) (.int (cCell 10013)) hd (by rw [List.length_append, List.length_singleton]; omega) (by omega) hP3 H

theorem q5_4 (hK : cK nd sh R) (hs : ∀ x, 1000000 ≤ x → sh x = (999, 0)) (hi : i < 6) {o p : Nat} {c : List Nat} {k p1 : Nat} {c1 : List Nat} (hp : p ≤ s) (hop : opc 4 (tk tp s p) = some k) (B : Bd s (nx tp s p) c p1 c1) (g1 : CG tp s i n t sh I0 L R 6 o (nx tp s p) c false p1 c1) : CG tp s i n t sh I0 L R 5 o p c false p1 c1 := by
  rw [CG_c (by decide)] at g1
  rw [CG_l (by decide)]
  obtain ⟨s1, s2, s3, s4⟩ := cPq hK
  have sT := (cPt hK hi).1
  obtain ⟨B1, B2, B3, B4⟩ := B
  have e309 : (309 : Int32) = nI 309 := rfl
  have e310 : (310 : Int32) = nI 310 := rfl
  have e311 : (311 : Int32) = nI 311 := rfl
  have e43 : (43 : Int32) = nI 43 := rfl
  have e45 : (45 : Int32) = nI 45 := rfl
  have e42 : (42 : Int32) = nI 42 := rfl
  have e60 : (60 : Int32) = nI 60 := rfl
  have e61 : (61 : Int32) = nI 61 := rfl
  have e160 : (160 : Int32) = nI 160 := rfl
  have e258 : (258 : Int32) = nI 258 := rfl
  have e300 : (300 : Int32) = nI 300 := rfl
  have e306 : (306 : Int32) = nI 306 := rfl
  have e40 : (40 : Int32) = nI 40 := rfl
  have e41 : (41 : Int32) = nI 41 := rfl
  have e5 : (5 : Int32) = nI 5 := rfl
  intro ho d I Q j l4 hd hc hj hP H
  have hlt := tk_ne (opc_ne hop).1
  have hnx := nx_gt (tp := tp) hlt
  have h3 := hP.1.2.2.1
  have h160 := hP.2.1.1
  have hj2 : j < 160 := by omega
  rcases opc_4 hop with ⟨ht, rfl⟩ | ⟨ht, rfl⟩
  · show aE (a_cl_ d) 39 (13, [.ref 11, .ref (23 + 4 * i), .int (nI o), .int (nI j), l4], [], _) Q
    rw [e39_13]
    simp (disch := first | assumption | exact ct_i | exact ct_r | exact ct_n | exact ct_h | omega | exact z_in (by omega) (by omega) | exact b01 | exact Or.inl rfl | exact Or.inr rfl) only [e39_0, e39_1, e39_1n, e39_2, e39_3, e39_6, e39_9, e39_10, e39_11, e39_12, e39_14, e39_17, e39_20, e39_21, e39_24, e39_26, e39_29, e39_30, e39_33, e39_35, e39_38, e39_39, e39_42, e39_44, e39_47, e39_49, e39_52, e39_54, e39_56, e39_57, e39_60, e39_61, e39_61n, e39_62, e39_63, e39_66, e39_69, e39_70, e39_71, e39_71n, e39_72, e39_74, e39_77, e39_80, e39_83, e39_84, ct_i, ct_r, ct_n, ct_h, opt_v, opt_s, ref_s, ref_n, eq_self_iff_true, true_or, or_true, zl0, zl1, zl2, zl3, zl4, zl5, zl6, zl7, zl8, zl9, zl10, zl16, zl32, zl40, zl100, zl160, zIc1, zI_lt, zI_le, nI_eq, nI_add, z_sub, nI_clamp, zI_of, uu_eq, uu_ne, Nat.reduceLT, Nat.reduceLeDiff, Nat.reduceEqDiff, Nat.reduceAdd, Nat.reduceSub, Nat.reduceMul, Nat.not_lt_zero, Nat.lt_irrefl, Nat.le_refl, Bool.false_eq_true, false_and, and_false, true_and, and_true, if_pos, if_neg, if_true, if_false, not_true_eq_false, not_false_eq_true, s1, h3, e43, e45, e160, ht]
    refine k27p (by simp only [kD, Nat.reduceSub, Nat.reduceEqDiff, if_true, if_false] at hd; omega) hK hs hi hP (fun I' hP' => ?_)
    simp (disch := first | assumption | exact ct_i | exact ct_r | exact ct_n | exact ct_h | omega | exact z_in (by omega) (by omega) | exact b01 | exact Or.inl rfl | exact Or.inr rfl) only [e39_0, e39_1, e39_1n, e39_2, e39_3, e39_6, e39_9, e39_10, e39_11, e39_12, e39_14, e39_17, e39_20, e39_21, e39_24, e39_26, e39_29, e39_30, e39_33, e39_35, e39_38, e39_39, e39_42, e39_44, e39_47, e39_49, e39_52, e39_54, e39_56, e39_57, e39_60, e39_61, e39_61n, e39_62, e39_63, e39_66, e39_69, e39_70, e39_71, e39_71n, e39_72, e39_74, e39_77, e39_80, e39_83, e39_84, ct_i, ct_r, ct_n, ct_h, opt_v, opt_s, ref_s, ref_n, eq_self_iff_true, true_or, or_true, zl0, zl1, zl2, zl3, zl4, zl5, zl6, zl7, zl8, zl9, zl10, zl16, zl32, zl40, zl100, zl160, zIc1, zI_lt, zI_le, nI_eq, nI_add, z_sub, nI_clamp, zI_of, uu_eq, uu_ne, Nat.reduceLT, Nat.reduceLeDiff, Nat.reduceEqDiff, Nat.reduceAdd, Nat.reduceSub, Nat.reduceMul, Nat.not_lt_zero, Nat.lt_irrefl, Nat.le_refl, Bool.false_eq_true, false_and, and_false, true_and, and_true, if_pos, if_neg, if_true, if_false, not_true_eq_false, not_false_eq_true, s1]
    refine g1 ho d I' _ (by simp only [kD, Nat.reduceSub, Nat.reduceEqDiff, if_true, if_false] at hd ⊢; omega) (by omega) hP' (fun I2 hP2 => ?_)
    have := H I2 hP2
    simp (disch := first | assumption | exact ct_i | exact ct_r | exact ct_n | exact ct_h | omega | exact z_in (by omega) (by omega) | exact b01 | exact Or.inl rfl | exact Or.inr rfl) only [Bool.false_eq_true, if_false] at this
    simp (disch := first | assumption | exact ct_i | exact ct_r | exact ct_n | exact ct_h | omega | exact z_in (by omega) (by omega) | exact b01 | exact Or.inl rfl | exact Or.inr rfl) only [e39_0, e39_1, e39_1n, e39_2, e39_3, e39_6, e39_9, e39_10, e39_11, e39_12, e39_14, e39_17, e39_20, e39_21, e39_24, e39_26, e39_29, e39_30, e39_33, e39_35, e39_38, e39_39, e39_42, e39_44, e39_47, e39_49, e39_52, e39_54, e39_56, e39_57, e39_60, e39_61, e39_61n, e39_62, e39_63, e39_66, e39_69, e39_70, e39_71, e39_71n, e39_72, e39_74, e39_77, e39_80, e39_83, e39_84, ct_i, ct_r, ct_n, ct_h, opt_v, opt_s, ref_s, ref_n, eq_self_iff_true, true_or, or_true, zl0, zl1, zl2, zl3, zl4, zl5, zl6, zl7, zl8, zl9, zl10, zl16, zl32, zl40, zl100, zl160, zIc1, zI_lt, zI_le, nI_eq, nI_add, z_sub, nI_clamp, zI_of, uu_eq, uu_ne, Nat.reduceLT, Nat.reduceLeDiff, Nat.reduceEqDiff, Nat.reduceAdd, Nat.reduceSub, Nat.reduceMul, Nat.not_lt_zero, Nat.lt_irrefl, Nat.le_refl, Bool.false_eq_true, false_and, and_false, true_and, and_true, if_pos, if_neg, if_true, if_false, not_true_eq_false, not_false_eq_true]
    exact this
  · show aE (a_cl_ d) 39 (13, [.ref 11, .ref (23 + 4 * i), .int (nI o), .int (nI j), l4], [], _) Q
    rw [e39_13]
    simp (disch := first | assumption | exact ct_i | exact ct_r | exact ct_n | exact ct_h | omega | exact z_in (by omega) (by omega) | exact b01 | exact Or.inl rfl | exact Or.inr rfl) only [e39_0, e39_1, e39_1n, e39_2, e39_3, e39_6, e39_9, e39_10, e39_11, e39_12, e39_14, e39_17, e39_20, e39_21, e39_24, e39_26, e39_29, e39_30, e39_33, e39_35, e39_38, e39_39, e39_42, e39_44, e39_47, e39_49, e39_52, e39_54, e39_56, e39_57, e39_60, e39_61, e39_61n, e39_62, e39_63, e39_66, e39_69, e39_70, e39_71, e39_71n, e39_72, e39_74, e39_77, e39_80, e39_83, e39_84, ct_i, ct_r, ct_n, ct_h, opt_v, opt_s, ref_s, ref_n, eq_self_iff_true, true_or, or_true, zl0, zl1, zl2, zl3, zl4, zl5, zl6, zl7, zl8, zl9, zl10, zl16, zl32, zl40, zl100, zl160, zIc1, zI_lt, zI_le, nI_eq, nI_add, z_sub, nI_clamp, zI_of, uu_eq, uu_ne, Nat.reduceLT, Nat.reduceLeDiff, Nat.reduceEqDiff, Nat.reduceAdd, Nat.reduceSub, Nat.reduceMul, Nat.not_lt_zero, Nat.lt_irrefl, Nat.le_refl, Bool.false_eq_true, false_and, and_false, true_and, and_true, if_pos, if_neg, if_true, if_false, not_true_eq_false, not_false_eq_true, s1, h3, e43, e45, e160, ht]
    refine k27p (by simp only [kD, Nat.reduceSub, Nat.reduceEqDiff, if_true, if_false] at hd; omega) hK hs hi hP (fun I' hP' => ?_)
    simp (disch := first | assumption | exact ct_i | exact ct_r | exact ct_n | exact ct_h | omega | exact z_in (by omega) (by omega) | exact b01 | exact Or.inl rfl | exact Or.inr rfl) only [e39_0, e39_1, e39_1n, e39_2, e39_3, e39_6, e39_9, e39_10, e39_11, e39_12, e39_14, e39_17, e39_20, e39_21, e39_24, e39_26, e39_29, e39_30, e39_33, e39_35, e39_38, e39_39, e39_42, e39_44, e39_47, e39_49, e39_52, e39_54, e39_56, e39_57, e39_60, e39_61, e39_61n, e39_62, e39_63, e39_66, e39_69, e39_70, e39_71, e39_71n, e39_72, e39_74, e39_77, e39_80, e39_83, e39_84, ct_i, ct_r, ct_n, ct_h, opt_v, opt_s, ref_s, ref_n, eq_self_iff_true, true_or, or_true, zl0, zl1, zl2, zl3, zl4, zl5, zl6, zl7, zl8, zl9, zl10, zl16, zl32, zl40, zl100, zl160, zIc1, zI_lt, zI_le, nI_eq, nI_add, z_sub, nI_clamp, zI_of, uu_eq, uu_ne, Nat.reduceLT, Nat.reduceLeDiff, Nat.reduceEqDiff, Nat.reduceAdd, Nat.reduceSub, Nat.reduceMul, Nat.not_lt_zero, Nat.lt_irrefl, Nat.le_refl, Bool.false_eq_true, false_and, and_false, true_and, and_true, if_pos, if_neg, if_true, if_false, not_true_eq_false, not_false_eq_true, s1]
    refine g1 ho d I' _ (by simp only [kD, Nat.reduceSub, Nat.reduceEqDiff, if_true, if_false] at hd ⊢; omega) (by omega) hP' (fun I2 hP2 => ?_)
    have := H I2 hP2
    simp (disch := first | assumption | exact ct_i | exact ct_r | exact ct_n | exact ct_h | omega | exact z_in (by omega) (by omega) | exact b01 | exact Or.inl rfl | exact Or.inr rfl) only [Bool.false_eq_true, if_false] at this
    simp (disch := first | assumption | exact ct_i | exact ct_r | exact ct_n | exact ct_h | omega | exact z_in (by omega) (by omega) | exact b01 | exact Or.inl rfl | exact Or.inr rfl) only [e39_0, e39_1, e39_1n, e39_2, e39_3, e39_6, e39_9, e39_10, e39_11, e39_12, e39_14, e39_17, e39_20, e39_21, e39_24, e39_26, e39_29, e39_30, e39_33, e39_35, e39_38, e39_39, e39_42, e39_44, e39_47, e39_49, e39_52, e39_54, e39_56, e39_57, e39_60, e39_61, e39_61n, e39_62, e39_63, e39_66, e39_69, e39_70, e39_71, e39_71n, e39_72, e39_74, e39_77, e39_80, e39_83, e39_84, ct_i, ct_r, ct_n, ct_h, opt_v, opt_s, ref_s, ref_n, eq_self_iff_true, true_or, or_true, zl0, zl1, zl2, zl3, zl4, zl5, zl6, zl7, zl8, zl9, zl10, zl16, zl32, zl40, zl100, zl160, zIc1, zI_lt, zI_le, nI_eq, nI_add, z_sub, nI_clamp, zI_of, uu_eq, uu_ne, Nat.reduceLT, Nat.reduceLeDiff, Nat.reduceEqDiff, Nat.reduceAdd, Nat.reduceSub, Nat.reduceMul, Nat.not_lt_zero, Nat.lt_irrefl, Nat.le_refl, Bool.false_eq_true, false_and, and_false, true_and, and_true, if_pos, if_neg, if_true, if_false, not_true_eq_false, not_false_eq_true]
    exact this

theorem q1_6 (hK : cK nd sh R) (hs : ∀ x, 1000000 ≤ x → sh x = (999, 0)) (hi : i < 6) {o p : Nat} {c : List Nat} {p1 : Nat} {c1 : List Nat} {b : Bool} {p2 : Nat} {c2 : List Nat} (B : Bd s p c p1 c1) (g1 : CG tp s i n t sh I0 L R 10 o p c true p1 c1) (g2 : CG tp s i n t sh I0 L R 7 o p1 c1 b p2 c2) : CG tp s i n t sh I0 L R 6 o p c b p2 c2 := by
  rw [CG_c (by decide)] at g1 ⊢
  rw [CG_l (by decide)] at g2
  obtain ⟨s1, s2, s3, s4⟩ := cPq hK
  have sT := (cPt hK hi).1
  obtain ⟨B1, B2, B3, B4⟩ := B
  intro ho d I Q hd hc hP H
  simp only [kD, Nat.reduceEqDiff, if_true, if_false] at hd
  show aC d 40 _ _ _
  obtain ⟨d, rfl⟩ : ∃ e, d = e + 1 := ⟨d - 1, by omega⟩
  simp (disch := first | assumption | exact ct_i | exact ct_r | exact ct_n | exact ct_h | omega | exact z_in (by omega) (by omega) | exact b01 | exact Or.inl rfl | exact Or.inr rfl) only [b40, e40_0, e40_1, e40_1n, e40_2, e40_3, e40_6, e40_9, e40_10, e40_11, e40_12, e40_14, e40_17, e40_20, e40_21, e40_24, e40_26, e40_29, e40_30, e40_33, e40_34, e40_34n, e40_35, e40_36, e40_39, e40_42, e40_43, e40_44, e40_44n, e40_45, e40_47, e40_50, e40_53, e40_56, e40_57, ct_i, ct_r, ct_n, ct_h, opt_v, opt_s, ref_s, ref_n, eq_self_iff_true, true_or, or_true, s1]
  refine g1 ho d I _ (by simp only [kD, Nat.reduceEqDiff, if_true, if_false]; omega) hc hP (fun I' hP' => ?_)
  simp (disch := first | assumption | exact ct_i | exact ct_r | exact ct_n | exact ct_h | omega | exact z_in (by omega) (by omega) | exact b01 | exact Or.inl rfl | exact Or.inr rfl) only [e40_0, e40_1, e40_1n, e40_2, e40_3, e40_6, e40_9, e40_10, e40_11, e40_12, e40_14, e40_17, e40_20, e40_21, e40_24, e40_26, e40_29, e40_30, e40_33, e40_34, e40_34n, e40_35, e40_36, e40_39, e40_42, e40_43, e40_44, e40_44n, e40_45, e40_47, e40_50, e40_53, e40_56, e40_57, ct_i, ct_r, ct_n, ct_h, opt_v, opt_s, ref_s, ref_n, eq_self_iff_true, true_or, or_true, zl0, zl1, zl2, zl3, zl4, zl5, zl6, zl7, zl8, zl9, zl10, zl16, zl32, zl40, zl100, zl160, zIc1, zI_lt, zI_le, nI_eq, nI_add, z_sub, nI_clamp, zI_of, uu_eq, uu_ne, Nat.reduceLT, Nat.reduceLeDiff, Nat.reduceEqDiff, Nat.reduceAdd, Nat.reduceSub, Nat.reduceMul, Nat.not_lt_zero, Nat.lt_irrefl, Nat.le_refl, Bool.false_eq_true, false_and, and_false, true_and, and_true, if_pos, if_neg, if_true, if_false, not_true_eq_false, not_false_eq_true]
  exact g2 ho d I' Q 0 a_hole (by simp only [kD, Nat.reduceSub, Nat.reduceEqDiff, if_true, if_false]; omega) (by omega) (Nat.zero_le _) hP' H
theorem q2_6 (hK : cK nd sh R) (hs : ∀ x, 1000000 ≤ x → sh x = (999, 0)) (hi : i < 6) {o p : Nat} {c : List Nat} {p1 : Nat} {c1 : List Nat} (B : Bd s p c p1 c1) (g1 : CG tp s i n t sh I0 L R 10 o p c false p1 c1) : CG tp s i n t sh I0 L R 6 o p c false p1 c1 := by
  rw [CG_c (by decide)] at g1 ⊢
  obtain ⟨s1, s2, s3, s4⟩ := cPq hK
  have sT := (cPt hK hi).1
  obtain ⟨B1, B2, B3, B4⟩ := B
  intro ho d I Q hd hc hP H
  simp only [kD, Nat.reduceEqDiff, if_true, if_false] at hd
  show aC d 40 _ _ _
  obtain ⟨d, rfl⟩ : ∃ e, d = e + 1 := ⟨d - 1, by omega⟩
  simp (disch := first | assumption | exact ct_i | exact ct_r | exact ct_n | exact ct_h | omega | exact z_in (by omega) (by omega) | exact b01 | exact Or.inl rfl | exact Or.inr rfl) only [b40, e40_0, e40_1, e40_1n, e40_2, e40_3, e40_6, e40_9, e40_10, e40_11, e40_12, e40_14, e40_17, e40_20, e40_21, e40_24, e40_26, e40_29, e40_30, e40_33, e40_34, e40_34n, e40_35, e40_36, e40_39, e40_42, e40_43, e40_44, e40_44n, e40_45, e40_47, e40_50, e40_53, e40_56, e40_57, ct_i, ct_r, ct_n, ct_h, opt_v, opt_s, ref_s, ref_n, eq_self_iff_true, true_or, or_true, s1]
  refine g1 ho d I _ (by simp only [kD, Nat.reduceEqDiff, if_true, if_false]; omega) hc hP (fun I' hP' => ?_)
  have := H I' hP'
  simp (disch := first | assumption | exact ct_i | exact ct_r | exact ct_n | exact ct_h | omega | exact z_in (by omega) (by omega) | exact b01 | exact Or.inl rfl | exact Or.inr rfl) only [Bool.false_eq_true, if_false] at this
  simp (disch := first | assumption | exact ct_i | exact ct_r | exact ct_n | exact ct_h | omega | exact z_in (by omega) (by omega) | exact b01 | exact Or.inl rfl | exact Or.inr rfl) only [e40_0, e40_1, e40_1n, e40_2, e40_3, e40_6, e40_9, e40_10, e40_11, e40_12, e40_14, e40_17, e40_20, e40_21, e40_24, e40_26, e40_29, e40_30, e40_33, e40_34, e40_34n, e40_35, e40_36, e40_39, e40_42, e40_43, e40_44, e40_44n, e40_45, e40_47, e40_50, e40_53, e40_56, e40_57, ct_i, ct_r, ct_n, ct_h, opt_v, opt_s, ref_s, ref_n, eq_self_iff_true, true_or, or_true, zl0, zl1, zl2, zl3, zl4, zl5, zl6, zl7, zl8, zl9, zl10, zl16, zl32, zl40, zl100, zl160, zIc1, zI_lt, zI_le, nI_eq, nI_add, z_sub, nI_clamp, zI_of, uu_eq, uu_ne, Nat.reduceLT, Nat.reduceLeDiff, Nat.reduceEqDiff, Nat.reduceAdd, Nat.reduceSub, Nat.reduceMul, Nat.not_lt_zero, Nat.lt_irrefl, Nat.le_refl, Bool.false_eq_true, false_and, and_false, true_and, and_true, if_pos, if_neg, if_true, if_false, not_true_eq_false, not_false_eq_true]
  exact this
theorem q3_6 (hK : cK nd sh R) (hs : ∀ x, 1000000 ≤ x → sh x = (999, 0)) (hi : i < 6) {o p : Nat} {c : List Nat} (hop : opc 6 (tk tp s p) = none) : CG tp s i n t sh I0 L R 7 o p c true p c := by
  rw [CG_l (by decide)]
  obtain ⟨s1, s2, s3, s4⟩ := cPq hK
  have sT := (cPt hK hi).1
  have e309 : (309 : Int32) = nI 309 := rfl
  have e310 : (310 : Int32) = nI 310 := rfl
  have e311 : (311 : Int32) = nI 311 := rfl
  have e43 : (43 : Int32) = nI 43 := rfl
  have e45 : (45 : Int32) = nI 45 := rfl
  have e42 : (42 : Int32) = nI 42 := rfl
  have e60 : (60 : Int32) = nI 60 := rfl
  have e61 : (61 : Int32) = nI 61 := rfl
  have e160 : (160 : Int32) = nI 160 := rfl
  have e258 : (258 : Int32) = nI 258 := rfl
  have e300 : (300 : Int32) = nI 300 := rfl
  have e306 : (306 : Int32) = nI 306 := rfl
  have e40 : (40 : Int32) = nI 40 := rfl
  have e41 : (41 : Int32) = nI 41 := rfl
  have e5 : (5 : Int32) = nI 5 := rfl
  intro ho d I Q j l4 hd hc hj hP H
  have hT := tk_lt (tp := tp) (s := s) (p := p)
  have hn := opc_6n hop
  have h3 := hP.1.2.2.1
  have := H I hP
  simp only [if_true] at this
  have h160 := hP.2.1.1
  have hps := hP.1.1
  show aE (a_cl_ d) 40 (13, [.ref 11, .ref (23 + 4 * i), .int (nI o), .int (nI j)], [], _) Q
  rw [e40_13]
  by_cases hj2 : j < 160
  · simp (disch := first | assumption | exact ct_i | exact ct_r | exact ct_n | exact ct_h | omega | exact z_in (by omega) (by omega) | exact b01 | exact Or.inl rfl | exact Or.inr rfl) only [e40_0, e40_1, e40_1n, e40_2, e40_3, e40_6, e40_9, e40_10, e40_11, e40_12, e40_14, e40_17, e40_20, e40_21, e40_24, e40_26, e40_29, e40_30, e40_33, e40_34, e40_34n, e40_35, e40_36, e40_39, e40_42, e40_43, e40_44, e40_44n, e40_45, e40_47, e40_50, e40_53, e40_56, e40_57, ct_i, ct_r, ct_n, ct_h, opt_v, opt_s, ref_s, ref_n, eq_self_iff_true, true_or, or_true, zl0, zl1, zl2, zl3, zl4, zl5, zl6, zl7, zl8, zl9, zl10, zl16, zl32, zl40, zl100, zl160, zIc1, zI_lt, zI_le, nI_eq, nI_add, z_sub, nI_clamp, zI_of, uu_eq, uu_ne, Nat.reduceLT, Nat.reduceLeDiff, Nat.reduceEqDiff, Nat.reduceAdd, Nat.reduceSub, Nat.reduceMul, Nat.not_lt_zero, Nat.lt_irrefl, Nat.le_refl, Bool.false_eq_true, false_and, and_false, true_and, and_true, if_pos, if_neg, if_true, if_false, not_true_eq_false, not_false_eq_true, s1, h3, e42, e160, hn]
    exact this
  · simp (disch := first | assumption | exact ct_i | exact ct_r | exact ct_n | exact ct_h | omega | exact z_in (by omega) (by omega) | exact b01 | exact Or.inl rfl | exact Or.inr rfl) only [e40_0, e40_1, e40_1n, e40_2, e40_3, e40_6, e40_9, e40_10, e40_11, e40_12, e40_14, e40_17, e40_20, e40_21, e40_24, e40_26, e40_29, e40_30, e40_33, e40_34, e40_34n, e40_35, e40_36, e40_39, e40_42, e40_43, e40_44, e40_44n, e40_45, e40_47, e40_50, e40_53, e40_56, e40_57, ct_i, ct_r, ct_n, ct_h, opt_v, opt_s, ref_s, ref_n, eq_self_iff_true, true_or, or_true, zl0, zl1, zl2, zl3, zl4, zl5, zl6, zl7, zl8, zl9, zl10, zl16, zl32, zl40, zl100, zl160, zIc1, zI_lt, zI_le, nI_eq, nI_add, z_sub, nI_clamp, zI_of, uu_eq, uu_ne, Nat.reduceLT, Nat.reduceLeDiff, Nat.reduceEqDiff, Nat.reduceAdd, Nat.reduceSub, Nat.reduceMul, Nat.not_lt_zero, Nat.lt_irrefl, Nat.le_refl, Bool.false_eq_true, false_and, and_false, true_and, and_true, if_pos, if_neg, if_true, if_false, not_true_eq_false, not_false_eq_true, s1, h3, e42, e160, hn]
    exact this

theorem q4_6 (hK : cK nd sh R) (hs : ∀ x, 1000000 ≤ x → sh x = (999, 0)) (hi : i < 6) {o p : Nat} {c : List Nat} {k p1 : Nat} {c1 : List Nat} {b : Bool} {p2 : Nat} {c2 : List Nat} (hp : p ≤ s) (hop : opc 6 (tk tp s p) = some k) (B : Bd s (nx tp s p) c p1 c1) (g1 : CG tp s i n t sh I0 L R 10 o (nx tp s p) c true p1 c1) (g2 : CG tp s i n t sh I0 L R 7 o p1 (c1 ++ [k]) b p2 c2) : CG tp s i n t sh I0 L R 7 o p c b p2 c2 := by
  rw [CG_c (by decide)] at g1
  rw [CG_l (by decide)] at g2 ⊢
  obtain ⟨s1, s2, s3, s4⟩ := cPq hK
  have sT := (cPt hK hi).1
  obtain ⟨B1, B2, B3, B4⟩ := B
  have e309 : (309 : Int32) = nI 309 := rfl
  have e310 : (310 : Int32) = nI 310 := rfl
  have e311 : (311 : Int32) = nI 311 := rfl
  have e43 : (43 : Int32) = nI 43 := rfl
  have e45 : (45 : Int32) = nI 45 := rfl
  have e42 : (42 : Int32) = nI 42 := rfl
  have e60 : (60 : Int32) = nI 60 := rfl
  have e61 : (61 : Int32) = nI 61 := rfl
  have e160 : (160 : Int32) = nI 160 := rfl
  have e258 : (258 : Int32) = nI 258 := rfl
  have e300 : (300 : Int32) = nI 300 := rfl
  have e306 : (306 : Int32) = nI 306 := rfl
  have e40 : (40 : Int32) = nI 40 := rfl
  have e41 : (41 : Int32) = nI 41 := rfl
  have e5 : (5 : Int32) = nI 5 := rfl
  intro ho d I Q j l4 hd hc hj hP H
  have hlt := tk_ne (opc_ne hop).1
  have hnx := nx_gt (tp := tp) hlt
  have h3 := hP.1.2.2.1
  have h160 := hP.2.1.1
  have hj2 : j < 160 := by omega
  obtain ⟨ht, rfl⟩ := opc_6 hop
  show aE (a_cl_ d) 40 (13, [.ref 11, .ref (23 + 4 * i), .int (nI o), .int (nI j)], [], _) Q
  rw [e40_13]
  simp (disch := first | assumption | exact ct_i | exact ct_r | exact ct_n | exact ct_h | omega | exact z_in (by omega) (by omega) | exact b01 | exact Or.inl rfl | exact Or.inr rfl) only [e40_0, e40_1, e40_1n, e40_2, e40_3, e40_6, e40_9, e40_10, e40_11, e40_12, e40_14, e40_17, e40_20, e40_21, e40_24, e40_26, e40_29, e40_30, e40_33, e40_34, e40_34n, e40_35, e40_36, e40_39, e40_42, e40_43, e40_44, e40_44n, e40_45, e40_47, e40_50, e40_53, e40_56, e40_57, ct_i, ct_r, ct_n, ct_h, opt_v, opt_s, ref_s, ref_n, eq_self_iff_true, true_or, or_true, zl0, zl1, zl2, zl3, zl4, zl5, zl6, zl7, zl8, zl9, zl10, zl16, zl32, zl40, zl100, zl160, zIc1, zI_lt, zI_le, nI_eq, nI_add, z_sub, nI_clamp, zI_of, uu_eq, uu_ne, Nat.reduceLT, Nat.reduceLeDiff, Nat.reduceEqDiff, Nat.reduceAdd, Nat.reduceSub, Nat.reduceMul, Nat.not_lt_zero, Nat.lt_irrefl, Nat.le_refl, Bool.false_eq_true, false_and, and_false, true_and, and_true, if_pos, if_neg, if_true, if_false, not_true_eq_false, not_false_eq_true, s1, h3, e42, e160, ht]
  refine k27p (by simp only [kD, Nat.reduceSub, Nat.reduceEqDiff, if_true, if_false] at hd; omega) hK hs hi hP (fun I' hP' => ?_)
  simp (disch := first | assumption | exact ct_i | exact ct_r | exact ct_n | exact ct_h | omega | exact z_in (by omega) (by omega) | exact b01 | exact Or.inl rfl | exact Or.inr rfl) only [e40_0, e40_1, e40_1n, e40_2, e40_3, e40_6, e40_9, e40_10, e40_11, e40_12, e40_14, e40_17, e40_20, e40_21, e40_24, e40_26, e40_29, e40_30, e40_33, e40_34, e40_34n, e40_35, e40_36, e40_39, e40_42, e40_43, e40_44, e40_44n, e40_45, e40_47, e40_50, e40_53, e40_56, e40_57, ct_i, ct_r, ct_n, ct_h, opt_v, opt_s, ref_s, ref_n, eq_self_iff_true, true_or, or_true, zl0, zl1, zl2, zl3, zl4, zl5, zl6, zl7, zl8, zl9, zl10, zl16, zl32, zl40, zl100, zl160, zIc1, zI_lt, zI_le, nI_eq, nI_add, z_sub, nI_clamp, zI_of, uu_eq, uu_ne, Nat.reduceLT, Nat.reduceLeDiff, Nat.reduceEqDiff, Nat.reduceAdd, Nat.reduceSub, Nat.reduceMul, Nat.not_lt_zero, Nat.lt_irrefl, Nat.le_refl, Bool.false_eq_true, false_and, and_false, true_and, and_true, if_pos, if_neg, if_true, if_false, not_true_eq_false, not_false_eq_true, s1]
  refine g1 ho d I' _ (by simp only [kD, Nat.reduceSub, Nat.reduceEqDiff, if_true, if_false] at hd ⊢; omega) (by omega) hP' (fun I2 hP2 => ?_)
  simp (disch := first | assumption | exact ct_i | exact ct_r | exact ct_n | exact ct_h | omega | exact z_in (by omega) (by omega) | exact b01 | exact Or.inl rfl | exact Or.inr rfl) only [e40_0, e40_1, e40_1n, e40_2, e40_3, e40_6, e40_9, e40_10, e40_11, e40_12, e40_14, e40_17, e40_20, e40_21, e40_24, e40_26, e40_29, e40_30, e40_33, e40_34, e40_34n, e40_35, e40_36, e40_39, e40_42, e40_43, e40_44, e40_44n, e40_45, e40_47, e40_50, e40_53, e40_56, e40_57, ct_i, ct_r, ct_n, ct_h, opt_v, opt_s, ref_s, ref_n, eq_self_iff_true, true_or, or_true, zl0, zl1, zl2, zl3, zl4, zl5, zl6, zl7, zl8, zl9, zl10, zl16, zl32, zl40, zl100, zl160, zIc1, zI_lt, zI_le, nI_eq, nI_add, z_sub, nI_clamp, zI_of, uu_eq, uu_ne, Nat.reduceLT, Nat.reduceLeDiff, Nat.reduceEqDiff, Nat.reduceAdd, Nat.reduceSub, Nat.reduceMul, Nat.not_lt_zero, Nat.lt_irrefl, Nat.le_refl, Bool.false_eq_true, false_and, and_false, true_and, and_true, if_pos, if_neg, if_true, if_false, not_true_eq_false, not_false_eq_true, s1]
  refine k70p (show 1 ≤ d by omega) hK hi hP2 (show c1.length < 160 by omega) (show -15 = cCell 10014 by decide) (fun I3 hP3 => ?_)
  simp (disch := first | assumption | exact ct_i | exact ct_r | exact ct_n | exact ct_h | omega | exact z_in (by omega) (by omega) | exact b01 | exact Or.inl rfl | exact Or.inr rfl) only [e40_0, e40_1, e40_1n, e40_2, e40_3, e40_6, e40_9, e40_10, e40_11, e40_12, e40_14, e40_17, e40_20, e40_21, e40_24, e40_26, e40_29, e40_30, e40_33, e40_34, e40_34n, e40_35, e40_36, e40_39, e40_42, e40_43, e40_44, e40_44n, e40_45, e40_47, e40_50, e40_53, e40_56, e40_57, ct_i, ct_r, ct_n, ct_h, opt_v, opt_s, ref_s, ref_n, eq_self_iff_true, true_or, or_true, zl0, zl1, zl2, zl3, zl4, zl5, zl6, zl7, zl8, zl9, zl10, zl16, zl32, zl40, zl100, zl160, zIc1, zI_lt, zI_le, nI_eq, nI_add, z_sub, nI_clamp, zI_of, uu_eq, uu_ne, Nat.reduceLT, Nat.reduceLeDiff, Nat.reduceEqDiff, Nat.reduceAdd, Nat.reduceSub, Nat.reduceMul, Nat.not_lt_zero, Nat.lt_irrefl, Nat.le_refl, Bool.false_eq_true, false_and, and_false, true_and, and_true, if_pos, if_neg, if_true, if_false, not_true_eq_false, not_false_eq_true, s1]
  exact g2 ho d I3 Q (j + 1) a_hole hd (by rw [List.length_append, List.length_singleton]; omega) (by omega) hP3 H

theorem q5_6 (hK : cK nd sh R) (hs : ∀ x, 1000000 ≤ x → sh x = (999, 0)) (hi : i < 6) {o p : Nat} {c : List Nat} {k p1 : Nat} {c1 : List Nat} (hp : p ≤ s) (hop : opc 6 (tk tp s p) = some k) (B : Bd s (nx tp s p) c p1 c1) (g1 : CG tp s i n t sh I0 L R 10 o (nx tp s p) c false p1 c1) : CG tp s i n t sh I0 L R 7 o p c false p1 c1 := by
  rw [CG_c (by decide)] at g1
  rw [CG_l (by decide)]
  obtain ⟨s1, s2, s3, s4⟩ := cPq hK
  have sT := (cPt hK hi).1
  obtain ⟨B1, B2, B3, B4⟩ := B
  have e309 : (309 : Int32) = nI 309 := rfl
  have e310 : (310 : Int32) = nI 310 := rfl
  have e311 : (311 : Int32) = nI 311 := rfl
  have e43 : (43 : Int32) = nI 43 := rfl
  have e45 : (45 : Int32) = nI 45 := rfl
  have e42 : (42 : Int32) = nI 42 := rfl
  have e60 : (60 : Int32) = nI 60 := rfl
  have e61 : (61 : Int32) = nI 61 := rfl
  have e160 : (160 : Int32) = nI 160 := rfl
  have e258 : (258 : Int32) = nI 258 := rfl
  have e300 : (300 : Int32) = nI 300 := rfl
  have e306 : (306 : Int32) = nI 306 := rfl
  have e40 : (40 : Int32) = nI 40 := rfl
  have e41 : (41 : Int32) = nI 41 := rfl
  have e5 : (5 : Int32) = nI 5 := rfl
  intro ho d I Q j l4 hd hc hj hP H
  have hlt := tk_ne (opc_ne hop).1
  have hnx := nx_gt (tp := tp) hlt
  have h3 := hP.1.2.2.1
  have h160 := hP.2.1.1
  have hj2 : j < 160 := by omega
  obtain ⟨ht, rfl⟩ := opc_6 hop
  show aE (a_cl_ d) 40 (13, [.ref 11, .ref (23 + 4 * i), .int (nI o), .int (nI j)], [], _) Q
  rw [e40_13]
  simp (disch := first | assumption | exact ct_i | exact ct_r | exact ct_n | exact ct_h | omega | exact z_in (by omega) (by omega) | exact b01 | exact Or.inl rfl | exact Or.inr rfl) only [e40_0, e40_1, e40_1n, e40_2, e40_3, e40_6, e40_9, e40_10, e40_11, e40_12, e40_14, e40_17, e40_20, e40_21, e40_24, e40_26, e40_29, e40_30, e40_33, e40_34, e40_34n, e40_35, e40_36, e40_39, e40_42, e40_43, e40_44, e40_44n, e40_45, e40_47, e40_50, e40_53, e40_56, e40_57, ct_i, ct_r, ct_n, ct_h, opt_v, opt_s, ref_s, ref_n, eq_self_iff_true, true_or, or_true, zl0, zl1, zl2, zl3, zl4, zl5, zl6, zl7, zl8, zl9, zl10, zl16, zl32, zl40, zl100, zl160, zIc1, zI_lt, zI_le, nI_eq, nI_add, z_sub, nI_clamp, zI_of, uu_eq, uu_ne, Nat.reduceLT, Nat.reduceLeDiff, Nat.reduceEqDiff, Nat.reduceAdd, Nat.reduceSub, Nat.reduceMul, Nat.not_lt_zero, Nat.lt_irrefl, Nat.le_refl, Bool.false_eq_true, false_and, and_false, true_and, and_true, if_pos, if_neg, if_true, if_false, not_true_eq_false, not_false_eq_true, s1, h3, e42, e160, ht]
  refine k27p (by simp only [kD, Nat.reduceSub, Nat.reduceEqDiff, if_true, if_false] at hd; omega) hK hs hi hP (fun I' hP' => ?_)
  simp (disch := first | assumption | exact ct_i | exact ct_r | exact ct_n | exact ct_h | omega | exact z_in (by omega) (by omega) | exact b01 | exact Or.inl rfl | exact Or.inr rfl) only [e40_0, e40_1, e40_1n, e40_2, e40_3, e40_6, e40_9, e40_10, e40_11, e40_12, e40_14, e40_17, e40_20, e40_21, e40_24, e40_26, e40_29, e40_30, e40_33, e40_34, e40_34n, e40_35, e40_36, e40_39, e40_42, e40_43, e40_44, e40_44n, e40_45, e40_47, e40_50, e40_53, e40_56, e40_57, ct_i, ct_r, ct_n, ct_h, opt_v, opt_s, ref_s, ref_n, eq_self_iff_true, true_or, or_true, zl0, zl1, zl2, zl3, zl4, zl5, zl6, zl7, zl8, zl9, zl10, zl16, zl32, zl40, zl100, zl160, zIc1, zI_lt, zI_le, nI_eq, nI_add, z_sub, nI_clamp, zI_of, uu_eq, uu_ne, Nat.reduceLT, Nat.reduceLeDiff, Nat.reduceEqDiff, Nat.reduceAdd, Nat.reduceSub, Nat.reduceMul, Nat.not_lt_zero, Nat.lt_irrefl, Nat.le_refl, Bool.false_eq_true, false_and, and_false, true_and, and_true, if_pos, if_neg, if_true, if_false, not_true_eq_false, not_false_eq_true, s1]
  refine g1 ho d I' _ (by simp only [kD, Nat.reduceSub, Nat.reduceEqDiff, if_true, if_false] at hd ⊢; omega) (by omega) hP' (fun I2 hP2 => ?_)
  have := H I2 hP2
  simp (disch := first | assumption | exact ct_i | exact ct_r | exact ct_n | exact ct_h | omega | exact z_in (by omega) (by omega) | exact b01 | exact Or.inl rfl | exact Or.inr rfl) only [Bool.false_eq_true, if_false] at this
  simp (disch := first | assumption | exact ct_i | exact ct_r | exact ct_n | exact ct_h | omega | exact z_in (by omega) (by omega) | exact b01 | exact Or.inl rfl | exact Or.inr rfl) only [e40_0, e40_1, e40_1n, e40_2, e40_3, e40_6, e40_9, e40_10, e40_11, e40_12, e40_14, e40_17, e40_20, e40_21, e40_24, e40_26, e40_29, e40_30, e40_33, e40_34, e40_34n, e40_35, e40_36, e40_39, e40_42, e40_43, e40_44, e40_44n, e40_45, e40_47, e40_50, e40_53, e40_56, e40_57, ct_i, ct_r, ct_n, ct_h, opt_v, opt_s, ref_s, ref_n, eq_self_iff_true, true_or, or_true, zl0, zl1, zl2, zl3, zl4, zl5, zl6, zl7, zl8, zl9, zl10, zl16, zl32, zl40, zl100, zl160, zIc1, zI_lt, zI_le, nI_eq, nI_add, z_sub, nI_clamp, zI_of, uu_eq, uu_ne, Nat.reduceLT, Nat.reduceLeDiff, Nat.reduceEqDiff, Nat.reduceAdd, Nat.reduceSub, Nat.reduceMul, Nat.not_lt_zero, Nat.lt_irrefl, Nat.le_refl, Bool.false_eq_true, false_and, and_false, true_and, and_true, if_pos, if_neg, if_true, if_false, not_true_eq_false, not_false_eq_true]
  exact this

end
