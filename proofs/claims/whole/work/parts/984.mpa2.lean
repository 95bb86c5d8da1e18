/-! the model's reader does the pure reading -/
def mdM (lv : Nat) : Nat := if lv = 0 then 146 else if lv = 2 then 147 else if lv = 8 then 148 else if lv = 4 then 151 else if lv = 6 then 152 else 153
section
variable (tp : Nat → Nat) (s i : Nat) (n t : Nat) (sh : Nat → Nat × Nat) (I0 : Nat → Nat → Int32) (L : Nat → Nat → Int64) (R : Nat → Nat → Option Nat)
def pQ (b : Bool) (o p1 : Nat) (c1 : List Nat) (p0 : Nat) (c0 : List Nat) (I : Nat → Nat → Int32) : Prop := if b = true then pO tp s i o p1 c1 I0 I else ∃ e, pW i p1 e I0 I ∧ e + p0 ≤ c0.length + p1
def CMc (lv o p : Nat) (c : List Nat) (b : Bool) (p1 : Nat) (c1 : List Nat) : Prop := ∀ d I Q, 12 * (5 - o) + 10 + kD lv ≤ d → c.length ≤ p → pO tp s i o p c I0 I → (∀ I', pQ tp s i I0 b o p1 c1 p c I' → Q none (n, t, sh, I', L, R)) → aC d (mdM lv) [.ref 0] (n, t, sh, I, L, R) Q
def CM9 (o p : Nat) (c : List Nat) (b : Bool) (p1 : Nat) (c1 : List Nat) : Prop := ∀ d I Q l1, 12 * (5 - o) + 12 ≤ d → c.length ≤ p → pO tp s i o p c I0 I → (∀ I', pQ tp s i I0 b o p1 c1 p c I' → Q none (n, t, sh, I', L, R)) → aE (a_cl_ d) 148 (36, [.ref 0, l1], [], (n, t, sh, I, L, R)) Q
def CMl (lv o p : Nat) (c : List Nat) (b : Bool) (p1 : Nat) (c1 : List Nat) : Prop := ∀ d I Q l1, 12 * (5 - o) + 9 + kD (lv - 1) ≤ d → c.length ≤ p → pO tp s i o p c I0 I → (∀ I', pQ tp s i I0 b o p1 c1 p c I' → Q none (n, t, sh, I', L, R)) →
  aE (a_cl_ d) (mdM (lv - 1)) (4, .ref 0 :: (if lv = 5 then [l1] else []), [], (n, t, sh, I, L, R)) Q
def CM (lv o p : Nat) (c : List Nat) (b : Bool) (p1 : Nat) (c1 : List Nat) : Prop := o ≤ 5 → if lv % 2 = 1 ∧ lv < 8 then CMl tp s i n t sh I0 L R lv o p c b p1 c1 else if lv = 9 then CM9 tp s i n t sh I0 L R o p c b p1 c1 else CMc tp s i n t sh I0 L R lv o p c b p1 c1
end
section
variable {tp : Nat → Nat} {s i : Nat} {n t : Nat} {sh : Nat → Nat × Nat} {I0 : Nat → Nat → Int32} {L : Nat → Nat → Int64} {R : Nat → Nat → Option Nat}
theorem CM_c {lv o p : Nat} {c : List Nat} {b : Bool} {p1 : Nat} {c1 : List Nat} (h : ¬ (lv % 2 = 1 ∧ lv < 8) ∧ ¬ lv = 9) : CM tp s i n t sh I0 L R lv o p c b p1 c1 ↔ (o ≤ 5 → CMc tp s i n t sh I0 L R lv o p c b p1 c1) := by unfold CM; rw [if_neg h.1, if_neg h.2]
theorem CM_9 {o p : Nat} {c : List Nat} {b : Bool} {p1 : Nat} {c1 : List Nat} : CM tp s i n t sh I0 L R 9 o p c b p1 c1 ↔ (o ≤ 5 → CM9 tp s i n t sh I0 L R o p c b p1 c1) := by unfold CM; rw [if_neg (by decide), if_pos rfl]
theorem CM_l {lv o p : Nat} {c : List Nat} {b : Bool} {p1 : Nat} {c1 : List Nat} (h : lv % 2 = 1 ∧ lv < 8) : CM tp s i n t sh I0 L R lv o p c b p1 c1 ↔ (o ≤ 5 → CMl tp s i n t sh I0 L R lv o p c b p1 c1) := by unfold CM; rw [if_pos h]
theorem pQ_t {o p1 : Nat} {c1 : List Nat} {p0 : Nat} {c0 : List Nat} {I : Nat → Nat → Int32} : pQ tp s i I0 true o p1 c1 p0 c0 I ↔ pO tp s i o p1 c1 I0 I := by unfold pQ; rw [if_pos rfl]
theorem pQ_f {o p1 : Nat} {c1 : List Nat} {p0 : Nat} {c0 : List Nat} {I : Nat → Nat → Int32} : pQ tp s i I0 false o p1 c1 p0 c0 I ↔ ∃ e, pW i p1 e I0 I ∧ e + p0 ≤ c0.length + p1 := by unfold pQ; rw [if_neg (by decide)]
theorem pQ_mv {b : Bool} {o p1 : Nat} {c1 : List Nat} {p0 p2 : Nat} {c0 c2 : List Nat} {I : Nat → Nat → Int32} (h : pQ tp s i I0 b o p1 c1 p0 c0 I) (hb : c0.length + p2 ≤ c2.length + p0) : pQ tp s i I0 b o p1 c1 p2 c2 I := by
  cases b with
  | true => rw [pQ_t] at h ⊢; exact h
  | false =>
    rw [pQ_f] at h ⊢
    obtain ⟨e, h1, h2⟩ := h
    exact ⟨e, h1, by omega⟩

theorem u1_0 (hM : mK sh R) (hs160 : s ≤ 160) (hi : i < 6) {o p : Nat} {c : List Nat} {p1 : Nat} {c1 : List Nat} {b : Bool} {p2 : Nat} {c2 : List Nat} (B : Bd s p c p1 c1) (g1 : CM tp s i n t sh I0 L R 2 o p c true p1 c1) (g2 : CM tp s i n t sh I0 L R 1 o p1 c1 b p2 c2) : CM tp s i n t sh I0 L R 0 o p c b p2 c2 := by
  rw [CM_c (by decide)] at g1 ⊢
  rw [CM_l (by decide)] at g2
  have m0 := mm_0 hM
  obtain ⟨B1, B2, B3, B4⟩ := B
  intro ho d I Q hd hc hP H
  simp only [kD, Nat.reduceEqDiff, if_true, if_false] at hd
  show aC d 146 _ _ _
  obtain ⟨d, rfl⟩ : ∃ e, d = e + 1 := ⟨d - 1, by omega⟩
  simp (disch := first | assumption | exact ct_i | exact ct_r | exact ct_n | exact ct_h | omega | exact z_in (by omega) (by omega) | exact b01 | exact Or.inl rfl | exact Or.inr rfl) only [b146, e146_0, e146_1, e146_5, e146_6, e146_9, e146_12, e146_13, e146_16, e146_17, e146_20, e146_21, e146_23, e146_26, e146_29, ct_i, ct_r, ct_n, ct_h, opt_v, opt_s, ref_s, ref_n, eq_self_iff_true, true_or, or_true, m0]
  refine g1 ho d I _ (by simp only [kD, Nat.reduceSub, Nat.reduceEqDiff, if_true, if_false] at hd ⊢; omega) hc hP (fun I' hP' => ?_)
  rw [pQ_t] at hP'
  simp (disch := first | assumption | exact ct_i | exact ct_r | exact ct_n | exact ct_h | omega | exact z_in (by omega) (by omega) | exact b01 | exact Or.inl rfl | exact Or.inr rfl) only [e146_0, e146_1, e146_5, e146_6, e146_9, e146_12, e146_13, e146_16, e146_17, e146_20, e146_21, e146_23, e146_26, e146_29, ct_i, ct_r, ct_n, ct_h, opt_v, opt_s, ref_s, ref_n, eq_self_iff_true, true_or, or_true]
  exact g2 ho d I' Q a_hole (by simp only [kD, Nat.reduceSub, Nat.reduceEqDiff, if_true, if_false] at hd ⊢; omega) (by omega) hP' (fun I2 h2 => H I2 (pQ_mv h2 (by omega)))
theorem u2_0 (hM : mK sh R) (hs160 : s ≤ 160) (hi : i < 6) {o p : Nat} {c : List Nat} {p1 : Nat} {c1 : List Nat} (B : Bd s p c p1 c1) (g1 : CM tp s i n t sh I0 L R 2 o p c false p1 c1) : CM tp s i n t sh I0 L R 0 o p c false p1 c1 := by
  rw [CM_c (by decide)] at g1 ⊢
  have m0 := mm_0 hM
  obtain ⟨B1, B2, B3, B4⟩ := B
  have e43 : (43 : Int32) = nI 43 := rfl
  have e45 : (45 : Int32) = nI 45 := rfl
  have e42 : (42 : Int32) = nI 42 := rfl
  have e60 : (60 : Int32) = nI 60 := rfl
  have e61 : (61 : Int32) = nI 61 := rfl
  have e41 : (41 : Int32) = nI 41 := rfl
  intro ho d I Q hd hc hP H
  simp only [kD, Nat.reduceEqDiff, if_true, if_false] at hd
  show aC d 146 _ _ _
  obtain ⟨d, rfl⟩ : ∃ e, d = e + 1 := ⟨d - 1, by omega⟩
  simp (disch := first | assumption | exact ct_i | exact ct_r | exact ct_n | exact ct_h | omega | exact z_in (by omega) (by omega) | exact b01 | exact Or.inl rfl | exact Or.inr rfl) only [b146, e146_0, e146_1, e146_5, e146_6, e146_9, e146_12, e146_13, e146_16, e146_17, e146_20, e146_21, e146_23, e146_26, e146_29, ct_i, ct_r, ct_n, ct_h, opt_v, opt_s, ref_s, ref_n, eq_self_iff_true, true_or, or_true, m0]
  refine g1 ho d I _ (by simp only [kD, Nat.reduceSub, Nat.reduceEqDiff, if_true, if_false] at hd ⊢; omega) hc hP (fun I' hP' => ?_)
  have q := H I' hP'
  rw [pQ_f] at hP'
  obtain ⟨e, hW, he⟩ := hP'
  simp (disch := first | assumption | exact ct_i | exact ct_r | exact ct_n | exact ct_h | omega | exact z_in (by omega) (by omega) | exact b01 | exact Or.inl rfl | exact Or.inr rfl) only [e146_0, e146_1, e146_4, e146_5, e146_6, e146_9, e146_12, e146_13, e146_16, e146_17, e146_20, e146_21, e146_23, e146_26, e146_29, ct_i, ct_r, ct_n, ct_h, opt_v, opt_s, ref_s, ref_n, eq_self_iff_true, true_or, or_true, zl0, zl1, zl2, zl3, zl4, zl5, zl6, zl7, zl8, zl9, zl10, zl16, zl32, zl40, zl100, zl160, zIc1, zI_lt, zI_le, nI_eq, nI_add, z_sub, nI_clamp, zI_of, uu_eq, uu_ne, Nat.reduceLT, Nat.reduceLeDiff, Nat.reduceEqDiff, Nat.reduceAdd, Nat.reduceSub, Nat.reduceMul, Nat.not_lt_zero, Nat.lt_irrefl, Nat.le_refl, Bool.false_eq_true, false_and, and_false, true_and, and_true, if_pos, if_neg, if_true, if_false, not_true_eq_false, not_false_eq_true, m0, e43, e45, e42, k144w (show 1 ≤ d by omega) hM hW]
  exact q
theorem u3_0 (hM : mK sh R) (hs160 : s ≤ 160) (hi : i < 6) {o p : Nat} {c : List Nat} (hop : opc 0 (tk tp s p) = none) : CM tp s i n t sh I0 L R 1 o p c true p c := by
  rw [CM_l (by decide)]
  have m0 := mm_0 hM
  have e43 : (43 : Int32) = nI 43 := rfl
  have e45 : (45 : Int32) = nI 45 := rfl
  have e42 : (42 : Int32) = nI 42 := rfl
  have e60 : (60 : Int32) = nI 60 := rfl
  have e61 : (61 : Int32) = nI 61 := rfl
  have e41 : (41 : Int32) = nI 41 := rfl
  intro ho d I Q l1 hd hc hP H
  simp only [kD, Nat.reduceSub, Nat.reduceEqDiff, if_true, if_false] at hd
  have hT := tk_lt (tp := tp) (s := s) (p := p)
  have hn := opc_0n hop
  have q := H I (pQ_t.mpr hP)
  show aE (a_cl_ d) 146 (4, [.ref 0], [], _) Q
  rw [e146_4]
  simp (disch := first | assumption | exact ct_i | exact ct_r | exact ct_n | exact ct_h | omega | exact z_in (by omega) (by omega) | exact b01 | exact Or.inl rfl | exact Or.inr rfl) only [e146_0, e146_1, e146_5, e146_6, e146_9, e146_12, e146_13, e146_16, e146_17, e146_20, e146_21, e146_23, e146_26, e146_29, ct_i, ct_r, ct_n, ct_h, opt_v, opt_s, ref_s, ref_n, eq_self_iff_true, true_or, or_true, zl0, zl1, zl2, zl3, zl4, zl5, zl6, zl7, zl8, zl9, zl10, zl16, zl32, zl40, zl100, zl160, zIc1, zI_lt, zI_le, nI_eq, nI_add, z_sub, nI_clamp, zI_of, uu_eq, uu_ne, Nat.reduceLT, Nat.reduceLeDiff, Nat.reduceEqDiff, Nat.reduceAdd, Nat.reduceSub, Nat.reduceMul, Nat.not_lt_zero, Nat.lt_irrefl, Nat.le_refl, Bool.false_eq_true, false_and, and_false, true_and, and_true, if_pos, if_neg, if_true, if_false, not_true_eq_false, not_false_eq_true, m0, e43, e45, e42, k144p (show 1 ≤ d by omega) hM hP (show 3 < 90 by decide), hn]
  exact q

theorem u4_0 (hM : mK sh R) (hs160 : s ≤ 160) (hi : i < 6) {o p : Nat} {c : List Nat} {k p1 : Nat} {c1 : List Nat} {b : Bool} {p2 : Nat} {c2 : List Nat} (hp : p ≤ s) (hop : opc 0 (tk tp s p) = some k) (B : Bd s (nx tp s p) c p1 c1) (g1 : CM tp s i n t sh I0 L R 2 o (nx tp s p) c true p1 c1) (g2 : CM tp s i n t sh I0 L R 1 o p1 (c1 ++ [k]) b p2 c2) : CM tp s i n t sh I0 L R 1 o p c b p2 c2 := by
  rw [CM_c (by decide)] at g1
  rw [CM_l (by decide)] at g2 ⊢
  have m0 := mm_0 hM
  obtain ⟨B1, B2, B3, B4⟩ := B
  have e43 : (43 : Int32) = nI 43 := rfl
  have e45 : (45 : Int32) = nI 45 := rfl
  have e42 : (42 : Int32) = nI 42 := rfl
  have e60 : (60 : Int32) = nI 60 := rfl
  have e61 : (61 : Int32) = nI 61 := rfl
  have e41 : (41 : Int32) = nI 41 := rfl
  intro ho d I Q l1 hd hc hP H
  simp only [kD, Nat.reduceSub, Nat.reduceEqDiff, if_true, if_false] at hd
  have hT := tk_lt (tp := tp) (s := s) (p := p)
  have hlt := tk_ne (opc_ne hop).1
  have hnx := nx_gt (tp := tp) hlt
  obtain ⟨ht, rfl⟩ := opc_0 hop
  show aE (a_cl_ d) 146 (4, [.ref 0], [], _) Q
  rw [e146_4]
  simp (disch := first | assumption | exact ct_i | exact ct_r | exact ct_n | exact ct_h | omega | exact z_in (by omega) (by omega) | exact b01 | exact Or.inl rfl | exact Or.inr rfl) only [e146_0, e146_1, e146_5, e146_6, e146_9, e146_12, e146_13, e146_16, e146_17, e146_20, e146_21, e146_23, e146_26, e146_29, ct_i, ct_r, ct_n, ct_h, opt_v, opt_s, ref_s, ref_n, eq_self_iff_true, true_or, or_true, zl0, zl1, zl2, zl3, zl4, zl5, zl6, zl7, zl8, zl9, zl10, zl16, zl32, zl40, zl100, zl160, zIc1, zI_lt, zI_le, nI_eq, nI_add, z_sub, nI_clamp, zI_of, uu_eq, uu_ne, Nat.reduceLT, Nat.reduceLeDiff, Nat.reduceEqDiff, Nat.reduceAdd, Nat.reduceSub, Nat.reduceMul, Nat.not_lt_zero, Nat.lt_irrefl, Nat.le_refl, Bool.false_eq_true, false_and, and_false, true_and, and_true, if_pos, if_neg, if_true, if_false, not_true_eq_false, not_false_eq_true, m0, e43, e45, e42, k144p (show 1 ≤ d by omega) hM hP (show 3 < 90 by decide), ht]
  refine k138p (show 4 ≤ d by omega) hM hP (fun I' hP' => ?_)
  simp (disch := first | assumption | exact ct_i | exact ct_r | exact ct_n | exact ct_h | omega | exact z_in (by omega) (by omega) | exact b01 | exact Or.inl rfl | exact Or.inr rfl) only [e146_0, e146_1, e146_5, e146_6, e146_9, e146_12, e146_13, e146_16, e146_17, e146_20, e146_21, e146_23, e146_26, e146_29, ct_i, ct_r, ct_n, ct_h, opt_v, opt_s, ref_s, ref_n, eq_self_iff_true, true_or, or_true, zl0, zl1, zl2, zl3, zl4, zl5, zl6, zl7, zl8, zl9, zl10, zl16, zl32, zl40, zl100, zl160, zIc1, zI_lt, zI_le, nI_eq, nI_add, z_sub, nI_clamp, zI_of, uu_eq, uu_ne, Nat.reduceLT, Nat.reduceLeDiff, Nat.reduceEqDiff, Nat.reduceAdd, Nat.reduceSub, Nat.reduceMul, Nat.not_lt_zero, Nat.lt_irrefl, Nat.le_refl, Bool.false_eq_true, false_and, and_false, true_and, and_true, if_pos, if_neg, if_true, if_false, not_true_eq_false, not_false_eq_true, m0]
  refine g1 ho d I' _ (by simp only [kD, Nat.reduceSub, Nat.reduceEqDiff, if_true, if_false] at hd ⊢; omega) (by omega) hP' (fun I2 hP2 => ?_)
  rw [pQ_t] at hP2
  simp (disch := first | assumption | exact ct_i | exact ct_r | exact ct_n | exact ct_h | omega | exact z_in (by omega) (by omega) | exact b01 | exact Or.inl rfl | exact Or.inr rfl) only [e146_0, e146_1, e146_5, e146_6, e146_9, e146_12, e146_13, e146_16, e146_17, e146_20, e146_21, e146_23, e146_26, e146_29, ct_i, ct_r, ct_n, ct_h, opt_v, opt_s, ref_s, ref_n, eq_self_iff_true, true_or, or_true, zl0, zl1, zl2, zl3, zl4, zl5, zl6, zl7, zl8, zl9, zl10, zl16, zl32, zl40, zl100, zl160, zIc1, zI_lt, zI_le, nI_eq, nI_add, z_sub, nI_clamp, zI_of, uu_eq, uu_ne, Nat.reduceLT, Nat.reduceLeDiff, Nat.reduceEqDiff, Nat.reduceAdd, Nat.reduceSub, Nat.reduceMul, Nat.not_lt_zero, Nat.lt_irrefl, Nat.le_refl, Bool.false_eq_true, false_and, and_false, true_and, and_true, if_pos, if_neg, if_true, if_false, not_true_eq_false, not_false_eq_true, m0]
  refine k150p (show 1 ≤ d by omega) hM hi hP2 (show c1.length < 160 by omega) (show -103 = mCell 10008 by decide) (fun I3 hP3 => ?_)
  simp (disch := first | assumption | exact ct_i | exact ct_r | exact ct_n | exact ct_h | omega | exact z_in (by omega) (by omega) | exact b01 | exact Or.inl rfl | exact Or.inr rfl) only [e146_0, e146_1, e146_5, e146_6, e146_9, e146_12, e146_13, e146_16, e146_17, e146_20, e146_21, e146_23, e146_26, e146_29, ct_i, ct_r, ct_n, ct_h, opt_v, opt_s, ref_s, ref_n, eq_self_iff_true, true_or, or_true, zl0, zl1, zl2, zl3, zl4, zl5, zl6, zl7, zl8, zl9, zl10, zl16, zl32, zl40, zl100, zl160, zIc1, zI_lt, zI_le, nI_eq, nI_add, z_sub, nI_clamp, zI_of, uu_eq, uu_ne, Nat.reduceLT, Nat.reduceLeDiff, Nat.reduceEqDiff, Nat.reduceAdd, Nat.reduceSub, Nat.reduceMul, Nat.not_lt_zero, Nat.lt_irrefl, Nat.le_refl, Bool.false_eq_true, false_and, and_false, true_and, and_true, if_pos, if_neg, if_true, if_false, not_true_eq_false, not_false_eq_true, m0]
  exact g2 ho d I3 Q a_hole (by simp only [kD, Nat.reduceSub, Nat.reduceEqDiff, if_true, if_false] at hd ⊢; omega) (by rw [List.length_append, List.length_singleton]; omega) hP3 (fun I4 h4 => H I4 (pQ_mv h4 (by rw [List.length_append, List.length_singleton]; omega)))

theorem u5_0 (hM : mK sh R) (hs160 : s ≤ 160) (hi : i < 6) {o p : Nat} {c : List Nat} {k p1 : Nat} {c1 : List Nat} (hp : p ≤ s) (hop : opc 0 (tk tp s p) = some k) (B : Bd s (nx tp s p) c p1 c1) (g1 : CM tp s i n t sh I0 L R 2 o (nx tp s p) c false p1 c1) : CM tp s i n t sh I0 L R 1 o p c false p1 c1 := by
  rw [CM_c (by decide)] at g1
  rw [CM_l (by decide)]
  have m0 := mm_0 hM
  obtain ⟨B1, B2, B3, B4⟩ := B
  have e43 : (43 : Int32) = nI 43 := rfl
  have e45 : (45 : Int32) = nI 45 := rfl
  have e42 : (42 : Int32) = nI 42 := rfl
  have e60 : (60 : Int32) = nI 60 := rfl
  have e61 : (61 : Int32) = nI 61 := rfl
  have e41 : (41 : Int32) = nI 41 := rfl
  intro ho d I Q l1 hd hc hP H
  simp only [kD, Nat.reduceSub, Nat.reduceEqDiff, if_true, if_false] at hd
  have hT := tk_lt (tp := tp) (s := s) (p := p)
  have hlt := tk_ne (opc_ne hop).1
  have hnx := nx_gt (tp := tp) hlt
  obtain ⟨ht, rfl⟩ := opc_0 hop
  show aE (a_cl_ d) 146 (4, [.ref 0], [], _) Q
  rw [e146_4]
  simp (disch := first | assumption | exact ct_i | exact ct_r | exact ct_n | exact ct_h | omega | exact z_in (by omega) (by omega) | exact b01 | exact Or.inl rfl | exact Or.inr rfl) only [e146_0, e146_1, e146_5, e146_6, e146_9, e146_12, e146_13, e146_16, e146_17, e146_20, e146_21, e146_23, e146_26, e146_29, ct_i, ct_r, ct_n, ct_h, opt_v, opt_s, ref_s, ref_n, eq_self_iff_true, true_or, or_true, zl0, zl1, zl2, zl3, zl4, zl5, zl6, zl7, zl8, zl9, zl10, zl16, zl32, zl40, zl100, zl160, zIc1, zI_lt, zI_le, nI_eq, nI_add, z_sub, nI_clamp, zI_of, uu_eq, uu_ne, Nat.reduceLT, Nat.reduceLeDiff, Nat.reduceEqDiff, Nat.reduceAdd, Nat.reduceSub, Nat.reduceMul, Nat.not_lt_zero, Nat.lt_irrefl, Nat.le_refl, Bool.false_eq_true, false_and, and_false, true_and, and_true, if_pos, if_neg, if_true, if_false, not_true_eq_false, not_false_eq_true, m0, e43, e45, e42, k144p (show 1 ≤ d by omega) hM hP (show 3 < 90 by decide), ht]
  refine k138p (show 4 ≤ d by omega) hM hP (fun I' hP' => ?_)
  simp (disch := first | assumption | exact ct_i | exact ct_r | exact ct_n | exact ct_h | omega | exact z_in (by omega) (by omega) | exact b01 | exact Or.inl rfl | exact Or.inr rfl) only [e146_0, e146_1, e146_5, e146_6, e146_9, e146_12, e146_13, e146_16, e146_17, e146_20, e146_21, e146_23, e146_26, e146_29, ct_i, ct_r, ct_n, ct_h, opt_v, opt_s, ref_s, ref_n, eq_self_iff_true, true_or, or_true, zl0, zl1, zl2, zl3, zl4, zl5, zl6, zl7, zl8, zl9, zl10, zl16, zl32, zl40, zl100, zl160, zIc1, zI_lt, zI_le, nI_eq, nI_add, z_sub, nI_clamp, zI_of, uu_eq, uu_ne, Nat.reduceLT, Nat.reduceLeDiff, Nat.reduceEqDiff, Nat.reduceAdd, Nat.reduceSub, Nat.reduceMul, Nat.not_lt_zero, Nat.lt_irrefl, Nat.le_refl, Bool.false_eq_true, false_and, and_false, true_and, and_true, if_pos, if_neg, if_true, if_false, not_true_eq_false, not_false_eq_true, m0]
  refine g1 ho d I' _ (by simp only [kD, Nat.reduceSub, Nat.reduceEqDiff, if_true, if_false] at hd ⊢; omega) (by omega) hP' (fun I2 hP2 => ?_)
  rw [pQ_f] at hP2
  obtain ⟨e, hW, he⟩ := hP2
  simp (disch := first | assumption | exact ct_i | exact ct_r | exact ct_n | exact ct_h | omega | exact z_in (by omega) (by omega) | exact b01 | exact Or.inl rfl | exact Or.inr rfl) only [e146_0, e146_1, e146_5, e146_6, e146_9, e146_12, e146_13, e146_16, e146_17, e146_20, e146_21, e146_23, e146_26, e146_29, ct_i, ct_r, ct_n, ct_h, opt_v, opt_s, ref_s, ref_n, eq_self_iff_true, true_or, or_true, zl0, zl1, zl2, zl3, zl4, zl5, zl6, zl7, zl8, zl9, zl10, zl16, zl32, zl40, zl100, zl160, zIc1, zI_lt, zI_le, nI_eq, nI_add, z_sub, nI_clamp, zI_of, uu_eq, uu_ne, Nat.reduceLT, Nat.reduceLeDiff, Nat.reduceEqDiff, Nat.reduceAdd, Nat.reduceSub, Nat.reduceMul, Nat.not_lt_zero, Nat.lt_irrefl, Nat.le_refl, Bool.false_eq_true, false_and, and_false, true_and, and_true, if_pos, if_neg, if_true, if_false, not_true_eq_false, not_false_eq_true, m0]
  refine k150w (show 1 ≤ d by omega) hM hi hW (show e < 170 by omega) (fun I3 hW3 => ?_)
  have q := H I3 (pQ_f.mpr ⟨e + 1, hW3, by omega⟩)
  simp (disch := first | assumption | exact ct_i | exact ct_r | exact ct_n | exact ct_h | omega | exact z_in (by omega) (by omega) | exact b01 | exact Or.inl rfl | exact Or.inr rfl) only [e146_0, e146_1, e146_4, e146_5, e146_6, e146_9, e146_12, e146_13, e146_16, e146_17, e146_20, e146_21, e146_23, e146_26, e146_29, ct_i, ct_r, ct_n, ct_h, opt_v, opt_s, ref_s, ref_n, eq_self_iff_true, true_or, or_true, zl0, zl1, zl2, zl3, zl4, zl5, zl6, zl7, zl8, zl9, zl10, zl16, zl32, zl40, zl100, zl160, zIc1, zI_lt, zI_le, nI_eq, nI_add, z_sub, nI_clamp, zI_of, uu_eq, uu_ne, Nat.reduceLT, Nat.reduceLeDiff, Nat.reduceEqDiff, Nat.reduceAdd, Nat.reduceSub, Nat.reduceMul, Nat.not_lt_zero, Nat.lt_irrefl, Nat.le_refl, Bool.false_eq_true, false_and, and_false, true_and, and_true, if_pos, if_neg, if_true, if_false, not_true_eq_false, not_false_eq_true, m0, e43, e45, e42, k144w (show 1 ≤ d by omega) hM hW3]
  exact q

theorem u1_2 (hM : mK sh R) (hs160 : s ≤ 160) (hi : i < 6) {o p : Nat} {c : List Nat} {p1 : Nat} {c1 : List Nat} {b : Bool} {p2 : Nat} {c2 : List Nat} (B : Bd s p c p1 c1) (g1 : CM tp s i n t sh I0 L R 8 o p c true p1 c1) (g2 : CM tp s i n t sh I0 L R 3 o p1 c1 b p2 c2) : CM tp s i n t sh I0 L R 2 o p c b p2 c2 := by
  rw [CM_c (by decide)] at g1 ⊢
  rw [CM_l (by decide)] at g2
  have m0 := mm_0 hM
  obtain ⟨B1, B2, B3, B4⟩ := B
  intro ho d I Q hd hc hP H
  simp only [kD, Nat.reduceEqDiff, if_true, if_false] at hd
  show aC d 147 _ _ _
  obtain ⟨d, rfl⟩ : ∃ e, d = e + 1 := ⟨d - 1, by omega⟩
  simp (disch := first | assumption | exact ct_i | exact ct_r | exact ct_n | exact ct_h | omega | exact z_in (by omega) (by omega) | exact b01 | exact Or.inl rfl | exact Or.inr rfl) only [b147, e147_0, e147_1, e147_5, e147_6, e147_9, e147_12, e147_13, e147_16, e147_17, e147_20, e147_21, e147_23, e147_26, e147_29, ct_i, ct_r, ct_n, ct_h, opt_v, opt_s, ref_s, ref_n, eq_self_iff_true, true_or, or_true, m0]
  refine g1 ho d I _ (by simp only [kD, Nat.reduceSub, Nat.reduceEqDiff, if_true, if_false] at hd ⊢; omega) hc hP (fun I' hP' => ?_)
  rw [pQ_t] at hP'
  simp (disch := first | assumption | exact ct_i | exact ct_r | exact ct_n | exact ct_h | omega | exact z_in (by omega) (by omega) | exact b01 | exact Or.inl rfl | exact Or.inr rfl) only [e147_0, e147_1, e147_5, e147_6, e147_9, e147_12, e147_13, e147_16, e147_17, e147_20, e147_21, e147_23, e147_26, e147_29, ct_i, ct_r, ct_n, ct_h, opt_v, opt_s, ref_s, ref_n, eq_self_iff_true, true_or, or_true]
  exact g2 ho d I' Q a_hole (by simp only [kD, Nat.reduceSub, Nat.reduceEqDiff, if_true, if_false] at hd ⊢; omega) (by omega) hP' (fun I2 h2 => H I2 (pQ_mv h2 (by omega)))
theorem u2_2 (hM : mK sh R) (hs160 : s ≤ 160) (hi : i < 6) {o p : Nat} {c : List Nat} {p1 : Nat} {c1 : List Nat} (B : Bd s p c p1 c1) (g1 : CM tp s i n t sh I0 L R 8 o p c false p1 c1) : CM tp s i n t sh I0 L R 2 o p c false p1 c1 := by
  rw [CM_c (by decide)] at g1 ⊢
  have m0 := mm_0 hM
  obtain ⟨B1, B2, B3, B4⟩ := B
  have e43 : (43 : Int32) = nI 43 := rfl
  have e45 : (45 : Int32) = nI 45 := rfl
  have e42 : (42 : Int32) = nI 42 := rfl
  have e60 : (60 : Int32) = nI 60 := rfl
  have e61 : (61 : Int32) = nI 61 := rfl
  have e41 : (41 : Int32) = nI 41 := rfl
  intro ho d I Q hd hc hP H
  simp only [kD, Nat.reduceEqDiff, if_true, if_false] at hd
  show aC d 147 _ _ _
  obtain ⟨d, rfl⟩ : ∃ e, d = e + 1 := ⟨d - 1, by omega⟩
  simp (disch := first | assumption | exact ct_i | exact ct_r | exact ct_n | exact ct_h | omega | exact z_in (by omega) (by omega) | exact b01 | exact Or.inl rfl | exact Or.inr rfl) only [b147, e147_0, e147_1, e147_5, e147_6, e147_9, e147_12, e147_13, e147_16, e147_17, e147_20, e147_21, e147_23, e147_26, e147_29, ct_i, ct_r, ct_n, ct_h, opt_v, opt_s, ref_s, ref_n, eq_self_iff_true, true_or, or_true, m0]
  refine g1 ho d I _ (by simp only [kD, Nat.reduceSub, Nat.reduceEqDiff, if_true, if_false] at hd ⊢; omega) hc hP (fun I' hP' => ?_)
  have q := H I' hP'
  rw [pQ_f] at hP'
  obtain ⟨e, hW, he⟩ := hP'
  simp (disch := first | assumption | exact ct_i | exact ct_r | exact ct_n | exact ct_h | omega | exact z_in (by omega) (by omega) | exact b01 | exact Or.inl rfl | exact Or.inr rfl) only [e147_0, e147_1, e147_4, e147_5, e147_6, e147_9, e147_12, e147_13, e147_16, e147_17, e147_20, e147_21, e147_23, e147_26, e147_29, ct_i, ct_r, ct_n, ct_h, opt_v, opt_s, ref_s, ref_n, eq_self_iff_true, true_or, or_true, zl0, zl1, zl2, zl3, zl4, zl5, zl6, zl7, zl8, zl9, zl10, zl16, zl32, zl40, zl100, zl160, zIc1, zI_lt, zI_le, nI_eq, nI_add, z_sub, nI_clamp, zI_of, uu_eq, uu_ne, Nat.reduceLT, Nat.reduceLeDiff, Nat.reduceEqDiff, Nat.reduceAdd, Nat.reduceSub, Nat.reduceMul, Nat.not_lt_zero, Nat.lt_irrefl, Nat.le_refl, Bool.false_eq_true, false_and, and_false, true_and, and_true, if_pos, if_neg, if_true, if_false, not_true_eq_false, not_false_eq_true, m0, e43, e45, e42, k144w (show 1 ≤ d by omega) hM hW]
  exact q
theorem u3_2 (hM : mK sh R) (hs160 : s ≤ 160) (hi : i < 6) {o p : Nat} {c : List Nat} (hop : opc 2 (tk tp s p) = none) : CM tp s i n t sh I0 L R 3 o p c true p c := by
  rw [CM_l (by decide)]
  have m0 := mm_0 hM
  have e43 : (43 : Int32) = nI 43 := rfl
  have e45 : (45 : Int32) = nI 45 := rfl
  have e42 : (42 : Int32) = nI 42 := rfl
  have e60 : (60 : Int32) = nI 60 := rfl
  have e61 : (61 : Int32) = nI 61 := rfl
  have e41 : (41 : Int32) = nI 41 := rfl
  intro ho d I Q l1 hd hc hP H
  simp only [kD, Nat.reduceSub, Nat.reduceEqDiff, if_true, if_false] at hd
  have hT := tk_lt (tp := tp) (s := s) (p := p)
  have hn := opc_2n hop
  have q := H I (pQ_t.mpr hP)
  show aE (a_cl_ d) 147 (4, [.ref 0], [], _) Q
  rw [e147_4]
  simp (disch := first | assumption | exact ct_i | exact ct_r | exact ct_n | exact ct_h | omega | exact z_in (by omega) (by omega) | exact b01 | exact Or.inl rfl | exact Or.inr rfl) only [e147_0, e147_1, e147_5, e147_6, e147_9, e147_12, e147_13, e147_16, e147_17, e147_20, e147_21, e147_23, e147_26, e147_29, ct_i, ct_r, ct_n, ct_h, opt_v, opt_s, ref_s, ref_n, eq_self_iff_true, true_or, or_true, zl0, zl1, zl2, zl3, zl4, zl5, zl6, zl7, zl8, zl9, zl10, zl16, zl32, zl40, zl100, zl160, zIc1, zI_lt, zI_le, nI_eq, nI_add, z_sub, nI_clamp, zI_of, uu_eq, uu_ne, Nat.reduceLT, Nat.reduceLeDiff, Nat.reduceEqDiff, Nat.reduceAdd, Nat.reduceSub, Nat.reduceMul, Nat.not_lt_zero, Nat.lt_irrefl, Nat.le_refl, Bool.false_eq_true, false_and, and_false, true_and, and_true, if_pos, if_neg, if_true, if_false, not_true_eq_false, not_false_eq_true, m0, e43, e45, e42, k144p (show 1 ≤ d by omega) hM hP (show 4 < 90 by decide), hn]
  exact q

theorem u4_2 (hM : mK sh R) (hs160 : s ≤ 160) (hi : i < 6) {o p : Nat} {c : List Nat} {k p1 : Nat} {c1 : List Nat} {b : Bool} {p2 : Nat} {c2 : List Nat} (hp : p ≤ s) (hop : opc 2 (tk tp s p) = some k) (B : Bd s (nx tp s p) c p1 c1) (g1 : CM tp s i n t sh I0 L R 8 o (nx tp s p) c true p1 c1) (g2 : CM tp s i n t sh I0 L R 3 o p1 (c1 ++ [k]) b p2 c2) : CM tp s i n t sh I0 L R 3 o p c b p2 c2 := by
  rw [CM_c (by decide)] at g1
  rw [CM_l (by decide)] at g2 ⊢
  have m0 := mm_0 hM
  obtain ⟨B1, B2, B3, B4⟩ := B
  have e43 : (43 : Int32) = nI 43 := rfl
  have e45 : (45 : Int32) = nI 45 := rfl
  have e42 : (42 : Int32) = nI 42 := rfl
  have e60 : (60 : Int32) = nI 60 := rfl
  have e61 : (61 : Int32) = nI 61 := rfl
  have e41 : (41 : Int32) = nI 41 := rfl
  intro ho d I Q l1 hd hc hP H
  simp only [kD, Nat.reduceSub, Nat.reduceEqDiff, if_true, if_false] at hd
  have hT := tk_lt (tp := tp) (s := s) (p := p)
  have hlt := tk_ne (opc_ne hop).1
  have hnx := nx_gt (tp := tp) hlt
  obtain ⟨ht, rfl⟩ := opc_2 hop
  show aE (a_cl_ d) 147 (4, [.ref 0], [], _) Q
  rw [e147_4]
  simp (disch := first | assumption | exact ct_i | exact ct_r | exact ct_n | exact ct_h | omega | exact z_in (by omega) (by omega) | exact b01 | exact Or.inl rfl | exact Or.inr rfl) only [e147_0, e147_1, e147_5, e147_6, e147_9, e147_12, e147_13, e147_16, e147_17, e147_20, e147_21, e147_23, e147_26, e147_29, ct_i, ct_r, ct_n, ct_h, opt_v, opt_s, ref_s, ref_n, eq_self_iff_true, true_or, or_true, zl0, zl1, zl2, zl3, zl4, zl5, zl6, zl7, zl8, zl9, zl10, zl16, zl32, zl40, zl100, zl160, zIc1, zI_lt, zI_le, nI_eq, nI_add, z_sub, nI_clamp, zI_of, uu_eq, uu_ne, Nat.reduceLT, Nat.reduceLeDiff, Nat.reduceEqDiff, Nat.reduceAdd, Nat.reduceSub, Nat.reduceMul, Nat.not_lt_zero, Nat.lt_irrefl, Nat.le_refl, Bool.false_eq_true, false_and, and_false, true_and, and_true, if_pos, if_neg, if_true, if_false, not_true_eq_false, not_false_eq_true, m0, e43, e45, e42, k144p (show 1 ≤ d by omega) hM hP (show 4 < 90 by decide), ht]
  refine k138p (show 4 ≤ d by omega) hM hP (fun I' hP' => ?_)
  simp (disch := first | assumption | exact ct_i | exact ct_r | exact ct_n | exact ct_h | omega | exact z_in (by omega) (by omega) | exact b01 | exact Or.inl rfl | exact Or.inr rfl) only [e147_0, e147_1, e147_5, e147_6, e147_9, e147_12, e147_13, e147_16, e147_17, e147_20, e147_21, e147_23, e147_26, e147_29, ct_i, ct_r, ct_n, ct_h, opt_v, opt_s, ref_s, ref_n, eq_self_iff_true, true_or, or_true, zl0, zl1, zl2, zl3, zl4, zl5, zl6, zl7, zl8, zl9, zl10, zl16, zl32, zl40, zl100, zl160, zIc1, zI_lt, zI_le, nI_eq, nI_add, z_sub, nI_clamp, zI_of, uu_eq, uu_ne, Nat.reduceLT, Nat.reduceLeDiff, Nat.reduceEqDiff, Nat.reduceAdd, Nat.reduceSub, Nat.reduceMul, Nat.not_lt_zero, Nat.lt_irrefl, Nat.le_refl, Bool.false_eq_true, false_and, and_false, true_and, and_true, if_pos, if_neg, if_true, if_false, not_true_eq_false, not_false_eq_true, m0]
  refine g1 ho d I' _ (by simp only [kD, Nat.reduceSub, Nat.reduceEqDiff, if_true, if_false] at hd ⊢; omega) (by omega) hP' (fun I2 hP2 => ?_)
  rw [pQ_t] at hP2
  simp (disch := first | assumption | exact ct_i | exact ct_r | exact ct_n | exact ct_h | omega | exact z_in (by omega) (by omega) | exact b01 | exact Or.inl rfl | exact Or.inr rfl) only [e147_0, e147_1, e147_5, e147_6, e147_9, e147_12, e147_13, e147_16, e147_17, e147_20, e147_21, e147_23, e147_26, e147_29, ct_i, ct_r, ct_n, ct_h, opt_v, opt_s, ref_s, ref_n, eq_self_iff_true, true_or, or_true, zl0, zl1, zl2, zl3, zl4, zl5, zl6, zl7, zl8, zl9, zl10, zl16, zl32, zl40, zl100, zl160, zIc1, zI_lt, zI_le, nI_eq, nI_add, z_sub, nI_clamp, zI_of, uu_eq, uu_ne, Nat.reduceLT, Nat.reduceLeDiff, Nat.reduceEqDiff, Nat.reduceAdd, Nat.reduceSub, Nat.reduceMul, Nat.not_lt_zero, Nat.lt_irrefl, Nat.le_refl, Bool.false_eq_true, false_and, and_false, true_and, and_true, if_pos, if_neg, if_true, if_false, not_true_eq_false, not_false_eq_true, m0]
  refine k150p (show 1 ≤ d by omega) hM hi hP2 (show c1.length < 160 by omega) (show -102 = mCell 10009 by decide) (fun I3 hP3 => ?_)
  simp (disch := first | assumption | exact ct_i | exact ct_r | exact ct_n | exact ct_h | omega | exact z_in (by omega) (by omega) | exact b01 | exact Or.inl rfl | exact Or.inr rfl) only [e147_0, e147_1, e147_5, e147_6, e147_9, e147_12, e147_13, e147_16, e147_17, e147_20, e147_21, e147_23, e147_26, e147_29, ct_i, ct_r, ct_n, ct_h, opt_v, opt_s, ref_s, ref_n, eq_self_iff_true, true_or, or_true, zl0, zl1, zl2, zl3, zl4, zl5, zl6, zl7, zl8, zl9, zl10, zl16, zl32, zl40, zl100, zl160, zIc1, zI_lt, zI_le, nI_eq, nI_add, z_sub, nI_clamp, zI_of, uu_eq, uu_ne, Nat.reduceLT, Nat.reduceLeDiff, Nat.reduceEqDiff, Nat.reduceAdd, Nat.reduceSub, Nat.reduceMul, Nat.not_lt_zero, Nat.lt_irrefl, Nat.le_refl, Bool.false_eq_true, false_and, and_false, true_and, and_true, if_pos, if_neg, if_true, if_false, not_true_eq_false, not_false_eq_true, m0]
  exact g2 ho d I3 Q a_hole (by simp only [kD, Nat.reduceSub, Nat.reduceEqDiff, if_true, if_false] at hd ⊢; omega) (by rw [List.length_append, List.length_singleton]; omega) hP3 (fun I4 h4 => H I4 (pQ_mv h4 (by rw [List.length_append, List.length_singleton]; omega)))

theorem u5_2 (hM : mK sh R) (hs160 : s ≤ 160) (hi : i < 6) {o p : Nat} {c : List Nat} {k p1 : Nat} {c1 : List Nat} (hp : p ≤ s) (hop : opc 2 (tk tp s p) = some k) (B : Bd s (nx tp s p) c p1 c1) (g1 : CM tp s i n t sh I0 L R 8 o (nx tp s p) c false p1 c1) : CM tp s i n t sh I0 L R 3 o p c false p1 c1 := by
  rw [CM_c (by decide)] at g1
  rw [CM_l (by decide)]
  have m0 := mm_0 hM
  obtain ⟨B1, B2, B3, B4⟩ := B
  have e43 : (43 : Int32) = nI 43 := rfl
  have e45 : (45 : Int32) = nI 45 := rfl
  have e42 : (42 : Int32) = nI 42 := rfl
  have e60 : (60 : Int32) = nI 60 := rfl
  have e61 : (61 : Int32) = nI 61 := rfl
  have e41 : (41 : Int32) = nI 41 := rfl
  intro ho d I Q l1 hd hc hP H
  simp only [kD, Nat.reduceSub, Nat.reduceEqDiff, if_true, if_false] at hd
  have hT := tk_lt (tp := tp) (s := s) (p := p)
  have hlt := tk_ne (opc_ne hop).1
  have hnx := nx_gt (tp := tp) hlt
  obtain ⟨ht, rfl⟩ := opc_2 hop
  show aE (a_cl_ d) 147 (4, [.ref 0], [], _) Q
  rw [e147_4]
  simp (disch := first | assumption | exact ct_i | exact ct_r | exact ct_n | exact ct_h | omega | exact z_in (by omega) (by omega) | exact b01 | exact Or.inl rfl | exact Or.inr rfl) only [e147_0, e147_1, e147_5, e147_6, e147_9, e147_12, e147_13, e147_16, e147_17, e147_20, e147_21, e147_23, e147_26, e147_29, ct_i, ct_r, ct_n, ct_h, opt_v, opt_s, ref_s, ref_n, eq_self_iff_true, true_or, or_true, zl0, zl1, zl2, zl3, zl4, zl5, zl6, zl7, zl8, zl9, zl10, zl16, zl32, zl40, zl100, zl160, zIc1, zI_lt, zI_le, nI_eq, nI_add, z_sub, nI_clamp, zI_of, uu_eq, uu_ne, Nat.reduceLT, Nat.reduceLeDiff, Nat.reduceEqDiff, Nat.reduceAdd, Nat.reduceSub, Nat.reduceMul, Nat.not_lt_zero, Nat.lt_irrefl, Nat.le_refl, Bool.false_eq_true, false_and, and_false, true_and, and_true, if_pos, if_neg, if_true, if_false, not_true_eq_false, not_false_eq_true, m0, e43, e45, e42, k144p (show 1 ≤ d by omega) hM hP (show 4 < 90 by decide), ht]
  refine k138p (show 4 ≤ d by omega) hM hP (fun I' hP' => ?_)
  simp (disch := first | assumption | exact ct_i | exact ct_r | exact ct_n | exact ct_h | omega | exact z_in (by omega) (by omega) | exact b01 | exact Or.inl rfl | exact Or.inr rfl) only [e147_0, e147_1, e147_5, e147_6, e147_9, e147_12, e147_13, e147_16, e147_17, e147_20, e147_21, e147_23, e147_26, e147_29, ct_i, ct_r, ct_n, ct_h, opt_v, opt_s, ref_s, ref_n, eq_self_iff_true, true_or, or_true, zl0, zl1, zl2, zl3, zl4, zl5, zl6, zl7, zl8, zl9, zl10, zl16, zl32, zl40, zl100, zl160, zIc1, zI_lt, zI_le, nI_eq, nI_add, z_sub, nI_clamp, zI_of, uu_eq, uu_ne, Nat.reduceLT, Nat.reduceLeDiff, Nat.reduceEqDiff, Nat.reduceAdd, Nat.reduceSub, Nat.reduceMul, Nat.not_lt_zero, Nat.lt_irrefl, Nat.le_refl, Bool.false_eq_true, false_and, and_false, true_and, and_true, if_pos, if_neg, if_true, if_false, not_true_eq_false, not_false_eq_true, m0]
  refine g1 ho d I' _ (by simp only [kD, Nat.reduceSub, Nat.reduceEqDiff, if_true, if_false] at hd ⊢; omega) (by omega) hP' (fun I2 hP2 => ?_)
  rw [pQ_f] at hP2
  obtain ⟨e, hW, he⟩ := hP2
  simp (disch := first | assumption | exact ct_i | exact ct_r | exact ct_n | exact ct_h | omega | exact z_in (by omega) (by omega) | exact b01 | exact Or.inl rfl | exact Or.inr rfl) only [e147_0, e147_1, e147_5, e147_6, e147_9, e147_12, e147_13, e147_16, e147_17, e147_20, e147_21, e147_23, e147_26, e147_29, ct_i, ct_r, ct_n, ct_h, opt_v, opt_s, ref_s, ref_n, eq_self_iff_true, true_or, or_true, zl0, zl1, zl2, zl3, zl4, zl5, zl6, zl7, zl8, zl9, zl10, zl16, zl32, zl40, zl100, zl160, zIc1, zI_lt, zI_le, nI_eq, nI_add, z_sub, nI_clamp, zI_of, uu_eq, uu_ne, Nat.reduceLT, Nat.reduceLeDiff, Nat.reduceEqDiff, Nat.reduceAdd, Nat.reduceSub, Nat.reduceMul, Nat.not_lt_zero, Nat.lt_irrefl, Nat.le_refl, Bool.false_eq_true, false_and, and_false, true_and, and_true, if_pos, if_neg, if_true, if_false, not_true_eq_false, not_false_eq_true, m0]
  refine k150w (show 1 ≤ d by omega) hM hi hW (show e < 170 by omega) (fun I3 hW3 => ?_)
  have q := H I3 (pQ_f.mpr ⟨e + 1, hW3, by omega⟩)
  simp (disch := first | assumption | exact ct_i | exact ct_r | exact ct_n | exact ct_h | omega | exact z_in (by omega) (by omega) | exact b01 | exact Or.inl rfl | exact Or.inr rfl) only [e147_0, e147_1, e147_4, e147_5, e147_6, e147_9, e147_12, e147_13, e147_16, e147_17, e147_20, e147_21, e147_23, e147_26, e147_29, ct_i, ct_r, ct_n, ct_h, opt_v, opt_s, ref_s, ref_n, eq_self_iff_true, true_or, or_true, zl0, zl1, zl2, zl3, zl4, zl5, zl6, zl7, zl8, zl9, zl10, zl16, zl32, zl40, zl100, zl160, zIc1, zI_lt, zI_le, nI_eq, nI_add, z_sub, nI_clamp, zI_of, uu_eq, uu_ne, Nat.reduceLT, Nat.reduceLeDiff, Nat.reduceEqDiff, Nat.reduceAdd, Nat.reduceSub, Nat.reduceMul, Nat.not_lt_zero, Nat.lt_irrefl, Nat.le_refl, Bool.false_eq_true, false_and, and_false, true_and, and_true, if_pos, if_neg, if_true, if_false, not_true_eq_false, not_false_eq_true, m0, e43, e45, e42, k144w (show 1 ≤ d by omega) hM hW3]
  exact q

theorem u1_4 (hM : mK sh R) (hs160 : s ≤ 160) (hi : i < 6) {o p : Nat} {c : List Nat} {p1 : Nat} {c1 : List Nat} {b : Bool} {p2 : Nat} {c2 : List Nat} (B : Bd s p c p1 c1) (g1 : CM tp s i n t sh I0 L R 6 o p c true p1 c1) (g2 : CM tp s i n t sh I0 L R 5 o p1 c1 b p2 c2) : CM tp s i n t sh I0 L R 4 o p c b p2 c2 := by
  rw [CM_c (by decide)] at g1 ⊢
  rw [CM_l (by decide)] at g2
  have m0 := mm_0 hM
  obtain ⟨B1, B2, B3, B4⟩ := B
  intro ho d I Q hd hc hP H
  simp only [kD, Nat.reduceEqDiff, if_true, if_false] at hd
  show aC d 151 _ _ _
  obtain ⟨d, rfl⟩ : ∃ e, d = e + 1 := ⟨d - 1, by omega⟩
  simp (disch := first | assumption | exact ct_i | exact ct_r | exact ct_n | exact ct_h | omega | exact z_in (by omega) (by omega) | exact b01 | exact Or.inl rfl | exact Or.inr rfl) only [b151, e151_0, e151_1, e151_5, e151_7, e151_10, e151_13, e151_14, e151_16, e151_19, e151_22, e151_23, e151_26, e151_27, e151_28, e151_31, e151_32, e151_35, e151_36, e151_38, e151_39, e151_40, e151_43, e151_46, ct_i, ct_r, ct_n, ct_h, opt_v, opt_s, ref_s, ref_n, eq_self_iff_true, true_or, or_true, m0]
  refine g1 ho d I _ (by simp only [kD, Nat.reduceSub, Nat.reduceEqDiff, if_true, if_false] at hd ⊢; omega) hc hP (fun I' hP' => ?_)
  rw [pQ_t] at hP'
  simp (disch := first | assumption | exact ct_i | exact ct_r | exact ct_n | exact ct_h | omega | exact z_in (by omega) (by omega) | exact b01 | exact Or.inl rfl | exact Or.inr rfl) only [e151_0, e151_1, e151_5, e151_7, e151_10, e151_13, e151_14, e151_16, e151_19, e151_22, e151_23, e151_26, e151_27, e151_28, e151_31, e151_32, e151_35, e151_36, e151_38, e151_39, e151_40, e151_43, e151_46, ct_i, ct_r, ct_n, ct_h, opt_v, opt_s, ref_s, ref_n, eq_self_iff_true, true_or, or_true]
  exact g2 ho d I' Q a_hole (by simp only [kD, Nat.reduceSub, Nat.reduceEqDiff, if_true, if_false] at hd ⊢; omega) (by omega) hP' (fun I2 h2 => H I2 (pQ_mv h2 (by omega)))
theorem u2_4 (hM : mK sh R) (hs160 : s ≤ 160) (hi : i < 6) {o p : Nat} {c : List Nat} {p1 : Nat} {c1 : List Nat} (B : Bd s p c p1 c1) (g1 : CM tp s i n t sh I0 L R 6 o p c false p1 c1) : CM tp s i n t sh I0 L R 4 o p c false p1 c1 := by
  rw [CM_c (by decide)] at g1 ⊢
  have m0 := mm_0 hM
  obtain ⟨B1, B2, B3, B4⟩ := B
  have e43 : (43 : Int32) = nI 43 := rfl
  have e45 : (45 : Int32) = nI 45 := rfl
  have e42 : (42 : Int32) = nI 42 := rfl
  have e60 : (60 : Int32) = nI 60 := rfl
  have e61 : (61 : Int32) = nI 61 := rfl
  have e41 : (41 : Int32) = nI 41 := rfl
  intro ho d I Q hd hc hP H
  simp only [kD, Nat.reduceEqDiff, if_true, if_false] at hd
  show aC d 151 _ _ _
  obtain ⟨d, rfl⟩ : ∃ e, d = e + 1 := ⟨d - 1, by omega⟩
  simp (disch := first | assumption | exact ct_i | exact ct_r | exact ct_n | exact ct_h | omega | exact z_in (by omega) (by omega) | exact b01 | exact Or.inl rfl | exact Or.inr rfl) only [b151, e151_0, e151_1, e151_5, e151_7, e151_10, e151_13, e151_14, e151_16, e151_19, e151_22, e151_23, e151_26, e151_27, e151_28, e151_31, e151_32, e151_35, e151_36, e151_38, e151_39, e151_40, e151_43, e151_46, ct_i, ct_r, ct_n, ct_h, opt_v, opt_s, ref_s, ref_n, eq_self_iff_true, true_or, or_true, m0]
  refine g1 ho d I _ (by simp only [kD, Nat.reduceSub, Nat.reduceEqDiff, if_true, if_false] at hd ⊢; omega) hc hP (fun I' hP' => ?_)
  have q := H I' hP'
  rw [pQ_f] at hP'
  obtain ⟨e, hW, he⟩ := hP'
  simp (disch := first | assumption | exact ct_i | exact ct_r | exact ct_n | exact ct_h | omega | exact z_in (by omega) (by omega) | exact b01 | exact Or.inl rfl | exact Or.inr rfl) only [e151_0, e151_1, e151_4, e151_5, e151_7, e151_10, e151_13, e151_14, e151_16, e151_19, e151_22, e151_23, e151_26, e151_27, e151_28, e151_31, e151_32, e151_35, e151_36, e151_38, e151_39, e151_40, e151_43, e151_46, ct_i, ct_r, ct_n, ct_h, opt_v, opt_s, ref_s, ref_n, eq_self_iff_true, true_or, or_true, zl0, zl1, zl2, zl3, zl4, zl5, zl6, zl7, zl8, zl9, zl10, zl16, zl32, zl40, zl100, zl160, zIc1, zI_lt, zI_le, nI_eq, nI_add, z_sub, nI_clamp, zI_of, uu_eq, uu_ne, Nat.reduceLT, Nat.reduceLeDiff, Nat.reduceEqDiff, Nat.reduceAdd, Nat.reduceSub, Nat.reduceMul, Nat.not_lt_zero, Nat.lt_irrefl, Nat.le_refl, Bool.false_eq_true, false_and, and_false, true_and, and_true, if_pos, if_neg, if_true, if_false, not_true_eq_false, not_false_eq_true, m0, e43, e45, e42, k154w (show 1 ≤ d by omega) hM hW]
  exact q
theorem u3_4 (hM : mK sh R) (hs160 : s ≤ 160) (hi : i < 6) {o p : Nat} {c : List Nat} (hop : opc 4 (tk tp s p) = none) : CM tp s i n t sh I0 L R 5 o p c true p c := by
  rw [CM_l (by decide)]
  have m0 := mm_0 hM
  have e43 : (43 : Int32) = nI 43 := rfl
  have e45 : (45 : Int32) = nI 45 := rfl
  have e42 : (42 : Int32) = nI 42 := rfl
  have e60 : (60 : Int32) = nI 60 := rfl
  have e61 : (61 : Int32) = nI 61 := rfl
  have e41 : (41 : Int32) = nI 41 := rfl
  intro ho d I Q l1 hd hc hP H
  simp only [kD, Nat.reduceSub, Nat.reduceEqDiff, if_true, if_false] at hd
  have hT := tk_lt (tp := tp) (s := s) (p := p)
  have hn := opc_4n hop
  have q := H I (pQ_t.mpr hP)
  show aE (a_cl_ d) 151 (4, [.ref 0, l1], [], _) Q
  rw [e151_4]
  simp (disch := first | assumption | exact ct_i | exact ct_r | exact ct_n | exact ct_h | omega | exact z_in (by omega) (by omega) | exact b01 | exact Or.inl rfl | exact Or.inr rfl) only [e151_0, e151_1, e151_5, e151_7, e151_10, e151_13, e151_14, e151_16, e151_19, e151_22, e151_23, e151_26, e151_27, e151_28, e151_31, e151_32, e151_35, e151_36, e151_38, e151_39, e151_40, e151_43, e151_46, ct_i, ct_r, ct_n, ct_h, opt_v, opt_s, ref_s, ref_n, eq_self_iff_true, true_or, or_true, zl0, zl1, zl2, zl3, zl4, zl5, zl6, zl7, zl8, zl9, zl10, zl16, zl32, zl40, zl100, zl160, zIc1, zI_lt, zI_le, nI_eq, nI_add, z_sub, nI_clamp, zI_of, uu_eq, uu_ne, Nat.reduceLT, Nat.reduceLeDiff, Nat.reduceEqDiff, Nat.reduceAdd, Nat.reduceSub, Nat.reduceMul, Nat.not_lt_zero, Nat.lt_irrefl, Nat.le_refl, Bool.false_eq_true, false_and, and_false, true_and, and_true, if_pos, if_neg, if_true, if_false, not_true_eq_false, not_false_eq_true, m0, e43, e45, e42, k154p (show 1 ≤ d by omega) hM hP (show 43 < 128 by decide), k154p (show 1 ≤ d by omega) hM hP (show 45 < 128 by decide), hn]
  exact q

theorem u4_4 (hM : mK sh R) (hs160 : s ≤ 160) (hi : i < 6) {o p : Nat} {c : List Nat} {k p1 : Nat} {c1 : List Nat} {b : Bool} {p2 : Nat} {c2 : List Nat} (hp : p ≤ s) (hop : opc 4 (tk tp s p) = some k) (B : Bd s (nx tp s p) c p1 c1) (g1 : CM tp s i n t sh I0 L R 6 o (nx tp s p) c true p1 c1) (g2 : CM tp s i n t sh I0 L R 5 o p1 (c1 ++ [k]) b p2 c2) : CM tp s i n t sh I0 L R 5 o p c b p2 c2 := by
  rw [CM_c (by decide)] at g1
  rw [CM_l (by decide)] at g2 ⊢
  have m0 := mm_0 hM
  obtain ⟨B1, B2, B3, B4⟩ := B
  have e43 : (43 : Int32) = nI 43 := rfl
  have e45 : (45 : Int32) = nI 45 := rfl
  have e42 : (42 : Int32) = nI 42 := rfl
  have e60 : (60 : Int32) = nI 60 := rfl
  have e61 : (61 : Int32) = nI 61 := rfl
  have e41 : (41 : Int32) = nI 41 := rfl
  intro ho d I Q l1 hd hc hP H
  simp only [kD, Nat.reduceSub, Nat.reduceEqDiff, if_true, if_false] at hd
  have hT := tk_lt (tp := tp) (s := s) (p := p)
  have hlt := tk_ne (opc_ne hop).1
  have hnx := nx_gt (tp := tp) hlt
  rcases opc_4 hop with ⟨ht, rfl⟩ | ⟨ht, rfl⟩
  · have h25 : I 0 25 = nI 43 := by
      have := hP.1.2.2.2.2 (by omega) (by omega)
      rw [ht] at this; exact this
    show aE (a_cl_ d) 151 (4, [.ref 0, l1], [], _) Q
    rw [e151_4]
    simp (disch := first | assumption | exact ct_i | exact ct_r | exact ct_n | exact ct_h | omega | exact z_in (by omega) (by omega) | exact b01 | exact Or.inl rfl | exact Or.inr rfl) only [e151_0, e151_1, e151_5, e151_7, e151_10, e151_13, e151_14, e151_16, e151_19, e151_22, e151_23, e151_26, e151_27, e151_28, e151_31, e151_32, e151_35, e151_36, e151_38, e151_39, e151_40, e151_43, e151_46, ct_i, ct_r, ct_n, ct_h, opt_v, opt_s, ref_s, ref_n, eq_self_iff_true, true_or, or_true, zl0, zl1, zl2, zl3, zl4, zl5, zl6, zl7, zl8, zl9, zl10, zl16, zl32, zl40, zl100, zl160, zIc1, zI_lt, zI_le, nI_eq, nI_add, z_sub, nI_clamp, zI_of, uu_eq, uu_ne, Nat.reduceLT, Nat.reduceLeDiff, Nat.reduceEqDiff, Nat.reduceAdd, Nat.reduceSub, Nat.reduceMul, Nat.not_lt_zero, Nat.lt_irrefl, Nat.le_refl, Bool.false_eq_true, false_and, and_false, true_and, and_true, if_pos, if_neg, if_true, if_false, not_true_eq_false, not_false_eq_true, m0, e43, e45, e42, k154p (show 1 ≤ d by omega) hM hP (show 43 < 128 by decide), k154p (show 1 ≤ d by omega) hM hP (show 45 < 128 by decide), ht, h25]
    refine k138p (show 4 ≤ d by omega) hM hP (fun I' hP' => ?_)
    simp (disch := first | assumption | exact ct_i | exact ct_r | exact ct_n | exact ct_h | omega | exact z_in (by omega) (by omega) | exact b01 | exact Or.inl rfl | exact Or.inr rfl) only [e151_0, e151_1, e151_5, e151_7, e151_10, e151_13, e151_14, e151_16, e151_19, e151_22, e151_23, e151_26, e151_27, e151_28, e151_31, e151_32, e151_35, e151_36, e151_38, e151_39, e151_40, e151_43, e151_46, ct_i, ct_r, ct_n, ct_h, opt_v, opt_s, ref_s, ref_n, eq_self_iff_true, true_or, or_true, zl0, zl1, zl2, zl3, zl4, zl5, zl6, zl7, zl8, zl9, zl10, zl16, zl32, zl40, zl100, zl160, zIc1, zI_lt, zI_le, nI_eq, nI_add, z_sub, nI_clamp, zI_of, uu_eq, uu_ne, Nat.reduceLT, Nat.reduceLeDiff, Nat.reduceEqDiff, Nat.reduceAdd, Nat.reduceSub, Nat.reduceMul, Nat.not_lt_zero, Nat.lt_irrefl, Nat.le_refl, Bool.false_eq_true, false_and, and_false, true_and, and_true, if_pos, if_neg, if_true, if_false, not_true_eq_false, not_false_eq_true, m0]
    refine g1 ho d I' _ (by simp only [kD, Nat.reduceSub, Nat.reduceEqDiff, if_true, if_false] at hd ⊢; omega) (by omega) hP' (fun I2 hP2 => ?_)
    rw [pQ_t] at hP2
    simp (disch := first | assumption | exact ct_i | exact ct_r | exact ct_n | exact ct_h | omega | exact z_in (by omega) (by omega) | exact b01 | exact Or.inl rfl | exact Or.inr rfl) only [e151_0, e151_1, e151_5, e151_7, e151_10, e151_13, e151_14, e151_16, e151_19, e151_22, e151_23, e151_26, e151_27, e151_28, e151_31, e151_32, e151_35, e151_36, e151_38, e151_39, e151_40, e151_43, e151_46, ct_i, ct_r, ct_n, ct_h, opt_v, opt_s, ref_s, ref_n, eq_self_iff_true, true_or, or_true, zl0, zl1, zl2, zl3, zl4, zl5, zl6, zl7, zl8, zl9, zl10, zl16, zl32, zl40, zl100, zl160, zIc1, zI_lt, zI_le, nI_eq, nI_add, z_sub, nI_clamp, zI_of, uu_eq, uu_ne, Nat.reduceLT, Nat.reduceLeDiff, Nat.reduceEqDiff, Nat.reduceAdd, Nat.reduceSub, Nat.reduceMul, Nat.not_lt_zero, Nat.lt_irrefl, Nat.le_refl, Bool.false_eq_true, false_and, and_false, true_and, and_true, if_pos, if_neg, if_true, if_false, not_true_eq_false, not_false_eq_true, m0]
    refine k150p (show 1 ≤ d by omega) hM hi hP2 (show c1.length < 160 by omega) (show -nI 100 - nI 43 = mCell 10012 by decide) (fun I3 hP3 => ?_)
    simp (disch := first | assumption | exact ct_i | exact ct_r | exact ct_n | exact ct_h | omega | exact z_in (by omega) (by omega) | exact b01 | exact Or.inl rfl | exact Or.inr rfl) only [e151_0, e151_1, e151_5, e151_7, e151_10, e151_13, e151_14, e151_16, e151_19, e151_22, e151_23, e151_26, e151_27, e151_28, e151_31, e151_32, e151_35, e151_36, e151_38, e151_39, e151_40, e151_43, e151_46, ct_i, ct_r, ct_n, ct_h, opt_v, opt_s, ref_s, ref_n, eq_self_iff_true, true_or, or_true, zl0, zl1, zl2, zl3, zl4, zl5, zl6, zl7, zl8, zl9, zl10, zl16, zl32, zl40, zl100, zl160, zIc1, zI_lt, zI_le, nI_eq, nI_add, z_sub, nI_clamp, zI_of, uu_eq, uu_ne, Nat.reduceLT, Nat.reduceLeDiff, Nat.reduceEqDiff, Nat.reduceAdd, Nat.reduceSub, Nat.reduceMul, Nat.not_lt_zero, Nat.lt_irrefl, Nat.le_refl, Bool.false_eq_true, false_and, and_false, true_and, and_true, if_pos, if_neg, if_true, if_false, not_true_eq_false, not_false_eq_true, m0]
    exact g2 ho d I3 Q (.int (nI 43)) (by simp only [kD, Nat.reduceSub, Nat.reduceEqDiff, if_true, if_false] at hd ⊢; omega) (by rw [List.length_append, List.length_singleton]; omega) hP3 (fun I4 h4 => H I4 (pQ_mv h4 (by rw [List.length_append, List.length_singleton]; omega)))
  · have h25 : I 0 25 = nI 45 := by
      have := hP.1.2.2.2.2 (by omega) (by omega)
      rw [ht] at this; exact this
    show aE (a_cl_ d) 151 (4, [.ref 0, l1], [], _) Q
    rw [e151_4]
    simp (disch := first | assumption | exact ct_i | exact ct_r | exact ct_n | exact ct_h | omega | exact z_in (by omega) (by omega) | exact b01 | exact Or.inl rfl | exact Or.inr rfl) only [e151_0, e151_1, e151_5, e151_7, e151_10, e151_13, e151_14, e151_16, e151_19, e151_22, e151_23, e151_26, e151_27, e151_28, e151_31, e151_32, e151_35, e151_36, e151_38, e151_39, e151_40, e151_43, e151_46, ct_i, ct_r, ct_n, ct_h, opt_v, opt_s, ref_s, ref_n, eq_self_iff_true, true_or, or_true, zl0, zl1, zl2, zl3, zl4, zl5, zl6, zl7, zl8, zl9, zl10, zl16, zl32, zl40, zl100, zl160, zIc1, zI_lt, zI_le, nI_eq, nI_add, z_sub, nI_clamp, zI_of, uu_eq, uu_ne, Nat.reduceLT, Nat.reduceLeDiff, Nat.reduceEqDiff, Nat.reduceAdd, Nat.reduceSub, Nat.reduceMul, Nat.not_lt_zero, Nat.lt_irrefl, Nat.le_refl, Bool.false_eq_true, false_and, and_false, true_and, and_true, if_pos, if_neg, if_true, if_false, not_true_eq_false, not_false_eq_true, m0, e43, e45, e42, k154p (show 1 ≤ d by omega) hM hP (show 43 < 128 by decide), k154p (show 1 ≤ d by omega) hM hP (show 45 < 128 by decide), ht, h25]
    refine k138p (show 4 ≤ d by omega) hM hP (fun I' hP' => ?_)
    simp (disch := first | assumption | exact ct_i | exact ct_r | exact ct_n | exact ct_h | omega | exact z_in (by omega) (by omega) | exact b01 | exact Or.inl rfl | exact Or.inr rfl) only [e151_0, e151_1, e151_5, e151_7, e151_10, e151_13, e151_14, e151_16, e151_19, e151_22, e151_23, e151_26, e151_27, e151_28, e151_31, e151_32, e151_35, e151_36, e151_38, e151_39, e151_40, e151_43, e151_46, ct_i, ct_r, ct_n, ct_h, opt_v, opt_s, ref_s, ref_n, eq_self_iff_true, true_or, or_true, zl0, zl1, zl2, zl3, zl4, zl5, zl6, zl7, zl8, zl9, zl10, zl16, zl32, zl40, zl100, zl160, zIc1, zI_lt, zI_le, nI_eq, nI_add, z_sub, nI_clamp, zI_of, uu_eq, uu_ne, Nat.reduceLT, Nat.reduceLeDiff, Nat.reduceEqDiff, Nat.reduceAdd, Nat.reduceSub, Nat.reduceMul, Nat.not_lt_zero, Nat.lt_irrefl, Nat.le_refl, Bool.false_eq_true, false_and, and_false, true_and, and_true, if_pos, if_neg, if_true, if_false, not_true_eq_false, not_false_eq_true, m0]
    refine g1 ho d I' _ (by simp only [kD, Nat.reduceSub, Nat.reduceEqDiff, if_true, if_false] at hd ⊢; omega) (by omega) hP' (fun I2 hP2 => ?_)
    rw [pQ_t] at hP2
    simp (disch := first | assumption | exact ct_i | exact ct_r | exact ct_n | exact ct_h | omega | exact z_in (by omega) (by omega) | exact b01 | exact Or.inl rfl | exact Or.inr rfl) only [e151_0, e151_1, e151_5, e151_7, e151_10, e151_13, e151_14, e151_16, e151_19, e151_22, e151_23, e151_26, e151_27, e151_28, e151_31, e151_32, e151_35, e151_36, e151_38, e151_39, e151_40, e151_43, e151_46, ct_i, ct_r, ct_n, ct_h, opt_v, opt_s, ref_s, ref_n, eq_self_iff_true, true_or, or_true, zl0, zl1, zl2, zl3, zl4, zl5, zl6, zl7, zl8, zl9, zl10, zl16, zl32, zl40, zl100, zl160, zIc1, zI_lt, zI_le, nI_eq, nI_add, z_sub, nI_clamp, zI_of, uu_eq, uu_ne, Nat.reduceLT, Nat.reduceLeDiff, Nat.reduceEqDiff, Nat.reduceAdd, Nat.reduceSub, Nat.reduceMul, Nat.not_lt_zero, Nat.lt_irrefl, Nat.le_refl, Bool.false_eq_true, false_and, and_false, true_and, and_true, if_pos, if_neg, if_true, if_false, not_true_eq_false, not_false_eq_true, m0]
    refine k150p (show 1 ≤ d by omega) hM hi hP2 (show c1.length < 160 by omega) (show -nI 100 - nI 45 = mCell 10013 by decide) (fun I3 hP3 => ?_)
    simp (disch := first | assumption | exact ct_i | exact ct_r | exact ct_n | exact ct_h | omega | exact z_in (by omega) (by omega) | exact b01 | exact Or.inl rfl | exact Or.inr rfl) only [e151_0, e151_1, e151_5, e151_7, e151_10, e151_13, e151_14, e151_16, e151_19, e151_22, e151_23, e151_26, e151_27, e151_28, e151_31, e151_32, e151_35, e151_36, e151_38, e151_39, e151_40, e151_43, e151_46, ct_i, ct_r, ct_n, ct_h, opt_v, opt_s, ref_s, ref_n, eq_self_iff_true, true_or, or_true, zl0, zl1, zl2, zl3, zl4, zl5, zl6, zl7, zl8, zl9, zl10, zl16, zl32, zl40, zl100, zl160, zIc1, zI_lt, zI_le, nI_eq, nI_add, z_sub, nI_clamp, zI_of, uu_eq, uu_ne, Nat.reduceLT, Nat.reduceLeDiff, Nat.reduceEqDiff, Nat.reduceAdd, Nat.reduceSub, Nat.reduceMul, Nat.not_lt_zero, Nat.lt_irrefl, Nat.le_refl, Bool.false_eq_true, false_and, and_false, true_and, and_true, if_pos, if_neg, if_true, if_false, not_true_eq_false, not_false_eq_true, m0]
    exact g2 ho d I3 Q (.int (nI 45)) (by simp only [kD, Nat.reduceSub, Nat.reduceEqDiff, if_true, if_false] at hd ⊢; omega) (by rw [List.length_append, List.length_singleton]; omega) hP3 (fun I4 h4 => H I4 (pQ_mv h4 (by rw [List.length_append, List.length_singleton]; omega)))

theorem u5_4 (hM : mK sh R) (hs160 : s ≤ 160) (hi : i < 6) {o p : Nat} {c : List Nat} {k p1 : Nat} {c1 : List Nat} (hp : p ≤ s) (hop : opc 4 (tk tp s p) = some k) (B : Bd s (nx tp s p) c p1 c1) (g1 : CM tp s i n t sh I0 L R 6 o (nx tp s p) c false p1 c1) : CM tp s i n t sh I0 L R 5 o p c false p1 c1 := by
  rw [CM_c (by decide)] at g1
  rw [CM_l (by decide)]
  have m0 := mm_0 hM
  obtain ⟨B1, B2, B3, B4⟩ := B
  have e43 : (43 : Int32) = nI 43 := rfl
  have e45 : (45 : Int32) = nI 45 := rfl
  have e42 : (42 : Int32) = nI 42 := rfl
  have e60 : (60 : Int32) = nI 60 := rfl
  have e61 : (61 : Int32) = nI 61 := rfl
  have e41 : (41 : Int32) = nI 41 := rfl
  intro ho d I Q l1 hd hc hP H
  simp only [kD, Nat.reduceSub, Nat.reduceEqDiff, if_true, if_false] at hd
  have hT := tk_lt (tp := tp) (s := s) (p := p)
  have hlt := tk_ne (opc_ne hop).1
  have hnx := nx_gt (tp := tp) hlt
  rcases opc_4 hop with ⟨ht, rfl⟩ | ⟨ht, rfl⟩
  · have h25 : I 0 25 = nI 43 := by
      have := hP.1.2.2.2.2 (by omega) (by omega)
      rw [ht] at this; exact this
    show aE (a_cl_ d) 151 (4, [.ref 0, l1], [], _) Q
    rw [e151_4]
    simp (disch := first | assumption | exact ct_i | exact ct_r | exact ct_n | exact ct_h | omega | exact z_in (by omega) (by omega) | exact b01 | exact Or.inl rfl | exact Or.inr rfl) only [e151_0, e151_1, e151_5, e151_7, e151_10, e151_13, e151_14, e151_16, e151_19, e151_22, e151_23, e151_26, e151_27, e151_28, e151_31, e151_32, e151_35, e151_36, e151_38, e151_39, e151_40, e151_43, e151_46, ct_i, ct_r, ct_n, ct_h, opt_v, opt_s, ref_s, ref_n, eq_self_iff_true, true_or, or_true, zl0, zl1, zl2, zl3, zl4, zl5, zl6, zl7, zl8, zl9, zl10, zl16, zl32, zl40, zl100, zl160, zIc1, zI_lt, zI_le, nI_eq, nI_add, z_sub, nI_clamp, zI_of, uu_eq, uu_ne, Nat.reduceLT, Nat.reduceLeDiff, Nat.reduceEqDiff, Nat.reduceAdd, Nat.reduceSub, Nat.reduceMul, Nat.not_lt_zero, Nat.lt_irrefl, Nat.le_refl, Bool.false_eq_true, false_and, and_false, true_and, and_true, if_pos, if_neg, if_true, if_false, not_true_eq_false, not_false_eq_true, m0, e43, e45, e42, k154p (show 1 ≤ d by omega) hM hP (show 43 < 128 by decide), k154p (show 1 ≤ d by omega) hM hP (show 45 < 128 by decide), ht, h25]
    refine k138p (show 4 ≤ d by omega) hM hP (fun I' hP' => ?_)
    simp (disch := first | assumption | exact ct_i | exact ct_r | exact ct_n | exact ct_h | omega | exact z_in (by omega) (by omega) | exact b01 | exact Or.inl rfl | exact Or.inr rfl) only [e151_0, e151_1, e151_5, e151_7, e151_10, e151_13, e151_14, e151_16, e151_19, e151_22, e151_23, e151_26, e151_27, e151_28, e151_31, e151_32, e151_35, e151_36, e151_38, e151_39, e151_40, e151_43, e151_46, ct_i, ct_r, ct_n, ct_h, opt_v, opt_s, ref_s, ref_n, eq_self_iff_true, true_or, or_true, zl0, zl1, zl2, zl3, zl4, zl5, zl6, zl7, zl8, zl9, zl10, zl16, zl32, zl40, zl100, zl160, zIc1, zI_lt, zI_le, nI_eq, nI_add, z_sub, nI_clamp, zI_of, uu_eq, uu_ne, Nat.reduceLT, Nat.reduceLeDiff, Nat.reduceEqDiff, Nat.reduceAdd, Nat.reduceSub, Nat.reduceMul, Nat.not_lt_zero, Nat.lt_irrefl, Nat.le_refl, Bool.false_eq_true, false_and, and_false, true_and, and_true, if_pos, if_neg, if_true, if_false, not_true_eq_false, not_false_eq_true, m0]
    refine g1 ho d I' _ (by simp only [kD, Nat.reduceSub, Nat.reduceEqDiff, if_true, if_false] at hd ⊢; omega) (by omega) hP' (fun I2 hP2 => ?_)
    rw [pQ_f] at hP2
    obtain ⟨e, hW, he⟩ := hP2
    simp (disch := first | assumption | exact ct_i | exact ct_r | exact ct_n | exact ct_h | omega | exact z_in (by omega) (by omega) | exact b01 | exact Or.inl rfl | exact Or.inr rfl) only [e151_0, e151_1, e151_5, e151_7, e151_10, e151_13, e151_14, e151_16, e151_19, e151_22, e151_23, e151_26, e151_27, e151_28, e151_31, e151_32, e151_35, e151_36, e151_38, e151_39, e151_40, e151_43, e151_46, ct_i, ct_r, ct_n, ct_h, opt_v, opt_s, ref_s, ref_n, eq_self_iff_true, true_or, or_true, zl0, zl1, zl2, zl3, zl4, zl5, zl6, zl7, zl8, zl9, zl10, zl16, zl32, zl40, zl100, zl160, zIc1, zI_lt, zI_le, nI_eq, nI_add, z_sub, nI_clamp, zI_of, uu_eq, uu_ne, Nat.reduceLT, Nat.reduceLeDiff, Nat.reduceEqDiff, Nat.reduceAdd, Nat.reduceSub, Nat.reduceMul, Nat.not_lt_zero, Nat.lt_irrefl, Nat.le_refl, Bool.false_eq_true, false_and, and_false, true_and, and_true, if_pos, if_neg, if_true, if_false, not_true_eq_false, not_false_eq_true, m0]
    refine k150w (show 1 ≤ d by omega) hM hi hW (show e < 170 by omega) (fun I3 hW3 => ?_)
    have q := H I3 (pQ_f.mpr ⟨e + 1, hW3, by omega⟩)
    simp (disch := first | assumption | exact ct_i | exact ct_r | exact ct_n | exact ct_h | omega | exact z_in (by omega) (by omega) | exact b01 | exact Or.inl rfl | exact Or.inr rfl) only [e151_0, e151_1, e151_4, e151_5, e151_7, e151_10, e151_13, e151_14, e151_16, e151_19, e151_22, e151_23, e151_26, e151_27, e151_28, e151_31, e151_32, e151_35, e151_36, e151_38, e151_39, e151_40, e151_43, e151_46, ct_i, ct_r, ct_n, ct_h, opt_v, opt_s, ref_s, ref_n, eq_self_iff_true, true_or, or_true, zl0, zl1, zl2, zl3, zl4, zl5, zl6, zl7, zl8, zl9, zl10, zl16, zl32, zl40, zl100, zl160, zIc1, zI_lt, zI_le, nI_eq, nI_add, z_sub, nI_clamp, zI_of, uu_eq, uu_ne, Nat.reduceLT, Nat.reduceLeDiff, Nat.reduceEqDiff, Nat.reduceAdd, Nat.reduceSub, Nat.reduceMul, Nat.not_lt_zero, Nat.lt_irrefl, Nat.le_refl, Bool.false_eq_true, false_and, and_false, true_and, and_true, if_pos, if_neg, if_true, if_false, not_true_eq_false, not_false_eq_true, m0, e43, e45, e42, k154w (show 1 ≤ d by omega) hM hW3]
    exact q
  · have h25 : I 0 25 = nI 45 := by
      have := hP.1.2.2.2.2 (by omega) (by omega)
      rw [ht] at this; exact this
    show aE (a_cl_ d) 151 (4, [.ref 0, l1], [], _) Q
    rw [e151_4]
    simp (disch := first | assumption | exact ct_i | exact ct_r | exact ct_n | exact ct_h | omega | exact z_in (by omega) (by omega) | exact b01 | exact Or.inl rfl | exact Or.inr rfl) only [e151_0, e151_1, e151_5, e151_7, e151_10, e151_13, e151_14, e151_16, e151_19, e151_22, e151_23, e151_26, e151_27, e151_28, e151_31, e151_32, e151_35, e151_36, e151_38, e151_39, e151_40, e151_43, e151_46, ct_i, ct_r, ct_n, ct_h, opt_v, opt_s, ref_s, ref_n, eq_self_iff_true, true_or, or_true, zl0, zl1, zl2, zl3, zl4, zl5, zl6, zl7, zl8, zl9, zl10, zl16, zl32, zl40, zl100, zl160, zIc1, zI_lt, zI_le, nI_eq, nI_add, z_sub, nI_clamp, zI_of, uu_eq, uu_ne, Nat.reduceLT, Nat.reduceLeDiff, Nat.reduceEqDiff, Nat.reduceAdd, Nat.reduceSub, Nat.reduceMul, Nat.not_lt_zero, Nat.lt_irrefl, Nat.le_refl, Bool.false_eq_true, false_and, and_false, true_and, and_true, if_pos, if_neg, if_true, if_false, not_true_eq_false, not_false_eq_true, m0, e43, e45, e42, k154p (show 1 ≤ d by omega) hM hP (show 43 < 128 by decide), k154p (show 1 ≤ d by omega) hM hP (show 45 < 128 by decide), ht, h25]
    refine k138p (show 4 ≤ d by omega) hM hP (fun I' hP' => ?_)
    simp (disch := first | assumption | exact ct_i | exact ct_r | exact ct_n | exact ct_h | omega | exact z_in (by omega) (by omega) | exact b01 | exact Or.inl rfl | exact Or.inr rfl) only [e151_0, e151_1, e151_5, e151_7, e151_10, e151_13, e151_14, e151_16, e151_19, e151_22, e151_23, e151_26, e151_27, e151_28, e151_31, e151_32, e151_35, e151_36, e151_38, e151_39, e151_40, e151_43, e151_46, ct_i, ct_r, ct_n, ct_h, opt_v, opt_s, ref_s, ref_n, eq_self_iff_true, true_or, or_true, zl0, zl1, zl2, zl3, zl4, zl5, zl6, zl7, zl8, zl9, zl10, zl16, zl32, zl40, zl100, zl160, zIc1, zI_lt, zI_le, nI_eq, nI_add, z_sub, nI_clamp, zI_of, uu_eq, uu_ne, Nat.reduceLT, Nat.reduceLeDiff, Nat.reduceEqDiff, Nat.reduceAdd, Nat.reduceSub, Nat.reduceMul, Nat.not_lt_zero, Nat.lt_irrefl, Nat.le_refl, Bool.false_eq_true, false_and, and_false, true_and, and_true, if_pos, if_neg, if_true, if_false, not_true_eq_false, not_false_eq_true, m0]
    refine g1 ho d I' _ (by simp only [kD, Nat.reduceSub, Nat.reduceEqDiff, if_true, if_false] at hd ⊢; omega) (by omega) hP' (fun I2 hP2 => ?_)
    rw [pQ_f] at hP2
    obtain ⟨e, hW, he⟩ := hP2
    simp (disch := first | assumption | exact ct_i | exact ct_r | exact ct_n | exact ct_h | omega | exact z_in (by omega) (by omega) | exact b01 | exact Or.inl rfl | exact Or.inr rfl) only [e151_0, e151_1, e151_5, e151_7, e151_10, e151_13, e151_14, e151_16, e151_19, e151_22, e151_23, e151_26, e151_27, e151_28, e151_31, e151_32, e151_35, e151_36, e151_38, e151_39, e151_40, e151_43, e151_46, ct_i, ct_r, ct_n, ct_h, opt_v, opt_s, ref_s, ref_n, eq_self_iff_true, true_or, or_true, zl0, zl1, zl2, zl3, zl4, zl5, zl6, zl7, zl8, zl9, zl10, zl16, zl32, zl40, zl100, zl160, zIc1, zI_lt, zI_le, nI_eq, nI_add, z_sub, nI_clamp, zI_of, uu_eq, uu_ne, Nat.reduceLT, Nat.reduceLeDiff, Nat.reduceEqDiff, Nat.reduceAdd, Nat.reduceSub, Nat.reduceMul, Nat.not_lt_zero, Nat.lt_irrefl, Nat.le_refl, Bool.false_eq_true, false_and, and_false, true_and, and_true, if_pos, if_neg, if_true, if_false, not_true_eq_false, not_false_eq_true, m0]
    refine k150w (show 1 ≤ d by omega) hM hi hW (show e < 170 by omega) (fun I3 hW3 => ?_)
    have q := H I3 (pQ_f.mpr ⟨e + 1, hW3, by omega⟩)
    simp (disch := first | assumption | exact ct_i | exact ct_r | exact ct_n | exact ct_h | omega | exact z_in (by omega) (by omega) | exact b01 | exact Or.inl rfl | exact Or.inr rfl) only [e151_0, e151_1, e151_4, e151_5, e151_7, e151_10, e151_13, e151_14, e151_16, e151_19, e151_22, e151_23, e151_26, e151_27, e151_28, e151_31, e151_32, e151_35, e151_36, e151_38, e151_39, e151_40, e151_43, e151_46, ct_i, ct_r, ct_n, ct_h, opt_v, opt_s, ref_s, ref_n, eq_self_iff_true, true_or, or_true, zl0, zl1, zl2, zl3, zl4, zl5, zl6, zl7, zl8, zl9, zl10, zl16, zl32, zl40, zl100, zl160, zIc1, zI_lt, zI_le, nI_eq, nI_add, z_sub, nI_clamp, zI_of, uu_eq, uu_ne, Nat.reduceLT, Nat.reduceLeDiff, Nat.reduceEqDiff, Nat.reduceAdd, Nat.reduceSub, Nat.reduceMul, Nat.not_lt_zero, Nat.lt_irrefl, Nat.le_refl, Bool.false_eq_true, false_and, and_false, true_and, and_true, if_pos, if_neg, if_true, if_false, not_true_eq_false, not_false_eq_true, m0, e43, e45, e42, k154w (show 1 ≤ d by omega) hM hW3]
    exact q

theorem u1_6 (hM : mK sh R) (hs160 : s ≤ 160) (hi : i < 6) {o p : Nat} {c : List Nat} {p1 : Nat} {c1 : List Nat} {b : Bool} {p2 : Nat} {c2 : List Nat} (B : Bd s p c p1 c1) (g1 : CM tp s i n t sh I0 L R 10 o p c true p1 c1) (g2 : CM tp s i n t sh I0 L R 7 o p1 c1 b p2 c2) : CM tp s i n t sh I0 L R 6 o p c b p2 c2 := by
  rw [CM_c (by decide)] at g1 ⊢
  rw [CM_l (by decide)] at g2
  have m0 := mm_0 hM
  obtain ⟨B1, B2, B3, B4⟩ := B
  intro ho d I Q hd hc hP H
  simp only [kD, Nat.reduceEqDiff, if_true, if_false] at hd
  show aC d 152 _ _ _
  obtain ⟨d, rfl⟩ : ∃ e, d = e + 1 := ⟨d - 1, by omega⟩
  simp (disch := first | assumption | exact ct_i | exact ct_r | exact ct_n | exact ct_h | omega | exact z_in (by omega) (by omega) | exact b01 | exact Or.inl rfl | exact Or.inr rfl) only [b152, e152_0, e152_1, e152_5, e152_7, e152_10, e152_13, e152_14, e152_17, e152_18, e152_21, e152_22, e152_25, e152_28, e152_31, ct_i, ct_r, ct_n, ct_h, opt_v, opt_s, ref_s, ref_n, eq_self_iff_true, true_or, or_true, m0]
  refine g1 ho d I _ (by simp only [kD, Nat.reduceSub, Nat.reduceEqDiff, if_true, if_false] at hd ⊢; omega) hc hP (fun I' hP' => ?_)
  rw [pQ_t] at hP'
  simp (disch := first | assumption | exact ct_i | exact ct_r | exact ct_n | exact ct_h | omega | exact z_in (by omega) (by omega) | exact b01 | exact Or.inl rfl | exact Or.inr rfl) only [e152_0, e152_1, e152_5, e152_7, e152_10, e152_13, e152_14, e152_17, e152_18, e152_21, e152_22, e152_25, e152_28, e152_31, ct_i, ct_r, ct_n, ct_h, opt_v, opt_s, ref_s, ref_n, eq_self_iff_true, true_or, or_true]
  exact g2 ho d I' Q a_hole (by simp only [kD, Nat.reduceSub, Nat.reduceEqDiff, if_true, if_false] at hd ⊢; omega) (by omega) hP' (fun I2 h2 => H I2 (pQ_mv h2 (by omega)))
theorem u2_6 (hM : mK sh R) (hs160 : s ≤ 160) (hi : i < 6) {o p : Nat} {c : List Nat} {p1 : Nat} {c1 : List Nat} (B : Bd s p c p1 c1) (g1 : CM tp s i n t sh I0 L R 10 o p c false p1 c1) : CM tp s i n t sh I0 L R 6 o p c false p1 c1 := by
  rw [CM_c (by decide)] at g1 ⊢
  have m0 := mm_0 hM
  obtain ⟨B1, B2, B3, B4⟩ := B
  have e43 : (43 : Int32) = nI 43 := rfl
  have e45 : (45 : Int32) = nI 45 := rfl
  have e42 : (42 : Int32) = nI 42 := rfl
  have e60 : (60 : Int32) = nI 60 := rfl
  have e61 : (61 : Int32) = nI 61 := rfl
  have e41 : (41 : Int32) = nI 41 := rfl
  intro ho d I Q hd hc hP H
  simp only [kD, Nat.reduceEqDiff, if_true, if_false] at hd
  show aC d 152 _ _ _
  obtain ⟨d, rfl⟩ : ∃ e, d = e + 1 := ⟨d - 1, by omega⟩
  simp (disch := first | assumption | exact ct_i | exact ct_r | exact ct_n | exact ct_h | omega | exact z_in (by omega) (by omega) | exact b01 | exact Or.inl rfl | exact Or.inr rfl) only [b152, e152_0, e152_1, e152_5, e152_7, e152_10, e152_13, e152_14, e152_17, e152_18, e152_21, e152_22, e152_25, e152_28, e152_31, ct_i, ct_r, ct_n, ct_h, opt_v, opt_s, ref_s, ref_n, eq_self_iff_true, true_or, or_true, m0]
  refine g1 ho d I _ (by simp only [kD, Nat.reduceSub, Nat.reduceEqDiff, if_true, if_false] at hd ⊢; omega) hc hP (fun I' hP' => ?_)
  have q := H I' hP'
  rw [pQ_f] at hP'
  obtain ⟨e, hW, he⟩ := hP'
  simp (disch := first | assumption | exact ct_i | exact ct_r | exact ct_n | exact ct_h | omega | exact z_in (by omega) (by omega) | exact b01 | exact Or.inl rfl | exact Or.inr rfl) only [e152_0, e152_1, e152_4, e152_5, e152_7, e152_10, e152_13, e152_14, e152_17, e152_18, e152_21, e152_22, e152_25, e152_28, e152_31, ct_i, ct_r, ct_n, ct_h, opt_v, opt_s, ref_s, ref_n, eq_self_iff_true, true_or, or_true, zl0, zl1, zl2, zl3, zl4, zl5, zl6, zl7, zl8, zl9, zl10, zl16, zl32, zl40, zl100, zl160, zIc1, zI_lt, zI_le, nI_eq, nI_add, z_sub, nI_clamp, zI_of, uu_eq, uu_ne, Nat.reduceLT, Nat.reduceLeDiff, Nat.reduceEqDiff, Nat.reduceAdd, Nat.reduceSub, Nat.reduceMul, Nat.not_lt_zero, Nat.lt_irrefl, Nat.le_refl, Bool.false_eq_true, false_and, and_false, true_and, and_true, if_pos, if_neg, if_true, if_false, not_true_eq_false, not_false_eq_true, m0, e43, e45, e42, k154w (show 1 ≤ d by omega) hM hW]
  exact q
theorem u3_6 (hM : mK sh R) (hs160 : s ≤ 160) (hi : i < 6) {o p : Nat} {c : List Nat} (hop : opc 6 (tk tp s p) = none) : CM tp s i n t sh I0 L R 7 o p c true p c := by
  rw [CM_l (by decide)]
  have m0 := mm_0 hM
  have e43 : (43 : Int32) = nI 43 := rfl
  have e45 : (45 : Int32) = nI 45 := rfl
  have e42 : (42 : Int32) = nI 42 := rfl
  have e60 : (60 : Int32) = nI 60 := rfl
  have e61 : (61 : Int32) = nI 61 := rfl
  have e41 : (41 : Int32) = nI 41 := rfl
  intro ho d I Q l1 hd hc hP H
  simp only [kD, Nat.reduceSub, Nat.reduceEqDiff, if_true, if_false] at hd
  have hT := tk_lt (tp := tp) (s := s) (p := p)
  have hn := opc_6n hop
  have q := H I (pQ_t.mpr hP)
  show aE (a_cl_ d) 152 (4, [.ref 0], [], _) Q
  rw [e152_4]
  simp (disch := first | assumption | exact ct_i | exact ct_r | exact ct_n | exact ct_h | omega | exact z_in (by omega) (by omega) | exact b01 | exact Or.inl rfl | exact Or.inr rfl) only [e152_0, e152_1, e152_5, e152_7, e152_10, e152_13, e152_14, e152_17, e152_18, e152_21, e152_22, e152_25, e152_28, e152_31, ct_i, ct_r, ct_n, ct_h, opt_v, opt_s, ref_s, ref_n, eq_self_iff_true, true_or, or_true, zl0, zl1, zl2, zl3, zl4, zl5, zl6, zl7, zl8, zl9, zl10, zl16, zl32, zl40, zl100, zl160, zIc1, zI_lt, zI_le, nI_eq, nI_add, z_sub, nI_clamp, zI_of, uu_eq, uu_ne, Nat.reduceLT, Nat.reduceLeDiff, Nat.reduceEqDiff, Nat.reduceAdd, Nat.reduceSub, Nat.reduceMul, Nat.not_lt_zero, Nat.lt_irrefl, Nat.le_refl, Bool.false_eq_true, false_and, and_false, true_and, and_true, if_pos, if_neg, if_true, if_false, not_true_eq_false, not_false_eq_true, m0, e43, e45, e42, k154p (show 1 ≤ d by omega) hM hP (show 42 < 128 by decide), hn]
  exact q

theorem u4_6 (hM : mK sh R) (hs160 : s ≤ 160) (hi : i < 6) {o p : Nat} {c : List Nat} {k p1 : Nat} {c1 : List Nat} {b : Bool} {p2 : Nat} {c2 : List Nat} (hp : p ≤ s) (hop : opc 6 (tk tp s p) = some k) (B : Bd s (nx tp s p) c p1 c1) (g1 : CM tp s i n t sh I0 L R 10 o (nx tp s p) c true p1 c1) (g2 : CM tp s i n t sh I0 L R 7 o p1 (c1 ++ [k]) b p2 c2) : CM tp s i n t sh I0 L R 7 o p c b p2 c2 := by
  rw [CM_c (by decide)] at g1
  rw [CM_l (by decide)] at g2 ⊢
  have m0 := mm_0 hM
  obtain ⟨B1, B2, B3, B4⟩ := B
  have e43 : (43 : Int32) = nI 43 := rfl
  have e45 : (45 : Int32) = nI 45 := rfl
  have e42 : (42 : Int32) = nI 42 := rfl
  have e60 : (60 : Int32) = nI 60 := rfl
  have e61 : (61 : Int32) = nI 61 := rfl
  have e41 : (41 : Int32) = nI 41 := rfl
  intro ho d I Q l1 hd hc hP H
  simp only [kD, Nat.reduceSub, Nat.reduceEqDiff, if_true, if_false] at hd
  have hT := tk_lt (tp := tp) (s := s) (p := p)
  have hlt := tk_ne (opc_ne hop).1
  have hnx := nx_gt (tp := tp) hlt
  obtain ⟨ht, rfl⟩ := opc_6 hop
  show aE (a_cl_ d) 152 (4, [.ref 0], [], _) Q
  rw [e152_4]
  simp (disch := first | assumption | exact ct_i | exact ct_r | exact ct_n | exact ct_h | omega | exact z_in (by omega) (by omega) | exact b01 | exact Or.inl rfl | exact Or.inr rfl) only [e152_0, e152_1, e152_5, e152_7, e152_10, e152_13, e152_14, e152_17, e152_18, e152_21, e152_22, e152_25, e152_28, e152_31, ct_i, ct_r, ct_n, ct_h, opt_v, opt_s, ref_s, ref_n, eq_self_iff_true, true_or, or_true, zl0, zl1, zl2, zl3, zl4, zl5, zl6, zl7, zl8, zl9, zl10, zl16, zl32, zl40, zl100, zl160, zIc1, zI_lt, zI_le, nI_eq, nI_add, z_sub, nI_clamp, zI_of, uu_eq, uu_ne, Nat.reduceLT, Nat.reduceLeDiff, Nat.reduceEqDiff, Nat.reduceAdd, Nat.reduceSub, Nat.reduceMul, Nat.not_lt_zero, Nat.lt_irrefl, Nat.le_refl, Bool.false_eq_true, false_and, and_false, true_and, and_true, if_pos, if_neg, if_true, if_false, not_true_eq_false, not_false_eq_true, m0, e43, e45, e42, k154p (show 1 ≤ d by omega) hM hP (show 42 < 128 by decide), ht]
  refine k138p (show 4 ≤ d by omega) hM hP (fun I' hP' => ?_)
  simp (disch := first | assumption | exact ct_i | exact ct_r | exact ct_n | exact ct_h | omega | exact z_in (by omega) (by omega) | exact b01 | exact Or.inl rfl | exact Or.inr rfl) only [e152_0, e152_1, e152_5, e152_7, e152_10, e152_13, e152_14, e152_17, e152_18, e152_21, e152_22, e152_25, e152_28, e152_31, ct_i, ct_r, ct_n, ct_h, opt_v, opt_s, ref_s, ref_n, eq_self_iff_true, true_or, or_true, zl0, zl1, zl2, zl3, zl4, zl5, zl6, zl7, zl8, zl9, zl10, zl16, zl32, zl40, zl100, zl160, zIc1, zI_lt, zI_le, nI_eq, nI_add, z_sub, nI_clamp, zI_of, uu_eq, uu_ne, Nat.reduceLT, Nat.reduceLeDiff, Nat.reduceEqDiff, Nat.reduceAdd, Nat.reduceSub, Nat.reduceMul, Nat.not_lt_zero, Nat.lt_irrefl, Nat.le_refl, Bool.false_eq_true, false_and, and_false, true_and, and_true, if_pos, if_neg, if_true, if_false, not_true_eq_false, not_false_eq_true, m0]
  refine g1 ho d I' _ (by simp only [kD, Nat.reduceSub, Nat.reduceEqDiff, if_true, if_false] at hd ⊢; omega) (by omega) hP' (fun I2 hP2 => ?_)
  rw [pQ_t] at hP2
  simp (disch := first | assumption | exact ct_i | exact ct_r | exact ct_n | exact ct_h | omega | exact z_in (by omega) (by omega) | exact b01 | exact Or.inl rfl | exact Or.inr rfl) only [e152_0, e152_1, e152_5, e152_7, e152_10, e152_13, e152_14, e152_17, e152_18, e152_21, e152_22, e152_25, e152_28, e152_31, ct_i, ct_r, ct_n, ct_h, opt_v, opt_s, ref_s, ref_n, eq_self_iff_true, true_or, or_true, zl0, zl1, zl2, zl3, zl4, zl5, zl6, zl7, zl8, zl9, zl10, zl16, zl32, zl40, zl100, zl160, zIc1, zI_lt, zI_le, nI_eq, nI_add, z_sub, nI_clamp, zI_of, uu_eq, uu_ne, Nat.reduceLT, Nat.reduceLeDiff, Nat.reduceEqDiff, Nat.reduceAdd, Nat.reduceSub, Nat.reduceMul, Nat.not_lt_zero, Nat.lt_irrefl, Nat.le_refl, Bool.false_eq_true, false_and, and_false, true_and, and_true, if_pos, if_neg, if_true, if_false, not_true_eq_false, not_false_eq_true, m0]
  refine k150p (show 1 ≤ d by omega) hM hi hP2 (show c1.length < 160 by omega) (show -142 = mCell 10014 by decide) (fun I3 hP3 => ?_)
  simp (disch := first | assumption | exact ct_i | exact ct_r | exact ct_n | exact ct_h | omega | exact z_in (by omega) (by omega) | exact b01 | exact Or.inl rfl | exact Or.inr rfl) only [e152_0, e152_1, e152_5, e152_7, e152_10, e152_13, e152_14, e152_17, e152_18, e152_21, e152_22, e152_25, e152_28, e152_31, ct_i, ct_r, ct_n, ct_h, opt_v, opt_s, ref_s, ref_n, eq_self_iff_true, true_or, or_true, zl0, zl1, zl2, zl3, zl4, zl5, zl6, zl7, zl8, zl9, zl10, zl16, zl32, zl40, zl100, zl160, zIc1, zI_lt, zI_le, nI_eq, nI_add, z_sub, nI_clamp, zI_of, uu_eq, uu_ne, Nat.reduceLT, Nat.reduceLeDiff, Nat.reduceEqDiff, Nat.reduceAdd, Nat.reduceSub, Nat.reduceMul, Nat.not_lt_zero, Nat.lt_irrefl, Nat.le_refl, Bool.false_eq_true, false_and, and_false, true_and, and_true, if_pos, if_neg, if_true, if_false, not_true_eq_false, not_false_eq_true, m0]
  exact g2 ho d I3 Q a_hole (by simp only [kD, Nat.reduceSub, Nat.reduceEqDiff, if_true, if_false] at hd ⊢; omega) (by rw [List.length_append, List.length_singleton]; omega) hP3 (fun I4 h4 => H I4 (pQ_mv h4 (by rw [List.length_append, List.length_singleton]; omega)))

theorem u5_6 (hM : mK sh R) (hs160 : s ≤ 160) (hi : i < 6) {o p : Nat} {c : List Nat} {k p1 : Nat} {c1 : List Nat} (hp : p ≤ s) (hop : opc 6 (tk tp s p) = some k) (B : Bd s (nx tp s p) c p1 c1) (g1 : CM tp s i n t sh I0 L R 10 o (nx tp s p) c false p1 c1) : CM tp s i n t sh I0 L R 7 o p c false p1 c1 := by
  rw [CM_c (by decide)] at g1
  rw [CM_l (by decide)]
  have m0 := mm_0 hM
  obtain ⟨B1, B2, B3, B4⟩ := B
  have e43 : (43 : Int32) = nI 43 := rfl
  have e45 : (45 : Int32) = nI 45 := rfl
  have e42 : (42 : Int32) = nI 42 := rfl
  have e60 : (60 : Int32) = nI 60 := rfl
  have e61 : (61 : Int32) = nI 61 := rfl
  have e41 : (41 : Int32) = nI 41 := rfl
  intro ho d I Q l1 hd hc hP H
  simp only [kD, Nat.reduceSub, Nat.reduceEqDiff, if_true, if_false] at hd
  have hT := tk_lt (tp := tp) (s := s) (p := p)
  have hlt := tk_ne (opc_ne hop).1
  have hnx := nx_gt (tp := tp) hlt
  obtain ⟨ht, rfl⟩ := opc_6 hop
  show aE (a_cl_ d) 152 (4, [.ref 0], [], _) Q
  rw [e152_4]
  simp (disch := first | assumption | exact ct_i | exact ct_r | exact ct_n | exact ct_h | omega | exact z_in (by omega) (by omega) | exact b01 | exact Or.inl rfl | exact Or.inr rfl) only [e152_0, e152_1, e152_5, e152_7, e152_10, e152_13, e152_14, e152_17, e152_18, e152_21, e152_22, e152_25, e152_28, e152_31, ct_i, ct_r, ct_n, ct_h, opt_v, opt_s, ref_s, ref_n, eq_self_iff_true, true_or, or_true, zl0, zl1, zl2, zl3, zl4, zl5, zl6, zl7, zl8, zl9, zl10, zl16, zl32, zl40, zl100, zl160, zIc1, zI_lt, zI_le, nI_eq, nI_add, z_sub, nI_clamp, zI_of, uu_eq, uu_ne, Nat.reduceLT, Nat.reduceLeDiff, Nat.reduceEqDiff, Nat.reduceAdd, Nat.reduceSub, Nat.reduceMul, Nat.not_lt_zero, Nat.lt_irrefl, Nat.le_refl, Bool.false_eq_true, false_and, and_false, true_and, and_true, if_pos, if_neg, if_true, if_false, not_true_eq_false, not_false_eq_true, m0, e43, e45, e42, k154p (show 1 ≤ d by omega) hM hP (show 42 < 128 by decide), ht]
  refine k138p (show 4 ≤ d by omega) hM hP (fun I' hP' => ?_)
  simp (disch := first | assumption | exact ct_i | exact ct_r | exact ct_n | exact ct_h | omega | exact z_in (by omega) (by omega) | exact b01 | exact Or.inl rfl | exact Or.inr rfl) only [e152_0, e152_1, e152_5, e152_7, e152_10, e152_13, e152_14, e152_17, e152_18, e152_21, e152_22, e152_25, e152_28, e152_31, ct_i, ct_r, ct_n, ct_h, opt_v, opt_s, ref_s, ref_n, eq_self_iff_true, true_or, or_true, zl0, zl1, zl2, zl3, zl4, zl5, zl6, zl7, zl8, zl9, zl10, zl16, zl32, zl40, zl100, zl160, zIc1, zI_lt, zI_le, nI_eq, nI_add, z_sub, nI_clamp, zI_of, uu_eq, uu_ne, Nat.reduceLT, Nat.reduceLeDiff, Nat.reduceEqDiff, Nat.reduceAdd, Nat.reduceSub, Nat.reduceMul, Nat.not_lt_zero, Nat.lt_irrefl, Nat.le_refl, Bool.false_eq_true, false_and, and_false, true_and, and_true, if_pos, if_neg, if_true, if_false, not_true_eq_false, not_false_eq_true, m0]
  refine g1 ho d I' _ (by simp only [kD, Nat.reduceSub, Nat.reduceEqDiff, if_true, if_false] at hd ⊢; omega) (by omega) hP' (fun I2 hP2 => ?_)
  rw [pQ_f] at hP2
  obtain ⟨e, hW, he⟩ := hP2
  simp (disch := first | assumption | exact ct_i | exact ct_r | exact ct_n | exact ct_h | omega | exact z_in (by omega) (by omega) | exact b01 | exact Or.inl rfl | exact Or.inr rfl) only [e152_0, e152_1, e152_5, e152_7, e152_10, e152_13, e152_14, e152_17, e152_18, e152_21, e152_22, e152_25, e152_28, e152_31, ct_i, ct_r, ct_n, ct_h, opt_v, opt_s, ref_s, ref_n, eq_self_iff_true, true_or, or_true, zl0, zl1, zl2, zl3, zl4, zl5, zl6, zl7, zl8, zl9, zl10, zl16, zl32, zl40, zl100, zl160, zIc1, zI_lt, zI_le, nI_eq, nI_add, z_sub, nI_clamp, zI_of, uu_eq, uu_ne, Nat.reduceLT, Nat.reduceLeDiff, Nat.reduceEqDiff, Nat.reduceAdd, Nat.reduceSub, Nat.reduceMul, Nat.not_lt_zero, Nat.lt_irrefl, Nat.le_refl, Bool.false_eq_true, false_and, and_false, true_and, and_true, if_pos, if_neg, if_true, if_false, not_true_eq_false, not_false_eq_true, m0]
  refine k150w (show 1 ≤ d by omega) hM hi hW (show e < 170 by omega) (fun I3 hW3 => ?_)
  have q := H I3 (pQ_f.mpr ⟨e + 1, hW3, by omega⟩)
  simp (disch := first | assumption | exact ct_i | exact ct_r | exact ct_n | exact ct_h | omega | exact z_in (by omega) (by omega) | exact b01 | exact Or.inl rfl | exact Or.inr rfl) only [e152_0, e152_1, e152_4, e152_5, e152_7, e152_10, e152_13, e152_14, e152_17, e152_18, e152_21, e152_22, e152_25, e152_28, e152_31, ct_i, ct_r, ct_n, ct_h, opt_v, opt_s, ref_s, ref_n, eq_self_iff_true, true_or, or_true, zl0, zl1, zl2, zl3, zl4, zl5, zl6, zl7, zl8, zl9, zl10, zl16, zl32, zl40, zl100, zl160, zIc1, zI_lt, zI_le, nI_eq, nI_add, z_sub, nI_clamp, zI_of, uu_eq, uu_ne, Nat.reduceLT, Nat.reduceLeDiff, Nat.reduceEqDiff, Nat.reduceAdd, Nat.reduceSub, Nat.reduceMul, Nat.not_lt_zero, Nat.lt_irrefl, Nat.le_refl, Bool.false_eq_true, false_and, and_false, true_and, and_true, if_pos, if_neg, if_true, if_false, not_true_eq_false, not_false_eq_true, m0, e43, e45, e42, k154w (show 1 ≤ d by omega) hM hW3]
  exact q

end
