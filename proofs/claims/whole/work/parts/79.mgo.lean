/-! the model goes in thought -/
def mB (nd : Nat) (D : Nat → Nat → Nat) (f : Nat → List Nat) (r : Nat) (sh : Nat → Nat × Nat) (R : Nat → Nat → Option Nat) (I : Nat → Nat → Int32) : Prop := mK sh R ∧ dM nd D I ∧ nd ≤ 4 ∧ dB nd D ∧ ruM f r I
theorem mB_fr {nd : Nat} {D : Nat → Nat → Nat} {f : Nat → List Nat} {r : Nat} {sh : Nat → Nat × Nat} {R : Nat → Nat → Option Nat} {I I' : Nat → Nat → Int32} (h : mB nd D f r sh R I) (g : frM I I') : mB nd D f r sh R I' :=
  ⟨h.1, dM_fr h.2.1 g, h.2.2.1, h.2.2.2.1, ruM_W h.2.2.2.2 g⟩
/-- what going in thought changes -/
def frK (I I' : Nat → Nat → Int32) : Prop := ∀ x k, ¬ (x = 0 ∧ (k = 12 ∨ k = 13) ∨ x = 7 ∨ x = 14 ∨ x = 15) → I' x k = I x k
theorem frK_M {I I' : Nat → Nat → Int32} (h : frK I I') : frM I I' := fun x k hx => h x k (fun e => hx (by unfold scM; omega))
theorem frW_T {I I' : Nat → Nat → Int32} (h : frW I I') : frK I I' := fun x k hx => h x k (by omega)
theorem frK_t {I I1 I2 : Nat → Nat → Int32} (h : frK I I1) (h' : frK I1 I2) : frK I I2 := fun x k hx => (h' x k hx).trans (h x k hx)
theorem frK_0 (I : Nat → Nat → Int32) : frK I I := fun _ _ _ => rfl
theorem frW_t {I I1 I2 : Nat → Nat → Int32} (h : frW I I1) (h' : frW I1 I2) : frW I I2 := fun x k hx => (h' x k hx).trans (h x k hx)
theorem clp_e (v : Int32) : clp v = (if v < nI 0 then nI 0 else if v ≤ 99 then v else 99) := by
  have e0 : (nI 0).toInt = 0 := by decide
  have e99 : (99 : Int32).toInt = 99 := by decide
  unfold clp
  by_cases h1 : v < nI 0
  · have h2 : ¬ 99 < v := fun h => by rw [Int32.lt_iff_toInt_lt] at h h1; omega
    have h3 : ¬ nI 0 < v := fun h => by rw [Int32.lt_iff_toInt_lt] at h h1; omega
    rw [if_pos h1, if_neg h2, if_neg h3]
  · rw [if_neg h1]
    by_cases h2 : v ≤ 99
    · have h3 : ¬ 99 < v := fun h => by rw [Int32.lt_iff_toInt_lt] at h; rw [Int32.le_iff_toInt_le] at h2; omega
      rw [if_pos h2, if_neg h3]
      split
      · rfl
      · rename_i h4
        apply Int32.toInt_inj.mp
        rw [Int32.lt_iff_toInt_lt] at h4 h1
        omega
    · have h3 : 99 < v := by rw [Int32.le_iff_toInt_le] at h2; rw [Int32.lt_iff_toInt_lt]; omega
      rw [if_neg h2, if_pos h3, if_pos (by decide)]
section
variable {Z : Nat → Nat} {D : Nat → Nat → Nat} {f : Nat → List Nat} {d nd s r : Nat} {n t : Nat} {sh : Nat → Nat × Nat} {I : Nat → Nat → Int32} {L : Nat → Nat → Int64} {R : Nat → Nat → Option Nat} {Q : Option Value → aH → Prop}
theorem k125 (hd : 3 ≤ d) (hm : mB nd D f r sh R I) (hT : thS nd D s I) (hs : s < 6144) {i rm : Nat} (hi : i < nd) (hr : rm < 6)
    (H : ∀ I', frW I I' → Q (some (.int (if opn f D i (stt s i) (tno s) (kst nd D s i) rm = true then nI 1 else nI 0))) (n, t, sh, I', L, R)) : aC d 125 [.ref 0, .int (nI i), .int (nI rm)] (n, t, sh, I, L, R) Q := by
  obtain ⟨d, rfl⟩ : ∃ e, d = e + 1 := ⟨d - 1, by omega⟩
  obtain ⟨hM, hD, hn, hB, hR⟩ := hm
  have m0 := mm_0 hM
  have e6 := fun Q => k126 (Q := Q) (n := n) (t := t) (L := L) (show 2 ≤ d by omega) hM hD hn hB hT hs hi
  by_cases ho : opk (D i 4) (stt s i) (tno s) (kst nd D s i) (D i 3) = true
  · simp (disch := first | assumption | exact ct_i | exact ct_r | exact ct_n | exact ct_h | omega | exact z_in (by omega) (by omega) | exact b01 | exact Or.inl rfl | exact Or.inr rfl) only [b125, e125_0, e125_1, e125_2, e125_5, e125_8, e125_9, e125_10, e125_11, e125_12, e125_15, e125_18, e125_19, e125_22, e125_23, ct_i, ct_r, ct_n, ct_h, opt_v, opt_s, ref_s, ref_n, eq_self_iff_true, true_or, or_true, zl0, zl1, zl2, zl3, zl4, zl5, zl6, zl7, zl8, zl9, zl10, zl16, zl32, zl40, zl100, zl160, zIc1, zI_lt, zI_le, nI_eq, nI_add, z_sub, nI_clamp, zI_of, uu_eq, uu_ne, Nat.reduceLT, Nat.reduceLeDiff, Nat.reduceEqDiff, Nat.reduceAdd, Nat.reduceSub, Nat.reduceMul, Nat.not_lt_zero, Nat.lt_irrefl, Nat.le_refl, Bool.false_eq_true, false_and, and_false, true_and, and_true, if_pos, if_neg, if_true, if_false, not_true_eq_false, not_false_eq_true, m0, e6, ho]
    refine k128 (by omega) hM hD hn hB hT hR (show 0 < 2 by decide) hi hr (fun I' hf => ?_)
    have q := H I' hf
    unfold opn at q
    rw [ho, Bool.true_and] at q
    by_cases hv : tval f 0 (nmv i (stt s i) (tno s) rm (kst nd D s i) (bey D i rm)) = 0
    · simp only [hv, decide_true, if_true] at q
      simp (disch := first | assumption | exact ct_i | exact ct_r | exact ct_n | exact ct_h | omega | exact z_in (by omega) (by omega) | exact b01 | exact Or.inl rfl | exact Or.inr rfl) only [e125_0, e125_1, e125_2, e125_5, e125_8, e125_9, e125_10, e125_11, e125_12, e125_15, e125_18, e125_19, e125_22, e125_23, ct_i, ct_r, ct_n, ct_h, opt_v, opt_s, ref_s, ref_n, eq_self_iff_true, true_or, or_true, zl0, zl1, zl2, zl3, zl4, zl5, zl6, zl7, zl8, zl9, zl10, zl16, zl32, zl40, zl100, zl160, zIc1, zI_lt, zI_le, nI_eq, nI_add, z_sub, nI_clamp, zI_of, uu_eq, uu_ne, Nat.reduceLT, Nat.reduceLeDiff, Nat.reduceEqDiff, Nat.reduceAdd, Nat.reduceSub, Nat.reduceMul, Nat.not_lt_zero, Nat.lt_irrefl, Nat.le_refl, Bool.false_eq_true, false_and, and_false, true_and, and_true, if_pos, if_neg, if_true, if_false, not_true_eq_false, not_false_eq_true, hv]
      exact q
    · have hv' : ¬ tval f 0 (nmv i (stt s i) (tno s) rm (kst nd D s i) (bey D i rm)) = nI 0 := hv
      simp only [hv, decide_false, Bool.false_eq_true, if_false] at q
      simp (disch := first | assumption | exact ct_i | exact ct_r | exact ct_n | exact ct_h | omega | exact z_in (by omega) (by omega) | exact b01 | exact Or.inl rfl | exact Or.inr rfl) only [e125_0, e125_1, e125_2, e125_5, e125_8, e125_9, e125_10, e125_11, e125_12, e125_15, e125_18, e125_19, e125_22, e125_23, ct_i, ct_r, ct_n, ct_h, opt_v, opt_s, ref_s, ref_n, eq_self_iff_true, true_or, or_true, zl0, zl1, zl2, zl3, zl4, zl5, zl6, zl7, zl8, zl9, zl10, zl16, zl32, zl40, zl100, zl160, zIc1, zI_lt, zI_le, nI_eq, nI_add, z_sub, nI_clamp, zI_of, uu_eq, uu_ne, Nat.reduceLT, Nat.reduceLeDiff, Nat.reduceEqDiff, Nat.reduceAdd, Nat.reduceSub, Nat.reduceMul, Nat.not_lt_zero, Nat.lt_irrefl, Nat.le_refl, Bool.false_eq_true, false_and, and_false, true_and, and_true, if_pos, if_neg, if_true, if_false, not_true_eq_false, not_false_eq_true, hv']
      exact q
  · have q := H I (frW_0 I)
    unfold opn at q
    rw [Bool.not_eq_true] at ho
    rw [ho, Bool.false_and] at q
    simp only [Bool.false_eq_true, if_false] at q
    simp (disch := first | assumption | exact ct_i | exact ct_r | exact ct_n | exact ct_h | omega | exact z_in (by omega) (by omega) | exact b01 | exact Or.inl rfl | exact Or.inr rfl) only [b125, e125_0, e125_1, e125_2, e125_5, e125_8, e125_9, e125_10, e125_11, e125_12, e125_15, e125_18, e125_19, e125_22, e125_23, ct_i, ct_r, ct_n, ct_h, opt_v, opt_s, ref_s, ref_n, eq_self_iff_true, true_or, or_true, zl0, zl1, zl2, zl3, zl4, zl5, zl6, zl7, zl8, zl9, zl10, zl16, zl32, zl40, zl100, zl160, zIc1, zI_lt, zI_le, nI_eq, nI_add, z_sub, nI_clamp, zI_of, uu_eq, uu_ne, Nat.reduceLT, Nat.reduceLeDiff, Nat.reduceEqDiff, Nat.reduceAdd, Nat.reduceSub, Nat.reduceMul, Nat.not_lt_zero, Nat.lt_irrefl, Nat.le_refl, Bool.false_eq_true, false_and, and_false, true_and, and_true, if_pos, if_neg, if_true, if_false, not_true_eq_false, not_false_eq_true, m0, e6, ho]
    exact q
/-- a door by an int: the situation behind it -/
def gN (nd : Nat) (D : Nat → Nat → Nat) (f : Nat → List Nat) (s : Nat) (x : Int32) : Option Nat := match dec x nd with
  | some i => bh nd D f s i
  | none => none
theorem k134 (hd : 4 ≤ d) (hm : mB nd D f r sh R I) (hT : thS nd D s I) (hs : s < 6144) {x : Int32}
    (H : ∀ I', frW I I' → Q (some (.int (if (gN nd D f s x).isSome = true then nI 1 else nI 0))) (n, t, sh, I', L, R)) : aC d 134 [.ref 0, .int x] (n, t, sh, I, L, R) Q := by
  obtain ⟨d, rfl⟩ : ∃ e, d = e + 1 := ⟨d - 1, by omega⟩
  obtain ⟨hM, hD, hn, hB, hR⟩ := id hm
  have m0 := mm_0 hM
  have e1 := fun Q => k121 (Q := Q) (n := n) (t := t) (L := L) (show 2 ≤ d by omega) hM hD hn (x := x)
  unfold gN at H
  cases hx : dec x nd with
  | none =>
    have q := H I (frW_0 I)
    simp only [hx, Option.isSome_none, Bool.false_eq_true, if_false] at q e1
    simp (disch := first | assumption | exact ct_i | exact ct_r | exact ct_n | exact ct_h | omega | exact z_in (by omega) (by omega) | exact b01 | exact Or.inl rfl | exact Or.inr rfl) only [b134, e134_0, e134_1, e134_2, e134_5, e134_8, e134_9, e134_10, e134_13, e134_16, e134_17, e134_18, e134_19, e134_22, e134_25, e134_28, e134_29, e134_32, e134_33, ct_i, ct_r, ct_n, ct_h, opt_v, opt_s, ref_s, ref_n, eq_self_iff_true, true_or, or_true, zl0, zl1, zl2, zl3, zl4, zl5, zl6, zl7, zl8, zl9, zl10, zl16, zl32, zl40, zl100, zl160, zIc1, zI_lt, zI_le, nI_eq, nI_add, z_sub, nI_clamp, zI_of, uu_eq, uu_ne, Nat.reduceLT, Nat.reduceLeDiff, Nat.reduceEqDiff, Nat.reduceAdd, Nat.reduceSub, Nat.reduceMul, Nat.not_lt_zero, Nat.lt_irrefl, Nat.le_refl, Bool.false_eq_true, false_and, and_false, true_and, and_true, if_pos, if_neg, if_true, if_false, not_true_eq_false, not_false_eq_true, m0, e1]
    exact q
  | some i =>
    obtain ⟨rfl, hi⟩ := dec_some (by omega) hx
    simp only [hx, Option.isSome_some, if_true] at e1
    simp only [hx] at H
    have e2 := fun Q => k135 (Q := Q) (n := n) (t := t) (L := L) (show 1 ≤ d by omega) hM hD hn hB hT hs hi
    have t2 := hT.2.1
    by_cases hh : rmo s = D i 0 ∨ rmo s = D i 1
    · simp only [if_pos hh] at e2
      simp (disch := first | assumption | exact ct_i | exact ct_r | exact ct_n | exact ct_h | omega | exact z_in (by omega) (by omega) | exact b01 | exact Or.inl rfl | exact Or.inr rfl) only [b134, e134_0, e134_1, e134_2, e134_5, e134_8, e134_9, e134_10, e134_13, e134_16, e134_17, e134_18, e134_19, e134_22, e134_25, e134_28, e134_29, e134_32, e134_33, ct_i, ct_r, ct_n, ct_h, opt_v, opt_s, ref_s, ref_n, eq_self_iff_true, true_or, or_true, zl0, zl1, zl2, zl3, zl4, zl5, zl6, zl7, zl8, zl9, zl10, zl16, zl32, zl40, zl100, zl160, zIc1, zI_lt, zI_le, nI_eq, nI_add, z_sub, nI_clamp, zI_of, uu_eq, uu_ne, Nat.reduceLT, Nat.reduceLeDiff, Nat.reduceEqDiff, Nat.reduceAdd, Nat.reduceSub, Nat.reduceMul, Nat.not_lt_zero, Nat.lt_irrefl, Nat.le_refl, Bool.false_eq_true, false_and, and_false, true_and, and_true, if_pos, if_neg, if_true, if_false, not_true_eq_false, not_false_eq_true, m0, e1, e2, t2]
      refine k125 (by omega) hm hT hs hi (rmo_lt hs) (fun I' hf => ?_)
      have q := H I' hf
      by_cases ho : opn f D i (stt s i) (tno s) (kst nd D s i) (rmo s) = true
      · have eb : bh nd D f s i = some (aft D s i) := if_pos ⟨hi, hh, ho⟩
        rw [eb] at q
        simp only [Option.isSome_some, if_true] at q
        simp (disch := first | assumption | exact ct_i | exact ct_r | exact ct_n | exact ct_h | omega | exact z_in (by omega) (by omega) | exact b01 | exact Or.inl rfl | exact Or.inr rfl) only [e134_0, e134_1, e134_2, e134_5, e134_8, e134_9, e134_10, e134_13, e134_16, e134_17, e134_18, e134_19, e134_22, e134_25, e134_28, e134_29, e134_32, e134_33, ct_i, ct_r, ct_n, ct_h, opt_v, opt_s, ref_s, ref_n, eq_self_iff_true, true_or, or_true, zl0, zl1, zl2, zl3, zl4, zl5, zl6, zl7, zl8, zl9, zl10, zl16, zl32, zl40, zl100, zl160, zIc1, zI_lt, zI_le, nI_eq, nI_add, z_sub, nI_clamp, zI_of, uu_eq, uu_ne, Nat.reduceLT, Nat.reduceLeDiff, Nat.reduceEqDiff, Nat.reduceAdd, Nat.reduceSub, Nat.reduceMul, Nat.not_lt_zero, Nat.lt_irrefl, Nat.le_refl, Bool.false_eq_true, false_and, and_false, true_and, and_true, if_pos, if_neg, if_true, if_false, not_true_eq_false, not_false_eq_true, ho]
        exact q
      · have eb : bh nd D f s i = none := if_neg (fun h => ho h.2.2)
        rw [eb] at q
        simp only [Option.isSome_none, Bool.false_eq_true, if_false] at q
        simp (disch := first | assumption | exact ct_i | exact ct_r | exact ct_n | exact ct_h | omega | exact z_in (by omega) (by omega) | exact b01 | exact Or.inl rfl | exact Or.inr rfl) only [e134_0, e134_1, e134_2, e134_5, e134_8, e134_9, e134_10, e134_13, e134_16, e134_17, e134_18, e134_19, e134_22, e134_25, e134_28, e134_29, e134_32, e134_33, ct_i, ct_r, ct_n, ct_h, opt_v, opt_s, ref_s, ref_n, eq_self_iff_true, true_or, or_true, zl0, zl1, zl2, zl3, zl4, zl5, zl6, zl7, zl8, zl9, zl10, zl16, zl32, zl40, zl100, zl160, zIc1, zI_lt, zI_le, nI_eq, nI_add, z_sub, nI_clamp, zI_of, uu_eq, uu_ne, Nat.reduceLT, Nat.reduceLeDiff, Nat.reduceEqDiff, Nat.reduceAdd, Nat.reduceSub, Nat.reduceMul, Nat.not_lt_zero, Nat.lt_irrefl, Nat.le_refl, Bool.false_eq_true, false_and, and_false, true_and, and_true, if_pos, if_neg, if_true, if_false, not_true_eq_false, not_false_eq_true, ho]
        exact q
    · have q := H I (frW_0 I)
      have eb : bh nd D f s i = none := if_neg (fun h => hh h.2.1)
      rw [eb] at q
      simp only [Option.isSome_none, Bool.false_eq_true, if_false] at q
      simp only [if_neg hh] at e2
      simp (disch := first | assumption | exact ct_i | exact ct_r | exact ct_n | exact ct_h | omega | exact z_in (by omega) (by omega) | exact b01 | exact Or.inl rfl | exact Or.inr rfl) only [b134, e134_0, e134_1, e134_2, e134_5, e134_8, e134_9, e134_10, e134_13, e134_16, e134_17, e134_18, e134_19, e134_22, e134_25, e134_28, e134_29, e134_32, e134_33, ct_i, ct_r, ct_n, ct_h, opt_v, opt_s, ref_s, ref_n, eq_self_iff_true, true_or, or_true, zl0, zl1, zl2, zl3, zl4, zl5, zl6, zl7, zl8, zl9, zl10, zl16, zl32, zl40, zl100, zl160, zIc1, zI_lt, zI_le, nI_eq, nI_add, z_sub, nI_clamp, zI_of, uu_eq, uu_ne, Nat.reduceLT, Nat.reduceLeDiff, Nat.reduceEqDiff, Nat.reduceAdd, Nat.reduceSub, Nat.reduceMul, Nat.not_lt_zero, Nat.lt_irrefl, Nat.le_refl, Bool.false_eq_true, false_and, and_false, true_and, and_true, if_pos, if_neg, if_true, if_false, not_true_eq_false, not_false_eq_true, m0, e1, e2]
      exact q
theorem tno_aft (hB : dB nd D) {i : Nat} (hi : i < nd) : tno (aft D s i) = (tno s + 1) % 4 := by
  unfold aft
  rw [tno_wrm, tno_wtn (Nat.mod_lt _ (by decide))]
theorem rmo_aft {i : Nat} : rmo (aft D s i) = bey D i (rmo s) := rmo_wrm
theorem k159 (hd : 2 ≤ d) (hm : mB nd D f r sh R I) (hT : thS nd D s I) (hs : s < 6144) {i : Nat} (hi : i < nd) (H : ∀ I', frK I I' → thS nd D (aft D s i) I' → Q none (n, t, sh, I', L, R)) : aC d 159 [.ref 0, .int (nI i)] (n, t, sh, I, L, R) Q := by
  obtain ⟨d, rfl⟩ : ∃ e, d = e + 1 := ⟨d - 1, by omega⟩
  obtain ⟨hM, hD, hn, hB, hR⟩ := id hm
  have m0 := mm_0 hM; have x7 := mm_x7 hM; have y7 := mm_y7 hM; have r10 := mm_r10 hM
  obtain ⟨t1, t2, t3⟩ := id hT
  have e1 := fun Q => k130 (Q := Q) (n := n) (t := t) (L := L) (show 1 ≤ d by omega) hM hD hn hB hi (rmo_lt hs)
  have e2 := fun Q => k132 (Q := Q) (n := n) (t := t) (L := L) (show 1 ≤ d by omega) hM hn hB hT hi
  have ht : tno s < 4 := tno_lt
  have fin : ∀ v, v = nI ((tno s + 1) % 4) → Q none (n, t, sh, u2 (u2 (u2 I 7 i (nI (nxt (D i 4) (stt s i)))) 0 12 v) 0 13 (nI (bey D i (rmo s))), L, R) := fun v hv => by
    refine H _ (fun x k hx => by simp (disch := omega) only [uu_ne]) ⟨?_, ?_, fun j hj => ⟨?_, ?_⟩⟩
    · rw [uu_ne _ _ _ _ (by omega), uu_eq, tno_aft hB hi, hv]
    · rw [uu_eq, rmo_aft]
    · rw [uu_ne _ _ _ _ (by omega), uu_ne _ _ _ _ (by omega), stt_aft (by omega) (by omega)]
      by_cases hj2 : j = i
      · subst hj2; rw [uu_eq, if_pos rfl]
      · rw [uu_ne _ _ _ _ (by omega), if_neg hj2]; exact (t3 j hj).1
    · simp (disch := omega) only [uu_ne]; exact (t3 j hj).2
  by_cases h3 : tno s = 3
  · have hv := fin (nI 0) (by rw [h3])
    rw [h3] at t1
    simp (disch := first | assumption | exact ct_i | exact ct_r | exact ct_n | exact ct_h | omega | exact z_in (by omega) (by omega) | exact b01 | exact Or.inl rfl | exact Or.inr rfl) only [b159, e159_0, e159_1, e159_2, e159_3, e159_6, e159_9, e159_10, e159_11, e159_14, e159_15, e159_16, e159_17, e159_20, e159_21, e159_22, e159_23, e159_26, e159_27, e159_30, e159_31, e159_34, e159_35, e159_38, e159_39, e159_40, e159_43, e159_44, e159_45, e159_48, ct_i, ct_r, ct_n, ct_h, opt_v, opt_s, ref_s, ref_n, eq_self_iff_true, true_or, or_true, zl0, zl1, zl2, zl3, zl4, zl5, zl6, zl7, zl8, zl9, zl10, zl16, zl32, zl40, zl100, zl160, zIc1, zI_lt, zI_le, nI_eq, nI_add, z_sub, nI_clamp, zI_of, uu_eq, uu_ne, Nat.reduceLT, Nat.reduceLeDiff, Nat.reduceEqDiff, Nat.reduceAdd, Nat.reduceSub, Nat.reduceMul, Nat.not_lt_zero, Nat.lt_irrefl, Nat.le_refl, Bool.false_eq_true, false_and, and_false, true_and, and_true, if_pos, if_neg, if_true, if_false, not_true_eq_false, not_false_eq_true, m0, x7, y7, r10, e1, e2, t1, t2]
    exact hv
  · have hv := fin (nI (tno s + 1)) (by rw [Nat.mod_eq_of_lt (by omega)])
    simp (disch := first | assumption | exact ct_i | exact ct_r | exact ct_n | exact ct_h | omega | exact z_in (by omega) (by omega) | exact b01 | exact Or.inl rfl | exact Or.inr rfl) only [b159, e159_0, e159_1, e159_2, e159_3, e159_6, e159_9, e159_10, e159_11, e159_14, e159_15, e159_16, e159_17, e159_20, e159_21, e159_22, e159_23, e159_26, e159_27, e159_30, e159_31, e159_34, e159_35, e159_38, e159_39, e159_40, e159_43, e159_44, e159_45, e159_48, ct_i, ct_r, ct_n, ct_h, opt_v, opt_s, ref_s, ref_n, eq_self_iff_true, true_or, or_true, zl0, zl1, zl2, zl3, zl4, zl5, zl6, zl7, zl8, zl9, zl10, zl16, zl32, zl40, zl100, zl160, zIc1, zI_lt, zI_le, nI_eq, nI_add, z_sub, nI_clamp, zI_of, uu_eq, uu_ne, Nat.reduceLT, Nat.reduceLeDiff, Nat.reduceEqDiff, Nat.reduceAdd, Nat.reduceSub, Nat.reduceMul, Nat.not_lt_zero, Nat.lt_irrefl, Nat.le_refl, Bool.false_eq_true, false_and, and_false, true_and, and_true, if_pos, if_neg, if_true, if_false, not_true_eq_false, not_false_eq_true, m0, x7, y7, r10, e1, e2, t1, t2, h3]
    exact hv
theorem k157 (hd : 3 ≤ d) (hm : mB nd D f r sh R I) (hT : thS nd D s I) (hs : s < 6144) (hz : ∀ i, nd ≤ i → i < 4 → stt s i = 0)
    (H : ∀ I', frW I I' → Q (some (.int (if wl f s = true then nI 1 else nI 0))) (n, t, sh, I', L, R)) : aC d 157 [.ref 0] (n, t, sh, I, L, R) Q := by
  obtain ⟨d, rfl⟩ : ∃ e, d = e + 1 := ⟨d - 1, by omega⟩
  obtain ⟨hM, hD, hn, hB, hR⟩ := id hm
  have m0 := mm_0 hM
  have t2 := hT.2.1
  simp (disch := first | assumption | exact ct_i | exact ct_r | exact ct_n | exact ct_h | omega | exact z_in (by omega) (by omega) | exact b01 | exact Or.inl rfl | exact Or.inr rfl) only [b157, e157_0, e157_1, e157_2, e157_3, e157_4, e157_7, e157_10, e157_13, e157_14, e157_17, e157_18, ct_i, ct_r, ct_n, ct_h, opt_v, opt_s, ref_s, ref_n, eq_self_iff_true, true_or, or_true, zl0, zl1, zl2, zl3, zl4, zl5, zl6, zl7, zl8, zl9, zl10, zl16, zl32, zl40, zl100, zl160, zIc1, zI_lt, zI_le, nI_eq, nI_add, z_sub, nI_clamp, zI_of, uu_eq, uu_ne, Nat.reduceLT, Nat.reduceLeDiff, Nat.reduceEqDiff, Nat.reduceAdd, Nat.reduceSub, Nat.reduceMul, Nat.not_lt_zero, Nat.lt_irrefl, Nat.le_refl, Bool.false_eq_true, false_and, and_false, true_and, and_true, if_pos, if_neg, if_true, if_false, not_true_eq_false, not_false_eq_true, m0, t2]
  refine k128w (by omega) hM hD hn hT hz hR (rmo_lt hs) (fun I' hf => ?_)
  have q := H I' hf
  unfold wl at q
  by_cases hv : tval f 2 (nmv 0 (sts s) (tno s) (rmo s) 0 0) = nI 0
  · simp only [hv, not_true_eq_false, decide_false, Bool.false_eq_true, if_false] at q
    simp (disch := first | assumption | exact ct_i | exact ct_r | exact ct_n | exact ct_h | omega | exact z_in (by omega) (by omega) | exact b01 | exact Or.inl rfl | exact Or.inr rfl) only [e157_0, e157_1, e157_2, e157_3, e157_4, e157_7, e157_10, e157_13, e157_14, e157_17, e157_18, ct_i, ct_r, ct_n, ct_h, opt_v, opt_s, ref_s, ref_n, eq_self_iff_true, true_or, or_true, zl0, zl1, zl2, zl3, zl4, zl5, zl6, zl7, zl8, zl9, zl10, zl16, zl32, zl40, zl100, zl160, zIc1, zI_lt, zI_le, nI_eq, nI_add, z_sub, nI_clamp, zI_of, uu_eq, uu_ne, Nat.reduceLT, Nat.reduceLeDiff, Nat.reduceEqDiff, Nat.reduceAdd, Nat.reduceSub, Nat.reduceMul, Nat.not_lt_zero, Nat.lt_irrefl, Nat.le_refl, Bool.false_eq_true, false_and, and_false, true_and, and_true, if_pos, if_neg, if_true, if_false, not_true_eq_false, not_false_eq_true, hv]
    exact q
  · simp only [hv, not_false_eq_true, decide_true, if_true] at q
    simp (disch := first | assumption | exact ct_i | exact ct_r | exact ct_n | exact ct_h | omega | exact z_in (by omega) (by omega) | exact b01 | exact Or.inl rfl | exact Or.inr rfl) only [e157_0, e157_1, e157_2, e157_3, e157_4, e157_7, e157_10, e157_13, e157_14, e157_17, e157_18, ct_i, ct_r, ct_n, ct_h, opt_v, opt_s, ref_s, ref_n, eq_self_iff_true, true_or, or_true, zl0, zl1, zl2, zl3, zl4, zl5, zl6, zl7, zl8, zl9, zl10, zl16, zl32, zl40, zl100, zl160, zIc1, zI_lt, zI_le, nI_eq, nI_add, z_sub, nI_clamp, zI_of, uu_eq, uu_ne, Nat.reduceLT, Nat.reduceLeDiff, Nat.reduceEqDiff, Nat.reduceAdd, Nat.reduceSub, Nat.reduceMul, Nat.not_lt_zero, Nat.lt_irrefl, Nat.le_refl, Bool.false_eq_true, false_and, and_false, true_and, and_true, if_pos, if_neg, if_true, if_false, not_true_eq_false, not_false_eq_true, hv]
    exact q
theorem k177 (hd : 3 ≤ d) (hm : mB nd D f r sh R I) (hT : thS nd D s I) (hs : s < 6144) {i : Nat} (hi : i < nd)
    (H : ∀ I', frW I I' → Q (some (.int (cst nd D f s i))) (n, t, sh, I', L, R)) : aC d 177 [.ref 0, .int (nI i)] (n, t, sh, I, L, R) Q := by
  obtain ⟨d, rfl⟩ : ∃ e, d = e + 1 := ⟨d - 1, by omega⟩
  obtain ⟨hM, hD, hn, hB, hR⟩ := id hm
  have m0 := mm_0 hM
  have t2 := hT.2.1
  simp (disch := first | assumption | exact ct_i | exact ct_r | exact ct_n | exact ct_h | omega | exact z_in (by omega) (by omega) | exact b01 | exact Or.inl rfl | exact Or.inr rfl) only [b177, e177_0, e177_1, e177_2, e177_3, e177_4, e177_7, e177_10, e177_11, e177_12, e177_15, e177_16, e177_19, e177_20, e177_22, e177_25, e177_27, e177_30, e177_31, ct_i, ct_r, ct_n, ct_h, opt_v, opt_s, ref_s, ref_n, eq_self_iff_true, true_or, or_true, zl0, zl1, zl2, zl3, zl4, zl5, zl6, zl7, zl8, zl9, zl10, zl16, zl32, zl40, zl100, zl160, zIc1, zI_lt, zI_le, nI_eq, nI_add, z_sub, nI_clamp, zI_of, uu_eq, uu_ne, Nat.reduceLT, Nat.reduceLeDiff, Nat.reduceEqDiff, Nat.reduceAdd, Nat.reduceSub, Nat.reduceMul, Nat.not_lt_zero, Nat.lt_irrefl, Nat.le_refl, Bool.false_eq_true, false_and, and_false, true_and, and_true, if_pos, if_neg, if_true, if_false, not_true_eq_false, not_false_eq_true, m0, t2]
  refine k128 (by omega) hM hD hn hB hT hR (show 1 < 2 by decide) hi (rmo_lt hs) (fun I' hf => ?_)
  have q := H I' hf
  unfold cst at q
  rw [clp_e] at q
  revert q
  generalize tval f 1 (nmv i (stt s i) (tno s) (rmo s) (kst nd D s i) (bey D i (rmo s))) = v
  intro q
  by_cases h1 : v < nI 0
  · have h1' : ¬ nI 0 ≤ v := fun h => by rw [Int32.lt_iff_toInt_lt] at h1; rw [Int32.le_iff_toInt_le] at h; omega
    rw [if_pos h1] at q
    simp (disch := first | assumption | exact ct_i | exact ct_r | exact ct_n | exact ct_h | omega | exact z_in (by omega) (by omega) | exact b01 | exact Or.inl rfl | exact Or.inr rfl) only [e177_0, e177_1, e177_2, e177_3, e177_4, e177_7, e177_10, e177_11, e177_12, e177_15, e177_16, e177_19, e177_20, e177_22, e177_25, e177_27, e177_30, e177_31, ct_i, ct_r, ct_n, ct_h, opt_v, opt_s, ref_s, ref_n, eq_self_iff_true, true_or, or_true, zl0, zl1, zl2, zl3, zl4, zl5, zl6, zl7, zl8, zl9, zl10, zl16, zl32, zl40, zl100, zl160, zIc1, zI_lt, zI_le, nI_eq, nI_add, z_sub, nI_clamp, zI_of, uu_eq, uu_ne, Nat.reduceLT, Nat.reduceLeDiff, Nat.reduceEqDiff, Nat.reduceAdd, Nat.reduceSub, Nat.reduceMul, Nat.not_lt_zero, Nat.lt_irrefl, Nat.le_refl, Bool.false_eq_true, false_and, and_false, true_and, and_true, if_true, if_false, not_true_eq_false, not_false_eq_true, h1']
    exact q
  · have h1' : nI 0 ≤ v := by rw [Int32.lt_iff_toInt_lt] at h1; rw [Int32.le_iff_toInt_le]; omega
    rw [if_neg h1] at q
    by_cases h2 : v ≤ 99
    · rw [if_pos h2] at q
      simp (disch := first | assumption | exact ct_i | exact ct_r | exact ct_n | exact ct_h | omega | exact z_in (by omega) (by omega) | exact b01 | exact Or.inl rfl | exact Or.inr rfl) only [e177_0, e177_1, e177_2, e177_3, e177_4, e177_7, e177_10, e177_11, e177_12, e177_15, e177_16, e177_19, e177_20, e177_22, e177_25, e177_27, e177_30, e177_31, ct_i, ct_r, ct_n, ct_h, opt_v, opt_s, ref_s, ref_n, eq_self_iff_true, true_or, or_true, zl0, zl1, zl2, zl3, zl4, zl5, zl6, zl7, zl8, zl9, zl10, zl16, zl32, zl40, zl100, zl160, zIc1, zI_lt, zI_le, nI_eq, nI_add, z_sub, nI_clamp, zI_of, uu_eq, uu_ne, Nat.reduceLT, Nat.reduceLeDiff, Nat.reduceEqDiff, Nat.reduceAdd, Nat.reduceSub, Nat.reduceMul, Nat.not_lt_zero, Nat.lt_irrefl, Nat.le_refl, Bool.false_eq_true, false_and, and_false, true_and, and_true, if_true, if_false, not_true_eq_false, not_false_eq_true, h1', h2]
      exact q
    · rw [if_neg h2] at q
      simp (disch := first | assumption | exact ct_i | exact ct_r | exact ct_n | exact ct_h | omega | exact z_in (by omega) (by omega) | exact b01 | exact Or.inl rfl | exact Or.inr rfl) only [e177_0, e177_1, e177_2, e177_3, e177_4, e177_7, e177_10, e177_11, e177_12, e177_15, e177_16, e177_19, e177_20, e177_22, e177_25, e177_27, e177_30, e177_31, ct_i, ct_r, ct_n, ct_h, opt_v, opt_s, ref_s, ref_n, eq_self_iff_true, true_or, or_true, zl0, zl1, zl2, zl3, zl4, zl5, zl6, zl7, zl8, zl9, zl10, zl16, zl32, zl40, zl100, zl160, zIc1, zI_lt, zI_le, nI_eq, nI_add, z_sub, nI_clamp, zI_of, uu_eq, uu_ne, Nat.reduceLT, Nat.reduceLeDiff, Nat.reduceEqDiff, Nat.reduceAdd, Nat.reduceSub, Nat.reduceMul, Nat.not_lt_zero, Nat.lt_irrefl, Nat.le_refl, Bool.false_eq_true, false_and, and_false, true_and, and_true, if_true, if_false, not_true_eq_false, not_false_eq_true, h1', h2]
      exact q
/-- the situation at hand is taken into thought -/
theorem k124l (hM : mK sh R) {I0 : Nat → Nat → Int32} (h1 : I0 0 1 = nI nd) (hn : nd ≤ 4) (hk : ∀ i, i < nd → I0 1 i = nI (D i 4) ∧ I0 6 i = nI (stt s i)) (h2 : I0 0 2 = nI (tno s)) (h3 : I0 0 3 = nI (rmo s))
    (H : ∀ I', (∀ x k, ¬ (x = 0 ∧ (k = 12 ∨ k = 13) ∨ x = 7 ∨ x = 8) → I' x k = I0 x k) → thS nd D s I' → Q none (n, t, sh, I', L, R)) :
    ∀ m i I, i + m = nd → (∀ x k, ¬ (x = 7 ∨ x = 8) → I x k = I0 x k) → (∀ j, j < i → I 7 j = nI (stt s j) ∧ I 8 j = nI (D j 4)) → aE (a_cl_ d) 124 (2, [.ref 0, .int (nI i)], [], (n, t, sh, I, L, R)) Q := by
  have m0 := mm_0 hM; have x1 := mm_x1 hM; have y1 := mm_y1 hM; have r4 := mm_r4 hM; have x6 := mm_x6 hM; have y6 := mm_y6 hM; have r9 := mm_r9 hM; have x7 := mm_x7 hM; have y7 := mm_y7 hM; have r10 := mm_r10 hM; have x8 := mm_x8 hM; have y8 := mm_y8 hM; have r11 := mm_r11 hM
  intro m
  induction m with
  | zero =>
    intro i I hi hf hj
    obtain rfl : i = nd := by omega
    have g1 := (hf 0 1 (by omega)).trans h1
    have g2 := (hf 0 2 (by omega)).trans h2
    have g3 := (hf 0 3 (by omega)).trans h3
    rw [e124_2]
    simp (disch := first | assumption | exact ct_i | exact ct_r | exact ct_n | exact ct_h | omega | exact z_in (by omega) (by omega) | exact b01 | exact Or.inl rfl | exact Or.inr rfl) only [e124_0, e124_1, e124_3, e124_4, e124_7, e124_10, e124_11, e124_14, e124_15, e124_16, e124_19, e124_20, e124_21, e124_22, e124_23, e124_26, e124_27, e124_28, e124_31, e124_32, e124_33, e124_34, e124_37, e124_40, e124_41, e124_42, e124_45, e124_48, e124_49, e124_50, e124_53, e124_56, ct_i, ct_r, ct_n, ct_h, opt_v, opt_s, ref_s, ref_n, eq_self_iff_true, true_or, or_true, zl0, zl1, zl2, zl3, zl4, zl5, zl6, zl7, zl8, zl9, zl10, zl16, zl32, zl40, zl100, zl160, zIc1, zI_lt, zI_le, nI_eq, nI_add, z_sub, nI_clamp, zI_of, uu_eq, uu_ne, Nat.reduceLT, Nat.reduceLeDiff, Nat.reduceEqDiff, Nat.reduceAdd, Nat.reduceSub, Nat.reduceMul, Nat.not_lt_zero, Nat.lt_irrefl, Nat.le_refl, Bool.false_eq_true, false_and, and_false, true_and, and_true, if_pos, if_neg, if_true, if_false, not_true_eq_false, not_false_eq_true, m0, g1, g2, g3]
    refine H _ (fun x k hx => ?_) ⟨?_, ?_, fun j hjn => ⟨?_, ?_⟩⟩
    · rw [uu_ne _ _ _ _ (by omega), uu_ne _ _ _ _ (by omega)]; exact hf x k (by omega)
    · simp (disch := omega) only [uu_ne, uu_eq]
    · rw [uu_eq]
    · simp (disch := omega) only [uu_ne]; exact (hj j hjn).1
    · simp (disch := omega) only [uu_ne]; exact (hj j hjn).2
  | succ m ih =>
    intro i I hi hf hj
    have g1 := (hf 0 1 (by omega)).trans h1
    have g2 := (hf 1 i (by omega)).trans (hk i (by omega)).1
    have g3 := (hf 6 i (by omega)).trans (hk i (by omega)).2
    rw [e124_2]
    simp (disch := first | assumption | exact ct_i | exact ct_r | exact ct_n | exact ct_h | omega | exact z_in (by omega) (by omega) | exact b01 | exact Or.inl rfl | exact Or.inr rfl) only [e124_0, e124_1, e124_3, e124_4, e124_7, e124_10, e124_11, e124_14, e124_15, e124_16, e124_19, e124_20, e124_21, e124_22, e124_23, e124_26, e124_27, e124_28, e124_31, e124_32, e124_33, e124_34, e124_37, e124_41, e124_42, e124_45, e124_48, e124_49, e124_50, e124_53, e124_56, ct_i, ct_r, ct_n, ct_h, opt_v, opt_s, ref_s, ref_n, eq_self_iff_true, true_or, or_true, zl0, zl1, zl2, zl3, zl4, zl5, zl6, zl7, zl8, zl9, zl10, zl16, zl32, zl40, zl100, zl160, zIc1, zI_lt, zI_le, nI_eq, nI_add, z_sub, nI_clamp, zI_of, uu_eq, uu_ne, Nat.reduceLT, Nat.reduceLeDiff, Nat.reduceEqDiff, Nat.reduceAdd, Nat.reduceSub, Nat.reduceMul, Nat.not_lt_zero, Nat.lt_irrefl, Nat.le_refl, Bool.false_eq_true, false_and, and_false, true_and, and_true, if_pos, if_neg, if_true, if_false, not_true_eq_false, not_false_eq_true, m0, x1, y1, r4, x6, y6, r9, x7, y7, r10, x8, y8, r11, g1, g2, g3]
    refine ih (i + 1) _ (by omega) (fun x k hx => ?_) (fun j hji => ⟨?_, ?_⟩)
    · rw [uu_ne _ _ _ _ (by omega), uu_ne _ _ _ _ (by omega)]; exact hf x k hx
    · rw [uu_ne _ _ _ _ (by omega)]
      by_cases h : j = i
      · subst h; rw [uu_eq]
      · rw [uu_ne _ _ _ _ (by omega)]; exact (hj j (by omega)).1
    · by_cases h : j = i
      · subst h; rw [uu_eq]
      · rw [uu_ne _ _ _ _ (by omega), uu_ne _ _ _ _ (by omega)]; exact (hj j (by omega)).2
theorem k124 (hd : 1 ≤ d) (hM : mK sh R) (h1 : I 0 1 = nI nd) (hn : nd ≤ 4) (hk : ∀ i, i < nd → I 1 i = nI (D i 4) ∧ I 6 i = nI (stt s i)) (h2 : I 0 2 = nI (tno s)) (h3 : I 0 3 = nI (rmo s))
    (H : ∀ I', (∀ x k, ¬ (x = 0 ∧ (k = 12 ∨ k = 13) ∨ x = 7 ∨ x = 8) → I' x k = I x k) → thS nd D s I' → Q none (n, t, sh, I', L, R)) : aC d 124 [.ref 0] (n, t, sh, I, L, R) Q := by
  obtain ⟨d, rfl⟩ : ∃ e, d = e + 1 := ⟨d - 1, by omega⟩
  simp (disch := first | assumption | exact ct_i | exact ct_r | exact ct_n | exact ct_h | omega | exact z_in (by omega) (by omega) | exact b01 | exact Or.inl rfl | exact Or.inr rfl) only [b124, e124_0, e124_1, e124_3, e124_4, e124_7, e124_10, e124_11, e124_14, e124_15, e124_16, e124_19, e124_20, e124_21, e124_22, e124_23, e124_26, e124_27, e124_28, e124_31, e124_32, e124_33, e124_34, e124_37, e124_40, e124_41, e124_42, e124_45, e124_48, e124_49, e124_50, e124_53, e124_56, ct_i, ct_r, ct_n, ct_h, opt_v, opt_s, ref_s, ref_n, eq_self_iff_true, true_or, or_true, zl0, zl1, zl2, zl3, zl4, zl5, zl6, zl7, zl8, zl9, zl10, zl16, zl32, zl40, zl100, zl160, zIc1, zI_lt, zI_le, nI_eq, nI_add, z_sub, nI_clamp, zI_of, uu_eq, uu_ne, Nat.reduceLT, Nat.reduceLeDiff, Nat.reduceEqDiff, Nat.reduceAdd, Nat.reduceSub, Nat.reduceMul, Nat.not_lt_zero, Nat.lt_irrefl, Nat.le_refl, Bool.false_eq_true, false_and, and_false, true_and, and_true, if_pos, if_neg, if_true, if_false, not_true_eq_false, not_false_eq_true]
  exact k124l hM h1 hn hk h2 h3 H nd 0 I (by omega) (fun _ _ _ => rfl) (fun j hj => by omega)
end
