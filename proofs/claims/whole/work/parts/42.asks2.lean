/-! what the class asks of a search: the well, the way around, the way -/
theorem qA_fr {q : List (Nat × Nat)} {I I' : Nat → Nat → Int32} (h : fr3 I I') (hq : qA q I) : qA q I' :=
  ⟨(h 8 0 (by unfold scr; omega)).trans hq.1, fun k hk => (h 9 k (by unfold scr; omega)).trans (hq.2 k hk)⟩
section
variable {d nd : Nat} {D : Nat → Nat → Nat} {f : Nat → List Nat} {n t : Nat} {sh : Nat → Nat × Nat} {I : Nat → Nat → Int32} {L : Nat → Nat → Int64} {R : Nat → Nat → Option Nat} {Q : Option Value → aH → Prop}
theorem k59l (hd : 3 ≤ d) (hK : cK nd sh R) {q : List (Nat × Nat)} {I0 : Nat → Nat → Int32} (hq0 : qA q I0) (hB : qB q) {r : Nat} (hR0 : rT r f I0 R)
    (H : ∀ I', fr3 I0 I' → Q (some (.int (oI (ffi (fun k => wl f (qS q k)) q.length)))) (n, t, sh, I', L, R)) : ∀ m i I, i + m = q.length → fr3 I0 I → ffi (fun k => wl f (qS q k)) i = none →
    aE (a_cl_ d) 59 (2, [.ref 8, .ref 1, .int (nI i)], [], (n, t, sh, I, L, R)) Q := by
  obtain ⟨h1, h2, h2', h3, h3', h4, h5⟩ := cPs hK
  obtain ⟨c1, c2, c2', c3, c3', c4, c5, c6⟩ := cPh hK
  have b1 := hB.1
  intro m
  induction m with
  | zero =>
    intro i I hi hI hn
    obtain rfl : i = q.length := by omega
    have hq := qA_fr hI hq0
    have := H I hI
    rw [hn] at this
    rw [e59_2]
    simp (disch := first | assumption | exact ct_i | exact ct_r | exact ct_n | exact ct_h | omega | exact z_in (by omega) (by omega) | exact b01 | exact Or.inl rfl | exact Or.inr rfl) only [e59_0, e59_1, e59_3, e59_4, e59_7, e59_10, e59_10n, e59_11, e59_12, e59_13, e59_16, e59_19, e59_22, e59_23, e59_24, e59_27, e59_30, e59_31, ct_i, ct_r, ct_n, ct_h, opt_v, opt_s, ref_s, ref_n, eq_self_iff_true, true_or, or_true, zl0, zl1, zl2, zl3, zl4, zl5, zl6, zl7, zl8, zl9, zl10, zl16, zl32, zl40, zl100, zl160, zIc1, zI_lt, zI_le, nI_eq, nI_add, z_sub, nI_clamp, zI_of, uu_eq, uu_ne, Nat.reduceLT, Nat.reduceLeDiff, Nat.reduceEqDiff, Nat.reduceAdd, Nat.reduceSub, Nat.reduceMul, Nat.not_lt_zero, Nat.lt_irrefl, Nat.le_refl, Bool.false_eq_true, false_and, and_false, true_and, and_true, if_pos, if_neg, if_true, if_false, not_true_eq_false, not_false_eq_true, h1, hq.1]
    exact this
  | succ m ih =>
    intro i I hi hI hn
    have hs := hB.2.1 i (by omega)
    have hq := qA_fr hI hq0
    rw [e59_2]
    simp (disch := first | assumption | exact ct_i | exact ct_r | exact ct_n | exact ct_h | omega | exact z_in (by omega) (by omega) | exact b01 | exact Or.inl rfl | exact Or.inr rfl) only [e59_0, e59_1, e59_3, e59_4, e59_7, e59_10, e59_10n, e59_11, e59_12, e59_13, e59_16, e59_19, e59_22, e59_23, e59_24, e59_27, e59_30, e59_31, ct_i, ct_r, ct_n, ct_h, opt_v, opt_s, ref_s, ref_n, eq_self_iff_true, true_or, or_true, zl0, zl1, zl2, zl3, zl4, zl5, zl6, zl7, zl8, zl9, zl10, zl16, zl32, zl40, zl100, zl160, zIc1, zI_lt, zI_le, nI_eq, nI_add, z_sub, nI_clamp, zI_of, uu_eq, uu_ne, Nat.reduceLT, Nat.reduceLeDiff, Nat.reduceEqDiff, Nat.reduceAdd, Nat.reduceSub, Nat.reduceMul, Nat.not_lt_zero, Nat.lt_irrefl, Nat.le_refl, Bool.false_eq_true, false_and, and_false, true_and, and_true, if_pos, if_neg, if_true, if_false, not_true_eq_false, not_false_eq_true, h1, c1, hq.1, k49 (show 1 ≤ d by omega) hK hq hB (show i < q.length by omega)]
    refine k21 hd hK (rT_fr hI hR0) hs (fun I' hI' => ?_)
    by_cases he : wl f (qS q i) = true
    · have hf := ffi_hit hn he q.length (by omega)
      have := H I' (fr3_trans hI hI')
      rw [hf] at this
      simp (disch := first | assumption | exact ct_i | exact ct_r | exact ct_n | exact ct_h | omega | exact z_in (by omega) (by omega) | exact b01 | exact Or.inl rfl | exact Or.inr rfl) only [e59_0, e59_1, e59_3, e59_4, e59_7, e59_10, e59_10n, e59_11, e59_12, e59_13, e59_16, e59_19, e59_22, e59_23, e59_24, e59_27, e59_30, e59_31, ct_i, ct_r, ct_n, ct_h, opt_v, opt_s, ref_s, ref_n, eq_self_iff_true, true_or, or_true, zl0, zl1, zl2, zl3, zl4, zl5, zl6, zl7, zl8, zl9, zl10, zl16, zl32, zl40, zl100, zl160, zIc1, zI_lt, zI_le, nI_eq, nI_add, z_sub, nI_clamp, zI_of, uu_eq, uu_ne, Nat.reduceLT, Nat.reduceLeDiff, Nat.reduceEqDiff, Nat.reduceAdd, Nat.reduceSub, Nat.reduceMul, Nat.not_lt_zero, Nat.lt_irrefl, Nat.le_refl, Bool.false_eq_true, false_and, and_false, true_and, and_true, if_pos, if_neg, if_true, if_false, not_true_eq_false, not_false_eq_true, he]
      exact this
    · have hf : ffi (fun k => wl f (qS q k)) (i + 1) = none := by
        simp only [ffi, hn]
        exact if_neg he
      simp (disch := first | assumption | exact ct_i | exact ct_r | exact ct_n | exact ct_h | omega | exact z_in (by omega) (by omega) | exact b01 | exact Or.inl rfl | exact Or.inr rfl) only [e59_0, e59_1, e59_3, e59_4, e59_7, e59_10, e59_10n, e59_11, e59_12, e59_13, e59_16, e59_19, e59_22, e59_23, e59_24, e59_27, e59_30, e59_31, ct_i, ct_r, ct_n, ct_h, opt_v, opt_s, ref_s, ref_n, eq_self_iff_true, true_or, or_true, zl0, zl1, zl2, zl3, zl4, zl5, zl6, zl7, zl8, zl9, zl10, zl16, zl32, zl40, zl100, zl160, zIc1, zI_lt, zI_le, nI_eq, nI_add, z_sub, nI_clamp, zI_of, uu_eq, uu_ne, Nat.reduceLT, Nat.reduceLeDiff, Nat.reduceEqDiff, Nat.reduceAdd, Nat.reduceSub, Nat.reduceMul, Nat.not_lt_zero, Nat.lt_irrefl, Nat.le_refl, Bool.false_eq_true, false_and, and_false, true_and, and_true, if_pos, if_neg, if_true, if_false, not_true_eq_false, not_false_eq_true, he]
      exact ih (i + 1) I' (by omega) (fr3_trans hI hI') hf
theorem k59 (hd : 4 ≤ d) (hK : cK nd sh R) {q : List (Nat × Nat)} (hq : qA q I) (hB : qB q) {r : Nat} (hR : rT r f I R)
    (H : ∀ I', fr3 I I' → Q (some (.int (oI (ffi (fun k => wl f (qS q k)) q.length)))) (n, t, sh, I', L, R)) : aC d 59 [.ref 8, .ref 1] (n, t, sh, I, L, R) Q := by
  obtain ⟨d, rfl⟩ : ∃ e, d = e + 1 := ⟨d - 1, by omega⟩
  simp (disch := first | assumption | exact ct_i | exact ct_r | exact ct_n | exact ct_h | omega | exact z_in (by omega) (by omega) | exact b01 | exact Or.inl rfl | exact Or.inr rfl) only [b59, e59_0, e59_1, e59_3, e59_4, e59_7, e59_10, e59_10n, e59_11, e59_12, e59_13, e59_16, e59_19, e59_22, e59_23, e59_24, e59_27, e59_30, e59_31, ct_i, ct_r, ct_n, ct_h, opt_v, opt_s, ref_s, ref_n, eq_self_iff_true, true_or, or_true, zl0, zl1, zl2, zl3, zl4, zl5, zl6, zl7, zl8, zl9, zl10, zl16, zl32, zl40, zl100, zl160, zIc1, zI_lt, zI_le, nI_eq, nI_add, z_sub, nI_clamp, zI_of, uu_eq, uu_ne, Nat.reduceLT, Nat.reduceLeDiff, Nat.reduceEqDiff, Nat.reduceAdd, Nat.reduceSub, Nat.reduceMul, Nat.not_lt_zero, Nat.lt_irrefl, Nat.le_refl, Bool.false_eq_true, false_and, and_false, true_and, and_true, if_pos, if_neg, if_true, if_false, not_true_eq_false, not_false_eq_true]
  exact k59l (by omega) hK hq hB hR H q.length 0 I (by omega) fr3_refl rfl
/-- the first place from which a door leads back -/
def bkp (g : Nat → Nat → Option Nat) (nd : Nat) (q : List (Nat × Nat)) (s0 k : Nat) : Bool := (ffi (fun d => decide (g (qS q k) d = some s0)) nd).isSome
def fou (g : Nat → Nat → Option Nat) (nd : Nat) (q : List (Nat × Nat)) (s0 : Nat) : Int32 := match ffi (bkp g nd q s0) q.length with
  | some k => nI (dep q k + 1)
  | none => -nI 1
theorem oI_eq {o : Option Nat} {s : Nat} (hs : s < 6144) (h : ∀ y, o = some y → y < 6144) : oI o = nI s ↔ o = some s := by
  cases o with
  | none =>
    constructor
    · intro h2; exact absurd h2.symm (oI_ne hs)
    · intro h2; cases h2
  | some y =>
    have := h y rfl
    simp only [oI, Option.some.injEq]
    exact nI_eq (by omega) (by omega)
theorem k60i (hd : 4 ≤ d) (hK : cK nd sh R) (hI : hD nd D I) (hDB : dB nd D) (hM : mC nd D f L) {q : List (Nat × Nat)} (hq : qA q I) (hB : qB q) (hp : qPar q) {s0 k : Nat} (hs0 : s0 < 6144) (hk : k < q.length) : ∀ m i, i + m = nd → ffi (fun d => decide (bh nd D f (qS q k) d = some s0)) i = none →
    (aE (a_cl_ d) 60 (13, [.ref 8, .ref 1, .int (nI s0), .int (nI k), .int (nI i)], [], (n, t, sh, I, L, R)) Q ↔ if bkp (bh nd D f) nd q s0 k = true then Q (some (.int (nI (dep q k + 1)))) (n, t, sh, I, L, R) else aE (a_cl_ d) 60 (51, [.ref 8, .ref 1, .int (nI s0), .int (nI k), .int (nI nd)], [], (n, t, sh, I, L, R)) Q) := by
  obtain ⟨h1, h2, h2', h3, h3', h4, h5⟩ := cPs hK
  obtain ⟨c1, c2, c2', c3, c3', c4, c5, c6⟩ := cPh hK
  have b1 := hB.1
  have hs := hB.2.1 k hk
  intro m
  induction m with
  | zero =>
    intro i hi hn
    obtain rfl : i = nd := by omega
    have hf : bkp (bh i D f) i q s0 k = false := by unfold bkp; rw [hn]; rfl
    rw [e60_13, hf]
    simp (disch := first | assumption | exact ct_i | exact ct_r | exact ct_n | exact ct_h | omega | exact z_in (by omega) (by omega) | exact b01 | exact Or.inl rfl | exact Or.inr rfl) only [e60_0, e60_1, e60_2, e60_3, e60_4, e60_7, e60_10, e60_11, e60_15, e60_15n, e60_16, e60_19, e60_22, e60_22n, e60_23, e60_24, e60_25, e60_28, e60_30, e60_33, e60_34, e60_37, e60_38, e60_39, e60_42, e60_43, e60_44, e60_45, e60_48, e60_54, e60_57, e60_58, ct_i, ct_r, ct_n, ct_h, opt_v, opt_s, ref_s, ref_n, eq_self_iff_true, true_or, or_true, zl0, zl1, zl2, zl3, zl4, zl5, zl6, zl7, zl8, zl9, zl10, zl16, zl32, zl40, zl100, zl160, zIc1, zI_lt, zI_le, nI_eq, nI_add, z_sub, nI_clamp, zI_of, uu_eq, uu_ne, Nat.reduceLT, Nat.reduceLeDiff, Nat.reduceEqDiff, Nat.reduceAdd, Nat.reduceSub, Nat.reduceMul, Nat.not_lt_zero, Nat.lt_irrefl, Nat.le_refl, Bool.false_eq_true, false_and, and_false, true_and, and_true, if_pos, if_neg, if_true, if_false, not_true_eq_false, not_false_eq_true, c1, hI.1]
  | succ m ih =>
    intro i hi hn
    have e1 := oI_eq (o := bh nd D f (qS q k) i) hs0 (fun y hy => bh_lt hDB hy)
    rw [e60_13]
    by_cases he : bh nd D f (qS q k) i = some s0
    · have hf : bkp (bh nd D f) nd q s0 k = true := by
        unfold bkp
        rw [ffi_hit hn (decide_eq_true he) nd (by omega)]; rfl
      have e2 : oI (some s0) = nI s0 := rfl
      simp (disch := first | assumption | exact ct_i | exact ct_r | exact ct_n | exact ct_h | omega | exact z_in (by omega) (by omega) | exact b01 | exact Or.inl rfl | exact Or.inr rfl) only [e60_0, e60_1, e60_2, e60_3, e60_4, e60_7, e60_10, e60_11, e60_15, e60_15n, e60_16, e60_19, e60_22, e60_22n, e60_23, e60_24, e60_25, e60_28, e60_30, e60_33, e60_34, e60_37, e60_38, e60_39, e60_42, e60_43, e60_44, e60_45, e60_48, e60_54, e60_57, e60_58, ct_i, ct_r, ct_n, ct_h, opt_v, opt_s, ref_s, ref_n, eq_self_iff_true, true_or, or_true, zl0, zl1, zl2, zl3, zl4, zl5, zl6, zl7, zl8, zl9, zl10, zl16, zl32, zl40, zl100, zl160, zIc1, zI_lt, zI_le, nI_eq, nI_add, z_sub, nI_clamp, zI_of, uu_eq, uu_ne, Nat.reduceLT, Nat.reduceLeDiff, Nat.reduceEqDiff, Nat.reduceAdd, Nat.reduceSub, Nat.reduceMul, Nat.not_lt_zero, Nat.lt_irrefl, Nat.le_refl, Bool.false_eq_true, false_and, and_false, true_and, and_true, if_pos, if_neg, if_true, if_false, not_true_eq_false, not_false_eq_true, c1, h1, hI.1, k49 (show 1 ≤ d by omega) hK hq hB hk, k20 hd hK hI hDB hM hs (show i < nd by omega), he, hf, e2, k52 (show 2 ≤ d by omega) hK hq hB hp hk]
    · have hf : ffi (fun d => decide (bh nd D f (qS q k) d = some s0)) (i + 1) = none := by
        simp only [ffi, hn]
        exact if_neg (by rw [decide_eq_false he]; decide)
      have he' : ¬ oI (bh nd D f (qS q k) i) = nI s0 := fun h => he (e1.mp h)
      rw [← ih (i + 1) (by omega) hf]
      simp (disch := first | assumption | exact ct_i | exact ct_r | exact ct_n | exact ct_h | omega | exact z_in (by omega) (by omega) | exact b01 | exact Or.inl rfl | exact Or.inr rfl) only [e60_0, e60_1, e60_2, e60_3, e60_4, e60_7, e60_10, e60_11, e60_15, e60_15n, e60_16, e60_19, e60_22, e60_22n, e60_23, e60_24, e60_25, e60_28, e60_30, e60_33, e60_34, e60_37, e60_38, e60_39, e60_42, e60_43, e60_44, e60_45, e60_48, e60_54, e60_57, e60_58, ct_i, ct_r, ct_n, ct_h, opt_v, opt_s, ref_s, ref_n, eq_self_iff_true, true_or, or_true, zl0, zl1, zl2, zl3, zl4, zl5, zl6, zl7, zl8, zl9, zl10, zl16, zl32, zl40, zl100, zl160, zIc1, zI_lt, zI_le, nI_eq, nI_add, z_sub, nI_clamp, zI_of, uu_eq, uu_ne, Nat.reduceLT, Nat.reduceLeDiff, Nat.reduceEqDiff, Nat.reduceAdd, Nat.reduceSub, Nat.reduceMul, Nat.not_lt_zero, Nat.lt_irrefl, Nat.le_refl, Bool.false_eq_true, false_and, and_false, true_and, and_true, if_pos, if_neg, if_true, if_false, not_true_eq_false, not_false_eq_true, c1, h1, hI.1, k49 (show 1 ≤ d by omega) hK hq hB hk, k20 hd hK hI hDB hM hs (show i < nd by omega), he']
theorem k60l (hd : 4 ≤ d) (hK : cK nd sh R) (hI : hD nd D I) (hDB : dB nd D) (hM : mC nd D f L) {q : List (Nat × Nat)} (hq : qA q I) (hB : qB q) (hp : qPar q) {s0 : Nat} (hs0 : s0 < 6144) : ∀ m k l4, k + m = q.length → ffi (bkp (bh nd D f) nd q s0) k = none →
    (aE (a_cl_ d) 60 (2, [.ref 8, .ref 1, .int (nI s0), .int (nI k), l4], [], (n, t, sh, I, L, R)) Q ↔ Q (some (.int (fou (bh nd D f) nd q s0))) (n, t, sh, I, L, R)) := by
  obtain ⟨h1, h2, h2', h3, h3', h4, h5⟩ := cPs hK
  have b1 := hB.1
  intro m
  induction m with
  | zero =>
    intro k l4 hi hn
    obtain rfl : k = q.length := by omega
    have hf : fou (bh nd D f) nd q s0 = -nI 1 := by unfold fou; rw [hn]
    rw [e60_2]
    simp (disch := first | assumption | exact ct_i | exact ct_r | exact ct_n | exact ct_h | omega | exact z_in (by omega) (by omega) | exact b01 | exact Or.inl rfl | exact Or.inr rfl) only [e60_0, e60_1, e60_3, e60_4, e60_7, e60_10, e60_11, e60_15, e60_15n, e60_16, e60_19, e60_22, e60_22n, e60_23, e60_24, e60_25, e60_28, e60_30, e60_33, e60_34, e60_37, e60_38, e60_39, e60_42, e60_43, e60_44, e60_45, e60_48, e60_51, e60_54, e60_57, e60_58, ct_i, ct_r, ct_n, ct_h, opt_v, opt_s, ref_s, ref_n, eq_self_iff_true, true_or, or_true, zl0, zl1, zl2, zl3, zl4, zl5, zl6, zl7, zl8, zl9, zl10, zl16, zl32, zl40, zl100, zl160, zIc1, zI_lt, zI_le, nI_eq, nI_add, z_sub, nI_clamp, zI_of, uu_eq, uu_ne, Nat.reduceLT, Nat.reduceLeDiff, Nat.reduceEqDiff, Nat.reduceAdd, Nat.reduceSub, Nat.reduceMul, Nat.not_lt_zero, Nat.lt_irrefl, Nat.le_refl, Bool.false_eq_true, false_and, and_false, true_and, and_true, if_pos, if_neg, if_true, if_false, not_true_eq_false, not_false_eq_true, h1, hq.1, hf]
  | succ m ih =>
    intro k l4 hi hn
    rw [e60_2]
    simp (disch := first | assumption | exact ct_i | exact ct_r | exact ct_n | exact ct_h | omega | exact z_in (by omega) (by omega) | exact b01 | exact Or.inl rfl | exact Or.inr rfl) only [e60_0, e60_1, e60_3, e60_4, e60_7, e60_10, e60_11, e60_15, e60_15n, e60_16, e60_19, e60_22, e60_22n, e60_23, e60_24, e60_25, e60_28, e60_30, e60_33, e60_34, e60_37, e60_38, e60_39, e60_42, e60_43, e60_44, e60_45, e60_48, e60_51, e60_54, e60_57, e60_58, ct_i, ct_r, ct_n, ct_h, opt_v, opt_s, ref_s, ref_n, eq_self_iff_true, true_or, or_true, zl0, zl1, zl2, zl3, zl4, zl5, zl6, zl7, zl8, zl9, zl10, zl16, zl32, zl40, zl100, zl160, zIc1, zI_lt, zI_le, nI_eq, nI_add, z_sub, nI_clamp, zI_of, uu_eq, uu_ne, Nat.reduceLT, Nat.reduceLeDiff, Nat.reduceEqDiff, Nat.reduceAdd, Nat.reduceSub, Nat.reduceMul, Nat.not_lt_zero, Nat.lt_irrefl, Nat.le_refl, Bool.false_eq_true, false_and, and_false, true_and, and_true, if_pos, if_neg, if_true, if_false, not_true_eq_false, not_false_eq_true, h1, hq.1]
    rw [k60i hd hK hI hDB hM hq hB hp hs0 (show k < q.length by omega) nd 0 (by omega) rfl]
    by_cases hb : bkp (bh nd D f) nd q s0 k = true
    · have hf : fou (bh nd D f) nd q s0 = nI (dep q k + 1) := by unfold fou; rw [ffi_hit hn hb q.length (by omega)]
      rw [if_pos hb, hf]
    · have hf : ffi (bkp (bh nd D f) nd q s0) (k + 1) = none := by
        simp only [ffi, hn]
        exact if_neg hb
      rw [if_neg hb, ← ih (k + 1) (.int (nI nd)) (by omega) hf]
      simp (disch := first | assumption | exact ct_i | exact ct_r | exact ct_n | exact ct_h | omega | exact z_in (by omega) (by omega) | exact b01 | exact Or.inl rfl | exact Or.inr rfl) only [e60_0, e60_1, e60_3, e60_4, e60_7, e60_10, e60_11, e60_15, e60_15n, e60_16, e60_19, e60_22, e60_22n, e60_23, e60_24, e60_25, e60_28, e60_30, e60_33, e60_34, e60_37, e60_38, e60_39, e60_42, e60_43, e60_44, e60_45, e60_48, e60_51, e60_54, e60_57, e60_58, ct_i, ct_r, ct_n, ct_h, opt_v, opt_s, ref_s, ref_n, eq_self_iff_true, true_or, or_true, zl0, zl1, zl2, zl3, zl4, zl5, zl6, zl7, zl8, zl9, zl10, zl16, zl32, zl40, zl100, zl160, zIc1, zI_lt, zI_le, nI_eq, nI_add, z_sub, nI_clamp, zI_of, uu_eq, uu_ne, Nat.reduceLT, Nat.reduceLeDiff, Nat.reduceEqDiff, Nat.reduceAdd, Nat.reduceSub, Nat.reduceMul, Nat.not_lt_zero, Nat.lt_irrefl, Nat.le_refl, Bool.false_eq_true, false_and, and_false, true_and, and_true, if_pos, if_neg, if_true, if_false, not_true_eq_false, not_false_eq_true]
theorem k60 (hd : 5 ≤ d) (hK : cK nd sh R) (hI : hD nd D I) (hDB : dB nd D) (hM : mC nd D f L) {q : List (Nat × Nat)} (hq : qA q I) (hB : qB q) (hp : qPar q) {s0 : Nat} (hs0 : s0 < 6144) :
    aC d 60 [.ref 8, .ref 1, .int (nI s0)] (n, t, sh, I, L, R) Q ↔ Q (some (.int (fou (bh nd D f) nd q s0))) (n, t, sh, I, L, R) := by
  obtain ⟨d, rfl⟩ : ∃ e, d = e + 1 := ⟨d - 1, by omega⟩
  rw [← k60l (Q := Q) (t := t) (n := n) (show 4 ≤ d by omega) hK hI hDB hM hq hB hp hs0 q.length 0 a_hole (by omega) rfl]
  simp (disch := first | assumption | exact ct_i | exact ct_r | exact ct_n | exact ct_h | omega | exact z_in (by omega) (by omega) | exact b01 | exact Or.inl rfl | exact Or.inr rfl) only [b60, e60_0, e60_1, e60_3, e60_4, e60_7, e60_10, e60_11, e60_15, e60_15n, e60_16, e60_19, e60_22, e60_22n, e60_23, e60_24, e60_25, e60_28, e60_30, e60_33, e60_34, e60_37, e60_38, e60_39, e60_42, e60_43, e60_44, e60_45, e60_48, e60_51, e60_54, e60_57, e60_58, ct_i, ct_r, ct_n, ct_h, opt_v, opt_s, ref_s, ref_n, eq_self_iff_true, true_or, or_true, zl0, zl1, zl2, zl3, zl4, zl5, zl6, zl7, zl8, zl9, zl10, zl16, zl32, zl40, zl100, zl160, zIc1, zI_lt, zI_le, nI_eq, nI_add, z_sub, nI_clamp, zI_of, uu_eq, uu_ne, Nat.reduceLT, Nat.reduceLeDiff, Nat.reduceEqDiff, Nat.reduceAdd, Nat.reduceSub, Nat.reduceMul, Nat.not_lt_zero, Nat.lt_irrefl, Nat.le_refl, Bool.false_eq_true, false_and, and_false, true_and, and_true, if_pos, if_neg, if_true, if_false, not_true_eq_false, not_false_eq_true]
/-- the place j doors back -/
def anc (q : List (Nat × Nat)) : Nat → Nat → Nat
  | 0, k => k
  | j + 1, k => anc q j (qP q k)
theorem anc_dep {q : List (Nat × Nat)} (hp : qPar q) : ∀ j k, k < q.length → j ≤ dep q k → anc q j k < q.length ∧ dep q (anc q j k) + j = dep q k
  | 0, k, hk, _ => ⟨hk, rfl⟩
  | j + 1, k, hk, hj => by
    have h0 : 0 < k := by
      cases k with
      | zero => rw [dep_0] at hj; omega
      | succ k => omega
    have hs := dep_s hp h0 hk
    have := hp k h0 hk
    obtain ⟨a, b⟩ := anc_dep hp j (qP q k) (by omega) (by omega)
    exact ⟨a, by simp only [anc]; omega⟩
def wayD (g : Nat → Nat → Option Nat) (nd : Nat) (q : List (Nat × Nat)) (a : Nat) : Option Nat := ffi (fun d => decide (g (qS q (qP q a)) d = some (qS q a))) nd
theorem k56d (hd : 4 ≤ d) (hK : cK nd sh R) (hI : hD nd D I) (hDB : dB nd D) (hM : mC nd D f L) {q : List (Nat × Nat)} (hq : qA q I) (hB : qB q) {a : Nat} (ha : a < q.length) (hpa : qP q a < q.length) {l2 l3 : Int32} {l4 : Int32} : ∀ m i, i + m = nd → ffi (fun d => decide (bh nd D f (qS q (qP q a)) d = some (qS q a))) i = none →
    (aE (a_cl_ d) 56 (63, [.ref 8, .ref 1, .int l2, .int l3, .int l4, .int (nI a), .int (nI (qS q (qP q a))), .int (nI i)], [], (n, t, sh, I, L, R)) Q ↔ Q (some (.int (oI (wayD (bh nd D f) nd q a)))) (n, t, sh, I, L, R)) := by
  obtain ⟨h1, h2, h2', h3, h3', h4, h5⟩ := cPs hK
  obtain ⟨c1, c2, c2', c3, c3', c4, c5, c6⟩ := cPh hK
  have b1 := hB.1
  have hs := hB.2.1 _ hpa
  have hsa := hB.2.1 a ha
  intro m
  induction m with
  | zero =>
    intro i hi hn
    obtain rfl : i = nd := by omega
    have hf : wayD (bh i D f) i q a = none := hn
    rw [e56_63]
    simp (disch := first | assumption | exact ct_i | exact ct_r | exact ct_n | exact ct_h | omega | exact z_in (by omega) (by omega) | exact b01 | exact Or.inl rfl | exact Or.inr rfl) only [e56_0, e56_1, e56_2, e56_5, e56_7, e56_8, e56_11, e56_12, e56_14, e56_17, e56_18, e56_19, e56_20, e56_22, e56_24, e56_25, e56_26, e56_28, e56_30, e56_31, e56_34, e56_35, e56_37, e56_40, e56_42, e56_45, e56_48, e56_49, e56_50, e56_52, e56_55, e56_58, e56_60, e56_61, e56_65, e56_65n, e56_66, e56_69, e56_72, e56_72n, e56_73, e56_75, e56_77, e56_80, e56_81, e56_83, e56_86, e56_89, e56_91, e56_92, e56_95, e56_98, e56_99, ct_i, ct_r, ct_n, ct_h, opt_v, opt_s, ref_s, ref_n, eq_self_iff_true, true_or, or_true, zl0, zl1, zl2, zl3, zl4, zl5, zl6, zl7, zl8, zl9, zl10, zl16, zl32, zl40, zl100, zl160, zIc1, zI_lt, zI_le, nI_eq, nI_add, z_sub, nI_clamp, zI_of, uu_eq, uu_ne, Nat.reduceLT, Nat.reduceLeDiff, Nat.reduceEqDiff, Nat.reduceAdd, Nat.reduceSub, Nat.reduceMul, Nat.not_lt_zero, Nat.lt_irrefl, Nat.le_refl, Bool.false_eq_true, false_and, and_false, true_and, and_true, if_pos, if_neg, if_true, if_false, not_true_eq_false, not_false_eq_true, c1, hI.1, hf, oI]
  | succ m ih =>
    intro i hi hn
    have e1 := oI_eq (o := bh nd D f (qS q (qP q a)) i) hsa (fun y hy => bh_lt hDB hy)
    rw [e56_63]
    by_cases he : bh nd D f (qS q (qP q a)) i = some (qS q a)
    · have hf : wayD (bh nd D f) nd q a = some i := ffi_hit hn (decide_eq_true he) nd (by omega)
      have e2 : ∀ x, oI (some x) = nI x := fun _ => rfl
      simp (disch := first | assumption | exact ct_i | exact ct_r | exact ct_n | exact ct_h | omega | exact z_in (by omega) (by omega) | exact b01 | exact Or.inl rfl | exact Or.inr rfl) only [e56_0, e56_1, e56_2, e56_5, e56_7, e56_8, e56_11, e56_12, e56_14, e56_17, e56_18, e56_19, e56_20, e56_22, e56_24, e56_25, e56_26, e56_28, e56_30, e56_31, e56_34, e56_35, e56_37, e56_40, e56_42, e56_45, e56_48, e56_49, e56_50, e56_52, e56_55, e56_58, e56_60, e56_61, e56_65, e56_65n, e56_66, e56_69, e56_72, e56_72n, e56_73, e56_75, e56_77, e56_80, e56_81, e56_83, e56_86, e56_89, e56_91, e56_92, e56_95, e56_98, e56_99, ct_i, ct_r, ct_n, ct_h, opt_v, opt_s, ref_s, ref_n, eq_self_iff_true, true_or, or_true, zl0, zl1, zl2, zl3, zl4, zl5, zl6, zl7, zl8, zl9, zl10, zl16, zl32, zl40, zl100, zl160, zIc1, zI_lt, zI_le, nI_eq, nI_add, z_sub, nI_clamp, zI_of, uu_eq, uu_ne, Nat.reduceLT, Nat.reduceLeDiff, Nat.reduceEqDiff, Nat.reduceAdd, Nat.reduceSub, Nat.reduceMul, Nat.not_lt_zero, Nat.lt_irrefl, Nat.le_refl, Bool.false_eq_true, false_and, and_false, true_and, and_true, if_pos, if_neg, if_true, if_false, not_true_eq_false, not_false_eq_true, c1, h1, hI.1, k49 (show 1 ≤ d by omega) hK hq hB ha, k20 hd hK hI hDB hM hs (show i < nd by omega), he, hf, e2]
    · have hf : ffi (fun d => decide (bh nd D f (qS q (qP q a)) d = some (qS q a))) (i + 1) = none := by
        simp only [ffi, hn]
        exact if_neg (by rw [decide_eq_false he]; decide)
      have he' : ¬ oI (bh nd D f (qS q (qP q a)) i) = nI (qS q a) := fun h => he (e1.mp h)
      rw [← ih (i + 1) (by omega) hf]
      simp (disch := first | assumption | exact ct_i | exact ct_r | exact ct_n | exact ct_h | omega | exact z_in (by omega) (by omega) | exact b01 | exact Or.inl rfl | exact Or.inr rfl) only [e56_0, e56_1, e56_2, e56_5, e56_7, e56_8, e56_11, e56_12, e56_14, e56_17, e56_18, e56_19, e56_20, e56_22, e56_24, e56_25, e56_26, e56_28, e56_30, e56_31, e56_34, e56_35, e56_37, e56_40, e56_42, e56_45, e56_48, e56_49, e56_50, e56_52, e56_55, e56_58, e56_60, e56_61, e56_65, e56_65n, e56_66, e56_69, e56_72, e56_72n, e56_73, e56_75, e56_77, e56_80, e56_81, e56_83, e56_86, e56_89, e56_91, e56_92, e56_95, e56_98, e56_99, ct_i, ct_r, ct_n, ct_h, opt_v, opt_s, ref_s, ref_n, eq_self_iff_true, true_or, or_true, zl0, zl1, zl2, zl3, zl4, zl5, zl6, zl7, zl8, zl9, zl10, zl16, zl32, zl40, zl100, zl160, zIc1, zI_lt, zI_le, nI_eq, nI_add, z_sub, nI_clamp, zI_of, uu_eq, uu_ne, Nat.reduceLT, Nat.reduceLeDiff, Nat.reduceEqDiff, Nat.reduceAdd, Nat.reduceSub, Nat.reduceMul, Nat.not_lt_zero, Nat.lt_irrefl, Nat.le_refl, Bool.false_eq_true, false_and, and_false, true_and, and_true, if_pos, if_neg, if_true, if_false, not_true_eq_false, not_false_eq_true, c1, h1, hI.1, k49 (show 1 ≤ d by omega) hK hq hB ha, k20 hd hK hI hDB hM hs (show i < nd by omega), he']
theorem z_dec1 {a : Nat} : nI (a + 1) + Int32.ofInt (-1) = nI a := pk_m1 a
theorem k56w (hd : 4 ≤ d) (hK : cK nd sh R) (hI : hD nd D I) (hDB : dB nd D) (hM : mC nd D f L) {q : List (Nat × Nat)} (hq : qA q I) (hB : qB q) (hp : qPar q) {i : Nat} {l2 l4 : Int32} {l7 : Value} : ∀ j a, a < q.length → i + j + 1 ≤ 6144 → i + j + 1 = dep q a →
    (aE (a_cl_ d) 56 (28, [.ref 8, .ref 1, .int l2, .int (nI i), .int l4, .int (nI a), .int (nI (i + j)), l7], [], (n, t, sh, I, L, R)) Q ↔ Q (some (.int (oI (wayD (bh nd D f) nd q (anc q j a))))) (n, t, sh, I, L, R)) := by
  obtain ⟨h1, h2, h2', h3, h3', h4, h5⟩ := cPs hK
  have b1 := hB.1
  intro j
  induction j with
  | zero =>
    intro a ha hle hj
    have hpa : qP q a < q.length := by
      cases a with
      | zero => rw [dep_0] at hj; omega
      | succ a => have := hp (a + 1) (by omega) ha; omega
    rw [e56_28]
    simp (disch := first | assumption | exact ct_i | exact ct_r | exact ct_n | exact ct_h | omega | exact z_in (by omega) (by omega) | exact b01 | exact Or.inl rfl | exact Or.inr rfl) only [e56_0, e56_1, e56_2, e56_5, e56_7, e56_8, e56_11, e56_12, e56_14, e56_17, e56_18, e56_19, e56_20, e56_22, e56_24, e56_25, e56_26, e56_30, e56_31, e56_34, e56_35, e56_37, e56_40, e56_42, e56_45, e56_48, e56_49, e56_50, e56_52, e56_55, e56_58, e56_60, e56_61, e56_65, e56_65n, e56_66, e56_69, e56_72, e56_72n, e56_73, e56_75, e56_77, e56_80, e56_81, e56_83, e56_86, e56_89, e56_91, e56_92, e56_95, e56_98, e56_99, ct_i, ct_r, ct_n, ct_h, opt_v, opt_s, ref_s, ref_n, eq_self_iff_true, true_or, or_true, zl0, zl1, zl2, zl3, zl4, zl5, zl6, zl7, zl8, zl9, zl10, zl16, zl32, zl40, zl100, zl160, zIc1, zI_lt, zI_le, nI_eq, nI_add, z_sub, nI_clamp, zI_of, uu_eq, uu_ne, Nat.reduceLT, Nat.reduceLeDiff, Nat.reduceEqDiff, Nat.reduceAdd, Nat.reduceSub, Nat.reduceMul, Nat.not_lt_zero, Nat.lt_irrefl, Nat.le_refl, Bool.false_eq_true, false_and, and_false, true_and, and_true, if_pos, if_neg, if_true, if_false, not_true_eq_false, not_false_eq_true, h1, Nat.add_zero, k53 (show 1 ≤ d by omega) hK hq hB ha, k49 (show 1 ≤ d by omega) hK hq hB hpa]
    exact k56d hd hK hI hDB hM hq hB ha hpa nd 0 (by omega) rfl
  | succ j ih =>
    intro a ha hle hj
    have h0 : 0 < a := by
      cases a with
      | zero => rw [dep_0] at hj; omega
      | succ a => omega
    have hpa := hp a h0 ha
    have hs := dep_s hp h0 ha
    rw [e56_28]
    have e : nI (i + (j + 1)) + Int32.ofInt (-1) = nI (i + j) := z_dec1
    simp (disch := first | assumption | exact ct_i | exact ct_r | exact ct_n | exact ct_h | omega | exact z_in (by omega) (by omega) | exact b01 | exact Or.inl rfl | exact Or.inr rfl) only [e56_0, e56_1, e56_2, e56_5, e56_7, e56_8, e56_11, e56_12, e56_14, e56_17, e56_18, e56_19, e56_20, e56_22, e56_24, e56_25, e56_26, e56_30, e56_31, e56_34, e56_35, e56_37, e56_40, e56_42, e56_45, e56_48, e56_49, e56_50, e56_52, e56_55, e56_58, e56_60, e56_61, e56_65, e56_65n, e56_66, e56_69, e56_72, e56_72n, e56_73, e56_75, e56_77, e56_80, e56_81, e56_83, e56_86, e56_89, e56_91, e56_92, e56_95, e56_98, e56_99, ct_i, ct_r, ct_n, ct_h, opt_v, opt_s, ref_s, ref_n, eq_self_iff_true, true_or, or_true, zl0, zl1, zl2, zl3, zl4, zl5, zl6, zl7, zl8, zl9, zl10, zl16, zl32, zl40, zl100, zl160, zIc1, zI_lt, zI_le, nI_eq, nI_add, z_sub, nI_clamp, zI_of, uu_eq, uu_ne, Nat.reduceLT, Nat.reduceLeDiff, Nat.reduceEqDiff, Nat.reduceAdd, Nat.reduceSub, Nat.reduceMul, Nat.not_lt_zero, Nat.lt_irrefl, Nat.le_refl, Bool.false_eq_true, false_and, and_false, true_and, and_true, if_pos, if_neg, if_true, if_false, not_true_eq_false, not_false_eq_true, h1, k53 (show 1 ≤ d by omega) hK hq hB ha, e]
    exact ih (qP q a) (by omega) (by omega) (by omega)
theorem k56 (hd : 5 ≤ d) (hK : cK nd sh R) (hI : hD nd D I) (hDB : dB nd D) (hM : mC nd D f L) {q : List (Nat × Nat)} (hq : qA q I) (hB : qB q) (hp : qPar q) {k i : Nat} (hk : k < q.length) (hi : i < dep q k) :
    aC d 56 [.ref 8, .ref 1, .int (nI k), .int (nI i)] (n, t, sh, I, L, R) Q ↔ Q (some (.int (oI (wayD (bh nd D f) nd q (anc q (dep q k - 1 - i) k))))) (n, t, sh, I, L, R) := by
  obtain ⟨d, rfl⟩ : ∃ e, d = e + 1 := ⟨d - 1, by omega⟩
  obtain ⟨h1, h2, h2', h3, h3', h4, h5⟩ := cPs hK
  have b1 := hB.1
  have hle := dep_le hp k hk
  have := k56w (n := n) (t := t) (Q := Q) (L := L) (l2 := nI k) (l4 := nI (dep q k)) (l7 := a_hole) (i := i) (show 4 ≤ d by omega) hK hI hDB hM hq hB hp (dep q k - 1 - i) k hk (by omega) (by omega)
  rw [show i + (dep q k - 1 - i) = dep q k - 1 by omega] at this
  rw [← this]
  simp (disch := first | assumption | exact ct_i | exact ct_r | exact ct_n | exact ct_h | omega | exact z_in (by omega) (by omega) | exact b01 | exact Or.inl rfl | exact Or.inr rfl) only [b56, e56_0, e56_1, e56_2, e56_5, e56_7, e56_8, e56_11, e56_12, e56_14, e56_17, e56_18, e56_19, e56_20, e56_22, e56_24, e56_25, e56_26, e56_30, e56_31, e56_34, e56_35, e56_37, e56_40, e56_42, e56_45, e56_48, e56_49, e56_50, e56_52, e56_55, e56_58, e56_60, e56_61, e56_65, e56_65n, e56_66, e56_69, e56_72, e56_72n, e56_73, e56_75, e56_77, e56_80, e56_81, e56_83, e56_86, e56_89, e56_91, e56_92, e56_95, e56_98, e56_99, ct_i, ct_r, ct_n, ct_h, opt_v, opt_s, ref_s, ref_n, eq_self_iff_true, true_or, or_true, zl0, zl1, zl2, zl3, zl4, zl5, zl6, zl7, zl8, zl9, zl10, zl16, zl32, zl40, zl100, zl160, zIc1, zI_lt, zI_le, nI_eq, nI_add, z_sub, nI_clamp, zI_of, uu_eq, uu_ne, Nat.reduceLT, Nat.reduceLeDiff, Nat.reduceEqDiff, Nat.reduceAdd, Nat.reduceSub, Nat.reduceMul, Nat.not_lt_zero, Nat.lt_irrefl, Nat.le_refl, Bool.false_eq_true, false_and, and_false, true_and, and_true, if_pos, if_neg, if_true, if_false, not_true_eq_false, not_false_eq_true, h1, k52 (show 2 ≤ d by omega) hK hq hB hp hk]
/-- no such row, or no such place of it -/
theorem k56n (hd : 3 ≤ d) (hK : cK nd sh R) {q : List (Nat × Nat)} (hq : qA q I) (hB : qB q) (hp : qPar q) {k : Nat} (hk : k < q.length) {x : Int32} (hx : x < nI 0 ∨ nI (dep q k) ≤ x) :
    aC d 56 [.ref 8, .ref 1, .int (nI k), .int x] (n, t, sh, I, L, R) Q ↔ Q (some (.int (-nI 1))) (n, t, sh, I, L, R) := by
  obtain ⟨d, rfl⟩ : ∃ e, d = e + 1 := ⟨d - 1, by omega⟩
  obtain ⟨h1, h2, h2', h3, h3', h4, h5⟩ := cPs hK
  have b1 := hB.1
  rcases hx with hx | hx
  · simp (disch := first | assumption | exact ct_i | exact ct_r | exact ct_n | exact ct_h | omega | exact z_in (by omega) (by omega) | exact b01 | exact Or.inl rfl | exact Or.inr rfl) only [b56, e56_0, e56_1, e56_2, e56_5, e56_7, e56_8, e56_11, e56_12, e56_14, e56_17, e56_18, e56_19, e56_20, e56_22, e56_24, e56_25, e56_26, e56_30, e56_31, e56_34, e56_35, e56_37, e56_40, e56_42, e56_45, e56_48, e56_49, e56_50, e56_52, e56_55, e56_58, e56_60, e56_61, e56_65, e56_65n, e56_66, e56_69, e56_72, e56_72n, e56_73, e56_75, e56_77, e56_80, e56_81, e56_83, e56_86, e56_89, e56_91, e56_92, e56_95, e56_98, e56_99, ct_i, ct_r, ct_n, ct_h, opt_v, opt_s, ref_s, ref_n, eq_self_iff_true, true_or, or_true, zl0, zl1, zl2, zl3, zl4, zl5, zl6, zl7, zl8, zl9, zl10, zl16, zl32, zl40, zl100, zl160, zIc1, zI_lt, zI_le, nI_eq, nI_add, z_sub, nI_clamp, zI_of, uu_eq, uu_ne, Nat.reduceLT, Nat.reduceLeDiff, Nat.reduceEqDiff, Nat.reduceAdd, Nat.reduceSub, Nat.reduceMul, Nat.not_lt_zero, Nat.lt_irrefl, Nat.le_refl, Bool.false_eq_true, false_and, and_false, true_and, and_true, if_pos, if_neg, if_true, if_false, not_true_eq_false, not_false_eq_true, h1, k52 (show 2 ≤ d by omega) hK hq hB hp hk, hx]
  · have hx' : ¬ x < nI (dep q k) := by
      rw [Int32.lt_iff_toInt_lt]; rw [Int32.le_iff_toInt_le] at hx; omega
    simp (disch := first | assumption | exact ct_i | exact ct_r | exact ct_n | exact ct_h | omega | exact z_in (by omega) (by omega) | exact b01 | exact Or.inl rfl | exact Or.inr rfl) only [b56, e56_0, e56_1, e56_2, e56_5, e56_7, e56_8, e56_11, e56_12, e56_14, e56_17, e56_18, e56_19, e56_20, e56_22, e56_24, e56_25, e56_26, e56_30, e56_31, e56_34, e56_35, e56_37, e56_40, e56_42, e56_45, e56_48, e56_49, e56_50, e56_52, e56_55, e56_58, e56_60, e56_61, e56_65, e56_65n, e56_66, e56_69, e56_72, e56_72n, e56_73, e56_75, e56_77, e56_80, e56_81, e56_83, e56_86, e56_89, e56_91, e56_92, e56_95, e56_98, e56_99, ct_i, ct_r, ct_n, ct_h, opt_v, opt_s, ref_s, ref_n, eq_self_iff_true, true_or, or_true, zl0, zl1, zl2, zl3, zl4, zl5, zl6, zl7, zl8, zl9, zl10, zl16, zl32, zl40, zl100, zl160, zIc1, zI_lt, zI_le, nI_eq, nI_add, z_sub, nI_clamp, zI_of, uu_eq, uu_ne, Nat.reduceLT, Nat.reduceLeDiff, Nat.reduceEqDiff, Nat.reduceAdd, Nat.reduceSub, Nat.reduceMul, Nat.not_lt_zero, Nat.lt_irrefl, Nat.le_refl, Bool.false_eq_true, false_and, and_false, true_and, and_true, if_pos, if_neg, if_true, if_false, not_true_eq_false, not_false_eq_true, h1, k52 (show 2 ≤ d by omega) hK hq hB hp hk, hx', ite_self]
theorem k56m (hd : 2 ≤ d) (hK : cK nd sh R) {x : Int32} : aC d 56 [.ref 8, .ref 1, .int (-nI 1), .int x] (n, t, sh, I, L, R) Q ↔ Q (some (.int (-nI 1))) (n, t, sh, I, L, R) := by
  obtain ⟨d, rfl⟩ : ∃ e, d = e + 1 := ⟨d - 1, by omega⟩
  obtain ⟨h1, h2, h2', h3, h3', h4, h5⟩ := cPs hK
  by_cases hx : x < nI 0
  · simp (disch := first | assumption | exact ct_i | exact ct_r | exact ct_n | exact ct_h | omega | exact z_in (by omega) (by omega) | exact b01 | exact Or.inl rfl | exact Or.inr rfl) only [b56, e56_0, e56_1, e56_2, e56_5, e56_7, e56_8, e56_11, e56_12, e56_14, e56_17, e56_18, e56_19, e56_20, e56_22, e56_24, e56_25, e56_26, e56_30, e56_31, e56_34, e56_35, e56_37, e56_40, e56_42, e56_45, e56_48, e56_49, e56_50, e56_52, e56_55, e56_58, e56_60, e56_61, e56_65, e56_65n, e56_66, e56_69, e56_72, e56_72n, e56_73, e56_75, e56_77, e56_80, e56_81, e56_83, e56_86, e56_89, e56_91, e56_92, e56_95, e56_98, e56_99, ct_i, ct_r, ct_n, ct_h, opt_v, opt_s, ref_s, ref_n, eq_self_iff_true, true_or, or_true, zl0, zl1, zl2, zl3, zl4, zl5, zl6, zl7, zl8, zl9, zl10, zl16, zl32, zl40, zl100, zl160, zIc1, zI_lt, zI_le, nI_eq, nI_add, z_sub, nI_clamp, zI_of, uu_eq, uu_ne, Nat.reduceLT, Nat.reduceLeDiff, Nat.reduceEqDiff, Nat.reduceAdd, Nat.reduceSub, Nat.reduceMul, Nat.not_lt_zero, Nat.lt_irrefl, Nat.le_refl, Bool.false_eq_true, false_and, and_false, true_and, and_true, if_pos, if_neg, if_true, if_false, not_true_eq_false, not_false_eq_true, h1, k52n (show 1 ≤ d by omega), hx]
  · have hx' : ¬ x < -nI 1 := by
      rw [Int32.lt_iff_toInt_lt] at hx ⊢
      have e1 : (-nI 1 : Int32).toInt = -1 := by decide
      have e2 : (nI 0 : Int32).toInt = 0 := by decide
      omega
    simp (disch := first | assumption | exact ct_i | exact ct_r | exact ct_n | exact ct_h | omega | exact z_in (by omega) (by omega) | exact b01 | exact Or.inl rfl | exact Or.inr rfl) only [b56, e56_0, e56_1, e56_2, e56_5, e56_7, e56_8, e56_11, e56_12, e56_14, e56_17, e56_18, e56_19, e56_20, e56_22, e56_24, e56_25, e56_26, e56_30, e56_31, e56_34, e56_35, e56_37, e56_40, e56_42, e56_45, e56_48, e56_49, e56_50, e56_52, e56_55, e56_58, e56_60, e56_61, e56_65, e56_65n, e56_66, e56_69, e56_72, e56_72n, e56_73, e56_75, e56_77, e56_80, e56_81, e56_83, e56_86, e56_89, e56_91, e56_92, e56_95, e56_98, e56_99, ct_i, ct_r, ct_n, ct_h, opt_v, opt_s, ref_s, ref_n, eq_self_iff_true, true_or, or_true, zl0, zl1, zl2, zl3, zl4, zl5, zl6, zl7, zl8, zl9, zl10, zl16, zl32, zl40, zl100, zl160, zIc1, zI_lt, zI_le, nI_eq, nI_add, z_sub, nI_clamp, zI_of, uu_eq, uu_ne, Nat.reduceLT, Nat.reduceLeDiff, Nat.reduceEqDiff, Nat.reduceAdd, Nat.reduceSub, Nat.reduceMul, Nat.not_lt_zero, Nat.lt_irrefl, Nat.le_refl, Bool.false_eq_true, false_and, and_false, true_and, and_true, if_pos, if_neg, if_true, if_false, not_true_eq_false, not_false_eq_true, h1, k52n (show 1 ≤ d by omega), hx, hx']
end
