/-! what the class asks of a search -/
def rms (q : List (Nat × Nat)) : Nat → Int32
  | 0 => nI 0
  | k + 1 => rms q k ||| (nI 1 <<< (nI (rmo (qS q k)) &&& 31))
def ffi (p : Nat → Bool) : Nat → Option Nat
  | 0 => none
  | n + 1 => match ffi p n with
    | some k => some k
    | none => if p n = true then some n else none
theorem ffi_none {p : Nat → Bool} : ∀ {n : Nat}, ffi p n = none → ∀ k, k < n → p k = false
  | n + 1, h, k, hk => by
    simp only [ffi] at h
    cases h1 : ffi p n with
    | some j => rw [h1] at h; cases h
    | none =>
      rw [h1] at h
      simp only [] at h
      by_cases hkn : k = n
      · subst hkn
        by_cases h2 : p k = true
        · rw [if_pos h2] at h; cases h
        · exact (Bool.not_eq_true _).mp h2
      · exact ffi_none h1 k (by omega)
theorem ffi_some {p : Nat → Bool} : ∀ {n k : Nat}, ffi p n = some k → k < n ∧ p k = true ∧ ∀ j, j < k → p j = false
  | n + 1, k, h => by
    simp only [ffi] at h
    cases h1 : ffi p n with
    | some j =>
      rw [h1] at h
      injection h with h; subst h
      obtain ⟨a, b, c⟩ := ffi_some h1
      exact ⟨by omega, b, c⟩
    | none =>
      rw [h1] at h
      simp only [] at h
      by_cases h2 : p n = true
      · rw [if_pos h2] at h
        injection h with h; subst h
        exact ⟨by omega, h2, ffi_none h1⟩
      · rw [if_neg h2] at h; cases h
theorem ffi_hit {p : Nat → Bool} {i : Nat} (h : ffi p i = none) (hi : p i = true) : ∀ n, i < n → ffi p n = some i
  | n + 1, hn => by
    simp only [ffi]
    by_cases e : n = i
    · subst e; rw [h]; simp only []; rw [if_pos hi]
    · rw [ffi_hit h hi n (by omega)]
def lsc (g : Nat → Nat → Option Nat) (nd : Nat) (q : List (Nat × Nat)) : Nat → Nat
  | 0 => 0
  | k + 1 => if orF (fun i => (g (qS q k) i).isSome) nd = nI 0 then lsc g nd q k + 1 else lsc g nd q k
theorem lsc_le {g : Nat → Nat → Option Nat} {nd : Nat} {q : List (Nat × Nat)} : ∀ k, lsc g nd q k ≤ k
  | 0 => Nat.le_refl 0
  | k + 1 => by
    have := lsc_le (g := g) (nd := nd) (q := q) k
    simp only [lsc]; split <;> omega
section
variable {d nd : Nat} {D : Nat → Nat → Nat} {f : Nat → List Nat} {n t : Nat} {sh : Nat → Nat × Nat} {I : Nat → Nat → Int32} {L : Nat → Nat → Int64} {R : Nat → Nat → Option Nat} {Q : Option Value → aH → Prop}
theorem k50l (hd : 1 ≤ d) (hK : cK nd sh R) {q : List (Nat × Nat)} (hq : qA q I) (hB : qB q) : ∀ m i, i + m = q.length →
    (aE (a_cl_ d) 50 (4, [.ref 8, .int (rms q i), .int (nI i)], [], (n, t, sh, I, L, R)) Q ↔ Q (some (.int (rms q q.length))) (n, t, sh, I, L, R)) := by
  obtain ⟨h1, h2, h2', h3, h3', h4, h5⟩ := cPs hK
  have b1 := hB.1
  intro m
  induction m with
  | zero =>
    intro i hi
    obtain rfl : i = q.length := by omega
    rw [e50_4]
    simp (disch := first | assumption | exact ct_i | exact ct_r | exact ct_n | exact ct_h | omega | exact z_in (by omega) (by omega) | exact b01 | exact Or.inl rfl | exact Or.inr rfl) only [e50_0, e50_1, e50_2, e50_3, e50_5, e50_6, e50_9, e50_12, e50_13, e50_14, e50_15, e50_16, e50_19, e50_22, e50_23, e50_24, e50_25, e50_28, e50_31, e50_32, ct_i, ct_r, ct_n, ct_h, opt_v, opt_s, ref_s, ref_n, eq_self_iff_true, true_or, or_true, zl0, zl1, zl2, zl3, zl4, zl5, zl6, zl7, zl8, zl9, zl10, zl16, zl32, zl40, zl100, zl160, zIc1, zI_lt, zI_le, nI_eq, nI_add, z_sub, nI_clamp, zI_of, uu_eq, uu_ne, Nat.reduceLT, Nat.reduceLeDiff, Nat.reduceEqDiff, Nat.reduceAdd, Nat.reduceSub, Nat.reduceMul, Nat.not_lt_zero, Nat.lt_irrefl, Nat.le_refl, Bool.false_eq_true, false_and, and_false, true_and, and_true, if_pos, if_neg, if_true, if_false, not_true_eq_false, not_false_eq_true, h1, hq.1]
  | succ m ih =>
    intro i hi
    rw [e50_4, ← ih (i + 1) (by omega)]
    have hs := hB.2.1 i (by omega)
    simp (disch := first | assumption | exact ct_i | exact ct_r | exact ct_n | exact ct_h | omega | exact z_in (by omega) (by omega) | exact b01 | exact Or.inl rfl | exact Or.inr rfl) only [e50_0, e50_1, e50_2, e50_3, e50_5, e50_6, e50_9, e50_12, e50_13, e50_14, e50_15, e50_16, e50_19, e50_22, e50_23, e50_24, e50_25, e50_28, e50_31, e50_32, ct_i, ct_r, ct_n, ct_h, opt_v, opt_s, ref_s, ref_n, eq_self_iff_true, true_or, or_true, zl0, zl1, zl2, zl3, zl4, zl5, zl6, zl7, zl8, zl9, zl10, zl16, zl32, zl40, zl100, zl160, zIc1, zI_lt, zI_le, nI_eq, nI_add, z_sub, nI_clamp, zI_of, uu_eq, uu_ne, Nat.reduceLT, Nat.reduceLeDiff, Nat.reduceEqDiff, Nat.reduceAdd, Nat.reduceSub, Nat.reduceMul, Nat.not_lt_zero, Nat.lt_irrefl, Nat.le_refl, Bool.false_eq_true, false_and, and_false, true_and, and_true, if_pos, if_neg, if_true, if_false, not_true_eq_false, not_false_eq_true, h1, hq.1, k49 hd hK hq hB (show i < q.length by omega), k198 hd hs, rms]
theorem k50 (hd : 2 ≤ d) (hK : cK nd sh R) {q : List (Nat × Nat)} (hq : qA q I) (hB : qB q) : aC d 50 [.ref 8] (n, t, sh, I, L, R) Q ↔ Q (some (.int (rms q q.length))) (n, t, sh, I, L, R) := by
  obtain ⟨d, rfl⟩ : ∃ e, d = e + 1 := ⟨d - 1, by omega⟩
  rw [← k50l (Q := Q) (t := t) (n := n) (L := L) (show 1 ≤ d by omega) hK hq hB q.length 0 (by omega)]
  simp (disch := first | assumption | exact ct_i | exact ct_r | exact ct_n | exact ct_h | omega | exact z_in (by omega) (by omega) | exact b01 | exact Or.inl rfl | exact Or.inr rfl) only [b50, e50_0, e50_1, e50_2, e50_3, e50_5, e50_6, e50_9, e50_12, e50_13, e50_14, e50_15, e50_16, e50_19, e50_22, e50_23, e50_24, e50_25, e50_28, e50_31, e50_32, ct_i, ct_r, ct_n, ct_h, opt_v, opt_s, ref_s, ref_n, eq_self_iff_true, true_or, or_true, zl0, zl1, zl2, zl3, zl4, zl5, zl6, zl7, zl8, zl9, zl10, zl16, zl32, zl40, zl100, zl160, zIc1, zI_lt, zI_le, nI_eq, nI_add, z_sub, nI_clamp, zI_of, uu_eq, uu_ne, Nat.reduceLT, Nat.reduceLeDiff, Nat.reduceEqDiff, Nat.reduceAdd, Nat.reduceSub, Nat.reduceMul, Nat.not_lt_zero, Nat.lt_irrefl, Nat.le_refl, Bool.false_eq_true, false_and, and_false, true_and, and_true, if_pos, if_neg, if_true, if_false, not_true_eq_false, not_false_eq_true, rms]
theorem k52l (hd : 1 ≤ d) (hK : cK nd sh R) {q : List (Nat × Nat)} (hq : qA q I) (hB : qB q) (hp : qPar q) {z : Int32} {k : Nat} (hk : k < q.length) : ∀ e a m, e = dep q a → a < q.length → m + dep q a = dep q k →
    (aE (a_cl_ d) 52 (10, [.ref 8, .int z, .int (nI a), .int (nI m)], [], (n, t, sh, I, L, R)) Q ↔ Q (some (.int (nI (dep q k)))) (n, t, sh, I, L, R)) := by
  obtain ⟨h1, h2, h2', h3, h3', h4, h5⟩ := cPs hK
  have b1 := hB.1
  intro e
  induction e with
  | zero =>
    intro a m he ha hm
    have h0 : a = 0 := by
      by_cases h : a = 0
      · exact h
      · have := dep_s hp (show 0 < a by omega) ha; omega
    subst h0
    rw [dep_0, Nat.add_zero] at hm
    subst hm
    simp (disch := first | assumption | exact ct_i | exact ct_r | exact ct_n | exact ct_h | omega | exact z_in (by omega) (by omega) | exact b01 | exact Or.inl rfl | exact Or.inr rfl) only [e52_0, e52_1, e52_4, e52_5, e52_6, e52_7, e52_8, e52_9, e52_10, e52_11, e52_14, e52_15, e52_16, e52_19, e52_22, e52_23, e52_24, e52_27, e52_28, e52_31, e52_34, e52_35, ct_i, ct_r, ct_n, ct_h, opt_v, opt_s, ref_s, ref_n, eq_self_iff_true, true_or, or_true, zl0, zl1, zl2, zl3, zl4, zl5, zl6, zl7, zl8, zl9, zl10, zl16, zl32, zl40, zl100, zl160, zIc1, zI_lt, zI_le, nI_eq, nI_add, z_sub, nI_clamp, zI_of, uu_eq, uu_ne, Nat.reduceLT, Nat.reduceLeDiff, Nat.reduceEqDiff, Nat.reduceAdd, Nat.reduceSub, Nat.reduceMul, Nat.not_lt_zero, Nat.lt_irrefl, Nat.le_refl, Bool.false_eq_true, false_and, and_false, true_and, and_true, if_pos, if_neg, if_true, if_false, not_true_eq_false, not_false_eq_true]
  | succ e ih =>
    intro a m he ha hm
    have h0 : 0 < a := by
      cases a with
      | zero => rw [dep_0] at he; omega
      | succ a => omega
    have hs := dep_s hp h0 ha
    have hpa := hp a h0 ha
    have hle := dep_le hp k hk
    rw [e52_10, ← ih (qP q a) (m + 1) (by omega) (by omega) (by omega)]
    simp (disch := first | assumption | exact ct_i | exact ct_r | exact ct_n | exact ct_h | omega | exact z_in (by omega) (by omega) | exact b01 | exact Or.inl rfl | exact Or.inr rfl) only [e52_0, e52_1, e52_4, e52_5, e52_6, e52_7, e52_8, e52_9, e52_11, e52_14, e52_15, e52_16, e52_19, e52_22, e52_23, e52_24, e52_27, e52_28, e52_31, e52_34, e52_35, ct_i, ct_r, ct_n, ct_h, opt_v, opt_s, ref_s, ref_n, eq_self_iff_true, true_or, or_true, zl0, zl1, zl2, zl3, zl4, zl5, zl6, zl7, zl8, zl9, zl10, zl16, zl32, zl40, zl100, zl160, zIc1, zI_lt, zI_le, nI_eq, nI_add, z_sub, nI_clamp, zI_of, uu_eq, uu_ne, Nat.reduceLT, Nat.reduceLeDiff, Nat.reduceEqDiff, Nat.reduceAdd, Nat.reduceSub, Nat.reduceMul, Nat.not_lt_zero, Nat.lt_irrefl, Nat.le_refl, Bool.false_eq_true, false_and, and_false, true_and, and_true, if_pos, if_neg, if_true, if_false, not_true_eq_false, not_false_eq_true, h1, hq.1, k53 hd hK hq hB ha]
theorem k52 (hd : 2 ≤ d) (hK : cK nd sh R) {q : List (Nat × Nat)} (hq : qA q I) (hB : qB q) (hp : qPar q) {k : Nat} (hk : k < q.length) : aC d 52 [.ref 8, .int (nI k)] (n, t, sh, I, L, R) Q ↔ Q (some (.int (nI (dep q k)))) (n, t, sh, I, L, R) := by
  obtain ⟨d, rfl⟩ : ∃ e, d = e + 1 := ⟨d - 1, by omega⟩
  have b1 := hB.1
  rw [← k52l (Q := Q) (t := t) (n := n) (L := L) (z := nI k) (show 1 ≤ d by omega) hK hq hB hp hk (dep q k) k 0 rfl hk (by omega)]
  simp (disch := first | assumption | exact ct_i | exact ct_r | exact ct_n | exact ct_h | omega | exact z_in (by omega) (by omega) | exact b01 | exact Or.inl rfl | exact Or.inr rfl) only [b52, e52_0, e52_1, e52_4, e52_5, e52_6, e52_7, e52_8, e52_9, e52_11, e52_14, e52_15, e52_16, e52_19, e52_22, e52_23, e52_24, e52_27, e52_28, e52_31, e52_34, e52_35, ct_i, ct_r, ct_n, ct_h, opt_v, opt_s, ref_s, ref_n, eq_self_iff_true, true_or, or_true, zl0, zl1, zl2, zl3, zl4, zl5, zl6, zl7, zl8, zl9, zl10, zl16, zl32, zl40, zl100, zl160, zIc1, zI_lt, zI_le, nI_eq, nI_add, z_sub, nI_clamp, zI_of, uu_eq, uu_ne, Nat.reduceLT, Nat.reduceLeDiff, Nat.reduceEqDiff, Nat.reduceAdd, Nat.reduceSub, Nat.reduceMul, Nat.not_lt_zero, Nat.lt_irrefl, Nat.le_refl, Bool.false_eq_true, false_and, and_false, true_and, and_true, if_pos, if_neg, if_true, if_false, not_true_eq_false, not_false_eq_true]
theorem k52n (hd : 1 ≤ d) : aC d 52 [.ref 8, .int (-nI 1)] (n, t, sh, I, L, R) Q ↔ Q (some (.int (-nI 1))) (n, t, sh, I, L, R) := by
  obtain ⟨d, rfl⟩ : ∃ e, d = e + 1 := ⟨d - 1, by omega⟩
  have e : ¬ nI 0 ≤ -nI 1 := by decide
  simp (disch := first | assumption | exact ct_i | exact ct_r | exact ct_n | exact ct_h | omega | exact z_in (by omega) (by omega) | exact b01 | exact Or.inl rfl | exact Or.inr rfl) only [b52, e52_0, e52_1, e52_4, e52_5, e52_6, e52_7, e52_8, e52_9, e52_11, e52_14, e52_15, e52_16, e52_19, e52_22, e52_23, e52_24, e52_27, e52_28, e52_31, e52_34, e52_35, ct_i, ct_r, ct_n, ct_h, opt_v, opt_s, ref_s, ref_n, eq_self_iff_true, true_or, or_true, zl0, zl1, zl2, zl3, zl4, zl5, zl6, zl7, zl8, zl9, zl10, zl16, zl32, zl40, zl100, zl160, zIc1, zI_lt, zI_le, nI_eq, nI_add, z_sub, nI_clamp, zI_of, uu_eq, uu_ne, Nat.reduceLT, Nat.reduceLeDiff, Nat.reduceEqDiff, Nat.reduceAdd, Nat.reduceSub, Nat.reduceMul, Nat.not_lt_zero, Nat.lt_irrefl, Nat.le_refl, Bool.false_eq_true, false_and, and_false, true_and, and_true, if_pos, if_neg, if_true, if_false, not_true_eq_false, not_false_eq_true, e]
theorem k51 (hd : 3 ≤ d) (hK : cK nd sh R) {q : List (Nat × Nat)} (hq : qA q I) (hB : qB q) (hp : qPar q) (h0 : 0 < q.length) : aC d 51 [.ref 8] (n, t, sh, I, L, R) Q ↔ Q (some (.int (nI (dep q (q.length - 1))))) (n, t, sh, I, L, R) := by
  obtain ⟨d, rfl⟩ : ∃ e, d = e + 1 := ⟨d - 1, by omega⟩
  obtain ⟨h1, h2, h2', h3, h3', h4, h5⟩ := cPs hK
  have b1 := hB.1
  simp (disch := first | assumption | exact ct_i | exact ct_r | exact ct_n | exact ct_h | omega | exact z_in (by omega) (by omega) | exact b01 | exact Or.inl rfl | exact Or.inr rfl) only [b51, e51_0, e51_1, e51_2, e51_5, e51_6, e51_7, e51_10, ct_i, ct_r, ct_n, ct_h, opt_v, opt_s, ref_s, ref_n, eq_self_iff_true, true_or, or_true, zl0, zl1, zl2, zl3, zl4, zl5, zl6, zl7, zl8, zl9, zl10, zl16, zl32, zl40, zl100, zl160, zIc1, zI_lt, zI_le, nI_eq, nI_add, z_sub, nI_clamp, zI_of, uu_eq, uu_ne, Nat.reduceLT, Nat.reduceLeDiff, Nat.reduceEqDiff, Nat.reduceAdd, Nat.reduceSub, Nat.reduceMul, Nat.not_lt_zero, Nat.lt_irrefl, Nat.le_refl, Bool.false_eq_true, false_and, and_false, true_and, and_true, if_pos, if_neg, if_true, if_false, not_true_eq_false, not_false_eq_true, h1, hq.1, k52 (show 2 ≤ d by omega) hK hq hB hp (show q.length - 1 < q.length by omega)]
theorem k54l (hd : 5 ≤ d) (hK : cK nd sh R) (hI : hD nd D I) (hDB : dB nd D) (hM : mC nd D f L) {q : List (Nat × Nat)} (hq : qA q I) (hB : qB q) : ∀ m i, i + m = q.length →
    (aE (a_cl_ d) 54 (4, [.ref 8, .ref 1, .int (nI (lsc (bh nd D f) nd q i)), .int (nI i)], [], (n, t, sh, I, L, R)) Q ↔ Q (some (.int (nI (lsc (bh nd D f) nd q q.length)))) (n, t, sh, I, L, R)) := by
  obtain ⟨h1, h2, h2', h3, h3', h4, h5⟩ := cPs hK
  obtain ⟨c1, c2, c2', c3, c3', c4, c5, c6⟩ := cPh hK
  have b1 := hB.1
  intro m
  induction m with
  | zero =>
    intro i hi
    obtain rfl : i = q.length := by omega
    rw [e54_4]
    simp (disch := first | assumption | exact ct_i | exact ct_r | exact ct_n | exact ct_h | omega | exact z_in (by omega) (by omega) | exact b01 | exact Or.inl rfl | exact Or.inr rfl) only [e54_0, e54_1, e54_2, e54_3, e54_5, e54_6, e54_9, e54_12, e54_12n, e54_13, e54_14, e54_15, e54_18, e54_21, e54_24, e54_27, e54_30, e54_33, e54_34, ct_i, ct_r, ct_n, ct_h, opt_v, opt_s, ref_s, ref_n, eq_self_iff_true, true_or, or_true, zl0, zl1, zl2, zl3, zl4, zl5, zl6, zl7, zl8, zl9, zl10, zl16, zl32, zl40, zl100, zl160, zIc1, zI_lt, zI_le, nI_eq, nI_add, z_sub, nI_clamp, zI_of, uu_eq, uu_ne, Nat.reduceLT, Nat.reduceLeDiff, Nat.reduceEqDiff, Nat.reduceAdd, Nat.reduceSub, Nat.reduceMul, Nat.not_lt_zero, Nat.lt_irrefl, Nat.le_refl, Bool.false_eq_true, false_and, and_false, true_and, and_true, if_pos, if_neg, if_true, if_false, not_true_eq_false, not_false_eq_true, h1, hq.1]
  | succ m ih =>
    intro i hi
    rw [e54_4, ← ih (i + 1) (by omega)]
    have hs := hB.2.1 i (by omega)
    by_cases h0 : orF (fun j => (bh nd D f (qS q i) j).isSome) nd = nI 0
    · simp (disch := first | assumption | exact ct_i | exact ct_r | exact ct_n | exact ct_h | omega | exact z_in (by omega) (by omega) | exact b01 | exact Or.inl rfl | exact Or.inr rfl) only [e54_0, e54_1, e54_2, e54_3, e54_5, e54_6, e54_9, e54_12, e54_12n, e54_13, e54_14, e54_15, e54_18, e54_21, e54_24, e54_27, e54_30, e54_33, e54_34, ct_i, ct_r, ct_n, ct_h, opt_v, opt_s, ref_s, ref_n, eq_self_iff_true, true_or, or_true, zl0, zl1, zl2, zl3, zl4, zl5, zl6, zl7, zl8, zl9, zl10, zl16, zl32, zl40, zl100, zl160, zIc1, zI_lt, zI_le, nI_eq, nI_add, z_sub, nI_clamp, zI_of, uu_eq, uu_ne, Nat.reduceLT, Nat.reduceLeDiff, Nat.reduceEqDiff, Nat.reduceAdd, Nat.reduceSub, Nat.reduceMul, Nat.not_lt_zero, Nat.lt_irrefl, Nat.le_refl, Bool.false_eq_true, false_and, and_false, true_and, and_true, if_pos, if_neg, if_true, if_false, not_true_eq_false, not_false_eq_true, h1, c1, hq.1, k49 (show 1 ≤ d by omega) hK hq hB (show i < q.length by omega), k19 hd hK hI hDB hM hs, lsc, h0]
    · simp (disch := first | assumption | exact ct_i | exact ct_r | exact ct_n | exact ct_h | omega | exact z_in (by omega) (by omega) | exact b01 | exact Or.inl rfl | exact Or.inr rfl) only [e54_0, e54_1, e54_2, e54_3, e54_5, e54_6, e54_9, e54_12, e54_12n, e54_13, e54_14, e54_15, e54_18, e54_21, e54_24, e54_27, e54_30, e54_33, e54_34, ct_i, ct_r, ct_n, ct_h, opt_v, opt_s, ref_s, ref_n, eq_self_iff_true, true_or, or_true, zl0, zl1, zl2, zl3, zl4, zl5, zl6, zl7, zl8, zl9, zl10, zl16, zl32, zl40, zl100, zl160, zIc1, zI_lt, zI_le, nI_eq, nI_add, z_sub, nI_clamp, zI_of, uu_eq, uu_ne, Nat.reduceLT, Nat.reduceLeDiff, Nat.reduceEqDiff, Nat.reduceAdd, Nat.reduceSub, Nat.reduceMul, Nat.not_lt_zero, Nat.lt_irrefl, Nat.le_refl, Bool.false_eq_true, false_and, and_false, true_and, and_true, if_pos, if_neg, if_true, if_false, not_true_eq_false, not_false_eq_true, h1, c1, hq.1, k49 (show 1 ≤ d by omega) hK hq hB (show i < q.length by omega), k19 hd hK hI hDB hM hs, lsc, h0]
theorem k54 (hd : 6 ≤ d) (hK : cK nd sh R) (hI : hD nd D I) (hDB : dB nd D) (hM : mC nd D f L) {q : List (Nat × Nat)} (hq : qA q I) (hB : qB q) :
    aC d 54 [.ref 8, .ref 1] (n, t, sh, I, L, R) Q ↔ Q (some (.int (nI (lsc (bh nd D f) nd q q.length)))) (n, t, sh, I, L, R) := by
  obtain ⟨d, rfl⟩ : ∃ e, d = e + 1 := ⟨d - 1, by omega⟩
  rw [← k54l (Q := Q) (t := t) (n := n) (show 5 ≤ d by omega) hK hI hDB hM hq hB q.length 0 (by omega)]
  simp (disch := first | assumption | exact ct_i | exact ct_r | exact ct_n | exact ct_h | omega | exact z_in (by omega) (by omega) | exact b01 | exact Or.inl rfl | exact Or.inr rfl) only [b54, e54_0, e54_1, e54_2, e54_3, e54_5, e54_6, e54_9, e54_12, e54_12n, e54_13, e54_14, e54_15, e54_18, e54_21, e54_24, e54_27, e54_30, e54_33, e54_34, ct_i, ct_r, ct_n, ct_h, opt_v, opt_s, ref_s, ref_n, eq_self_iff_true, true_or, or_true, zl0, zl1, zl2, zl3, zl4, zl5, zl6, zl7, zl8, zl9, zl10, zl16, zl32, zl40, zl100, zl160, zIc1, zI_lt, zI_le, nI_eq, nI_add, z_sub, nI_clamp, zI_of, uu_eq, uu_ne, Nat.reduceLT, Nat.reduceLeDiff, Nat.reduceEqDiff, Nat.reduceAdd, Nat.reduceSub, Nat.reduceMul, Nat.not_lt_zero, Nat.lt_irrefl, Nat.le_refl, Bool.false_eq_true, false_and, and_false, true_and, and_true, if_pos, if_neg, if_true, if_false, not_true_eq_false, not_false_eq_true, lsc]
theorem k55l (hd : 1 ≤ d) (hK : cK nd sh R) {q : List (Nat × Nat)} (hq : qA q I) (hB : qB q) {r : Nat} (hr : r < 6) : ∀ m i, i + m = q.length → ffi (fun k => decide (rmo (qS q k) = r)) i = none →
    (aE (a_cl_ d) 55 (2, [.ref 8, .int (nI r), .int (nI i)], [], (n, t, sh, I, L, R)) Q ↔ Q (some (.int (oI (ffi (fun k => decide (rmo (qS q k) = r)) q.length)))) (n, t, sh, I, L, R)) := by
  obtain ⟨h1, h2, h2', h3, h3', h4, h5⟩ := cPs hK
  have b1 := hB.1
  intro m
  induction m with
  | zero =>
    intro i hi hn
    obtain rfl : i = q.length := by omega
    rw [e55_2]
    simp (disch := first | assumption | exact ct_i | exact ct_r | exact ct_n | exact ct_h | omega | exact z_in (by omega) (by omega) | exact b01 | exact Or.inl rfl | exact Or.inr rfl) only [e55_0, e55_1, e55_3, e55_4, e55_7, e55_10, e55_11, e55_12, e55_15, e55_18, e55_19, e55_22, e55_23, e55_24, e55_27, e55_30, e55_31, ct_i, ct_r, ct_n, ct_h, opt_v, opt_s, ref_s, ref_n, eq_self_iff_true, true_or, or_true, zl0, zl1, zl2, zl3, zl4, zl5, zl6, zl7, zl8, zl9, zl10, zl16, zl32, zl40, zl100, zl160, zIc1, zI_lt, zI_le, nI_eq, nI_add, z_sub, nI_clamp, zI_of, uu_eq, uu_ne, Nat.reduceLT, Nat.reduceLeDiff, Nat.reduceEqDiff, Nat.reduceAdd, Nat.reduceSub, Nat.reduceMul, Nat.not_lt_zero, Nat.lt_irrefl, Nat.le_refl, Bool.false_eq_true, false_and, and_false, true_and, and_true, if_pos, if_neg, if_true, if_false, not_true_eq_false, not_false_eq_true, h1, hq.1, hn, oI]
  | succ m ih =>
    intro i hi hn
    have hs := hB.2.1 i (by omega)
    have hrs := rmo_lt hs
    rw [e55_2]
    by_cases he : rmo (qS q i) = r
    · have hf := ffi_hit hn (decide_eq_true he) q.length (by omega)
      simp (disch := first | assumption | exact ct_i | exact ct_r | exact ct_n | exact ct_h | omega | exact z_in (by omega) (by omega) | exact b01 | exact Or.inl rfl | exact Or.inr rfl) only [e55_0, e55_1, e55_3, e55_4, e55_7, e55_10, e55_11, e55_12, e55_15, e55_18, e55_19, e55_22, e55_23, e55_24, e55_27, e55_30, e55_31, ct_i, ct_r, ct_n, ct_h, opt_v, opt_s, ref_s, ref_n, eq_self_iff_true, true_or, or_true, zl0, zl1, zl2, zl3, zl4, zl5, zl6, zl7, zl8, zl9, zl10, zl16, zl32, zl40, zl100, zl160, zIc1, zI_lt, zI_le, nI_eq, nI_add, z_sub, nI_clamp, zI_of, uu_eq, uu_ne, Nat.reduceLT, Nat.reduceLeDiff, Nat.reduceEqDiff, Nat.reduceAdd, Nat.reduceSub, Nat.reduceMul, Nat.not_lt_zero, Nat.lt_irrefl, Nat.le_refl, Bool.false_eq_true, false_and, and_false, true_and, and_true, if_pos, if_neg, if_true, if_false, not_true_eq_false, not_false_eq_true, h1, hq.1, k49 hd hK hq hB (show i < q.length by omega), k198 hd hs, he, hf, oI]
    · have hf : ffi (fun k => decide (rmo (qS q k) = r)) (i + 1) = none := by
        simp only [ffi, hn]
        exact if_neg (by rw [decide_eq_false he]; decide)
      rw [← ih (i + 1) (by omega) hf]
      simp (disch := first | assumption | exact ct_i | exact ct_r | exact ct_n | exact ct_h | omega | exact z_in (by omega) (by omega) | exact b01 | exact Or.inl rfl | exact Or.inr rfl) only [e55_0, e55_1, e55_3, e55_4, e55_7, e55_10, e55_11, e55_12, e55_15, e55_18, e55_19, e55_22, e55_23, e55_24, e55_27, e55_30, e55_31, ct_i, ct_r, ct_n, ct_h, opt_v, opt_s, ref_s, ref_n, eq_self_iff_true, true_or, or_true, zl0, zl1, zl2, zl3, zl4, zl5, zl6, zl7, zl8, zl9, zl10, zl16, zl32, zl40, zl100, zl160, zIc1, zI_lt, zI_le, nI_eq, nI_add, z_sub, nI_clamp, zI_of, uu_eq, uu_ne, Nat.reduceLT, Nat.reduceLeDiff, Nat.reduceEqDiff, Nat.reduceAdd, Nat.reduceSub, Nat.reduceMul, Nat.not_lt_zero, Nat.lt_irrefl, Nat.le_refl, Bool.false_eq_true, false_and, and_false, true_and, and_true, if_pos, if_neg, if_true, if_false, not_true_eq_false, not_false_eq_true, h1, hq.1, k49 hd hK hq hB (show i < q.length by omega), k198 hd hs, he]
theorem k55 (hd : 2 ≤ d) (hK : cK nd sh R) {q : List (Nat × Nat)} (hq : qA q I) (hB : qB q) {r : Nat} (hr : r < 6) : aC d 55 [.ref 8, .int (nI r)] (n, t, sh, I, L, R) Q ↔ Q (some (.int (oI (ffi (fun k => decide (rmo (qS q k) = r)) q.length)))) (n, t, sh, I, L, R) := by
  obtain ⟨d, rfl⟩ : ∃ e, d = e + 1 := ⟨d - 1, by omega⟩
  rw [← k55l (Q := Q) (t := t) (n := n) (L := L) (show 1 ≤ d by omega) hK hq hB hr q.length 0 (by omega) rfl]
  simp (disch := first | assumption | exact ct_i | exact ct_r | exact ct_n | exact ct_h | omega | exact z_in (by omega) (by omega) | exact b01 | exact Or.inl rfl | exact Or.inr rfl) only [b55, e55_0, e55_1, e55_3, e55_4, e55_7, e55_10, e55_11, e55_12, e55_15, e55_18, e55_19, e55_22, e55_23, e55_24, e55_27, e55_30, e55_31, ct_i, ct_r, ct_n, ct_h, opt_v, opt_s, ref_s, ref_n, eq_self_iff_true, true_or, or_true, zl0, zl1, zl2, zl3, zl4, zl5, zl6, zl7, zl8, zl9, zl10, zl16, zl32, zl40, zl100, zl160, zIc1, zI_lt, zI_le, nI_eq, nI_add, z_sub, nI_clamp, zI_of, uu_eq, uu_ne, Nat.reduceLT, Nat.reduceLeDiff, Nat.reduceEqDiff, Nat.reduceAdd, Nat.reduceSub, Nat.reduceMul, Nat.not_lt_zero, Nat.lt_irrefl, Nat.le_refl, Bool.false_eq_true, false_and, and_false, true_and, and_true, if_pos, if_neg, if_true, if_false, not_true_eq_false, not_false_eq_true]
end
