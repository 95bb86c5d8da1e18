/-! what the class asks of a search: the rooms cut off from one -/
def ldp (g : Nat → Nat → Option Nat) (p : Nat → Bool) (s d : Nat) : Bool := match g s d with
  | some y => p y
  | none => false
def lds (g : Nat → Nat → Option Nat) (nd r : Nat) (p : Nat → Bool) (s : Nat) : Bool := decide (rmo s = r) || (ffi (ldp g p s) nd).isSome
/-- a room can be come to from a situation by so many doors at most -/
def rch (g : Nat → Nat → Option Nat) (nd r : Nat) : Nat → Nat → Prop
  | 0, s => rmo s = r
  | n + 1, s => rmo s = r ∨ ∃ d y, d < nd ∧ g s d = some y ∧ rch g nd r n y
theorem lds_iff {g : Nat → Nat → Option Nat} {nd r : Nat} {p : Nat → Bool} {s : Nat} : lds g nd r p s = true ↔ rmo s = r ∨ ∃ d y, d < nd ∧ g s d = some y ∧ p y = true := by
  unfold lds
  rw [Bool.or_eq_true, decide_eq_true_eq]
  refine or_congr_right ?_
  constructor
  · intro h
    cases hf : ffi (ldp g p s) nd with
    | none => rw [hf] at h; cases h
    | some d =>
      obtain ⟨a, b, _⟩ := ffi_some hf
      unfold ldp at b
      cases hg : g s d with
      | none => rw [hg] at b; cases b
      | some y => rw [hg] at b; exact ⟨d, y, a, hg, b⟩
  · rintro ⟨d, y, hd, hg, hp⟩
    cases hf : ffi (ldp g p s) nd with
    | none =>
      have := ffi_none hf d hd
      unfold ldp at this
      rw [hg] at this
      simp only [] at this
      rw [hp] at this; cases this
    | some _ => rfl
def cntM (p : Nat → Bool) (q : List (Nat × Nat)) : Nat → Nat
  | 0 => 0
  | k + 1 => if p (qS q k) = true then cntM p q k + 1 else cntM p q k
theorem cntM_le {p : Nat → Bool} {q : List (Nat × Nat)} : ∀ k, cntM p q k ≤ k
  | 0 => Nat.le_refl 0
  | k + 1 => by
    have := cntM_le (p := p) (q := q) k
    simp only [cntM]; split <;> omega
theorem cntM_mono {p p' : Nat → Bool} {q : List (Nat × Nat)} (h : ∀ s, p s = true → p' s = true) : ∀ k, cntM p q k ≤ cntM p' q k
  | 0 => Nat.le_refl 0
  | k + 1 => by
    have := cntM_mono (q := q) h k
    simp only [cntM]
    by_cases h1 : p (qS q k) = true
    · rw [if_pos h1, if_pos (h _ h1)]; omega
    · rw [if_neg h1]; split <;> omega
theorem cntM_lt {p p' : Nat → Bool} {q : List (Nat × Nat)} (h : ∀ s, p s = true → p' s = true) {j : Nat} (h1 : p (qS q j) = false) (h2 : p' (qS q j) = true) : ∀ k, j < k → cntM p q k < cntM p' q k
  | k + 1, hk => by
    simp only [cntM]
    by_cases e : j = k
    · subst e
      have := cntM_mono (q := q) h j
      rw [if_neg (by rw [h1]; decide), if_pos h2]; omega
    · have := cntM_lt h h1 h2 k (by omega)
      by_cases h3 : p (qS q k) = true
      · rw [if_pos h3, if_pos (h _ h3)]; omega
      · rw [if_neg h3]; split <;> omega
def dI : Nat → Int32
  | 0 => -nI 1
  | k + 1 => nI k
theorem z_dI (k : Nat) : nI k + Int32.ofInt (-1) = dI k := by
  cases k with
  | zero => rfl
  | succ k => exact z_dec1
theorem z_dI1 (k : Nat) : nI k - nI 1 = dI k := by
  cases k with
  | zero => rfl
  | succ k => exact z_sub (by omega)
theorem dI_s (k : Nat) : dI (k + 1) = nI k := rfl
/-- the rooms of places from which the room can't be come to -/
noncomputable def cutF (g : Nat → Nat → Option Nat) (nd r : Nat) (q : List (Nat × Nat)) : Nat → Int32
  | 0 => nI 0
  | k + 1 => @ite Int32 (∃ m, rch g nd r m (qS q k)) (Classical.propDecidable _) (cutF g nd r q k) (cutF g nd r q k ||| (nI 1 <<< (nI (rmo (qS q k)) &&& 31)))
section
variable {d nd : Nat} {D : Nat → Nat → Nat} {f : Nat → List Nat} {n t : Nat} {sh : Nat → Nat × Nat} {I : Nat → Nat → Int32} {L : Nat → Nat → Int64} {R : Nat → Nat → Option Nat} {Q : Option Value → aH → Prop}
theorem k58l (hd : 4 ≤ d) (hK : cK nd sh R) (hI : hD nd D I) (hDB : dB nd D) {L0 : Nat → Nat → Int64} (hM : mC nd D f L) {p : Nat → Bool} (hp : mkd p L) {s r : Nat} (hs : s < 6144) : ∀ m i l5, i + m = nd → ffi (ldp (bh nd D f) p s) i = none →
    (aE (a_cl_ d) 58 (13, [.ref 8, .ref 1, .int (nI s), .int (nI r), .int (nI i), l5], [], (n, t, sh, I, L, R)) Q ↔ Q (some (.int (if (ffi (ldp (bh nd D f) p s) nd).isSome = true then nI 1 else nI 0))) (n, t, sh, I, L, R)) := by
  obtain ⟨h1, h2, h2', h3, h3', h4, h5⟩ := cPs hK
  obtain ⟨c1, c2, c2', c3, c3', c4, c5, c6⟩ := cPh hK
  intro m
  induction m with
  | zero =>
    intro i l5 hi hn
    obtain rfl : i = nd := by omega
    rw [e58_13]
    simp (disch := first | assumption | exact ct_i | exact ct_r | exact ct_n | exact ct_h | omega | exact z_in (by omega) (by omega) | exact b01 | exact Or.inl rfl | exact Or.inr rfl) only [e58_0, e58_1, e58_4, e58_5, e58_8, e58_9, e58_10, e58_11, e58_15, e58_15n, e58_16, e58_19, e58_22, e58_22n, e58_23, e58_24, e58_26, e58_29, e58_31, e58_33, e58_34, e58_37, e58_38, e58_40, e58_43, e58_46, e58_47, e58_48, e58_51, e58_54, e58_55, ct_i, ct_r, ct_n, ct_h, opt_v, opt_s, ref_s, ref_n, eq_self_iff_true, true_or, or_true, zl0, zl1, zl2, zl3, zl4, zl5, zl6, zl7, zl8, zl9, zl10, zl16, zl32, zl40, zl100, zl160, zIc1, zI_lt, zI_le, nI_eq, nI_add, z_sub, nI_clamp, zI_of, uu_eq, uu_ne, Nat.reduceLT, Nat.reduceLeDiff, Nat.reduceEqDiff, Nat.reduceAdd, Nat.reduceSub, Nat.reduceMul, Nat.not_lt_zero, Nat.lt_irrefl, Nat.le_refl, Bool.false_eq_true, false_and, and_false, true_and, and_true, if_pos, if_neg, if_true, if_false, not_true_eq_false, not_false_eq_true, c1, hI.1, hn, Option.isSome_none]
  | succ m ih =>
    intro i l5 hi hn
    rw [e58_13]
    cases hb : bh nd D f s i with
    | none =>
      have hf : ffi (ldp (bh nd D f) p s) (i + 1) = none := by
        simp only [ffi, hn, ldp, hb]; rfl
      rw [← ih (i + 1) (.int (-nI 1)) (by omega) hf]
      simp (disch := first | assumption | exact ct_i | exact ct_r | exact ct_n | exact ct_h | omega | exact z_in (by omega) (by omega) | exact b01 | exact Or.inl rfl | exact Or.inr rfl) only [e58_0, e58_1, e58_4, e58_5, e58_8, e58_9, e58_10, e58_11, e58_15, e58_15n, e58_16, e58_19, e58_22, e58_22n, e58_23, e58_24, e58_26, e58_29, e58_31, e58_33, e58_34, e58_37, e58_38, e58_40, e58_43, e58_46, e58_47, e58_48, e58_51, e58_54, e58_55, ct_i, ct_r, ct_n, ct_h, opt_v, opt_s, ref_s, ref_n, eq_self_iff_true, true_or, or_true, zl0, zl1, zl2, zl3, zl4, zl5, zl6, zl7, zl8, zl9, zl10, zl16, zl32, zl40, zl100, zl160, zIc1, zI_lt, zI_le, nI_eq, nI_add, z_sub, nI_clamp, zI_of, uu_eq, uu_ne, Nat.reduceLT, Nat.reduceLeDiff, Nat.reduceEqDiff, Nat.reduceAdd, Nat.reduceSub, Nat.reduceMul, Nat.not_lt_zero, Nat.lt_irrefl, Nat.le_refl, Bool.false_eq_true, false_and, and_false, true_and, and_true, if_pos, if_neg, if_true, if_false, not_true_eq_false, not_false_eq_true, c1, hI.1, k20 hd hK hI hDB hM hs (show i < nd by omega), hb, oI]
    | some y =>
      have hy := bh_lt hDB hb
      by_cases hpy : p y = true
      · have hf : ffi (ldp (bh nd D f) p s) nd = some i := ffi_hit hn (by simp only [ldp, hb]; exact hpy) nd (by omega)
        simp (disch := first | assumption | exact ct_i | exact ct_r | exact ct_n | exact ct_h | omega | exact z_in (by omega) (by omega) | exact b01 | exact Or.inl rfl | exact Or.inr rfl) only [e58_0, e58_1, e58_4, e58_5, e58_8, e58_9, e58_10, e58_11, e58_15, e58_15n, e58_16, e58_19, e58_22, e58_22n, e58_23, e58_24, e58_26, e58_29, e58_31, e58_33, e58_34, e58_37, e58_38, e58_40, e58_43, e58_46, e58_47, e58_48, e58_51, e58_54, e58_55, ct_i, ct_r, ct_n, ct_h, opt_v, opt_s, ref_s, ref_n, eq_self_iff_true, true_or, or_true, zl0, zl1, zl2, zl3, zl4, zl5, zl6, zl7, zl8, zl9, zl10, zl16, zl32, zl40, zl100, zl160, zIc1, zI_lt, zI_le, nI_eq, nI_add, z_sub, nI_clamp, zI_of, uu_eq, uu_ne, Nat.reduceLT, Nat.reduceLeDiff, Nat.reduceEqDiff, Nat.reduceAdd, Nat.reduceSub, Nat.reduceMul, Nat.not_lt_zero, Nat.lt_irrefl, Nat.le_refl, Bool.false_eq_true, false_and, and_false, true_and, and_true, if_pos, if_neg, if_true, if_false, not_true_eq_false, not_false_eq_true, c1, h1, hI.1, k20 hd hK hI hDB hM hs (show i < nd by omega), hb, oI, oI_ne hy, k47 (show 1 ≤ d by omega) hK hp hy, hpy, hf, Option.isSome_some]
      · have hf : ffi (ldp (bh nd D f) p s) (i + 1) = none := by
          simp only [ffi, hn, ldp, hb]; exact if_neg hpy
        rw [← ih (i + 1) (.int (nI y)) (by omega) hf]
        simp (disch := first | assumption | exact ct_i | exact ct_r | exact ct_n | exact ct_h | omega | exact z_in (by omega) (by omega) | exact b01 | exact Or.inl rfl | exact Or.inr rfl) only [e58_0, e58_1, e58_4, e58_5, e58_8, e58_9, e58_10, e58_11, e58_15, e58_15n, e58_16, e58_19, e58_22, e58_22n, e58_23, e58_24, e58_26, e58_29, e58_31, e58_33, e58_34, e58_37, e58_38, e58_40, e58_43, e58_46, e58_47, e58_48, e58_51, e58_54, e58_55, ct_i, ct_r, ct_n, ct_h, opt_v, opt_s, ref_s, ref_n, eq_self_iff_true, true_or, or_true, zl0, zl1, zl2, zl3, zl4, zl5, zl6, zl7, zl8, zl9, zl10, zl16, zl32, zl40, zl100, zl160, zIc1, zI_lt, zI_le, nI_eq, nI_add, z_sub, nI_clamp, zI_of, uu_eq, uu_ne, Nat.reduceLT, Nat.reduceLeDiff, Nat.reduceEqDiff, Nat.reduceAdd, Nat.reduceSub, Nat.reduceMul, Nat.not_lt_zero, Nat.lt_irrefl, Nat.le_refl, Bool.false_eq_true, false_and, and_false, true_and, and_true, if_pos, if_neg, if_true, if_false, not_true_eq_false, not_false_eq_true, c1, h1, hI.1, k20 hd hK hI hDB hM hs (show i < nd by omega), hb, oI, oI_ne hy, k47 (show 1 ≤ d by omega) hK hp hy, hpy]
theorem k58 (hd : 5 ≤ d) (hK : cK nd sh R) (hI : hD nd D I) (hDB : dB nd D) (hM : mC nd D f L) {p : Nat → Bool} (hp : mkd p L) {s r : Nat} (hs : s < 6144) (hr : r < 6) :
    aC d 58 [.ref 8, .ref 1, .int (nI s), .int (nI r)] (n, t, sh, I, L, R) Q ↔ Q (some (.int (if lds (bh nd D f) nd r p s = true then nI 1 else nI 0))) (n, t, sh, I, L, R) := by
  obtain ⟨d, rfl⟩ : ∃ e, d = e + 1 := ⟨d - 1, by omega⟩
  have hrs := rmo_lt hs
  by_cases he : rmo s = r
  · have hf : lds (bh nd D f) nd r p s = true := by unfold lds; rw [decide_eq_true he]; rfl
    simp (disch := first | assumption | exact ct_i | exact ct_r | exact ct_n | exact ct_h | omega | exact z_in (by omega) (by omega) | exact b01 | exact Or.inl rfl | exact Or.inr rfl) only [b58, e58_0, e58_1, e58_4, e58_5, e58_8, e58_9, e58_10, e58_11, e58_15, e58_15n, e58_16, e58_19, e58_22, e58_22n, e58_23, e58_24, e58_26, e58_29, e58_31, e58_33, e58_34, e58_37, e58_38, e58_40, e58_43, e58_46, e58_47, e58_48, e58_51, e58_54, e58_55, ct_i, ct_r, ct_n, ct_h, opt_v, opt_s, ref_s, ref_n, eq_self_iff_true, true_or, or_true, zl0, zl1, zl2, zl3, zl4, zl5, zl6, zl7, zl8, zl9, zl10, zl16, zl32, zl40, zl100, zl160, zIc1, zI_lt, zI_le, nI_eq, nI_add, z_sub, nI_clamp, zI_of, uu_eq, uu_ne, Nat.reduceLT, Nat.reduceLeDiff, Nat.reduceEqDiff, Nat.reduceAdd, Nat.reduceSub, Nat.reduceMul, Nat.not_lt_zero, Nat.lt_irrefl, Nat.le_refl, Bool.false_eq_true, false_and, and_false, true_and, and_true, if_pos, if_neg, if_true, if_false, not_true_eq_false, not_false_eq_true, k198 (show 1 ≤ d by omega) hs, he, hf]
  · have hf : lds (bh nd D f) nd r p s = (ffi (ldp (bh nd D f) p s) nd).isSome := by unfold lds; rw [decide_eq_false he]; rfl
    rw [hf, ← k58l (Q := Q) (t := t) (n := n) (r := r) (L0 := L) (show 4 ≤ d by omega) hK hI hDB hM hp hs nd 0 a_hole (by omega) rfl]
    simp (disch := first | assumption | exact ct_i | exact ct_r | exact ct_n | exact ct_h | omega | exact z_in (by omega) (by omega) | exact b01 | exact Or.inl rfl | exact Or.inr rfl) only [b58, e58_0, e58_1, e58_4, e58_5, e58_8, e58_9, e58_10, e58_11, e58_15, e58_15n, e58_16, e58_19, e58_22, e58_22n, e58_23, e58_24, e58_26, e58_29, e58_31, e58_33, e58_34, e58_37, e58_38, e58_40, e58_43, e58_46, e58_47, e58_48, e58_51, e58_54, e58_55, ct_i, ct_r, ct_n, ct_h, opt_v, opt_s, ref_s, ref_n, eq_self_iff_true, true_or, or_true, zl0, zl1, zl2, zl3, zl4, zl5, zl6, zl7, zl8, zl9, zl10, zl16, zl32, zl40, zl100, zl160, zIc1, zI_lt, zI_le, nI_eq, nI_add, z_sub, nI_clamp, zI_of, uu_eq, uu_ne, Nat.reduceLT, Nat.reduceLeDiff, Nat.reduceEqDiff, Nat.reduceAdd, Nat.reduceSub, Nat.reduceMul, Nat.not_lt_zero, Nat.lt_irrefl, Nat.le_refl, Bool.false_eq_true, false_and, and_false, true_and, and_true, if_pos, if_neg, if_true, if_false, not_true_eq_false, not_false_eq_true, k198 (show 1 ≤ d by omega) hs, he]
/-- one sweep from the last place down -/
theorem k57s (hd : 5 ≤ d) (hK : cK nd sh R) (hI : hD nd D I) (hDB : dB nd D) {L0 : Nat → Nat → Int64} (hM0 : mC nd D f L0) {q : List (Nat × Nat)} (hq : qA q I) (hB : qB q) {r w : Nat} (hr : r < 6) {p0 : Nat → Bool}
    (H : ∀ p b L l6, frSL L0 L → mkd p L → (∀ s, p s = true → ∃ m, rch (bh nd D f) nd r m s) → (∀ s, p0 s = true → p s = true) → (b = false → ∀ k, k < q.length → lds (bh nd D f) nd r p (qS q k) = true → p (qS q k) = true) → (b = true → cntM p0 q q.length < cntM p q q.length) →
      aE (a_cl_ d) 57 (86, [.ref 8, .ref 1, .int (nI r), .int (if b = true then nI 1 else nI 0), .int (nI w), .int (-nI 1), l6], [], (n, t, sh, I, L, R)) Q) :
    ∀ m p b L l6, m ≤ q.length → frSL L0 L → mkd p L → (∀ s, p s = true → ∃ m, rch (bh nd D f) nd r m s) → (∀ s, p0 s = true → p s = true) → (b = false → ∀ k, m ≤ k → k < q.length → lds (bh nd D f) nd r p (qS q k) = true → p (qS q k) = true) → (b = true → cntM p0 q q.length < cntM p q q.length) →
      aE (a_cl_ d) 57 (36, [.ref 8, .ref 1, .int (nI r), .int (if b = true then nI 1 else nI 0), .int (nI w), .int (dI m), l6], [], (n, t, sh, I, L, R)) Q := by
  obtain ⟨h1, h2, h2', h3, h3', h4, h5⟩ := cPs hK
  have b1 := hB.1
  intro m
  induction m with
  | zero =>
    intro p b L l6 hm hL hp hsd hpp hb0 hb1
    have e : -nI 1 < nI 0 := by decide
    rw [e57_36]
    simp (disch := first | assumption | exact ct_i | exact ct_r | exact ct_n | exact ct_h | omega | exact z_in (by omega) (by omega) | exact b01 | exact Or.inl rfl | exact Or.inr rfl) only [e57_0, e57_1, e57_4, e57_5, e57_8, e57_9, e57_10, e57_11, e57_13, e57_14, e57_17, e57_19, e57_20, e57_23, e57_26, e57_27, e57_28, e57_29, e57_32, e57_33, e57_34, e57_38, e57_41, e57_42, e57_44, e57_47, e57_49, e57_50, e57_52, e57_55, e57_58, e57_59, e57_59n, e57_60, e57_62, e57_63, e57_66, e57_69, e57_72, e57_73, e57_75, e57_78, e57_79, e57_80, e57_83, e57_89, e57_92, e57_93, e57_95, e57_96, e57_98, e57_100, e57_101, e57_104, e57_107, e57_108, e57_109, e57_111, e57_114, e57_117, e57_120, e57_122, e57_123, e57_124, e57_126, e57_129, e57_132, e57_133, e57_134, e57_136, e57_139, e57_142, e57_144, ct_i, ct_r, ct_n, ct_h, opt_v, opt_s, ref_s, ref_n, eq_self_iff_true, true_or, or_true, zl0, zl1, zl2, zl3, zl4, zl5, zl6, zl7, zl8, zl9, zl10, zl16, zl32, zl40, zl100, zl160, zIc1, zI_lt, zI_le, nI_eq, nI_add, z_sub, nI_clamp, zI_of, uu_eq, uu_ne, Nat.reduceLT, Nat.reduceLeDiff, Nat.reduceEqDiff, Nat.reduceAdd, Nat.reduceSub, Nat.reduceMul, Nat.not_lt_zero, Nat.lt_irrefl, Nat.le_refl, Bool.false_eq_true, false_and, and_false, true_and, and_true, if_pos, if_neg, if_true, if_false, not_true_eq_false, not_false_eq_true, dI, e]
    exact H p b L l6 hL hp hsd hpp (fun h k hk => hb0 h k (by omega) hk) hb1
  | succ m ih =>
    intro p b L l6 hm hL hp hsd hpp hb0 hb1
    have hs := hB.2.1 m (by omega)
    have hM := mC_frS hL hM0
    rw [e57_36]
    by_cases hpm : p (qS q m) = true
    · simp (disch := first | assumption | exact ct_i | exact ct_r | exact ct_n | exact ct_h | omega | exact z_in (by omega) (by omega) | exact b01 | exact Or.inl rfl | exact Or.inr rfl) only [e57_0, e57_1, e57_4, e57_5, e57_8, e57_9, e57_10, e57_11, e57_13, e57_14, e57_17, e57_19, e57_20, e57_23, e57_26, e57_27, e57_28, e57_29, e57_32, e57_33, e57_34, e57_38, e57_41, e57_42, e57_44, e57_47, e57_49, e57_50, e57_52, e57_55, e57_58, e57_59, e57_59n, e57_60, e57_62, e57_63, e57_66, e57_69, e57_72, e57_73, e57_75, e57_78, e57_79, e57_80, e57_83, e57_89, e57_92, e57_93, e57_95, e57_96, e57_98, e57_100, e57_101, e57_104, e57_107, e57_108, e57_109, e57_111, e57_114, e57_117, e57_120, e57_122, e57_123, e57_124, e57_126, e57_129, e57_132, e57_133, e57_134, e57_136, e57_139, e57_142, e57_144, ct_i, ct_r, ct_n, ct_h, opt_v, opt_s, ref_s, ref_n, eq_self_iff_true, true_or, or_true, zl0, zl1, zl2, zl3, zl4, zl5, zl6, zl7, zl8, zl9, zl10, zl16, zl32, zl40, zl100, zl160, zIc1, zI_lt, zI_le, nI_eq, nI_add, z_sub, nI_clamp, zI_of, uu_eq, uu_ne, Nat.reduceLT, Nat.reduceLeDiff, Nat.reduceEqDiff, Nat.reduceAdd, Nat.reduceSub, Nat.reduceMul, Nat.not_lt_zero, Nat.lt_irrefl, Nat.le_refl, Bool.false_eq_true, false_and, and_false, true_and, and_true, if_pos, if_neg, if_true, if_false, not_true_eq_false, not_false_eq_true, h1, dI_s, k49 (show 1 ≤ d by omega) hK hq hB (show m < q.length by omega), k47 (show 1 ≤ d by omega) hK hp hs, hpm, z_dI]
      refine ih p b L _ (by omega) hL hp hsd hpp (fun h k hk hkl hl => ?_) hb1
      by_cases hkm : k = m
      · subst hkm; exact hpm
      · exact hb0 h k (by omega) hkl hl
    · by_cases hl : lds (bh nd D f) nd r p (qS q m) = true
      · simp (disch := first | assumption | exact ct_i | exact ct_r | exact ct_n | exact ct_h | omega | exact z_in (by omega) (by omega) | exact b01 | exact Or.inl rfl | exact Or.inr rfl) only [e57_0, e57_1, e57_4, e57_5, e57_8, e57_9, e57_10, e57_11, e57_13, e57_14, e57_17, e57_19, e57_20, e57_23, e57_26, e57_27, e57_28, e57_29, e57_32, e57_33, e57_34, e57_38, e57_41, e57_42, e57_44, e57_47, e57_49, e57_50, e57_52, e57_55, e57_58, e57_59, e57_59n, e57_60, e57_62, e57_63, e57_66, e57_69, e57_72, e57_73, e57_75, e57_78, e57_79, e57_80, e57_83, e57_89, e57_92, e57_93, e57_95, e57_96, e57_98, e57_100, e57_101, e57_104, e57_107, e57_108, e57_109, e57_111, e57_114, e57_117, e57_120, e57_122, e57_123, e57_124, e57_126, e57_129, e57_132, e57_133, e57_134, e57_136, e57_139, e57_142, e57_144, ct_i, ct_r, ct_n, ct_h, opt_v, opt_s, ref_s, ref_n, eq_self_iff_true, true_or, or_true, zl0, zl1, zl2, zl3, zl4, zl5, zl6, zl7, zl8, zl9, zl10, zl16, zl32, zl40, zl100, zl160, zIc1, zI_lt, zI_le, nI_eq, nI_add, z_sub, nI_clamp, zI_of, uu_eq, uu_ne, Nat.reduceLT, Nat.reduceLeDiff, Nat.reduceEqDiff, Nat.reduceAdd, Nat.reduceSub, Nat.reduceMul, Nat.not_lt_zero, Nat.lt_irrefl, Nat.le_refl, Bool.false_eq_true, false_and, and_false, true_and, and_true, if_pos, if_neg, if_true, if_false, not_true_eq_false, not_false_eq_true, h1, dI_s, k49 (show 1 ≤ d by omega) hK hq hB (show m < q.length by omega), k47 (show 1 ≤ d by omega) hK hp hs, hpm, k58 hd hK hI hDB hM hp hs hr, hl, k48 (show 1 ≤ d by omega) hK hs, z_dI]
        have key := ih (fun x => p x || decide (x = qS q m)) true _ (.int (nI (qS q m))) (by omega) (fun x k hx => by rw [uu_ne _ _ _ _ (by omega)]; exact hL x k hx) (mkd_set hp hs) (fun s h => ?_) (fun s h => ?_) (fun h => by cases h) (fun _ => ?_)
        · exact key
        · rw [Bool.or_eq_true, decide_eq_true_eq] at h
          rcases h with h | h
          · exact hsd s h
          · subst h
            rcases lds_iff.mp hl with h | ⟨dd, y, a, hg, hpy⟩
            · exact ⟨0, h⟩
            · obtain ⟨mm, hmm⟩ := hsd y hpy
              exact ⟨mm + 1, Or.inr ⟨dd, y, a, hg, hmm⟩⟩
        · rw [Bool.or_eq_true]; exact Or.inl (hpp s h)
        · have h3 : cntM p q q.length < cntM (fun x => p x || decide (x = qS q m)) q q.length := cntM_lt (j := m) (fun s h => by rw [Bool.or_eq_true]; exact Or.inl h) ((Bool.not_eq_true _).mp hpm) (by simp) q.length (by omega)
          have h4 := cntM_mono (q := q) hpp q.length
          omega
      · simp (disch := first | assumption | exact ct_i | exact ct_r | exact ct_n | exact ct_h | omega | exact z_in (by omega) (by omega) | exact b01 | exact Or.inl rfl | exact Or.inr rfl) only [e57_0, e57_1, e57_4, e57_5, e57_8, e57_9, e57_10, e57_11, e57_13, e57_14, e57_17, e57_19, e57_20, e57_23, e57_26, e57_27, e57_28, e57_29, e57_32, e57_33, e57_34, e57_38, e57_41, e57_42, e57_44, e57_47, e57_49, e57_50, e57_52, e57_55, e57_58, e57_59, e57_59n, e57_60, e57_62, e57_63, e57_66, e57_69, e57_72, e57_73, e57_75, e57_78, e57_79, e57_80, e57_83, e57_89, e57_92, e57_93, e57_95, e57_96, e57_98, e57_100, e57_101, e57_104, e57_107, e57_108, e57_109, e57_111, e57_114, e57_117, e57_120, e57_122, e57_123, e57_124, e57_126, e57_129, e57_132, e57_133, e57_134, e57_136, e57_139, e57_142, e57_144, ct_i, ct_r, ct_n, ct_h, opt_v, opt_s, ref_s, ref_n, eq_self_iff_true, true_or, or_true, zl0, zl1, zl2, zl3, zl4, zl5, zl6, zl7, zl8, zl9, zl10, zl16, zl32, zl40, zl100, zl160, zIc1, zI_lt, zI_le, nI_eq, nI_add, z_sub, nI_clamp, zI_of, uu_eq, uu_ne, Nat.reduceLT, Nat.reduceLeDiff, Nat.reduceEqDiff, Nat.reduceAdd, Nat.reduceSub, Nat.reduceMul, Nat.not_lt_zero, Nat.lt_irrefl, Nat.le_refl, Bool.false_eq_true, false_and, and_false, true_and, and_true, if_pos, if_neg, if_true, if_false, not_true_eq_false, not_false_eq_true, h1, dI_s, k49 (show 1 ≤ d by omega) hK hq hB (show m < q.length by omega), k47 (show 1 ≤ d by omega) hK hp hs, hpm, k58 hd hK hI hDB hM hp hs hr, hl, z_dI]
        refine ih p b L _ (by omega) hL hp hsd hpp (fun h k hk hkl hl' => ?_) hb1
        by_cases hkm : k = m
        · subst hkm; exact absurd hl' hl
        · exact hb0 h k (by omega) hkl hl'
theorem rch_closed {g : Nat → Nat → Option Nat} {s0 r : Nat} {q : List (Nat × Nat)} (hqi : qI g nd s0 q q.length 0) {p : Nat → Bool} (hc : ∀ k, k < q.length → lds g nd r p (qS q k) = true → p (qS q k) = true) : ∀ m k, k < q.length → rch g nd r m (qS q k) → p (qS q k) = true
  | 0, k, hk, h => hc k hk (lds_iff.mpr (Or.inl h))
  | m + 1, k, hk, h => by
    rcases h with h | ⟨d, y, hd, hg, h⟩
    · exact hc k hk (lds_iff.mpr (Or.inl h))
    · obtain ⟨j, hj, hs, _⟩ := hqi.2.2.2.1 k d hk hd (Or.inl hk) y hg
      subst hs
      exact hc k hk (lds_iff.mpr (Or.inr ⟨d, _, hd, hg, rch_closed hqi hc m j hj h⟩))
theorem k57o (hd : 5 ≤ d) (hK : cK nd sh R) (hI : hD nd D I) (hDB : dB nd D) {L0 : Nat → Nat → Int64} (hM0 : mC nd D f L0) {q : List (Nat × Nat)} (hq : qA q I) (hB : qB q) {r : Nat} (hr : r < 6)
    (H : ∀ p L l3 l4 l5 l6, frSL L0 L → mkd p L → (∀ s, p s = true → ∃ m, rch (bh nd D f) nd r m s) → (∀ k, k < q.length → lds (bh nd D f) nd r p (qS q k) = true → p (qS q k) = true) →
      aE (a_cl_ d) 57 (92, [.ref 8, .ref 1, .int (nI r), .int l3, .int l4, l5, l6], [], (n, t, sh, I, L, R)) Q) :
    ∀ e w p b L l5 l6, w + e = q.length + 1 → frSL L0 L → mkd p L → (∀ s, p s = true → ∃ m, rch (bh nd D f) nd r m s) → (b = false → ∀ k, k < q.length → lds (bh nd D f) nd r p (qS q k) = true → p (qS q k) = true) → (b = true → w ≤ cntM p q q.length) →
      aE (a_cl_ d) 57 (13, [.ref 8, .ref 1, .int (nI r), .int (if b = true then nI 1 else nI 0), .int (nI w), l5, l6], [], (n, t, sh, I, L, R)) Q := by
  obtain ⟨h1, h2, h2', h3, h3', h4, h5⟩ := cPs hK
  have b1 := hB.1
  intro e
  induction e with
  | zero =>
    intro w p b L l5 l6 he hL hp hsd hb0 hb1
    have hle := cntM_le (p := p) (q := q) q.length
    cases b with
    | true => have := hb1 rfl; omega
    | false =>
      rw [e57_13]
      simp (disch := first | assumption | exact ct_i | exact ct_r | exact ct_n | exact ct_h | omega | exact z_in (by omega) (by omega) | exact b01 | exact Or.inl rfl | exact Or.inr rfl) only [e57_0, e57_1, e57_4, e57_5, e57_8, e57_9, e57_10, e57_11, e57_14, e57_17, e57_19, e57_20, e57_23, e57_26, e57_27, e57_28, e57_29, e57_32, e57_33, e57_34, e57_38, e57_41, e57_42, e57_44, e57_47, e57_49, e57_50, e57_52, e57_55, e57_58, e57_59, e57_59n, e57_60, e57_62, e57_63, e57_66, e57_69, e57_72, e57_73, e57_75, e57_78, e57_79, e57_80, e57_83, e57_86, e57_89, e57_93, e57_95, e57_96, e57_98, e57_100, e57_101, e57_104, e57_107, e57_108, e57_109, e57_111, e57_114, e57_117, e57_120, e57_122, e57_123, e57_124, e57_126, e57_129, e57_132, e57_133, e57_134, e57_136, e57_139, e57_142, e57_144, ct_i, ct_r, ct_n, ct_h, opt_v, opt_s, ref_s, ref_n, eq_self_iff_true, true_or, or_true, zl0, zl1, zl2, zl3, zl4, zl5, zl6, zl7, zl8, zl9, zl10, zl16, zl32, zl40, zl100, zl160, zIc1, zI_lt, zI_le, nI_eq, nI_add, z_sub, nI_clamp, zI_of, uu_eq, uu_ne, Nat.reduceLT, Nat.reduceLeDiff, Nat.reduceEqDiff, Nat.reduceAdd, Nat.reduceSub, Nat.reduceMul, Nat.not_lt_zero, Nat.lt_irrefl, Nat.le_refl, Bool.false_eq_true, false_and, and_false, true_and, and_true, if_pos, if_neg, if_true, if_false, not_true_eq_false, not_false_eq_true]
      exact H p L _ _ _ _ hL hp hsd (hb0 rfl)
  | succ e ih =>
    intro w p b L l5 l6 he hL hp hsd hb0 hb1
    cases b with
    | false =>
      rw [e57_13]
      simp (disch := first | assumption | exact ct_i | exact ct_r | exact ct_n | exact ct_h | omega | exact z_in (by omega) (by omega) | exact b01 | exact Or.inl rfl | exact Or.inr rfl) only [e57_0, e57_1, e57_4, e57_5, e57_8, e57_9, e57_10, e57_11, e57_14, e57_17, e57_19, e57_20, e57_23, e57_26, e57_27, e57_28, e57_29, e57_32, e57_33, e57_34, e57_38, e57_41, e57_42, e57_44, e57_47, e57_49, e57_50, e57_52, e57_55, e57_58, e57_59, e57_59n, e57_60, e57_62, e57_63, e57_66, e57_69, e57_72, e57_73, e57_75, e57_78, e57_79, e57_80, e57_83, e57_86, e57_89, e57_93, e57_95, e57_96, e57_98, e57_100, e57_101, e57_104, e57_107, e57_108, e57_109, e57_111, e57_114, e57_117, e57_120, e57_122, e57_123, e57_124, e57_126, e57_129, e57_132, e57_133, e57_134, e57_136, e57_139, e57_142, e57_144, ct_i, ct_r, ct_n, ct_h, opt_v, opt_s, ref_s, ref_n, eq_self_iff_true, true_or, or_true, zl0, zl1, zl2, zl3, zl4, zl5, zl6, zl7, zl8, zl9, zl10, zl16, zl32, zl40, zl100, zl160, zIc1, zI_lt, zI_le, nI_eq, nI_add, z_sub, nI_clamp, zI_of, uu_eq, uu_ne, Nat.reduceLT, Nat.reduceLeDiff, Nat.reduceEqDiff, Nat.reduceAdd, Nat.reduceSub, Nat.reduceMul, Nat.not_lt_zero, Nat.lt_irrefl, Nat.le_refl, Bool.false_eq_true, false_and, and_false, true_and, and_true, if_pos, if_neg, if_true, if_false, not_true_eq_false, not_false_eq_true]
      exact H p L _ _ _ _ hL hp hsd (hb0 rfl)
    | true =>
      rw [e57_13]
      simp (disch := first | assumption | exact ct_i | exact ct_r | exact ct_n | exact ct_h | omega | exact z_in (by omega) (by omega) | exact b01 | exact Or.inl rfl | exact Or.inr rfl) only [e57_0, e57_1, e57_4, e57_5, e57_8, e57_9, e57_10, e57_11, e57_14, e57_17, e57_19, e57_20, e57_23, e57_26, e57_27, e57_28, e57_29, e57_32, e57_33, e57_34, e57_38, e57_41, e57_42, e57_44, e57_47, e57_49, e57_50, e57_52, e57_55, e57_58, e57_59, e57_59n, e57_60, e57_62, e57_63, e57_66, e57_69, e57_72, e57_73, e57_75, e57_78, e57_79, e57_80, e57_83, e57_86, e57_89, e57_93, e57_95, e57_96, e57_98, e57_100, e57_101, e57_104, e57_107, e57_108, e57_109, e57_111, e57_114, e57_117, e57_120, e57_122, e57_123, e57_124, e57_126, e57_129, e57_132, e57_133, e57_134, e57_136, e57_139, e57_142, e57_144, ct_i, ct_r, ct_n, ct_h, opt_v, opt_s, ref_s, ref_n, eq_self_iff_true, true_or, or_true, zl0, zl1, zl2, zl3, zl4, zl5, zl6, zl7, zl8, zl9, zl10, zl16, zl32, zl40, zl100, zl160, zIc1, zI_lt, zI_le, nI_eq, nI_add, z_sub, nI_clamp, zI_of, uu_eq, uu_ne, Nat.reduceLT, Nat.reduceLeDiff, Nat.reduceEqDiff, Nat.reduceAdd, Nat.reduceSub, Nat.reduceMul, Nat.not_lt_zero, Nat.lt_irrefl, Nat.le_refl, Bool.false_eq_true, false_and, and_false, true_and, and_true, if_pos, if_neg, if_true, if_false, not_true_eq_false, not_false_eq_true, h1, hq.1, z_dI1]
      have key := k57s (n := n) (t := t) (Q := Q) (L0 := L0) (w := w) (p0 := p) hd hK hI hDB hM0 hq hB hr (fun p' b' L' l6' hL' hp' hsd' hpp' hb0' hb1' => ?_) q.length p false L l6 (Nat.le_refl _) hL hp hsd (fun s h => h) (fun _ k hk hkl => by omega) (fun h => by cases h)
      · exact key
      · rw [e57_86 ct_i, e57_89]
        simp only [zIc1, nI_add]
        exact ih (w + 1) p' b' L' _ _ (by omega) hL' hp' hsd' hb0' (fun h => by have := hb1 rfl; have := hb1' h; omega)
theorem k57f (hd : 1 ≤ d) (hK : cK nd sh R) {q : List (Nat × Nat)} (hq : qA q I) (hB : qB q) {r : Nat} {g : Nat → Nat → Option Nat} {p : Nat → Bool} (hp : mkd p L) (hpr : ∀ k, k < q.length → (p (qS q k) = true ↔ ∃ m, rch g nd r m (qS q k))) {l2 : Value} {l3 : Int32} {l6 : Value} : ∀ m i, i + m = q.length →
    (aE (a_cl_ d) 57 (98, [.ref 8, .ref 1, l2, .int l3, .int (cutF g nd r q i), .int (nI i), l6], [], (n, t, sh, I, L, R)) Q ↔ Q (some (.int (cutF g nd r q q.length))) (n, t, sh, I, L, R)) := by
  obtain ⟨h1, h2, h2', h3, h3', h4, h5⟩ := cPs hK
  have b1 := hB.1
  intro m
  induction m with
  | zero =>
    intro i hi
    obtain rfl : i = q.length := by omega
    rw [e57_98]
    simp (disch := first | assumption | exact ct_i | exact ct_r | exact ct_n | exact ct_h | omega | exact z_in (by omega) (by omega) | exact b01 | exact Or.inl rfl | exact Or.inr rfl) only [e57_0, e57_1, e57_4, e57_5, e57_8, e57_9, e57_10, e57_11, e57_13, e57_14, e57_17, e57_19, e57_20, e57_23, e57_26, e57_27, e57_28, e57_29, e57_32, e57_33, e57_34, e57_36, e57_38, e57_41, e57_42, e57_44, e57_47, e57_49, e57_50, e57_52, e57_55, e57_58, e57_59, e57_59n, e57_60, e57_62, e57_63, e57_66, e57_69, e57_72, e57_73, e57_75, e57_78, e57_79, e57_80, e57_83, e57_86, e57_89, e57_92, e57_93, e57_95, e57_96, e57_100, e57_101, e57_104, e57_107, e57_108, e57_109, e57_111, e57_114, e57_117, e57_120, e57_122, e57_123, e57_124, e57_126, e57_129, e57_132, e57_133, e57_134, e57_136, e57_139, e57_142, e57_144, ct_i, ct_r, ct_n, ct_h, opt_v, opt_s, ref_s, ref_n, eq_self_iff_true, true_or, or_true, zl0, zl1, zl2, zl3, zl4, zl5, zl6, zl7, zl8, zl9, zl10, zl16, zl32, zl40, zl100, zl160, zIc1, zI_lt, zI_le, nI_eq, nI_add, z_sub, nI_clamp, zI_of, uu_eq, uu_ne, Nat.reduceLT, Nat.reduceLeDiff, Nat.reduceEqDiff, Nat.reduceAdd, Nat.reduceSub, Nat.reduceMul, Nat.not_lt_zero, Nat.lt_irrefl, Nat.le_refl, Bool.false_eq_true, false_and, and_false, true_and, and_true, if_pos, if_neg, if_true, if_false, not_true_eq_false, not_false_eq_true, h1, hq.1]
  | succ m ih =>
    intro i hi
    have hs := hB.2.1 i (by omega)
    rw [e57_98, ← ih (i + 1) (by omega)]
    by_cases hm : p (qS q i) = true
    · have he : cutF g nd r q (i + 1) = cutF g nd r q i := by simp only [cutF]; exact if_pos ((hpr i (by omega)).mp hm)
      simp (disch := first | assumption | exact ct_i | exact ct_r | exact ct_n | exact ct_h | omega | exact z_in (by omega) (by omega) | exact b01 | exact Or.inl rfl | exact Or.inr rfl) only [e57_0, e57_1, e57_4, e57_5, e57_8, e57_9, e57_10, e57_11, e57_13, e57_14, e57_17, e57_19, e57_20, e57_23, e57_26, e57_27, e57_28, e57_29, e57_32, e57_33, e57_34, e57_36, e57_38, e57_41, e57_42, e57_44, e57_47, e57_49, e57_50, e57_52, e57_55, e57_58, e57_59, e57_59n, e57_60, e57_62, e57_63, e57_66, e57_69, e57_72, e57_73, e57_75, e57_78, e57_79, e57_80, e57_83, e57_86, e57_89, e57_92, e57_93, e57_95, e57_96, e57_100, e57_101, e57_104, e57_107, e57_108, e57_109, e57_111, e57_114, e57_117, e57_120, e57_122, e57_123, e57_124, e57_126, e57_129, e57_132, e57_133, e57_134, e57_136, e57_139, e57_142, e57_144, ct_i, ct_r, ct_n, ct_h, opt_v, opt_s, ref_s, ref_n, eq_self_iff_true, true_or, or_true, zl0, zl1, zl2, zl3, zl4, zl5, zl6, zl7, zl8, zl9, zl10, zl16, zl32, zl40, zl100, zl160, zIc1, zI_lt, zI_le, nI_eq, nI_add, z_sub, nI_clamp, zI_of, uu_eq, uu_ne, Nat.reduceLT, Nat.reduceLeDiff, Nat.reduceEqDiff, Nat.reduceAdd, Nat.reduceSub, Nat.reduceMul, Nat.not_lt_zero, Nat.lt_irrefl, Nat.le_refl, Bool.false_eq_true, false_and, and_false, true_and, and_true, if_pos, if_neg, if_true, if_false, not_true_eq_false, not_false_eq_true, h1, hq.1, k49 hd hK hq hB (show i < q.length by omega), k47 hd hK hp hs, hm, he]
    · have he : cutF g nd r q (i + 1) = cutF g nd r q i ||| (nI 1 <<< (nI (rmo (qS q i)) &&& 31)) := by simp only [cutF]; exact if_neg (fun h => hm ((hpr i (by omega)).mpr h))
      simp (disch := first | assumption | exact ct_i | exact ct_r | exact ct_n | exact ct_h | omega | exact z_in (by omega) (by omega) | exact b01 | exact Or.inl rfl | exact Or.inr rfl) only [e57_0, e57_1, e57_4, e57_5, e57_8, e57_9, e57_10, e57_11, e57_13, e57_14, e57_17, e57_19, e57_20, e57_23, e57_26, e57_27, e57_28, e57_29, e57_32, e57_33, e57_34, e57_36, e57_38, e57_41, e57_42, e57_44, e57_47, e57_49, e57_50, e57_52, e57_55, e57_58, e57_59, e57_59n, e57_60, e57_62, e57_63, e57_66, e57_69, e57_72, e57_73, e57_75, e57_78, e57_79, e57_80, e57_83, e57_86, e57_89, e57_92, e57_93, e57_95, e57_96, e57_100, e57_101, e57_104, e57_107, e57_108, e57_109, e57_111, e57_114, e57_117, e57_120, e57_122, e57_123, e57_124, e57_126, e57_129, e57_132, e57_133, e57_134, e57_136, e57_139, e57_142, e57_144, ct_i, ct_r, ct_n, ct_h, opt_v, opt_s, ref_s, ref_n, eq_self_iff_true, true_or, or_true, zl0, zl1, zl2, zl3, zl4, zl5, zl6, zl7, zl8, zl9, zl10, zl16, zl32, zl40, zl100, zl160, zIc1, zI_lt, zI_le, nI_eq, nI_add, z_sub, nI_clamp, zI_of, uu_eq, uu_ne, Nat.reduceLT, Nat.reduceLeDiff, Nat.reduceEqDiff, Nat.reduceAdd, Nat.reduceSub, Nat.reduceMul, Nat.not_lt_zero, Nat.lt_irrefl, Nat.le_refl, Bool.false_eq_true, false_and, and_false, true_and, and_true, if_pos, if_neg, if_true, if_false, not_true_eq_false, not_false_eq_true, h1, hq.1, k49 hd hK hq hB (show i < q.length by omega), k47 hd hK hp hs, hm, he, k198 hd hs]
theorem k57 (hd : 6 ≤ d) (hK : cK nd sh R) (hI : hD nd D I) (hDB : dB nd D) (hM : mC nd D f L) {q : List (Nat × Nat)} {s0 : Nat} (hqi : qI (bh nd D f) nd s0 q q.length 0) (hq : qA q I) {r : Nat} (hr : r < 6)
    (H : ∀ L', frSL L L' → Q (some (.int (cutF (bh nd D f) nd r q q.length))) (n, t, sh, I, L', R)) : aC d 57 [.ref 8, .ref 1, .int (nI r)] (n, t, sh, I, L, R) Q := by
  obtain ⟨d, rfl⟩ : ∃ e, d = e + 1 := ⟨d - 1, by omega⟩
  obtain ⟨h1, h2, h2', h3, h3', h4, h5⟩ := cPs hK
  have hB := qB_of hqi
  simp (disch := first | assumption | exact ct_i | exact ct_r | exact ct_n | exact ct_h | omega | exact z_in (by omega) (by omega) | exact b01 | exact Or.inl rfl | exact Or.inr rfl) only [b57, e57_0, e57_1, e57_4, e57_5, e57_8, e57_9, e57_10, e57_11, e57_14, e57_17, e57_19, e57_20, e57_23, e57_26, e57_27, e57_28, e57_29, e57_32, e57_33, e57_34, e57_38, e57_41, e57_42, e57_44, e57_47, e57_49, e57_50, e57_52, e57_55, e57_58, e57_59, e57_59n, e57_60, e57_62, e57_63, e57_66, e57_69, e57_72, e57_73, e57_75, e57_78, e57_79, e57_80, e57_83, e57_86, e57_89, e57_93, e57_95, e57_96, e57_100, e57_101, e57_104, e57_107, e57_108, e57_109, e57_111, e57_114, e57_117, e57_120, e57_122, e57_123, e57_124, e57_126, e57_129, e57_132, e57_133, e57_134, e57_136, e57_139, e57_142, e57_144, ct_i, ct_r, ct_n, ct_h, opt_v, opt_s, ref_s, ref_n, eq_self_iff_true, true_or, or_true, zl0, zl1, zl2, zl3, zl4, zl5, zl6, zl7, zl8, zl9, zl10, zl16, zl32, zl40, zl100, zl160, zIc1, zI_lt, zI_le, nI_eq, nI_add, z_sub, nI_clamp, zI_of, uu_eq, uu_ne, Nat.reduceLT, Nat.reduceLeDiff, Nat.reduceEqDiff, Nat.reduceAdd, Nat.reduceSub, Nat.reduceMul, Nat.not_lt_zero, Nat.lt_irrefl, Nat.le_refl, Bool.false_eq_true, false_and, and_false, true_and, and_true, if_pos, if_neg, if_true, if_false, not_true_eq_false, not_false_eq_true, h1, h5, k216 (show 1 ≤ d by omega) h3 h3']
  refine k57o (L0 := L) (by omega) hK hI hDB hM hq hB hr (fun p L' l3 l4 l5 l6 hL' hp' hsd hc => ?_) (q.length + 1) 0 (fun _ => false) true _ _ _ (by omega) (fun x k hx => if_neg (by omega)) mkd_0 (fun s h => by cases h) (fun h => by cases h) (fun _ => Nat.zero_le _)
  rw [e57_92]
  simp (disch := first | assumption | exact ct_i | exact ct_r | exact ct_n | exact ct_h | omega | exact z_in (by omega) (by omega) | exact b01 | exact Or.inl rfl | exact Or.inr rfl) only [e57_0, e57_1, e57_4, e57_5, e57_8, e57_9, e57_10, e57_11, e57_14, e57_17, e57_19, e57_20, e57_23, e57_26, e57_27, e57_28, e57_29, e57_32, e57_33, e57_34, e57_38, e57_41, e57_42, e57_44, e57_47, e57_49, e57_50, e57_52, e57_55, e57_58, e57_59, e57_59n, e57_60, e57_62, e57_63, e57_66, e57_69, e57_72, e57_73, e57_75, e57_78, e57_79, e57_80, e57_83, e57_86, e57_89, e57_93, e57_95, e57_96, e57_100, e57_101, e57_104, e57_107, e57_108, e57_109, e57_111, e57_114, e57_117, e57_120, e57_122, e57_123, e57_124, e57_126, e57_129, e57_132, e57_133, e57_134, e57_136, e57_139, e57_142, e57_144, ct_i, ct_r, ct_n, ct_h, opt_v, opt_s, ref_s, ref_n, eq_self_iff_true, true_or, or_true, zl0, zl1, zl2, zl3, zl4, zl5, zl6, zl7, zl8, zl9, zl10, zl16, zl32, zl40, zl100, zl160, zIc1, zI_lt, zI_le, nI_eq, nI_add, z_sub, nI_clamp, zI_of, uu_eq, uu_ne, Nat.reduceLT, Nat.reduceLeDiff, Nat.reduceEqDiff, Nat.reduceAdd, Nat.reduceSub, Nat.reduceMul, Nat.not_lt_zero, Nat.lt_irrefl, Nat.le_refl, Bool.false_eq_true, false_and, and_false, true_and, and_true, if_pos, if_neg, if_true, if_false, not_true_eq_false, not_false_eq_true]
  exact (k57f (nd := nd) (show 1 ≤ d by omega) hK hq hB hp' (fun k hk => ⟨hsd _, fun ⟨m, hm⟩ => rch_closed hqi hc m k hk hm⟩) q.length 0 (by omega)).mpr (H L' hL')
end
