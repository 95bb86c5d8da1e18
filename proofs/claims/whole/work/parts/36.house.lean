/-! the class's house -/
section
variable {nd : Nat} {sh : Nat → Nat × Nat} {R : Nat → Nat → Option Nat}
theorem cPh (h : cK nd sh R) : (sh 1).1 = 1 ∧ (sh 2).1 = 110 ∧ (sh 2).2 = 4 ∧ (sh 3).1 = 100 ∧ (sh 3).2 = 6 ∧ R 1 2 = some 2 ∧ R 1 3 = some 3 ∧ nd ≤ 4 := by
  rw [c_s1 h, c_s2 h, c_s3 h]
  exact ⟨rfl, rfl, rfl, rfl, rfl, c_r1_2 h, c_r1_3 h, c_nd h⟩
theorem cPd (h : cK nd sh R) {i : Nat} (hi : i < nd) : (sh (47 + i)).1 = 0 ∧ R 2 i = some (47 + i) := by
  rw [c_sD h hi]
  exact ⟨rfl, c_rD h hi⟩
theorem cPt (h : cK nd sh R) {r : Nat} (hr : r < 6) : tK (23 + 4 * r) (24 + 4 * r) (25 + 4 * r) (26 + 4 * r) sh R := by
  rcases (show r = 0 ∨ r = 1 ∨ r = 2 ∨ r = 3 ∨ r = 4 ∨ r = 5 by omega) with rfl | rfl | rfl | rfl | rfl | rfl
  · simp only [tK, Nat.reduceMul, Nat.reduceAdd, c_s23 h, c_s24 h, c_s25 h, c_s26 h, c_r23_0 h, c_r23_1 h, c_r23_2 h]; decide
  · simp only [tK, Nat.reduceMul, Nat.reduceAdd, c_s27 h, c_s28 h, c_s29 h, c_s30 h, c_r27_0 h, c_r27_1 h, c_r27_2 h]; decide
  · simp only [tK, Nat.reduceMul, Nat.reduceAdd, c_s31 h, c_s32 h, c_s33 h, c_s34 h, c_r31_0 h, c_r31_1 h, c_r31_2 h]; decide
  · simp only [tK, Nat.reduceMul, Nat.reduceAdd, c_s35 h, c_s36 h, c_s37 h, c_s38 h, c_r35_0 h, c_r35_1 h, c_r35_2 h]; decide
  · simp only [tK, Nat.reduceMul, Nat.reduceAdd, c_s39 h, c_s40 h, c_s41 h, c_s42 h, c_r39_0 h, c_r39_1 h, c_r39_2 h]; decide
  · simp only [tK, Nat.reduceMul, Nat.reduceAdd, c_s43 h, c_s44 h, c_s45 h, c_s46 h, c_r43_0 h, c_r43_1 h, c_r43_2 h]; decide
end
/-- the doors' numbers: of door i the rooms (0, 1), the key (2), the number (3), the kind (4) -/
def dB (nd : Nat) (D : Nat → Nat → Nat) : Prop := ∀ i, i < nd → D i 0 < 6 ∧ D i 1 < 6 ∧ D i 2 < 4 ∧ D i 3 < 10 ∧ D i 4 < 6
def hD (nd : Nat) (D : Nat → Nat → Nat) (I : Nat → Nat → Int32) : Prop := I 1 1 = nI nd ∧ ∀ i, i < nd → ∀ k, k < 5 → I (47 + i) k = nI (D i k)
/-- a text's parts; the values of names; what a part comes to -/
def nmv (i st tn rm ks ot : Nat) : Nat → Int32
  | 0 => nI i | 1 => nI st | 2 => nI tn | 3 => nI rm | 4 => nI ks | _ => nI ot
def tval (f : Nat → List Nat) (p : Nat) (nm : Nat → Int32) : Int32 := (evs nm (f p) []).headD 0
def bey (D : Nat → Nat → Nat) (i rm : Nat) : Nat := if rm = D i 0 then D i 1 else D i 0
def opn (f : Nat → List Nat) (D : Nat → Nat → Nat) (i st tn ks rm : Nat) : Bool := opk (D i 4) st tn ks (D i 3) && decide (tval f 0 (nmv i st tn rm ks (bey D i rm)) = 0)
def mC (nd : Nat) (D : Nat → Nat → Nat) (f : Nat → List Nat) (L : Nat → Nat → Int64) : Prop := ∀ i, i < nd → ∀ st, st < 4 → ∀ tn, tn < 4 → ∀ ks, ks < 4 →
  bitL (L (47 + i) 5) (st * 16 + tn * 4 + ks) = opn f D i st tn ks (D i 0) ∧ bitL (L (47 + i) 6) (st * 16 + tn * 4 + ks) = opn f D i st tn ks (D i 1)
def kst (nd : Nat) (D : Nat → Nat → Nat) (s i : Nat) : Nat := if D i 2 < nd then stt s (D i 2) else 0
def opS (nd : Nat) (D : Nat → Nat → Nat) (f : Nat → List Nat) (s i : Nat) : Bool := opn f D i (stt s i) (tno s) (kst nd D s i) (rmo s)
def aft (D : Nat → Nat → Nat) (s i : Nat) : Nat := wrm (wtn (wst s i (nxt (D i 4) (stt s i))) ((tno s + 1) % 4)) (bey D i (rmo s))
def bh (nd : Nat) (D : Nat → Nat → Nat) (f : Nat → List Nat) (s i : Nat) : Option Nat := if i < nd ∧ (rmo s = D i 0 ∨ rmo s = D i 1) ∧ opS nd D f s i = true then some (aft D s i) else none
def oI : Option Nat → Int32
  | some s => nI s
  | none => -nI 1
theorem stt_lt {s d : Nat} : stt s d < 4 := Nat.mod_lt _ (by decide)
theorem tno_lt {s : Nat} : tno s < 4 := Nat.mod_lt _ (by decide)
theorem rmo_lt {s : Nat} (h : s < 6144) : rmo s < 6 := by unfold rmo; omega
theorem kst_lt {nd : Nat} {D : Nat → Nat → Nat} {s i : Nat} : kst nd D s i < 4 := by
  unfold kst; split
  · exact stt_lt
  · decide
theorem bey_lt {nd : Nat} {D : Nat → Nat → Nat} (h : dB nd D) {i rm : Nat} (hi : i < nd) : bey D i rm < 6 := by
  have := h i hi
  unfold bey; split <;> omega
theorem wst_lt {s d v : Nat} (hs : s < 6144) (hd : d < 4) (hv : v < 4) : wst s d v < 6144 := by
  unfold wst stt
  rcases (show d = 0 ∨ d = 1 ∨ d = 2 ∨ d = 3 by omega) with rfl | rfl | rfl | rfl <;> simp <;> omega
theorem wtn_lt {s v : Nat} (hs : s < 6144) (hv : v < 4) : wtn s v < 6144 := by unfold wtn; omega
theorem wrm_lt {s r : Nat} (hr : r < 6) : wrm s r < 6144 := by unfold wrm; omega
theorem aft_lt {nd : Nat} {D : Nat → Nat → Nat} (h : dB nd D) {s i : Nat} (hi : i < nd) : aft D s i < 6144 := wrm_lt (bey_lt h hi)
section
variable {d nd : Nat} {D : Nat → Nat → Nat} {f : Nat → List Nat} {n t : Nat} {sh : Nat → Nat × Nat} {I : Nat → Nat → Int32} {L : Nat → Nat → Int64} {R : Nat → Nat → Option Nat} {I' : Nat → Nat → Int32} {Q : Option Value → aH → Prop}
theorem k11 (hd : 1 ≤ d) (hK : cK nd sh R) (hI : hD nd D I) {i : Nat} (hi : i < nd) : aC d 11 [.ref 1, .int (nI i)] (n, t, sh, I, L, R) Q ↔ Q (some (.ref (47 + i))) (n, t, sh, I, L, R) := by
  obtain ⟨d, rfl⟩ : ∃ e, d = e + 1 := ⟨d - 1, by omega⟩
  obtain ⟨h1, h2, h2', h3, h3', h4, h5, h6⟩ := cPh hK
  simp (disch := first | assumption | exact ct_i | exact ct_r | exact ct_n | exact ct_h | omega | exact z_in (by omega) (by omega) | exact b01 | exact Or.inl rfl | exact Or.inr rfl) only [b11, e11_0, e11_1, e11_4, e11_5, e11_6, e11_9, e11_12, e11_13, e11_14, e11_17, e11_18, e11_21, e11_22, e11_23, e11_26, e11_27, e11_27n, ct_i, ct_r, ct_n, ct_h, opt_v, opt_s, ref_s, ref_n, eq_self_iff_true, true_or, or_true, zl0, zl1, zl2, zl3, zl4, zl5, zl6, zl7, zl8, zl9, zl10, zl16, zl32, zl40, zl100, zl160, zIc1, zI_lt, zI_le, nI_eq, nI_add, z_sub, nI_clamp, zI_of, uu_eq, uu_ne, Nat.reduceLT, Nat.reduceLeDiff, Nat.reduceEqDiff, Nat.reduceAdd, Nat.reduceSub, Nat.reduceMul, Nat.not_lt_zero, Nat.lt_irrefl, Nat.le_refl, Bool.false_eq_true, false_and, and_false, true_and, and_true, if_pos, if_neg, if_true, if_false, not_true_eq_false, not_false_eq_true, h1, hI.1, h4, h2, h2', (cPd hK hi).2]
theorem k11n (hd : 1 ≤ d) (hK : cK nd sh R) (hI : hD nd D I) {x : Int32} (hx : x < nI 0 ∨ nI nd ≤ x) : aC d 11 [.ref 1, .int x] (n, t, sh, I, L, R) Q ↔ Q (some .null) (n, t, sh, I, L, R) := by
  obtain ⟨d, rfl⟩ : ∃ e, d = e + 1 := ⟨d - 1, by omega⟩
  obtain ⟨h1, h2, h2', h3, h3', h4, h5, h6⟩ := cPh hK
  simp (disch := assumption) only [b11, e11_0, e11_1, e11_4, e11_5, e11_6, e11_9, e11_12, e11_13, e11_14, e11_17, e11_18, e11_21, e11_22, e11_23, e11_26, e11_27, e11_27n, ct_i, ct_r, ct_n, ct_h, opt_v, opt_s, ref_s, ref_n, eq_self_iff_true, true_or, or_true, h1, hI.1, zl0]
  rcases hx with hx | hx
  · rw [if_pos hx]
  · rw [if_pos hx, ite_self]
theorem k14 (hd : 1 ≤ d) (hK : cK nd sh R) {rc i : Nat} (hc : I 1 0 = nI rc) (hr : rc ≤ 6) (hi : i < rc) : aC d 14 [.ref 1, .int (nI i)] (n, t, sh, I, L, R) Q ↔ Q (some (.int (nI 1))) (n, t, sh, I, L, R) := by
  obtain ⟨d, rfl⟩ : ∃ e, d = e + 1 := ⟨d - 1, by omega⟩
  obtain ⟨h1, h2, h2', h3, h3', h4, h5, h6⟩ := cPh hK
  simp (disch := first | assumption | exact ct_i | exact ct_r | exact ct_n | exact ct_h | omega | exact z_in (by omega) (by omega) | exact b01 | exact Or.inl rfl | exact Or.inr rfl) only [b14, e14_0, e14_1, e14_4, e14_5, e14_6, e14_9, e14_12, e14_13, e14_16, e14_17, ct_i, ct_r, ct_n, ct_h, opt_v, opt_s, ref_s, ref_n, eq_self_iff_true, true_or, or_true, zl0, zl1, zl2, zl3, zl4, zl5, zl6, zl7, zl8, zl9, zl10, zl16, zl32, zl40, zl100, zl160, zIc1, zI_lt, zI_le, nI_eq, nI_add, z_sub, nI_clamp, zI_of, uu_eq, uu_ne, Nat.reduceLT, Nat.reduceLeDiff, Nat.reduceEqDiff, Nat.reduceAdd, Nat.reduceSub, Nat.reduceMul, Nat.not_lt_zero, Nat.lt_irrefl, Nat.le_refl, Bool.false_eq_true, false_and, and_false, true_and, and_true, if_pos, if_neg, if_true, if_false, not_true_eq_false, not_false_eq_true, h1, hc]
theorem k14n (hd : 1 ≤ d) (hK : cK nd sh R) {rc : Nat} (hc : I 1 0 = nI rc) (hr : rc ≤ 6) {x : Int32} (hx : x < nI 0 ∨ nI rc ≤ x) : aC d 14 [.ref 1, .int x] (n, t, sh, I, L, R) Q ↔ Q (some (.int (nI 0))) (n, t, sh, I, L, R) := by
  obtain ⟨d, rfl⟩ : ∃ e, d = e + 1 := ⟨d - 1, by omega⟩
  obtain ⟨h1, h2, h2', h3, h3', h4, h5, h6⟩ := cPh hK
  have e : ∀ {α : Prop}, (if x < nI 0 then α else if nI rc ≤ x then α else Q (some (.int (nI 1))) (n, t, sh, I, L, R)) ↔ α := by
    intro α
    rcases hx with hx | hx
    · rw [if_pos hx]
    · rw [if_pos hx, ite_self]
  simp (disch := first | assumption | exact ct_i | exact ct_r | exact ct_n | exact ct_h | omega | exact z_in (by omega) (by omega) | exact b01 | exact Or.inl rfl | exact Or.inr rfl) only [b14, e14_0, e14_1, e14_4, e14_5, e14_6, e14_9, e14_12, e14_13, e14_16, e14_17, ct_i, ct_r, ct_n, ct_h, opt_v, opt_s, ref_s, ref_n, eq_self_iff_true, true_or, or_true, h1, hc, zl0, zl1, e]
theorem k18 (hd : 2 ≤ d) (hK : cK nd sh R) (hI : hD nd D I) (hB : dB nd D) {s i : Nat} (hs : s < 6144) (hi : i < nd) : aC d 18 [.ref 1, .int (nI s), .ref (47 + i)] (n, t, sh, I, L, R) Q ↔ Q (some (.int (nI (kst nd D s i)))) (n, t, sh, I, L, R) := by
  obtain ⟨d, rfl⟩ : ∃ e, d = e + 1 := ⟨d - 1, by omega⟩
  obtain ⟨h1, h2, h2', h3, h3', h4, h5, h6⟩ := cPh hK
  obtain ⟨g1, g2⟩ := cPd hK hi
  have e := hI.2 i hi 2 (by decide)
  have hb := hB i hi
  by_cases h : D i 2 < nd
  · simp (disch := first | assumption | exact ct_i | exact ct_r | exact ct_n | exact ct_h | omega | exact z_in (by omega) (by omega) | exact b01 | exact Or.inl rfl | exact Or.inr rfl) only [b18, e18_0, e18_1, e18_1n, e18_2, e18_5, e18_8n, e18_8, e18_11, e18_12, e18_15, e18_16, e18_16n, e18_17, e18_20, e18_23, ct_i, ct_r, ct_n, ct_h, opt_v, opt_s, ref_s, ref_n, eq_self_iff_true, true_or, or_true, zl0, zl1, zl2, zl3, zl4, zl5, zl6, zl7, zl8, zl9, zl10, zl16, zl32, zl40, zl100, zl160, zIc1, zI_lt, zI_le, nI_eq, nI_add, z_sub, nI_clamp, zI_of, uu_eq, uu_ne, Nat.reduceLT, Nat.reduceLeDiff, Nat.reduceEqDiff, Nat.reduceAdd, Nat.reduceSub, Nat.reduceMul, Nat.not_lt_zero, Nat.lt_irrefl, Nat.le_refl, Bool.false_eq_true, false_and, and_false, true_and, and_true, if_pos, if_neg, if_true, if_false, not_true_eq_false, not_false_eq_true, h1, g1, e, k11 (show 1 ≤ d by omega) hK hI h, k194 (show 1 ≤ d by omega) hs (show D i 2 < 4 by omega), kst]
  · have hn : nI (D i 2) < nI 0 ∨ nI nd ≤ nI (D i 2) := Or.inr ((zI_le (by omega) (by omega)).mpr (by omega))
    simp (disch := first | assumption | exact ct_i | exact ct_r | exact ct_n | exact ct_h | omega | exact z_in (by omega) (by omega) | exact b01 | exact Or.inl rfl | exact Or.inr rfl) only [b18, e18_0, e18_1, e18_1n, e18_2, e18_5, e18_8n, e18_8, e18_11, e18_12, e18_15, e18_16, e18_16n, e18_17, e18_20, e18_23, ct_i, ct_r, ct_n, ct_h, opt_v, opt_s, ref_s, ref_n, eq_self_iff_true, true_or, or_true, zl0, zl1, zl2, zl3, zl4, zl5, zl6, zl7, zl8, zl9, zl10, zl16, zl32, zl40, zl100, zl160, zIc1, zI_lt, zI_le, nI_eq, nI_add, z_sub, nI_clamp, zI_of, uu_eq, uu_ne, Nat.reduceLT, Nat.reduceLeDiff, Nat.reduceEqDiff, Nat.reduceAdd, Nat.reduceSub, Nat.reduceMul, Nat.not_lt_zero, Nat.lt_irrefl, Nat.le_refl, Bool.false_eq_true, false_and, and_false, true_and, and_true, if_pos, if_neg, if_true, if_false, not_true_eq_false, not_false_eq_true, h1, g1, e, k11n (show 1 ≤ d by omega) hK hI hn, kst]
theorem z_and3 {a : Nat} (h : a < 8) : nI a &&& nI 3 = nI (a % 4) := by
  rcases (show a = 0 ∨ a = 1 ∨ a = 2 ∨ a = 3 ∨ a = 4 ∨ a = 5 ∨ a = 6 ∨ a = 7 by omega) with rfl | rfl | rfl | rfl | rfl | rfl | rfl | rfl <;> decide
theorem opk_lt {D : Nat → Nat → Nat} (hB : dB nd D) {i : Nat} (hi : i < nd) {st : Nat} (hst : st < 4) : nxt (D i 4) st < 4 := nxt_lt hst
/-- what a house answers whether a door opens: as of one of its rooms -/
theorem k17 (hd : 3 ≤ d) (hK : cK nd sh R) (hI : hD nd D I) (hB : dB nd D) (hM : mC nd D f L) {s i : Nat} (hs : s < 6144) (hi : i < nd) (hr : rmo s = D i 0 ∨ rmo s = D i 1) : aC d 17 [.ref 1, .int (nI s), .int (nI i)] (n, t, sh, I, L, R) Q ↔ Q (some (.int (if opS nd D f s i = true then 1 else 0))) (n, t, sh, I, L, R) := by
  obtain ⟨d, rfl⟩ : ∃ e, d = e + 1 := ⟨d - 1, by omega⟩
  obtain ⟨h1, h2, h2', h3, h3', h4, h5, h6⟩ := cPh hK
  obtain ⟨g1, g2⟩ := cPd hK hi
  have hb := hB i hi
  have e0 := hI.2 i hi 0 (by decide)
  have l1 : rmo s < 6 := rmo_lt hs
  have e : bitL (if rmo s = D i 0 then L (47 + i) 5 else L (47 + i) 6) (stt s i * 16 + tno s * 4 + kst nd D s i) = opS nd D f s i := by
    obtain ⟨m1, m2⟩ := hM i hi (stt s i) stt_lt (tno s) tno_lt (kst nd D s i) kst_lt
    by_cases h : rmo s = D i 0
    · rw [if_pos h, m1, opS, h]
    · rw [if_neg h, m2, opS]
      rcases hr with hr | hr
      · exact absurd hr h
      · rw [hr]
  have l2 : tno s < 4 := tno_lt
  simp (disch := first | assumption | exact ct_i | exact ct_r | exact ct_n | exact ct_h | omega | exact z_in (by omega) (by omega) | exact b01 | exact Or.inl rfl | exact Or.inr rfl) only [b17, e17_0, e17_1, e17_2, e17_5, e17_5n, e17_6, e17_6n, e17_7n, e17_7, e17_10, e17_11, e17_12, e17_13, e17_14, e17_17, e17_19, e17_21, e17_22, e17_25, e17_26, e17_27, e17_27n, e17_28, e17_31, e17_34, e17_36, e17_36n, e17_37, e17_38, e17_41, e17_43, e17_46, ct_i, ct_r, ct_n, ct_h, opt_v, opt_s, ref_s, ref_n, eq_self_iff_true, true_or, or_true, zl0, zl1, zl2, zl3, zl4, zl5, zl6, zl7, zl8, zl9, zl10, zl16, zl32, zl40, zl100, zl160, zIc1, zI_lt, zI_le, nI_eq, nI_add, z_sub, nI_clamp, zI_of, uu_eq, uu_ne, Nat.reduceLT, Nat.reduceLeDiff, Nat.reduceEqDiff, Nat.reduceAdd, Nat.reduceSub, Nat.reduceMul, Nat.not_lt_zero, Nat.lt_irrefl, Nat.le_refl, Bool.false_eq_true, false_and, and_false, true_and, and_true, if_pos, if_neg, if_true, if_false, not_true_eq_false, not_false_eq_true, h1, g1, k11 (show 1 ≤ d by omega) hK hI hi, k194 (show 1 ≤ d by omega) hs (show i < 4 by omega), k196 (show 1 ≤ d by omega) hs, k18 (show 2 ≤ d by omega) hK hI hB hs hi, k2 (show 1 ≤ d by omega), k198 (show 1 ≤ d by omega) hs,
    k4 (show 1 ≤ d by omega) g1 e0 hb.1 l1, e]
theorem k20 (hd : 4 ≤ d) (hK : cK nd sh R) (hI : hD nd D I) (hB : dB nd D) (hM : mC nd D f L) {s i : Nat} (hs : s < 6144) (hi : i < nd) : aC d 20 [.ref 1, .int (nI s), .int (nI i)] (n, t, sh, I, L, R) Q ↔ Q (some (.int (oI (bh nd D f s i)))) (n, t, sh, I, L, R) := by
  obtain ⟨d, rfl⟩ : ∃ e, d = e + 1 := ⟨d - 1, by omega⟩
  obtain ⟨h1, h2, h2', h3, h3', h4, h5, h6⟩ := cPh hK
  obtain ⟨g1, g2⟩ := cPd hK hi
  have hb := hB i hi
  have e0 := hI.2 i hi 0 (by decide)
  have e1 := hI.2 i hi 1 (by decide)
  have e4 := hI.2 i hi 4 (by decide)
  have l1 : rmo s < 6 := rmo_lt hs
  have l2 : tno s < 4 := tno_lt
  have l3 : nxt (D i 4) (stt s i) < 4 := nxt_lt stt_lt
  have l4 : stt s i < 4 := stt_lt
  have l5 := wst_lt hs (show i < 4 by omega) l3
  have l6 : wtn (wst s i (nxt (D i 4) (stt s i))) ((tno s + 1) % 4) < 6144 := wtn_lt l5 (by omega)
  by_cases hr : rmo s = D i 0 ∨ rmo s = D i 1
  · simp (disch := first | assumption | exact ct_i | exact ct_r | exact ct_n | exact ct_h | omega | exact z_in (by omega) (by omega) | exact b01 | exact Or.inl rfl | exact Or.inr rfl) only [b20, e20_0, e20_1, e20_2, e20_5, e20_5n, e20_6, e20_7, e20_10, e20_12, e20_12n, e20_13n, e20_13, e20_16, e20_16n, e20_17, e20_19, e20_22, e20_25, e20_26, e20_27, e20_28, e20_34, e20_35, e20_36, e20_37, e20_38, e20_38n, e20_39, e20_40, e20_41, e20_44, e20_47, e20_50, e20_52, e20_54, e20_55, e20_58, e20_59, e20_60, e20_61, e20_62, e20_65, e20_67, e20_69, e20_69n, e20_70, e20_72, e20_75, e20_78, ct_i, ct_r, ct_n, ct_h, opt_v, opt_s, ref_s, ref_n, eq_self_iff_true, true_or, or_true, zl0, zl1, zl2, zl3, zl4, zl5, zl6, zl7, zl8, zl9, zl10, zl16, zl32, zl40, zl100, zl160, zIc1, zI_lt, zI_le, nI_eq, nI_add, z_sub, nI_clamp, zI_of, uu_eq, uu_ne, Nat.reduceLT, Nat.reduceLeDiff, Nat.reduceEqDiff, Nat.reduceAdd, Nat.reduceSub, Nat.reduceMul, Nat.not_lt_zero, Nat.lt_irrefl, Nat.le_refl, Bool.false_eq_true, false_and, and_false, true_and, and_true, if_pos, if_neg, if_true, if_false, not_true_eq_false, not_false_eq_true, h1, g1, k11 (show 1 ≤ d by omega) hK hI hi, k198 (show 1 ≤ d by omega) hs, k6 (show 1 ≤ d by omega) g1 e0 e1 hb.1 l1 hb.2.1, hr,
      k17 (show 3 ≤ d by omega) hK hI hB hM hs hi hr]
    by_cases ho : opS nd D f s i = true
    · have hb' : bh nd D f s i = some (aft D s i) := if_pos ⟨hi, hr, ho⟩
      have eb : (if rmo s = D i 0 then D i 1 else D i 0) = bey D i (rmo s) := rfl
      simp (disch := first | assumption | exact ct_i | exact ct_r | exact ct_n | exact ct_h | omega | exact z_in (by omega) (by omega) | exact b01 | exact Or.inl rfl | exact Or.inr rfl) only [ho, e20_0, e20_1, e20_2, e20_5, e20_5n, e20_6, e20_7, e20_10, e20_12, e20_12n, e20_13n, e20_13, e20_16, e20_16n, e20_17, e20_19, e20_22, e20_25, e20_26, e20_27, e20_28, e20_34, e20_35, e20_36, e20_37, e20_38, e20_38n, e20_39, e20_40, e20_41, e20_44, e20_47, e20_50, e20_52, e20_54, e20_55, e20_58, e20_59, e20_60, e20_61, e20_62, e20_65, e20_67, e20_69, e20_69n, e20_70, e20_72, e20_75, e20_78, e20_31, ct_i, ct_r, ct_n, ct_h, opt_v, opt_s, ref_s, ref_n, eq_self_iff_true, true_or, or_true, zl0, zl1, zl2, zl3, zl4, zl5, zl6, zl7, zl8, zl9, zl10, zl16, zl32, zl40, zl100, zl160, zIc1, zI_lt, zI_le, nI_eq, nI_add, z_sub, nI_clamp, zI_of, uu_eq, uu_ne, Nat.reduceLT, Nat.reduceLeDiff, Nat.reduceEqDiff, Nat.reduceAdd, Nat.reduceSub, Nat.reduceMul, Nat.not_lt_zero, Nat.lt_irrefl, Nat.le_refl, Bool.false_eq_true, false_and, and_false, true_and, and_true, if_pos, if_neg, if_true, if_false, not_true_eq_false, not_false_eq_true, k194 (show 1 ≤ d by omega) hs (show i < 4 by omega), k5 (show 1 ≤ d by omega) g1 e4 hb.2.2.2.2 l4, k195 (show 1 ≤ d by omega) hs (show i < 4 by omega) l3, k196 (show 1 ≤ d by omega) hs, z_and3, k197 (show 1 ≤ d by omega) l5 (show (tno s + 1) % 4 < 4 by omega), k1 (show 1 ≤ d by omega) g1 e0 e1 hb.1 l1, k199 (show 1 ≤ d by omega) l6 (bey_lt hB (rm := rmo s) hi), hb', eb, oI, aft]
    · have hb' : bh nd D f s i = none := if_neg (fun h => ho h.2.2)
      simp (disch := first | assumption | exact ct_i | exact ct_r | exact ct_n | exact ct_h | omega | exact z_in (by omega) (by omega) | exact b01 | exact Or.inl rfl | exact Or.inr rfl) only [ho, e20_0, e20_1, e20_2, e20_5, e20_5n, e20_6, e20_7, e20_10, e20_12, e20_12n, e20_13n, e20_13, e20_16, e20_16n, e20_17, e20_19, e20_22, e20_25, e20_26, e20_27, e20_28, e20_34, e20_35, e20_36, e20_37, e20_38, e20_38n, e20_39, e20_40, e20_41, e20_44, e20_47, e20_50, e20_52, e20_54, e20_55, e20_58, e20_59, e20_60, e20_61, e20_62, e20_65, e20_67, e20_69, e20_69n, e20_70, e20_72, e20_75, e20_78, e20_31, ct_i, ct_r, ct_n, ct_h, opt_v, opt_s, ref_s, ref_n, eq_self_iff_true, true_or, or_true, zl0, zl1, zl2, zl3, zl4, zl5, zl6, zl7, zl8, zl9, zl10, zl16, zl32, zl40, zl100, zl160, zIc1, zI_lt, zI_le, nI_eq, nI_add, z_sub, nI_clamp, zI_of, uu_eq, uu_ne, Nat.reduceLT, Nat.reduceLeDiff, Nat.reduceEqDiff, Nat.reduceAdd, Nat.reduceSub, Nat.reduceMul, Nat.not_lt_zero, Nat.lt_irrefl, Nat.le_refl, Bool.false_eq_true, false_and, and_false, true_and, and_true, if_pos, if_neg, if_true, if_false, not_true_eq_false, not_false_eq_true, hb', oI]
  · have hb' : bh nd D f s i = none := if_neg (fun h => hr h.2.1)
    simp (disch := first | assumption | exact ct_i | exact ct_r | exact ct_n | exact ct_h | omega | exact z_in (by omega) (by omega) | exact b01 | exact Or.inl rfl | exact Or.inr rfl) only [b20, e20_0, e20_1, e20_2, e20_5, e20_5n, e20_6, e20_7, e20_10, e20_12, e20_12n, e20_13n, e20_13, e20_16, e20_16n, e20_17, e20_19, e20_22, e20_25, e20_26, e20_27, e20_28, e20_31, e20_34, e20_35, e20_36, e20_37, e20_38, e20_38n, e20_39, e20_40, e20_41, e20_44, e20_47, e20_50, e20_52, e20_54, e20_55, e20_58, e20_59, e20_60, e20_61, e20_62, e20_65, e20_67, e20_69, e20_69n, e20_70, e20_72, e20_75, e20_78, ct_i, ct_r, ct_n, ct_h, opt_v, opt_s, ref_s, ref_n, eq_self_iff_true, true_or, or_true, zl0, zl1, zl2, zl3, zl4, zl5, zl6, zl7, zl8, zl9, zl10, zl16, zl32, zl40, zl100, zl160, zIc1, zI_lt, zI_le, nI_eq, nI_add, z_sub, nI_clamp, zI_of, uu_eq, uu_ne, Nat.reduceLT, Nat.reduceLeDiff, Nat.reduceEqDiff, Nat.reduceAdd, Nat.reduceSub, Nat.reduceMul, Nat.not_lt_zero, Nat.lt_irrefl, Nat.le_refl, Bool.false_eq_true, false_and, and_false, true_and, and_true, if_pos, if_neg, if_true, if_false, not_true_eq_false, not_false_eq_true, h1, g1, k11 (show 1 ≤ d by omega) hK hI hi, k198 (show 1 ≤ d by omega) hs, k6 (show 1 ≤ d by omega) g1 e0 e1 hb.1 l1 hb.2.1, hr, hb', oI]
theorem k20n (hd : 2 ≤ d) (hK : cK nd sh R) (hI : hD nd D I) {s : Nat} (hs : s < 6144) {x : Int32} (hx : x < nI 0 ∨ nI nd ≤ x) : aC d 20 [.ref 1, .int (nI s), .int x] (n, t, sh, I, L, R) Q ↔ Q (some (.int (-nI 1))) (n, t, sh, I, L, R) := by
  obtain ⟨d, rfl⟩ : ∃ e, d = e + 1 := ⟨d - 1, by omega⟩
  obtain ⟨h1, h2, h2', h3, h3', h4, h5, h6⟩ := cPh hK
  simp (disch := first | assumption | exact ct_i | exact ct_r | exact ct_n | exact ct_h | omega | exact z_in (by omega) (by omega) | exact b01 | exact Or.inl rfl | exact Or.inr rfl) only [b20, e20_0, e20_1, e20_2, e20_5, e20_5n, e20_6, e20_7, e20_10, e20_12, e20_12n, e20_13n, e20_13, e20_16, e20_16n, e20_17, e20_19, e20_22, e20_25, e20_26, e20_27, e20_28, e20_31, e20_34, e20_35, e20_36, e20_37, e20_38, e20_38n, e20_39, e20_40, e20_41, e20_44, e20_47, e20_50, e20_52, e20_54, e20_55, e20_58, e20_59, e20_60, e20_61, e20_62, e20_65, e20_67, e20_69, e20_69n, e20_70, e20_72, e20_75, e20_78, ct_i, ct_r, ct_n, ct_h, opt_v, opt_s, ref_s, ref_n, eq_self_iff_true, true_or, or_true, zl0, zl1, zl2, zl3, zl4, zl5, zl6, zl7, zl8, zl9, zl10, zl16, zl32, zl40, zl100, zl160, zIc1, zI_lt, zI_le, nI_eq, nI_add, z_sub, nI_clamp, zI_of, uu_eq, uu_ne, Nat.reduceLT, Nat.reduceLeDiff, Nat.reduceEqDiff, Nat.reduceAdd, Nat.reduceSub, Nat.reduceMul, Nat.not_lt_zero, Nat.lt_irrefl, Nat.le_refl, Bool.false_eq_true, false_and, and_false, true_and, and_true, if_pos, if_neg, if_true, if_false, not_true_eq_false, not_false_eq_true, h1, k11n (show 1 ≤ d by omega) hK hI hx, k198 (show 1 ≤ d by omega) hs]
/-- a set of places, as the program adds them up -/
def orF (p : Nat → Bool) : Nat → Int32
  | 0 => nI 0
  | k + 1 => if p k = true then orF p k ||| (nI 1 <<< (nI k &&& 31)) else orF p k
theorem oI_ne {s : Nat} (h : s < 6144) : ¬ nI s = -nI 1 := by
  intro h2
  have h3 := congrArg Int32.toInt h2
  rw [nI_toInt (by omega)] at h3
  have h4 : (-nI 1 : Int32).toInt = -1 := by decide
  rw [h4] at h3
  omega
theorem bh_lt (hB : dB nd D) {s i s' : Nat} (h : bh nd D f s i = some s') : s' < 6144 := by
  unfold bh at h
  split at h
  · rename_i h1
    injection h with h; subst h
    exact aft_lt hB h1.1
  · cases h
theorem k19l (hd : 4 ≤ d) (hK : cK nd sh R) (hI : hD nd D I) (hB : dB nd D) (hM : mC nd D f L) {s : Nat} (hs : s < 6144) : ∀ k i, i + k = nd →
    (aE (a_cl_ d) 19 (4, [.ref 1, .int (nI s), .int (orF (fun i => (bh nd D f s i).isSome) i), .int (nI i)], [], (n, t, sh, I, L, R)) Q ↔ Q (some (.int (orF (fun i => (bh nd D f s i).isSome) nd))) (n, t, sh, I, L, R)) := by
  obtain ⟨h1, h2, h2', h3, h3', h4, h5, h6⟩ := cPh hK
  intro k
  induction k with
  | zero =>
    intro i hi
    obtain rfl : i = nd := by omega
    simp (disch := first | assumption | exact ct_i | exact ct_r | exact ct_n | exact ct_h | omega | exact z_in (by omega) (by omega) | exact b01 | exact Or.inl rfl | exact Or.inr rfl) only [e19_0, e19_1, e19_2, e19_3, e19_4, e19_5, e19_6, e19_9, e19_12, e19_13, e19_14, e19_15, e19_18, e19_19, e19_22, e19_23, e19_24, e19_25, e19_26, e19_27, e19_28, e19_31, e19_34, e19_35, ct_i, ct_r, ct_n, ct_h, opt_v, opt_s, ref_s, ref_n, eq_self_iff_true, true_or, or_true, zl0, zl1, zl2, zl3, zl4, zl5, zl6, zl7, zl8, zl9, zl10, zl16, zl32, zl40, zl100, zl160, zIc1, zI_lt, zI_le, nI_eq, nI_add, z_sub, nI_clamp, zI_of, uu_eq, uu_ne, Nat.reduceLT, Nat.reduceLeDiff, Nat.reduceEqDiff, Nat.reduceAdd, Nat.reduceSub, Nat.reduceMul, Nat.not_lt_zero, Nat.lt_irrefl, Nat.le_refl, Bool.false_eq_true, false_and, and_false, true_and, and_true, if_pos, if_neg, if_true, if_false, not_true_eq_false, not_false_eq_true, h1, hI.1]
  | succ k ih =>
    intro i hi
    rw [e19_4]
    simp (disch := first | assumption | exact ct_i | exact ct_r | exact ct_n | exact ct_h | omega | exact z_in (by omega) (by omega) | exact b01 | exact Or.inl rfl | exact Or.inr rfl) only [e19_0, e19_1, e19_2, e19_3, e19_5, e19_6, e19_9, e19_12, e19_13, e19_14, e19_15, e19_18, e19_19, e19_22, e19_23, e19_24, e19_25, e19_26, e19_27, e19_28, e19_31, e19_34, e19_35, ct_i, ct_r, ct_n, ct_h, opt_v, opt_s, ref_s, ref_n, eq_self_iff_true, true_or, or_true, zl0, zl1, zl2, zl3, zl4, zl5, zl6, zl7, zl8, zl9, zl10, zl16, zl32, zl40, zl100, zl160, zIc1, zI_lt, zI_le, nI_eq, nI_add, z_sub, nI_clamp, zI_of, uu_eq, uu_ne, Nat.reduceLT, Nat.reduceLeDiff, Nat.reduceEqDiff, Nat.reduceAdd, Nat.reduceSub, Nat.reduceMul, Nat.not_lt_zero, Nat.lt_irrefl, Nat.le_refl, Bool.false_eq_true, false_and, and_false, true_and, and_true, if_pos, if_neg, if_true, if_false, not_true_eq_false, not_false_eq_true, h1, hI.1, k20 hd hK hI hB hM hs (show i < nd by omega)]
    rw [← ih (i + 1) (by omega)]
    cases hb : bh nd D f s i with
    | none => simp (disch := first | assumption | exact ct_i | exact ct_r | exact ct_n | exact ct_h | omega | exact z_in (by omega) (by omega) | exact b01 | exact Or.inl rfl | exact Or.inr rfl) only [zl0, zl1, zl2, zl3, zl4, zl5, zl6, zl7, zl8, zl9, zl10, zl16, zl32, zl40, zl100, zl160, zIc1, zI_lt, zI_le, nI_eq, nI_add, z_sub, nI_clamp, zI_of, uu_eq, uu_ne, Nat.reduceLT, Nat.reduceLeDiff, Nat.reduceEqDiff, Nat.reduceAdd, Nat.reduceSub, Nat.reduceMul, Nat.not_lt_zero, Nat.lt_irrefl, Nat.le_refl, Bool.false_eq_true, false_and, and_false, true_and, and_true, if_pos, if_neg, if_true, if_false, not_true_eq_false, not_false_eq_true, oI, orF, hb, Option.isSome_none]
    | some s' => simp (disch := first | assumption | exact ct_i | exact ct_r | exact ct_n | exact ct_h | omega | exact z_in (by omega) (by omega) | exact b01 | exact Or.inl rfl | exact Or.inr rfl) only [zl0, zl1, zl2, zl3, zl4, zl5, zl6, zl7, zl8, zl9, zl10, zl16, zl32, zl40, zl100, zl160, zIc1, zI_lt, zI_le, nI_eq, nI_add, z_sub, nI_clamp, zI_of, uu_eq, uu_ne, Nat.reduceLT, Nat.reduceLeDiff, Nat.reduceEqDiff, Nat.reduceAdd, Nat.reduceSub, Nat.reduceMul, Nat.not_lt_zero, Nat.lt_irrefl, Nat.le_refl, Bool.false_eq_true, false_and, and_false, true_and, and_true, if_pos, if_neg, if_true, if_false, not_true_eq_false, not_false_eq_true, oI, orF, hb, Option.isSome_some, oI_ne (bh_lt hB hb)]
theorem k19 (hd : 5 ≤ d) (hK : cK nd sh R) (hI : hD nd D I) (hB : dB nd D) (hM : mC nd D f L) {s : Nat} (hs : s < 6144) :
    aC d 19 [.ref 1, .int (nI s)] (n, t, sh, I, L, R) Q ↔ Q (some (.int (orF (fun i => (bh nd D f s i).isSome) nd))) (n, t, sh, I, L, R) := by
  obtain ⟨d, rfl⟩ : ∃ e, d = e + 1 := ⟨d - 1, by omega⟩
  rw [← k19l (Q := Q) (t := t) (n := n) (show 4 ≤ d by omega) hK hI hB hM hs nd 0 (by omega)]
  simp (disch := first | assumption | exact ct_i | exact ct_r | exact ct_n | exact ct_h | omega | exact z_in (by omega) (by omega) | exact b01 | exact Or.inl rfl | exact Or.inr rfl) only [b19, e19_0, e19_1, e19_2, e19_3, e19_5, e19_6, e19_9, e19_12, e19_13, e19_14, e19_15, e19_18, e19_19, e19_22, e19_23, e19_24, e19_25, e19_26, e19_27, e19_28, e19_31, e19_34, e19_35, ct_i, ct_r, ct_n, ct_h, opt_v, opt_s, ref_s, ref_n, eq_self_iff_true, true_or, or_true, zl0, zl1, zl2, zl3, zl4, zl5, zl6, zl7, zl8, zl9, zl10, zl16, zl32, zl40, zl100, zl160, zIc1, zI_lt, zI_le, nI_eq, nI_add, z_sub, nI_clamp, zI_of, uu_eq, uu_ne, Nat.reduceLT, Nat.reduceLeDiff, Nat.reduceEqDiff, Nat.reduceAdd, Nat.reduceSub, Nat.reduceMul, Nat.not_lt_zero, Nat.lt_irrefl, Nat.le_refl, Bool.false_eq_true, false_and, and_false, true_and, and_true, if_pos, if_neg, if_true, if_false, not_true_eq_false, not_false_eq_true, orF]
theorem k200 (hd : 2 ≤ d) {s : Nat} (hs : s < 6144) {h : aH} : aC d 200 [.int (nI s)] h Q ↔ Q (some (.int (nI (sts s)))) h := by
  obtain ⟨d, rfl⟩ : ∃ e, d = e + 1 := ⟨d - 1, by omega⟩
  simp (disch := first | assumption | exact ct_i | exact ct_r | exact ct_n | exact ct_h | omega | exact z_in (by omega) (by omega) | exact b01 | exact Or.inl rfl | exact Or.inr rfl) only [b200, e200_0, e200_1, e200_2, e200_3, e200_4, e200_5, e200_6, e200_9, e200_10, e200_11, e200_12, e200_15, e200_16, e200_17, e200_20, e200_23, e200_24, ct_i, ct_r, ct_n, ct_h, opt_v, opt_s, ref_s, ref_n, eq_self_iff_true, true_or, or_true, zl0, zl1, zl2, zl3, zl4, zl5, zl6, zl7, zl8, zl9, zl10, zl16, zl32, zl40, zl100, zl160, zIc1, zI_lt, zI_le, nI_eq, nI_add, z_sub, nI_clamp, zI_of, uu_eq, uu_ne, Nat.reduceLT, Nat.reduceLeDiff, Nat.reduceEqDiff, Nat.reduceAdd, Nat.reduceSub, Nat.reduceMul, Nat.not_lt_zero, Nat.lt_irrefl, Nat.le_refl, Bool.false_eq_true, false_and, and_false, true_and, and_true, if_pos, if_neg, if_true, if_false, not_true_eq_false, not_false_eq_true, k194 (show 1 ≤ d by omega) hs (show 0 < 4 by omega), k194 (show 1 ≤ d by omega) hs (show 1 < 4 by omega), k194 (show 1 ≤ d by omega) hs (show 2 < 4 by omega), k194 (show 1 ≤ d by omega) hs (show 3 < 4 by omega), Nat.zero_add, sts]
/-- what the working on a rule changes in the house: names, a stack, its height -/
def scr (x k : Nat) : Prop := x = 3 ∨ (23 ≤ x ∧ x < 47 ∧ (x % 4 = 2 ∨ x % 4 = 3 ∧ k = 4))
def fr3 (I I' : Nat → Nat → Int32) : Prop := ∀ x k, ¬ scr x k → I' x k = I x k
theorem fr3_refl {I : Nat → Nat → Int32} : fr3 I I := fun _ _ _ => rfl
theorem fr3_trans {I I' I'' : Nat → Nat → Int32} (h : fr3 I I') (h' : fr3 I' I'') : fr3 I I'' := fun x k hx => (h' x k hx).trans (h x k hx)
def tS (f : Nat → List Nat) : Nat → Nat
  | 0 => 0
  | 1 => (f 0).length
  | _ => (f 0).length + (f 1).length
def txC (f : Nat → List Nat) (c e : Nat) (I : Nat → Nat → Int32) : Prop := (∀ p, p < 3 → I e p = nI (tS f p + (f p).length)) ∧ (∀ p, p < 3 → ∀ j, j < (f p).length → I c (tS f p + j) = cCell ((f p).getD j 0))
def txB (f : Nat → List Nat) : Prop := tS f 2 + (f 2).length ≤ 160 ∧ ∀ p, p < 3 → okc (f p) 0 1
def rT (r : Nat) (f : Nat → List Nat) (I : Nat → Nat → Int32) (R : Nat → Nat → Option Nat) : Prop := R 1 4 = some (23 + 4 * r) ∧ r < 6 ∧ txC f (24 + 4 * r) (25 + 4 * r) I ∧ txB f
theorem hD_fr (h : fr3 I I') (hn : nd ≤ 4) (hI : hD nd D I) : hD nd D I' := by
  refine ⟨(h 1 1 (by unfold scr; omega)).trans hI.1, fun i hi k hk => (h _ k (by unfold scr; omega)).trans (hI.2 i hi k hk)⟩
theorem rT_fr {r : Nat} (h : fr3 I I') (hR : rT r f I R) : rT r f I' R := by
  obtain ⟨h1, h2, ⟨h3, h4⟩, h5⟩ := hR
  refine ⟨h1, h2, ⟨fun p hp => (h _ _ (by unfold scr; omega)).trans (h3 p hp), fun p hp j hj => (h _ _ (by unfold scr; omega)).trans (h4 p hp j hj)⟩, h5⟩
theorem kAns (hd : 2 ≤ d) (hK : cK nd sh R) {r : Nat} (hR : rT r f I R) {p : Nat} (hp : p < 3) {nm : Nat → Int32} (hnm : ∀ i, i < 6 → I 3 i = nm i)
    (H : ∀ I', fr3 I I' → Q (some (.int (tval f p nm))) (n, t, sh, I', L, R)) : aC d 72 [.ref (23 + 4 * r), .int (nI p), .ref 3] (n, t, sh, I, L, R) Q := by
  obtain ⟨h1, h2, h2', h3, h3', h4, h5, h6⟩ := cPh hK
  obtain ⟨g1, g2, ⟨g3, g4⟩, g5, g6⟩ := hR
  have hle : tS f p + (f p).length ≤ 160 := by
    rcases (show p = 0 ∨ p = 1 ∨ p = 2 by omega) with rfl | rfl | rfl <;> simp only [tS] at g5 ⊢ <;> omega
  refine k72 hd (cPt hK g2) ⟨h3, h3'⟩ (by omega) hnm hp hle (g3 p hp) (s0 := tS f p) ?_ (g4 p hp) rfl (g6 p hp) (fun I' hI' => H I' fun x k hx => hI' x k ?_)
  · rcases (show p = 0 ∨ p = 1 ∨ p = 2 by omega) with rfl | rfl | rfl
    · rfl
    · have := g3 0 (by decide)
      simp only [tS, Nat.zero_add] at this
      simpa [tS] using this
    · have := g3 1 (by decide)
      simpa [tS] using this
  · unfold scr at hx; omega
theorem nm6_at {x0 x1 x2 x3 x4 x5 : Int32} {a : Nat} : ∀ i, i < 6 → nm6 I a x0 x1 x2 x3 x4 x5 a i = (match i with | 0 => x0 | 1 => x1 | 2 => x2 | 3 => x3 | 4 => x4 | _ => x5) := by
  intro i hi
  rcases (show i = 0 ∨ i = 1 ∨ i = 2 ∨ i = 3 ∨ i = 4 ∨ i = 5 by omega) with rfl | rfl | rfl | rfl | rfl | rfl <;> simp [nm6, u2]
theorem nm6_fr {x0 x1 x2 x3 x4 x5 : Int32} : fr3 I (nm6 I 3 x0 x1 x2 x3 x4 x5) := by
  intro x k hx
  unfold scr at hx
  simp (disch := omega) only [nm6, uu_ne]
theorem nmv_at {i st tn rm ks ot : Nat} : ∀ j, j < 6 → nm6 I 3 (nI i) (nI st) (nI tn) (nI rm) (nI ks) (nI ot) 3 j = nmv i st tn rm ks ot j := by
  intro j hj
  rw [nm6_at j hj]
  rcases (show j = 0 ∨ j = 1 ∨ j = 2 ∨ j = 3 ∨ j = 4 ∨ j = 5 by omega) with rfl | rfl | rfl | rfl | rfl | rfl <;> rfl
def wl (f : Nat → List Nat) (s : Nat) : Bool := decide (¬ tval f 2 (nmv 0 (sts s) (tno s) (rmo s) 0 0) = nI 0)
def clp (v : Int32) : Int32 := if nI 0 < (if 99 < v then 99 else v) then (if 99 < v then 99 else v) else nI 0
def cst (nd : Nat) (D : Nat → Nat → Nat) (f : Nat → List Nat) (s i : Nat) : Int32 := clp (tval f 1 (nmv i (stt s i) (tno s) (rmo s) (kst nd D s i) (bey D i (rmo s))))
theorem k21 (hd : 3 ≤ d) (hK : cK nd sh R) {r : Nat} (hR : rT r f I R) {s : Nat} (hs : s < 6144)
    (H : ∀ I', fr3 I I' → Q (some (.int (if wl f s = true then nI 1 else nI 0))) (n, t, sh, I', L, R)) : aC d 21 [.ref 1, .int (nI s)] (n, t, sh, I, L, R) Q := by
  obtain ⟨d, rfl⟩ : ∃ e, d = e + 1 := ⟨d - 1, by omega⟩
  obtain ⟨h1, h2, h2', h3, h3', h4, h5, h6⟩ := cPh hK
  obtain ⟨g1, g2⟩ := cPt hK hR.2.1
  have g3 := hR.1
  simp (disch := first | assumption | exact ct_i | exact ct_r | exact ct_n | exact ct_h | omega | exact z_in (by omega) (by omega) | exact b01 | exact Or.inl rfl | exact Or.inr rfl) only [b21, e21_0, e21_1, e21_4, e21_5, e21_6, e21_7, e21_8, e21_9, e21_12, e21_13, e21_16, e21_17, e21_18, e21_21, e21_22, e21_25, e21_26, e21_27, e21_30, e21_33, e21_36, e21_37, e21_40, e21_41, ct_i, ct_r, ct_n, ct_h, opt_v, opt_s, ref_s, ref_n, eq_self_iff_true, true_or, or_true, zl0, zl1, zl2, zl3, zl4, zl5, zl6, zl7, zl8, zl9, zl10, zl16, zl32, zl40, zl100, zl160, zIc1, zI_lt, zI_le, nI_eq, nI_add, z_sub, nI_clamp, zI_of, uu_eq, uu_ne, Nat.reduceLT, Nat.reduceLeDiff, Nat.reduceEqDiff, Nat.reduceAdd, Nat.reduceSub, Nat.reduceMul, Nat.not_lt_zero, Nat.lt_irrefl, Nat.le_refl, Bool.false_eq_true, false_and, and_false, true_and, and_true, if_pos, if_neg, if_true, if_false, not_true_eq_false, not_false_eq_true, h1, k200 (show 2 ≤ d by omega) hs, k196 (show 1 ≤ d by omega) hs, k198 (show 1 ≤ d by omega) hs, k13 (show 1 ≤ d by omega) h1 h3 h3' h5, g3, h5]
  refine kAns (by omega) hK (rT_fr nm6_fr hR) (by decide) nmv_at (fun I' hI' => ?_)
  have := H I' (fr3_trans nm6_fr hI')
  unfold wl at this
  by_cases hx : tval f 2 (nmv 0 (sts s) (tno s) (rmo s) 0 0) = nI 0
  · rw [decide_eq_false (not_not_intro hx)] at this
    simp (disch := first | assumption | exact ct_i | exact ct_r | exact ct_n | exact ct_h | omega | exact z_in (by omega) (by omega) | exact b01 | exact Or.inl rfl | exact Or.inr rfl) only [e21_0, e21_1, e21_4, e21_5, e21_6, e21_7, e21_8, e21_9, e21_12, e21_13, e21_16, e21_17, e21_18, e21_21, e21_22, e21_25, e21_26, e21_27, e21_30, e21_33, e21_36, e21_37, e21_40, e21_41, ct_i, ct_r, ct_n, ct_h, opt_v, opt_s, ref_s, ref_n, eq_self_iff_true, true_or, or_true, zl0, zl1, zl2, zl3, zl4, zl5, zl6, zl7, zl8, zl9, zl10, zl16, zl32, zl40, zl100, zl160, zIc1, zI_lt, zI_le, nI_eq, nI_add, z_sub, nI_clamp, zI_of, uu_eq, uu_ne, Nat.reduceLT, Nat.reduceLeDiff, Nat.reduceEqDiff, Nat.reduceAdd, Nat.reduceSub, Nat.reduceMul, Nat.not_lt_zero, Nat.lt_irrefl, Nat.le_refl, Bool.false_eq_true, false_and, and_false, true_and, and_true, if_pos, if_neg, if_true, if_false, not_true_eq_false, not_false_eq_true, hx]
    exact this
  · rw [decide_eq_true hx] at this
    simp (disch := first | assumption | exact ct_i | exact ct_r | exact ct_n | exact ct_h | omega | exact z_in (by omega) (by omega) | exact b01 | exact Or.inl rfl | exact Or.inr rfl) only [e21_0, e21_1, e21_4, e21_5, e21_6, e21_7, e21_8, e21_9, e21_12, e21_13, e21_16, e21_17, e21_18, e21_21, e21_22, e21_25, e21_26, e21_27, e21_30, e21_33, e21_36, e21_37, e21_40, e21_41, ct_i, ct_r, ct_n, ct_h, opt_v, opt_s, ref_s, ref_n, eq_self_iff_true, true_or, or_true, zl0, zl1, zl2, zl3, zl4, zl5, zl6, zl7, zl8, zl9, zl10, zl16, zl32, zl40, zl100, zl160, zIc1, zI_lt, zI_le, nI_eq, nI_add, z_sub, nI_clamp, zI_of, uu_eq, uu_ne, Nat.reduceLT, Nat.reduceLeDiff, Nat.reduceEqDiff, Nat.reduceAdd, Nat.reduceSub, Nat.reduceMul, Nat.not_lt_zero, Nat.lt_irrefl, Nat.le_refl, Bool.false_eq_true, false_and, and_false, true_and, and_true, if_pos, if_neg, if_true, if_false, not_true_eq_false, not_false_eq_true, hx]
    exact this
theorem k22 (hd : 3 ≤ d) (hK : cK nd sh R) (hI : hD nd D I) (hB : dB nd D) {r : Nat} (hR : rT r f I R) {s i : Nat} (hs : s < 6144) (hi : i < nd)
    (H : ∀ I', fr3 I I' → Q (some (.int (cst nd D f s i))) (n, t, sh, I', L, R)) : aC d 22 [.ref 1, .int (nI s), .int (nI i)] (n, t, sh, I, L, R) Q := by
  obtain ⟨d, rfl⟩ : ∃ e, d = e + 1 := ⟨d - 1, by omega⟩
  obtain ⟨h1, h2, h2', h3, h3', h4, h5, h6⟩ := cPh hK
  obtain ⟨g1, g2⟩ := cPd hK hi
  obtain ⟨g3, g4⟩ := cPt hK hR.2.1
  have g5 := hR.1
  have hb := hB i hi
  have e0 := hI.2 i hi 0 (by decide)
  have e1 := hI.2 i hi 1 (by decide)
  have l1 : rmo s < 6 := rmo_lt hs
  simp (disch := first | assumption | exact ct_i | exact ct_r | exact ct_n | exact ct_h | omega | exact z_in (by omega) (by omega) | exact b01 | exact Or.inl rfl | exact Or.inr rfl) only [b22, e22_0, e22_1, e22_2, e22_5, e22_5n, e22_6, e22_6n, e22_7n, e22_7, e22_10, e22_11, e22_12, e22_13, e22_16, e22_18, e22_19, e22_20, e22_23, e22_25, e22_26, e22_27, e22_29, e22_30, e22_33, e22_35, e22_36, e22_37, e22_37n, e22_38, e22_41, e22_41n, e22_42, e22_44, e22_47, e22_50, e22_51, e22_52, e22_55, e22_56, e22_57, e22_60, e22_63, e22_65, e22_68, e22_71, ct_i, ct_r, ct_n, ct_h, opt_v, opt_s, ref_s, ref_n, eq_self_iff_true, true_or, or_true, zl0, zl1, zl2, zl3, zl4, zl5, zl6, zl7, zl8, zl9, zl10, zl16, zl32, zl40, zl100, zl160, zIc1, zI_lt, zI_le, nI_eq, nI_add, z_sub, nI_clamp, zI_of, uu_eq, uu_ne, Nat.reduceLT, Nat.reduceLeDiff, Nat.reduceEqDiff, Nat.reduceAdd, Nat.reduceSub, Nat.reduceMul, Nat.not_lt_zero, Nat.lt_irrefl, Nat.le_refl, Bool.false_eq_true, false_and, and_false, true_and, and_true, if_pos, if_neg, if_true, if_false, not_true_eq_false, not_false_eq_true, h1, g1, k11 (show 1 ≤ d by omega) hK hI hi, k198 (show 1 ≤ d by omega) hs, k194 (show 1 ≤ d by omega) hs (show i < 4 by omega), k196 (show 1 ≤ d by omega) hs, k18 (show 2 ≤ d by omega) hK hI hB hs hi, k1 (show 1 ≤ d by omega) g1 e0 e1 hb.1 l1,
    k13 (show 1 ≤ d by omega) h1 h3 h3' h5, g5, h5]
  refine kAns (by omega) hK (rT_fr nm6_fr hR) (by decide) nmv_at (fun I' hI' => ?_)
  have := H I' (fr3_trans nm6_fr hI')
  unfold cst clp at this
  simp (disch := first | assumption | exact ct_i | exact ct_r | exact ct_n | exact ct_h | omega | exact z_in (by omega) (by omega) | exact b01 | exact Or.inl rfl | exact Or.inr rfl) only [e22_0, e22_1, e22_2, e22_5, e22_5n, e22_6, e22_6n, e22_7n, e22_7, e22_10, e22_11, e22_12, e22_13, e22_16, e22_18, e22_19, e22_20, e22_23, e22_25, e22_26, e22_27, e22_29, e22_30, e22_33, e22_35, e22_36, e22_37, e22_37n, e22_38, e22_41, e22_41n, e22_42, e22_44, e22_47, e22_50, e22_51, e22_52, e22_55, e22_56, e22_57, e22_60, e22_63, e22_65, e22_68, e22_71, ct_i, ct_r, ct_n, ct_h, opt_v, opt_s, ref_s, ref_n, eq_self_iff_true, true_or, or_true, zl0]
  exact this
end
