/-! the class's house -/
section
variable {nd : Nat} {sh : Nat → Nat × Nat} {R : Nat → Nat → Option Nat}
theorem cPh (h : cK nd sh R) : (sh 1).1 = 1 ∧ (sh 2).1 = 110 ∧ (sh 2).2 = 4 ∧ (sh 3).1 = 100 ∧ (sh 3).2 = 6 ∧ R 1 2 = some 2 ∧ R 1 3 = some 3 ∧ nd ≤ 4 := by
  rw [c_s1 h, c_s2 h, c_s3 h]
  exact ⟨rfl, rfl, rfl, rfl, rfl, c_r1_2 h, c_r1_3 h, c_nd h⟩
theorem cPd (h : cK nd sh R) {i : Nat} (hi : i < nd) : (sh (47 + i)).1 = 0 ∧ R 2 i = some (47 + i) := by
  rw [c_sD h hi]
  exact ⟨rfl, c_rD h hi⟩
theorem cPt (h : cK nd sh R) {r : Nat} (hr : r < 6) : tK (23 + 4 * r) (24 + 4 * r) (25 + 4 * r) (26 + 4 * r) sh R := by
  rcases (show r = 0 ∨ r = 1 ∨ r = 2 ∨ r = 3 ∨ r = 4 ∨ r = 5 by omega) with rfl | rfl | rfl | rfl | rfl | rfl
  · simp only [tK, Nat.reduceMul, Nat.reduceAdd, c_s23 h, c_s24 h, c_s25 h, c_s26 h, c_r23_0 h, c_r23_1 h, c_r23_2 h]; decide
  · simp only [tK, Nat.reduceMul, Nat.reduceAdd, c_s27 h, c_s28 h, c_s29 h, c_s30 h, c_r27_0 h, c_r27_1 h, c_r27_2 h]; decide
  · simp only [tK, Nat.reduceMul, Nat.reduceAdd, c_s31 h, c_s32 h, c_s33 h, c_s34 h, c_r31_0 h, c_r31_1 h, c_r31_2 h]; decide
  · simp only [tK, Nat.reduceMul, Nat.reduceAdd, c_s35 h, c_s36 h, c_s37 h, c_s38 h, c_r35_0 h, c_r35_1 h, c_r35_2 h]; decide
  · simp only [tK, Nat.reduceMul, Nat.reduceAdd, c_s39 h, c_s40 h, c_s41 h, c_s42 h, c_r39_0 h, c_r39_1 h, c_r39_2 h]; decide
  · simp only [tK, Nat.reduceMul, Nat.reduceAdd, c_s43 h, c_s44 h, c_s45 h, c_s46 h, c_r43_0 h, c_r43_1 h, c_r43_2 h]; decide
end
/-- the doors' numbers: of door i the rooms (0, 1), the key (2), the number (3), the kind (4) -/
def dB (nd : Nat) (D : Nat → Nat → Nat) : Prop := ∀ i, i < nd → D i 0 < 6 ∧ D i 1 < 6 ∧ D i 2 < 4 ∧ D i 3 < 10 ∧ D i 4 < 6
def hD (nd : Nat) (D : Nat → Nat → Nat) (I : Nat → Nat → Int32) : Prop := I 1 1 = nI nd ∧ ∀ i, i < nd → ∀ k, k < 5 → I (47 + i) k = nI (D i k)
/-- a text's parts; the values of names; what a part comes to -/
def nmv (i st tn rm ks ot : Nat) : Nat → Int32
  | 0 => nI i | 1 => nI st | 2 => nI tn | 3 => nI rm | 4 => nI ks | _ => nI ot
def tval (f : Nat → List Nat) (p : Nat) (nm : Nat → Int32) : Int32 := (evs nm (f p) []).headD 0
def bey (D : Nat → Nat → Nat) (i rm : Nat) : Nat := if rm = D i 0 then D i 1 else D i 0
def opn (f : Nat → List Nat) (D : Nat → Nat → Nat) (i st tn ks rm : Nat) : Bool := opk (D i 4) st tn ks (D i 3) && decide (tval f 0 (nmv i st tn rm ks (bey D i rm)) = 0)
def mC (nd : Nat) (D : Nat → Nat → Nat) (f : Nat → List Nat) (L : Nat → Nat → Int64) : Prop := ∀ i, i < nd → ∀ st, st < 4 → ∀ tn, tn < 4 → ∀ ks, ks < 4 →
  bitL (L (47 + i) 5) (st * 16 + tn * 4 + ks) = opn f D i st tn ks (D i 0) ∧ bitL (L (47 + i) 6) (st * 16 + tn * 4 + ks) = opn f D i st tn ks (D i 1)
def kst (nd : Nat) (D : Nat → Nat → Nat) (s i : Nat) : Nat := if D i 2 < nd then stt s (D i 2) else 0
def opS (nd : Nat) (D : Nat → Nat → Nat) (f : Nat → List Nat) (s i : Nat) : Bool := opn f D i (stt s i) (tno s) (kst nd D s i) (rmo s)
def aft (D : Nat → Nat → Nat) (s i : Nat) : Nat := wrm (wtn (wst s i (nxt (D i 4) (stt s i))) ((tno s + 1) % 4)) (bey D i (rmo s))
def bh (nd : Nat) (D : Nat → Nat → Nat) (f : Nat → List Nat) (s i : Nat) : Option Nat := if i < nd ∧ (rmo s = D i 0 ∨ rmo s = D i 1) ∧ opS nd D f s i = true then some (aft D s i) else none
def oI : Option Nat → Int32
  | some s => nI s
  | none => -nI 1
theorem stt_lt {s d : Nat} : stt s d < 4 := Nat.mod_lt _ (by decide)
theorem tno_lt {s : Nat} : tno s < 4 := Nat.mod_lt _ (by decide)
theorem rmo_lt {s : Nat} (h : s < 6144) : rmo s < 6 := by unfold rmo; omega
theorem kst_lt {nd : Nat} {D : Nat → Nat → Nat} {s i : Nat} : kst nd D s i < 4 := by
  unfold kst; split
  · exact stt_lt
  · decide
theorem bey_lt {nd : Nat} {D : Nat → Nat → Nat} (h : dB nd D) {i rm : Nat} (hi : i < nd) : bey D i rm < 6 := by
  have := h i hi
  unfold bey; split <;> omega
theorem wst_lt {s d v : Nat} (hs : s < 6144) (hd : d < 4) (hv : v < 4) : wst s d v < 6144 := by
  unfold wst stt
  rcases (show d = 0 ∨ d = 1 ∨ d = 2 ∨ d = 3 by omega) with rfl | rfl | rfl | rfl <;> simp <;> omega
theorem wtn_lt {s v : Nat} (hs : s < 6144) (hv : v < 4) : wtn s v < 6144 := by unfold wtn; omega
theorem wrm_lt {s r : Nat} (hr : r < 6) : wrm s r < 6144 := by unfold wrm; omega
theorem aft_lt {nd : Nat} {D : Nat → Nat → Nat} (h : dB nd D) {s i : Nat} (hi : i < nd) : aft D s i < 6144 := wrm_lt (bey_lt h hi)
section
variable {d nd : Nat} {D : Nat → Nat → Nat} {f : Nat → List Nat} {n t : Nat} {sh : Nat → Nat × Nat} {I : Nat → Nat → Int32} {L : Nat → Nat → Int64} {R : Nat → Nat → Option Nat} {Q : Option Value → aH → Prop}
theorem k11 (hd : 1 ≤ d) (hK : cK nd sh R) (hI : hD nd D I) {i : Nat} (hi : i < nd) : aC d 11 [.ref 1, .int (nI i)] (n, t, sh, I, L, R) Q ↔ Q (some (.ref (47 + i))) (n, t, sh, I, L, R) := by
  obtain ⟨d, rfl⟩ : ∃ e, d = e + 1 := ⟨d - 1, by omega⟩
  obtain ⟨h1, h2, h2', h3, h3', h4, h5, h6⟩ := cPh hK
  simp (disch := first | assumption | exact ct_i | exact ct_r | exact ct_n | exact ct_h | omega | exact z_in (by omega) (by omega) | exact Or.inl rfl | exact Or.inr rfl) only [b11, e11_0, e11_1, e11_4, e11_5, e11_6, e11_9, e11_12, e11_13, e11_14, e11_17, e11_18, e11_21, e11_22, e11_23, e11_26, e11_27, e11_27n, ct_i, ct_r, ct_n, ct_h, opt_v, opt_s, ref_s, ref_n, eq_self_iff_true, true_or, or_true, zl0, zl1, zl2, zl3, zl4, zl5, zl6, zl7, zl8, zl9, zl10, zl16, zl32, zl40, zl100, zl160, zIc1, zI_lt, zI_le, nI_eq, nI_add, z_sub, nI_clamp, zI_of, uu_eq, uu_ne, Nat.reduceLT, Nat.reduceLeDiff, Nat.reduceEqDiff, Nat.reduceAdd, Nat.reduceSub, Nat.reduceMul, Nat.not_lt_zero, Nat.lt_irrefl, Nat.le_refl, if_pos, if_neg, if_true, if_false, not_true_eq_false, not_false_eq_true, h1, hI.1, h4, h2, h2', (cPd hK hi).2]
theorem k11n (hd : 1 ≤ d) (hK : cK nd sh R) (hI : hD nd D I) {x : Int32} (hx : x < nI 0 ∨ nI nd ≤ x) : aC d 11 [.ref 1, .int x] (n, t, sh, I, L, R) Q ↔ Q (some .null) (n, t, sh, I, L, R) := by
  obtain ⟨d, rfl⟩ : ∃ e, d = e + 1 := ⟨d - 1, by omega⟩
  obtain ⟨h1, h2, h2', h3, h3', h4, h5, h6⟩ := cPh hK
  simp (disch := assumption) only [b11, e11_0, e11_1, e11_4, e11_5, e11_6, e11_9, e11_12, e11_13, e11_14, e11_17, e11_18, e11_21, e11_22, e11_23, e11_26, e11_27, e11_27n, ct_i, ct_r, ct_n, ct_h, opt_v, opt_s, ref_s, ref_n, eq_self_iff_true, true_or, or_true, h1, hI.1, zl0]
  rcases hx with hx | hx
  · rw [if_pos hx]
  · rw [if_pos hx, ite_self]
theorem k14 (hd : 1 ≤ d) (hK : cK nd sh R) {rc i : Nat} (hc : I 1 0 = nI rc) (hr : rc ≤ 6) (hi : i < rc) : aC d 14 [.ref 1, .int (nI i)] (n, t, sh, I, L, R) Q ↔ Q (some (.int (nI 1))) (n, t, sh, I, L, R) := by
  obtain ⟨d, rfl⟩ : ∃ e, d = e + 1 := ⟨d - 1, by omega⟩
  obtain ⟨h1, h2, h2', h3, h3', h4, h5, h6⟩ := cPh hK
  simp (disch := first | assumption | exact ct_i | exact ct_r | exact ct_n | exact ct_h | omega | exact z_in (by omega) (by omega) | exact Or.inl rfl | exact Or.inr rfl) only [b14, e14_0, e14_1, e14_4, e14_5, e14_6, e14_9, e14_12, e14_13, e14_16, e14_17, ct_i, ct_r, ct_n, ct_h, opt_v, opt_s, ref_s, ref_n, eq_self_iff_true, true_or, or_true, zl0, zl1, zl2, zl3, zl4, zl5, zl6, zl7, zl8, zl9, zl10, zl16, zl32, zl40, zl100, zl160, zIc1, zI_lt, zI_le, nI_eq, nI_add, z_sub, nI_clamp, zI_of, uu_eq, uu_ne, Nat.reduceLT, Nat.reduceLeDiff, Nat.reduceEqDiff, Nat.reduceAdd, Nat.reduceSub, Nat.reduceMul, Nat.not_lt_zero, Nat.lt_irrefl, Nat.le_refl, if_pos, if_neg, if_true, if_false, not_true_eq_false, not_false_eq_true, h1, hc]
theorem k14n (hd : 1 ≤ d) (hK : cK nd sh R) {rc : Nat} (hc : I 1 0 = nI rc) (hr : rc ≤ 6) {x : Int32} (hx : x < nI 0 ∨ nI rc ≤ x) : aC d 14 [.ref 1, .int x] (n, t, sh, I, L, R) Q ↔ Q (some (.int (nI 0))) (n, t, sh, I, L, R) := by
  obtain ⟨d, rfl⟩ : ∃ e, d = e + 1 := ⟨d - 1, by omega⟩
  obtain ⟨h1, h2, h2', h3, h3', h4, h5, h6⟩ := cPh hK
  have e : ∀ {α : Prop}, (if x < nI 0 then α else if nI rc ≤ x then α else Q (some (.int (nI 1))) (n, t, sh, I, L, R)) ↔ α := by
    intro α
    rcases hx with hx | hx
    · rw [if_pos hx]
    · rw [if_pos hx, ite_self]
  simp (disch := first | assumption | exact ct_i | exact ct_r | exact ct_n | exact ct_h | omega | exact z_in (by omega) (by omega) | exact Or.inl rfl | exact Or.inr rfl) only [b14, e14_0, e14_1, e14_4, e14_5, e14_6, e14_9, e14_12, e14_13, e14_16, e14_17, ct_i, ct_r, ct_n, ct_h, opt_v, opt_s, ref_s, ref_n, eq_self_iff_true, true_or, or_true, h1, hc, zl0, zl1, e]
theorem k18 (hd : 2 ≤ d) (hK : cK nd sh R) (hI : hD nd D I) (hB : dB nd D) {s i : Nat} (hs : s < 6144) (hi : i < nd) : aC d 18 [.ref 1, .int (nI s), .ref (47 + i)] (n, t, sh, I, L, R) Q ↔ Q (some (.int (nI (kst nd D s i)))) (n, t, sh, I, L, R) := by
  obtain ⟨d, rfl⟩ : ∃ e, d = e + 1 := ⟨d - 1, by omega⟩
  obtain ⟨h1, h2, h2', h3, h3', h4, h5, h6⟩ := cPh hK
  obtain ⟨g1, g2⟩ := cPd hK hi
  have e := hI.2 i hi 2 (by decide)
  have hb := hB i hi
  by_cases h : D i 2 < nd
  · simp (disch := first | assumption | exact ct_i | exact ct_r | exact ct_n | exact ct_h | omega | exact z_in (by omega) (by omega) | exact Or.inl rfl | exact Or.inr rfl) only [b18, e18_0, e18_1, e18_1n, e18_2, e18_5, e18_8n, e18_8, e18_11, e18_12, e18_15, e18_16, e18_16n, e18_17, e18_20, e18_23, ct_i, ct_r, ct_n, ct_h, opt_v, opt_s, ref_s, ref_n, eq_self_iff_true, true_or, or_true, zl0, zl1, zl2, zl3, zl4, zl5, zl6, zl7, zl8, zl9, zl10, zl16, zl32, zl40, zl100, zl160, zIc1, zI_lt, zI_le, nI_eq, nI_add, z_sub, nI_clamp, zI_of, uu_eq, uu_ne, Nat.reduceLT, Nat.reduceLeDiff, Nat.reduceEqDiff, Nat.reduceAdd, Nat.reduceSub, Nat.reduceMul, Nat.not_lt_zero, Nat.lt_irrefl, Nat.le_refl, if_pos, if_neg, if_true, if_false, not_true_eq_false, not_false_eq_true, h1, g1, e, k11 (show 1 ≤ d by omega) hK hI h, k194 (show 1 ≤ d by omega) hs (show D i 2 < 4 by omega), kst]
  · have hn : nI (D i 2) < nI 0 ∨ nI nd ≤ nI (D i 2) := Or.inr ((zI_le (by omega) (by omega)).mpr (by omega))
    simp (disch := first | assumption | exact ct_i | exact ct_r | exact ct_n | exact ct_h | omega | exact z_in (by omega) (by omega) | exact Or.inl rfl | exact Or.inr rfl) only [b18, e18_0, e18_1, e18_1n, e18_2, e18_5, e18_8n, e18_8, e18_11, e18_12, e18_15, e18_16, e18_16n, e18_17, e18_20, e18_23, ct_i, ct_r, ct_n, ct_h, opt_v, opt_s, ref_s, ref_n, eq_self_iff_true, true_or, or_true, zl0, zl1, zl2, zl3, zl4, zl5, zl6, zl7, zl8, zl9, zl10, zl16, zl32, zl40, zl100, zl160, zIc1, zI_lt, zI_le, nI_eq, nI_add, z_sub, nI_clamp, zI_of, uu_eq, uu_ne, Nat.reduceLT, Nat.reduceLeDiff, Nat.reduceEqDiff, Nat.reduceAdd, Nat.reduceSub, Nat.reduceMul, Nat.not_lt_zero, Nat.lt_irrefl, Nat.le_refl, if_pos, if_neg, if_true, if_false, not_true_eq_false, not_false_eq_true, h1, g1, e, k11n (show 1 ≤ d by omega) hK hI hn, kst]
end
