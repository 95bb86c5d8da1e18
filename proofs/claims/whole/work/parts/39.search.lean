/-! the class's search -/
section
variable {nd : Nat} {sh : Nat → Nat × Nat} {R : Nat → Nat → Option Nat}
theorem cPs (h : cK nd sh R) : (sh 8).1 = 3 ∧ (sh 9).1 = 100 ∧ (sh 9).2 = 6144 ∧ (sh 10).1 = 101 ∧ (sh 10).2 = 96 ∧ R 8 1 = some 9 ∧ R 8 2 = some 10 := by
  rw [c_s8 h, c_s9 h, c_s10 h]
  exact ⟨rfl, rfl, rfl, rfl, rfl, c_r8_1 h, c_r8_2 h⟩
end
theorem z_sh6 {s : Nat} (h : s < 6144) : nI s >>> (nI 6 &&& 31) = nI (s / 64) := pk_shrN (by omega) _ 6 (by decide)
theorem z_an63 {s : Nat} (h : s < 6144) : nI s &&& 63 = nI (s % 64) := pk_andN (by omega) 6 (by decide)
theorem z_or {x a : Nat} (k : Nat) (ha : a < 2 ^ k) (hx : x * 2 ^ k + a < 2 ^ 32) : nI (x * 2 ^ k) ||| nI a = nI (x * 2 ^ k + a) := by
  apply Int32.toBitVec_inj.mp
  apply BitVec.eq_of_toNat_eq
  rw [Int32.toBitVec_or, BitVec.toNat_or, pk_tn (by omega), pk_tn (by omega), pk_tn hx, Nat.mul_comm, Nat.two_pow_add_eq_or_of_lt ha]
theorem z_pack {s a : Nat} (hs : s < 6144) (ha : a < 8192) : nI s <<< (13 &&& 31) ||| nI a = nI (s * 8192 + a) := by
  rw [pk_shlN (13 &&& 31) 13 (by decide) (by omega)]
  exact z_or 13 ha (by omega)
theorem z_pS {s a : Nat} (hs : s < 6144) (ha : a < 8192) : nI (s * 8192 + a) >>> (13 &&& 31) = nI s := by
  rw [pk_shrN (by omega) (13 &&& 31) 13 (by decide)]
  congr 1; omega
theorem z_pP {s a : Nat} (hs : s < 6144) (ha : a < 8192) : nI (s * 8192 + a) &&& 8191 = nI a := by
  rw [pk_andN (by omega) 13 (by decide)]
  congr 1; omega
/-- the situations marked -/
def mkd (p : Nat → Bool) (L : Nat → Nat → Int64) : Prop := ∀ s, s < 6144 → bitL (L 10 (s / 64)) (s % 64) = p s
def qA (q : List (Nat × Nat)) (I : Nat → Nat → Int32) : Prop := I 8 0 = nI q.length ∧ ∀ k, k < q.length → I 9 k = nI (qS q k * 8192 + qP q k)
/-- what is kept of a list -/
def qB (q : List (Nat × Nat)) : Prop := q.length ≤ 6144 ∧ (∀ k, k < q.length → qS q k < 6144) ∧ (∀ k, k < q.length → qP q k < 6144)
theorem lg_cmpN (x : Int64) : lg_cmp x 0 = nI 0 ↔ x = 0 := lg_cmp0 x
section
variable {d nd : Nat} {D : Nat → Nat → Nat} {f : Nat → List Nat} {n t : Nat} {sh : Nat → Nat × Nat} {I : Nat → Nat → Int32} {L : Nat → Nat → Int64} {R : Nat → Nat → Option Nat} {I' : Nat → Nat → Int32} {Q : Option Value → aH → Prop}
theorem k47 (hd : 1 ≤ d) (hK : cK nd sh R) {p : Nat → Bool} (hm : mkd p L) {s : Nat} (hs : s < 6144) : aC d 47 [.ref 8, .int (nI s)] (n, t, sh, I, L, R) Q ↔ Q (some (.int (if p s = true then nI 1 else nI 0))) (n, t, sh, I, L, R) := by
  obtain ⟨d, rfl⟩ : ∃ e, d = e + 1 := ⟨d - 1, by omega⟩
  obtain ⟨h1, h2, h2', h3, h3', h4, h5⟩ := cPs hK
  have e := hm s hs
  unfold bitL at e
  have hw : s / 64 < 96 := by omega
  by_cases hp : p s = true
  · rw [hp] at e
    have e' := of_decide_eq_true e
    simp (disch := first | assumption | exact ct_i | exact ct_r | exact ct_n | exact ct_h | omega | exact z_in (by omega) (by omega) | exact b01 | exact Or.inl rfl | exact Or.inr rfl) only [b47, e47_0, e47_1, e47_3, e47_4, e47_5, e47_6, e47_9, e47_10, e47_11, e47_14, e47_15, e47_18, e47_19, e47_22, e47_23, e47_24, e47_25, e47_27, e47_28, e47_29, e47_30, e47_31, e47_32, e47_33, e47_36, e47_37, e47_40, e47_41, ct_i, ct_r, ct_n, ct_h, opt_v, opt_s, ref_s, ref_n, eq_self_iff_true, true_or, or_true, zl0, zl1, zl2, zl3, zl4, zl5, zl6, zl7, zl8, zl9, zl10, zl16, zl32, zl40, zl100, zl160, zIc1, zI_lt, zI_le, nI_eq, nI_add, z_sub, nI_clamp, zI_of, uu_eq, uu_ne, Nat.reduceLT, Nat.reduceLeDiff, Nat.reduceEqDiff, Nat.reduceAdd, Nat.reduceSub, Nat.reduceMul, Nat.not_lt_zero, Nat.lt_irrefl, Nat.le_refl, Bool.false_eq_true, false_and, and_false, true_and, and_true, if_pos, if_neg, if_true, if_false, not_true_eq_false, not_false_eq_true, h1, h3, h3', h5, z_sh6 hs, z_an63 hs, lg_cmpN, e', hp]
  · rw [(Bool.not_eq_true _).mp hp] at e
    have e' := Decidable.not_not.mp (of_decide_eq_false e)
    simp (disch := first | assumption | exact ct_i | exact ct_r | exact ct_n | exact ct_h | omega | exact z_in (by omega) (by omega) | exact b01 | exact Or.inl rfl | exact Or.inr rfl) only [b47, e47_0, e47_1, e47_3, e47_4, e47_5, e47_6, e47_9, e47_10, e47_11, e47_14, e47_15, e47_18, e47_19, e47_22, e47_23, e47_24, e47_25, e47_27, e47_28, e47_29, e47_30, e47_31, e47_32, e47_33, e47_36, e47_37, e47_40, e47_41, ct_i, ct_r, ct_n, ct_h, opt_v, opt_s, ref_s, ref_n, eq_self_iff_true, true_or, or_true, zl0, zl1, zl2, zl3, zl4, zl5, zl6, zl7, zl8, zl9, zl10, zl16, zl32, zl40, zl100, zl160, zIc1, zI_lt, zI_le, nI_eq, nI_add, z_sub, nI_clamp, zI_of, uu_eq, uu_ne, Nat.reduceLT, Nat.reduceLeDiff, Nat.reduceEqDiff, Nat.reduceAdd, Nat.reduceSub, Nat.reduceMul, Nat.not_lt_zero, Nat.lt_irrefl, Nat.le_refl, Bool.false_eq_true, false_and, and_false, true_and, and_true, if_pos, if_neg, if_true, if_false, not_true_eq_false, not_false_eq_true, h1, h3, h3', h5, z_sh6 hs, z_an63 hs, lg_cmpN, e', hp]
theorem k48 (hd : 1 ≤ d) (hK : cK nd sh R) {s : Nat} (hs : s < 6144) : aC d 48 [.ref 8, .int (nI s)] (n, t, sh, I, L, R) Q ↔ Q none (n, t, sh, I, u2 L 10 (s / 64) (L 10 (s / 64) ||| 1 <<< ((nI (s % 64)).toInt64 &&& 63)), R) := by
  obtain ⟨d, rfl⟩ : ∃ e, d = e + 1 := ⟨d - 1, by omega⟩
  obtain ⟨h1, h2, h2', h3, h3', h4, h5⟩ := cPs hK
  simp (disch := first | assumption | exact ct_i | exact ct_r | exact ct_n | exact ct_h | omega | exact z_in (by omega) (by omega) | exact b01 | exact Or.inl rfl | exact Or.inr rfl) only [b48, e48_0, e48_1, e48_3, e48_4, e48_5, e48_6, e48_9, e48_10, e48_11, e48_14, e48_15, e48_18, e48_19, e48_22, e48_23, e48_24, e48_25, e48_26, e48_27, e48_29, e48_30, e48_31, e48_32, e48_33, ct_i, ct_r, ct_n, ct_h, opt_v, opt_s, ref_s, ref_n, eq_self_iff_true, true_or, or_true, zl0, zl1, zl2, zl3, zl4, zl5, zl6, zl7, zl8, zl9, zl10, zl16, zl32, zl40, zl100, zl160, zIc1, zI_lt, zI_le, nI_eq, nI_add, z_sub, nI_clamp, zI_of, uu_eq, uu_ne, Nat.reduceLT, Nat.reduceLeDiff, Nat.reduceEqDiff, Nat.reduceAdd, Nat.reduceSub, Nat.reduceMul, Nat.not_lt_zero, Nat.lt_irrefl, Nat.le_refl, Bool.false_eq_true, false_and, and_false, true_and, and_true, if_pos, if_neg, if_true, if_false, not_true_eq_false, not_false_eq_true, h1, h3, h3', h5, z_sh6 hs, z_an63 hs]
theorem mkd_set {p : Nat → Bool} (hm : mkd p L) {s : Nat} (hs : s < 6144) : mkd (fun x => p x || decide (x = s)) (u2 L 10 (s / 64) (L 10 (s / 64) ||| 1 <<< ((nI (s % 64)).toInt64 &&& 63))) := by
  intro x hx
  have e := hm x hx
  by_cases hw : x / 64 = s / 64
  · rw [hw, uu_eq, bitL_or (by omega) (by omega), ← hw, e]
    congr 1
    exact decide_eq_decide.mpr (by omega)
  · rw [uu_ne _ _ _ _ (by omega), e]
    have : decide (x = s) = false := decide_eq_false (by omega)
    simp only [this, Bool.or_false]
theorem k49 (hd : 1 ≤ d) (hK : cK nd sh R) {q : List (Nat × Nat)} (hq : qA q I) (hB : qB q) {k : Nat} (hk : k < q.length) : aC d 49 [.ref 8, .int (nI k)] (n, t, sh, I, L, R) Q ↔ Q (some (.int (nI (qS q k)))) (n, t, sh, I, L, R) := by
  obtain ⟨d, rfl⟩ : ∃ e, d = e + 1 := ⟨d - 1, by omega⟩
  obtain ⟨h1, h2, h2', h3, h3', h4, h5⟩ := cPs hK
  have b1 := hB.1
  have b2 := hB.2.1 k hk
  have b3 := hB.2.2 k hk
  simp (disch := first | assumption | exact ct_i | exact ct_r | exact ct_n | exact ct_h | omega | exact z_in (by omega) (by omega) | exact b01 | exact Or.inl rfl | exact Or.inr rfl) only [b49, e49_0, e49_1, e49_4, e49_5, e49_6, e49_9, e49_12, e49_13, e49_14, e49_17, e49_18, e49_21, e49_22, e49_25, e49_26, e49_27, e49_29, e49_30, e49_33, e49_34, ct_i, ct_r, ct_n, ct_h, opt_v, opt_s, ref_s, ref_n, eq_self_iff_true, true_or, or_true, zl0, zl1, zl2, zl3, zl4, zl5, zl6, zl7, zl8, zl9, zl10, zl16, zl32, zl40, zl100, zl160, zIc1, zI_lt, zI_le, nI_eq, nI_add, z_sub, nI_clamp, zI_of, uu_eq, uu_ne, Nat.reduceLT, Nat.reduceLeDiff, Nat.reduceEqDiff, Nat.reduceAdd, Nat.reduceSub, Nat.reduceMul, Nat.not_lt_zero, Nat.lt_irrefl, Nat.le_refl, Bool.false_eq_true, false_and, and_false, true_and, and_true, if_pos, if_neg, if_true, if_false, not_true_eq_false, not_false_eq_true, h1, h2, h2', h4, hq.1, hq.2 k hk, z_pS b2 (show qP q k < 8192 by omega)]
theorem k53 (hd : 1 ≤ d) (hK : cK nd sh R) {q : List (Nat × Nat)} (hq : qA q I) (hB : qB q) {k : Nat} (hk : k < q.length) : aC d 53 [.ref 8, .int (nI k)] (n, t, sh, I, L, R) Q ↔ Q (some (.int (nI (qP q k)))) (n, t, sh, I, L, R) := by
  obtain ⟨d, rfl⟩ : ∃ e, d = e + 1 := ⟨d - 1, by omega⟩
  obtain ⟨h1, h2, h2', h3, h3', h4, h5⟩ := cPs hK
  have b1 := hB.1
  have b2 := hB.2.1 k hk
  have b3 := hB.2.2 k hk
  simp (disch := first | assumption | exact ct_i | exact ct_r | exact ct_n | exact ct_h | omega | exact z_in (by omega) (by omega) | exact b01 | exact Or.inl rfl | exact Or.inr rfl) only [b53, e53_0, e53_1, e53_4, e53_5, e53_6, e53_9, e53_12, e53_13, e53_14, e53_17, e53_18, e53_21, e53_22, e53_25, e53_26, e53_27, e53_30, e53_31, e53_34, e53_35, ct_i, ct_r, ct_n, ct_h, opt_v, opt_s, ref_s, ref_n, eq_self_iff_true, true_or, or_true, zl0, zl1, zl2, zl3, zl4, zl5, zl6, zl7, zl8, zl9, zl10, zl16, zl32, zl40, zl100, zl160, zIc1, zI_lt, zI_le, nI_eq, nI_add, z_sub, nI_clamp, zI_of, uu_eq, uu_ne, Nat.reduceLT, Nat.reduceLeDiff, Nat.reduceEqDiff, Nat.reduceAdd, Nat.reduceSub, Nat.reduceMul, Nat.not_lt_zero, Nat.lt_irrefl, Nat.le_refl, Bool.false_eq_true, false_and, and_false, true_and, and_true, if_pos, if_neg, if_true, if_false, not_true_eq_false, not_false_eq_true, h1, h2, h2', h4, hq.1, hq.2 k hk, z_pP b2 (show qP q k < 8192 by omega)]
theorem k46m (hd : 2 ≤ d) (hK : cK nd sh R) {p : Nat → Bool} (hm : mkd p L) {s a z : Nat} (hs : s < 6144) (hp : p s = true) (hz : I 8 0 = nI z) (hz2 : z ≤ 6144) : aC d 46 [.ref 8, .int (nI s), .int (nI a)] (n, t, sh, I, L, R) Q ↔ Q none (n, t, sh, I, L, R) := by
  obtain ⟨d, rfl⟩ : ∃ e, d = e + 1 := ⟨d - 1, by omega⟩
  obtain ⟨h1, h2, h2', h3, h3', h4, h5⟩ := cPs hK
  simp (disch := first | assumption | exact ct_i | exact ct_r | exact ct_n | exact ct_h | omega | exact z_in (by omega) (by omega) | exact b01 | exact Or.inl rfl | exact Or.inr rfl) only [b46, e46_0, e46_1, e46_4, e46_5, e46_8, e46_9, e46_12, e46_13, e46_14, e46_17, e46_20, e46_21, e46_22, e46_23, e46_26, e46_27, e46_30, e46_31, e46_34, e46_35, e46_37, e46_38, e46_39, e46_40, e46_41, e46_42, e46_43, e46_46, e46_47, e46_48, e46_51, ct_i, ct_r, ct_n, ct_h, opt_v, opt_s, ref_s, ref_n, eq_self_iff_true, true_or, or_true, zl0, zl1, zl2, zl3, zl4, zl5, zl6, zl7, zl8, zl9, zl10, zl16, zl32, zl40, zl100, zl160, zIc1, zI_lt, zI_le, nI_eq, nI_add, z_sub, nI_clamp, zI_of, uu_eq, uu_ne, Nat.reduceLT, Nat.reduceLeDiff, Nat.reduceEqDiff, Nat.reduceAdd, Nat.reduceSub, Nat.reduceMul, Nat.not_lt_zero, Nat.lt_irrefl, Nat.le_refl, Bool.false_eq_true, false_and, and_false, true_and, and_true, if_pos, if_neg, if_true, if_false, not_true_eq_false, not_false_eq_true, h1, h2, h2', h4, hz, k47 (show 1 ≤ d by omega) hK hm hs, hp, ite_self]
theorem k46 (hd : 2 ≤ d) (hK : cK nd sh R) {p : Nat → Bool} (hm : mkd p L) {s a z : Nat} (hs : s < 6144) (ha : a < 8192) (hp : ¬ p s = true) (hz : I 8 0 = nI z) (hz2 : z < 6144) : aC d 46 [.ref 8, .int (nI s), .int (nI a)] (n, t, sh, I, L, R) Q ↔
    Q none (n, t, sh, u2 (u2 I 9 z (nI (s * 8192 + a))) 8 0 (nI (z + 1)), u2 L 10 (s / 64) (L 10 (s / 64) ||| 1 <<< ((nI (s % 64)).toInt64 &&& 63)), R) := by
  obtain ⟨d, rfl⟩ : ∃ e, d = e + 1 := ⟨d - 1, by omega⟩
  obtain ⟨h1, h2, h2', h3, h3', h4, h5⟩ := cPs hK
  simp (disch := first | assumption | exact ct_i | exact ct_r | exact ct_n | exact ct_h | omega | exact z_in (by omega) (by omega) | exact b01 | exact Or.inl rfl | exact Or.inr rfl) only [b46, e46_0, e46_1, e46_4, e46_5, e46_8, e46_9, e46_12, e46_13, e46_14, e46_17, e46_20, e46_21, e46_22, e46_23, e46_26, e46_27, e46_30, e46_31, e46_34, e46_35, e46_37, e46_38, e46_39, e46_40, e46_41, e46_42, e46_43, e46_46, e46_47, e46_48, e46_51, ct_i, ct_r, ct_n, ct_h, opt_v, opt_s, ref_s, ref_n, eq_self_iff_true, true_or, or_true, zl0, zl1, zl2, zl3, zl4, zl5, zl6, zl7, zl8, zl9, zl10, zl16, zl32, zl40, zl100, zl160, zIc1, zI_lt, zI_le, nI_eq, nI_add, z_sub, nI_clamp, zI_of, uu_eq, uu_ne, Nat.reduceLT, Nat.reduceLeDiff, Nat.reduceEqDiff, Nat.reduceAdd, Nat.reduceSub, Nat.reduceMul, Nat.not_lt_zero, Nat.lt_irrefl, Nat.le_refl, Bool.false_eq_true, false_and, and_false, true_and, and_true, if_pos, if_neg, if_true, if_false, not_true_eq_false, not_false_eq_true, h1, h2, h2', h4, hz, k47 (show 1 ≤ d by omega) hK hm hs, hp, k48 (show 1 ≤ d by omega) hK hs, z_pack hs ha]
end
