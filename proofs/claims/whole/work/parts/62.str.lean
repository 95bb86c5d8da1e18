/-! the constant strings: length, charAt, indexOf -/
def wb (i j : Nat) : Nat := ((a_bytes.getD i []).getD j 0).toNatClampNeg
def wn (i : Nat) : Nat := (a_bytes.getD i []).length
theorem wb_c0 : ∀ j, j < 57 → (a_bytes.getD 0 []).getD j 0 = nI (wb 0 j) ∧ wb 0 j < 128 := by decide
theorem wb_c1 : ∀ j, j < 8 → (a_bytes.getD 1 []).getD j 0 = nI (wb 1 j) ∧ wb 1 j < 128 := by decide
theorem wb_c2 : ∀ j, j < 41 → (a_bytes.getD 2 []).getD j 0 = nI (wb 2 j) ∧ wb 2 j < 128 := by decide
theorem wb_c {i j : Nat} (hi : i < 3) (hj : j < wn i) : (a_bytes.getD i []).getD j (nI 0) = nI (wb i j) ∧ wb i j < 128 := by
  rcases (show i = 0 ∨ i = 1 ∨ i = 2 by omega) with rfl | rfl | rfl
  · exact wb_c0 j hj
  · exact wb_c1 j hj
  · exact wb_c2 j hj
theorem ck_c {i : Nat} (hi : i < 3) : (a_ck (1000000 + i)).1 = 1 ∧ (a_ck (1000000 + i)).2 = i ∧ (a_ck (1000010 + i)).1 = 2 ∧ (a_ck (1000010 + i)).2 = i ∧ wn i < 100 ∧ (a_bytes.getD i []).length = wn i ∧ Int32.ofNat (wn i) = nI (wn i) := by
  rcases (show i = 0 ∨ i = 1 ∨ i = 2 by omega) with rfl | rfl | rfl <;> exact ⟨rfl, rfl, rfl, rfl, by decide, rfl, rfl⟩
theorem hs_c {sh : Nat → Nat × Nat} (hs : ∀ x, 1000000 ≤ x → sh x = (999, 0)) {x : Nat} (hx : 1000000 ≤ x) : ¬ (100 ≤ (sh x).1 ∧ (sh x).1 < 118) := by
  rw [hs x hx]; decide
theorem c16 {k : Nat} (h : k < 65536) : nI k = ((nI k).toUInt32 % 65536).toInt32 := by
  apply Int32.toBitVec_inj.mp
  apply BitVec.eq_of_toNat_eq
  have e : (nI k).toBitVec.toNat = k % 4294967296 := rfl
  simp only [Int32.toBitVec_toUInt32, UInt32.toBitVec_toInt32, UInt32.toBitVec_mod, BitVec.toNat_umod, e]
  simp
  omega
theorem c255 {k : Nat} (h : k < 256) : nI k &&& 255 = nI k := by
  rw [pk_and _ 8 (by decide)]
  congr 1
  have e : (nI k).toBitVec.toNat = k % 4294967296 := rfl
  rw [e]; omega
section
variable {d : Nat} {n t : Nat} {sh : Nat → Nat × Nat} {I : Nat → Nat → Int32} {L : Nat → Nat → Int64} {R : Nat → Nat → Option Nat} {Q : Option Value → aH → Prop} {i : Nat}
theorem k203 (hd : 1 ≤ d) (hi : i < 3) : aC d 203 [.ref (1000000 + i)] (n, t, sh, I, L, R) Q ↔ Q (some (.int (nI 0))) (n, t, sh, I, L, R) := by
  obtain ⟨d, rfl⟩ : ∃ e, d = e + 1 := ⟨d - 1, by omega⟩
  obtain ⟨h1, h2, h3, h4, h5, h6⟩ := ck_c hi
  have e0 : nI 0 = (nI 0).toInt8.toInt32 := by decide
  simp (disch := first | assumption | exact ct_i | exact ct_r | exact ct_n | exact ct_h | omega | exact z_in (by omega) (by omega) | exact b01 | exact Or.inl rfl | exact Or.inr rfl) only [b203, e203_0, e203_3, e203_6, e203_7, e203_10, e203_13, e203_14, ct_i, ct_r, ct_n, ct_h, opt_v, opt_s, ref_s, ref_n, eq_self_iff_true, true_or, or_true, zl0, zl1, zl2, zl3, zl4, zl5, zl6, zl7, zl8, zl9, zl10, zl16, zl32, zl40, zl100, zl160, zIc1, zI_lt, zI_le, nI_eq, nI_add, z_sub, nI_clamp, zI_of, uu_eq, uu_ne, Nat.reduceLT, Nat.reduceLeDiff, Nat.reduceEqDiff, Nat.reduceAdd, Nat.reduceSub, Nat.reduceMul, Nat.not_lt_zero, Nat.lt_irrefl, Nat.le_refl, Bool.false_eq_true, false_and, and_false, true_and, and_true, if_pos, if_neg, if_true, if_false, not_true_eq_false, not_false_eq_true, h1, if_neg (show ¬ (1 : Int32) = 0 by decide)]
theorem k205 (hd : 1 ≤ d) (hi : i < 3) : aC d 205 [.ref (1000000 + i)] (n, t, sh, I, L, R) Q ↔ Q (some (.int (nI 1))) (n, t, sh, I, L, R) := by
  obtain ⟨d, rfl⟩ : ∃ e, d = e + 1 := ⟨d - 1, by omega⟩
  obtain ⟨h1, h2, h3, h4, h5, h6⟩ := ck_c hi
  simp (disch := first | assumption | exact ct_i | exact ct_r | exact ct_n | exact ct_h | omega | exact z_in (by omega) (by omega) | exact b01 | exact Or.inl rfl | exact Or.inr rfl) only [b205, e205_0, e205_3, e205_6, e205_7, e205_10, e205_13, e205_14, e205_17, e205_18, ct_i, ct_r, ct_n, ct_h, opt_v, opt_s, ref_s, ref_n, eq_self_iff_true, true_or, or_true, zl0, zl1, zl2, zl3, zl4, zl5, zl6, zl7, zl8, zl9, zl10, zl16, zl32, zl40, zl100, zl160, zIc1, zI_lt, zI_le, nI_eq, nI_add, z_sub, nI_clamp, zI_of, uu_eq, uu_ne, Nat.reduceLT, Nat.reduceLeDiff, Nat.reduceEqDiff, Nat.reduceAdd, Nat.reduceSub, Nat.reduceMul, Nat.not_lt_zero, Nat.lt_irrefl, Nat.le_refl, Bool.false_eq_true, false_and, and_false, true_and, and_true, if_pos, if_neg, if_true, if_false, not_true_eq_false, not_false_eq_true, h1, if_neg (show ¬ (1 : Int32) = 0 by decide)]
theorem k202 (hd : 2 ≤ d) (hi : i < 3) (hs : ∀ x, 1000000 ≤ x → sh x = (999, 0)) : aC d 202 [.ref (1000000 + i)] (n, t, sh, I, L, R) Q ↔ Q (some (.int (nI (wn i)))) (n, t, sh, I, L, R) := by
  obtain ⟨d, rfl⟩ : ∃ e, d = e + 1 := ⟨d - 1, by omega⟩
  obtain ⟨h1, h2, h3, h4, h5, h6, h7⟩ := ck_c hi
  have g := hs_c hs (show 1000000 ≤ 1000010 + i by omega)
  have e0 : nI (wn i) >>> (nI 0 &&& 31) = nI (wn i) := by
    rw [show nI 0 &&& 31 = 0 by decide]; exact Int32.shiftRight_zero
  simp (disch := first | assumption | exact ct_i | exact ct_r | exact ct_n | exact ct_h | omega | exact z_in (by omega) (by omega) | exact b01 | exact Or.inl rfl | exact Or.inr rfl) only [b202, e202_0, e202_1, e202_4, e202_4c, e202_5, e202_6, e202_9, e202_10, ct_i, ct_r, ct_n, ct_h, opt_v, opt_s, ref_s, ref_n, eq_self_iff_true, true_or, or_true, zl0, zl1, zl2, zl3, zl4, zl5, zl6, zl7, zl8, zl9, zl10, zl16, zl32, zl40, zl100, zl160, zIc1, zI_lt, zI_le, nI_eq, nI_add, z_sub, nI_clamp, zI_of, uu_eq, uu_ne, Nat.reduceLT, Nat.reduceLeDiff, Nat.reduceEqDiff, Nat.reduceAdd, Nat.reduceSub, Nat.reduceMul, Nat.not_lt_zero, Nat.lt_irrefl, Nat.le_refl, Bool.false_eq_true, false_and, and_false, true_and, and_true, if_true, if_false, not_true_eq_false, not_false_eq_true, h1, h2, h3, h4, g, k203 (show 1 ≤ d by omega) hi, h6, h7, e0]
theorem b213f {x0 x1 : Int32} {h : aH} : aC (d + 1) 213 [.int x0, .int x1, .float 7] h Q ↔ aE (a_cl_ d) 213 (0, [.int x0, .int x1, .float 7], [], h) Q := aC_succ (m := 213) (args := [.int x0, .int x1, .float 7]) (Nat.le_of_ble_eq_true rfl)
theorem k213 (hd : 1 ≤ d) {x y : Nat} (hx : x < y) (hy : y < 2000) : aC d 213 [.int (nI x), .int (nI y), .float 7] (n, t, sh, I, L, R) Q ↔ Q (some (.int (nI x))) (n, t, sh, I, L, R) := by
  obtain ⟨d, rfl⟩ : ∃ e, d = e + 1 := ⟨d - 1, by omega⟩
  simp (disch := first | assumption | exact ct_i | exact ct_r | exact ct_n | exact ct_h | omega | exact z_in (by omega) (by omega) | exact b01 | exact Or.inl rfl | exact Or.inr rfl) only [b213f, e213_0, e213_1, e213_4, e213_5, e213_6, e213_9, e213_9n, e213_10, e213_11, e213_16, e213_17, ct_i, ct_r, ct_n, ct_h, opt_v, opt_s, ref_s, ref_n, eq_self_iff_true, true_or, or_true, zl0, zl1, zl2, zl3, zl4, zl5, zl6, zl7, zl8, zl9, zl10, zl16, zl32, zl40, zl100, zl160, zIc1, zI_lt, zI_le, nI_eq, nI_add, z_sub, nI_clamp, zI_of, uu_eq, uu_ne, Nat.reduceLT, Nat.reduceLeDiff, Nat.reduceEqDiff, Nat.reduceAdd, Nat.reduceSub, Nat.reduceMul, Nat.not_lt_zero, Nat.lt_irrefl, Nat.le_refl, Bool.false_eq_true, false_and, and_false, true_and, and_true, if_pos, if_neg, if_true, if_false, not_true_eq_false, not_false_eq_true]
theorem k206 (hd : 2 ≤ d) {x y : Nat} (hx : x < y) (hy : y < 2000) : aC d 206 [.int (nI x), .int (nI y)] (n, t, sh, I, L, R) Q ↔ Q none (n, t, sh, I, L, R) := by
  obtain ⟨d, rfl⟩ : ∃ e, d = e + 1 := ⟨d - 1, by omega⟩
  simp (disch := first | assumption | exact ct_i | exact ct_r | exact ct_n | exact ct_h | omega | exact z_in (by omega) (by omega) | exact b01 | exact Or.inl rfl | exact Or.inr rfl) only [b206, e206_0, e206_1, e206_2, e206_5, e206_8, e206_9, ct_i, ct_r, ct_n, ct_h, opt_v, opt_s, ref_s, ref_n, eq_self_iff_true, true_or, or_true, k213 (show 1 ≤ d by omega) hx hy]
theorem k209 (hd : 3 ≤ d) (hi : i < 3) (hs : ∀ x, 1000000 ≤ x → sh x = (999, 0)) {j : Nat} (hj : j < wn i) : aC d 209 [.ref (1000010 + i), .int (nI j)] (n, t, sh, I, L, R) Q ↔ Q (some (.int (nI (wb i j)))) (n, t, sh, I, L, R) := by
  obtain ⟨d, rfl⟩ : ∃ e, d = e + 1 := ⟨d - 1, by omega⟩
  obtain ⟨h1, h2, h3, h4, h5, h6, h7⟩ := ck_c hi
  have g := hs_c hs (show 1000000 ≤ 1000010 + i by omega)
  obtain ⟨w1, w2⟩ := wb_c hi hj
  have w3 : nI (wb i j) &&& 255 = nI (wb i j) := c255 (by omega)
  have w4 := c16 (show wb i j < 65536 by omega)
  have w5 : ((nI (wb i j)).toUInt32 % 65536).toInt32 = nI (wb i j) := w4.symm
  have hv : vp_in (nI j) (a_bytes.getD (a_ck (1000010 + i)).2 []).length := by rw [h4, h6]; exact z_in hj (by omega)
  simp (disch := first | assumption | exact ct_i | exact ct_r | exact ct_n | exact ct_h | omega | exact z_in (by omega) (by omega) | exact b01 | exact Or.inl rfl | exact Or.inr rfl) only [b209, e209_0, e209_1, e209_1n, e209_2, e209_2c, e209_3, e209_6, e209_6n, e209_7, e209_8, e209_9, e209_12, e209_13, e209_14, ct_i, ct_r, ct_n, ct_h, opt_v, opt_s, ref_s, ref_n, eq_self_iff_true, true_or, or_true, zl0, zl1, zl2, zl3, zl4, zl5, zl6, zl7, zl8, zl9, zl10, zl16, zl32, zl40, zl100, zl160, zIc1, zI_lt, zI_le, nI_eq, nI_add, z_sub, nI_clamp, zI_of, uu_eq, uu_ne, Nat.reduceLT, Nat.reduceLeDiff, Nat.reduceEqDiff, Nat.reduceAdd, Nat.reduceSub, Nat.reduceMul, Nat.not_lt_zero, Nat.lt_irrefl, Nat.le_refl, Bool.false_eq_true, false_and, and_false, true_and, and_true, if_true, if_false, not_true_eq_false, not_false_eq_true, h3, h4, g, h6, h7, k206 (show 2 ≤ d by omega) hj (by omega), w1, w3, w5]
theorem k204 (hd : 4 ≤ d) (hi : i < 3) (hs : ∀ x, 1000000 ≤ x → sh x = (999, 0)) {j : Nat} (hj : j < wn i) : aC d 204 [.ref (1000000 + i), .int (nI j)] (n, t, sh, I, L, R) Q ↔ Q (some (.int (nI (wb i j)))) (n, t, sh, I, L, R) := by
  obtain ⟨d, rfl⟩ : ∃ e, d = e + 1 := ⟨d - 1, by omega⟩
  obtain ⟨h1, h2, h3, h4, h5, h6, h7⟩ := ck_c hi
  obtain ⟨w1, w2⟩ := wb_c hi hj
  have w4 := c16 (show wb i j < 65536 by omega)
  simp (disch := first | assumption | exact ct_i | exact ct_r | exact ct_n | exact ct_h | omega | exact z_in (by omega) (by omega) | exact b01 | exact Or.inl rfl | exact Or.inr rfl) only [b204, e204_0, e204_1, e204_4, e204_7, e204_8, e204_11, e204_12, e204_15, e204_16, e204_17, e204_20, e204_24, ct_i, ct_r, ct_n, ct_h, opt_v, opt_s, ref_s, ref_n, eq_self_iff_true, true_or, or_true, zl0, zl1, zl2, zl3, zl4, zl5, zl6, zl7, zl8, zl9, zl10, zl16, zl32, zl40, zl100, zl160, zIc1, zI_lt, zI_le, nI_eq, nI_add, z_sub, nI_clamp, zI_of, uu_eq, uu_ne, Nat.reduceLT, Nat.reduceLeDiff, Nat.reduceEqDiff, Nat.reduceAdd, Nat.reduceSub, Nat.reduceMul, Nat.not_lt_zero, Nat.lt_irrefl, Nat.le_refl, Bool.false_eq_true, false_and, and_false, true_and, and_true, if_true, if_false, not_true_eq_false, not_false_eq_true, h1, h2, k205 (show 1 ≤ d by omega) hi, k209 (show 3 ≤ d by omega) hi hs hj]
theorem k211 (hd : 1 ≤ d) {x : Nat} (hx : x < 256) : aC d 211 [.int (nI x)] (n, t, sh, I, L, R) Q ↔ Q (some (.int (nI 1))) (n, t, sh, I, L, R) := by
  obtain ⟨d, rfl⟩ : ∃ e, d = e + 1 := ⟨d - 1, by omega⟩
  have e255 : (255 : Int32) = nI 255 := rfl
  simp (disch := first | assumption | exact ct_i | exact ct_r | exact ct_n | exact ct_h | omega | exact z_in (by omega) (by omega) | exact b01 | exact Or.inl rfl | exact Or.inr rfl) only [b211, e211_0, e211_1, e211_4, e211_5, e211_8, e211_11, e211_12, e211_15, e211_16, ct_i, ct_r, ct_n, ct_h, opt_v, opt_s, ref_s, ref_n, eq_self_iff_true, true_or, or_true, zl0, zl1, zl2, zl3, zl4, zl5, zl6, zl7, zl8, zl9, zl10, zl16, zl32, zl40, zl100, zl160, zIc1, zI_lt, zI_le, nI_eq, nI_add, z_sub, nI_clamp, zI_of, uu_eq, uu_ne, Nat.reduceLT, Nat.reduceLeDiff, Nat.reduceEqDiff, Nat.reduceAdd, Nat.reduceSub, Nat.reduceMul, Nat.not_lt_zero, Nat.lt_irrefl, Nat.le_refl, Bool.false_eq_true, false_and, and_false, true_and, and_true, if_pos, if_neg, if_true, if_false, not_true_eq_false, not_false_eq_true, e255]
/-- the first place from k on where the byte stands -/
def fiW (i x : Nat) : Nat → Nat → Option Nat
  | 0, _ => none
  | m + 1, k => if wb i k = x then some k else fiW i x m (k + 1)
theorem k212l (hi : i < 3) (hs : ∀ x, 1000000 ≤ x → sh x = (999, 0)) {x : Nat} (hx : x < 128) {l1 l2 : Value} : ∀ m k, k + m = wn i →
    (aE (a_cl_ d) 212 (7, [.ref (1000010 + i), l1, l2, .int (nI (wn i)), .int (nI x), .int (nI k)], [], (n, t, sh, I, L, R)) Q ↔ Q (some (.int (match fiW i x m k with | some j => nI j | none => -1))) (n, t, sh, I, L, R)) := by
  obtain ⟨h1, h2, h3, h4, h5, h6, h7⟩ := ck_c hi
  intro m
  induction m with
  | zero =>
    intro k hk
    obtain rfl : k = wn i := by omega
    rw [e212_7]
    simp (disch := first | assumption | exact ct_i | exact ct_r | exact ct_n | exact ct_h | omega | exact z_in (by omega) (by omega) | exact b01 | exact Or.inl rfl | exact Or.inr rfl) only [e212_0, e212_1, e212_2, e212_4, e212_5, e212_9, e212_10, e212_13, e212_13n, e212_14, e212_16, e212_17, e212_19, e212_22, e212_24, e212_25, e212_28, e212_31, e212_32, ct_i, ct_r, ct_n, ct_h, opt_v, opt_s, ref_s, ref_n, eq_self_iff_true, true_or, or_true, zl0, zl1, zl2, zl3, zl4, zl5, zl6, zl7, zl8, zl9, zl10, zl16, zl32, zl40, zl100, zl160, zIc1, zI_lt, zI_le, nI_eq, nI_add, z_sub, nI_clamp, zI_of, uu_eq, uu_ne, Nat.reduceLT, Nat.reduceLeDiff, Nat.reduceEqDiff, Nat.reduceAdd, Nat.reduceSub, Nat.reduceMul, Nat.not_lt_zero, Nat.lt_irrefl, Nat.le_refl, Bool.false_eq_true, false_and, and_false, true_and, and_true, if_pos, if_neg, if_true, if_false, not_true_eq_false, not_false_eq_true, fiW]
  | succ m ih =>
    intro k hk
    obtain ⟨w1, w2⟩ := wb_c hi (show k < wn i by omega)
    have hv : vp_in (nI k) (a_bytes.getD (a_ck (1000010 + i)).2 []).length := by rw [h4, h6]; exact z_in (by omega) (by omega)
    have hl : k < wn i := by omega
    rw [e212_7]
    by_cases hw : wb i k = x
    · subst hw
      simp (disch := first | assumption | exact ct_i | exact ct_r | exact ct_n | exact ct_h | omega | exact z_in (by omega) (by omega) | exact b01 | exact Or.inl rfl | exact Or.inr rfl) only [e212_0, e212_1, e212_2, e212_4, e212_5, e212_9, e212_10, e212_13, e212_13n, e212_14, e212_16, e212_17, e212_19, e212_22, e212_24, e212_25, e212_28, e212_31, e212_32, ct_i, ct_r, ct_n, ct_h, opt_v, opt_s, ref_s, ref_n, eq_self_iff_true, true_or, or_true, zl0, zl1, zl2, zl3, zl4, zl5, zl6, zl7, zl8, zl9, zl10, zl16, zl32, zl40, zl100, zl160, zIc1, zI_lt, zI_le, nI_eq, nI_add, z_sub, nI_clamp, zI_of, uu_eq, uu_ne, Nat.reduceLT, Nat.reduceLeDiff, Nat.reduceEqDiff, Nat.reduceAdd, Nat.reduceSub, Nat.reduceMul, Nat.not_lt_zero, Nat.lt_irrefl, Nat.le_refl, Bool.false_eq_true, false_and, and_false, true_and, and_true, if_pos, if_neg, if_true, if_false, not_true_eq_false, not_false_eq_true, h3, h4, w1, fiW]
    · have hw' : ¬ x = wb i k := fun e => hw e.symm
      simp (disch := first | assumption | exact ct_i | exact ct_r | exact ct_n | exact ct_h | omega | exact z_in (by omega) (by omega) | exact b01 | exact Or.inl rfl | exact Or.inr rfl) only [e212_0, e212_1, e212_2, e212_4, e212_5, e212_9, e212_10, e212_13, e212_13n, e212_14, e212_16, e212_17, e212_19, e212_22, e212_24, e212_25, e212_28, e212_31, e212_32, ct_i, ct_r, ct_n, ct_h, opt_v, opt_s, ref_s, ref_n, eq_self_iff_true, true_or, or_true, zl0, zl1, zl2, zl3, zl4, zl5, zl6, zl7, zl8, zl9, zl10, zl16, zl32, zl40, zl100, zl160, zIc1, zI_lt, zI_le, nI_eq, nI_add, z_sub, nI_clamp, zI_of, uu_eq, uu_ne, Nat.reduceLT, Nat.reduceLeDiff, Nat.reduceEqDiff, Nat.reduceAdd, Nat.reduceSub, Nat.reduceMul, Nat.not_lt_zero, Nat.lt_irrefl, Nat.le_refl, Bool.false_eq_true, false_and, and_false, true_and, and_true, if_pos, if_neg, if_true, if_false, not_true_eq_false, not_false_eq_true, h3, h4, w1, fiW, hw, hw']
      exact ih (k + 1) (by omega)
theorem k212 (hd : 1 ≤ d) (hi : i < 3) (hs : ∀ x, 1000000 ≤ x → sh x = (999, 0)) {x : Nat} (hx : x < 128) : aC d 212 [.ref (1000010 + i), .int (nI x), .int (nI 0), .int (nI (wn i))] (n, t, sh, I, L, R) Q ↔ Q (some (.int (match fiW i x (wn i) 0 with | some j => nI j | none => -1))) (n, t, sh, I, L, R) := by
  obtain ⟨d, rfl⟩ : ∃ e, d = e + 1 := ⟨d - 1, by omega⟩
  have e8 : (nI x).toInt8.toInt32 = nI x := by
    have : ∀ x, x < 128 → (nI x).toInt8.toInt32 = nI x := by decide
    exact this x hx
  simp (disch := first | assumption | exact ct_i | exact ct_r | exact ct_n | exact ct_h | omega | exact z_in (by omega) (by omega) | exact b01 | exact Or.inl rfl | exact Or.inr rfl) only [b212, e212_0, e212_1, e212_2, e212_4, e212_5, e212_9, e212_10, e212_13, e212_13n, e212_14, e212_16, e212_17, e212_19, e212_22, e212_24, e212_25, e212_28, e212_31, e212_32, ct_i, ct_r, ct_n, ct_h, opt_v, opt_s, ref_s, ref_n, eq_self_iff_true, true_or, or_true, zl0, zl1, zl2, zl3, zl4, zl5, zl6, zl7, zl8, zl9, zl10, zl16, zl32, zl40, zl100, zl160, zIc1, zI_lt, zI_le, nI_eq, nI_add, z_sub, nI_clamp, zI_of, uu_eq, uu_ne, Nat.reduceLT, Nat.reduceLeDiff, Nat.reduceEqDiff, Nat.reduceAdd, Nat.reduceSub, Nat.reduceMul, Nat.not_lt_zero, Nat.lt_irrefl, Nat.le_refl, Bool.false_eq_true, false_and, and_false, true_and, and_true, if_true, if_false, not_true_eq_false, not_false_eq_true, e8]
  exact k212l hi hs hx (wn i) 0 (by omega)
theorem k210 (hd : 2 ≤ d) (hi : i < 3) (hs : ∀ x, 1000000 ≤ x → sh x = (999, 0)) {x : Nat} (hx : x < 128) (h0 : 0 < wn i) : aC d 210 [.ref (1000010 + i), .int (nI x), .int (nI 0), .int (nI (wn i))] (n, t, sh, I, L, R) Q ↔ Q (some (.int (match fiW i x (wn i) 0 with | some j => nI j | none => -1))) (n, t, sh, I, L, R) := by
  obtain ⟨d, rfl⟩ : ∃ e, d = e + 1 := ⟨d - 1, by omega⟩
  obtain ⟨h1, h2, h3, h4, h5, h6, h7⟩ := ck_c hi
  have g := hs_c hs (show 1000000 ≤ 1000010 + i by omega)
  have e0 : ¬ (1 : Int32) = 0 := by decide
  simp (disch := first | assumption | exact ct_i | exact ct_r | exact ct_n | exact ct_h | omega | exact z_in (by omega) (by omega) | exact b01 | exact Or.inl rfl | exact Or.inr rfl) only [b210, e210_0, e210_1, e210_4, e210_7, e210_8, e210_9, e210_10, e210_11, e210_14, e210_15, e210_16, e210_16n, e210_17, e210_17c, e210_18, e210_21, e210_22, e210_23, e210_24, e210_27, e210_28, e210_29, e210_29n, e210_30, e210_31, e210_32, e210_33, e210_36, ct_i, ct_r, ct_n, ct_h, opt_v, opt_s, ref_s, ref_n, eq_self_iff_true, true_or, or_true, zl0, zl1, zl2, zl3, zl4, zl5, zl6, zl7, zl8, zl9, zl10, zl16, zl32, zl40, zl100, zl160, zIc1, zI_lt, zI_le, nI_eq, nI_add, z_sub, nI_clamp, zI_of, uu_eq, uu_ne, Nat.reduceLT, Nat.reduceLeDiff, Nat.reduceEqDiff, Nat.reduceAdd, Nat.reduceSub, Nat.reduceMul, Nat.not_lt_zero, Nat.lt_irrefl, Nat.le_refl, Bool.false_eq_true, false_and, and_false, true_and, and_true, if_pos, if_neg, if_true, if_false, not_true_eq_false, not_false_eq_true, k211 (show 1 ≤ d by omega) (show x < 256 by omega), h3, h4, g, h6, h7, e0, k212 (show 1 ≤ d by omega) hi hs hx]
theorem k208 (hd : 3 ≤ d) (hi : i < 3) (hs : ∀ x, 1000000 ≤ x → sh x = (999, 0)) {x : Nat} (hx : x < 128) (h0 : 0 < wn i) : aC d 208 [.ref (1000000 + i), .int (nI x), .int (nI 0)] (n, t, sh, I, L, R) Q ↔ Q (some (.int (match fiW i x (wn i) 0 with | some j => nI j | none => -1))) (n, t, sh, I, L, R) := by
  obtain ⟨d, rfl⟩ : ∃ e, d = e + 1 := ⟨d - 1, by omega⟩
  obtain ⟨h1, h2, h3, h4, h5, h6, h7⟩ := ck_c hi
  have e0 : ¬ (1 : Int32) = 0 := by decide
  simp (disch := first | assumption | exact ct_i | exact ct_r | exact ct_n | exact ct_h | omega | exact z_in (by omega) (by omega) | exact b01 | exact Or.inl rfl | exact Or.inr rfl) only [b208, e208_0, e208_1, e208_4, e208_7, e208_8, e208_11, e208_12, e208_13, e208_14, e208_17, e208_20, e208_23, e208_24, e208_27, e208_28, e208_29, e208_30, e208_36, ct_i, ct_r, ct_n, ct_h, opt_v, opt_s, ref_s, ref_n, eq_self_iff_true, true_or, or_true, zl0, zl1, zl2, zl3, zl4, zl5, zl6, zl7, zl8, zl9, zl10, zl16, zl32, zl40, zl100, zl160, zIc1, zI_lt, zI_le, nI_eq, nI_add, z_sub, nI_clamp, zI_of, uu_eq, uu_ne, Nat.reduceLT, Nat.reduceLeDiff, Nat.reduceEqDiff, Nat.reduceAdd, Nat.reduceSub, Nat.reduceMul, Nat.not_lt_zero, Nat.lt_irrefl, Nat.le_refl, Bool.false_eq_true, false_and, and_false, true_and, and_true, if_true, if_false, not_true_eq_false, not_false_eq_true, h1, h2, e0, k205 (show 1 ≤ d by omega) hi, k202 (show 2 ≤ d by omega) hi hs, k210 (show 2 ≤ d by omega) hi hs hx h0]
theorem k207 (hd : 4 ≤ d) (hi : i < 3) (hs : ∀ x, 1000000 ≤ x → sh x = (999, 0)) {x : Nat} (hx : x < 128) (h0 : 0 < wn i) : aC d 207 [.ref (1000000 + i), .int (nI x)] (n, t, sh, I, L, R) Q ↔ Q (some (.int (match fiW i x (wn i) 0 with | some j => nI j | none => -1))) (n, t, sh, I, L, R) := by
  obtain ⟨d, rfl⟩ : ∃ e, d = e + 1 := ⟨d - 1, by omega⟩
  obtain ⟨h1, h2, h3, h4, h5, h6, h7⟩ := ck_c hi
  simp (disch := first | assumption | exact ct_i | exact ct_r | exact ct_n | exact ct_h | omega | exact z_in (by omega) (by omega) | exact b01 | exact Or.inl rfl | exact Or.inr rfl) only [b207, e207_0, e207_1, e207_2, e207_3, e207_6, ct_i, ct_r, ct_n, ct_h, opt_v, opt_s, ref_s, ref_n, eq_self_iff_true, true_or, or_true, zl0, zl1, zl2, zl3, zl4, zl5, zl6, zl7, zl8, zl9, zl10, zl16, zl32, zl40, zl100, zl160, zIc1, zI_lt, zI_le, nI_eq, nI_add, z_sub, nI_clamp, zI_of, uu_eq, uu_ne, Nat.reduceLT, Nat.reduceLeDiff, Nat.reduceEqDiff, Nat.reduceAdd, Nat.reduceSub, Nat.reduceMul, Nat.not_lt_zero, Nat.lt_irrefl, Nat.le_refl, Bool.false_eq_true, false_and, and_false, true_and, and_true, if_true, if_false, not_true_eq_false, not_false_eq_true, h1, h2, k208 (show 3 ≤ d by omega) hi hs hx h0]
/-! bytes -/
def isL (b : Nat) : Bool := decide (97 ≤ b) && decide (b ≤ 122)
def isD (b : Nat) : Bool := decide (48 ≤ b) && decide (b ≤ 57)
def isB (b : Nat) : Bool := decide (b = 32) || decide (b = 10)
def isS (b : Nat) : Bool := [40, 41, 59, 43, 45, 42, 60, 61].contains b
theorem k29 (hd : 1 ≤ d) {x : Nat} (hx : x < 2000) : aC d 29 [.int (nI x)] (n, t, sh, I, L, R) Q ↔ Q (some (.int (if isL x = true then nI 1 else nI 0))) (n, t, sh, I, L, R) := by
  obtain ⟨d, rfl⟩ : ∃ e, d = e + 1 := ⟨d - 1, by omega⟩
  have e1 : (97 : Int32) = nI 97 := rfl
  have e2 : (122 : Int32) = nI 122 := rfl
  unfold isL
  by_cases h1 : 97 ≤ x <;> by_cases h2 : x ≤ 122 <;> first | (exfalso; omega) | simp (disch := first | assumption | exact ct_i | exact ct_r | exact ct_n | exact ct_h | omega | exact z_in (by omega) (by omega) | exact b01 | exact Or.inl rfl | exact Or.inr rfl) only [b29, e29_0, e29_1, e29_3, e29_6, e29_7, e29_9, e29_12, e29_13, e29_16, e29_17, ct_i, ct_r, ct_n, ct_h, opt_v, opt_s, ref_s, ref_n, eq_self_iff_true, true_or, or_true, zl0, zl1, zl2, zl3, zl4, zl5, zl6, zl7, zl8, zl9, zl10, zl16, zl32, zl40, zl100, zl160, zIc1, zI_lt, zI_le, nI_eq, nI_add, z_sub, nI_clamp, zI_of, uu_eq, uu_ne, Nat.reduceLT, Nat.reduceLeDiff, Nat.reduceEqDiff, Nat.reduceAdd, Nat.reduceSub, Nat.reduceMul, Nat.not_lt_zero, Nat.lt_irrefl, Nat.le_refl, Bool.false_eq_true, false_and, and_false, true_and, and_true, if_pos, if_neg, if_true, if_false, not_true_eq_false, not_false_eq_true, e1, e2, h1, h2, decide_true, decide_false, Bool.and_true, Bool.and_false, Bool.true_and]
theorem k32 (hd : 1 ≤ d) {x : Nat} (hx : x < 2000) : aC d 32 [.int (nI x)] (n, t, sh, I, L, R) Q ↔ Q (some (.int (if isD x = true then nI 1 else nI 0))) (n, t, sh, I, L, R) := by
  obtain ⟨d, rfl⟩ : ∃ e, d = e + 1 := ⟨d - 1, by omega⟩
  have e1 : (48 : Int32) = nI 48 := rfl
  have e2 : (57 : Int32) = nI 57 := rfl
  unfold isD
  by_cases h1 : 48 ≤ x <;> by_cases h2 : x ≤ 57 <;> first | (exfalso; omega) | simp (disch := first | assumption | exact ct_i | exact ct_r | exact ct_n | exact ct_h | omega | exact z_in (by omega) (by omega) | exact b01 | exact Or.inl rfl | exact Or.inr rfl) only [b32, e32_0, e32_1, e32_3, e32_6, e32_7, e32_9, e32_12, e32_13, e32_16, e32_17, ct_i, ct_r, ct_n, ct_h, opt_v, opt_s, ref_s, ref_n, eq_self_iff_true, true_or, or_true, zl0, zl1, zl2, zl3, zl4, zl5, zl6, zl7, zl8, zl9, zl10, zl16, zl32, zl40, zl100, zl160, zIc1, zI_lt, zI_le, nI_eq, nI_add, z_sub, nI_clamp, zI_of, uu_eq, uu_ne, Nat.reduceLT, Nat.reduceLeDiff, Nat.reduceEqDiff, Nat.reduceAdd, Nat.reduceSub, Nat.reduceMul, Nat.not_lt_zero, Nat.lt_irrefl, Nat.le_refl, Bool.false_eq_true, false_and, and_false, true_and, and_true, if_pos, if_neg, if_true, if_false, not_true_eq_false, not_false_eq_true, e1, e2, h1, h2, decide_true, decide_false, Bool.and_true, Bool.and_false, Bool.true_and]
theorem fiS : ∀ x, x < 128 → ((fiW 1 x (wn 1) 0).isSome = isS x ∧ ∀ j, fiW 1 x (wn 1) 0 = some j → j < 8) := by decide
theorem isS_hi {x : Nat} (h : 128 ≤ x) : isS x = false := by
  simp only [isS, List.contains_cons, List.contains_nil, Bool.or_false, Bool.or_eq_false_iff, beq_eq_false_iff_ne]
  omega
theorem k34 (hd : 5 ≤ d) (hs : ∀ x, 1000000 ≤ x → sh x = (999, 0)) {x : Nat} (hx : x < 2000) : aC d 34 [.int (nI x)] (n, t, sh, I, L, R) Q ↔ Q (some (.int (if isS x = true then nI 1 else nI 0))) (n, t, sh, I, L, R) := by
  obtain ⟨d, rfl⟩ : ∃ e, d = e + 1 := ⟨d - 1, by omega⟩
  have e1 : (128 : Int32) = nI 128 := rfl
  by_cases h1 : x < 128
  · have w5 : ((nI x).toUInt32 % 65536).toInt32 = nI x := (c16 (show x < 65536 by omega)).symm
    have s1 : (a_ck 1000001).1 = 1 := rfl
    have hk := k207 (Q := fun v h1 => aE (a_cl_ d) 34 (14, [.int (nI x)], v.toList ++ [], h1) Q) (d := d) (n := n) (t := t) (sh := sh) (I := I) (L := L) (R := R) (i := 1) (show 4 ≤ d by omega) (by decide) hs h1 (by decide)
    simp only [Nat.reduceAdd] at hk
    obtain ⟨f1, f2⟩ := fiS x h1
    cases hf : fiW 1 x (wn 1) 0 with
    | none =>
      rw [hf] at f1
      simp only [hf] at hk
      have hn : isS x = false := f1.symm
      have hneg : -nI 1 < nI 0 := by decide
      simp (disch := first | assumption | exact ct_i | exact ct_r | exact ct_n | exact ct_h | omega | exact z_in (by omega) (by omega) | exact b01 | exact Or.inl rfl | exact Or.inr rfl) only [b34, e34_0, e34_1, e34_4, e34_7, e34_9, e34_10, e34_11, e34_14, e34_17, e34_18, e34_21, e34_22, ct_i, ct_r, ct_n, ct_h, opt_v, opt_s, ref_s, ref_n, eq_self_iff_true, true_or, or_true, zl0, zl1, zl2, zl3, zl4, zl5, zl6, zl7, zl8, zl9, zl10, zl16, zl32, zl40, zl100, zl160, zIc1, zI_lt, zI_le, nI_eq, nI_add, z_sub, nI_clamp, zI_of, uu_eq, uu_ne, Nat.reduceLT, Nat.reduceLeDiff, Nat.reduceEqDiff, Nat.reduceAdd, Nat.reduceSub, Nat.reduceMul, Nat.not_lt_zero, Nat.lt_irrefl, Nat.le_refl, Bool.false_eq_true, false_and, and_false, true_and, and_true, if_pos, if_neg, if_true, if_false, not_true_eq_false, not_false_eq_true, e1, h1, w5, s1, hk, hn, hneg]
    | some j =>
      rw [hf] at f1
      simp only [hf] at hk
      have hn : isS x = true := f1.symm
      have := f2 j hf
      simp (disch := first | assumption | exact ct_i | exact ct_r | exact ct_n | exact ct_h | omega | exact z_in (by omega) (by omega) | exact b01 | exact Or.inl rfl | exact Or.inr rfl) only [b34, e34_0, e34_1, e34_4, e34_7, e34_9, e34_10, e34_11, e34_14, e34_17, e34_18, e34_21, e34_22, ct_i, ct_r, ct_n, ct_h, opt_v, opt_s, ref_s, ref_n, eq_self_iff_true, true_or, or_true, zl0, zl1, zl2, zl3, zl4, zl5, zl6, zl7, zl8, zl9, zl10, zl16, zl32, zl40, zl100, zl160, zIc1, zI_lt, zI_le, nI_eq, nI_add, z_sub, nI_clamp, zI_of, uu_eq, uu_ne, Nat.reduceLT, Nat.reduceLeDiff, Nat.reduceEqDiff, Nat.reduceAdd, Nat.reduceSub, Nat.reduceMul, Nat.not_lt_zero, Nat.lt_irrefl, Nat.le_refl, Bool.false_eq_true, false_and, and_false, true_and, and_true, if_pos, if_neg, if_true, if_false, not_true_eq_false, not_false_eq_true, e1, h1, w5, s1, hk, hn]
  · simp (disch := first | assumption | exact ct_i | exact ct_r | exact ct_n | exact ct_h | omega | exact z_in (by omega) (by omega) | exact b01 | exact Or.inl rfl | exact Or.inr rfl) only [b34, e34_0, e34_1, e34_4, e34_7, e34_9, e34_10, e34_11, e34_14, e34_17, e34_18, e34_21, e34_22, ct_i, ct_r, ct_n, ct_h, opt_v, opt_s, ref_s, ref_n, eq_self_iff_true, true_or, or_true, zl0, zl1, zl2, zl3, zl4, zl5, zl6, zl7, zl8, zl9, zl10, zl16, zl32, zl40, zl100, zl160, zIc1, zI_lt, zI_le, nI_eq, nI_add, z_sub, nI_clamp, zI_of, uu_eq, uu_ne, Nat.reduceLT, Nat.reduceLeDiff, Nat.reduceEqDiff, Nat.reduceAdd, Nat.reduceSub, Nat.reduceMul, Nat.not_lt_zero, Nat.lt_irrefl, Nat.le_refl, Bool.false_eq_true, false_and, and_false, true_and, and_true, if_pos, if_neg, if_true, if_false, not_true_eq_false, not_false_eq_true, e1, h1, isS_hi (show 128 ≤ x by omega)]
end
