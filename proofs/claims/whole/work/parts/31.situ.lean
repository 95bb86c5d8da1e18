/-! the class's situations -/
theorem zI_of (k : Nat) : Int32.ofNat k = nI k := rfl
theorem zI_0 : nI 0 = 0 := rfl
theorem zI_inj {a b : Nat} (ha : a < 2 ^ 31) (hb : b < 2 ^ 31) : nI a = nI b ↔ a = b := by
  constructor
  · intro h
    have h1 := nI_toInt ha
    rw [h, nI_toInt hb] at h1
    omega
  · rintro rfl; rfl
theorem zI_lt {a b : Nat} (ha : a < 2 ^ 31) (hb : b < 2 ^ 31) : nI a < nI b ↔ a < b := by
  rw [Int32.lt_iff_toInt_lt, nI_toInt ha, nI_toInt hb]; omega
theorem zI_le {a b : Nat} (ha : a < 2 ^ 31) (hb : b < 2 ^ 31) : nI a ≤ nI b ↔ a ≤ b := by
  rw [Int32.le_iff_toInt_le, nI_toInt ha, nI_toInt hb]; omega
theorem zI_add (a b : Nat) : nI a + nI b = nI (a + b) := (Int32.ofNat_add a b).symm
theorem zI_mul (a b : Nat) : nI a * nI b = nI (a * b) := (Int32.ofNat_mul a b).symm
theorem k194 {d : Nat} (hd : 1 ≤ d) {s i : Nat} (hs : s < 6144) (hi : i < 4) {h : aH} {Q : Option Value → aH → Prop} : aC d 194 [.int (nI s), .int (nI i)] h Q ↔ Q (some (.int (nI (stt s i)))) h := by
  obtain ⟨d, rfl⟩ : ∃ e, d = e + 1 := ⟨d - 1, by omega⟩
  simp only [b194, e194_0, e194_1, e194_2, e194_3, e194_4, e194_5, e194_6, e194_7, cat_i, cat_r, cat_n, cat_h, opt_v, opt_s, ref_s, ref_n, eq_self_iff_true, true_or, or_true, bt_stt hs hi]
theorem k195 {d : Nat} (hd : 1 ≤ d) {s i v : Nat} (hs : s < 6144) (hi : i < 4) (hv : v < 4) {h : aH} {Q : Option Value → aH → Prop} : aC d 195 [.int (nI s), .int (nI i), .int (nI v)] h Q ↔ Q (some (.int (nI (wst s i v)))) h := by
  obtain ⟨d, rfl⟩ : ∃ e, d = e + 1 := ⟨d - 1, by omega⟩
  simp only [b195, e195_0, e195_1, e195_2, e195_3, e195_4, e195_5, e195_6, e195_7, e195_8, e195_9, e195_10, e195_11, e195_12, e195_13, e195_14, e195_15, cat_i, cat_r, cat_n, cat_h, opt_v, opt_s, ref_s, ref_n, eq_self_iff_true, true_or, or_true, bt_wst hs hi hv]
theorem k196 {d : Nat} (hd : 1 ≤ d) {s : Nat} (hs : s < 6144) {h : aH} {Q : Option Value → aH → Prop} : aC d 196 [.int (nI s)] h Q ↔ Q (some (.int (nI (tno s)))) h := by
  obtain ⟨d, rfl⟩ : ∃ e, d = e + 1 := ⟨d - 1, by omega⟩
  simp only [b196, e196_0, e196_1, e196_3, e196_4, e196_5, e196_6, cat_i, cat_r, cat_n, cat_h, opt_v, opt_s, ref_s, ref_n, eq_self_iff_true, true_or, or_true, bt_tno hs]
theorem k197 {d : Nat} (hd : 1 ≤ d) {s v : Nat} (hs : s < 6144) (hv : v < 4) {h : aH} {Q : Option Value → aH → Prop} : aC d 197 [.int (nI s), .int (nI v)] h Q ↔ Q (some (.int (nI (wtn s v)))) h := by
  obtain ⟨d, rfl⟩ : ∃ e, d = e + 1 := ⟨d - 1, by omega⟩
  simp only [b197, e197_0, e197_1, e197_4, e197_5, e197_6, e197_8, e197_9, e197_10, cat_i, cat_r, cat_n, cat_h, opt_v, opt_s, ref_s, ref_n, eq_self_iff_true, true_or, or_true, bt_wtn hs hv]
theorem k198 {d : Nat} (hd : 1 ≤ d) {s : Nat} (hs : s < 6144) {h : aH} {Q : Option Value → aH → Prop} : aC d 198 [.int (nI s)] h Q ↔ Q (some (.int (nI (rmo s)))) h := by
  obtain ⟨d, rfl⟩ : ∃ e, d = e + 1 := ⟨d - 1, by omega⟩
  simp only [b198, e198_0, e198_1, e198_3, e198_4, cat_i, cat_r, cat_n, cat_h, opt_v, opt_s, ref_s, ref_n, eq_self_iff_true, true_or, or_true, bt_rmo hs]
theorem k199 {d : Nat} (hd : 1 ≤ d) {s r : Nat} (hs : s < 6144) (hr : r < 6) {h : aH} {Q : Option Value → aH → Prop} : aC d 199 [.int (nI s), .int (nI r)] h Q ↔ Q (some (.int (nI (wrm s r)))) h := by
  obtain ⟨d, rfl⟩ : ∃ e, d = e + 1 := ⟨d - 1, by omega⟩
  simp only [b199, e199_0, e199_1, e199_4, e199_5, e199_6, e199_8, e199_9, e199_10, cat_i, cat_r, cat_n, cat_h, opt_v, opt_s, ref_s, ref_n, eq_self_iff_true, true_or, or_true, bt_wrm hs hr]
theorem k201 {d : Nat} (hd : 1 ≤ d) {r t q : Nat} (hr : r < 6) (ht : t < 4) (hq : q < 256) {h : aH} {Q : Option Value → aH → Prop} : aC d 201 [.int (nI r), .int (nI t), .int (nI q)] h Q ↔ Q (some (.int (nI (r * 1024 + t * 256 + q)))) h := by
  obtain ⟨d, rfl⟩ : ∃ e, d = e + 1 := ⟨d - 1, by omega⟩
  simp only [b201, e201_0, e201_1, e201_3, e201_4, e201_5, e201_7, e201_8, e201_9, e201_10, e201_11, cat_i, cat_r, cat_n, cat_h, opt_v, opt_s, ref_s, ref_n, eq_self_iff_true, true_or, or_true, bt_of hr ht hq]
/-- all states together -/
def sts (s : Nat) : Nat := stt s 0 + stt s 1 + stt s 2 + stt s 3
theorem zl0 : (0 : Int32) = nI 0 := rfl
theorem zl1 : (1 : Int32) = nI 1 := rfl
theorem zl2 : (2 : Int32) = nI 2 := rfl
theorem zl3 : (3 : Int32) = nI 3 := rfl
theorem zl4 : (4 : Int32) = nI 4 := rfl
theorem zl5 : (5 : Int32) = nI 5 := rfl
theorem zl6 : (6 : Int32) = nI 6 := rfl
theorem zl7 : (7 : Int32) = nI 7 := rfl
theorem zl8 : (8 : Int32) = nI 8 := rfl
theorem zl9 : (9 : Int32) = nI 9 := rfl
theorem zl10 : (10 : Int32) = nI 10 := rfl
theorem zl16 : (16 : Int32) = nI 16 := rfl
theorem zl32 : (32 : Int32) = nI 32 := rfl
theorem zl40 : (40 : Int32) = nI 40 := rfl
theorem zl100 : (100 : Int32) = nI 100 := rfl
theorem zl160 : (160 : Int32) = nI 160 := rfl
theorem zIc1 : Int32.ofInt 1 = nI 1 := rfl
theorem z_out {x : Int32} {n : Nat} : vp_in x n ↔ ¬ (x < 0 ∨ n ≤ x.toNatClampNeg) := Iff.rfl
theorem z_in {i n : Nat} (h : i < n) (hn : n < 2 ^ 31) : vp_in (nI i) n := nI_in h hn
/-- an int: a number below n, or none of them -/
theorem z_dec (x : Int32) {n : Nat} (hn : n < 2 ^ 31) : (∃ i, i < n ∧ x = nI i) ∨ (x < 0 ∨ nI n ≤ x) := by
  rcases pk_ix x hn with h | h | ⟨j, hj, h⟩
  · exact Or.inr (Or.inl h)
  · exact Or.inr (Or.inr h)
  · exact Or.inl ⟨j, hj, h⟩
theorem z_if {p : Prop} [Decidable p] {a b : Int32} {Q : Option Value → aH → Prop} {h : aH} : (if p then Q (some (.int a)) h else Q (some (.int b)) h) ↔ Q (some (.int (if p then a else b))) h := by
  split <;> exact Iff.rfl
