/-! doors: what opens, what comes next -/
theorem ct_i {x : Int32} : (Value.int x).category = 1 := Eq.trans (b := 1) rfl rfl
theorem ct_r {x : Nat} : (Value.ref x).category = 1 := Eq.trans (b := 1) rfl rfl
theorem ct_n : Value.null.category = 1 := Eq.trans (b := 1) rfl rfl
theorem ct_h : a_hole.category = 1 := Eq.trans (b := 1) rfl rfl
/-- by kind, state, turn, the key's state, number: whether it opens by its kind -/
def opk (ki st tn ks nu : Nat) : Bool := match ki with
  | 1 => decide (0 < ks)
  | 2 => decide (tn = nu % 4)
  | 3 => decide (st = 0)
  | 4 => decide (ks = 0)
  | 5 => decide (tn = nu % 4) && decide (st < 2)
  | _ => true
def nxt (ki st : Nat) : Nat := match ki with
  | 2 => (st + 1) % 4
  | 3 => 3
  | 4 => if min (st + 1) 3 = 3 then 0 else min (st + 1) 3
  | 5 => min ((st + 1) % 4) 2
  | _ => min (st + 1) 3
theorem nxt_lt {ki st : Nat} (hs : st < 4) : nxt ki st < 4 := by
  unfold nxt
  split <;> (try split) <;> omega
theorem b2i (p : Bool) : (if p = true then (1 : Int32) else 0) = 0 ∨ (if p = true then (1 : Int32) else 0) = 1 := by cases p <;> simp
theorem z_rem4 {n : Nat} (hn : n < 2 ^ 31) : nI n - nI n / 4 * 4 = nI (n % 4) := pk_rem hn (by decide) (by decide)
theorem z_ne4 : ¬ (4 : Int32) = 0 := by decide
theorem k0 {d : Nat} (hd : 1 ≤ d) {a ki nu st tn ks : Nat} {n t : Nat} {sh : Nat → Nat × Nat} {I : Nat → Nat → Int32} {L : Nat → Nat → Int64} {R : Nat → Nat → Option Nat} {Q : Option Value → aH → Prop} (hk : (sh a).1 = 0) (hki : I a 4 = nI ki) (hnu : I a 3 = nI nu) (h1 : ki < 6) (h2 : st < 4) (h3 : tn < 4) (h4 : ks < 4) (h5 : nu < 10) :
    aC d 0 [.ref a, .int (nI st), .int (nI tn), .int (nI ks)] (n, t, sh, I, L, R) Q ↔ Q (some (.int (if opk ki st tn ks nu = true then 1 else 0))) (n, t, sh, I, L, R) := by
  obtain ⟨d, rfl⟩ : ∃ e, d = e + 1 := ⟨d - 1, by omega⟩
  have e1 : (nI tn = nI (nu % 4)) ↔ tn = nu % 4 := nI_eq (by omega) (by omega)
  have e2 : (nI st = 0) ↔ st = 0 := nI_eq (b := 0) (by omega) (by omega)
  have e3 : (nI ks = 0) ↔ ks = 0 := nI_eq (b := 0) (by omega) (by omega)
  have e4 : ((2 : Int32) ≤ nI st) ↔ 2 ≤ st := nI_leI (a := 2) (by omega) (by omega)
  have e5 : (nI ks ≤ 0) ↔ ks ≤ 0 := nI_leI (b := 0) (by omega) (by omega)
  simp only [b0, e0_0, e0_1, e0_4, e0_40, e0_41, e0_44, e0_45, e0_48, e0_49, e0_50, e0_51, e0_52, e0_55, e0_56, e0_57, e0_60, e0_61, e0_64, e0_65, e0_66, e0_67, e0_70, e0_71, e0_74, e0_75, e0_76, e0_77, e0_80, e0_81, e0_84, e0_85, e0_86, e0_87, e0_88, e0_91, e0_92, e0_93, e0_96, e0_97, e0_98, e0_101, e0_102, e0_105, e0_106, e0_107, e0_108, ct_i, ct_r, ct_n, ct_h, opt_v, opt_s, ref_s, ref_n, eq_self_iff_true, true_or, or_true, hk, hki, hnu, z_rem4 (show nu < 2 ^ 31 by omega), z_ne4, not_false_eq_true]
  simp only [e1, e2, e3, e4, e5]
  rcases (show ki = 0 ∨ ki = 1 ∨ ki = 2 ∨ ki = 3 ∨ ki = 4 ∨ ki = 5 by omega) with rfl | rfl | rfl | rfl | rfl | rfl
  all_goals simp only [opk, show ¬ nI 0 = 1 by decide, show ¬ nI 0 = 2 by decide, show ¬ nI 0 = 3 by decide, show ¬ nI 0 = 4 by decide, show ¬ nI 0 = 5 by decide, show nI 1 = 1 by decide, show nI 2 = 2 by decide, show nI 3 = 3 by decide, show nI 4 = 4 by decide, show nI 5 = 5 by decide, show ¬ (2 : Int32) = 1 by decide, show ¬ (3 : Int32) = 1 by decide, show ¬ (3 : Int32) = 2 by decide, show ¬ (4 : Int32) = 1 by decide, show ¬ (4 : Int32) = 2 by decide, show ¬ (4 : Int32) = 3 by decide, show ¬ (5 : Int32) = 1 by decide, show ¬ (5 : Int32) = 2 by decide, show ¬ (5 : Int32) = 3 by decide, show ¬ (5 : Int32) = 4 by decide, if_true, if_false, decide_eq_true_eq, Bool.and_eq_true]
  all_goals (repeat' split) <;> first | rfl | (exfalso; omega)
theorem k1 {d : Nat} (hd : 1 ≤ d) {a r o f : Nat} {n t : Nat} {sh : Nat → Nat × Nat} {I : Nat → Nat → Int32} {L : Nat → Nat → Int64} {R : Nat → Nat → Option Nat} {Q : Option Value → aH → Prop} (hk : (sh a).1 = 0) (ho : I a 0 = nI o) (hf : I a 1 = nI f) (h1 : o < 6) (h2 : r < 6) :
    aC d 1 [.ref a, .int (nI r)] (n, t, sh, I, L, R) Q ↔ Q (some (.int (nI (if r = o then f else o)))) (n, t, sh, I, L, R) := by
  obtain ⟨d, rfl⟩ : ∃ e, d = e + 1 := ⟨d - 1, by omega⟩
  have e1 : (nI r = nI o) ↔ r = o := nI_eq (by omega) (by omega)
  simp only [b1, e1_0, e1_1, e1_2, e1_5, e1_8, e1_9, e1_12, e1_15, e1_16, e1_19, ct_i, ct_r, ct_n, ct_h, opt_v, opt_s, ref_s, ref_n, eq_self_iff_true, true_or, or_true, hk, ho, hf, e1]
  by_cases hr : r = o <;> simp only [hr, if_true, if_false, not_true_eq_false, not_false_eq_true]
theorem k2 {d : Nat} (hd : 1 ≤ d) {st tn ks : Nat} {h : aH} {Q : Option Value → aH → Prop} : aC d 2 [.int (nI st), .int (nI tn), .int (nI ks)] h Q ↔ Q (some (.int (nI (st * 16 + tn * 4 + ks)))) h := by
  obtain ⟨d, rfl⟩ : ∃ e, d = e + 1 := ⟨d - 1, by omega⟩
  simp only [b2, e2_0, e2_1, e2_3, e2_4, e2_5, e2_6, e2_7, e2_8, e2_9, e2_10, ct_i, ct_r, ct_n, ct_h, opt_v, opt_s, ref_s, ref_n, eq_self_iff_true, true_or, or_true, zl16, zl4, zI_mul, nI_add]
/-- the bit of a mask -/
def bitL (x : Int64) (b : Nat) : Bool := decide (¬ (x >>> ((nI b).toInt64 &&& 63)) &&& 1 = 0)
theorem lg_cmp0 (x : Int64) : lg_cmp x 0 = 0 ↔ x = 0 := by
  unfold lg_cmp
  by_cases h1 : x > 0
  · rw [if_pos h1]
    constructor
    · intro h; cases h
    · intro h; subst h; exact absurd h1 (by decide)
  · rw [if_neg h1]
    by_cases h2 : x = 0
    · rw [if_pos h2]; exact ⟨fun _ => h2, fun _ => rfl⟩
    · rw [if_neg h2]
      exact ⟨fun h => (by cases h), fun h => absurd h h2⟩
theorem k4 {d : Nat} (hd : 1 ≤ d) {a r b o : Nat} {n t : Nat} {sh : Nat → Nat × Nat} {I : Nat → Nat → Int32} {L : Nat → Nat → Int64} {R : Nat → Nat → Option Nat} {Q : Option Value → aH → Prop} (hk : (sh a).1 = 0) (ho : I a 0 = nI o) (h1 : o < 6) (h2 : r < 6) :
    aC d 4 [.ref a, .int (nI r), .int (nI b)] (n, t, sh, I, L, R) Q ↔ Q (some (.int (if bitL (if r = o then L a 5 else L a 6) b = true then 1 else 0))) (n, t, sh, I, L, R) := by
  obtain ⟨d, rfl⟩ : ∃ e, d = e + 1 := ⟨d - 1, by omega⟩
  have e1 : (nI r = nI o) ↔ r = o := nI_eq (by omega) (by omega)
  simp only [b4, e4_0, e4_1, e4_2, e4_5, e4_8, e4_9, e4_12, e4_15, e4_16, e4_19, e4_20, e4_21, e4_22, e4_23, e4_24, e4_25, e4_26, e4_27, e4_30, e4_31, e4_34, e4_35, ct_i, ct_r, ct_n, ct_h, opt_v, opt_s, ref_s, ref_n, eq_self_iff_true, true_or, or_true, hk, ho, e1, lg_cmp0]
  by_cases hr : r = o
  · simp only [hr, not_true_eq_false, if_false, if_true, bitL, decide_eq_true_eq]
    split <;> simp_all
  · simp only [hr, not_false_eq_true, if_false, if_true, bitL, decide_eq_true_eq]
    split <;> simp_all
theorem k5 {d : Nat} (hd : 1 ≤ d) {a ki st : Nat} {n t : Nat} {sh : Nat → Nat × Nat} {I : Nat → Nat → Int32} {L : Nat → Nat → Int64} {R : Nat → Nat → Option Nat} {Q : Option Value → aH → Prop} (hk : (sh a).1 = 0) (hki : I a 4 = nI ki) (h1 : ki < 6) (h2 : st < 4) : aC d 5 [.ref a, .int (nI st)] (n, t, sh, I, L, R) Q ↔ Q (some (.int (nI (nxt ki st)))) (n, t, sh, I, L, R) := by
  obtain ⟨d, rfl⟩ : ∃ e, d = e + 1 := ⟨d - 1, by omega⟩
  simp only [b5, e5_0, e5_1, e5_2, e5_3, e5_4, e5_7, e5_8, e5_9, e5_10, e5_11, e5_12, e5_13, e5_14, e5_15, e5_18, e5_48, e5_49, e5_50, e5_51, e5_52, e5_53, e5_54, e5_57, e5_58, e5_61, e5_62, e5_63, e5_64, e5_65, e5_68, e5_69, e5_70, ct_i, ct_r, ct_n, ct_h, opt_v, opt_s, ref_s, ref_n, eq_self_iff_true, true_or, or_true, hk, hki]
  rcases (show ki = 0 ∨ ki = 1 ∨ ki = 2 ∨ ki = 3 ∨ ki = 4 ∨ ki = 5 by omega) with rfl | rfl | rfl | rfl | rfl | rfl <;> rcases (show st = 0 ∨ st = 1 ∨ st = 2 ∨ st = 3 by omega) with rfl | rfl | rfl | rfl <;> exact Iff.rfl
theorem k6 {d : Nat} (hd : 1 ≤ d) {a r o f : Nat} {n t : Nat} {sh : Nat → Nat × Nat} {I : Nat → Nat → Int32} {L : Nat → Nat → Int64} {R : Nat → Nat → Option Nat} {Q : Option Value → aH → Prop} (hk : (sh a).1 = 0) (ho : I a 0 = nI o) (hf : I a 1 = nI f) (h1 : o < 6) (h2 : r < 6) (h3 : f < 6) :
    aC d 6 [.ref a, .int (nI r)] (n, t, sh, I, L, R) Q ↔ Q (some (.int (if r = o ∨ r = f then 1 else 0))) (n, t, sh, I, L, R) := by
  obtain ⟨d, rfl⟩ : ∃ e, d = e + 1 := ⟨d - 1, by omega⟩
  have e1 : (nI r = nI o) ↔ r = o := nI_eq (by omega) (by omega)
  have e2 : (nI r = nI f) ↔ r = f := nI_eq (by omega) (by omega)
  simp only [b6, e6_0, e6_1, e6_2, e6_5, e6_8, e6_9, e6_10, e6_13, e6_16, e6_17, e6_20, e6_21, ct_i, ct_r, ct_n, ct_h, opt_v, opt_s, ref_s, ref_n, eq_self_iff_true, true_or, or_true, hk, ho, hf, e1, e2]
  by_cases hr : r = o <;> by_cases hr2 : r = f <;> simp only [hr, hr2, if_true, if_false, not_true_eq_false, not_false_eq_true, true_or, or_true, or_false, or_self, ite_self]
