/-! the class's constructor -/
section
variable {d : Nat} {n t : Nat} {sh : Nat → Nat × Nat} {I : Nat → Nat → Int32} {L : Nat → Nat → Int64} {R : Nat → Nat → Option Nat} {Q : Option Value → aH → Prop} {o : Nat}
theorem k68 (hd : 1 ≤ d) (ho : (sh o).1 = 5) (hon : o < n) (hn : n < 900000) : aC d 68 [.ref o] (n, t, sh, I, L, R) Q ↔ Q none (n + 1 + 1 + 1, t + 160 + 3 + 40, u1 (u1 (u1 sh n (100, 160)) (n + 1) (100, 3)) (n + 1 + 1) (100, 40), u2 (u2 I o 3 (nI 0)) o 4 (nI 0), L, u2 (u2 (u2 R o 0 (some n)) o 1 (some (n + 1))) o 2 (some (n + 1 + 1))) := by
  obtain ⟨d, rfl⟩ : ∃ e, d = e + 1 := ⟨d - 1, by omega⟩
  have h1 : ∀ v, ((u1 sh n v) o).1 = 5 := fun v => by rw [u1_ne _ _ _ (by omega)]; exact ho
  have h2 : ∀ v w, ((u1 (u1 sh n v) (n + 1) w) o).1 = 5 := fun v w => by rw [u1_ne _ _ _ (by omega)]; exact h1 v
  have h3 : ∀ v w x, ((u1 (u1 (u1 sh n v) (n + 1) w) (n + 1 + 1) x) o).1 = 5 := fun v w x => by rw [u1_ne _ _ _ (by omega)]; exact h2 v w
  have n1 : n < 1000000 := by omega
  have n2 : n + 1 < 1000000 := by omega
  have n3 : n + 1 + 1 < 1000000 := by omega
  have e160 : (160 : Int32) = nI 160 := rfl
  have e40 : (40 : Int32) = nI 40 := rfl
  have e3 : (3 : Int32) = nI 3 := rfl
  simp (disch := first | assumption | exact ct_i | exact ct_r | exact ct_n | exact h1 _ | exact h2 _ _ | exact h3 _ _ _ | decide | omega) only [b68, e68_0, e68_1, e68_4, e68_5, e68_8, e68_10, e68_13, e68_14, e68_15, e68_17, e68_20, e68_21, e68_23, e68_25, e68_28, e68_29, e68_30, e68_33, e68_34, e68_35, e68_38, ct_i, ct_r, ct_n, ct_h, opt_v, opt_s, ref_s, ref_n, eq_self_iff_true, true_or, or_true, zl0, zl1, zl2, zl3, zl4, zl5, zl6, zl7, zl8, zl9, zl10, zl16, zl32, zl40, zl100, zl160, zIc1, zI_lt, zI_le, nI_eq, nI_add, z_sub, nI_clamp, zI_of, uu_eq, uu_ne, Nat.reduceLT, Nat.reduceLeDiff, Nat.reduceEqDiff, Nat.reduceAdd, Nat.reduceSub, Nat.reduceMul, Nat.not_lt_zero, Nat.lt_irrefl, Nat.le_refl, Bool.false_eq_true, false_and, and_false, true_and, and_true, if_pos, if_neg, if_true, if_false, not_true_eq_false, not_false_eq_true, e160, e40, e3]
theorem k61 (hd : 1 ≤ d) (ho : (sh o).1 = 4) (hon : o < n) (hn : n < 900000) : aC d 61 [.ref o] (n, t, sh, I, L, R) Q ↔ Q none (n + 1, t + 40, u1 sh n (100, 40), u2 (u2 I o 0 (-nI 1)) o 1 (nI 0), L, u2 R o 2 (some n)) := by
  obtain ⟨d, rfl⟩ : ∃ e, d = e + 1 := ⟨d - 1, by omega⟩
  have h1 : ∀ v0, ((u1 sh n v0) o).1 = 4 := fun v0 => by rw [u1_ne _ _ _ (by omega)]; exact ho
  have n0 : n < 1000000 := by omega
  have e160 : (160 : Int32) = nI 160 := rfl
  have e256 : (256 : Int32) = nI 256 := rfl
  have e40 : (40 : Int32) = nI 40 := rfl
  have e3 : (3 : Int32) = nI 3 := rfl
  have e4 : (4 : Int32) = nI 4 := rfl
  have e6 : (6 : Int32) = nI 6 := rfl
  have e96 : (96 : Int32) = nI 96 := rfl
  have e6144 : (6144 : Int32) = nI 6144 := rfl
  simp (disch := first | assumption | exact ct_i | exact ct_r | exact ct_n | exact h1 _ | decide | omega) only [b61, e61_0, e61_1, e61_4, e61_5, e61_6, e61_9, e61_10, e61_11, e61_14, e61_15, e61_17, e61_19, e61_22, ct_i, ct_r, ct_n, ct_h, opt_v, opt_s, ref_s, ref_n, eq_self_iff_true, true_or, or_true, zl0, zl1, zl2, zl3, zl4, zl5, zl6, zl7, zl8, zl9, zl10, zl16, zl32, zl40, zl100, zl160, zIc1, zI_lt, zI_le, nI_eq, nI_add, z_sub, nI_clamp, zI_of, uu_eq, uu_ne, Nat.reduceLT, Nat.reduceLeDiff, Nat.reduceEqDiff, Nat.reduceAdd, Nat.reduceSub, Nat.reduceMul, Nat.not_lt_zero, Nat.lt_irrefl, Nat.le_refl, Bool.false_eq_true, false_and, and_false, true_and, and_true, if_pos, if_neg, if_true, if_false, not_true_eq_false, not_false_eq_true, e160, e256, e40, e3, e4, e6, e96, e6144]
theorem k24 (hd : 1 ≤ d) (ho : (sh o).1 = 2) (hon : o < n) (hn : n < 900000) : aC d 24 [.ref o] (n, t, sh, I, L, R) Q ↔ Q none (n + 1, t + 160, u1 sh n (100, 160), u2 (u2 (u2 (u2 (u2 I o 0 (nI 0)) o 2 (nI 0)) o 3 (nI 256)) o 4 (nI 0)) o 5 (nI 0), L, u2 R o 1 (some n)) := by
  obtain ⟨d, rfl⟩ : ∃ e, d = e + 1 := ⟨d - 1, by omega⟩
  have h1 : ∀ v0, ((u1 sh n v0) o).1 = 2 := fun v0 => by rw [u1_ne _ _ _ (by omega)]; exact ho
  have n0 : n < 1000000 := by omega
  have e160 : (160 : Int32) = nI 160 := rfl
  have e256 : (256 : Int32) = nI 256 := rfl
  have e40 : (40 : Int32) = nI 40 := rfl
  have e3 : (3 : Int32) = nI 3 := rfl
  have e4 : (4 : Int32) = nI 4 := rfl
  have e6 : (6 : Int32) = nI 6 := rfl
  have e96 : (96 : Int32) = nI 96 := rfl
  have e6144 : (6144 : Int32) = nI 6144 := rfl
  simp (disch := first | assumption | exact ct_i | exact ct_r | exact ct_n | exact h1 _ | decide | omega) only [b24, e24_0, e24_1, e24_4, e24_5, e24_6, e24_9, e24_10, e24_13, e24_15, e24_18, e24_19, e24_20, e24_23, e24_24, e24_27, e24_30, e24_31, e24_32, e24_35, e24_36, e24_37, e24_40, ct_i, ct_r, ct_n, ct_h, opt_v, opt_s, ref_s, ref_n, eq_self_iff_true, true_or, or_true, zl0, zl1, zl2, zl3, zl4, zl5, zl6, zl7, zl8, zl9, zl10, zl16, zl32, zl40, zl100, zl160, zIc1, zI_lt, zI_le, nI_eq, nI_add, z_sub, nI_clamp, zI_of, uu_eq, uu_ne, Nat.reduceLT, Nat.reduceLeDiff, Nat.reduceEqDiff, Nat.reduceAdd, Nat.reduceSub, Nat.reduceMul, Nat.not_lt_zero, Nat.lt_irrefl, Nat.le_refl, Bool.false_eq_true, false_and, and_false, true_and, and_true, if_pos, if_neg, if_true, if_false, not_true_eq_false, not_false_eq_true, e160, e256, e40, e3, e4, e6, e96, e6144]
theorem k44 (hd : 1 ≤ d) (ho : (sh o).1 = 3) (hon : o < n) (hn : n < 900000) : aC d 44 [.ref o] (n, t, sh, I, L, R) Q ↔ Q none (n + 1 + 1, t + 6144 + 96, u1 (u1 sh n (100, 6144)) (n + 1) (101, 96), u2 I o 0 (nI 0), L, u2 (u2 R o 1 (some n)) o 2 (some (n + 1))) := by
  obtain ⟨d, rfl⟩ : ∃ e, d = e + 1 := ⟨d - 1, by omega⟩
  have h1 : ∀ v0, ((u1 sh n v0) o).1 = 3 := fun v0 => by rw [u1_ne _ _ _ (by omega)]; exact ho
  have n0 : n < 1000000 := by omega
  have h2 : ∀ v0 v1, ((u1 (u1 sh n v0) (n + 1) v1) o).1 = 3 := fun v0 v1 => by rw [u1_ne _ _ _ (by omega)]; exact h1 v0
  have n1 : n + 1 < 1000000 := by omega
  have e160 : (160 : Int32) = nI 160 := rfl
  have e256 : (256 : Int32) = nI 256 := rfl
  have e40 : (40 : Int32) = nI 40 := rfl
  have e3 : (3 : Int32) = nI 3 := rfl
  have e4 : (4 : Int32) = nI 4 := rfl
  have e6 : (6 : Int32) = nI 6 := rfl
  have e96 : (96 : Int32) = nI 96 := rfl
  have e6144 : (6144 : Int32) = nI 6144 := rfl
  simp (disch := first | assumption | exact ct_i | exact ct_r | exact ct_n | exact h1 _ | exact h2 _ _ | decide | omega) only [b44, e44_0, e44_1, e44_4, e44_5, e44_6, e44_9, e44_10, e44_13, e44_15, e44_18, e44_19, e44_21, e44_23, e44_26, ct_i, ct_r, ct_n, ct_h, opt_v, opt_s, ref_s, ref_n, eq_self_iff_true, true_or, or_true, zl0, zl1, zl2, zl3, zl4, zl5, zl6, zl7, zl8, zl9, zl10, zl16, zl32, zl40, zl100, zl160, zIc1, zI_lt, zI_le, nI_eq, nI_add, z_sub, nI_clamp, zI_of, uu_eq, uu_ne, Nat.reduceLT, Nat.reduceLeDiff, Nat.reduceEqDiff, Nat.reduceAdd, Nat.reduceSub, Nat.reduceMul, Nat.not_lt_zero, Nat.lt_irrefl, Nat.le_refl, Bool.false_eq_true, false_and, and_false, true_and, and_true, if_pos, if_neg, if_true, if_false, not_true_eq_false, not_false_eq_true, e160, e256, e40, e3, e4, e6, e96, e6144]
end
section
variable {d : Nat} {t : Nat} {Q : Option Value → aH → Prop}
def sh0 : Nat → Nat × Nat := u1 (fun _ => (999, 0)) 0 (6, 12)
def shF : Nat → Nat × Nat := fun x => cSHl.getD x (999, 0)
def I00 : Nat → Nat → Int32 := fun _ _ => 0
def L00 : Nat → Nat → Int64 := fun _ _ => 0
def R00 : Nat → Nat → Option Nat := fun _ _ => none
theorem cl_u2 {m : Nat} {R : Nat → Nat → Option Nat} {o k v : Nat} (h : ∀ a k b, R a k = some b → b < m) (hv : v < m) : ∀ a y b, u2 R o k (some v) a y = some b → b < m := fun a y b e => by
  unfold u2 at e
  split at e
  · cases e; exact hv
  · exact h a y b e
def nwI (I : Nat → Nat → Int32) : Prop := (I 1 0 = nI 3 ∧ I 1 1 = nI 0) ∧ (∀ k, k < 7 → I 0 (5 + k) = nI 0) ∧ I 11 0 = nI 0 ∧ ∀ j, j < 4 → I (15 + 2 * j) 0 = -nI 1 ∧ I (15 + 2 * j) 1 = nI 0 ∧ ∀ k, k < 40 → I (16 + 2 * j) k = nI 0
theorem nw16 {j : Nat} (hj : j < 4) : ¬ (16 + 2 * j = 0) ∧ ¬ (16 + 2 * j = 1) ∧ ¬ (16 + 2 * j = 4) ∧ ¬ (16 + 2 * j = 8) ∧ ¬ (16 + 2 * j = 11) ∧ ¬ (16 + 2 * j = 15) ∧ ¬ (16 + 2 * j = 17) ∧ ¬ (16 + 2 * j = 19) ∧ ¬ (16 + 2 * j = 21) ∧ ¬ (16 + 2 * j = 23) ∧ ¬ (16 + 2 * j = 27) ∧ ¬ (16 + 2 * j = 31) ∧ ¬ (16 + 2 * j = 35) ∧ ¬ (16 + 2 * j = 39) ∧ ¬ (16 + 2 * j = 43) := by omega
theorem k76a (hd : 1 ≤ d) (H : ∀ sh I R, cK 0 sh R → (∀ x, 1000000 ≤ x → sh x = (999, 0)) → (∀ a k b, R a k = some b → b < 47) → R 1 4 = some 4 → nwI I → aE (a_cl_ (d + 2)) 76 (144, [.ref 0, .int (nI 0)], [], (47, t + 8062, sh, I, L00, R)) Q) : aC (d + 3) 76 [.ref 0] (1, t, sh0, I00, L00, R00) Q := by
  have s0 : (sh0 0).1 = 6 := rfl
  have e6 : (6 : Int32) = nI 6 := rfl
  have e4 : (4 : Int32) = nI 4 := rfl
  have e3 : (3 : Int32) = nI 3 := rfl
  simp (disch := first | assumption | exact ct_i | exact ct_r | exact ct_n | rfl | decide | omega) only [b76, e76_0, e76_1, e76_4, e76_5, e76_8, e76_9, e76_12, e76_15, e76_16, e76_19, e76_20, e76_23, e76_26, e76_27, e76_30, e76_31, e76_34, e76_37, e76_38, e76_40, e76_43, e76_46, e76_47, e76_48, e76_51, e76_54, e76_55, e76_56, e76_59, e76_60, e76_61, e76_64, e76_65, e76_66, e76_69, e76_70, e76_71, e76_74, e76_75, e76_76, e76_79, e76_80, e76_81, e76_84, e76_85, e76_86, e76_89, e76_90, e76_92, e76_93, e76_96, e76_97, e76_100, e76_101, e76_104, e76_105, e76_108, e76_109, e76_112, e76_116, e76_117, e76_118, e76_120, e76_123, e76_124, e76_127, e76_128, e76_131, e76_132, e76_135, e76_136, e76_139, e76_142, e76_143, e76_144, e76_145, e76_147, e76_150, e76_153, e76_154, e76_157, e76_159, e76_160, e76_163, e76_166, e76_169, e76_172, e76_173, e76_176, e76_177, e76_178, e76_179, e76_182, e8_0, e8_1, e8_4, e8_5, e8_6, e8_9, e8_10, e8_11, e8_14, e8_15, e8_16, e8_19, e8_22, e8_23, e8_25, e8_27, e8_30, e8_31, e8_34, e8_35, e8_38, e8_41, b8, k68, k24, k44, ct_i, ct_r, ct_n, ct_h, opt_v, opt_s, ref_s, ref_n, eq_self_iff_true, true_or, or_true, zl0, zl1, zl2, zl3, zl4, zl5, zl6, zl7, zl8, zl9, zl10, zl16, zl32, zl40, zl100, zl160, zIc1, zI_lt, zI_le, nI_eq, nI_add, z_sub, nI_clamp, zI_of, uu_eq, uu_ne, Nat.reduceLT, Nat.reduceLeDiff, Nat.reduceEqDiff, Nat.reduceAdd, Nat.reduceSub, Nat.reduceMul, Nat.not_lt_zero, Nat.lt_irrefl, Nat.le_refl, Bool.false_eq_true, false_and, and_false, true_and, and_true, if_pos, if_neg, if_true, if_false, not_true_eq_false, not_false_eq_true, e4, e6, e3]
  simp (disch := first | assumption | exact ct_i | exact ct_r | exact ct_n | rfl | decide | exact z_in (by decide) (by decide) | omega) only [e76_0, e76_1, e76_4, e76_5, e76_8, e76_9, e76_12, e76_15, e76_16, e76_19, e76_20, e76_23, e76_26, e76_27, e76_30, e76_31, e76_34, e76_37, e76_38, e76_40, e76_43, e76_46, e76_47, e76_48, e76_51, e76_54, e76_55, e76_56, e76_59, e76_60, e76_61, e76_64, e76_65, e76_66, e76_69, e76_70, e76_71, e76_74, e76_75, e76_76, e76_79, e76_80, e76_81, e76_84, e76_85, e76_86, e76_89, e76_90, e76_91, e76_92, e76_93, e76_96, e76_97, e76_100, e76_101, e76_104, e76_105, e76_108, e76_109, e76_112, e76_115, e76_116, e76_118, e76_120, e76_123, e76_124, e76_127, e76_128, e76_131, e76_132, e76_135, e76_136, e76_139, e76_143, e76_144, e76_145, e76_147, e76_150, e76_153, e76_154, e76_157, e76_159, e76_160, e76_163, e76_166, e76_169, e76_172, e76_173, e76_176, e76_177, e76_178, e76_179, e76_182, k61, ct_i, ct_r, ct_n, ct_h, opt_v, opt_s, ref_s, ref_n, eq_self_iff_true, true_or, or_true, zl0, zl1, zl2, zl3, zl4, zl5, zl6, zl7, zl8, zl9, zl10, zl16, zl32, zl40, zl100, zl160, zIc1, zI_lt, zI_le, nI_eq, nI_add, z_sub, nI_clamp, zI_of, uu_eq, uu_ne, Nat.reduceLT, Nat.reduceLeDiff, Nat.reduceEqDiff, Nat.reduceAdd, Nat.reduceSub, Nat.reduceMul, Nat.not_lt_zero, Nat.lt_irrefl, Nat.le_refl, Bool.false_eq_true, false_and, and_false, true_and, and_true, if_pos, if_neg, if_true, if_false, not_true_eq_false, not_false_eq_true, e4, e6, e3]
  simp (disch := first | assumption | exact ct_i | exact ct_r | exact ct_n | rfl | decide | exact z_in (by decide) (by decide) | omega) only [e76_0, e76_1, e76_4, e76_5, e76_8, e76_9, e76_12, e76_15, e76_16, e76_19, e76_20, e76_23, e76_26, e76_27, e76_30, e76_31, e76_34, e76_37, e76_38, e76_40, e76_43, e76_46, e76_47, e76_48, e76_51, e76_54, e76_55, e76_56, e76_59, e76_60, e76_61, e76_64, e76_65, e76_66, e76_69, e76_70, e76_71, e76_74, e76_75, e76_76, e76_79, e76_80, e76_81, e76_84, e76_85, e76_86, e76_89, e76_90, e76_91, e76_92, e76_93, e76_96, e76_97, e76_100, e76_101, e76_104, e76_105, e76_108, e76_109, e76_112, e76_115, e76_116, e76_117, e76_118, e76_120, e76_123, e76_124, e76_127, e76_128, e76_131, e76_132, e76_135, e76_136, e76_139, e76_142, e76_143, e76_145, e76_147, e76_150, e76_153, e76_154, e76_157, e76_159, e76_160, e76_163, e76_166, e76_169, e76_172, e76_173, e76_176, e76_177, e76_178, e76_179, e76_182, k68, ct_i, ct_r, ct_n, ct_h, opt_v, opt_s, ref_s, ref_n, eq_self_iff_true, true_or, or_true, zl0, zl1, zl2, zl3, zl4, zl5, zl6, zl7, zl8, zl9, zl10, zl16, zl32, zl40, zl100, zl160, zIc1, zI_lt, zI_le, nI_eq, nI_add, z_sub, nI_clamp, zI_of, uu_eq, uu_ne, Nat.reduceLT, Nat.reduceLeDiff, Nat.reduceEqDiff, Nat.reduceAdd, Nat.reduceSub, Nat.reduceMul, Nat.not_lt_zero, Nat.lt_irrefl, Nat.le_refl, Bool.false_eq_true, false_and, and_false, true_and, and_true, if_pos, if_neg, if_true, if_false, not_true_eq_false, not_false_eq_true, e4, e6, e3]
  simp only [Nat.add_assoc, Nat.reduceAdd]
  refine H _ _ _ ?_ ?_ ?_ ?_ ?_
  · exact ⟨by decide, fun i hi => by omega, by decide, fun i hi => by omega, by decide⟩
  · intro x hx; simp (disch := omega) only [u1_ne, sh0]
  · repeat' refine cl_u2 ?_ (by decide)
    intro a k b h; cases h
  · rfl
  · refine ⟨⟨rfl, rfl⟩, by decide, rfl, fun j hj => ⟨?_, ?_, fun k hk => ?_⟩⟩
    · revert j; decide
    · revert j; decide
    · obtain ⟨g1, g2, g3, g4, g5, g6, g7, g8, g9, g10, g11, g12, g13, g14, g15⟩ := nw16 hj
      simp only [u2, g1, g2, g3, g4, g5, g6, g7, g8, g9, g10, g11, g12, g13, g14, g15, false_and, if_false]
      rfl
end
