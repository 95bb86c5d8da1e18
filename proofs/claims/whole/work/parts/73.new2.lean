/-! the class's constructor, the first rule -/
def tp0 (k : Nat) : Nat := wb 2 k
theorem rd0 : (rdA tp0 41).1 = none ∧ (rdA tp0 41).2 0 = [0] ∧ (rdA tp0 41).2 1 = [1, 10001, 10012] ∧ (rdA tp0 41).2 2 = [10003, 2, 10011] := by decide
section
variable {T0 : Nat} {Z : Nat → Nat} {D : Nat → Nat → Nat} {tx : Nat → Nat → List Nat} {tp so sz : Nat → Nat} {it : Nat → Nat → Int32} {d : Nat} {n t : Nat} {sh : Nat → Nat × Nat} {I : Nat → Nat → Int32} {L : Nat → Nat → Int64} {R : Nat → Nat → Option Nat} {Q : Option Value → aH → Prop}
theorem k78g (hd : 8 ≤ d) (ho : okS Z D tx tp so sz) (hn : n = 47 + Z 1 ∧ t = T0 + 7 * Z 1 ∧ ∀ x, 1000000 ≤ x → sh x = (999, 0)) (hK : cK (Z 1) sh R) (hcl : ∀ a k b, R a k = some b → b < 47 + Z 1) (hD' : hD (Z 1) D I) (h5 : I 1 0 = nI (Z 0))
    (h6 : I 0 5 = nI (Z 3) ∧ I 0 6 = nI (Z 4) ∧ I 0 7 = nI (Z 2) ∧ I 0 8 = nI (Z 6) ∧ I 0 9 = nI (Z 7) ∧ I 0 10 = nI (Z 8) ∧ I 0 11 = nI (Z 9)) (h7 : ∀ i, i < Z 3 → txC (tx i) (24 + 4 * i) (25 + 4 * i) I)
    (h8 : I 11 0 = nI (Z 5) ∧ ∀ k, k < Z 5 → I 12 k = nI (tp k)) (h9 : ∀ j, j < 4 → I (15 + 2 * j) 0 = dI (so j) ∧ I (15 + 2 * j) 1 = nI (sz j) ∧ ∀ k, k < 40 → I (16 + 2 * j) k = it j k)
    {r : Nat} (hr : r < Z 3) (H : ∀ h', RK T0 (u1 Z 4 r) D tx tp so sz it h' → Q none h') : aC d 78 [.ref 0, .int (nI r)] (n, t, sh, I, L, R) Q := by
  obtain ⟨d, rfl⟩ : ∃ e, d = e + 1 := ⟨d - 1, by omega⟩
  obtain ⟨o1, ⟨o2, hB⟩, o3, o4, o5, o6, o7⟩ := ho
  obtain ⟨c1, c2, c3, c4, c5, c6, c7, c8, c9, c10⟩ := cP0 hK
  have s1 := (cPh hK).1
  have r6 : r < 6 := by omega
  have e13 := cP13 hK r6
  have hD2 : hD (Z 1) D (u2 I 0 6 (nI r)) := ⟨by rw [uu_ne _ _ _ _ (by omega)]; exact hD'.1, fun i hi k hk => by rw [uu_ne _ _ _ _ (by omega)]; exact hD'.2 i hi k hk⟩
  have hC2 : txC (tx r) (24 + 4 * r) (25 + 4 * r) (u2 I 0 6 (nI r)) := txC_fr r6 (fun x k hx => uu_ne _ _ _ _ (by omega)) (h7 r hr)
  simp (disch := first | assumption | exact ct_i | exact ct_r | exact ct_n | exact ct_h | omega | exact z_in (by omega) (by omega) | exact b01 | exact Or.inl rfl | exact Or.inr rfl) only [b78, e78_0, e78_1, e78_4, e78_5, e78_6, e78_9, e78_12, e78_13, e78_14, e78_15, e78_18, e78_19, e78_22, e78_23, e78_26, e78_27, e78_28, e78_31, ct_i, ct_r, ct_n, ct_h, opt_v, opt_s, ref_s, ref_n, eq_self_iff_true, true_or, or_true, zl0, zl1, zl2, zl3, zl4, zl5, zl6, zl7, zl8, zl9, zl10, zl16, zl32, zl40, zl100, zl160, zIc1, zI_lt, zI_le, nI_eq, nI_add, z_sub, nI_clamp, zI_of, uu_eq, uu_ne, Nat.reduceLT, Nat.reduceLeDiff, Nat.reduceEqDiff, Nat.reduceAdd, Nat.reduceSub, Nat.reduceMul, Nat.not_lt_zero, Nat.lt_irrefl, Nat.le_refl, Bool.false_eq_true, false_and, and_false, true_and, and_true, if_pos, if_neg, if_true, if_false, not_true_eq_false, not_false_eq_true, c1, c4, c5, c6, c9, s1, h6.1, e13]
  refine k9 (by omega) hK hD2 hB r6 hC2 (o4.2.2 r hr) (fun I' L' hI' hL' hm' => ?_)
  simp (disch := first | assumption | exact ct_i | exact ct_r | exact ct_n | exact ct_h | omega | exact z_in (by omega) (by omega) | exact b01 | exact Or.inl rfl | exact Or.inr rfl) only [e78_0, e78_1, e78_4, e78_5, e78_6, e78_9, e78_12, e78_13, e78_14, e78_15, e78_18, e78_19, e78_22, e78_23, e78_26, e78_27, e78_28, e78_31, ct_i, ct_r, ct_n, ct_h, opt_v, opt_s, ref_s, ref_n, eq_self_iff_true, true_or, or_true]
  refine H _ ⟨?_, hn, cK_r4 hK, cl_r4 hcl r6, hD_fr hI' o2 hD2, ?_, by simp only [uu_eq, u1_eq], ?_, ?_, fun i hi => ?_, ⟨?_, fun k hk => ?_⟩, fun j hj => ⟨?_, ?_, fun k hk => ?_⟩⟩
  · simp (disch := omega) only [okS, u1_ne, u1_eq]
    exact ⟨o1, ⟨o2, hB⟩, o3, ⟨o4.1, hr, o4.2.2⟩, o5, o6, o7⟩
  · simp (disch := omega) only [u1_ne, u1_eq]; exact hm'
  · simp (disch := omega) only [u1_ne, u1_eq]
    rw [hI' _ _ (by unfold scr; omega), uu_ne _ _ _ _ (by omega)]; exact h5
  · simp (disch := omega) only [u1_ne, u1_eq]
    rw [hI' 0 5 (by unfold scr; omega), hI' 0 6 (by unfold scr; omega), hI' 0 7 (by unfold scr; omega), hI' 0 8 (by unfold scr; omega), hI' 0 9 (by unfold scr; omega), hI' 0 10 (by unfold scr; omega), hI' 0 11 (by unfold scr; omega)]
    simp (disch := omega) only [uu_ne, uu_eq]
    exact ⟨h6.1, trivial, h6.2.2⟩
  · rw [u1_ne _ _ _ (by decide)] at hi
    exact txC_fr (by omega) (fun x k hx => (hI' x k (by unfold scr; omega)).trans (uu_ne _ _ _ _ (by omega))) (h7 i hi)
  · simp (disch := omega) only [u1_ne, u1_eq]
    rw [hI' _ _ (by unfold scr; omega), uu_ne _ _ _ _ (by omega)]; exact h8.1
  · rw [u1_ne _ _ _ (by decide)] at hk
    simp only []
    rw [hI' _ _ (by unfold scr; omega), uu_ne _ _ _ _ (by omega)]; exact h8.2 k hk
  · simp only []
    rw [hI' _ _ (by unfold scr; omega), uu_ne _ _ _ _ (by omega)]; exact (h9 j hj).1
  · simp only []
    rw [hI' _ _ (by unfold scr; omega), uu_ne _ _ _ _ (by omega)]; exact (h9 j hj).2.1
  · simp only []
    rw [hI' _ _ (by unfold scr; omega), uu_ne _ _ _ _ (by omega)]; exact (h9 j hj).2.2 k hk
end
section
variable {d : Nat} {t : Nat} {Q : Option Value → aH → Prop}
def Z0 (k : Nat) : Nat := if k = 0 then 3 else if k = 3 then 1 else 0
def D0 (_ _ : Nat) : Nat := 0
def tx0 (_ : Nat) : Nat → List Nat := (rdA tp0 41).2
def n0 (_ : Nat) : Nat := 0
def it0 (_ _ : Nat) : Int32 := nI 0
theorem k76l (hd : 5 ≤ d) {sh : Nat → Nat × Nat} {R : Nat → Nat → Option Nat} {n t : Nat} {L : Nat → Nat → Int64} (hK : cK 0 sh R) (hs : ∀ x, 1000000 ≤ x → sh x = (999, 0)) {J : Nat → Nat → Int32}
    (H : ∀ I, (∀ x k, ¬ (x = 12 ∨ x = 11 ∧ k = 0) → I x k = J x k) → tpC tp0 41 I → aE (a_cl_ d) 76 (172, [.ref 0, .int (nI 41)], [], (n, t, sh, I, L, R)) Q) :
    ∀ m i I, i + m = 41 → I 11 0 = nI i → (∀ k, k < i → I 12 k = nI (tp0 k)) → (∀ x k, ¬ (x = 12 ∨ x = 11 ∧ k = 0) → I x k = J x k) → aE (a_cl_ d) 76 (144, [.ref 0, .int (nI i)], [], (n, t, sh, I, L, R)) Q := by
  obtain ⟨c1, c2, c3, c4, c5, c6, c7, c8, c9, c10⟩ := cP0 hK
  have s1 := (cPq hK).1
  have k1 : (a_ck 1000002).1 = 1 := rfl
  have hlen : ∀ (I : Nat → Nat → Int32) (Q : Option Value → aH → Prop), aC d 202 [.ref 1000002] (n, t, sh, I, L, R) Q ↔ Q (some (.int (nI 41))) (n, t, sh, I, L, R) := fun I Q => k202 (i := 2) (show 2 ≤ d by omega) (by decide) hs
  intro m
  induction m with
  | zero =>
    intro i I hi h0 ht hf
    obtain rfl : i = 41 := by omega
    rw [e76_144]
    simp (disch := first | assumption | exact ct_i | exact ct_r | exact ct_n | exact ct_h | omega | exact z_in (by omega) (by omega) | exact b01 | exact Or.inl rfl | exact Or.inr rfl) only [e76_0, e76_1, e76_4, e76_5, e76_8, e76_9, e76_12, e76_15, e76_16, e76_19, e76_20, e76_23, e76_26, e76_27, e76_30, e76_31, e76_34, e76_37, e76_38, e76_40, e76_43, e76_46, e76_47, e76_48, e76_51, e76_54, e76_55, e76_56, e76_59, e76_60, e76_61, e76_64, e76_65, e76_66, e76_69, e76_70, e76_71, e76_74, e76_75, e76_76, e76_79, e76_80, e76_81, e76_84, e76_85, e76_86, e76_89, e76_90, e76_91, e76_92, e76_93, e76_96, e76_97, e76_100, e76_101, e76_104, e76_105, e76_108, e76_109, e76_112, e76_115, e76_116, e76_117, e76_118, e76_120, e76_123, e76_124, e76_127, e76_128, e76_131, e76_132, e76_135, e76_136, e76_139, e76_142, e76_143, e76_145, e76_147, e76_150, e76_153, e76_154, e76_157, e76_159, e76_160, e76_163, e76_166, e76_169, e76_173, e76_176, e76_177, e76_178, e76_179, e76_182, ct_i, ct_r, ct_n, ct_h, opt_v, opt_s, ref_s, ref_n, eq_self_iff_true, true_or, or_true, zl0, zl1, zl2, zl3, zl4, zl5, zl6, zl7, zl8, zl9, zl10, zl16, zl32, zl40, zl100, zl160, zIc1, zI_lt, zI_le, nI_eq, nI_add, z_sub, nI_clamp, zI_of, uu_eq, uu_ne, Nat.reduceLT, Nat.reduceLeDiff, Nat.reduceEqDiff, Nat.reduceAdd, Nat.reduceSub, Nat.reduceMul, Nat.not_lt_zero, Nat.lt_irrefl, Nat.le_refl, Bool.false_eq_true, false_and, and_false, true_and, and_true, if_pos, if_neg, if_true, if_false, not_true_eq_false, not_false_eq_true, k1, hlen]
    exact H I hf ⟨by decide, fun k hk => by have := (wb_c2 k hk).2; unfold tp0; omega, h0, ht⟩
  | succ m ih =>
    intro i I hi h0 ht hf
    have hch : ∀ (Q : Option Value → aH → Prop), aC d 204 [.ref 1000002, .int (nI i)] (n, t, sh, I, L, R) Q ↔ Q (some (.int (nI (tp0 i)))) (n, t, sh, I, L, R) := fun Q => k204 (i := 2) (show 4 ≤ d by omega) (by decide) hs (show i < wn 2 by have : wn 2 = 41 := rfl; omega)
    rw [e76_144]
    simp (disch := first | assumption | exact ct_i | exact ct_r | exact ct_n | exact ct_h | omega | exact z_in (by omega) (by omega) | exact b01 | exact Or.inl rfl | exact Or.inr rfl) only [e76_0, e76_1, e76_4, e76_5, e76_8, e76_9, e76_12, e76_15, e76_16, e76_19, e76_20, e76_23, e76_26, e76_27, e76_30, e76_31, e76_34, e76_37, e76_38, e76_40, e76_43, e76_46, e76_47, e76_48, e76_51, e76_54, e76_55, e76_56, e76_59, e76_60, e76_61, e76_64, e76_65, e76_66, e76_69, e76_70, e76_71, e76_74, e76_75, e76_76, e76_79, e76_80, e76_81, e76_84, e76_85, e76_86, e76_89, e76_90, e76_91, e76_92, e76_93, e76_96, e76_97, e76_100, e76_101, e76_104, e76_105, e76_108, e76_109, e76_112, e76_115, e76_116, e76_117, e76_118, e76_120, e76_123, e76_124, e76_127, e76_128, e76_131, e76_132, e76_135, e76_136, e76_139, e76_142, e76_143, e76_145, e76_147, e76_150, e76_153, e76_154, e76_157, e76_159, e76_160, e76_163, e76_166, e76_169, e76_173, e76_176, e76_177, e76_178, e76_179, e76_182, ct_i, ct_r, ct_n, ct_h, opt_v, opt_s, ref_s, ref_n, eq_self_iff_true, true_or, or_true, zl0, zl1, zl2, zl3, zl4, zl5, zl6, zl7, zl8, zl9, zl10, zl16, zl32, zl40, zl100, zl160, zIc1, zI_lt, zI_le, nI_eq, nI_add, z_sub, nI_clamp, zI_of, uu_eq, uu_ne, Nat.reduceLT, Nat.reduceLeDiff, Nat.reduceEqDiff, Nat.reduceAdd, Nat.reduceSub, Nat.reduceMul, Nat.not_lt_zero, Nat.lt_irrefl, Nat.le_refl, Bool.false_eq_true, false_and, and_false, true_and, and_true, if_pos, if_neg, if_true, if_false, not_true_eq_false, not_false_eq_true, k1, hlen, hch, c1, c8, s1, k25 (show 1 ≤ d by omega) hK h0 (show i < 160 by omega)]
    refine ih (i + 1) _ (by omega) (uu_eq _ _ _ _) (fun k hk => ?_) (fun x k hx => ?_)
    · rw [uu_ne _ _ _ _ (by omega)]
      by_cases he : k = i
      · subst he; rw [uu_eq]
      · rw [uu_ne _ _ _ _ (by omega)]; exact ht k (by omega)
    · simp (disch := omega) only [uu_ne]; exact hf x k hx
theorem k76 (hd : 90 ≤ d) (H : ∀ h', RK (t + 8062) Z0 D0 tx0 n0 n0 n0 it0 h' → Q none h') : aC d 76 [.ref 0] (1, t, sh0, I00, L00, R00) Q := by
  obtain ⟨d, rfl⟩ : ∃ e, d = e + 3 := ⟨d - 3, by omega⟩
  refine k76a (by omega) (fun sh I R hK hs hcl hr hI => ?_)
  obtain ⟨⟨i1, i2⟩, i3, i4, i5⟩ := hI
  refine k76l (J := I) (by omega) hK hs (fun I1 hf1 hT1 => ?_) 41 0 I (by decide) i4 (fun k hk => by omega) (fun _ _ _ => rfl)
  obtain ⟨c1, c2, c3, c4, c5, c6, c7, c8, c9, c10⟩ := cP0 hK
  obtain ⟨r0, r1, r2, r3⟩ := rd0
  simp (disch := first | assumption | exact ct_i | exact ct_r | exact ct_n | exact ct_h | omega | exact z_in (by omega) (by omega) | exact b01 | exact Or.inl rfl | exact Or.inr rfl) only [e76_172, e76_173, ct_i, ct_r, ct_n, ct_h, opt_v, opt_s, ref_s, ref_n, eq_self_iff_true, true_or, or_true, c1]
  refine k77g (i := 0) (by omega) hK hs (by decide) hT1 ((hf1 _ _ (by omega)).trans (i3 0 (by decide))) (fun I2 hf2 h0 => ?_)
  rw [r0]
  simp only []
  intro h05 hC hB
  simp (disch := first | assumption | exact ct_i | exact ct_r | exact ct_n | exact ct_h | omega | exact z_in (by omega) (by omega) | exact b01 | exact Or.inl rfl | exact Or.inr rfl) only [e76_176, e76_177, e76_178, e76_179, ct_i, ct_r, ct_n, ct_h, opt_v, opt_s, ref_s, ref_n, eq_self_iff_true, true_or, or_true, zl0, zl1, zl2, zl3, zl4, zl5, zl6, zl7, zl8, zl9, zl10, zl16, zl32, zl40, zl100, zl160, zIc1, zI_lt, zI_le, nI_eq, nI_add, z_sub, nI_clamp, zI_of, uu_eq, uu_ne, Nat.reduceLT, Nat.reduceLeDiff, Nat.reduceEqDiff, Nat.reduceAdd, Nat.reduceSub, Nat.reduceMul, Nat.not_lt_zero, Nat.lt_irrefl, Nat.le_refl, Bool.false_eq_true, false_and, and_false, true_and, and_true, if_pos, if_neg, if_true, if_false, not_true_eq_false, not_false_eq_true, c1]
  have e : ∀ x k, ¬ (x = 12) → ¬ (x = 11 ∧ k ≤ 5 ∨ x = 23 ∧ k = 3 ∨ x = 24 ∨ x = 25 ∨ x = 0 ∧ k = 5) → I2 x k = I x k := fun x k g1 g2 => (hf2 x k (by omega)).trans (hf1 x k (by omega))
  refine k78g (T0 := t + 8062) (Z := Z0) (D := D0) (tx := tx0) (tp := n0) (so := n0) (sz := n0) (it := it0) (r := 0) (by omega) ?_ ⟨rfl, rfl, hs⟩ hK hcl ⟨(e 1 1 (by omega) (by omega)).trans i2, fun i hi => by simp [Z0] at hi⟩ ((e 1 0 (by omega) (by omega)).trans i1) ⟨h05, (e 0 6 (by omega) (by omega)).trans (i3 1 (by decide)), (e 0 7 (by omega) (by omega)).trans (i3 2 (by decide)), (e 0 8 (by omega) (by omega)).trans (i3 3 (by decide)), (e 0 9 (by omega) (by omega)).trans (i3 4 (by decide)), (e 0 10 (by omega) (by omega)).trans (i3 5 (by decide)), (e 0 11 (by omega) (by omega)).trans (i3 6 (by decide))⟩ (fun i hi => ?_) ⟨h0, fun k hk => by simp [Z0] at hk⟩ (fun j hj => ⟨?_, ?_, fun k hk => ?_⟩) (by decide) (fun h' hR => ?_)
  · refine ⟨by decide, ⟨by decide, ?_⟩, ⟨by decide, fun i _ hi => ?_⟩, ⟨by decide, by decide, fun i hi => ?_⟩, ⟨by decide, fun k hk => by simp [Z0] at hk⟩, Or.inl rfl, fun j hj => ⟨show 0 < 4 by decide, show 0 ≤ 40 by decide, fun _ => rfl⟩⟩
    · intro i hi; simp [Z0] at hi
    · have : ∀ i, i < 4 → stt 0 i = 0 := by decide
      exact this i hi
    · exact hB
  · have hi0 : i = 0 := by simp [Z0] at hi; exact hi
    subst hi0
    exact hC
  · exact (e _ _ (by omega) (by omega)).trans (i5 j hj).1
  · exact (e _ _ (by omega) (by omega)).trans (i5 j hj).2.1
  · exact (e _ _ (by omega) (by omega)).trans ((i5 j hj).2.2 k hk)
  · simp (disch := first | assumption | exact ct_i | exact ct_r | exact ct_n | exact ct_h | omega | exact z_in (by omega) (by omega) | exact b01 | exact Or.inl rfl | exact Or.inr rfl) only [e76_0, e76_1, e76_4, e76_5, e76_8, e76_9, e76_12, e76_15, e76_16, e76_19, e76_20, e76_23, e76_26, e76_27, e76_30, e76_31, e76_34, e76_37, e76_38, e76_40, e76_43, e76_46, e76_47, e76_48, e76_51, e76_54, e76_55, e76_56, e76_59, e76_60, e76_61, e76_64, e76_65, e76_66, e76_69, e76_70, e76_71, e76_74, e76_75, e76_76, e76_79, e76_80, e76_81, e76_84, e76_85, e76_86, e76_89, e76_90, e76_91, e76_92, e76_93, e76_96, e76_97, e76_100, e76_101, e76_104, e76_105, e76_108, e76_109, e76_112, e76_115, e76_116, e76_117, e76_118, e76_120, e76_123, e76_124, e76_127, e76_128, e76_131, e76_132, e76_135, e76_136, e76_139, e76_142, e76_143, e76_145, e76_147, e76_150, e76_153, e76_154, e76_157, e76_159, e76_160, e76_163, e76_166, e76_169, e76_172, e76_173, e76_176, e76_177, e76_178, e76_179, e76_182, ct_i, ct_r, ct_n, ct_h, opt_v, opt_s, ref_s, ref_n, eq_self_iff_true, true_or, or_true]
    refine H h' ?_
    have hz : u1 Z0 4 0 = Z0 := by
      funext k
      by_cases h : k = 4
      · subst h; rfl
      · exact u1_ne _ _ _ h
    rw [hz] at hR
    exact hR
end
