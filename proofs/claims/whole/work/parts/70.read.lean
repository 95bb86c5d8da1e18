/-! a whole text read -/
section
variable (tp : Nat → Nat) (s : Nat)
def prT (o p : Nat) (c : List Nat) : Bool × Nat × List Nat := (pr tp s 1700 0 o p c).getD (false, p, c)
def rdF : Nat → Nat → Nat → List Nat → (Nat → List Nat) → Option Nat × (Nat → List Nat)
  | 0, _, p, _, f => if tk tp s p = 256 then (none, f) else (some p, f)
  | m + 1, k, p, c, f => if tk tp s p = 306 + k then
      (if (prT tp s 0 (nx tp s p) c).1 = true ∧ tk tp s (prT tp s 0 (nx tp s p) c).2.1 = 59 then rdF m (k + 1) (nx tp s (prT tp s 0 (nx tp s p) c).2.1) (prT tp s 0 (nx tp s p) c).2.2 (u1 f k ((prT tp s 0 (nx tp s p) c).2.2.drop c.length))
       else (some (prT tp s 0 (nx tp s p) c).2.1, f))
    else (some p, f)
/-- none: it stands, with the codes of its parts; else the place of its fault -/
def rdA : Option Nat × (Nat → List Nat) := rdF tp s 3 0 (sk tp s isB 0) [] (fun _ => [])
end
def ccF (f : Nat → List Nat) : Nat → List Nat
  | 0 => []
  | k + 1 => ccF f k ++ f k
theorem ccF_S (f : Nat → List Nat) {k : Nat} (h : k < 3) : (ccF f k).length = tS f k := by
  rcases (show k = 0 ∨ k = 1 ∨ k = 2 by omega) with rfl | rfl | rfl <;> simp [ccF, tS]
theorem ccF_u {f : Nat → List Nat} {v : List Nat} : ∀ {k m : Nat}, k ≤ m → ccF (u1 f m v) k = ccF f k
  | 0, _, _ => rfl
  | k + 1, m, h => by simp only [ccF]; rw [ccF_u (by omega), u1_ne _ _ _ (by omega)]
theorem getD_app_l {a b : List Nat} {j : Nat} (h : j < a.length) : (a ++ b).getD j 0 = a.getD j 0 := by
  rw [List.getD_eq_getElem?_getD, List.getD_eq_getElem?_getD, List.getElem?_append_left h]
theorem getD_app_r {a b : List Nat} {j : Nat} : (a ++ b).getD (a.length + j) 0 = b.getD j 0 := by
  rw [List.getD_eq_getElem?_getD, List.getD_eq_getElem?_getD, List.getElem?_append_right (by omega), Nat.add_sub_cancel_left]
section
variable {tp : Nat → Nat} {s d nd i : Nat} {n t : Nat} {sh : Nat → Nat × Nat} {L : Nat → Nat → Int64} {R : Nat → Nat → Option Nat} {Q : Option Value → aH → Prop}
theorem prT_e (hs : s ≤ 160) {p : Nat} (hp : p ≤ s) {c : List Nat} : pr tp s 1700 0 0 p c = some (prT tp s 0 p c) := by
  obtain ⟨r, hr⟩ := pr_tot (tp := tp) (s := s) 1700 0 0 p c (by decide) hp (by have : wT 0 = 7 := rfl; omega)
  unfold prT; rw [hr]; rfl
/-- what reading a text changes -/
def frE (i : Nat) (I0 I : Nat → Nat → Int32) : Prop := ∀ x k, ¬ (x = 11 ∧ 2 ≤ k ∧ k ≤ 5 ∨ x = 23 + 4 * i ∧ k = 3 ∨ x = 24 + 4 * i ∨ x = 25 + 4 * i) → I x k = I0 x k
theorem frP_E {I0 I : Nat → Nat → Int32} (h : frP i I0 I) : frE i I0 I := fun x k hx => h x k (by omega)
theorem frE_t {I0 I I' : Nat → Nat → Int32} (h : frE i I0 I) (h' : frE i I I') : frE i I0 I' := fun x k hx => (h' x k hx).trans (h x k hx)
theorem k26l (hd : 77 ≤ d) (hK : cK nd sh R) (hs : ∀ x, 1000000 ≤ x → sh x = (999, 0)) (hi : i < 6) (hs160 : s ≤ 160) {B : Nat → Nat → Int32} {F : Option Nat × (Nat → List Nat)}
    (H : ∀ I', frE i B I' → (F.1 = none → txC F.2 (24 + 4 * i) (25 + 4 * i) I' ∧ txB F.2) → Q (some (.int (match F.1 with | none => -nI 1 | some p => nI p))) (n, t, sh, I', L, R)) :
    ∀ m k p c f I0 I, k + m = 3 → p ≤ s → rP tp s i p c I0 I → frE i B I0 → c.length ≤ p → c = ccF f k → (∀ q, q < k → I0 (25 + 4 * i) q = nI (tS f q + (f q).length)) → (∀ q, q < k → okc (f q) 0 1) → rdF tp s m k p c f = F →
    aE (a_cl_ d) 26 (15, [.ref 11, .ref (23 + 4 * i), .int (nI k)], [], (n, t, sh, I, L, R)) Q := by
  obtain ⟨s1, s2, s3, s4⟩ := cPq hK
  have hT := cPt hK hi
  have sT := hT.1
  have e3 : (3 : Int32) = nI 3 := rfl
  have e306 : (306 : Int32) = nI 306 := rfl
  have e59 : (59 : Int32) = nI 59 := rfl
  have e256 : (256 : Int32) = nI 256 := rfl
  intro m
  induction m with
  | zero =>
    intro k p c f I0 I hk hp hP hB hc hcf hE hO hF
    obtain rfl : k = 3 := by omega
    have ht := tk_lt (tp := tp) (s := s) (p := p)
    have h3 := hP.1.2.2.1
    have h4 := hP.1.2.2.2.1
    have hfr : frE i B I := frE_t hB (frP_E hP.2.2.2)
    simp only [rdF] at hF
    rw [e26_15]
    by_cases hq : tk tp s p = 256
    · rw [if_pos hq] at hF
      subst hF
      simp (disch := first | assumption | exact ct_i | exact ct_r | exact ct_n | exact ct_h | omega | exact z_in (by omega) (by omega) | exact b01 | exact Or.inl rfl | exact Or.inr rfl) only [e26_0, e26_0n, e26_1, e26_4, e26_5, e26_6, e26_9, e26_10, e26_13, e26_14, e26_16, e26_17, e26_20, e26_21, e26_24, e26_27, e26_28, e26_29, e26_32, e26_33, e26_36, e26_37, e26_38, e26_41, e26_42, e26_42n, e26_43, e26_44, e26_47, e26_50, e26_51, e26_54, e26_56, e26_59, e26_60, e26_63, e26_64, e26_64n, e26_65, e26_66, e26_69, e26_70, e26_73, e26_76, e26_79, e26_80, e26_83, e26_86, e26_89, e26_90, e26_93, e26_94, e26_97, ct_i, ct_r, ct_n, ct_h, opt_v, opt_s, ref_s, ref_n, eq_self_iff_true, true_or, or_true, zl0, zl1, zl2, zl3, zl4, zl5, zl6, zl7, zl8, zl9, zl10, zl16, zl32, zl40, zl100, zl160, zIc1, zI_lt, zI_le, nI_eq, nI_add, z_sub, nI_clamp, zI_of, uu_eq, uu_ne, Nat.reduceLT, Nat.reduceLeDiff, Nat.reduceEqDiff, Nat.reduceAdd, Nat.reduceSub, Nat.reduceMul, Nat.not_lt_zero, Nat.lt_irrefl, Nat.le_refl, Bool.false_eq_true, false_and, and_false, true_and, and_true, if_pos, if_neg, if_true, if_false, not_true_eq_false, not_false_eq_true, s1, h3, e256, hq]
      refine H I hfr (fun _ => ⟨⟨fun q hq => ?_, fun q hq j hj => ?_⟩, ?_, hO⟩)
      · rw [hP.2.2.2 _ _ (by omega)]; exact hE q hq
      · have hj : j < (f q).length := hj
        show I (24 + 4 * i) (tS f q + j) = cCell ((f q).getD j 0)
        have e1 := hP.2.2.1.2 (tS f q + j)
        have l3 : c.length = (f 0).length + (f 1).length + (f 2).length := by rw [hcf]; simp [ccF, Nat.add_assoc]
        have hj2 : tS f q + j < c.length := by
          have t0 : tS f 0 = 0 := rfl
          have t1 : tS f 1 = (f 0).length := rfl
          have t2 : tS f 2 = (f 0).length + (f 1).length := rfl
          rcases (show q = 0 ∨ q = 1 ∨ q = 2 by omega) with rfl | rfl | rfl <;> omega
        rw [e1 hj2]
        congr 1
        rw [hcf]
        rcases (show q = 0 ∨ q = 1 ∨ q = 2 by omega) with rfl | rfl | rfl
        · simp only [ccF, List.nil_append, tS, Nat.zero_add, List.append_assoc]
          exact getD_app_l hj
        · simp only [ccF, List.nil_append, tS]
          rw [List.append_assoc, getD_app_r]; exact getD_app_l hj
        · simp only [ccF, List.nil_append, tS]
          rw [← List.length_append, getD_app_r]
      · have l3 : c.length = (f 0).length + (f 1).length + (f 2).length := by rw [hcf]; simp [ccF, Nat.add_assoc]
        simp only [tS]; omega
    · rw [if_neg hq] at hF
      subst hF
      have := H I hfr (fun h => by cases h)
      simp only [] at this
      simp (disch := first | assumption | exact ct_i | exact ct_r | exact ct_n | exact ct_h | omega | exact z_in (by omega) (by omega) | exact b01 | exact Or.inl rfl | exact Or.inr rfl) only [e26_0, e26_0n, e26_1, e26_4, e26_5, e26_6, e26_9, e26_10, e26_13, e26_14, e26_16, e26_17, e26_20, e26_21, e26_24, e26_27, e26_28, e26_29, e26_32, e26_33, e26_36, e26_37, e26_38, e26_41, e26_42, e26_42n, e26_43, e26_44, e26_47, e26_50, e26_51, e26_54, e26_56, e26_59, e26_60, e26_63, e26_64, e26_64n, e26_65, e26_66, e26_69, e26_70, e26_73, e26_76, e26_79, e26_80, e26_83, e26_86, e26_89, e26_90, e26_93, e26_94, e26_97, ct_i, ct_r, ct_n, ct_h, opt_v, opt_s, ref_s, ref_n, eq_self_iff_true, true_or, or_true, zl0, zl1, zl2, zl3, zl4, zl5, zl6, zl7, zl8, zl9, zl10, zl16, zl32, zl40, zl100, zl160, zIc1, zI_lt, zI_le, nI_eq, nI_add, z_sub, nI_clamp, zI_of, uu_eq, uu_ne, Nat.reduceLT, Nat.reduceLeDiff, Nat.reduceEqDiff, Nat.reduceAdd, Nat.reduceSub, Nat.reduceMul, Nat.not_lt_zero, Nat.lt_irrefl, Nat.le_refl, Bool.false_eq_true, false_and, and_false, true_and, and_true, if_pos, if_neg, if_true, if_false, not_true_eq_false, not_false_eq_true, s1, h3, h4, e256, hq]
      exact this
  | succ m ih =>
    intro k p c f I0 I hk hp hP hB hc hcf hE hO hF
    have hk3 : k < 3 := by omega
    have ht := tk_lt (tp := tp) (s := s) (p := p)
    have h3 := hP.1.2.2.1
    have h4 := hP.1.2.2.2.1
    have hfr : frE i B I := frE_t hB (frP_E hP.2.2.2)
    simp only [rdF] at hF
    rw [e26_15]
    by_cases hq : tk tp s p = 306 + k
    · rw [if_pos hq] at hF
      have hlt := tk_ne (tp := tp) (s := s) (p := p) (by omega)
      have hnx := nx_gt (tp := tp) hlt
      have hnl := nx_le (tp := tp) hp
      have hpr := prT_e (tp := tp) hs160 hnl (c := c)
      have hbd := pr_b (b := (prT tp s 0 (nx tp s p) c).1) (p1 := (prT tp s 0 (nx tp s p) c).2.1) (c1 := (prT tp s 0 (nx tp s p) c).2.2) (by decide) hpr hnl
      have hcl := (CG_c (lv := 0) (by decide)).mp (par_c (n := n) (t := t) (L := L) (I0 := I0) hK hs hi 1700 0 0 (nx tp s p) c (prT tp s 0 (nx tp s p) c).1 (prT tp s 0 (nx tp s p) c).2.1 (prT tp s 0 (nx tp s p) c).2.2 (by decide) hnl hpr) (by decide)
      have hph := fun (hb : (prT tp s 0 (nx tp s p) c).1 = true) => pr_h (tp := tp) (s := s) (lv := 0) (f := 1700) (by decide) (show pr tp s 1700 0 0 (nx tp s p) c = some (true, (prT tp s 0 (nx tp s p) c).2.1, (prT tp s 0 (nx tp s p) c).2.2) by rw [hpr, ← hb]) (Nat.zero_le 5)
      revert hF hbd hcl hph
      generalize prT tp s 0 (nx tp s p) c = r
      obtain ⟨b, p1, c1⟩ := r
      intro hF hbd hcl hph
      simp only [] at hF hbd hcl hph
      simp (disch := first | assumption | exact ct_i | exact ct_r | exact ct_n | exact ct_h | omega | exact z_in (by omega) (by omega) | exact b01 | exact Or.inl rfl | exact Or.inr rfl) only [e26_0, e26_0n, e26_1, e26_4, e26_5, e26_6, e26_9, e26_10, e26_13, e26_14, e26_16, e26_17, e26_20, e26_21, e26_24, e26_27, e26_28, e26_29, e26_32, e26_33, e26_36, e26_37, e26_38, e26_41, e26_42, e26_42n, e26_43, e26_44, e26_47, e26_50, e26_51, e26_54, e26_56, e26_59, e26_60, e26_63, e26_64, e26_64n, e26_65, e26_66, e26_69, e26_70, e26_73, e26_76, e26_79, e26_80, e26_83, e26_86, e26_89, e26_90, e26_93, e26_94, e26_97, ct_i, ct_r, ct_n, ct_h, opt_v, opt_s, ref_s, ref_n, eq_self_iff_true, true_or, or_true, zl0, zl1, zl2, zl3, zl4, zl5, zl6, zl7, zl8, zl9, zl10, zl16, zl32, zl40, zl100, zl160, zIc1, zI_lt, zI_le, nI_eq, nI_add, z_sub, nI_clamp, zI_of, uu_eq, uu_ne, Nat.reduceLT, Nat.reduceLeDiff, Nat.reduceEqDiff, Nat.reduceAdd, Nat.reduceSub, Nat.reduceMul, Nat.not_lt_zero, Nat.lt_irrefl, Nat.le_refl, Bool.false_eq_true, false_and, and_false, true_and, and_true, if_pos, if_neg, if_true, if_false, not_true_eq_false, not_false_eq_true, s1, h3, e306, hq]
      refine k27p (by omega) hK hs hi hP (fun I1 hP1 => ?_)
      simp (disch := first | assumption | exact ct_i | exact ct_r | exact ct_n | exact ct_h | omega | exact z_in (by omega) (by omega) | exact b01 | exact Or.inl rfl | exact Or.inr rfl) only [e26_0, e26_0n, e26_1, e26_4, e26_5, e26_6, e26_9, e26_10, e26_13, e26_14, e26_16, e26_17, e26_20, e26_21, e26_24, e26_27, e26_28, e26_29, e26_32, e26_33, e26_36, e26_37, e26_38, e26_41, e26_42, e26_42n, e26_43, e26_44, e26_47, e26_50, e26_51, e26_54, e26_56, e26_59, e26_60, e26_63, e26_64, e26_64n, e26_65, e26_66, e26_69, e26_70, e26_73, e26_76, e26_79, e26_80, e26_83, e26_86, e26_89, e26_90, e26_93, e26_94, e26_97, ct_i, ct_r, ct_n, ct_h, opt_v, opt_s, ref_s, ref_n, eq_self_iff_true, true_or, or_true, zl0, zl1, zl2, zl3, zl4, zl5, zl6, zl7, zl8, zl9, zl10, zl16, zl32, zl40, zl100, zl160, zIc1, zI_lt, zI_le, nI_eq, nI_add, z_sub, nI_clamp, zI_of, uu_eq, uu_ne, Nat.reduceLT, Nat.reduceLeDiff, Nat.reduceEqDiff, Nat.reduceAdd, Nat.reduceSub, Nat.reduceMul, Nat.not_lt_zero, Nat.lt_irrefl, Nat.le_refl, Bool.false_eq_true, false_and, and_false, true_and, and_true, if_pos, if_neg, if_true, if_false, not_true_eq_false, not_false_eq_true, s1]
      refine hcl d I1 _ (by have : kD 0 = 6 := rfl; omega) (by omega) hP1 (fun I2 hP2 => ?_)
      have ht1 := tk_lt (tp := tp) (s := s) (p := p1)
      have h31 := hP2.1.2.2.1
      have h41 := hP2.1.2.2.2.1
      have hfr2 : frE i B I2 := frE_t hB (frP_E hP2.2.2.2)
      cases b with
      | false =>
        rw [if_neg (fun h => by cases h.1)] at hF
        subst hF
        have := H I2 hfr2 (fun h => by cases h)
        simp only [] at this
        simp (disch := first | assumption | exact ct_i | exact ct_r | exact ct_n | exact ct_h | omega | exact z_in (by omega) (by omega) | exact b01 | exact Or.inl rfl | exact Or.inr rfl) only [e26_0, e26_0n, e26_1, e26_4, e26_5, e26_6, e26_9, e26_10, e26_13, e26_14, e26_16, e26_17, e26_20, e26_21, e26_24, e26_27, e26_28, e26_29, e26_32, e26_33, e26_36, e26_37, e26_38, e26_41, e26_42, e26_42n, e26_43, e26_44, e26_47, e26_50, e26_51, e26_54, e26_56, e26_59, e26_60, e26_63, e26_64, e26_64n, e26_65, e26_66, e26_69, e26_70, e26_73, e26_76, e26_79, e26_80, e26_83, e26_86, e26_89, e26_90, e26_93, e26_94, e26_97, ct_i, ct_r, ct_n, ct_h, opt_v, opt_s, ref_s, ref_n, eq_self_iff_true, true_or, or_true, zl0, zl1, zl2, zl3, zl4, zl5, zl6, zl7, zl8, zl9, zl10, zl16, zl32, zl40, zl100, zl160, zIc1, zI_lt, zI_le, nI_eq, nI_add, z_sub, nI_clamp, zI_of, uu_eq, uu_ne, Nat.reduceLT, Nat.reduceLeDiff, Nat.reduceEqDiff, Nat.reduceAdd, Nat.reduceSub, Nat.reduceMul, Nat.not_lt_zero, Nat.lt_irrefl, Nat.le_refl, Bool.false_eq_true, false_and, and_false, true_and, and_true, if_pos, if_neg, if_true, if_false, not_true_eq_false, not_false_eq_true, s1, h41]
        exact this
      | true =>
        by_cases hq1 : tk tp s p1 = 59
        · rw [if_pos ⟨rfl, hq1⟩] at hF
          obtain ⟨e, rfl, hoe⟩ := hph rfl
          rw [List.drop_left] at hF
          simp (disch := first | assumption | exact ct_i | exact ct_r | exact ct_n | exact ct_h | omega | exact z_in (by omega) (by omega) | exact b01 | exact Or.inl rfl | exact Or.inr rfl) only [e26_0, e26_0n, e26_1, e26_4, e26_5, e26_6, e26_9, e26_10, e26_13, e26_14, e26_16, e26_17, e26_20, e26_21, e26_24, e26_27, e26_28, e26_29, e26_32, e26_33, e26_36, e26_37, e26_38, e26_41, e26_42, e26_42n, e26_43, e26_44, e26_47, e26_50, e26_51, e26_54, e26_56, e26_59, e26_60, e26_63, e26_64, e26_64n, e26_65, e26_66, e26_69, e26_70, e26_73, e26_76, e26_79, e26_80, e26_83, e26_86, e26_89, e26_90, e26_93, e26_94, e26_97, ct_i, ct_r, ct_n, ct_h, opt_v, opt_s, ref_s, ref_n, eq_self_iff_true, true_or, or_true, zl0, zl1, zl2, zl3, zl4, zl5, zl6, zl7, zl8, zl9, zl10, zl16, zl32, zl40, zl100, zl160, zIc1, zI_lt, zI_le, nI_eq, nI_add, z_sub, nI_clamp, zI_of, uu_eq, uu_ne, Nat.reduceLT, Nat.reduceLeDiff, Nat.reduceEqDiff, Nat.reduceAdd, Nat.reduceSub, Nat.reduceMul, Nat.not_lt_zero, Nat.lt_irrefl, Nat.le_refl, Bool.false_eq_true, false_and, and_false, true_and, and_true, if_pos, if_neg, if_true, if_false, not_true_eq_false, not_false_eq_true, s1, h31, e59, hq1, sT, k71 (show 1 ≤ d by omega) hT hP2.2.2.1.1 hk3]
          have hP3 : rP tp s i p1 (c ++ e) (u2 I0 (25 + 4 * i) k (nI (c ++ e).length)) (u2 I2 (25 + 4 * i) k (nI (c ++ e).length)) := by
            obtain ⟨⟨r1, r2, r3, r4, r5⟩, ⟨t1, t2, t3, t4⟩, ⟨g1, g2⟩, g3⟩ := hP2
            refine ⟨⟨r1, ?_, ?_, ?_, fun h => ?_⟩, ⟨t1, t2, ?_, fun y hy => ?_⟩, ⟨?_, fun j hj => ?_⟩, fun x y hx => ?_⟩
            · rw [uu_ne _ _ _ _ (by omega)]; exact r2
            · rw [uu_ne _ _ _ _ (by omega)]; exact r3
            · rw [uu_ne _ _ _ _ (by omega)]; exact r4
            · rw [uu_ne _ _ _ _ (by omega)]; exact r5 h
            · rw [uu_ne _ _ _ _ (by omega)]; exact t3
            · rw [uu_ne _ _ _ _ (by omega)]; exact t4 y hy
            · rw [uu_ne _ _ _ _ (by omega)]; exact g1
            · rw [uu_ne _ _ _ _ (by omega)]; exact g2 j hj
            · by_cases hxy : x = 25 + 4 * i ∧ y = k
              · obtain ⟨rfl, rfl⟩ := hxy; rw [uu_eq, uu_eq]
              · rw [uu_ne _ _ _ _ hxy, uu_ne _ _ _ _ hxy]; exact g3 x y hx
          refine k27p (show 9 ≤ d by omega) hK hs hi hP3 (fun I4 hP4 => ?_)
          simp (disch := first | assumption | exact ct_i | exact ct_r | exact ct_n | exact ct_h | omega | exact z_in (by omega) (by omega) | exact b01 | exact Or.inl rfl | exact Or.inr rfl) only [e26_0, e26_0n, e26_1, e26_4, e26_5, e26_6, e26_9, e26_10, e26_13, e26_14, e26_16, e26_17, e26_20, e26_21, e26_24, e26_27, e26_28, e26_29, e26_32, e26_33, e26_36, e26_37, e26_38, e26_41, e26_42, e26_42n, e26_43, e26_44, e26_47, e26_50, e26_51, e26_54, e26_56, e26_59, e26_60, e26_63, e26_64, e26_64n, e26_65, e26_66, e26_69, e26_70, e26_73, e26_76, e26_79, e26_80, e26_83, e26_86, e26_89, e26_90, e26_93, e26_94, e26_97, ct_i, ct_r, ct_n, ct_h, opt_v, opt_s, ref_s, ref_n, eq_self_iff_true, true_or, or_true, zl0, zl1, zl2, zl3, zl4, zl5, zl6, zl7, zl8, zl9, zl10, zl16, zl32, zl40, zl100, zl160, zIc1, zI_lt, zI_le, nI_eq, nI_add, z_sub, nI_clamp, zI_of, uu_eq, uu_ne, Nat.reduceLT, Nat.reduceLeDiff, Nat.reduceEqDiff, Nat.reduceAdd, Nat.reduceSub, Nat.reduceMul, Nat.not_lt_zero, Nat.lt_irrefl, Nat.le_refl, Bool.false_eq_true, false_and, and_false, true_and, and_true, if_pos, if_neg, if_true, if_false, not_true_eq_false, not_false_eq_true, s1]
          have hnx1 := nx_gt (tp := tp) (tk_ne (tp := tp) (s := s) (p := p1) (by omega))
          refine ih (k + 1) _ _ (u1 f k e) _ _ (by omega) (nx_le hbd.1) hP4 (fun x y hx => ?_) (by omega) ?_ (fun q hq => ?_) (fun q hq => ?_) hF
          · rw [uu_ne _ _ _ _ (by omega)]; exact hB x y hx
          · simp only [ccF]; rw [ccF_u (Nat.le_refl _), u1_eq, hcf]
          · have hts : ∀ g : Nat → List Nat, ∀ q, q < 3 → tS g q + (g q).length = (ccF g (q + 1)).length := fun g q hq => by
              simp only [ccF]; rw [List.length_append, ccF_S g hq]
            rw [hts _ _ (by omega)]
            by_cases hqk : q = k
            · subst hqk
              rw [uu_eq]
              simp only [ccF]; rw [ccF_u (Nat.le_refl _), u1_eq, ← hcf]
            · rw [uu_ne _ _ _ _ (by omega), hE q (by omega), hts _ _ (by omega), ccF_u (by omega)]
          · by_cases hqk : q = k
            · subst hqk
              rw [u1_eq]; exact hoe 0 (by decide)
            · rw [u1_ne _ _ _ hqk]; exact hO q (by omega)
        · rw [if_neg (fun h => hq1 h.2)] at hF
          subst hF
          have := H I2 hfr2 (fun h => by cases h)
          simp only [] at this
          simp (disch := first | assumption | exact ct_i | exact ct_r | exact ct_n | exact ct_h | omega | exact z_in (by omega) (by omega) | exact b01 | exact Or.inl rfl | exact Or.inr rfl) only [e26_0, e26_0n, e26_1, e26_4, e26_5, e26_6, e26_9, e26_10, e26_13, e26_14, e26_16, e26_17, e26_20, e26_21, e26_24, e26_27, e26_28, e26_29, e26_32, e26_33, e26_36, e26_37, e26_38, e26_41, e26_42, e26_42n, e26_43, e26_44, e26_47, e26_50, e26_51, e26_54, e26_56, e26_59, e26_60, e26_63, e26_64, e26_64n, e26_65, e26_66, e26_69, e26_70, e26_73, e26_76, e26_79, e26_80, e26_83, e26_86, e26_89, e26_90, e26_93, e26_94, e26_97, ct_i, ct_r, ct_n, ct_h, opt_v, opt_s, ref_s, ref_n, eq_self_iff_true, true_or, or_true, zl0, zl1, zl2, zl3, zl4, zl5, zl6, zl7, zl8, zl9, zl10, zl16, zl32, zl40, zl100, zl160, zIc1, zI_lt, zI_le, nI_eq, nI_add, z_sub, nI_clamp, zI_of, uu_eq, uu_ne, Nat.reduceLT, Nat.reduceLeDiff, Nat.reduceEqDiff, Nat.reduceAdd, Nat.reduceSub, Nat.reduceMul, Nat.not_lt_zero, Nat.lt_irrefl, Nat.le_refl, Bool.false_eq_true, false_and, and_false, true_and, and_true, if_pos, if_neg, if_true, if_false, not_true_eq_false, not_false_eq_true, s1, h31, h41, e59, hq1]
          exact this
    · rw [if_neg hq] at hF
      subst hF
      have := H I hfr (fun h => by cases h)
      simp only [] at this
      simp (disch := first | assumption | exact ct_i | exact ct_r | exact ct_n | exact ct_h | omega | exact z_in (by omega) (by omega) | exact b01 | exact Or.inl rfl | exact Or.inr rfl) only [e26_0, e26_0n, e26_1, e26_4, e26_5, e26_6, e26_9, e26_10, e26_13, e26_14, e26_16, e26_17, e26_20, e26_21, e26_24, e26_27, e26_28, e26_29, e26_32, e26_33, e26_36, e26_37, e26_38, e26_41, e26_42, e26_42n, e26_43, e26_44, e26_47, e26_50, e26_51, e26_54, e26_56, e26_59, e26_60, e26_63, e26_64, e26_64n, e26_65, e26_66, e26_69, e26_70, e26_73, e26_76, e26_79, e26_80, e26_83, e26_86, e26_89, e26_90, e26_93, e26_94, e26_97, ct_i, ct_r, ct_n, ct_h, opt_v, opt_s, ref_s, ref_n, eq_self_iff_true, true_or, or_true, zl0, zl1, zl2, zl3, zl4, zl5, zl6, zl7, zl8, zl9, zl10, zl16, zl32, zl40, zl100, zl160, zIc1, zI_lt, zI_le, nI_eq, nI_add, z_sub, nI_clamp, zI_of, uu_eq, uu_ne, Nat.reduceLT, Nat.reduceLeDiff, Nat.reduceEqDiff, Nat.reduceAdd, Nat.reduceSub, Nat.reduceMul, Nat.not_lt_zero, Nat.lt_irrefl, Nat.le_refl, Bool.false_eq_true, false_and, and_false, true_and, and_true, if_pos, if_neg, if_true, if_false, not_true_eq_false, not_false_eq_true, s1, h3, h4, e306, hq]
      exact this
theorem k26 (hd : 78 ≤ d) (hK : cK nd sh R) (hs : ∀ x, 1000000 ≤ x → sh x = (999, 0)) (hi : i < 6) {I : Nat → Nat → Int32} (hT : tpC tp s I)
    (H : ∀ I', frE i I I' → ((rdA tp s).1 = none → txC (rdA tp s).2 (24 + 4 * i) (25 + 4 * i) I' ∧ txB (rdA tp s).2) → Q (some (.int (match (rdA tp s).1 with | none => -nI 1 | some p => nI p))) (n, t, sh, I', L, R)) :
    aC d 26 [.ref 11, .ref (23 + 4 * i)] (n, t, sh, I, L, R) Q := by
  obtain ⟨d, rfl⟩ : ∃ e, d = e + 1 := ⟨d - 1, by omega⟩
  obtain ⟨s1, s2, s3, s4⟩ := cPq hK
  have hTK := cPt hK hi
  have sT := hTK.1
  simp (disch := first | assumption | exact ct_i | exact ct_r | exact ct_n | exact ct_h | omega | exact z_in (by omega) (by omega) | exact b01 | exact Or.inl rfl | exact Or.inr rfl) only [b26, e26_0, e26_0n, e26_1, e26_4, e26_5, e26_6, e26_9, e26_10, e26_13, e26_14, e26_16, e26_17, e26_20, e26_21, e26_24, e26_27, e26_28, e26_29, e26_32, e26_33, e26_36, e26_37, e26_38, e26_41, e26_42, e26_42n, e26_43, e26_44, e26_47, e26_50, e26_51, e26_54, e26_56, e26_59, e26_60, e26_63, e26_64, e26_64n, e26_65, e26_66, e26_69, e26_70, e26_73, e26_76, e26_79, e26_80, e26_83, e26_86, e26_89, e26_90, e26_93, e26_94, e26_97, ct_i, ct_r, ct_n, ct_h, opt_v, opt_s, ref_s, ref_n, eq_self_iff_true, true_or, or_true, s1, sT, k69 (show 2 ≤ d by omega) hTK]
  have hT' : tpC tp s (u2 (fI (u2 I (23 + 4 * i) 3 (nI 0)) (25 + 4 * i) 3 (nI 0)) 11 2 (nI 0)) := by
    obtain ⟨t1, t2, t3, t4⟩ := hT
    refine ⟨t1, t2, ?_, fun k hk => ?_⟩
    · rw [uu_ne _ _ _ _ (by omega)]; simp only [fI]; rw [if_neg (by omega), uu_ne _ _ _ _ (by omega)]; exact t3
    · rw [uu_ne _ _ _ _ (by omega)]; simp only [fI]; rw [if_neg (by omega), uu_ne _ _ _ _ (by omega)]; exact t4 k hk
  refine k27 (by omega) hK hs hT' (Nat.zero_le _) (uu_eq _ _ _ _) (fun I' hf hr => ?_)
  simp (disch := first | assumption | exact ct_i | exact ct_r | exact ct_n | exact ct_h | omega | exact z_in (by omega) (by omega) | exact b01 | exact Or.inl rfl | exact Or.inr rfl) only [e26_0, e26_0n, e26_1, e26_4, e26_5, e26_6, e26_9, e26_10, e26_13, e26_14, e26_16, e26_17, e26_20, e26_21, e26_24, e26_27, e26_28, e26_29, e26_32, e26_33, e26_36, e26_37, e26_38, e26_41, e26_42, e26_42n, e26_43, e26_44, e26_47, e26_50, e26_51, e26_54, e26_56, e26_59, e26_60, e26_63, e26_64, e26_64n, e26_65, e26_66, e26_69, e26_70, e26_73, e26_76, e26_79, e26_80, e26_83, e26_86, e26_89, e26_90, e26_93, e26_94, e26_97, ct_i, ct_r, ct_n, ct_h, opt_v, opt_s, ref_s, ref_n, eq_self_iff_true, true_or, or_true]
  refine k26l (by omega) hK hs hi hT.1 H 3 0 _ [] (fun _ => []) I' I' (by omega) hr.1 ⟨hr, tpC_frG hT' hf, ⟨?_, fun j hj => by simp at hj⟩, fun _ _ _ => rfl⟩ (fun x k hx => ?_) (Nat.zero_le _) rfl (fun q hq => by omega) (fun q hq => by omega) rfl
  · rw [hf _ _ (by omega), uu_ne _ _ _ _ (by omega)]; simp only [fI]; rw [if_neg (by omega), uu_eq]; rfl
  · rw [hf _ _ (by omega), uu_ne _ _ _ _ (by omega)]; simp only [fI]; rw [if_neg (by omega), uu_ne _ _ _ _ (by omega)]
end
