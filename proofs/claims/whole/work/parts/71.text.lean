/-! the class's call: text -/
def texS (Z : Nat → Nat) (tx : Nat → Nat → List Nat) (tp : Nat → Nat) : Int32 × (Nat → Nat) × (Nat → Nat → List Nat) :=
  if Z 3 = 6 then (-nI 4, Z, tx) else match (rdA tp (Z 5)).1 with
  | some p => (-nI 100 - nI p, u1 Z 5 0, tx)
  | none => (nI (Z 3), u1 (u1 Z 5 0) 3 (Z 3 + 1), u1 tx (Z 3) (rdA tp (Z 5)).2)
/-- what the call changes -/
def frX (i : Nat) (I I' : Nat → Nat → Int32) : Prop := ∀ x k, ¬ (x = 11 ∧ k ≤ 5 ∨ x = 23 + 4 * i ∧ k = 3 ∨ x = 24 + 4 * i ∨ x = 25 + 4 * i ∨ x = 0 ∧ k = 5) → I' x k = I x k
theorem rdF_le {tp : Nat → Nat} {s : Nat} (hs : s ≤ 160) : ∀ m k p c f q, p ≤ s → (rdF tp s m k p c f).1 = some q → q ≤ s
  | 0, k, p, c, f, q, hp, h => by
    simp only [rdF] at h
    split at h
    · cases h
    · injection h with h; omega
  | m + 1, k, p, c, f, q, hp, h => by
    simp only [rdF] at h
    split at h
    · have hnl := nx_le (tp := tp) hp
      have hpr := prT_e (tp := tp) hs hnl (c := c)
      have hbd := pr_b (b := (prT tp s 0 (nx tp s p) c).1) (p1 := (prT tp s 0 (nx tp s p) c).2.1) (c1 := (prT tp s 0 (nx tp s p) c).2.2) (by decide) hpr hnl
      split at h
      · exact rdF_le hs m _ _ _ _ _ (nx_le hbd.1) h
      · injection h with h; omega
    · injection h with h; omega
theorem rdA_le {tp : Nat → Nat} {s q : Nat} (hs : s ≤ 160) (h : (rdA tp s).1 = some q) : q ≤ s := rdF_le hs _ _ _ _ _ _ (sk_le (Nat.zero_le _)) h
section
variable {tp : Nat → Nat} {s d nd i : Nat} {n t : Nat} {sh : Nat → Nat × Nat} {I : Nat → Nat → Int32} {L : Nat → Nat → Int64} {R : Nat → Nat → Option Nat} {Q : Option Value → aH → Prop}
theorem k77g (hd : 79 ≤ d) (hK : cK nd sh R) (hs : ∀ x, 1000000 ≤ x → sh x = (999, 0)) (hi : i < 6) (hT : tpC tp s I) (h5 : I 0 5 = nI i)
    (H : ∀ I', frX i I I' → I' 11 0 = nI 0 → (match (rdA tp s).1 with
      | some p => I' 0 5 = nI i → Q (some (.int (-nI 100 - nI p))) (n, t, sh, I', L, R)
      | none => I' 0 5 = nI (i + 1) → txC (rdA tp s).2 (24 + 4 * i) (25 + 4 * i) I' → txB (rdA tp s).2 → Q (some (.int (nI i))) (n, t, sh, I', L, R))) :
    aC d 77 [.ref 0] (n, t, sh, I, L, R) Q := by
  obtain ⟨d, rfl⟩ : ∃ e, d = e + 1 := ⟨d - 1, by omega⟩
  obtain ⟨c1, c2, c3, c4, c5, c6, c7, c8, c9, c10⟩ := cP0 hK
  have s1 := (cPq hK).1
  have sT := (cPt hK hi).1
  have e13 := cP13 hK hi
  have e6 : (6 : Int32) = nI 6 := rfl
  have g13 : 110 ≤ (sh 13).1 ∧ (sh 13).1 < 118 := by omega
  have v13 : vp_in (nI i) (sh 13).2 := by rw [c5]; exact z_in hi (by decide)
  simp (disch := first | assumption | exact ct_i | exact ct_r | exact ct_n | exact ct_h | omega | exact z_in (by omega) (by omega) | exact b01 | exact Or.inl rfl | exact Or.inr rfl) only [b77, e77_0, e77_1, e77_4, e77_6, e77_9, e77_10, e77_13, e77_14, e77_17, e77_18, e77_21, e77_22, e77_22n, e77_23, e77_23n, e77_24n, e77_24, e77_27, e77_29, e77_30, e77_31, e77_34, e77_34n, e77_35, e77_38, e77_39, e77_40, e77_43, e77_44, e77_47, e77_48, e77_49, e77_52, e77_54, e77_55, e77_56, e77_57, e77_58, e77_59, e77_62, e77_63, e77_64, e77_67, e77_68, e77_71, e77_72, e77_73, ct_i, ct_r, ct_n, ct_h, opt_v, opt_s, ref_s, ref_n, eq_self_iff_true, true_or, or_true, zl0, zl1, zl2, zl3, zl4, zl5, zl6, zl7, zl8, zl9, zl10, zl16, zl32, zl40, zl100, zl160, zIc1, zI_lt, zI_le, nI_eq, nI_add, z_sub, nI_clamp, zI_of, uu_eq, uu_ne, Nat.reduceLT, Nat.reduceLeDiff, Nat.reduceEqDiff, Nat.reduceAdd, Nat.reduceSub, Nat.reduceMul, Nat.not_lt_zero, Nat.lt_irrefl, Nat.le_refl, Bool.false_eq_true, false_and, and_false, true_and, and_true, if_pos, if_neg, if_true, if_false, not_true_eq_false, not_false_eq_true, c1, c4, c5, c8, c9, s1, h5, e13]
  refine k26 (by omega) hK hs hi hT (fun I' hf hok => ?_)
  have h5' : I' 0 5 = nI i := (hf _ _ (by omega)).trans h5
  cases hr : (rdA tp s).1 with
  | none =>
    obtain ⟨hC, hB⟩ := hok hr
    have q := H (u2 (u2 I' 11 0 (nI 0)) 0 5 (nI (i + 1))) (fun x k hx => ?_) ?_
    · rw [hr] at q
      simp only [] at q
      have q2 := q (uu_eq _ _ _ _) (txC_fr hi (fun x k hx => by simp (disch := omega) only [uu_ne]) hC) hB
      simp (disch := first | assumption | exact ct_i | exact ct_r | exact ct_n | exact ct_h | omega | exact z_in (by omega) (by omega) | exact b01 | exact Or.inl rfl | exact Or.inr rfl) only [e77_0, e77_1, e77_4, e77_6, e77_9, e77_10, e77_13, e77_14, e77_17, e77_18, e77_21, e77_22, e77_22n, e77_23, e77_23n, e77_24n, e77_24, e77_27, e77_29, e77_30, e77_31, e77_34, e77_34n, e77_35, e77_38, e77_39, e77_40, e77_43, e77_44, e77_47, e77_48, e77_49, e77_52, e77_54, e77_55, e77_56, e77_57, e77_58, e77_59, e77_62, e77_63, e77_64, e77_67, e77_68, e77_71, e77_72, e77_73, ct_i, ct_r, ct_n, ct_h, opt_v, opt_s, ref_s, ref_n, eq_self_iff_true, true_or, or_true, zl0, zl1, zl2, zl3, zl4, zl5, zl6, zl7, zl8, zl9, zl10, zl16, zl32, zl40, zl100, zl160, zIc1, zI_lt, zI_le, nI_eq, nI_add, z_sub, nI_clamp, zI_of, uu_eq, uu_ne, Nat.reduceLT, Nat.reduceLeDiff, Nat.reduceEqDiff, Nat.reduceAdd, Nat.reduceSub, Nat.reduceMul, Nat.not_lt_zero, Nat.lt_irrefl, Nat.le_refl, Bool.false_eq_true, false_and, and_false, true_and, and_true, if_pos, if_neg, if_true, if_false, not_true_eq_false, not_false_eq_true, c1, c8, s1, h5', hr]
      exact q2
    · simp (disch := omega) only [uu_ne]; exact hf x k (by omega)
    · simp (disch := omega) only [uu_ne, uu_eq]
  | some p =>
    have q := H (u2 I' 11 0 (nI 0)) (fun x k hx => ?_) (uu_eq _ _ _ _)
    · rw [hr] at q
      simp only [] at q
      have q2 := q (by simp (disch := omega) only [uu_ne]; exact h5')
      have hp160 := rdA_le hT.1 hr
      have h160 := hT.1
      have hp : ¬ nI p = -nI 1 := fun h => by
        have hneg : -nI 1 < nI 0 := by decide
        rw [← h, zI_lt (by omega) (by decide)] at hneg
        omega
      simp (disch := first | assumption | exact ct_i | exact ct_r | exact ct_n | exact ct_h | omega | exact z_in (by omega) (by omega) | exact b01 | exact Or.inl rfl | exact Or.inr rfl) only [e77_0, e77_1, e77_4, e77_6, e77_9, e77_10, e77_13, e77_14, e77_17, e77_18, e77_21, e77_22, e77_22n, e77_23, e77_23n, e77_24n, e77_24, e77_27, e77_29, e77_30, e77_31, e77_34, e77_34n, e77_35, e77_38, e77_39, e77_40, e77_43, e77_44, e77_47, e77_48, e77_49, e77_52, e77_54, e77_55, e77_56, e77_57, e77_58, e77_59, e77_62, e77_63, e77_64, e77_67, e77_68, e77_71, e77_72, e77_73, ct_i, ct_r, ct_n, ct_h, opt_v, opt_s, ref_s, ref_n, eq_self_iff_true, true_or, or_true, zl0, zl1, zl2, zl3, zl4, zl5, zl6, zl7, zl8, zl9, zl10, zl16, zl32, zl40, zl100, zl160, zIc1, zI_lt, zI_le, nI_eq, nI_add, z_sub, nI_clamp, zI_of, uu_eq, uu_ne, Nat.reduceLT, Nat.reduceLeDiff, Nat.reduceEqDiff, Nat.reduceAdd, Nat.reduceSub, Nat.reduceMul, Nat.not_lt_zero, Nat.lt_irrefl, Nat.le_refl, Bool.false_eq_true, false_and, and_false, true_and, and_true, if_pos, if_neg, if_true, if_false, not_true_eq_false, not_false_eq_true, c1, c8, s1, h5', hr, hp]
      exact q2
    · simp (disch := omega) only [uu_ne]; exact hf x k (by omega)
end
section
variable {T0 : Nat} {Z : Nat → Nat} {D : Nat → Nat → Nat} {tx : Nat → Nat → List Nat} {tp so sz : Nat → Nat} {it : Nat → Nat → Int32} {d : Nat} {n t : Nat} {sh : Nat → Nat × Nat} {I : Nat → Nat → Int32} {L : Nat → Nat → Int64} {R : Nat → Nat → Option Nat} {Q : Option Value → aH → Prop}
theorem k88 (hd : 82 ≤ d) (hk : RK T0 Z D tx tp so sz it (n, t, sh, I, L, R)) (H : ∀ h', RK T0 (texS Z tx tp).2.1 D (texS Z tx tp).2.2 tp so sz it h' → Q (some (.int (texS Z tx tp).1)) h') : aC d 88 [.ref 0] (n, t, sh, I, L, R) Q := by
  obtain ⟨d, rfl⟩ : ∃ e, d = e + 1 := ⟨d - 1, by omega⟩
  obtain ⟨⟨o1, ⟨o2, hB⟩, o3, o4, o5, o6, o7⟩, hn, hK, hcl, hD', hM, h4, h5, h6, h7, h8, h9⟩ := id hk
  simp only [] at hn hK hcl hD' hM h4 h5 h6 h7 h8 h9
  obtain ⟨c1, c2, c3, c4, c5, c6, c7, c8, c9, c10⟩ := cP0 hK
  have s1 := (cPh hK).1
  have hT : tpC tp (Z 5) I := ⟨o5.1, o5.2, h8⟩
  unfold texS at H
  simp (disch := first | assumption | exact ct_i | exact ct_r | exact ct_n | exact ct_h | omega | exact z_in (by omega) (by omega) | exact b01 | exact Or.inl rfl | exact Or.inr rfl) only [b88, e88_0, e88_1, e88_4, ct_i, ct_r, ct_n, ct_h, opt_v, opt_s, ref_s, ref_n, eq_self_iff_true, true_or, or_true, c1]
  by_cases hf : Z 3 = 6
  · rw [if_pos hf] at H
    have := H _ hk
    obtain ⟨d, rfl⟩ : ∃ e, d = e + 1 := ⟨d - 1, by omega⟩
    have e6 : (6 : Int32) = nI 6 := rfl
    have h3 := h6.1
    rw [hf] at h3
    simp (disch := first | assumption | exact ct_i | exact ct_r | exact ct_n | exact ct_h | omega | exact z_in (by omega) (by omega) | exact b01 | exact Or.inl rfl | exact Or.inr rfl) only [b77, e77_0, e77_1, e77_4, e77_6, e77_9, e77_10, e77_13, e77_14, e77_17, e77_18, e77_21, e77_22, e77_22n, e77_23, e77_23n, e77_24n, e77_24, e77_27, e77_29, e77_30, e77_31, e77_34, e77_34n, e77_35, e77_38, e77_39, e77_40, e77_43, e77_44, e77_47, e77_48, e77_49, e77_52, e77_54, e77_55, e77_56, e77_57, e77_58, e77_59, e77_62, e77_63, e77_64, e77_67, e77_68, e77_71, e77_72, e77_73, e88_0, e88_1, e88_4, ct_i, ct_r, ct_n, ct_h, opt_v, opt_s, ref_s, ref_n, eq_self_iff_true, true_or, or_true, zl0, zl1, zl2, zl3, zl4, zl5, zl6, zl7, zl8, zl9, zl10, zl16, zl32, zl40, zl100, zl160, zIc1, zI_lt, zI_le, nI_eq, nI_add, z_sub, nI_clamp, zI_of, uu_eq, uu_ne, Nat.reduceLT, Nat.reduceLeDiff, Nat.reduceEqDiff, Nat.reduceAdd, Nat.reduceSub, Nat.reduceMul, Nat.not_lt_zero, Nat.lt_irrefl, Nat.le_refl, Bool.false_eq_true, false_and, and_false, true_and, and_true, if_pos, if_neg, if_true, if_false, not_true_eq_false, not_false_eq_true, c1, h3]
    exact this
  · rw [if_neg hf] at H
    have hi : Z 3 < 6 := by omega
    refine k77g (by omega) hK hn.2.2 hi hT h6.1 (fun I' hfr h0 => ?_)
    have e : ∀ x k, ¬ (x = 11 ∧ k ≤ 5 ∨ x = 23 + 4 * Z 3 ∧ k = 3 ∨ x = 24 + 4 * Z 3 ∨ x = 25 + 4 * Z 3 ∨ x = 0 ∧ k = 5) → I' x k = I x k := hfr
    have hD2 : hD (Z 1) D I' := ⟨by rw [e _ _ (by omega)]; exact hD'.1, fun i hi k hk => by rw [e _ _ (by omega)]; exact hD'.2 i hi k hk⟩
    cases hr : (rdA tp (Z 5)).1 with
    | some p =>
      rw [hr] at H
      simp only [] at H ⊢
      intro h05
      simp (disch := first | assumption | exact ct_i | exact ct_r | exact ct_n | exact ct_h | omega | exact z_in (by omega) (by omega) | exact b01 | exact Or.inl rfl | exact Or.inr rfl) only [e88_0, e88_1, e88_4, ct_i, ct_r, ct_n, ct_h, opt_v, opt_s, ref_s, ref_n, eq_self_iff_true, true_or, or_true]
      refine H _ ⟨?_, hn, ?_, ?_, ?_, ?_, ?_, ?_, ?_, fun i hi => ?_, ⟨?_, fun k hk => ?_⟩, fun j hj => ⟨?_, ?_, fun k hk => ?_⟩⟩
      · simp (disch := omega) only [okS, u1_ne, u1_eq]
        exact ⟨o1, ⟨o2, hB⟩, o3, o4, ⟨by omega, fun k hk => by omega⟩, o6, o7⟩
      · simp (disch := omega) only [u1_ne]; exact hK
      · simp (disch := omega) only [u1_ne]; exact hcl
      · simp (disch := omega) only [u1_ne]; exact hD2
      · simp (disch := omega) only [u1_ne]; exact hM
      · simp (disch := omega) only [u1_ne]; exact h4
      · simp (disch := omega) only [u1_ne]; rw [e _ _ (by omega)]; exact h5
      · simp (disch := omega) only [u1_ne]
        rw [h05, e 0 6 (by omega), e 0 7 (by omega), e 0 8 (by omega), e 0 9 (by omega), e 0 10 (by omega), e 0 11 (by omega)]
        exact ⟨rfl, h6.2⟩
      · simp (disch := omega) only [u1_ne] at hi
        exact txC_fr (by omega) (fun x k hx => e x k (by omega)) (h7 i hi)
      · rw [u1_eq]; exact h0
      · rw [u1_eq] at hk; omega
      · refine (e _ _ (by omega)).trans ?_; exact (h9 j hj).1
      · refine (e _ _ (by omega)).trans ?_; exact (h9 j hj).2.1
      · refine (e _ _ (by omega)).trans ?_; exact (h9 j hj).2.2 k hk
    | none =>
      rw [hr] at H
      simp only [] at H ⊢
      intro h05 hC hBx
      simp (disch := first | assumption | exact ct_i | exact ct_r | exact ct_n | exact ct_h | omega | exact z_in (by omega) (by omega) | exact b01 | exact Or.inl rfl | exact Or.inr rfl) only [e88_0, e88_1, e88_4, ct_i, ct_r, ct_n, ct_h, opt_v, opt_s, ref_s, ref_n, eq_self_iff_true, true_or, or_true]
      refine H _ ⟨?_, ?_, ?_, ?_, ?_, ?_, ?_, ?_, ?_, fun i hi => ?_, ⟨?_, fun k hk => ?_⟩, fun j hj => ⟨?_, ?_, fun k hk => ?_⟩⟩
      · simp (disch := omega) only [okS, u1_ne, u1_eq]
        refine ⟨o1, ⟨o2, hB⟩, o3, ⟨by omega, by omega, fun i hi => ?_⟩, ⟨by omega, fun k hk => by omega⟩, ?_, o7⟩
        · by_cases hz : i = Z 3
          · subst hz; rw [u1_eq]; exact hBx
          · rw [u1_ne _ _ _ hz]; exact o4.2.2 i (by omega)
        · rcases o6 with h | ⟨q1, q2, q3, q4, q5⟩
          · exact Or.inl h
          · exact Or.inr ⟨q1, q2, q3, by omega, q5⟩
      · simp (disch := omega) only [u1_ne]; exact hn
      · simp (disch := omega) only [u1_ne]; exact hK
      · simp (disch := omega) only [u1_ne]; exact hcl
      · simp (disch := omega) only [u1_ne]; exact hD2
      · have hz : u1 tx (Z 3) (rdA tp (Z 5)).2 (Z 4) = tx (Z 4) := u1_ne _ _ _ (by omega)
        simp (disch := omega) only [u1_ne]; exact hM
      · simp (disch := omega) only [u1_ne]; exact h4
      · simp (disch := omega) only [u1_ne]; rw [e _ _ (by omega)]; exact h5
      · simp (disch := omega) only [u1_ne, u1_eq]
        rw [h05, e 0 6 (by omega), e 0 7 (by omega), e 0 8 (by omega), e 0 9 (by omega), e 0 10 (by omega), e 0 11 (by omega)]
        exact ⟨rfl, h6.2⟩
      · simp (disch := omega) only [u1_eq] at hi
        by_cases hz : i = Z 3
        · subst hz; rw [u1_eq]; exact hC
        · rw [u1_ne _ _ _ hz]
          exact txC_fr (by omega) (fun x k hx => e x k (by omega)) (h7 i (by omega))
      · simp (disch := omega) only [u1_ne, u1_eq]; exact h0
      · simp (disch := omega) only [u1_ne, u1_eq] at hk; omega
      · refine (e _ _ (by omega)).trans ?_; exact (h9 j hj).1
      · refine (e _ _ (by omega)).trans ?_; exact (h9 j hj).2.1
      · refine (e _ _ (by omega)).trans ?_; exact (h9 j hj).2.2 k hk
end
