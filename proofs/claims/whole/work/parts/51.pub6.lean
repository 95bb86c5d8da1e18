/-! the class's calls: rows -/
def dcs (y : Int32) : Option Nat := if y = -nI 1 then some 0 else match dec y 3 with
  | some k => some (k + 1)
  | none => none
theorem dcs_some {y : Int32} {a : Nat} (h : dcs y = some a) : y = dI a ∧ a < 4 := by
  unfold dcs at h
  by_cases h1 : y = -nI 1
  · rw [if_pos h1] at h
    injection h with h; subst h
    exact ⟨h1, by decide⟩
  · rw [if_neg h1] at h
    cases h2 : dec y 3 with
    | none => rw [h2] at h; cases h
    | some k =>
      rw [h2] at h
      injection h with h; subst h
      obtain ⟨e, hk⟩ := dec_some (by decide) h2
      exact ⟨e, by omega⟩
theorem dcs_none {y : Int32} (h : dcs y = none) : y < -nI 1 ∨ ¬ y ≤ nI 2 := by
  unfold dcs at h
  by_cases h1 : y = -nI 1
  · rw [if_pos h1] at h; cases h
  · rw [if_neg h1] at h
    cases h2 : dec y 3 with
    | some k => rw [h2] at h; cases h
    | none =>
      have e1 : (-nI 1 : Int32).toInt = -1 := by decide
      have e2 : (nI 2).toInt = 2 := by decide
      have e3 : (nI 3).toInt = 3 := by decide
      have e4 : (nI 0).toInt = 0 := by decide
      have h1' : ¬ y.toInt = -1 := fun h => h1 (Int32.toInt_inj.mp (by rw [h, e1]))
      rcases dec_none h2 with h3 | h3
      · left; rw [Int32.lt_iff_toInt_lt] at h3 ⊢; omega
      · right; rw [Int32.le_iff_toInt_le] at h3 ⊢; omega
def sheS (so sz : Nat → Nat) (it : Nat → Nat → Int32) (x y z : Int32) : Int32 × (Nat → Nat) × (Nat → Nat) × (Nat → Nat → Int32) := match dec x 4, dcs y with
  | some j, some 0 => (nI 1, u1 so j 0, u1 sz j 0, fun a k => if a = j then nI 0 else it a k)
  | some j, some (a + 1) => if ¬ z ≤ nI 40 then (-nI 2, so, sz, it) else if z < nI 0 then (-14, so, sz, it) else (nI 1, u1 so j (a + 1), u1 sz j z.toNatClampNeg, fun a k => if a = j then nI 0 else it a k)
  | _, _ => (-nI 2, so, sz, it)
def celS (so sz : Nat → Nat) (it : Nat → Nat → Int32) (x y v : Int32) : Int32 × (Nat → Nat → Int32) := match dec x 4 with
  | none => (-nI 2, it)
  | some j => if so j = 0 then (-11, it) else match dec y (sz j) with
    | none => (-12, it)
    | some i => (nI 1, u2 it j i (ctv (so j) v))
section
variable {T0 : Nat} {Z : Nat → Nat} {D : Nat → Nat → Nat} {tx : Nat → Nat → List Nat} {tp so sz : Nat → Nat} {it : Nat → Nat → Int32} {d : Nat} {n t : Nat} {sh : Nat → Nat × Nat} {I : Nat → Nat → Int32} {L : Nat → Nat → Int64} {R : Nat → Nat → Option Nat} {I' : Nat → Nat → Int32} {Q : Option Value → aH → Prop}
theorem RK_sh (hk : RK T0 Z D tx tp so sz it (n, t, sh, I, L, R)) {j a b : Nat} {w : Nat → Int32} (hj : j < 4) (hI : ∀ x k, ¬ (x = 15 + 2 * j ∨ x = 16 + 2 * j) → I' x k = I x k) (h0 : I' (15 + 2 * j) 0 = dI a) (h1 : I' (15 + 2 * j) 1 = nI b) (h2 : ∀ k, k < 40 → I' (16 + 2 * j) k = w k) (ha : a < 4) (hb : b ≤ 40) (hab : a = 0 → b = 0) :
    RK T0 Z D tx tp (u1 so j a) (u1 sz j b) (fun x k => if x = j then w k else it x k) (n, t, sh, I', L, R) := by
  obtain ⟨⟨o1, ⟨o2, hB⟩, o3, o4, o5, o6, o7⟩, hn, hK, hcl, hD', hM, h4, h5, h6, h7, h8, h9⟩ := hk
  simp only [] at hn hK hcl hD' hM h4 h5 h6 h7 h8 h9
  refine ⟨⟨o1, ⟨o2, hB⟩, o3, o4, o5, o6, fun i hi => ?_⟩, hn, hK, hcl, ⟨?_, fun i hi k hk => ?_⟩, hM, h4, ?_, ?_, fun i hi => txC_fr (by omega) (fun x k hx => hI x k (by omega)) (h7 i hi), ⟨?_, fun k hk => ?_⟩, fun i hi => ?_⟩
  · by_cases h : i = j
    · subst h; rw [u1_eq, u1_eq]; exact ⟨ha, hb, hab⟩
    · rw [u1_ne _ _ _ h, u1_ne _ _ _ h]; exact o7 i hi
  · exact (hI _ _ (by omega)).trans hD'.1
  · exact (hI _ _ (by omega)).trans (hD'.2 i hi k hk)
  · exact (hI _ _ (by omega)).trans h5
  · simp only []
    rw [hI 0 5 (by omega), hI 0 6 (by omega), hI 0 7 (by omega), hI 0 8 (by omega), hI 0 9 (by omega), hI 0 10 (by omega), hI 0 11 (by omega)]
    exact h6
  · exact (hI _ _ (by omega)).trans h8.1
  · exact (hI _ _ (by omega)).trans (h8.2 k hk)
  · by_cases h : i = j
    · subst h
      simp only [u1_eq, if_true]
      exact ⟨h0, h1, h2⟩
    · simp only [u1_ne _ _ _ h, if_neg h]
      obtain ⟨p1, p2, p3⟩ := h9 i hi
      exact ⟨(hI _ _ (by omega)).trans p1, (hI _ _ (by omega)).trans p2, fun k hk => (hI _ _ (by omega)).trans (p3 k hk)⟩
theorem k111 (hd : 10 ≤ d) (hk : RK T0 Z D tx tp so sz it (n, t, sh, I, L, R)) {x y z : Int32} (H : ∀ h', RK T0 Z D tx tp (sheS so sz it x y z).2.1 (sheS so sz it x y z).2.2.1 (sheS so sz it x y z).2.2.2 h' → Q (some (.int (sheS so sz it x y z).1)) h') : aC d 111 [.ref 0, .int x, .int y, .int z] (n, t, sh, I, L, R) Q := by
  obtain ⟨d, rfl⟩ : ∃ e, d = e + 1 := ⟨d - 1, by omega⟩
  obtain ⟨⟨o1, ⟨o2, hB⟩, o3, o4, o5, o6, o7⟩, hn, hK, hcl, hD', hM, h4, h5, h6, h7, h8, h9⟩ := id hk
  simp only [] at hn hK hcl hD' hM h4 h5 h6 h7 h8 h9
  obtain ⟨c1, c2, c3, c4, c5, c6, c7, c8, c9, c10⟩ := cP0 hK
  unfold sheS at H
  cases hx : dec x 4 with
  | none =>
    simp only [hx] at H
    have := H _ hk
    simp (disch := first | assumption | exact ct_i | exact ct_r | exact ct_n | exact ct_h | omega | exact z_in (by omega) (by omega) | exact b01 | exact Or.inl rfl | exact Or.inr rfl) only [b111, e111_0, e111_1, e111_2, e111_5, e111_5n, e111_7, e111_7n, e111_9n, e111_9, e111_12, e111_13, e111_14, e111_17, e111_18, e111_19, e111_22, e111_24, e111_25, e111_26, e111_27, e111_30, e111_30n, e111_32, e111_33, e111_34, e111_37, e111_38, e111_39, e111_40, e111_42, e111_45, e111_47, e111_48, e111_49, e111_52, e111_54, e111_55, e111_55n, e111_57, e111_58, e111_59, e111_62, e111_63, ct_i, ct_r, ct_n, ct_h, opt_v, opt_s, ref_s, ref_n, eq_self_iff_true, true_or, or_true, zl0, zl1, zl2, zl3, zl4, zl5, zl6, zl7, zl8, zl9, zl10, zl16, zl32, zl40, zl100, zl160, zIc1, zI_lt, zI_le, nI_eq, nI_add, z_sub, nI_clamp, zI_of, uu_eq, uu_ne, Nat.reduceLT, Nat.reduceLeDiff, Nat.reduceEqDiff, Nat.reduceAdd, Nat.reduceSub, Nat.reduceMul, Nat.not_lt_zero, Nat.lt_irrefl, Nat.le_refl, Bool.false_eq_true, false_and, and_false, true_and, and_true, if_pos, if_neg, if_true, if_false, not_true_eq_false, not_false_eq_true, c1, k99n (show 1 ≤ d by omega) (dec_none hx)]
    exact this
  | some j =>
    obtain ⟨rfl, hj⟩ := dec_some (by decide) hx
    have hS := cPr hK hj
    have s4 := hS.1
    cases hy : dcs y with
    | none =>
      simp only [hx, hy] at H
      have := H _ hk
      rcases dcs_none hy with hv | hv
      · simp (disch := first | assumption | exact ct_i | exact ct_r | exact ct_n | exact ct_h | omega | exact z_in (by omega) (by omega) | exact b01 | exact Or.inl rfl | exact Or.inr rfl) only [b111, e111_0, e111_1, e111_2, e111_5, e111_5n, e111_7, e111_7n, e111_9n, e111_9, e111_12, e111_13, e111_14, e111_17, e111_18, e111_19, e111_22, e111_24, e111_25, e111_26, e111_27, e111_30, e111_30n, e111_32, e111_33, e111_34, e111_37, e111_38, e111_39, e111_40, e111_42, e111_45, e111_47, e111_48, e111_49, e111_52, e111_54, e111_55, e111_55n, e111_57, e111_58, e111_59, e111_62, e111_63, ct_i, ct_r, ct_n, ct_h, opt_v, opt_s, ref_s, ref_n, eq_self_iff_true, true_or, or_true, zl0, zl1, zl2, zl3, zl4, zl5, zl6, zl7, zl8, zl9, zl10, zl16, zl32, zl40, zl100, zl160, zIc1, zI_lt, zI_le, nI_eq, nI_add, z_sub, nI_clamp, zI_of, uu_eq, uu_ne, Nat.reduceLT, Nat.reduceLeDiff, Nat.reduceEqDiff, Nat.reduceAdd, Nat.reduceSub, Nat.reduceMul, Nat.not_lt_zero, Nat.lt_irrefl, Nat.le_refl, Bool.false_eq_true, false_and, and_false, true_and, and_true, if_pos, if_neg, if_true, if_false, not_true_eq_false, not_false_eq_true, c1, k99 (show 1 ≤ d by omega) hK hj, hv]
        exact this
      · simp (disch := first | assumption | exact ct_i | exact ct_r | exact ct_n | exact ct_h | omega | exact z_in (by omega) (by omega) | exact b01 | exact Or.inl rfl | exact Or.inr rfl) only [b111, e111_0, e111_1, e111_2, e111_5, e111_5n, e111_7, e111_7n, e111_9n, e111_9, e111_12, e111_13, e111_14, e111_17, e111_18, e111_19, e111_22, e111_24, e111_25, e111_26, e111_27, e111_30, e111_30n, e111_32, e111_33, e111_34, e111_37, e111_38, e111_39, e111_40, e111_42, e111_45, e111_47, e111_48, e111_49, e111_52, e111_54, e111_55, e111_55n, e111_57, e111_58, e111_59, e111_62, e111_63, ct_i, ct_r, ct_n, ct_h, opt_v, opt_s, ref_s, ref_n, eq_self_iff_true, true_or, or_true, zl0, zl1, zl2, zl3, zl4, zl5, zl6, zl7, zl8, zl9, zl10, zl16, zl32, zl40, zl100, zl160, zIc1, zI_lt, zI_le, nI_eq, nI_add, z_sub, nI_clamp, zI_of, uu_eq, uu_ne, Nat.reduceLT, Nat.reduceLeDiff, Nat.reduceEqDiff, Nat.reduceAdd, Nat.reduceSub, Nat.reduceMul, Nat.not_lt_zero, Nat.lt_irrefl, Nat.le_refl, Bool.false_eq_true, false_and, and_false, true_and, and_true, if_true, if_false, not_true_eq_false, not_false_eq_true, c1, k99 (show 1 ≤ d by omega) hK hj, hv, ite_self]
        exact this
    | some a =>
      obtain ⟨rfl, ha⟩ := dcs_some hy
      cases a with
      | zero =>
        simp only [hx, hy] at H
        have := H _ (RK_sh hk hj (I' := fI (u2 (u2 I (15 + 2 * j) 0 (-nI 1)) (15 + 2 * j) 1 (nI 0)) (16 + 2 * j) 40 (nI 0)) (fun x k hx => by rw [fI_ne (by omega), uu_ne _ _ _ _ (by omega), uu_ne _ _ _ _ (by omega)]) (by rw [fI_ne (by omega), uu_ne _ _ _ _ (by omega), uu_eq]; rfl) (by rw [fI_ne (by omega), uu_eq]) (fun k hk => fI_in hk) ha (by omega) (fun _ => rfl))
        have e1 : ¬ (-nI 1 : Int32) < -nI 1 := by decide
        have e2 : (-nI 1 : Int32) ≤ nI 2 := by decide
        simp (disch := first | assumption | exact ct_i | exact ct_r | exact ct_n | exact ct_h | omega | exact z_in (by omega) (by omega) | exact b01 | exact Or.inl rfl | exact Or.inr rfl) only [b111, e111_0, e111_1, e111_2, e111_5, e111_5n, e111_7, e111_7n, e111_9n, e111_9, e111_12, e111_13, e111_14, e111_17, e111_18, e111_19, e111_22, e111_24, e111_25, e111_26, e111_27, e111_30, e111_30n, e111_32, e111_33, e111_34, e111_37, e111_38, e111_39, e111_40, e111_42, e111_45, e111_47, e111_48, e111_49, e111_52, e111_54, e111_55, e111_55n, e111_57, e111_58, e111_59, e111_62, e111_63, ct_i, ct_r, ct_n, ct_h, opt_v, opt_s, ref_s, ref_n, eq_self_iff_true, true_or, or_true, zl0, zl1, zl2, zl3, zl4, zl5, zl6, zl7, zl8, zl9, zl10, zl16, zl32, zl40, zl100, zl160, zIc1, zI_lt, zI_le, nI_eq, nI_add, z_sub, nI_clamp, zI_of, uu_eq, uu_ne, Nat.reduceLT, Nat.reduceLeDiff, Nat.reduceEqDiff, Nat.reduceAdd, Nat.reduceSub, Nat.reduceMul, Nat.not_lt_zero, Nat.lt_irrefl, Nat.le_refl, Bool.false_eq_true, false_and, and_false, true_and, and_true, if_pos, if_neg, if_true, if_false, not_true_eq_false, not_false_eq_true, c1, s4, k99 (show 1 ≤ d by omega) hK hj, dI, e1, e2, k65 (show 2 ≤ d by omega) hS (show 0 ≤ 40 by omega)]
        exact this
      | succ a =>
        simp only [hx, hy] at H
        have e1 : ¬ nI a < -nI 1 := by
          rw [Int32.lt_iff_toInt_lt, nI_toInt (by omega)]
          have : (-nI 1 : Int32).toInt = -1 := by decide
          omega
        have e2 : ¬ nI a = -nI 1 := oI_ne (by omega)
        by_cases hz : ¬ z ≤ nI 40
        · simp only [if_pos hz] at H
          have := H _ hk
          simp (disch := first | assumption | exact ct_i | exact ct_r | exact ct_n | exact ct_h | omega | exact z_in (by omega) (by omega) | exact b01 | exact Or.inl rfl | exact Or.inr rfl) only [b111, e111_0, e111_1, e111_2, e111_5, e111_5n, e111_7, e111_7n, e111_9n, e111_9, e111_12, e111_13, e111_14, e111_17, e111_18, e111_19, e111_22, e111_24, e111_25, e111_26, e111_27, e111_30, e111_30n, e111_32, e111_33, e111_34, e111_37, e111_38, e111_39, e111_40, e111_42, e111_45, e111_47, e111_48, e111_49, e111_52, e111_54, e111_55, e111_55n, e111_57, e111_58, e111_59, e111_62, e111_63, ct_i, ct_r, ct_n, ct_h, opt_v, opt_s, ref_s, ref_n, eq_self_iff_true, true_or, or_true, zl0, zl1, zl2, zl3, zl4, zl5, zl6, zl7, zl8, zl9, zl10, zl16, zl32, zl40, zl100, zl160, zIc1, zI_lt, zI_le, nI_eq, nI_add, z_sub, nI_clamp, zI_of, uu_eq, uu_ne, Nat.reduceLT, Nat.reduceLeDiff, Nat.reduceEqDiff, Nat.reduceAdd, Nat.reduceSub, Nat.reduceMul, Nat.not_lt_zero, Nat.lt_irrefl, Nat.le_refl, Bool.false_eq_true, false_and, and_false, true_and, and_true, if_pos, if_neg, if_true, if_false, not_true_eq_false, not_false_eq_true, c1, s4, k99 (show 1 ≤ d by omega) hK hj, dI, e1, e2, hz]
          exact this
        · have hz' := Decidable.not_not.mp hz
          simp only [if_neg hz] at H
          by_cases hz0 : z < nI 0
          · simp only [if_pos hz0] at H
            have := H _ hk
            have hz1 : ¬ nI 0 ≤ z := by rw [Int32.le_iff_toInt_le]; rw [Int32.lt_iff_toInt_lt] at hz0; omega
            simp (disch := first | assumption | exact ct_i | exact ct_r | exact ct_n | exact ct_h | omega | exact z_in (by omega) (by omega) | exact b01 | exact Or.inl rfl | exact Or.inr rfl) only [b111, e111_0, e111_1, e111_2, e111_5, e111_5n, e111_7, e111_7n, e111_9n, e111_9, e111_12, e111_13, e111_14, e111_17, e111_18, e111_19, e111_22, e111_24, e111_25, e111_26, e111_27, e111_30, e111_30n, e111_32, e111_33, e111_34, e111_37, e111_38, e111_39, e111_40, e111_42, e111_45, e111_47, e111_48, e111_49, e111_52, e111_54, e111_55, e111_55n, e111_57, e111_58, e111_59, e111_62, e111_63, ct_i, ct_r, ct_n, ct_h, opt_v, opt_s, ref_s, ref_n, eq_self_iff_true, true_or, or_true, zl0, zl1, zl2, zl3, zl4, zl5, zl6, zl7, zl8, zl9, zl10, zl16, zl32, zl40, zl100, zl160, zIc1, zI_lt, zI_le, nI_eq, nI_add, z_sub, nI_clamp, zI_of, uu_eq, uu_ne, Nat.reduceLT, Nat.reduceLeDiff, Nat.reduceEqDiff, Nat.reduceAdd, Nat.reduceSub, Nat.reduceMul, Nat.not_lt_zero, Nat.lt_irrefl, Nat.le_refl, Bool.false_eq_true, false_and, and_false, true_and, and_true, if_pos, if_neg, if_true, if_false, not_true_eq_false, not_false_eq_true, c1, s4, k99 (show 1 ≤ d by omega) hK hj, dI, e1, e2, hz', hz1]
            exact this
          · simp only [if_neg hz0] at H
            obtain ⟨b, hb, rfl⟩ := nI_of hz0
            have hb40 : b ≤ 40 := (zI_le hb (by omega)).mp hz'
            rw [nI_clamp hb] at H
            have := H _ (RK_sh hk hj (I' := fI (u2 (u2 I (15 + 2 * j) 0 (nI a)) (15 + 2 * j) 1 (nI b)) (16 + 2 * j) 40 (nI 0)) (fun x k hx => by rw [fI_ne (by omega), uu_ne _ _ _ _ (by omega), uu_ne _ _ _ _ (by omega)]) (by rw [fI_ne (by omega), uu_ne _ _ _ _ (by omega), uu_eq]; rfl) (by rw [fI_ne (by omega), uu_eq]) (fun k hk => fI_in hk) ha hb40 (fun h => by omega))
            simp (disch := first | assumption | exact ct_i | exact ct_r | exact ct_n | exact ct_h | omega | exact z_in (by omega) (by omega) | exact b01 | exact Or.inl rfl | exact Or.inr rfl) only [b111, e111_0, e111_1, e111_2, e111_5, e111_5n, e111_7, e111_7n, e111_9n, e111_9, e111_12, e111_13, e111_14, e111_17, e111_18, e111_19, e111_22, e111_24, e111_25, e111_26, e111_27, e111_30, e111_30n, e111_32, e111_33, e111_34, e111_37, e111_38, e111_39, e111_40, e111_42, e111_45, e111_47, e111_48, e111_49, e111_52, e111_54, e111_55, e111_55n, e111_57, e111_58, e111_59, e111_62, e111_63, ct_i, ct_r, ct_n, ct_h, opt_v, opt_s, ref_s, ref_n, eq_self_iff_true, true_or, or_true, zl0, zl1, zl2, zl3, zl4, zl5, zl6, zl7, zl8, zl9, zl10, zl16, zl32, zl40, zl100, zl160, zIc1, zI_lt, zI_le, nI_eq, nI_add, z_sub, nI_clamp, zI_of, uu_eq, uu_ne, Nat.reduceLT, Nat.reduceLeDiff, Nat.reduceEqDiff, Nat.reduceAdd, Nat.reduceSub, Nat.reduceMul, Nat.not_lt_zero, Nat.lt_irrefl, Nat.le_refl, Bool.false_eq_true, false_and, and_false, true_and, and_true, if_pos, if_neg, if_true, if_false, not_true_eq_false, not_false_eq_true, c1, s4, k99 (show 1 ≤ d by omega) hK hj, dI, e1, e2, k65 (show 2 ≤ d by omega) hS hb40]
            exact this
theorem k112 (hd : 10 ≤ d) (hk : RK T0 Z D tx tp so sz it (n, t, sh, I, L, R)) {x y v : Int32} (H : ∀ h', RK T0 Z D tx tp so sz (celS so sz it x y v).2 h' → Q (some (.int (celS so sz it x y v).1)) h') : aC d 112 [.ref 0, .int x, .int y, .int v] (n, t, sh, I, L, R) Q := by
  obtain ⟨d, rfl⟩ : ∃ e, d = e + 1 := ⟨d - 1, by omega⟩
  obtain ⟨⟨o1, ⟨o2, hB⟩, o3, o4, o5, o6, o7⟩, hn, hK, hcl, hD', hM, h4, h5, h6, h7, h8, h9⟩ := id hk
  simp only [] at hn hK hcl hD' hM h4 h5 h6 h7 h8 h9
  obtain ⟨c1, c2, c3, c4, c5, c6, c7, c8, c9, c10⟩ := cP0 hK
  unfold celS at H
  cases hx : dec x 4 with
  | none =>
    simp only [hx] at H
    have := H _ hk
    simp (disch := first | assumption | exact ct_i | exact ct_r | exact ct_n | exact ct_h | omega | exact z_in (by omega) (by omega) | exact b01 | exact Or.inl rfl | exact Or.inr rfl) only [b112, e112_0, e112_1, e112_2, e112_5, e112_5n, e112_7, e112_7n, e112_9n, e112_9, e112_12, e112_14, e112_15, e112_15n, e112_17, e112_20, e112_23, e112_25, e112_26, e112_26n, e112_28, e112_29, e112_32, e112_35, e112_37, e112_38, e112_38n, e112_40, e112_41, e112_42, e112_45, e112_46, ct_i, ct_r, ct_n, ct_h, opt_v, opt_s, ref_s, ref_n, eq_self_iff_true, true_or, or_true, zl0, zl1, zl2, zl3, zl4, zl5, zl6, zl7, zl8, zl9, zl10, zl16, zl32, zl40, zl100, zl160, zIc1, zI_lt, zI_le, nI_eq, nI_add, z_sub, nI_clamp, zI_of, uu_eq, uu_ne, Nat.reduceLT, Nat.reduceLeDiff, Nat.reduceEqDiff, Nat.reduceAdd, Nat.reduceSub, Nat.reduceMul, Nat.not_lt_zero, Nat.lt_irrefl, Nat.le_refl, Bool.false_eq_true, false_and, and_false, true_and, and_true, if_pos, if_neg, if_true, if_false, not_true_eq_false, not_false_eq_true, c1, k99n (show 1 ≤ d by omega) (dec_none hx)]
    exact this
  | some j =>
    obtain ⟨rfl, hj⟩ := dec_some (by decide) hx
    have hS := cPr hK hj
    have s4 := hS.1
    obtain ⟨p1, p2, p3⟩ := h9 j hj
    obtain ⟨q1, q2, q3⟩ := o7 j hj
    by_cases hs : so j = 0
    · simp only [hx, if_pos hs] at H
      have := H _ hk
      simp (disch := first | assumption | exact ct_i | exact ct_r | exact ct_n | exact ct_h | omega | exact z_in (by omega) (by omega) | exact b01 | exact Or.inl rfl | exact Or.inr rfl) only [b112, e112_0, e112_1, e112_2, e112_5, e112_5n, e112_7, e112_7n, e112_9n, e112_9, e112_12, e112_14, e112_15, e112_15n, e112_17, e112_20, e112_23, e112_25, e112_26, e112_26n, e112_28, e112_29, e112_32, e112_35, e112_37, e112_38, e112_38n, e112_40, e112_41, e112_42, e112_45, e112_46, ct_i, ct_r, ct_n, ct_h, opt_v, opt_s, ref_s, ref_n, eq_self_iff_true, true_or, or_true, zl0, zl1, zl2, zl3, zl4, zl5, zl6, zl7, zl8, zl9, zl10, zl16, zl32, zl40, zl100, zl160, zIc1, zI_lt, zI_le, nI_eq, nI_add, z_sub, nI_clamp, zI_of, uu_eq, uu_ne, Nat.reduceLT, Nat.reduceLeDiff, Nat.reduceEqDiff, Nat.reduceAdd, Nat.reduceSub, Nat.reduceMul, Nat.not_lt_zero, Nat.lt_irrefl, Nat.le_refl, Bool.false_eq_true, false_and, and_false, true_and, and_true, if_pos, if_neg, if_true, if_false, not_true_eq_false, not_false_eq_true, c1, s4, k99 (show 1 ≤ d by omega) hK hj, k62 (show 1 ≤ d by omega) hS p1 q1, hs]
      exact this
    · simp only [hx, if_neg hs] at H
      cases hy : dec y (sz j) with
      | none =>
        simp only [hy] at H
        have := H _ hk
        simp (disch := first | assumption | exact ct_i | exact ct_r | exact ct_n | exact ct_h | omega | exact z_in (by omega) (by omega) | exact b01 | exact Or.inl rfl | exact Or.inr rfl) only [b112, e112_0, e112_1, e112_2, e112_5, e112_5n, e112_7, e112_7n, e112_9n, e112_9, e112_12, e112_14, e112_15, e112_15n, e112_17, e112_20, e112_23, e112_25, e112_26, e112_26n, e112_28, e112_29, e112_32, e112_35, e112_37, e112_38, e112_38n, e112_40, e112_41, e112_42, e112_45, e112_46, ct_i, ct_r, ct_n, ct_h, opt_v, opt_s, ref_s, ref_n, eq_self_iff_true, true_or, or_true, zl0, zl1, zl2, zl3, zl4, zl5, zl6, zl7, zl8, zl9, zl10, zl16, zl32, zl40, zl100, zl160, zIc1, zI_lt, zI_le, nI_eq, nI_add, z_sub, nI_clamp, zI_of, uu_eq, uu_ne, Nat.reduceLT, Nat.reduceLeDiff, Nat.reduceEqDiff, Nat.reduceAdd, Nat.reduceSub, Nat.reduceMul, Nat.not_lt_zero, Nat.lt_irrefl, Nat.le_refl, Bool.false_eq_true, false_and, and_false, true_and, and_true, if_pos, if_neg, if_true, if_false, not_true_eq_false, not_false_eq_true, c1, s4, k99 (show 1 ≤ d by omega) hK hj, k62 (show 1 ≤ d by omega) hS p1 q1, hs, k64n (show 1 ≤ d by omega) hS p2 q2 (dec_none hy)]
        exact this
      | some i =>
        obtain ⟨rfl, hi⟩ := dec_some (by omega) hy
        simp only [hy] at H
        have key := RK_sh hk hj (a := so j) (b := sz j) (w := fun k => u2 it j i (ctv (so j) v) j k) (I' := u2 I (16 + 2 * j) i (ctv (so j) v)) (fun x k hx => uu_ne _ _ _ _ (by omega)) (by rw [uu_ne _ _ _ _ (by omega)]; exact p1) (by rw [uu_ne _ _ _ _ (by omega)]; exact p2) (fun k hk => by
          by_cases h : k = i
          · subst h; rw [uu_eq, uu_eq]
          · rw [uu_ne _ _ _ _ (by omega), uu_ne _ _ _ _ (by omega)]; exact p3 k hk) q1 q2 q3
        have f1 : u1 so j (so j) = so := by funext x; simp only [u1]; split <;> simp_all
        have f2 : u1 sz j (sz j) = sz := by funext x; simp only [u1]; split <;> simp_all
        have f3 : (fun x k => if x = j then u2 it j i (ctv (so j) v) j k else it x k) = u2 it j i (ctv (so j) v) := by
          funext x k
          by_cases h : x = j
          · subst h; rw [if_pos rfl]
          · rw [if_neg h, uu_ne _ _ _ _ (by omega)]
        rw [f1, f2, f3] at key
        have := H _ key
        simp (disch := first | assumption | exact ct_i | exact ct_r | exact ct_n | exact ct_h | omega | exact z_in (by omega) (by omega) | exact b01 | exact Or.inl rfl | exact Or.inr rfl) only [b112, e112_0, e112_1, e112_2, e112_5, e112_5n, e112_7, e112_7n, e112_9n, e112_9, e112_12, e112_14, e112_15, e112_15n, e112_17, e112_20, e112_23, e112_25, e112_26, e112_26n, e112_28, e112_29, e112_32, e112_35, e112_37, e112_38, e112_38n, e112_40, e112_41, e112_42, e112_45, e112_46, ct_i, ct_r, ct_n, ct_h, opt_v, opt_s, ref_s, ref_n, eq_self_iff_true, true_or, or_true, zl0, zl1, zl2, zl3, zl4, zl5, zl6, zl7, zl8, zl9, zl10, zl16, zl32, zl40, zl100, zl160, zIc1, zI_lt, zI_le, nI_eq, nI_add, z_sub, nI_clamp, zI_of, uu_eq, uu_ne, Nat.reduceLT, Nat.reduceLeDiff, Nat.reduceEqDiff, Nat.reduceAdd, Nat.reduceSub, Nat.reduceMul, Nat.not_lt_zero, Nat.lt_irrefl, Nat.le_refl, Bool.false_eq_true, false_and, and_false, true_and, and_true, if_pos, if_neg, if_true, if_false, not_true_eq_false, not_false_eq_true, c1, s4, k99 (show 1 ≤ d by omega) hK hj, k62 (show 1 ≤ d by omega) hS p1 q1, hs, k64 (show 1 ≤ d by omega) hS p2 q2 hi, k66 (show 2 ≤ d by omega) hS p2 q2 hi p1 q1 hs]
        exact this
end
