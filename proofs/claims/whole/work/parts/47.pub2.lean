/-! the class's calls: those that set -/
theorem dg {s j : Nat} (hj : j < 4) : stt s j = (if j = 0 then s % 4 else if j = 1 then s / 4 % 4 else if j = 2 then s / 16 % 4 else s / 64 % 4) := by
  unfold stt
  rcases (show j = 0 ∨ j = 1 ∨ j = 2 ∨ j = 3 by omega) with rfl | rfl | rfl | rfl <;> simp
theorem wst_eq {s i v : Nat} (hi : i < 4) : wst s i v = (if i = 0 then s - s % 4 + v else if i = 1 then s - s / 4 % 4 * 4 + v * 4 else if i = 2 then s - s / 16 % 4 * 16 + v * 16 else s - s / 64 % 4 * 64 + v * 64) := by
  unfold wst
  rw [dg hi]
  rcases (show i = 0 ∨ i = 1 ∨ i = 2 ∨ i = 3 by omega) with rfl | rfl | rfl | rfl <;> simp
theorem stt_wst {s i v j : Nat} (hi : i < 4) (hj : j < 4) (hv : v < 4) : stt (wst s i v) j = if j = i then v else stt s j := by
  rw [dg hj, dg hj, wst_eq hi]
  rcases (show i = 0 ∨ i = 1 ∨ i = 2 ∨ i = 3 by omega) with rfl | rfl | rfl | rfl <;> rcases (show j = 0 ∨ j = 1 ∨ j = 2 ∨ j = 3 by omega) with rfl | rfl | rfl | rfl <;> simp <;> omega
theorem tno_wst {s i v : Nat} (hi : i < 4) (hv : v < 4) : tno (wst s i v) = tno s := by
  rw [wst_eq hi]; unfold tno
  rcases (show i = 0 ∨ i = 1 ∨ i = 2 ∨ i = 3 by omega) with rfl | rfl | rfl | rfl <;> simp <;> omega
theorem rmo_wst {s i v : Nat} (hi : i < 4) (hv : v < 4) : rmo (wst s i v) = rmo s := by
  rw [wst_eq hi]; unfold rmo
  rcases (show i = 0 ∨ i = 1 ∨ i = 2 ∨ i = 3 by omega) with rfl | rfl | rfl | rfl <;> simp <;> omega
theorem stt_wtn {s v j : Nat} (hj : j < 4) (hv : v < 4) : stt (wtn s v) j = stt s j := by
  rw [dg hj, dg hj]; unfold wtn
  rcases (show j = 0 ∨ j = 1 ∨ j = 2 ∨ j = 3 by omega) with rfl | rfl | rfl | rfl <;> simp <;> omega
theorem tno_wtn {s v : Nat} (hv : v < 4) : tno (wtn s v) = v := by unfold tno wtn; omega
theorem rmo_wtn {s v : Nat} (hv : v < 4) : rmo (wtn s v) = rmo s := by unfold rmo wtn; omega
theorem stt_wrm {s r j : Nat} (hj : j < 4) : stt (wrm s r) j = stt s j := by
  rw [dg hj, dg hj]; unfold wrm
  rcases (show j = 0 ∨ j = 1 ∨ j = 2 ∨ j = 3 by omega) with rfl | rfl | rfl | rfl <;> simp <;> omega
theorem tno_wrm {s r : Nat} : tno (wrm s r) = tno s := by unfold tno wrm; omega
theorem stt_aft {D : Nat → Nat → Nat} {s i j : Nat} (hi : i < 4) (hj : j < 4) : stt (aft D s i) j = if j = i then nxt (D i 4) (stt s i) else stt s j := by
  unfold aft
  rw [stt_wrm hj, stt_wtn hj (by omega), stt_wst hi hj (nxt_lt stt_lt)]
theorem okS_now {Z : Nat → Nat} {D : Nat → Nat → Nat} {tx : Nat → Nat → List Nat} {tp so sz : Nat → Nat} (h : okS Z D tx tp so sz) {s : Nat} (hs : s < 6144) (h0 : ∀ i, Z 1 ≤ i → i < 4 → stt s i = 0) : okS (u1 Z 2 s) D tx tp so sz := by
  obtain ⟨o1, o2, o3, o4, o5, o6, o7⟩ := h
  simp (disch := omega) only [okS, u1_ne, u1_eq]
  exact ⟨o1, o2, ⟨hs, h0⟩, o4, o5, o6, o7⟩
theorem RC_c0 {T0 : Nat} {Z Z' : Nat → Nat} {D : Nat → Nat → Nat} {tx : Nat → Nat → List Nat} {tp so sz : Nat → Nat} {it : Nat → Nat → Int32} {n t : Nat} {sh : Nat → Nat × Nat} {I : Nat → Nat → Int32} {L : Nat → Nat → Int64} {R : Nat → Nat → Option Nat} {I' : Nat → Nat → Int32} (h : RC T0 Z D tx tp so sz it (n, t, sh, I, L, R)) (hI : ∀ x k, ¬ x = 0 → I' x k = I x k) (z0 : Z' 0 = Z 0) (z1 : Z' 1 = Z 1) (z3 : Z' 3 = Z 3) (z4 : Z' 4 = Z 4) (z5 : Z' 5 = Z 5)
    (h6' : I' 0 5 = nI (Z' 3) ∧ I' 0 6 = nI (Z' 4) ∧ I' 0 7 = nI (Z' 2) ∧ I' 0 8 = nI (Z' 6) ∧ I' 0 9 = nI (Z' 7) ∧ I' 0 10 = nI (Z' 8) ∧ I' 0 11 = nI (Z' 9)) : RC T0 Z' D tx tp so sz it (n, t, sh, I', L, R) := by
  obtain ⟨h0, h1, hcl, h2, h3, h4, h5, h6, h7, h8, h9⟩ := h
  simp only [RC, z0, z1, z3, z4, z5] at *
  refine ⟨h0, h1, hcl, ⟨?_, fun i hi k hk => ?_⟩, h3, h4, ?_, h6', fun i hi => ?_, ⟨?_, fun k hk => ?_⟩, fun j hj => ⟨?_, ?_, fun k hk => ?_⟩⟩
  · rw [hI _ _ (by omega)]; exact h2.1
  · rw [hI _ _ (by omega)]; exact h2.2 i hi k hk
  · rw [hI _ _ (by omega)]; exact h5
  · exact ⟨fun p hp => (hI _ _ (by omega)).trans ((h7 i hi).1 p hp), fun p hp j hj => (hI _ _ (by omega)).trans ((h7 i hi).2 p hp j hj)⟩
  · rw [hI _ _ (by omega)]; exact h8.1
  · rw [hI _ _ (by omega)]; exact h8.2 k hk
  · rw [hI _ _ (by omega)]; exact (h9 j hj).1
  · rw [hI _ _ (by omega)]; exact (h9 j hj).2.1
  · rw [hI _ _ (by omega)]; exact (h9 j hj).2.2 k hk
theorem RC_now {T0 : Nat} {Z : Nat → Nat} {D : Nat → Nat → Nat} {tx : Nat → Nat → List Nat} {tp so sz : Nat → Nat} {it : Nat → Nat → Int32} {n t : Nat} {sh : Nat → Nat × Nat} {I : Nat → Nat → Int32} {L : Nat → Nat → Int64} {R : Nat → Nat → Option Nat} (h : RC T0 Z D tx tp so sz it (n, t, sh, I, L, R)) {s : Nat} : RC T0 (u1 Z 2 s) D tx tp so sz it (n, t, sh, u2 I 0 7 (nI s), L, R) := by
  have h6 := h.2.2.2.2.2.2.2.1
  simp only [] at h6
  refine RC_c0 h (fun x k hx => uu_ne _ _ _ _ (by omega)) (u1_ne _ _ _ (by decide)) (u1_ne _ _ _ (by decide)) (u1_ne _ _ _ (by decide)) (u1_ne _ _ _ (by decide)) (u1_ne _ _ _ (by decide)) ?_
  simp (disch := omega) only [uu_ne, uu_eq, u1_ne, u1_eq]
  exact ⟨h6.1, h6.2.1, trivial, h6.2.2.2⟩
theorem RK_now {T0 : Nat} {Z : Nat → Nat} {D : Nat → Nat → Nat} {tx : Nat → Nat → List Nat} {tp so sz : Nat → Nat} {it : Nat → Nat → Int32} {n t : Nat} {sh : Nat → Nat × Nat} {I : Nat → Nat → Int32} {L : Nat → Nat → Int64} {R : Nat → Nat → Option Nat} (h : RK T0 Z D tx tp so sz it (n, t, sh, I, L, R)) {s : Nat} (hs : s < 6144) (h0 : ∀ i, Z 1 ≤ i → i < 4 → stt s i = 0) : RK T0 (u1 Z 2 s) D tx tp so sz it (n, t, sh, u2 I 0 7 (nI s), L, R) := ⟨okS_now h.1 hs h0, RC_now h.2⟩
def setZ (Z : Nat → Nat) (D : Nat → Nat → Nat) (x v : Int32) : Int32 × (Nat → Nat) := match dec x (Z 1), dec v 4 with
  | some i, some w => (nI (stt (Z 2) i), u1 Z 2 (wst (Z 2) i w))
  | _, _ => (-nI 2, Z)
def setT (Z : Nat → Nat) (v : Int32) : Int32 × (Nat → Nat) := match dec v 4 with
  | some w => (nI (tno (Z 2)), u1 Z 2 (wtn (Z 2) w))
  | none => (-nI 2, Z)
def setR (Z : Nat → Nat) (v : Int32) : Int32 × (Nat → Nat) := match dec v (Z 0) with
  | some w => (nI (rmo (Z 2)), u1 Z 2 (wrm (Z 2) w))
  | none => (-nI 2, Z)
def goS (Z : Nat → Nat) (D : Nat → Nat → Nat) (tx : Nat → Nat → List Nat) (x : Int32) : Int32 × (Nat → Nat) := match dec x (Z 1) with
  | none => (-nI 2, Z)
  | some i => match bh (Z 1) D (tx (Z 4)) (Z 2) i with
    | none => (-nI 3, Z)
    | some s => (nI (rmo s), u1 Z 2 s)
section
variable {T0 : Nat} {Z : Nat → Nat} {D : Nat → Nat → Nat} {tx : Nat → Nat → List Nat} {tp so sz : Nat → Nat} {it : Nat → Nat → Int32} {d : Nat} {n t : Nat} {sh : Nat → Nat × Nat} {I : Nat → Nat → Int32} {L : Nat → Nat → Int64} {R : Nat → Nat → Option Nat} {Q : Option Value → aH → Prop}
theorem z_lt4 {v : Int32} (h : dec v 4 = none) : (v < nI 0 ∨ ¬ v ≤ nI 3) := by
  rcases dec_none h with h | h
  · exact Or.inl h
  · right
    rw [Int32.le_iff_toInt_le] at h ⊢
    have e1 : (nI 4).toInt = 4 := by decide
    have e2 : (nI 3).toInt = 3 := by decide
    omega
theorem k81 (hd : 10 ≤ d) (hk : RK T0 Z D tx tp so sz it (n, t, sh, I, L, R)) {x v : Int32} (H : ∀ h', RK T0 (setZ Z D x v).2 D tx tp so sz it h' → Q (some (.int (setZ Z D x v).1)) h') : aC d 81 [.ref 0, .int x, .int v] (n, t, sh, I, L, R) Q := by
  obtain ⟨d, rfl⟩ : ∃ e, d = e + 1 := ⟨d - 1, by omega⟩
  obtain ⟨⟨o1, ⟨o2, hB⟩, o3, o4, o5, o6, o7⟩, hn, hK, hcl, hD', hM, h4, h5, h6, h7, h8, h9⟩ := id hk
  simp only [] at hK hD' hM h4 h5 h6 h7 h8 h9
  obtain ⟨c1, c2, c3, c4, c5, c6, c7, c8, c9, c10⟩ := cP0 hK
  have s1 := (cPh hK).1
  unfold setZ at H
  cases hx : dec x (Z 1) with
  | none =>
    rw [hx] at H
    have := H _ hk
    simp (disch := first | assumption | exact ct_i | exact ct_r | exact ct_n | exact ct_h | omega | exact z_in (by omega) (by omega) | exact b01 | exact Or.inl rfl | exact Or.inr rfl) only [b81, e81_0, e81_1, e81_4, e81_5, e81_8n, e81_8, e81_11, e81_12, e81_15, e81_16, e81_17, e81_20, e81_22, e81_23, e81_24, e81_27, e81_28, e81_31, e81_32, e81_33, e81_34, e81_37, e81_38, e81_39, e81_42, e81_45, e81_46, ct_i, ct_r, ct_n, ct_h, opt_v, opt_s, ref_s, ref_n, eq_self_iff_true, true_or, or_true, zl0, zl1, zl2, zl3, zl4, zl5, zl6, zl7, zl8, zl9, zl10, zl16, zl32, zl40, zl100, zl160, zIc1, zI_lt, zI_le, nI_eq, nI_add, z_sub, nI_clamp, zI_of, uu_eq, uu_ne, Nat.reduceLT, Nat.reduceLeDiff, Nat.reduceEqDiff, Nat.reduceAdd, Nat.reduceSub, Nat.reduceMul, Nat.not_lt_zero, Nat.lt_irrefl, Nat.le_refl, Bool.false_eq_true, false_and, and_false, true_and, and_true, if_pos, if_neg, if_true, if_false, not_true_eq_false, not_false_eq_true, c1, c6, s1, k11n (show 1 ≤ d by omega) hK hD' (dec_none hx)]
    exact this
  | some i =>
    obtain ⟨rfl, hi⟩ := dec_some (by omega) hx
    cases hv : dec v 4 with
    | none =>
      rw [hx, hv] at H
      have := H _ hk
      rcases z_lt4 hv with hv | hv
      · simp (disch := first | assumption | exact ct_i | exact ct_r | exact ct_n | exact ct_h | omega | exact z_in (by omega) (by omega) | exact b01 | exact Or.inl rfl | exact Or.inr rfl) only [b81, e81_0, e81_1, e81_4, e81_5, e81_8n, e81_8, e81_11, e81_12, e81_15, e81_16, e81_17, e81_20, e81_22, e81_23, e81_24, e81_27, e81_28, e81_31, e81_32, e81_33, e81_34, e81_37, e81_38, e81_39, e81_42, e81_45, e81_46, ct_i, ct_r, ct_n, ct_h, opt_v, opt_s, ref_s, ref_n, eq_self_iff_true, true_or, or_true, zl0, zl1, zl2, zl3, zl4, zl5, zl6, zl7, zl8, zl9, zl10, zl16, zl32, zl40, zl100, zl160, zIc1, zI_lt, zI_le, nI_eq, nI_add, z_sub, nI_clamp, zI_of, uu_eq, uu_ne, Nat.reduceLT, Nat.reduceLeDiff, Nat.reduceEqDiff, Nat.reduceAdd, Nat.reduceSub, Nat.reduceMul, Nat.not_lt_zero, Nat.lt_irrefl, Nat.le_refl, Bool.false_eq_true, false_and, and_false, true_and, and_true, if_pos, if_neg, if_true, if_false, not_true_eq_false, not_false_eq_true, c1, c6, s1, k11 (show 1 ≤ d by omega) hK hD' hi, hv]
        exact this
      · simp (disch := first | assumption | exact ct_i | exact ct_r | exact ct_n | exact ct_h | omega | exact z_in (by omega) (by omega) | exact b01 | exact Or.inl rfl | exact Or.inr rfl) only [b81, e81_0, e81_1, e81_4, e81_5, e81_8n, e81_8, e81_11, e81_12, e81_15, e81_16, e81_17, e81_20, e81_22, e81_23, e81_24, e81_27, e81_28, e81_31, e81_32, e81_33, e81_34, e81_37, e81_38, e81_39, e81_42, e81_45, e81_46, ct_i, ct_r, ct_n, ct_h, opt_v, opt_s, ref_s, ref_n, eq_self_iff_true, true_or, or_true, zl0, zl1, zl2, zl3, zl4, zl5, zl6, zl7, zl8, zl9, zl10, zl16, zl32, zl40, zl100, zl160, zIc1, zI_lt, zI_le, nI_eq, nI_add, z_sub, nI_clamp, zI_of, uu_eq, uu_ne, Nat.reduceLT, Nat.reduceLeDiff, Nat.reduceEqDiff, Nat.reduceAdd, Nat.reduceSub, Nat.reduceMul, Nat.not_lt_zero, Nat.lt_irrefl, Nat.le_refl, Bool.false_eq_true, false_and, and_false, true_and, and_true, if_true, if_false, not_true_eq_false, not_false_eq_true, c1, c6, s1, k11 (show 1 ≤ d by omega) hK hD' hi, hv, ite_self]
        exact this
    | some w =>
      obtain ⟨rfl, hw⟩ := dec_some (by decide) hv
      rw [hx, hv] at H
      have := H _ (RK_now hk (wst_lt o3.1 (show i < 4 by omega) hw) (fun j hj hj4 => by rw [stt_wst (by omega) hj4 hw, if_neg (by omega)]; exact o3.2 j hj hj4))
      simp (disch := first | assumption | exact ct_i | exact ct_r | exact ct_n | exact ct_h | omega | exact z_in (by omega) (by omega) | exact b01 | exact Or.inl rfl | exact Or.inr rfl) only [b81, e81_0, e81_1, e81_4, e81_5, e81_8n, e81_8, e81_11, e81_12, e81_15, e81_16, e81_17, e81_20, e81_22, e81_23, e81_24, e81_27, e81_28, e81_31, e81_32, e81_33, e81_34, e81_37, e81_38, e81_39, e81_42, e81_45, e81_46, ct_i, ct_r, ct_n, ct_h, opt_v, opt_s, ref_s, ref_n, eq_self_iff_true, true_or, or_true, zl0, zl1, zl2, zl3, zl4, zl5, zl6, zl7, zl8, zl9, zl10, zl16, zl32, zl40, zl100, zl160, zIc1, zI_lt, zI_le, nI_eq, nI_add, z_sub, nI_clamp, zI_of, uu_eq, uu_ne, Nat.reduceLT, Nat.reduceLeDiff, Nat.reduceEqDiff, Nat.reduceAdd, Nat.reduceSub, Nat.reduceMul, Nat.not_lt_zero, Nat.lt_irrefl, Nat.le_refl, Bool.false_eq_true, false_and, and_false, true_and, and_true, if_pos, if_neg, if_true, if_false, not_true_eq_false, not_false_eq_true, c1, c6, s1, h6.2.2.1, k11 (show 1 ≤ d by omega) hK hD' hi, k194 (show 1 ≤ d by omega) o3.1 (show i < 4 by omega), k195 (show 1 ≤ d by omega) o3.1 (show i < 4 by omega) hw]
      exact this
theorem k82 (hd : 10 ≤ d) (hk : RK T0 Z D tx tp so sz it (n, t, sh, I, L, R)) {v : Int32} (H : ∀ h', RK T0 (setT Z v).2 D tx tp so sz it h' → Q (some (.int (setT Z v).1)) h') : aC d 82 [.ref 0, .int v] (n, t, sh, I, L, R) Q := by
  obtain ⟨d, rfl⟩ : ∃ e, d = e + 1 := ⟨d - 1, by omega⟩
  obtain ⟨⟨o1, ⟨o2, hB⟩, o3, o4, o5, o6, o7⟩, hn, hK, hcl, hD', hM, h4, h5, h6, h7, h8, h9⟩ := id hk
  simp only [] at hK hD' hM h4 h5 h6 h7 h8 h9
  obtain ⟨c1, c2, c3, c4, c5, c6, c7, c8, c9, c10⟩ := cP0 hK
  unfold setT at H
  cases hv : dec v 4 with
  | none =>
    rw [hv] at H
    have := H _ hk
    rcases z_lt4 hv with hv | hv
    · simp (disch := first | assumption | exact ct_i | exact ct_r | exact ct_n | exact ct_h | omega | exact z_in (by omega) (by omega) | exact b01 | exact Or.inl rfl | exact Or.inr rfl) only [b82, e82_0, e82_1, e82_4, e82_5, e82_6, e82_9, e82_11, e82_12, e82_13, e82_16, e82_19, e82_20, e82_21, e82_22, e82_25, e82_26, e82_29, e82_32, e82_33, ct_i, ct_r, ct_n, ct_h, opt_v, opt_s, ref_s, ref_n, eq_self_iff_true, true_or, or_true, zl0, zl1, zl2, zl3, zl4, zl5, zl6, zl7, zl8, zl9, zl10, zl16, zl32, zl40, zl100, zl160, zIc1, zI_lt, zI_le, nI_eq, nI_add, z_sub, nI_clamp, zI_of, uu_eq, uu_ne, Nat.reduceLT, Nat.reduceLeDiff, Nat.reduceEqDiff, Nat.reduceAdd, Nat.reduceSub, Nat.reduceMul, Nat.not_lt_zero, Nat.lt_irrefl, Nat.le_refl, Bool.false_eq_true, false_and, and_false, true_and, and_true, if_pos, if_neg, if_true, if_false, not_true_eq_false, not_false_eq_true, hv]
      exact this
    · simp (disch := first | assumption | exact ct_i | exact ct_r | exact ct_n | exact ct_h | omega | exact z_in (by omega) (by omega) | exact b01 | exact Or.inl rfl | exact Or.inr rfl) only [b82, e82_0, e82_1, e82_4, e82_5, e82_6, e82_9, e82_11, e82_12, e82_13, e82_16, e82_19, e82_20, e82_21, e82_22, e82_25, e82_26, e82_29, e82_32, e82_33, ct_i, ct_r, ct_n, ct_h, opt_v, opt_s, ref_s, ref_n, eq_self_iff_true, true_or, or_true, zl0, zl1, zl2, zl3, zl4, zl5, zl6, zl7, zl8, zl9, zl10, zl16, zl32, zl40, zl100, zl160, zIc1, zI_lt, zI_le, nI_eq, nI_add, z_sub, nI_clamp, zI_of, uu_eq, uu_ne, Nat.reduceLT, Nat.reduceLeDiff, Nat.reduceEqDiff, Nat.reduceAdd, Nat.reduceSub, Nat.reduceMul, Nat.not_lt_zero, Nat.lt_irrefl, Nat.le_refl, Bool.false_eq_true, false_and, and_false, true_and, and_true, if_true, if_false, not_true_eq_false, not_false_eq_true, hv, ite_self]
      exact this
  | some w =>
    obtain ⟨rfl, hw⟩ := dec_some (by decide) hv
    rw [hv] at H
    have := H _ (RK_now hk (wtn_lt o3.1 hw) (fun j hj hj4 => by rw [stt_wtn hj4 hw]; exact o3.2 j hj hj4))
    simp (disch := first | assumption | exact ct_i | exact ct_r | exact ct_n | exact ct_h | omega | exact z_in (by omega) (by omega) | exact b01 | exact Or.inl rfl | exact Or.inr rfl) only [b82, e82_0, e82_1, e82_4, e82_5, e82_6, e82_9, e82_11, e82_12, e82_13, e82_16, e82_19, e82_20, e82_21, e82_22, e82_25, e82_26, e82_29, e82_32, e82_33, ct_i, ct_r, ct_n, ct_h, opt_v, opt_s, ref_s, ref_n, eq_self_iff_true, true_or, or_true, zl0, zl1, zl2, zl3, zl4, zl5, zl6, zl7, zl8, zl9, zl10, zl16, zl32, zl40, zl100, zl160, zIc1, zI_lt, zI_le, nI_eq, nI_add, z_sub, nI_clamp, zI_of, uu_eq, uu_ne, Nat.reduceLT, Nat.reduceLeDiff, Nat.reduceEqDiff, Nat.reduceAdd, Nat.reduceSub, Nat.reduceMul, Nat.not_lt_zero, Nat.lt_irrefl, Nat.le_refl, Bool.false_eq_true, false_and, and_false, true_and, and_true, if_pos, if_neg, if_true, if_false, not_true_eq_false, not_false_eq_true, c1, h6.2.2.1, k196 (show 1 ≤ d by omega) o3.1, k197 (show 1 ≤ d by omega) o3.1 hw]
    exact this
theorem k83 (hd : 10 ≤ d) (hk : RK T0 Z D tx tp so sz it (n, t, sh, I, L, R)) {v : Int32} (H : ∀ h', RK T0 (setR Z v).2 D tx tp so sz it h' → Q (some (.int (setR Z v).1)) h') : aC d 83 [.ref 0, .int v] (n, t, sh, I, L, R) Q := by
  obtain ⟨d, rfl⟩ : ∃ e, d = e + 1 := ⟨d - 1, by omega⟩
  obtain ⟨⟨o1, ⟨o2, hB⟩, o3, o4, o5, o6, o7⟩, hn, hK, hcl, hD', hM, h4, h5, h6, h7, h8, h9⟩ := id hk
  simp only [] at hK hD' hM h4 h5 h6 h7 h8 h9
  obtain ⟨c1, c2, c3, c4, c5, c6, c7, c8, c9, c10⟩ := cP0 hK
  have s1 := (cPh hK).1
  unfold setR at H
  cases hv : dec v (Z 0) with
  | none =>
    rw [hv] at H
    have := H _ hk
    simp (disch := first | assumption | exact ct_i | exact ct_r | exact ct_n | exact ct_h | omega | exact z_in (by omega) (by omega) | exact b01 | exact Or.inl rfl | exact Or.inr rfl) only [b83, e83_0, e83_1, e83_4, e83_5, e83_8, e83_11, e83_13, e83_14, e83_15, e83_18, e83_21, e83_22, e83_23, e83_24, e83_27, e83_28, e83_31, e83_34, e83_35, ct_i, ct_r, ct_n, ct_h, opt_v, opt_s, ref_s, ref_n, eq_self_iff_true, true_or, or_true, zl0, zl1, zl2, zl3, zl4, zl5, zl6, zl7, zl8, zl9, zl10, zl16, zl32, zl40, zl100, zl160, zIc1, zI_lt, zI_le, nI_eq, nI_add, z_sub, nI_clamp, zI_of, uu_eq, uu_ne, Nat.reduceLT, Nat.reduceLeDiff, Nat.reduceEqDiff, Nat.reduceAdd, Nat.reduceSub, Nat.reduceMul, Nat.not_lt_zero, Nat.lt_irrefl, Nat.le_refl, Bool.false_eq_true, false_and, and_false, true_and, and_true, if_pos, if_neg, if_true, if_false, not_true_eq_false, not_false_eq_true, c1, c6, s1, k14n (show 1 ≤ d by omega) hK h5 o1.2 (dec_none hv)]
    exact this
  | some w =>
    obtain ⟨rfl, hw⟩ := dec_some (by omega) hv
    rw [hv] at H
    have := H _ (RK_now hk (wrm_lt (s := Z 2) (show w < 6 by omega)) (fun j hj hj4 => by rw [stt_wrm hj4]; exact o3.2 j hj hj4))
    simp (disch := first | assumption | exact ct_i | exact ct_r | exact ct_n | exact ct_h | omega | exact z_in (by omega) (by omega) | exact b01 | exact Or.inl rfl | exact Or.inr rfl) only [b83, e83_0, e83_1, e83_4, e83_5, e83_8, e83_11, e83_13, e83_14, e83_15, e83_18, e83_21, e83_22, e83_23, e83_24, e83_27, e83_28, e83_31, e83_34, e83_35, ct_i, ct_r, ct_n, ct_h, opt_v, opt_s, ref_s, ref_n, eq_self_iff_true, true_or, or_true, zl0, zl1, zl2, zl3, zl4, zl5, zl6, zl7, zl8, zl9, zl10, zl16, zl32, zl40, zl100, zl160, zIc1, zI_lt, zI_le, nI_eq, nI_add, z_sub, nI_clamp, zI_of, uu_eq, uu_ne, Nat.reduceLT, Nat.reduceLeDiff, Nat.reduceEqDiff, Nat.reduceAdd, Nat.reduceSub, Nat.reduceMul, Nat.not_lt_zero, Nat.lt_irrefl, Nat.le_refl, Bool.false_eq_true, false_and, and_false, true_and, and_true, if_pos, if_neg, if_true, if_false, not_true_eq_false, not_false_eq_true, c1, c6, s1, h6.2.2.1, k14 (show 1 ≤ d by omega) hK h5 o1.2 hw, k198 (show 1 ≤ d by omega) o3.1, k199 (show 1 ≤ d by omega) o3.1 (show w < 6 by omega)]
    exact this
theorem k91 (hd : 10 ≤ d) (hk : RK T0 Z D tx tp so sz it (n, t, sh, I, L, R)) {x : Int32} (H : ∀ h', RK T0 (goS Z D tx x).2 D tx tp so sz it h' → Q (some (.int (goS Z D tx x).1)) h') : aC d 91 [.ref 0, .int x] (n, t, sh, I, L, R) Q := by
  obtain ⟨d, rfl⟩ : ∃ e, d = e + 1 := ⟨d - 1, by omega⟩
  obtain ⟨⟨o1, ⟨o2, hB⟩, o3, o4, o5, o6, o7⟩, hn, hK, hcl, hD', hM, h4, h5, h6, h7, h8, h9⟩ := id hk
  simp only [] at hK hD' hM h4 h5 h6 h7 h8 h9
  obtain ⟨c1, c2, c3, c4, c5, c6, c7, c8, c9, c10⟩ := cP0 hK
  have s1 := (cPh hK).1
  unfold goS at H
  cases hx : dec x (Z 1) with
  | none =>
    rw [hx] at H
    have := H _ hk
    simp (disch := first | assumption | exact ct_i | exact ct_r | exact ct_n | exact ct_h | omega | exact z_in (by omega) (by omega) | exact b01 | exact Or.inl rfl | exact Or.inr rfl) only [b91, e91_0, e91_1, e91_4, e91_5, e91_8n, e91_8, e91_11, e91_13, e91_14, e91_15, e91_18, e91_19, e91_22, e91_23, e91_26, e91_27, e91_28, e91_29, e91_32, e91_34, e91_35, e91_36, e91_37, e91_40, e91_41, e91_44, e91_47, ct_i, ct_r, ct_n, ct_h, opt_v, opt_s, ref_s, ref_n, eq_self_iff_true, true_or, or_true, zl0, zl1, zl2, zl3, zl4, zl5, zl6, zl7, zl8, zl9, zl10, zl16, zl32, zl40, zl100, zl160, zIc1, zI_lt, zI_le, nI_eq, nI_add, z_sub, nI_clamp, zI_of, uu_eq, uu_ne, Nat.reduceLT, Nat.reduceLeDiff, Nat.reduceEqDiff, Nat.reduceAdd, Nat.reduceSub, Nat.reduceMul, Nat.not_lt_zero, Nat.lt_irrefl, Nat.le_refl, Bool.false_eq_true, false_and, and_false, true_and, and_true, if_pos, if_neg, if_true, if_false, not_true_eq_false, not_false_eq_true, c1, c6, s1, k11n (show 1 ≤ d by omega) hK hD' (dec_none hx)]
    exact this
  | some i =>
    obtain ⟨rfl, hi⟩ := dec_some (by omega) hx
    rw [hx] at H
    cases hb : bh (Z 1) D (tx (Z 4)) (Z 2) i with
    | none =>
      simp only [hb] at H
      have := H _ hk
      simp (disch := first | assumption | exact ct_i | exact ct_r | exact ct_n | exact ct_h | omega | exact z_in (by omega) (by omega) | exact b01 | exact Or.inl rfl | exact Or.inr rfl) only [b91, e91_0, e91_1, e91_4, e91_5, e91_8n, e91_8, e91_11, e91_13, e91_14, e91_15, e91_18, e91_19, e91_22, e91_23, e91_26, e91_27, e91_28, e91_29, e91_32, e91_34, e91_35, e91_36, e91_37, e91_40, e91_41, e91_44, e91_47, ct_i, ct_r, ct_n, ct_h, opt_v, opt_s, ref_s, ref_n, eq_self_iff_true, true_or, or_true, zl0, zl1, zl2, zl3, zl4, zl5, zl6, zl7, zl8, zl9, zl10, zl16, zl32, zl40, zl100, zl160, zIc1, zI_lt, zI_le, nI_eq, nI_add, z_sub, nI_clamp, zI_of, uu_eq, uu_ne, Nat.reduceLT, Nat.reduceLeDiff, Nat.reduceEqDiff, Nat.reduceAdd, Nat.reduceSub, Nat.reduceMul, Nat.not_lt_zero, Nat.lt_irrefl, Nat.le_refl, Bool.false_eq_true, false_and, and_false, true_and, and_true, if_pos, if_neg, if_true, if_false, not_true_eq_false, not_false_eq_true, c1, c6, s1, h6.2.2.1, k11 (show 1 ≤ d by omega) hK hD' hi, k20 (show 4 ≤ d by omega) hK hD' hB hM o3.1 hi, hb, oI]
      exact this
    | some s =>
      simp only [hb] at H
      have hs := bh_lt hB hb
      have ha : s = aft D (Z 2) i := by
        unfold bh at hb
        split at hb
        · injection hb with hb; exact hb.symm
        · cases hb
      have := H _ (RK_now hk hs (fun j hj hj4 => by rw [ha, stt_aft (by omega) hj4, if_neg (by omega)]; exact o3.2 j hj hj4))
      simp (disch := first | assumption | exact ct_i | exact ct_r | exact ct_n | exact ct_h | omega | exact z_in (by omega) (by omega) | exact b01 | exact Or.inl rfl | exact Or.inr rfl) only [b91, e91_0, e91_1, e91_4, e91_5, e91_8n, e91_8, e91_11, e91_13, e91_14, e91_15, e91_18, e91_19, e91_22, e91_23, e91_26, e91_27, e91_28, e91_29, e91_32, e91_34, e91_35, e91_36, e91_37, e91_40, e91_41, e91_44, e91_47, ct_i, ct_r, ct_n, ct_h, opt_v, opt_s, ref_s, ref_n, eq_self_iff_true, true_or, or_true, zl0, zl1, zl2, zl3, zl4, zl5, zl6, zl7, zl8, zl9, zl10, zl16, zl32, zl40, zl100, zl160, zIc1, zI_lt, zI_le, nI_eq, nI_add, z_sub, nI_clamp, zI_of, uu_eq, uu_ne, Nat.reduceLT, Nat.reduceLeDiff, Nat.reduceEqDiff, Nat.reduceAdd, Nat.reduceSub, Nat.reduceMul, Nat.not_lt_zero, Nat.lt_irrefl, Nat.le_refl, Bool.false_eq_true, false_and, and_false, true_and, and_true, if_pos, if_neg, if_true, if_false, not_true_eq_false, not_false_eq_true, c1, c6, s1, h6.2.2.1, k11 (show 1 ≤ d by omega) hK hD' hi, k20 (show 4 ≤ d by omega) hK hD' hB hM o3.1 hi, hb, oI, oI_ne hs, k198 (show 1 ≤ d by omega) hs]
      exact this
end
