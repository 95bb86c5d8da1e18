/-! the class's calls: the thief, the oil, the image again -/
def pop6 (m : Nat) : Nat := m % 2 + m / 2 % 2 + m / 4 % 2 + m / 8 % 2 + m / 16 % 2 + m / 32 % 2
theorem or_ok : ndL 64 (fun m => ndL 6 (fun r => decide ((nI m ||| (nI 1 <<< (nI r &&& 31))) = nI (m ||| 2 ^ r)) && decide (m ||| 2 ^ r < 64))) = true := by decide +kernel
theorem or_at {m r : Nat} (hm : m < 64) (hr : r < 6) : (nI m ||| (nI 1 <<< (nI r &&& 31))) = nI (m ||| 2 ^ r) ∧ m ||| 2 ^ r < 64 := by
  have := ndL_at (ndL_at or_ok hm) hr
  rw [Bool.and_eq_true] at this
  exact ⟨of_decide_eq_true this.1, of_decide_eq_true this.2⟩
def rmN (q : List (Nat × Nat)) : Nat → Nat
  | 0 => 0
  | k + 1 => rmN q k ||| 2 ^ rmo (qS q k)
theorem rms_N {q : List (Nat × Nat)} (hB : qB q) : ∀ k, k ≤ q.length → rms q k = nI (rmN q k) ∧ rmN q k < 64
  | 0, _ => ⟨rfl, by show 0 < 64; omega⟩
  | k + 1, hk => by
    obtain ⟨a, b⟩ := rms_N hB k (by omega)
    have := or_at b (rmo_lt (hB.2.1 k (by omega)))
    simp only [rms, rmN]
    rw [a]
    exact this
def bcE (x : Int32) : Int32 :=
  let a := x - ((x.toUInt32 >>> ((1 : Int32).toUInt32 &&& Int32.toUInt32 31)).toInt32 &&& 1431655765)
  let b := (a &&& 858993459) + ((a.toUInt32 >>> ((2 : Int32).toUInt32 &&& Int32.toUInt32 31)).toInt32 &&& 858993459)
  let c := (b + (b.toUInt32 >>> ((4 : Int32).toUInt32 &&& Int32.toUInt32 31)).toInt32) &&& 252645135
  let e := c + (c.toUInt32 >>> ((8 : Int32).toUInt32 &&& Int32.toUInt32 31)).toInt32
  let g := e + (e.toUInt32 >>> ((16 : Int32).toUInt32 &&& Int32.toUInt32 31)).toInt32
  g &&& 63
theorem bc_ok : ndL 64 (fun m => decide (bcE (nI m) = nI (pop6 m))) = true := by decide +kernel
theorem k214 {d m : Nat} (hd : 1 ≤ d) (hm : m < 64) {h : aH} {Q : Option Value → aH → Prop} : aC d 214 [.int (nI m)] h Q ↔ Q (some (.int (nI (pop6 m)))) h := by
  obtain ⟨d, rfl⟩ : ∃ e, d = e + 1 := ⟨d - 1, by omega⟩
  have e : bcE (nI m) = nI (pop6 m) := of_decide_eq_true (ndL_at bc_ok hm)
  rw [← e]
  simp (disch := first | assumption | exact ct_i | exact ct_r | exact ct_n | exact ct_h | omega | exact z_in (by omega) (by omega) | exact b01 | exact Or.inl rfl | exact Or.inr rfl) only [b214, e214_0, e214_1, e214_2, e214_3, e214_4, e214_7, e214_8, e214_9, e214_10, e214_11, e214_14, e214_15, e214_16, e214_17, e214_18, e214_21, e214_22, e214_23, e214_24, e214_25, e214_26, e214_27, e214_28, e214_29, e214_32, e214_33, e214_34, e214_35, e214_36, e214_38, e214_39, e214_40, e214_41, e214_42, e214_43, e214_45, e214_46, e214_47, e214_48, e214_49, e214_51, e214_52, ct_i, ct_r, ct_n, ct_h, opt_v, opt_s, ref_s, ref_n, eq_self_iff_true, true_or, or_true, bcE]
def thiS (Z : Nat → Nat) (D : Nat → Nat → Nat) (tx : Nat → Nat → List Nat) (x v : Int32) : Int32 := match dec x (Z 1), dec v 4 with
  | some i, some w => nI (pop6 (rmN (sq Z D tx (wst (Z 2) i w)) (sq Z D tx (wst (Z 2) i w)).length))
  | _, _ => -nI 2
section
variable {T0 : Nat} {Z : Nat → Nat} {D : Nat → Nat → Nat} {tx : Nat → Nat → List Nat} {tp so sz : Nat → Nat} {it : Nat → Nat → Int32} {d : Nat} {n t : Nat} {sh : Nat → Nat × Nat} {I : Nat → Nat → Int32} {L : Nat → Nat → Int64} {R : Nat → Nat → Option Nat} {Q : Option Value → aH → Prop}
theorem k107 (hd : 12 ≤ d) (hk : RK T0 Z D tx tp so sz it (n, t, sh, I, L, R)) {x v : Int32} (H : ∀ h', RK T0 Z D tx tp so sz it h' → Q (some (.int (thiS Z D tx x v))) h') : aC d 107 [.ref 0, .int x, .int v] (n, t, sh, I, L, R) Q := by
  obtain ⟨d, rfl⟩ : ∃ e, d = e + 1 := ⟨d - 1, by omega⟩
  obtain ⟨⟨o1, ⟨o2, hB⟩, o3, o4, o5, o6, o7⟩, hn, hK, hcl, hD', hM, h4, h5, h6, h7, h8, h9⟩ := id hk
  simp only [] at hn hK hcl hD' hM h4 h5 h6 h7 h8 h9
  obtain ⟨c1, c2, c3, c4, c5, c6, c7, c8, c9, c10⟩ := cP0 hK
  have s1 := (cPs hK).1
  have s2 := (cPh hK).1
  unfold thiS at H
  cases hx : dec x (Z 1) with
  | none =>
    simp only [hx] at H
    have := H _ hk
    simp (disch := first | assumption | exact ct_i | exact ct_r | exact ct_n | exact ct_h | omega | exact z_in (by omega) (by omega) | exact b01 | exact Or.inl rfl | exact Or.inr rfl) only [b107, e107_0, e107_1, e107_4, e107_5, e107_8n, e107_8, e107_11, e107_12, e107_15, e107_16, e107_17, e107_20, e107_22, e107_23, e107_24, e107_27, e107_28, e107_31, e107_32, e107_35, e107_36, e107_37, e107_40, e107_43, e107_44, e107_47, e107_50, e107_53, ct_i, ct_r, ct_n, ct_h, opt_v, opt_s, ref_s, ref_n, eq_self_iff_true, true_or, or_true, zl0, zl1, zl2, zl3, zl4, zl5, zl6, zl7, zl8, zl9, zl10, zl16, zl32, zl40, zl100, zl160, zIc1, zI_lt, zI_le, nI_eq, nI_add, z_sub, nI_clamp, zI_of, uu_eq, uu_ne, Nat.reduceLT, Nat.reduceLeDiff, Nat.reduceEqDiff, Nat.reduceAdd, Nat.reduceSub, Nat.reduceMul, Nat.not_lt_zero, Nat.lt_irrefl, Nat.le_refl, Bool.false_eq_true, false_and, and_false, true_and, and_true, if_pos, if_neg, if_true, if_false, not_true_eq_false, not_false_eq_true, c1, c6, s2, k11n (show 1 ≤ d by omega) hK hD' (dec_none hx)]
    exact this
  | some i =>
    obtain ⟨rfl, hi⟩ := dec_some (by omega) hx
    cases hv : dec v 4 with
    | none =>
      simp only [hx, hv] at H
      have := H _ hk
      rcases z_lt4 hv with hv | hv
      · simp (disch := first | assumption | exact ct_i | exact ct_r | exact ct_n | exact ct_h | omega | exact z_in (by omega) (by omega) | exact b01 | exact Or.inl rfl | exact Or.inr rfl) only [b107, e107_0, e107_1, e107_4, e107_5, e107_8n, e107_8, e107_11, e107_12, e107_15, e107_16, e107_17, e107_20, e107_22, e107_23, e107_24, e107_27, e107_28, e107_31, e107_32, e107_35, e107_36, e107_37, e107_40, e107_43, e107_44, e107_47, e107_50, e107_53, ct_i, ct_r, ct_n, ct_h, opt_v, opt_s, ref_s, ref_n, eq_self_iff_true, true_or, or_true, zl0, zl1, zl2, zl3, zl4, zl5, zl6, zl7, zl8, zl9, zl10, zl16, zl32, zl40, zl100, zl160, zIc1, zI_lt, zI_le, nI_eq, nI_add, z_sub, nI_clamp, zI_of, uu_eq, uu_ne, Nat.reduceLT, Nat.reduceLeDiff, Nat.reduceEqDiff, Nat.reduceAdd, Nat.reduceSub, Nat.reduceMul, Nat.not_lt_zero, Nat.lt_irrefl, Nat.le_refl, Bool.false_eq_true, false_and, and_false, true_and, and_true, if_pos, if_neg, if_true, if_false, not_true_eq_false, not_false_eq_true, c1, c6, s2, k11 (show 1 ≤ d by omega) hK hD' hi, hv]
        exact this
      · simp (disch := first | assumption | exact ct_i | exact ct_r | exact ct_n | exact ct_h | omega | exact z_in (by omega) (by omega) | exact b01 | exact Or.inl rfl | exact Or.inr rfl) only [b107, e107_0, e107_1, e107_4, e107_5, e107_8n, e107_8, e107_11, e107_12, e107_15, e107_16, e107_17, e107_20, e107_22, e107_23, e107_24, e107_27, e107_28, e107_31, e107_32, e107_35, e107_36, e107_37, e107_40, e107_43, e107_44, e107_47, e107_50, e107_53, ct_i, ct_r, ct_n, ct_h, opt_v, opt_s, ref_s, ref_n, eq_self_iff_true, true_or, or_true, zl0, zl1, zl2, zl3, zl4, zl5, zl6, zl7, zl8, zl9, zl10, zl16, zl32, zl40, zl100, zl160, zIc1, zI_lt, zI_le, nI_eq, nI_add, z_sub, nI_clamp, zI_of, uu_eq, uu_ne, Nat.reduceLT, Nat.reduceLeDiff, Nat.reduceEqDiff, Nat.reduceAdd, Nat.reduceSub, Nat.reduceMul, Nat.not_lt_zero, Nat.lt_irrefl, Nat.le_refl, Bool.false_eq_true, false_and, and_false, true_and, and_true, if_true, if_false, not_true_eq_false, not_false_eq_true, c1, c6, s2, k11 (show 1 ≤ d by omega) hK hD' hi, hv, ite_self]
        exact this
    | some w =>
      obtain ⟨rfl, hw⟩ := dec_some (by decide) hv
      simp only [hx, hv] at H
      have hs := wst_lt o3.1 (show i < 4 by omega) hw
      simp (disch := first | assumption | exact ct_i | exact ct_r | exact ct_n | exact ct_h | omega | exact z_in (by omega) (by omega) | exact b01 | exact Or.inl rfl | exact Or.inr rfl) only [b107, e107_0, e107_1, e107_4, e107_5, e107_8n, e107_8, e107_11, e107_12, e107_15, e107_16, e107_17, e107_20, e107_22, e107_23, e107_24, e107_27, e107_28, e107_31, e107_32, e107_35, e107_36, e107_37, e107_40, e107_43, e107_44, e107_47, e107_50, e107_53, ct_i, ct_r, ct_n, ct_h, opt_v, opt_s, ref_s, ref_n, eq_self_iff_true, true_or, or_true, zl0, zl1, zl2, zl3, zl4, zl5, zl6, zl7, zl8, zl9, zl10, zl16, zl32, zl40, zl100, zl160, zIc1, zI_lt, zI_le, nI_eq, nI_add, z_sub, nI_clamp, zI_of, uu_eq, uu_ne, Nat.reduceLT, Nat.reduceLeDiff, Nat.reduceEqDiff, Nat.reduceAdd, Nat.reduceSub, Nat.reduceMul, Nat.not_lt_zero, Nat.lt_irrefl, Nat.le_refl, Bool.false_eq_true, false_and, and_false, true_and, and_true, if_pos, if_neg, if_true, if_false, not_true_eq_false, not_false_eq_true, c1, c6, c7, s1, s2, h6.2.2.1, k11 (show 1 ≤ d by omega) hK hD' hi, k195 (show 1 ≤ d by omega) o3.1 (show i < 4 by omega) hw]
      refine kF (by omega) hk hs (fun I' L' hR hA => ?_)
      have hq := sq_I hk hs
      have hB' := qB_of hq
      obtain ⟨e1, e2⟩ := rms_N hB' _ (Nat.le_refl _)
      have := H _ hR
      simp (disch := first | assumption | exact ct_i | exact ct_r | exact ct_n | exact ct_h | omega | exact z_in (by omega) (by omega) | exact b01 | exact Or.inl rfl | exact Or.inr rfl) only [e107_0, e107_1, e107_4, e107_5, e107_8n, e107_8, e107_11, e107_12, e107_15, e107_16, e107_17, e107_20, e107_22, e107_23, e107_24, e107_27, e107_28, e107_31, e107_32, e107_35, e107_36, e107_37, e107_40, e107_43, e107_44, e107_47, e107_50, e107_53, ct_i, ct_r, ct_n, ct_h, opt_v, opt_s, ref_s, ref_n, eq_self_iff_true, true_or, or_true, zl0, zl1, zl2, zl3, zl4, zl5, zl6, zl7, zl8, zl9, zl10, zl16, zl32, zl40, zl100, zl160, zIc1, zI_lt, zI_le, nI_eq, nI_add, z_sub, nI_clamp, zI_of, uu_eq, uu_ne, Nat.reduceLT, Nat.reduceLeDiff, Nat.reduceEqDiff, Nat.reduceAdd, Nat.reduceSub, Nat.reduceMul, Nat.not_lt_zero, Nat.lt_irrefl, Nat.le_refl, Bool.false_eq_true, false_and, and_false, true_and, and_true, if_pos, if_neg, if_true, if_false, not_true_eq_false, not_false_eq_true, c1, c6, c7, s1, k50 (show 2 ≤ d by omega) hK hA hB', e1, k214 (show 1 ≤ d by omega) e2]
      exact this
theorem D_same {i : Nat} {kd : Nat} : u2 (u2 D i 4 kd) i 4 (D i 4) = D := by
  funext x k
  simp only [u2]
  by_cases h : x = i ∧ k = 4
  · rw [if_pos h, h.1, h.2]
  · rw [if_neg h, if_neg h]
theorem dB_turn {nd i kd : Nat} (hB : dB nd D) (hkd : kd < 6) : dB nd (u2 D i 4 kd) := by
  intro j hj
  have := hB j hj
  simp (disch := omega) only [uu_ne]
  refine ⟨this.1, this.2.1, this.2.2.1, this.2.2.2.1, ?_⟩
  by_cases h : j = i
  · subst h; rw [uu_eq]; exact hkd
  · rw [uu_ne _ _ _ _ (by omega)]; exact this.2.2.2.2
theorem opn_turn {f : Nat → List Nat} {i j kd st tn ks rm : Nat} (h : j ≠ i) : opn f (u2 D i 4 kd) j st tn ks rm = opn f D j st tn ks rm := by
  simp (disch := omega) only [opn, bey, uu_ne]
  rfl
theorem kTurn (hd : 6 ≤ d) (hk : RK T0 Z D tx tp so sz it (n, t, sh, I, L, R)) {i kd : Nat} (hi : i < Z 1) (hkd : kd < 6)
    (H : ∀ I' L', RK T0 Z (u2 D i 4 kd) tx tp so sz it (n, t, sh, I', L', R) → (∀ q, qA q I → qA q I') → Q none (n, t, sh, I', L', R)) : aC d 23 [.ref 1, .int (nI i), .int (nI kd)] (n, t, sh, I, L, R) Q := by
  obtain ⟨⟨o1, ⟨o2, hB⟩, o3, o4, o5, o6, o7⟩, hn, hK, hcl, hD', hM, h4, h5, h6, h7, h8, h9⟩ := id hk
  simp only [] at hn hK hcl hD' hM h4 h5 h6 h7 h8 h9
  refine k23 hd hK hD' hB (RC_rT hk.1 hk.2) hi hkd (fun I' L' hI hL hm => ?_)
  have e : ∀ x k, ¬ scr x k → ¬ (x = 47 + i ∧ k = 4) → I' x k = I x k := fun x k h1 h2 => (hI x k h1).trans (uu_ne _ _ _ _ h2)
  refine H I' L' ⟨⟨o1, ⟨o2, dB_turn hB hkd⟩, o3, o4, o5, o6, o7⟩, hn, hK, hcl, ⟨?_, fun j hj k hk => ?_⟩, fun j hj => ?_, h4, ?_, ?_, fun j hj => txC_fr (by omega) (fun x k hx => e x k (by unfold scr; omega) (by omega)) (h7 j hj), ⟨?_, fun k hk => ?_⟩, fun j hj => ⟨?_, ?_, fun k hk => ?_⟩⟩ (fun q hq => ⟨?_, fun k hk => ?_⟩)
  · exact (e _ _ (by unfold scr; omega) (by omega)).trans hD'.1
  · simp only []
    rw [hI _ _ (by unfold scr; omega)]
    by_cases h : j = i ∧ k = 4
    · obtain ⟨rfl, rfl⟩ := h
      rw [uu_eq, uu_eq]
    · rw [uu_ne _ _ _ _ (by omega), uu_ne _ _ _ _ h]; exact hD'.2 j hj k hk
  · by_cases h : j = i
    · subst h; exact hm
    · intro st hst tn htn ks hks
      simp only []
      rw [hL _ _ (by omega), hL _ _ (by omega), opn_turn h, opn_turn h, uu_ne _ _ _ _ (by omega), uu_ne _ _ _ _ (by omega)]
      exact hM j hj st hst tn htn ks hks
  · exact (e _ _ (by unfold scr; omega) (by omega)).trans h5
  · simp only []
    rw [e 0 5 (by unfold scr; omega) (by omega), e 0 6 (by unfold scr; omega) (by omega), e 0 7 (by unfold scr; omega) (by omega), e 0 8 (by unfold scr; omega) (by omega), e 0 9 (by unfold scr; omega) (by omega), e 0 10 (by unfold scr; omega) (by omega), e 0 11 (by unfold scr; omega) (by omega)]
    exact h6
  · exact (e _ _ (by unfold scr; omega) (by omega)).trans h8.1
  · exact (e _ _ (by unfold scr; omega) (by omega)).trans (h8.2 k hk)
  · exact (e _ _ (by unfold scr; omega) (by omega)).trans (h9 j hj).1
  · exact (e _ _ (by unfold scr; omega) (by omega)).trans (h9 j hj).2.1
  · exact (e _ _ (by unfold scr; omega) (by omega)).trans ((h9 j hj).2.2 k hk)
  · exact (e _ _ (by unfold scr; omega) (by omega)).trans hq.1
  · exact (e _ _ (by unfold scr; omega) (by omega)).trans (hq.2 k hk)
/-- rooms once a door is oiled -/
def oilC (Z : Nat → Nat) (D : Nat → Nat → Nat) (tx : Nat → Nat → List Nat) (i : Nat) : Nat := pop6 (rmN (sq Z (u2 D i 4 0) tx (Z 2)) (sq Z (u2 D i 4 0) tx (Z 2)).length)
theorem pop_le {m : Nat} : pop6 m ≤ 6 := by unfold pop6; omega
theorem k106 (hd : 8 ≤ d) (hk : RK T0 Z D tx tp so sz it (n, t, sh, I, L, R)) {i : Nat} (hi : i < Z 1) (H : ∀ I' L', RK T0 Z D tx tp so sz it (n, t, sh, I', L', R) → Q (some (.int (nI (oilC Z D tx i)))) (n, t, sh, I', L', R)) : aC d 106 [.ref 0, .int (nI i)] (n, t, sh, I, L, R) Q := by
  obtain ⟨d, rfl⟩ : ∃ e, d = e + 1 := ⟨d - 1, by omega⟩
  obtain ⟨⟨o1, ⟨o2, hB⟩, o3, o4, o5, o6, o7⟩, hn, hK, hcl, hD', hM, h4, h5, h6, h7, h8, h9⟩ := id hk
  simp only [] at hn hK hcl hD' hM h4 h5 h6 h7 h8 h9
  obtain ⟨c1, c2, c3, c4, c5, c6, c7, c8, c9, c10⟩ := cP0 hK
  have s1 := (cPs hK).1
  have s2 := (cPh hK).1
  obtain ⟨g1, g2⟩ := cPd hK hi
  have hb := hB i hi
  have e4 := hD'.2 i hi 4 (by decide)
  simp (disch := first | assumption | exact ct_i | exact ct_r | exact ct_n | exact ct_h | omega | exact z_in (by omega) (by omega) | exact b01 | exact Or.inl rfl | exact Or.inr rfl) only [b106, e106_0, e106_1, e106_4, e106_5, e106_8, e106_8n, e106_9, e106_9n, e106_10n, e106_10, e106_13, e106_14, e106_15, e106_15n, e106_16, e106_19, e106_20, e106_21, e106_24, e106_25, e106_26, e106_29, e106_30, e106_33, e106_34, e106_37, e106_38, e106_41, e106_44, e106_45, e106_48, e106_49, e106_50, e106_53, e106_54, e106_57, e106_60, e106_63, ct_i, ct_r, ct_n, ct_h, opt_v, opt_s, ref_s, ref_n, eq_self_iff_true, true_or, or_true, zl0, zl1, zl2, zl3, zl4, zl5, zl6, zl7, zl8, zl9, zl10, zl16, zl32, zl40, zl100, zl160, zIc1, zI_lt, zI_le, nI_eq, nI_add, z_sub, nI_clamp, zI_of, uu_eq, uu_ne, Nat.reduceLT, Nat.reduceLeDiff, Nat.reduceEqDiff, Nat.reduceAdd, Nat.reduceSub, Nat.reduceMul, Nat.not_lt_zero, Nat.lt_irrefl, Nat.le_refl, Bool.false_eq_true, false_and, and_false, true_and, and_true, if_pos, if_neg, if_true, if_false, not_true_eq_false, not_false_eq_true, c1, c6, c7, s1, s2, g1, e4, k11 (show 1 ≤ d by omega) hK hD' hi]
  refine kTurn (by omega) hk hi (show 0 < 6 by decide) (fun I1 L1 hR1 _ => ?_)
  have h61 := hR1.2.2.2.2.2.2.2.2.1
  simp only [] at h61
  simp (disch := first | assumption | exact ct_i | exact ct_r | exact ct_n | exact ct_h | omega | exact z_in (by omega) (by omega) | exact b01 | exact Or.inl rfl | exact Or.inr rfl) only [e106_0, e106_1, e106_4, e106_5, e106_8, e106_8n, e106_9, e106_9n, e106_10n, e106_10, e106_13, e106_14, e106_15, e106_15n, e106_16, e106_19, e106_20, e106_21, e106_24, e106_25, e106_26, e106_29, e106_30, e106_33, e106_34, e106_37, e106_38, e106_41, e106_44, e106_45, e106_48, e106_49, e106_50, e106_53, e106_54, e106_57, e106_60, e106_63, ct_i, ct_r, ct_n, ct_h, opt_v, opt_s, ref_s, ref_n, eq_self_iff_true, true_or, or_true, zl0, zl1, zl2, zl3, zl4, zl5, zl6, zl7, zl8, zl9, zl10, zl16, zl32, zl40, zl100, zl160, zIc1, zI_lt, zI_le, nI_eq, nI_add, z_sub, nI_clamp, zI_of, uu_eq, uu_ne, Nat.reduceLT, Nat.reduceLeDiff, Nat.reduceEqDiff, Nat.reduceAdd, Nat.reduceSub, Nat.reduceMul, Nat.not_lt_zero, Nat.lt_irrefl, Nat.le_refl, Bool.false_eq_true, false_and, and_false, true_and, and_true, if_pos, if_neg, if_true, if_false, not_true_eq_false, not_false_eq_true, c1, c6, c7, s1, s2, h61.2.2.1]
  refine kF (by omega) hR1 o3.1 (fun I2 L2 hR2 hA2 => ?_)
  have hq := sq_I hR1 o3.1
  have hB' := qB_of hq
  simp (disch := first | assumption | exact ct_i | exact ct_r | exact ct_n | exact ct_h | omega | exact z_in (by omega) (by omega) | exact b01 | exact Or.inl rfl | exact Or.inr rfl) only [e106_0, e106_1, e106_4, e106_5, e106_8, e106_8n, e106_9, e106_9n, e106_10n, e106_10, e106_13, e106_14, e106_15, e106_15n, e106_16, e106_19, e106_20, e106_21, e106_24, e106_25, e106_26, e106_29, e106_30, e106_33, e106_34, e106_37, e106_38, e106_41, e106_44, e106_45, e106_48, e106_49, e106_50, e106_53, e106_54, e106_57, e106_60, e106_63, ct_i, ct_r, ct_n, ct_h, opt_v, opt_s, ref_s, ref_n, eq_self_iff_true, true_or, or_true, zl0, zl1, zl2, zl3, zl4, zl5, zl6, zl7, zl8, zl9, zl10, zl16, zl32, zl40, zl100, zl160, zIc1, zI_lt, zI_le, nI_eq, nI_add, z_sub, nI_clamp, zI_of, uu_eq, uu_ne, Nat.reduceLT, Nat.reduceLeDiff, Nat.reduceEqDiff, Nat.reduceAdd, Nat.reduceSub, Nat.reduceMul, Nat.not_lt_zero, Nat.lt_irrefl, Nat.le_refl, Bool.false_eq_true, false_and, and_false, true_and, and_true, if_pos, if_neg, if_true, if_false, not_true_eq_false, not_false_eq_true, c1, c6, c7, s1, s2]
  refine kTurn (by omega) hR2 hi hb.2.2.2.2 (fun I3 L3 hR3 hA3 => ?_)
  rw [D_same] at hR3
  obtain ⟨e1, e2⟩ := rms_N hB' _ (Nat.le_refl _)
  simp (disch := first | assumption | exact ct_i | exact ct_r | exact ct_n | exact ct_h | omega | exact z_in (by omega) (by omega) | exact b01 | exact Or.inl rfl | exact Or.inr rfl) only [e106_0, e106_1, e106_4, e106_5, e106_8, e106_8n, e106_9, e106_9n, e106_10n, e106_10, e106_13, e106_14, e106_15, e106_15n, e106_16, e106_19, e106_20, e106_21, e106_24, e106_25, e106_26, e106_29, e106_30, e106_33, e106_34, e106_37, e106_38, e106_41, e106_44, e106_45, e106_48, e106_49, e106_50, e106_53, e106_54, e106_57, e106_60, e106_63, ct_i, ct_r, ct_n, ct_h, opt_v, opt_s, ref_s, ref_n, eq_self_iff_true, true_or, or_true, zl0, zl1, zl2, zl3, zl4, zl5, zl6, zl7, zl8, zl9, zl10, zl16, zl32, zl40, zl100, zl160, zIc1, zI_lt, zI_le, nI_eq, nI_add, z_sub, nI_clamp, zI_of, uu_eq, uu_ne, Nat.reduceLT, Nat.reduceLeDiff, Nat.reduceEqDiff, Nat.reduceAdd, Nat.reduceSub, Nat.reduceMul, Nat.not_lt_zero, Nat.lt_irrefl, Nat.le_refl, Bool.false_eq_true, false_and, and_false, true_and, and_true, if_pos, if_neg, if_true, if_false, not_true_eq_false, not_false_eq_true, c1, c6, c7, s1, s2, k50 (show 2 ≤ d by omega) hK (hA3 _ hA2) hB', e1, k214 (show 1 ≤ d by omega) e2]
  exact H I3 L3 hR3
def oilF (Z : Nat → Nat) (D : Nat → Nat → Nat) (tx : Nat → Nat → List Nat) : Nat → Int32 × Nat
  | 0 => (-nI 1, 0)
  | k + 1 => if (oilF Z D tx k).2 < oilC Z D tx k then (nI k, oilC Z D tx k) else oilF Z D tx k
theorem oilF_le : ∀ k, (oilF Z D tx k).2 ≤ 6
  | 0 => Nat.zero_le _
  | k + 1 => by
    simp only [oilF]
    split
    · exact pop_le
    · exact oilF_le k
theorem k105l (hd : 8 ≤ d) (H : ∀ I' L', RK T0 Z D tx tp so sz it (n, t, sh, I', L', R) → Q (some (.int (oilF Z D tx (Z 1)).1)) (n, t, sh, I', L', R)) : ∀ m i I L l4, i + m = Z 1 → RK T0 Z D tx tp so sz it (n, t, sh, I, L, R) →
    aE (a_cl_ d) 105 (6, [.ref 0, .int (oilF Z D tx i).1, .int (nI (oilF Z D tx i).2), .int (nI i), l4], [], (n, t, sh, I, L, R)) Q := by
  intro m
  induction m with
  | zero =>
    intro i I L l4 hi hk
    obtain ⟨⟨o1, ⟨o2, hB⟩, o3, o4, o5, o6, o7⟩, hn, hK, hcl, hD', hM, h4, h5, h6, h7, h8, h9⟩ := id hk
    simp only [] at hn hK hcl hD' hM h4 h5 h6 h7 h8 h9
    obtain ⟨c1, c2, c3, c4, c5, c6, c7, c8, c9, c10⟩ := cP0 hK
    have s2 := (cPh hK).1
    obtain rfl : i = Z 1 := by omega
    rw [e105_6]
    simp (disch := first | assumption | exact ct_i | exact ct_r | exact ct_n | exact ct_h | omega | exact z_in (by omega) (by omega) | exact b01 | exact Or.inl rfl | exact Or.inr rfl) only [e105_0, e105_1, e105_2, e105_3, e105_4, e105_5, e105_7, e105_8, e105_11, e105_14, e105_17, e105_18, e105_19, e105_22, e105_24, e105_26, e105_27, e105_30, e105_32, e105_33, e105_34, e105_35, e105_38, e105_41, e105_42, ct_i, ct_r, ct_n, ct_h, opt_v, opt_s, ref_s, ref_n, eq_self_iff_true, true_or, or_true, zl0, zl1, zl2, zl3, zl4, zl5, zl6, zl7, zl8, zl9, zl10, zl16, zl32, zl40, zl100, zl160, zIc1, zI_lt, zI_le, nI_eq, nI_add, z_sub, nI_clamp, zI_of, uu_eq, uu_ne, Nat.reduceLT, Nat.reduceLeDiff, Nat.reduceEqDiff, Nat.reduceAdd, Nat.reduceSub, Nat.reduceMul, Nat.not_lt_zero, Nat.lt_irrefl, Nat.le_refl, Bool.false_eq_true, false_and, and_false, true_and, and_true, if_pos, if_neg, if_true, if_false, not_true_eq_false, not_false_eq_true, c1, c6, s2, hD'.1]
    exact H I L hk
  | succ m ih =>
    intro i I L l4 hi hk
    obtain ⟨⟨o1, ⟨o2, hB⟩, o3, o4, o5, o6, o7⟩, hn, hK, hcl, hD', hM, h4, h5, h6, h7, h8, h9⟩ := id hk
    simp only [] at hn hK hcl hD' hM h4 h5 h6 h7 h8 h9
    obtain ⟨c1, c2, c3, c4, c5, c6, c7, c8, c9, c10⟩ := cP0 hK
    have s2 := (cPh hK).1
    rw [e105_6]
    simp (disch := first | assumption | exact ct_i | exact ct_r | exact ct_n | exact ct_h | omega | exact z_in (by omega) (by omega) | exact b01 | exact Or.inl rfl | exact Or.inr rfl) only [e105_0, e105_1, e105_2, e105_3, e105_4, e105_5, e105_7, e105_8, e105_11, e105_14, e105_17, e105_18, e105_19, e105_22, e105_24, e105_26, e105_27, e105_30, e105_32, e105_33, e105_34, e105_35, e105_38, e105_41, e105_42, ct_i, ct_r, ct_n, ct_h, opt_v, opt_s, ref_s, ref_n, eq_self_iff_true, true_or, or_true, zl0, zl1, zl2, zl3, zl4, zl5, zl6, zl7, zl8, zl9, zl10, zl16, zl32, zl40, zl100, zl160, zIc1, zI_lt, zI_le, nI_eq, nI_add, z_sub, nI_clamp, zI_of, uu_eq, uu_ne, Nat.reduceLT, Nat.reduceLeDiff, Nat.reduceEqDiff, Nat.reduceAdd, Nat.reduceSub, Nat.reduceMul, Nat.not_lt_zero, Nat.lt_irrefl, Nat.le_refl, Bool.false_eq_true, false_and, and_false, true_and, and_true, if_pos, if_neg, if_true, if_false, not_true_eq_false, not_false_eq_true, c1, c6, s2, hD'.1]
    refine k106 hd hk (show i < Z 1 by omega) (fun I' L' hR => ?_)
    have q1 := oilF_le (Z := Z) (D := D) (tx := tx) i
    have q2 : oilC Z D tx i ≤ 6 := pop_le
    have := ih (i + 1) I' L' (.int (nI (oilC Z D tx i))) (by omega) hR
    simp only [oilF] at this
    by_cases hc : (oilF Z D tx i).2 < oilC Z D tx i
    · rw [if_pos hc] at this
      simp (disch := first | assumption | exact ct_i | exact ct_r | exact ct_n | exact ct_h | omega | exact z_in (by omega) (by omega) | exact b01 | exact Or.inl rfl | exact Or.inr rfl) only [e105_0, e105_1, e105_2, e105_3, e105_4, e105_5, e105_7, e105_8, e105_11, e105_14, e105_17, e105_18, e105_19, e105_22, e105_24, e105_26, e105_27, e105_30, e105_32, e105_33, e105_34, e105_35, e105_38, e105_41, e105_42, ct_i, ct_r, ct_n, ct_h, opt_v, opt_s, ref_s, ref_n, eq_self_iff_true, true_or, or_true, zl0, zl1, zl2, zl3, zl4, zl5, zl6, zl7, zl8, zl9, zl10, zl16, zl32, zl40, zl100, zl160, zIc1, zI_lt, zI_le, nI_eq, nI_add, z_sub, nI_clamp, zI_of, uu_eq, uu_ne, Nat.reduceLT, Nat.reduceLeDiff, Nat.reduceEqDiff, Nat.reduceAdd, Nat.reduceSub, Nat.reduceMul, Nat.not_lt_zero, Nat.lt_irrefl, Nat.le_refl, Bool.false_eq_true, false_and, and_false, true_and, and_true, if_pos, if_neg, if_true, if_false, not_true_eq_false, not_false_eq_true]
      exact this
    · rw [if_neg hc] at this
      simp (disch := first | assumption | exact ct_i | exact ct_r | exact ct_n | exact ct_h | omega | exact z_in (by omega) (by omega) | exact b01 | exact Or.inl rfl | exact Or.inr rfl) only [e105_0, e105_1, e105_2, e105_3, e105_4, e105_5, e105_7, e105_8, e105_11, e105_14, e105_17, e105_18, e105_19, e105_22, e105_24, e105_26, e105_27, e105_30, e105_32, e105_33, e105_34, e105_35, e105_38, e105_41, e105_42, ct_i, ct_r, ct_n, ct_h, opt_v, opt_s, ref_s, ref_n, eq_self_iff_true, true_or, or_true, zl0, zl1, zl2, zl3, zl4, zl5, zl6, zl7, zl8, zl9, zl10, zl16, zl32, zl40, zl100, zl160, zIc1, zI_lt, zI_le, nI_eq, nI_add, z_sub, nI_clamp, zI_of, uu_eq, uu_ne, Nat.reduceLT, Nat.reduceLeDiff, Nat.reduceEqDiff, Nat.reduceAdd, Nat.reduceSub, Nat.reduceMul, Nat.not_lt_zero, Nat.lt_irrefl, Nat.le_refl, Bool.false_eq_true, false_and, and_false, true_and, and_true, if_pos, if_neg, if_true, if_false, not_true_eq_false, not_false_eq_true]
      exact this
theorem k105 (hd : 12 ≤ d) (hk : RK T0 Z D tx tp so sz it (n, t, sh, I, L, R)) (H : ∀ h', RK T0 Z D tx tp so sz it h' → Q (some (.int (oilF Z D tx (Z 1)).1)) h') : aC d 105 [.ref 0] (n, t, sh, I, L, R) Q := by
  obtain ⟨d, rfl⟩ : ∃ e, d = e + 1 := ⟨d - 1, by omega⟩
  simp (disch := first | assumption | exact ct_i | exact ct_r | exact ct_n | exact ct_h | omega | exact z_in (by omega) (by omega) | exact b01 | exact Or.inl rfl | exact Or.inr rfl) only [b105, e105_0, e105_1, e105_2, e105_3, e105_4, e105_5, e105_7, e105_8, e105_11, e105_14, e105_17, e105_18, e105_19, e105_22, e105_24, e105_26, e105_27, e105_30, e105_32, e105_33, e105_34, e105_35, e105_38, e105_41, e105_42, ct_i, ct_r, ct_n, ct_h, opt_v, opt_s, ref_s, ref_n, eq_self_iff_true, true_or, or_true, zl0, zl1, zl2, zl3, zl4, zl5, zl6, zl7, zl8, zl9, zl10, zl16, zl32, zl40, zl100, zl160, zIc1, zI_lt, zI_le, nI_eq, nI_add, z_sub, nI_clamp, zI_of, uu_eq, uu_ne, Nat.reduceLT, Nat.reduceLeDiff, Nat.reduceEqDiff, Nat.reduceAdd, Nat.reduceSub, Nat.reduceMul, Nat.not_lt_zero, Nat.lt_irrefl, Nat.le_refl, Bool.false_eq_true, false_and, and_false, true_and, and_true, if_pos, if_neg, if_true, if_false, not_true_eq_false, not_false_eq_true]
  exact k105l (by omega) (fun I' L' hR => H _ hR) (Z 1) 0 I L a_hole (by omega) hk
end
