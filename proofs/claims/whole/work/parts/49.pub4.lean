/-! the class's calls: those that search -/
def sq (Z : Nat → Nat) (D : Nat → Nat → Nat) (tx : Nat → Nat → List Nat) (s : Nat) : List (Nat × Nat) := bfs (bh (Z 1) D (tx (Z 4))) (Z 1) s
def comS (Z : Nat → Nat) (D : Nat → Nat → Nat) (tx : Nat → Nat → List Nat) (w : Int32) : Int32 := match dec w 4 with
  | none => -nI 2
  | some k => if k = 0 then rms (sq Z D tx (Z 2)) (sq Z D tx (Z 2)).length else if k = 1 then nI (sq Z D tx (Z 2)).length else if k = 2 then nI (dep (sq Z D tx (Z 2)) ((sq Z D tx (Z 2)).length - 1)) else nI (lsc (bh (Z 1) D (tx (Z 4))) (Z 1) (sq Z D tx (Z 2)) (sq Z D tx (Z 2)).length)
def firR (q : List (Nat × Nat)) (r : Nat) : Option Nat := ffi (fun k => decide (rmo (qS q k) = r)) q.length
def dpO (q : List (Nat × Nat)) : Option Nat → Int32
  | some k => nI (dep q k)
  | none => -nI 1
def shoS (Z : Nat → Nat) (D : Nat → Nat → Nat) (tx : Nat → Nat → List Nat) (x : Int32) : Int32 := match dec x (Z 0) with
  | none => -nI 2
  | some r => dpO (sq Z D tx (Z 2)) (firR (sq Z D tx (Z 2)) r)
def firS (Z : Nat → Nat) (D : Nat → Nat → Nat) (tx : Nat → Nat → List Nat) (x y : Int32) : Int32 := match dec x (Z 0) with
  | none => -nI 2
  | some r => match firR (sq Z D tx (Z 2)) r with
    | none => -nI 1
    | some k => match dec y (dep (sq Z D tx (Z 2)) k) with
      | none => -nI 1
      | some i => oI (wayD (bh (Z 1) D (tx (Z 4))) (Z 1) (sq Z D tx (Z 2)) (anc (sq Z D tx (Z 2)) (dep (sq Z D tx (Z 2)) k - 1 - i) k))
noncomputable def shuS (Z : Nat → Nat) (D : Nat → Nat → Nat) (tx : Nat → Nat → List Nat) (x : Int32) : Int32 := match dec x (Z 0) with
  | none => -nI 2
  | some r => cutF (bh (Z 1) D (tx (Z 4))) (Z 1) r (sq Z D tx (Z 2)) (sq Z D tx (Z 2)).length
def wisS (Z : Nat → Nat) (D : Nat → Nat → Nat) (tx : Nat → Nat → List Nat) : Int32 := dpO (sq Z D tx (Z 2)) (ffi (fun k => wl (tx (Z 4)) (qS (sq Z D tx (Z 2)) k)) (sq Z D tx (Z 2)).length)
def fouS (Z : Nat → Nat) (D : Nat → Nat → Nat) (tx : Nat → Nat → List Nat) : Int32 := fou (bh (Z 1) D (tx (Z 4))) (Z 1) (sq Z D tx (Z 2)) (Z 2)
section
variable {T0 : Nat} {Z : Nat → Nat} {D : Nat → Nat → Nat} {tx : Nat → Nat → List Nat} {tp so sz : Nat → Nat} {it : Nat → Nat → Int32} {d : Nat} {n t : Nat} {sh : Nat → Nat × Nat} {I : Nat → Nat → Int32} {L : Nat → Nat → Int64} {R : Nat → Nat → Option Nat} {Q : Option Value → aH → Prop}
theorem kF (hd : 5 ≤ d) (hk : RK T0 Z D tx tp so sz it (n, t, sh, I, L, R)) {s : Nat} (hs : s < 6144)
    (H : ∀ I' L', RK T0 Z D tx tp so sz it (n, t, sh, I', L', R) → qA (sq Z D tx s) I' → Q none (n, t, sh, I', L', R)) : aC d 45 [.ref 8, .ref 1, .int (nI s)] (n, t, sh, I, L, R) Q := by
  obtain ⟨⟨o1, ⟨o2, hB⟩, o3, o4, o5, o6, o7⟩, hn, hK, hcl, hD', hM, h4, h5, h6, h7, h8, h9⟩ := id hk
  simp only [] at hn hK hcl hD' hM h4 h5 h6 h7 h8 h9
  exact k45 hd hK hD' hB hM hs (fun I' L' hI hL hA hm => H I' L' ⟨hk.1, RC_fr hk.1 (frA_S hI) hL hk.2⟩ hA)
theorem sq_I (hk : RK T0 Z D tx tp so sz it (n, t, sh, I, L, R)) {s : Nat} (hs : s < 6144) : qI (bh (Z 1) D (tx (Z 4))) (Z 1) s (sq Z D tx s) (sq Z D tx s).length 0 := bfs_I (bh_g hk.1.2.1.2) hs
theorem k92 (hd : 12 ≤ d) (hk : RK T0 Z D tx tp so sz it (n, t, sh, I, L, R)) {w : Int32} (H : ∀ h', RK T0 Z D tx tp so sz it h' → Q (some (.int (comS Z D tx w))) h') : aC d 92 [.ref 0, .int w] (n, t, sh, I, L, R) Q := by
  obtain ⟨d, rfl⟩ : ∃ e, d = e + 1 := ⟨d - 1, by omega⟩
  obtain ⟨⟨o1, ⟨o2, hB⟩, o3, o4, o5, o6, o7⟩, hn, hK, hcl, hD', hM, h4, h5, h6, h7, h8, h9⟩ := id hk
  simp only [] at hn hK hcl hD' hM h4 h5 h6 h7 h8 h9
  obtain ⟨c1, c2, c3, c4, c5, c6, c7, c8, c9, c10⟩ := cP0 hK
  have s1 := (cPs hK).1
  unfold comS at H
  cases hw : dec w 4 with
  | none =>
    rw [hw] at H
    have := H _ hk
    rcases z_lt4 hw with hv | hv
    · simp (disch := first | assumption | exact ct_i | exact ct_r | exact ct_n | exact ct_h | omega | exact z_in (by omega) (by omega) | exact b01 | exact Or.inl rfl | exact Or.inr rfl) only [b92, e92_0, e92_1, e92_4, e92_5, e92_6, e92_9, e92_11, e92_12, e92_13, e92_16, e92_17, e92_20, e92_21, e92_24, e92_27, e92_28, e92_56, e92_57, e92_60, e92_63, e92_64, e92_65, e92_68, e92_71, e92_72, e92_73, e92_76, e92_79, e92_80, e92_81, e92_84, e92_85, e92_88, e92_91, ct_i, ct_r, ct_n, ct_h, opt_v, opt_s, ref_s, ref_n, eq_self_iff_true, true_or, or_true, zl0, zl1, zl2, zl3, zl4, zl5, zl6, zl7, zl8, zl9, zl10, zl16, zl32, zl40, zl100, zl160, zIc1, zI_lt, zI_le, nI_eq, nI_add, z_sub, nI_clamp, zI_of, uu_eq, uu_ne, Nat.reduceLT, Nat.reduceLeDiff, Nat.reduceEqDiff, Nat.reduceAdd, Nat.reduceSub, Nat.reduceMul, Nat.not_lt_zero, Nat.lt_irrefl, Nat.le_refl, Bool.false_eq_true, false_and, and_false, true_and, and_true, if_pos, if_neg, if_true, if_false, not_true_eq_false, not_false_eq_true, hv]
      exact this
    · simp (disch := first | assumption | exact ct_i | exact ct_r | exact ct_n | exact ct_h | omega | exact z_in (by omega) (by omega) | exact b01 | exact Or.inl rfl | exact Or.inr rfl) only [b92, e92_0, e92_1, e92_4, e92_5, e92_6, e92_9, e92_11, e92_12, e92_13, e92_16, e92_17, e92_20, e92_21, e92_24, e92_27, e92_28, e92_56, e92_57, e92_60, e92_63, e92_64, e92_65, e92_68, e92_71, e92_72, e92_73, e92_76, e92_79, e92_80, e92_81, e92_84, e92_85, e92_88, e92_91, ct_i, ct_r, ct_n, ct_h, opt_v, opt_s, ref_s, ref_n, eq_self_iff_true, true_or, or_true, zl0, zl1, zl2, zl3, zl4, zl5, zl6, zl7, zl8, zl9, zl10, zl16, zl32, zl40, zl100, zl160, zIc1, zI_lt, zI_le, nI_eq, nI_add, z_sub, nI_clamp, zI_of, uu_eq, uu_ne, Nat.reduceLT, Nat.reduceLeDiff, Nat.reduceEqDiff, Nat.reduceAdd, Nat.reduceSub, Nat.reduceMul, Nat.not_lt_zero, Nat.lt_irrefl, Nat.le_refl, Bool.false_eq_true, false_and, and_false, true_and, and_true, if_true, if_false, not_true_eq_false, not_false_eq_true, hv, ite_self]
      exact this
  | some k =>
    obtain ⟨rfl, hw4⟩ := dec_some (by decide) hw
    rw [hw] at H
    simp (disch := first | assumption | exact ct_i | exact ct_r | exact ct_n | exact ct_h | omega | exact z_in (by omega) (by omega) | exact b01 | exact Or.inl rfl | exact Or.inr rfl) only [b92, e92_0, e92_1, e92_4, e92_5, e92_6, e92_9, e92_11, e92_12, e92_13, e92_16, e92_17, e92_20, e92_21, e92_24, e92_27, e92_28, e92_56, e92_57, e92_60, e92_63, e92_64, e92_65, e92_68, e92_71, e92_72, e92_73, e92_76, e92_79, e92_80, e92_81, e92_84, e92_85, e92_88, e92_91, ct_i, ct_r, ct_n, ct_h, opt_v, opt_s, ref_s, ref_n, eq_self_iff_true, true_or, or_true, zl0, zl1, zl2, zl3, zl4, zl5, zl6, zl7, zl8, zl9, zl10, zl16, zl32, zl40, zl100, zl160, zIc1, zI_lt, zI_le, nI_eq, nI_add, z_sub, nI_clamp, zI_of, uu_eq, uu_ne, Nat.reduceLT, Nat.reduceLeDiff, Nat.reduceEqDiff, Nat.reduceAdd, Nat.reduceSub, Nat.reduceMul, Nat.not_lt_zero, Nat.lt_irrefl, Nat.le_refl, Bool.false_eq_true, false_and, and_false, true_and, and_true, if_pos, if_neg, if_true, if_false, not_true_eq_false, not_false_eq_true, c1, c6, c7, s1, h6.2.2.1]
    refine kF (by omega) hk o3.1 (fun I' L' hR hA => ?_)
    have hq := sq_I hk o3.1
    have hB' := qB_of hq
    obtain ⟨⟨-, -, -, -, -, -, -⟩, -, hK', -, hD2, hM2, -, -, -, -, -, -⟩ := id hR
    simp only [] at hK' hD2 hM2
    have := H _ hR
    have h0 := hq.1.1
    rcases (show k = 0 ∨ k = 1 ∨ k = 2 ∨ k = 3 by omega) with rfl | rfl | rfl | rfl
    · simp (disch := first | assumption | exact ct_i | exact ct_r | exact ct_n | exact ct_h | omega | exact z_in (by omega) (by omega) | exact b01 | exact Or.inl rfl | exact Or.inr rfl) only [e92_0, e92_1, e92_4, e92_5, e92_6, e92_9, e92_11, e92_12, e92_13, e92_16, e92_17, e92_20, e92_21, e92_24, e92_27, e92_28, e92_56, e92_57, e92_60, e92_63, e92_64, e92_65, e92_68, e92_71, e92_72, e92_73, e92_76, e92_79, e92_80, e92_81, e92_84, e92_85, e92_88, e92_91, ct_i, ct_r, ct_n, ct_h, opt_v, opt_s, ref_s, ref_n, eq_self_iff_true, true_or, or_true, zl0, zl1, zl2, zl3, zl4, zl5, zl6, zl7, zl8, zl9, zl10, zl16, zl32, zl40, zl100, zl160, zIc1, zI_lt, zI_le, nI_eq, nI_add, z_sub, nI_clamp, zI_of, uu_eq, uu_ne, Nat.reduceLT, Nat.reduceLeDiff, Nat.reduceEqDiff, Nat.reduceAdd, Nat.reduceSub, Nat.reduceMul, Nat.not_lt_zero, Nat.lt_irrefl, Nat.le_refl, Bool.false_eq_true, false_and, and_false, true_and, and_true, if_pos, if_neg, if_true, if_false, not_true_eq_false, not_false_eq_true, c1, c6, c7, s1, k50 (show 2 ≤ d by omega) hK hA hB']
      exact this
    · simp (disch := first | assumption | exact ct_i | exact ct_r | exact ct_n | exact ct_h | omega | exact z_in (by omega) (by omega) | exact b01 | exact Or.inl rfl | exact Or.inr rfl) only [e92_0, e92_1, e92_4, e92_5, e92_6, e92_9, e92_11, e92_12, e92_13, e92_16, e92_17, e92_20, e92_21, e92_24, e92_27, e92_28, e92_56, e92_57, e92_60, e92_63, e92_64, e92_65, e92_68, e92_71, e92_72, e92_73, e92_76, e92_79, e92_80, e92_81, e92_84, e92_85, e92_88, e92_91, ct_i, ct_r, ct_n, ct_h, opt_v, opt_s, ref_s, ref_n, eq_self_iff_true, true_or, or_true, zl0, zl1, zl2, zl3, zl4, zl5, zl6, zl7, zl8, zl9, zl10, zl16, zl32, zl40, zl100, zl160, zIc1, zI_lt, zI_le, nI_eq, nI_add, z_sub, nI_clamp, zI_of, uu_eq, uu_ne, Nat.reduceLT, Nat.reduceLeDiff, Nat.reduceEqDiff, Nat.reduceAdd, Nat.reduceSub, Nat.reduceMul, Nat.not_lt_zero, Nat.lt_irrefl, Nat.le_refl, Bool.false_eq_true, false_and, and_false, true_and, and_true, if_pos, if_neg, if_true, if_false, not_true_eq_false, not_false_eq_true, c1, c6, c7, s1, hA.1]
      exact this
    · simp (disch := first | assumption | exact ct_i | exact ct_r | exact ct_n | exact ct_h | omega | exact z_in (by omega) (by omega) | exact b01 | exact Or.inl rfl | exact Or.inr rfl) only [e92_0, e92_1, e92_4, e92_5, e92_6, e92_9, e92_11, e92_12, e92_13, e92_16, e92_17, e92_20, e92_21, e92_24, e92_27, e92_28, e92_56, e92_57, e92_60, e92_63, e92_64, e92_65, e92_68, e92_71, e92_72, e92_73, e92_76, e92_79, e92_80, e92_81, e92_84, e92_85, e92_88, e92_91, ct_i, ct_r, ct_n, ct_h, opt_v, opt_s, ref_s, ref_n, eq_self_iff_true, true_or, or_true, zl0, zl1, zl2, zl3, zl4, zl5, zl6, zl7, zl8, zl9, zl10, zl16, zl32, zl40, zl100, zl160, zIc1, zI_lt, zI_le, nI_eq, nI_add, z_sub, nI_clamp, zI_of, uu_eq, uu_ne, Nat.reduceLT, Nat.reduceLeDiff, Nat.reduceEqDiff, Nat.reduceAdd, Nat.reduceSub, Nat.reduceMul, Nat.not_lt_zero, Nat.lt_irrefl, Nat.le_refl, Bool.false_eq_true, false_and, and_false, true_and, and_true, if_pos, if_neg, if_true, if_false, not_true_eq_false, not_false_eq_true, c1, c6, c7, s1, k51 (show 3 ≤ d by omega) hK hA hB' (qI_par hq) h0]
      exact this
    · simp (disch := first | assumption | exact ct_i | exact ct_r | exact ct_n | exact ct_h | omega | exact z_in (by omega) (by omega) | exact b01 | exact Or.inl rfl | exact Or.inr rfl) only [e92_0, e92_1, e92_4, e92_5, e92_6, e92_9, e92_11, e92_12, e92_13, e92_16, e92_17, e92_20, e92_21, e92_24, e92_27, e92_28, e92_56, e92_57, e92_60, e92_63, e92_64, e92_65, e92_68, e92_71, e92_72, e92_73, e92_76, e92_79, e92_80, e92_81, e92_84, e92_85, e92_88, e92_91, ct_i, ct_r, ct_n, ct_h, opt_v, opt_s, ref_s, ref_n, eq_self_iff_true, true_or, or_true, zl0, zl1, zl2, zl3, zl4, zl5, zl6, zl7, zl8, zl9, zl10, zl16, zl32, zl40, zl100, zl160, zIc1, zI_lt, zI_le, nI_eq, nI_add, z_sub, nI_clamp, zI_of, uu_eq, uu_ne, Nat.reduceLT, Nat.reduceLeDiff, Nat.reduceEqDiff, Nat.reduceAdd, Nat.reduceSub, Nat.reduceMul, Nat.not_lt_zero, Nat.lt_irrefl, Nat.le_refl, Bool.false_eq_true, false_and, and_false, true_and, and_true, if_pos, if_neg, if_true, if_false, not_true_eq_false, not_false_eq_true, c1, c6, c7, s1, k54 (show 6 ≤ d by omega) hK hD2 hB hM2 hA hB']
      exact this
theorem k93 (hd : 12 ≤ d) (hk : RK T0 Z D tx tp so sz it (n, t, sh, I, L, R)) {x : Int32} (H : ∀ h', RK T0 Z D tx tp so sz it h' → Q (some (.int (shoS Z D tx x))) h') : aC d 93 [.ref 0, .int x] (n, t, sh, I, L, R) Q := by
  obtain ⟨d, rfl⟩ : ∃ e, d = e + 1 := ⟨d - 1, by omega⟩
  obtain ⟨⟨o1, ⟨o2, hB⟩, o3, o4, o5, o6, o7⟩, hn, hK, hcl, hD', hM, h4, h5, h6, h7, h8, h9⟩ := id hk
  simp only [] at hn hK hcl hD' hM h4 h5 h6 h7 h8 h9
  obtain ⟨c1, c2, c3, c4, c5, c6, c7, c8, c9, c10⟩ := cP0 hK
  have s1 := (cPs hK).1
  have s2 := (cPh hK).1
  unfold shoS at H
  cases hx : dec x (Z 0) with
  | none =>
    rw [hx] at H
    have := H _ hk
    simp (disch := first | assumption | exact ct_i | exact ct_r | exact ct_n | exact ct_h | omega | exact z_in (by omega) (by omega) | exact b01 | exact Or.inl rfl | exact Or.inr rfl) only [b93, e93_0, e93_1, e93_4, e93_5, e93_8, e93_11, e93_13, e93_14, e93_15, e93_18, e93_19, e93_22, e93_23, e93_26, e93_29, e93_30, e93_33, e93_34, e93_37, e93_38, e93_41, e93_44, ct_i, ct_r, ct_n, ct_h, opt_v, opt_s, ref_s, ref_n, eq_self_iff_true, true_or, or_true, zl0, zl1, zl2, zl3, zl4, zl5, zl6, zl7, zl8, zl9, zl10, zl16, zl32, zl40, zl100, zl160, zIc1, zI_lt, zI_le, nI_eq, nI_add, z_sub, nI_clamp, zI_of, uu_eq, uu_ne, Nat.reduceLT, Nat.reduceLeDiff, Nat.reduceEqDiff, Nat.reduceAdd, Nat.reduceSub, Nat.reduceMul, Nat.not_lt_zero, Nat.lt_irrefl, Nat.le_refl, Bool.false_eq_true, false_and, and_false, true_and, and_true, if_pos, if_neg, if_true, if_false, not_true_eq_false, not_false_eq_true, c1, c6, c7, s1, s2, k14n (show 1 ≤ d by omega) hK h5 o1.2 (dec_none hx)]
    exact this
  | some r =>
    obtain ⟨rfl, hr⟩ := dec_some (by omega) hx
    simp only [hx] at H
    simp (disch := first | assumption | exact ct_i | exact ct_r | exact ct_n | exact ct_h | omega | exact z_in (by omega) (by omega) | exact b01 | exact Or.inl rfl | exact Or.inr rfl) only [b93, e93_0, e93_1, e93_4, e93_5, e93_8, e93_11, e93_13, e93_14, e93_15, e93_18, e93_19, e93_22, e93_23, e93_26, e93_29, e93_30, e93_33, e93_34, e93_37, e93_38, e93_41, e93_44, ct_i, ct_r, ct_n, ct_h, opt_v, opt_s, ref_s, ref_n, eq_self_iff_true, true_or, or_true, zl0, zl1, zl2, zl3, zl4, zl5, zl6, zl7, zl8, zl9, zl10, zl16, zl32, zl40, zl100, zl160, zIc1, zI_lt, zI_le, nI_eq, nI_add, z_sub, nI_clamp, zI_of, uu_eq, uu_ne, Nat.reduceLT, Nat.reduceLeDiff, Nat.reduceEqDiff, Nat.reduceAdd, Nat.reduceSub, Nat.reduceMul, Nat.not_lt_zero, Nat.lt_irrefl, Nat.le_refl, Bool.false_eq_true, false_and, and_false, true_and, and_true, if_pos, if_neg, if_true, if_false, not_true_eq_false, not_false_eq_true, c1, c6, c7, s1, s2, h6.2.2.1, k14 (show 1 ≤ d by omega) hK h5 o1.2 hr]
    refine kF (by omega) hk o3.1 (fun I' L' hR hA => ?_)
    have hq := sq_I hk o3.1
    have hB' := qB_of hq
    have := H _ hR
    unfold firR at this
    cases hf : ffi (fun k => decide (rmo (qS (sq Z D tx (Z 2)) k) = r)) (sq Z D tx (Z 2)).length with
    | none =>
      rw [hf] at this
      simp (disch := first | assumption | exact ct_i | exact ct_r | exact ct_n | exact ct_h | omega | exact z_in (by omega) (by omega) | exact b01 | exact Or.inl rfl | exact Or.inr rfl) only [e93_0, e93_1, e93_4, e93_5, e93_8, e93_11, e93_13, e93_14, e93_15, e93_18, e93_19, e93_22, e93_23, e93_26, e93_29, e93_30, e93_33, e93_34, e93_37, e93_38, e93_41, e93_44, ct_i, ct_r, ct_n, ct_h, opt_v, opt_s, ref_s, ref_n, eq_self_iff_true, true_or, or_true, zl0, zl1, zl2, zl3, zl4, zl5, zl6, zl7, zl8, zl9, zl10, zl16, zl32, zl40, zl100, zl160, zIc1, zI_lt, zI_le, nI_eq, nI_add, z_sub, nI_clamp, zI_of, uu_eq, uu_ne, Nat.reduceLT, Nat.reduceLeDiff, Nat.reduceEqDiff, Nat.reduceAdd, Nat.reduceSub, Nat.reduceMul, Nat.not_lt_zero, Nat.lt_irrefl, Nat.le_refl, Bool.false_eq_true, false_and, and_false, true_and, and_true, if_pos, if_neg, if_true, if_false, not_true_eq_false, not_false_eq_true, c1, c6, c7, s1, k55 (show 2 ≤ d by omega) hK hA hB' (show r < 6 by omega), hf, oI, k52n (show 1 ≤ d by omega)]
      exact this
    | some k =>
      rw [hf] at this
      simp (disch := first | assumption | exact ct_i | exact ct_r | exact ct_n | exact ct_h | omega | exact z_in (by omega) (by omega) | exact b01 | exact Or.inl rfl | exact Or.inr rfl) only [e93_0, e93_1, e93_4, e93_5, e93_8, e93_11, e93_13, e93_14, e93_15, e93_18, e93_19, e93_22, e93_23, e93_26, e93_29, e93_30, e93_33, e93_34, e93_37, e93_38, e93_41, e93_44, ct_i, ct_r, ct_n, ct_h, opt_v, opt_s, ref_s, ref_n, eq_self_iff_true, true_or, or_true, zl0, zl1, zl2, zl3, zl4, zl5, zl6, zl7, zl8, zl9, zl10, zl16, zl32, zl40, zl100, zl160, zIc1, zI_lt, zI_le, nI_eq, nI_add, z_sub, nI_clamp, zI_of, uu_eq, uu_ne, Nat.reduceLT, Nat.reduceLeDiff, Nat.reduceEqDiff, Nat.reduceAdd, Nat.reduceSub, Nat.reduceMul, Nat.not_lt_zero, Nat.lt_irrefl, Nat.le_refl, Bool.false_eq_true, false_and, and_false, true_and, and_true, if_pos, if_neg, if_true, if_false, not_true_eq_false, not_false_eq_true, c1, c6, c7, s1, k55 (show 2 ≤ d by omega) hK hA hB' (show r < 6 by omega), hf, oI, k52 (show 2 ≤ d by omega) hK hA hB' (qI_par hq) (ffi_some hf).1]
      exact this
theorem k94 (hd : 12 ≤ d) (hk : RK T0 Z D tx tp so sz it (n, t, sh, I, L, R)) {x y : Int32} (H : ∀ h', RK T0 Z D tx tp so sz it h' → Q (some (.int (firS Z D tx x y))) h') : aC d 94 [.ref 0, .int x, .int y] (n, t, sh, I, L, R) Q := by
  obtain ⟨d, rfl⟩ : ∃ e, d = e + 1 := ⟨d - 1, by omega⟩
  obtain ⟨⟨o1, ⟨o2, hB⟩, o3, o4, o5, o6, o7⟩, hn, hK, hcl, hD', hM, h4, h5, h6, h7, h8, h9⟩ := id hk
  simp only [] at hn hK hcl hD' hM h4 h5 h6 h7 h8 h9
  obtain ⟨c1, c2, c3, c4, c5, c6, c7, c8, c9, c10⟩ := cP0 hK
  have s1 := (cPs hK).1
  have s2 := (cPh hK).1
  unfold firS at H
  cases hx : dec x (Z 0) with
  | none =>
    rw [hx] at H
    have := H _ hk
    simp (disch := first | assumption | exact ct_i | exact ct_r | exact ct_n | exact ct_h | omega | exact z_in (by omega) (by omega) | exact b01 | exact Or.inl rfl | exact Or.inr rfl) only [b94, e94_0, e94_1, e94_4, e94_5, e94_8, e94_11, e94_13, e94_14, e94_15, e94_18, e94_19, e94_22, e94_23, e94_26, e94_29, e94_30, e94_33, e94_34, e94_37, e94_38, e94_41, e94_42, e94_45, e94_46, e94_49, ct_i, ct_r, ct_n, ct_h, opt_v, opt_s, ref_s, ref_n, eq_self_iff_true, true_or, or_true, zl0, zl1, zl2, zl3, zl4, zl5, zl6, zl7, zl8, zl9, zl10, zl16, zl32, zl40, zl100, zl160, zIc1, zI_lt, zI_le, nI_eq, nI_add, z_sub, nI_clamp, zI_of, uu_eq, uu_ne, Nat.reduceLT, Nat.reduceLeDiff, Nat.reduceEqDiff, Nat.reduceAdd, Nat.reduceSub, Nat.reduceMul, Nat.not_lt_zero, Nat.lt_irrefl, Nat.le_refl, Bool.false_eq_true, false_and, and_false, true_and, and_true, if_pos, if_neg, if_true, if_false, not_true_eq_false, not_false_eq_true, c1, c6, c7, s1, s2, k14n (show 1 ≤ d by omega) hK h5 o1.2 (dec_none hx)]
    exact this
  | some r =>
    obtain ⟨rfl, hr⟩ := dec_some (by omega) hx
    simp only [hx] at H
    simp (disch := first | assumption | exact ct_i | exact ct_r | exact ct_n | exact ct_h | omega | exact z_in (by omega) (by omega) | exact b01 | exact Or.inl rfl | exact Or.inr rfl) only [b94, e94_0, e94_1, e94_4, e94_5, e94_8, e94_11, e94_13, e94_14, e94_15, e94_18, e94_19, e94_22, e94_23, e94_26, e94_29, e94_30, e94_33, e94_34, e94_37, e94_38, e94_41, e94_42, e94_45, e94_46, e94_49, ct_i, ct_r, ct_n, ct_h, opt_v, opt_s, ref_s, ref_n, eq_self_iff_true, true_or, or_true, zl0, zl1, zl2, zl3, zl4, zl5, zl6, zl7, zl8, zl9, zl10, zl16, zl32, zl40, zl100, zl160, zIc1, zI_lt, zI_le, nI_eq, nI_add, z_sub, nI_clamp, zI_of, uu_eq, uu_ne, Nat.reduceLT, Nat.reduceLeDiff, Nat.reduceEqDiff, Nat.reduceAdd, Nat.reduceSub, Nat.reduceMul, Nat.not_lt_zero, Nat.lt_irrefl, Nat.le_refl, Bool.false_eq_true, false_and, and_false, true_and, and_true, if_pos, if_neg, if_true, if_false, not_true_eq_false, not_false_eq_true, c1, c6, c7, s1, s2, h6.2.2.1, k14 (show 1 ≤ d by omega) hK h5 o1.2 hr]
    refine kF (by omega) hk o3.1 (fun I' L' hR hA => ?_)
    have hq := sq_I hk o3.1
    have hB' := qB_of hq
    obtain ⟨⟨-, -, -, -, -, -, -⟩, -, hK', -, hD2, hM2, -, -, -, -, -, -⟩ := id hR
    simp only [] at hK' hD2 hM2
    have := H _ hR
    cases hf : firR (sq Z D tx (Z 2)) r with
    | none =>
      simp only [hf] at this
      unfold firR at hf
      simp (disch := first | assumption | exact ct_i | exact ct_r | exact ct_n | exact ct_h | omega | exact z_in (by omega) (by omega) | exact b01 | exact Or.inl rfl | exact Or.inr rfl) only [e94_0, e94_1, e94_4, e94_5, e94_8, e94_11, e94_13, e94_14, e94_15, e94_18, e94_19, e94_22, e94_23, e94_26, e94_29, e94_30, e94_33, e94_34, e94_37, e94_38, e94_41, e94_42, e94_45, e94_46, e94_49, ct_i, ct_r, ct_n, ct_h, opt_v, opt_s, ref_s, ref_n, eq_self_iff_true, true_or, or_true, zl0, zl1, zl2, zl3, zl4, zl5, zl6, zl7, zl8, zl9, zl10, zl16, zl32, zl40, zl100, zl160, zIc1, zI_lt, zI_le, nI_eq, nI_add, z_sub, nI_clamp, zI_of, uu_eq, uu_ne, Nat.reduceLT, Nat.reduceLeDiff, Nat.reduceEqDiff, Nat.reduceAdd, Nat.reduceSub, Nat.reduceMul, Nat.not_lt_zero, Nat.lt_irrefl, Nat.le_refl, Bool.false_eq_true, false_and, and_false, true_and, and_true, if_pos, if_neg, if_true, if_false, not_true_eq_false, not_false_eq_true, c1, c6, c7, s1, k55 (show 2 ≤ d by omega) hK hA hB' (show r < 6 by omega), hf, oI, k56m (show 2 ≤ d by omega) hK]
      exact this
    | some k =>
      simp only [hf] at this
      unfold firR at hf
      have hkl := (ffi_some hf).1
      have hdl := dep_le (qI_par hq) k hkl
      have hql := hB'.1
      cases hy : dec y (dep (sq Z D tx (Z 2)) k) with
      | none =>
        simp only [hy] at this
        simp (disch := first | assumption | exact ct_i | exact ct_r | exact ct_n | exact ct_h | omega | exact z_in (by omega) (by omega) | exact b01 | exact Or.inl rfl | exact Or.inr rfl) only [e94_0, e94_1, e94_4, e94_5, e94_8, e94_11, e94_13, e94_14, e94_15, e94_18, e94_19, e94_22, e94_23, e94_26, e94_29, e94_30, e94_33, e94_34, e94_37, e94_38, e94_41, e94_42, e94_45, e94_46, e94_49, ct_i, ct_r, ct_n, ct_h, opt_v, opt_s, ref_s, ref_n, eq_self_iff_true, true_or, or_true, zl0, zl1, zl2, zl3, zl4, zl5, zl6, zl7, zl8, zl9, zl10, zl16, zl32, zl40, zl100, zl160, zIc1, zI_lt, zI_le, nI_eq, nI_add, z_sub, nI_clamp, zI_of, uu_eq, uu_ne, Nat.reduceLT, Nat.reduceLeDiff, Nat.reduceEqDiff, Nat.reduceAdd, Nat.reduceSub, Nat.reduceMul, Nat.not_lt_zero, Nat.lt_irrefl, Nat.le_refl, Bool.false_eq_true, false_and, and_false, true_and, and_true, if_pos, if_neg, if_true, if_false, not_true_eq_false, not_false_eq_true, c1, c6, c7, s1, k55 (show 2 ≤ d by omega) hK hA hB' (show r < 6 by omega), hf, oI, k56n (show 3 ≤ d by omega) hK hA hB' (qI_par hq) hkl (dec_none hy)]
        exact this
      | some i =>
        obtain ⟨rfl, hi⟩ := dec_some (by omega) hy
        simp only [hy] at this
        simp (disch := first | assumption | exact ct_i | exact ct_r | exact ct_n | exact ct_h | omega | exact z_in (by omega) (by omega) | exact b01 | exact Or.inl rfl | exact Or.inr rfl) only [e94_0, e94_1, e94_4, e94_5, e94_8, e94_11, e94_13, e94_14, e94_15, e94_18, e94_19, e94_22, e94_23, e94_26, e94_29, e94_30, e94_33, e94_34, e94_37, e94_38, e94_41, e94_42, e94_45, e94_46, e94_49, ct_i, ct_r, ct_n, ct_h, opt_v, opt_s, ref_s, ref_n, eq_self_iff_true, true_or, or_true, zl0, zl1, zl2, zl3, zl4, zl5, zl6, zl7, zl8, zl9, zl10, zl16, zl32, zl40, zl100, zl160, zIc1, zI_lt, zI_le, nI_eq, nI_add, z_sub, nI_clamp, zI_of, uu_eq, uu_ne, Nat.reduceLT, Nat.reduceLeDiff, Nat.reduceEqDiff, Nat.reduceAdd, Nat.reduceSub, Nat.reduceMul, Nat.not_lt_zero, Nat.lt_irrefl, Nat.le_refl, Bool.false_eq_true, false_and, and_false, true_and, and_true, if_pos, if_neg, if_true, if_false, not_true_eq_false, not_false_eq_true, c1, c6, c7, s1, k55 (show 2 ≤ d by omega) hK hA hB' (show r < 6 by omega), hf, oI]
        exact (k56 (show 5 ≤ d by omega) hK hD2 hB hM2 hA hB' (qI_par hq) hkl hi).mpr (by simp (disch := first | assumption | exact ct_i | exact ct_r | exact ct_n | exact ct_h | omega | exact z_in (by omega) (by omega) | exact b01 | exact Or.inl rfl | exact Or.inr rfl) only [e94_0, e94_1, e94_4, e94_5, e94_8, e94_11, e94_13, e94_14, e94_15, e94_18, e94_19, e94_22, e94_23, e94_26, e94_29, e94_30, e94_33, e94_34, e94_37, e94_38, e94_41, e94_42, e94_45, e94_46, e94_49, ct_i, ct_r, ct_n, ct_h, opt_v, opt_s, ref_s, ref_n, eq_self_iff_true, true_or, or_true]; exact this)
theorem k95 (hd : 12 ≤ d) (hk : RK T0 Z D tx tp so sz it (n, t, sh, I, L, R)) {x : Int32} (H : ∀ h', RK T0 Z D tx tp so sz it h' → Q (some (.int (shuS Z D tx x))) h') : aC d 95 [.ref 0, .int x] (n, t, sh, I, L, R) Q := by
  obtain ⟨d, rfl⟩ : ∃ e, d = e + 1 := ⟨d - 1, by omega⟩
  obtain ⟨⟨o1, ⟨o2, hB⟩, o3, o4, o5, o6, o7⟩, hn, hK, hcl, hD', hM, h4, h5, h6, h7, h8, h9⟩ := id hk
  simp only [] at hn hK hcl hD' hM h4 h5 h6 h7 h8 h9
  obtain ⟨c1, c2, c3, c4, c5, c6, c7, c8, c9, c10⟩ := cP0 hK
  have s1 := (cPs hK).1
  have s2 := (cPh hK).1
  unfold shuS at H
  cases hx : dec x (Z 0) with
  | none =>
    rw [hx] at H
    have := H _ hk
    simp (disch := first | assumption | exact ct_i | exact ct_r | exact ct_n | exact ct_h | omega | exact z_in (by omega) (by omega) | exact b01 | exact Or.inl rfl | exact Or.inr rfl) only [b95, e95_0, e95_1, e95_4, e95_5, e95_8, e95_11, e95_13, e95_14, e95_15, e95_18, e95_19, e95_22, e95_23, e95_26, e95_29, e95_30, e95_33, e95_34, e95_37, e95_38, e95_41, ct_i, ct_r, ct_n, ct_h, opt_v, opt_s, ref_s, ref_n, eq_self_iff_true, true_or, or_true, zl0, zl1, zl2, zl3, zl4, zl5, zl6, zl7, zl8, zl9, zl10, zl16, zl32, zl40, zl100, zl160, zIc1, zI_lt, zI_le, nI_eq, nI_add, z_sub, nI_clamp, zI_of, uu_eq, uu_ne, Nat.reduceLT, Nat.reduceLeDiff, Nat.reduceEqDiff, Nat.reduceAdd, Nat.reduceSub, Nat.reduceMul, Nat.not_lt_zero, Nat.lt_irrefl, Nat.le_refl, Bool.false_eq_true, false_and, and_false, true_and, and_true, if_pos, if_neg, if_true, if_false, not_true_eq_false, not_false_eq_true, c1, c6, c7, s1, s2, k14n (show 1 ≤ d by omega) hK h5 o1.2 (dec_none hx)]
    exact this
  | some r =>
    obtain ⟨rfl, hr⟩ := dec_some (by omega) hx
    simp only [hx] at H
    simp (disch := first | assumption | exact ct_i | exact ct_r | exact ct_n | exact ct_h | omega | exact z_in (by omega) (by omega) | exact b01 | exact Or.inl rfl | exact Or.inr rfl) only [b95, e95_0, e95_1, e95_4, e95_5, e95_8, e95_11, e95_13, e95_14, e95_15, e95_18, e95_19, e95_22, e95_23, e95_26, e95_29, e95_30, e95_33, e95_34, e95_37, e95_38, e95_41, ct_i, ct_r, ct_n, ct_h, opt_v, opt_s, ref_s, ref_n, eq_self_iff_true, true_or, or_true, zl0, zl1, zl2, zl3, zl4, zl5, zl6, zl7, zl8, zl9, zl10, zl16, zl32, zl40, zl100, zl160, zIc1, zI_lt, zI_le, nI_eq, nI_add, z_sub, nI_clamp, zI_of, uu_eq, uu_ne, Nat.reduceLT, Nat.reduceLeDiff, Nat.reduceEqDiff, Nat.reduceAdd, Nat.reduceSub, Nat.reduceMul, Nat.not_lt_zero, Nat.lt_irrefl, Nat.le_refl, Bool.false_eq_true, false_and, and_false, true_and, and_true, if_pos, if_neg, if_true, if_false, not_true_eq_false, not_false_eq_true, c1, c6, c7, s1, s2, h6.2.2.1, k14 (show 1 ≤ d by omega) hK h5 o1.2 hr]
    refine kF (by omega) hk o3.1 (fun I' L' hR hA => ?_)
    have hq := sq_I hk o3.1
    obtain ⟨⟨-, -, -, -, -, -, -⟩, -, hK', -, hD2, hM2, -, -, -, -, -, -⟩ := id hR
    simp only [] at hK' hD2 hM2
    simp (disch := first | assumption | exact ct_i | exact ct_r | exact ct_n | exact ct_h | omega | exact z_in (by omega) (by omega) | exact b01 | exact Or.inl rfl | exact Or.inr rfl) only [e95_0, e95_1, e95_4, e95_5, e95_8, e95_11, e95_13, e95_14, e95_15, e95_18, e95_19, e95_22, e95_23, e95_26, e95_29, e95_30, e95_33, e95_34, e95_37, e95_38, e95_41, ct_i, ct_r, ct_n, ct_h, opt_v, opt_s, ref_s, ref_n, eq_self_iff_true, true_or, or_true, zl0, zl1, zl2, zl3, zl4, zl5, zl6, zl7, zl8, zl9, zl10, zl16, zl32, zl40, zl100, zl160, zIc1, zI_lt, zI_le, nI_eq, nI_add, z_sub, nI_clamp, zI_of, uu_eq, uu_ne, Nat.reduceLT, Nat.reduceLeDiff, Nat.reduceEqDiff, Nat.reduceAdd, Nat.reduceSub, Nat.reduceMul, Nat.not_lt_zero, Nat.lt_irrefl, Nat.le_refl, Bool.false_eq_true, false_and, and_false, true_and, and_true, if_pos, if_neg, if_true, if_false, not_true_eq_false, not_false_eq_true, c1, c6, c7, s1]
    refine k57 (by omega) hK hD2 hB hM2 hq hA (show r < 6 by omega) (fun L'' hL'' => ?_)
    simp (disch := first | assumption | exact ct_i | exact ct_r | exact ct_n | exact ct_h | omega | exact z_in (by omega) (by omega) | exact b01 | exact Or.inl rfl | exact Or.inr rfl) only [e95_0, e95_1, e95_4, e95_5, e95_8, e95_11, e95_13, e95_14, e95_15, e95_18, e95_19, e95_22, e95_23, e95_26, e95_29, e95_30, e95_33, e95_34, e95_37, e95_38, e95_41, ct_i, ct_r, ct_n, ct_h, opt_v, opt_s, ref_s, ref_n, eq_self_iff_true, true_or, or_true]
    exact H _ ⟨hk.1, RC_fr hk.1 (I' := I') (fun _ _ _ _ => rfl) hL'' hR.2⟩
theorem k96 (hd : 12 ≤ d) (hk : RK T0 Z D tx tp so sz it (n, t, sh, I, L, R)) (H : ∀ h', RK T0 Z D tx tp so sz it h' → Q (some (.int (wisS Z D tx))) h') : aC d 96 [.ref 0] (n, t, sh, I, L, R) Q := by
  obtain ⟨d, rfl⟩ : ∃ e, d = e + 1 := ⟨d - 1, by omega⟩
  obtain ⟨⟨o1, ⟨o2, hB⟩, o3, o4, o5, o6, o7⟩, hn, hK, hcl, hD', hM, h4, h5, h6, h7, h8, h9⟩ := id hk
  simp only [] at hn hK hcl hD' hM h4 h5 h6 h7 h8 h9
  obtain ⟨c1, c2, c3, c4, c5, c6, c7, c8, c9, c10⟩ := cP0 hK
  have s1 := (cPs hK).1
  simp (disch := first | assumption | exact ct_i | exact ct_r | exact ct_n | exact ct_h | omega | exact z_in (by omega) (by omega) | exact b01 | exact Or.inl rfl | exact Or.inr rfl) only [b96, e96_0, e96_1, e96_4, e96_5, e96_8, e96_9, e96_12, e96_15, e96_16, e96_19, e96_20, e96_23, e96_24, e96_27, e96_30, e96_33, ct_i, ct_r, ct_n, ct_h, opt_v, opt_s, ref_s, ref_n, eq_self_iff_true, true_or, or_true, zl0, zl1, zl2, zl3, zl4, zl5, zl6, zl7, zl8, zl9, zl10, zl16, zl32, zl40, zl100, zl160, zIc1, zI_lt, zI_le, nI_eq, nI_add, z_sub, nI_clamp, zI_of, uu_eq, uu_ne, Nat.reduceLT, Nat.reduceLeDiff, Nat.reduceEqDiff, Nat.reduceAdd, Nat.reduceSub, Nat.reduceMul, Nat.not_lt_zero, Nat.lt_irrefl, Nat.le_refl, Bool.false_eq_true, false_and, and_false, true_and, and_true, if_pos, if_neg, if_true, if_false, not_true_eq_false, not_false_eq_true, c1, c6, c7, s1, h6.2.2.1]
  refine kF (by omega) hk o3.1 (fun I' L' hR hA => ?_)
  have hq := sq_I hk o3.1
  have hB' := qB_of hq
  simp (disch := first | assumption | exact ct_i | exact ct_r | exact ct_n | exact ct_h | omega | exact z_in (by omega) (by omega) | exact b01 | exact Or.inl rfl | exact Or.inr rfl) only [e96_0, e96_1, e96_4, e96_5, e96_8, e96_9, e96_12, e96_15, e96_16, e96_19, e96_20, e96_23, e96_24, e96_27, e96_30, e96_33, ct_i, ct_r, ct_n, ct_h, opt_v, opt_s, ref_s, ref_n, eq_self_iff_true, true_or, or_true, zl0, zl1, zl2, zl3, zl4, zl5, zl6, zl7, zl8, zl9, zl10, zl16, zl32, zl40, zl100, zl160, zIc1, zI_lt, zI_le, nI_eq, nI_add, z_sub, nI_clamp, zI_of, uu_eq, uu_ne, Nat.reduceLT, Nat.reduceLeDiff, Nat.reduceEqDiff, Nat.reduceAdd, Nat.reduceSub, Nat.reduceMul, Nat.not_lt_zero, Nat.lt_irrefl, Nat.le_refl, Bool.false_eq_true, false_and, and_false, true_and, and_true, if_pos, if_neg, if_true, if_false, not_true_eq_false, not_false_eq_true, c1, c6, c7, s1]
  refine k59 (by omega) hK hA hB' (RC_rT hR.1 hR.2) (fun I'' hI'' => ?_)
  have := H _ ⟨hk.1, RC_fr hk.1 (frA_3 hI'') (fun _ _ _ => rfl) hR.2⟩
  unfold wisS at this
  cases hf : ffi (fun k => wl (tx (Z 4)) (qS (sq Z D tx (Z 2)) k)) (sq Z D tx (Z 2)).length with
  | none =>
    rw [hf] at this
    simp (disch := first | assumption | exact ct_i | exact ct_r | exact ct_n | exact ct_h | omega | exact z_in (by omega) (by omega) | exact b01 | exact Or.inl rfl | exact Or.inr rfl) only [e96_0, e96_1, e96_4, e96_5, e96_8, e96_9, e96_12, e96_15, e96_16, e96_19, e96_20, e96_23, e96_24, e96_27, e96_30, e96_33, ct_i, ct_r, ct_n, ct_h, opt_v, opt_s, ref_s, ref_n, eq_self_iff_true, true_or, or_true, zl0, zl1, zl2, zl3, zl4, zl5, zl6, zl7, zl8, zl9, zl10, zl16, zl32, zl40, zl100, zl160, zIc1, zI_lt, zI_le, nI_eq, nI_add, z_sub, nI_clamp, zI_of, uu_eq, uu_ne, Nat.reduceLT, Nat.reduceLeDiff, Nat.reduceEqDiff, Nat.reduceAdd, Nat.reduceSub, Nat.reduceMul, Nat.not_lt_zero, Nat.lt_irrefl, Nat.le_refl, Bool.false_eq_true, false_and, and_false, true_and, and_true, if_pos, if_neg, if_true, if_false, not_true_eq_false, not_false_eq_true, s1, oI, k52n (show 1 ≤ d by omega)]
    exact this
  | some k =>
    rw [hf] at this
    simp (disch := first | assumption | exact ct_i | exact ct_r | exact ct_n | exact ct_h | omega | exact z_in (by omega) (by omega) | exact b01 | exact Or.inl rfl | exact Or.inr rfl) only [e96_0, e96_1, e96_4, e96_5, e96_8, e96_9, e96_12, e96_15, e96_16, e96_19, e96_20, e96_23, e96_24, e96_27, e96_30, e96_33, ct_i, ct_r, ct_n, ct_h, opt_v, opt_s, ref_s, ref_n, eq_self_iff_true, true_or, or_true, zl0, zl1, zl2, zl3, zl4, zl5, zl6, zl7, zl8, zl9, zl10, zl16, zl32, zl40, zl100, zl160, zIc1, zI_lt, zI_le, nI_eq, nI_add, z_sub, nI_clamp, zI_of, uu_eq, uu_ne, Nat.reduceLT, Nat.reduceLeDiff, Nat.reduceEqDiff, Nat.reduceAdd, Nat.reduceSub, Nat.reduceMul, Nat.not_lt_zero, Nat.lt_irrefl, Nat.le_refl, Bool.false_eq_true, false_and, and_false, true_and, and_true, if_pos, if_neg, if_true, if_false, not_true_eq_false, not_false_eq_true, s1, oI, k52 (show 2 ≤ d by omega) hK (qA_fr hI'' hA) hB' (qI_par hq) (ffi_some hf).1]
    exact this
theorem k97 (hd : 12 ≤ d) (hk : RK T0 Z D tx tp so sz it (n, t, sh, I, L, R)) (H : ∀ h', RK T0 Z D tx tp so sz it h' → Q (some (.int (fouS Z D tx))) h') : aC d 97 [.ref 0] (n, t, sh, I, L, R) Q := by
  obtain ⟨d, rfl⟩ : ∃ e, d = e + 1 := ⟨d - 1, by omega⟩
  obtain ⟨⟨o1, ⟨o2, hB⟩, o3, o4, o5, o6, o7⟩, hn, hK, hcl, hD', hM, h4, h5, h6, h7, h8, h9⟩ := id hk
  simp only [] at hn hK hcl hD' hM h4 h5 h6 h7 h8 h9
  obtain ⟨c1, c2, c3, c4, c5, c6, c7, c8, c9, c10⟩ := cP0 hK
  have s1 := (cPs hK).1
  simp (disch := first | assumption | exact ct_i | exact ct_r | exact ct_n | exact ct_h | omega | exact z_in (by omega) (by omega) | exact b01 | exact Or.inl rfl | exact Or.inr rfl) only [b97, e97_0, e97_1, e97_4, e97_5, e97_8, e97_9, e97_12, e97_15, e97_16, e97_19, e97_20, e97_23, e97_24, e97_27, e97_30, ct_i, ct_r, ct_n, ct_h, opt_v, opt_s, ref_s, ref_n, eq_self_iff_true, true_or, or_true, zl0, zl1, zl2, zl3, zl4, zl5, zl6, zl7, zl8, zl9, zl10, zl16, zl32, zl40, zl100, zl160, zIc1, zI_lt, zI_le, nI_eq, nI_add, z_sub, nI_clamp, zI_of, uu_eq, uu_ne, Nat.reduceLT, Nat.reduceLeDiff, Nat.reduceEqDiff, Nat.reduceAdd, Nat.reduceSub, Nat.reduceMul, Nat.not_lt_zero, Nat.lt_irrefl, Nat.le_refl, Bool.false_eq_true, false_and, and_false, true_and, and_true, if_pos, if_neg, if_true, if_false, not_true_eq_false, not_false_eq_true, c1, c6, c7, s1, h6.2.2.1]
  refine kF (by omega) hk o3.1 (fun I' L' hR hA => ?_)
  have hq := sq_I hk o3.1
  have hB' := qB_of hq
  obtain ⟨⟨-, -, -, -, -, -, -⟩, -, hK', -, hD2, hM2, -, -, h62, -, -, -⟩ := id hR
  simp only [] at hK' hD2 hM2 h62
  simp (disch := first | assumption | exact ct_i | exact ct_r | exact ct_n | exact ct_h | omega | exact z_in (by omega) (by omega) | exact b01 | exact Or.inl rfl | exact Or.inr rfl) only [e97_0, e97_1, e97_4, e97_5, e97_8, e97_9, e97_12, e97_15, e97_16, e97_19, e97_20, e97_23, e97_24, e97_27, e97_30, ct_i, ct_r, ct_n, ct_h, opt_v, opt_s, ref_s, ref_n, eq_self_iff_true, true_or, or_true, zl0, zl1, zl2, zl3, zl4, zl5, zl6, zl7, zl8, zl9, zl10, zl16, zl32, zl40, zl100, zl160, zIc1, zI_lt, zI_le, nI_eq, nI_add, z_sub, nI_clamp, zI_of, uu_eq, uu_ne, Nat.reduceLT, Nat.reduceLeDiff, Nat.reduceEqDiff, Nat.reduceAdd, Nat.reduceSub, Nat.reduceMul, Nat.not_lt_zero, Nat.lt_irrefl, Nat.le_refl, Bool.false_eq_true, false_and, and_false, true_and, and_true, if_pos, if_neg, if_true, if_false, not_true_eq_false, not_false_eq_true, c1, c6, c7, s1, h62.2.2.1, k60 (show 5 ≤ d by omega) hK hD2 hB hM2 hA hB' (qI_par hq) o3.1]
  exact H _ hR
end
