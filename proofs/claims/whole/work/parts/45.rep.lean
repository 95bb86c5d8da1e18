/-! the class's heap as a whole, behind its constructor -/
theorem u1_eq {α : Type} (f : Nat → α) (o : Nat) (v : α) : u1 f o v o = v := by simp [u1]
theorem u1_ne {α : Type} (f : Nat → α) (o : Nat) (v : α) {x : Nat} (h : ¬ x = o) : u1 f o v x = f x := by simp [u1, h]
/-- numbers: 0 rooms, 1 doors, 2 the situation, 3 texts, 4 the rule, 5 bytes on the tape, 6 whether an image is kept, 7 its situation, 8 its doors, 9 its rule -/
def okS (Z : Nat → Nat) (D : Nat → Nat → Nat) (tx : Nat → Nat → List Nat) (tp so sz : Nat → Nat) : Prop :=
  (1 ≤ Z 0 ∧ Z 0 ≤ 6) ∧ (Z 1 ≤ 4 ∧ dB (Z 1) D) ∧ (Z 2 < 6144 ∧ ∀ i, Z 1 ≤ i → i < 4 → stt (Z 2) i = 0) ∧ (Z 3 ≤ 6 ∧ Z 4 < Z 3 ∧ ∀ i, i < Z 3 → txB (tx i)) ∧ (Z 5 ≤ 160 ∧ ∀ k, k < Z 5 → tp k < 256) ∧
  (Z 6 = 0 ∨ Z 6 = 1 ∧ Z 7 < 6144 ∧ Z 8 ≤ Z 1 ∧ Z 9 < Z 3 ∧ ∀ i, Z 8 ≤ i → i < 4 → stt (Z 7) i = 0) ∧ ∀ j, j < 4 → so j < 4 ∧ sz j ≤ 40 ∧ (so j = 0 → sz j = 0)
def RC (T0 : Nat) (Z : Nat → Nat) (D : Nat → Nat → Nat) (tx : Nat → Nat → List Nat) (tp so sz : Nat → Nat) (it : Nat → Nat → Int32) (h : aH) : Prop :=
  (h.1 = 47 + Z 1 ∧ h.2.1 = T0 + 7 * Z 1 ∧ ∀ x, 1000000 ≤ x → h.2.2.1 x = (999, 0)) ∧ cK (Z 1) h.2.2.1 h.2.2.2.2.2 ∧ (∀ a k b, h.2.2.2.2.2 a k = some b → b < 47 + Z 1) ∧ hD (Z 1) D h.2.2.2.1 ∧ mC (Z 1) D (tx (Z 4)) h.2.2.2.2.1 ∧ h.2.2.2.2.2 1 4 = some (23 + 4 * Z 4) ∧ h.2.2.2.1 1 0 = nI (Z 0) ∧
  (h.2.2.2.1 0 5 = nI (Z 3) ∧ h.2.2.2.1 0 6 = nI (Z 4) ∧ h.2.2.2.1 0 7 = nI (Z 2) ∧ h.2.2.2.1 0 8 = nI (Z 6) ∧ h.2.2.2.1 0 9 = nI (Z 7) ∧ h.2.2.2.1 0 10 = nI (Z 8) ∧ h.2.2.2.1 0 11 = nI (Z 9)) ∧
  (∀ i, i < Z 3 → txC (tx i) (24 + 4 * i) (25 + 4 * i) h.2.2.2.1) ∧ (h.2.2.2.1 11 0 = nI (Z 5) ∧ ∀ k, k < Z 5 → h.2.2.2.1 12 k = nI (tp k)) ∧
  ∀ j, j < 4 → h.2.2.2.1 (15 + 2 * j) 0 = dI (so j) ∧ h.2.2.2.1 (15 + 2 * j) 1 = nI (sz j) ∧ ∀ k, k < 40 → h.2.2.2.1 (16 + 2 * j) k = it j k
/-- a number below n, or none -/
def dec (x : Int32) (n : Nat) : Option Nat := if x < nI 0 ∨ nI n ≤ x then none else some x.toNatClampNeg
theorem dec_some {x : Int32} {n i : Nat} (hn : n < 2 ^ 31) (h : dec x n = some i) : x = nI i ∧ i < n := by
  unfold dec at h
  split at h
  · cases h
  · rename_i h1
    rcases z_dec x hn with ⟨j, hj, rfl⟩ | h2
    · injection h with h
      rw [nI_clamp (by omega)] at h
      subst h
      exact ⟨rfl, hj⟩
    · exact absurd h2 h1
theorem dec_none {x : Int32} {n : Nat} (h : dec x n = none) : x < nI 0 ∨ nI n ≤ x := by
  unfold dec at h
  split at h
  · assumption
  · cases h
theorem dec_nI {i n : Nat} (h : i < n) (hn : n < 2 ^ 31) : dec (nI i) n = some i := by
  unfold dec
  rw [if_neg, nI_clamp (by omega)]
  rw [zI_lt (by omega) (by omega), zI_le (by omega) (by omega)]
  omega
theorem dec_no {x : Int32} {n : Nat} (h : x < nI 0 ∨ nI n ≤ x) : dec x n = none := if_pos h
section
variable {nd : Nat} {sh : Nat → Nat × Nat} {R : Nat → Nat → Option Nat}
theorem cP0 (h : cK nd sh R) : (sh 0).1 = 6 ∧ (sh 14).1 = 114 ∧ (sh 14).2 = 4 ∧ (sh 13).1 = 115 ∧ (sh 13).2 = 6 ∧ R 0 0 = some 1 ∧ R 0 1 = some 8 ∧ R 0 2 = some 11 ∧ R 0 3 = some 13 ∧ R 0 4 = some 14 := by
  rw [c_s0 h, c_s14 h, c_s13 h]
  exact ⟨rfl, rfl, rfl, rfl, rfl, c_r0_0 h, c_r0_1 h, c_r0_2 h, c_r0_3 h, c_r0_4 h⟩
theorem cP14 (h : cK nd sh R) {j : Nat} (hj : j < 4) : R 14 j = some (15 + 2 * j) := by
  rcases (show j = 0 ∨ j = 1 ∨ j = 2 ∨ j = 3 by omega) with rfl | rfl | rfl | rfl
  · exact c_r14_0 h
  · exact c_r14_1 h
  · exact c_r14_2 h
  · exact c_r14_3 h
theorem cP13 (h : cK nd sh R) {j : Nat} (hj : j < 6) : R 13 j = some (23 + 4 * j) := by
  rcases (show j = 0 ∨ j = 1 ∨ j = 2 ∨ j = 3 ∨ j = 4 ∨ j = 5 by omega) with rfl | rfl | rfl | rfl | rfl | rfl
  · exact c_r13_0 h
  · exact c_r13_1 h
  · exact c_r13_2 h
  · exact c_r13_3 h
  · exact c_r13_4 h
  · exact c_r13_5 h
end
section
variable {T0 : Nat} {Z : Nat → Nat} {D : Nat → Nat → Nat} {tx : Nat → Nat → List Nat} {tp so sz : Nat → Nat} {it : Nat → Nat → Int32} {d : Nat} {n t : Nat} {sh : Nat → Nat × Nat} {I : Nat → Nat → Int32} {L : Nat → Nat → Int64} {R : Nat → Nat → Option Nat} {I' : Nat → Nat → Int32} {L' : Nat → Nat → Int64} {Q : Option Value → aH → Prop}
theorem txC_fr {f : Nat → List Nat} {i : Nat} (hi : i < 6) (h : ∀ x k, x = 24 + 4 * i ∨ x = 25 + 4 * i → I' x k = I x k) (hC : txC f (24 + 4 * i) (25 + 4 * i) I) : txC f (24 + 4 * i) (25 + 4 * i) I' :=
  ⟨fun p hp => (h _ _ (Or.inr rfl)).trans (hC.1 p hp), fun p hp j hj => (h _ _ (Or.inl rfl)).trans (hC.2 p hp j hj)⟩
/-- the frame of working on rules and of searching -/
def frA (nd : Nat) (I I' : Nat → Nat → Int32) : Prop := ∀ x k, ¬ (scr x k ∨ x = 8 ∧ k = 0 ∨ x = 9) → x < 47 + nd → I' x k = I x k
theorem frA_3 {nd : Nat} (h : fr3 I I') : frA nd I I' := fun x k hx _ => h x k (fun h2 => hx (Or.inl h2))
theorem frA_S {nd : Nat} (h : frS I I') : frA nd I I' := fun x k hx _ => h x k (fun h2 => hx (Or.inr h2))
theorem RC_fr (hk : okS Z D tx tp so sz) (hI : frA (Z 1) I I') (hL : frSL L L') (h : RC T0 Z D tx tp so sz it (n, t, sh, I, L, R)) : RC T0 Z D tx tp so sz it (n, t, sh, I', L', R) := by
  obtain ⟨h0, h1, hcl, h2, h3, h4, h5, h6, h7, h8, h9⟩ := h
  have hn := hk.2.1.1
  have h3x := hk.2.2.2.1
  have e : ∀ x k, ¬ (scr x k ∨ x = 8 ∧ k = 0 ∨ x = 9) → x < 47 + Z 1 → I' x k = I x k := hI
  simp only [] at h2 h5 h6 h7 h8 h9
  refine ⟨h0, h1, hcl, ⟨?_, fun i hi k hk => ?_⟩, mC_frS hL h3, h4, ?_, ?_, fun i hi => ?_, ⟨?_, fun k hk => ?_⟩, fun j hj => ⟨?_, ?_, fun k hk => ?_⟩⟩
  · simp only []; rw [e _ _ (by unfold scr; omega) (by omega)]; exact h2.1
  · simp only []; rw [e _ _ (by unfold scr; omega) (by omega)]; exact h2.2 i hi k hk
  · simp only []; rw [e _ _ (by unfold scr; omega) (by omega)]; exact h5
  · simp only []
    rw [e 0 5 (by unfold scr; omega) (by omega), e 0 6 (by unfold scr; omega) (by omega), e 0 7 (by unfold scr; omega) (by omega), e 0 8 (by unfold scr; omega) (by omega), e 0 9 (by unfold scr; omega) (by omega), e 0 10 (by unfold scr; omega) (by omega), e 0 11 (by unfold scr; omega) (by omega)]
    exact h6
  · exact txC_fr (by omega) (fun x k hx => e x k (by unfold scr; omega) (by omega)) (h7 i hi)
  · simp only []; rw [e _ _ (by unfold scr; omega) (by omega)]; exact h8.1
  · simp only []; rw [e _ _ (by unfold scr; omega) (by omega)]; exact h8.2 k hk
  · simp only []; rw [e _ _ (by unfold scr; omega) (by omega)]; exact (h9 j hj).1
  · simp only []; rw [e _ _ (by unfold scr; omega) (by omega)]; exact (h9 j hj).2.1
  · simp only []; rw [e _ _ (by unfold scr; omega) (by omega)]; exact (h9 j hj).2.2 k hk
theorem RC_rT (hk : okS Z D tx tp so sz) (h : RC T0 Z D tx tp so sz it (n, t, sh, I, L, R)) : rT (Z 4) (tx (Z 4)) I R := by
  obtain ⟨h0, h1, hcl, h2, h3, h4, h5, h6, h7, h8, h9⟩ := h
  have h3x := hk.2.2.2.1
  exact ⟨h4, by omega, h7 _ (by omega), h3x.2.2 _ (by omega)⟩
theorem k99 (hd : 1 ≤ d) {nd : Nat} (hK : cK nd sh R) {j : Nat} (hj : j < 4) : aC d 99 [.ref 0, .int (nI j)] (n, t, sh, I, L, R) Q ↔ Q (some (.ref (15 + 2 * j))) (n, t, sh, I, L, R) := by
  obtain ⟨d, rfl⟩ : ∃ e, d = e + 1 := ⟨d - 1, by omega⟩
  obtain ⟨c1, c2, c3, c4, c5, c6, c7, c8, c9, c10⟩ := cP0 hK
  have e := cP14 hK hj
  simp (disch := first | assumption | exact ct_i | exact ct_r | exact ct_n | exact ct_h | omega | exact z_in (by omega) (by omega) | exact b01 | exact Or.inl rfl | exact Or.inr rfl) only [b99, e99_0, e99_1, e99_4, e99_5, e99_6, e99_9, e99_10, e99_13, e99_14, e99_15, e99_18, e99_19, e99_19n, ct_i, ct_r, ct_n, ct_h, opt_v, opt_s, ref_s, ref_n, eq_self_iff_true, true_or, or_true, zl0, zl1, zl2, zl3, zl4, zl5, zl6, zl7, zl8, zl9, zl10, zl16, zl32, zl40, zl100, zl160, zIc1, zI_lt, zI_le, nI_eq, nI_add, z_sub, nI_clamp, zI_of, uu_eq, uu_ne, Nat.reduceLT, Nat.reduceLeDiff, Nat.reduceEqDiff, Nat.reduceAdd, Nat.reduceSub, Nat.reduceMul, Nat.not_lt_zero, Nat.lt_irrefl, Nat.le_refl, Bool.false_eq_true, false_and, and_false, true_and, and_true, if_pos, if_neg, if_true, if_false, not_true_eq_false, not_false_eq_true, c1, c2, c3, c10, e]
theorem k99n (hd : 1 ≤ d) {x : Int32} (hx : x < nI 0 ∨ nI 4 ≤ x) : aC d 99 [.ref 0, .int x] (n, t, sh, I, L, R) Q ↔ Q (some .null) (n, t, sh, I, L, R) := by
  obtain ⟨d, rfl⟩ : ∃ e, d = e + 1 := ⟨d - 1, by omega⟩
  rcases hx with hx | hx
  · simp (disch := first | assumption | exact ct_i | exact ct_r | exact ct_n | exact ct_h | omega | exact z_in (by omega) (by omega) | exact b01 | exact Or.inl rfl | exact Or.inr rfl) only [b99, e99_0, e99_1, e99_4, e99_5, e99_6, e99_9, e99_10, e99_13, e99_14, e99_15, e99_18, e99_19, e99_19n, ct_i, ct_r, ct_n, ct_h, opt_v, opt_s, ref_s, ref_n, eq_self_iff_true, true_or, or_true, zl0, zl1, zl2, zl3, zl4, zl5, zl6, zl7, zl8, zl9, zl10, zl16, zl32, zl40, zl100, zl160, zIc1, zI_lt, zI_le, nI_eq, nI_add, z_sub, nI_clamp, zI_of, uu_eq, uu_ne, Nat.reduceLT, Nat.reduceLeDiff, Nat.reduceEqDiff, Nat.reduceAdd, Nat.reduceSub, Nat.reduceMul, Nat.not_lt_zero, Nat.lt_irrefl, Nat.le_refl, Bool.false_eq_true, false_and, and_false, true_and, and_true, if_pos, if_neg, if_true, if_false, not_true_eq_false, not_false_eq_true, hx]
  · have e : ∀ {α β : Prop}, (if nI 4 ≤ x then α else β) ↔ α := fun {α β} => by rw [if_pos hx]
    simp only [b99, e99_0, e99_1, e99_4, e99_5, e99_6, e99_9, e99_10, e99_13, e99_14, e99_15, e99_18, e99_19, e99_19n, ct_i, ct_r, ct_n, ct_h, opt_v, opt_s, ref_s, ref_n, eq_self_iff_true, true_or, or_true, zl0, zl4, e, ite_self]
end
