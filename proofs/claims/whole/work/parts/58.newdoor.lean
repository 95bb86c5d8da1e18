/-! the class's calls: a door more -/
def dN (D : Nat → Nat → Nat) (m a0 a1 a2 a3 a4 : Nat) : Nat → Nat → Nat := u2 (u2 (u2 (u2 (u2 D m 0 a0) m 1 a1) m 2 a2) m 3 a3) m 4 a4
def dooS (Z : Nat → Nat) (D : Nat → Nat → Nat) (x y z : Int32) : Int32 × (Nat → Nat) × (Nat → Nat → Nat) := match dec x 6, dec z 10 with
  | some kd, some nu => if y < nI 0 then (-nI 2, Z, D) else if y.toNatClampNeg / 100 < Z 0 ∧ y.toNatClampNeg / 10 % 10 < Z 0 ∧ y.toNatClampNeg % 10 < 4 then (if Z 1 < 4 then (nI (Z 1), u1 Z 1 (Z 1 + 1), dN D (Z 1) (y.toNatClampNeg / 100) (y.toNatClampNeg / 10 % 10) (y.toNatClampNeg % 10) nu kd) else (-nI 4, Z, D)) else (-nI 2, Z, D)
  | _, _ => (-nI 2, Z, D)
theorem k3 {d : Nat} (hd : 1 ≤ d) {a : Nat} {x0 x1 x2 x3 x4 : Int32} {n t : Nat} {sh : Nat → Nat × Nat} {I : Nat → Nat → Int32} {L : Nat → Nat → Int64} {R : Nat → Nat → Option Nat} {Q : Option Value → aH → Prop} (h1 : (sh a).1 = 0) : aC d 3 [.ref a, .int x4, .int x0, .int x1, .int x2, .int x3] (n, t, sh, I, L, R) Q ↔
    Q none (n, t, sh, u2 (u2 (u2 (u2 (u2 I a 4 x4) a 0 x0) a 1 x1) a 2 x2) a 3 x3, u2 (u2 L a 5 0) a 6 0, R) := by
  obtain ⟨d, rfl⟩ : ∃ e, d = e + 1 := ⟨d - 1, by omega⟩
  simp (disch := first | assumption | exact ct_i | exact ct_r | exact ct_n | exact ct_h | omega | exact z_in (by omega) (by omega) | exact b01 | exact Or.inl rfl | exact Or.inr rfl) only [b3, e3_0, e3_1, e3_4, e3_5, e3_6, e3_9, e3_10, e3_11, e3_14, e3_15, e3_16, e3_19, e3_20, e3_21, e3_24, e3_25, e3_26, e3_29, e3_30, e3_32, e3_35, e3_36, e3_38, e3_41, ct_i, ct_r, ct_n, ct_h, opt_v, opt_s, ref_s, ref_n, eq_self_iff_true, true_or, or_true, h1]
theorem cK_sh {nd : Nat} {sh : Nat → Nat × Nat} {R : Nat → Nat → Option Nat} (hK : cK nd sh R) {v : Nat × Nat} {m : Nat} (hm : 47 + nd ≤ m) : cK nd (u1 sh m v) R := by
  refine ⟨fun p hp => ?_, fun i hi => ?_, hK.2.2.1, hK.2.2.2.1, hK.2.2.2.2⟩
  · have : ∀ p ∈ cSHl.zipIdx, p.2 < 47 := by decide
    rw [u1_ne _ _ _ (by have := this p hp; omega)]
    exact hK.1 p hp
  · rw [u1_ne _ _ _ (by omega)]
    exact hK.2.1 i hi
theorem z100 : ¬ nI 100 = 0 := by decide
theorem z10 : ¬ nI 10 = 0 := by decide
theorem opn_dN {f : Nat → List Nat} {D : Nat → Nat → Nat} {m a0 a1 a2 a3 a4 j st tn ks rm : Nat} (h : j ≠ m) : opn f (dN D m a0 a1 a2 a3 a4) j st tn ks rm = opn f D j st tn ks rm := by
  simp (disch := omega) only [opn, bey, dN, uu_ne]
  rfl
section
variable {T0 : Nat} {Z : Nat → Nat} {D : Nat → Nat → Nat} {tx : Nat → Nat → List Nat} {tp so sz : Nat → Nat} {it : Nat → Nat → Int32} {d : Nat} {n t : Nat} {sh : Nat → Nat × Nat} {I : Nat → Nat → Int32} {L : Nat → Nat → Int64} {R : Nat → Nat → Option Nat} {I' : Nat → Nat → Int32} {Q : Option Value → aH → Prop}
theorem RK_door (hk : RK T0 Z D tx tp so sz it (n, t, sh, I, L, R)) (h4 : Z 1 < 4) {a0 a1 a2 a3 a4 : Nat} (b0 : a0 < 6) (b1 : a1 < 6) (b2 : a2 < 4) (b3 : a3 < 10) (b4 : a4 < 6) {I1 : Nat → Nat → Int32} {L1 L' : Nat → Nat → Int64}
    (hI1 : ∀ x k, x < 47 + Z 1 → I1 x k = I x k) (hc : ∀ k, k < 5 → I1 (47 + Z 1) k = nI (dN D (Z 1) a0 a1 a2 a3 a4 (Z 1) k)) (hI' : fr3 (u2 I1 1 1 (nI (Z 1 + 1))) I') (hL1 : ∀ x k, x < 47 + Z 1 → L1 x k = L x k) (hL' : frL (Z 1) L1 L') (hm : mOk (dN D (Z 1) a0 a1 a2 a3 a4) (tx (Z 4)) L' (Z 1)) :
    RK T0 (u1 Z 1 (Z 1 + 1)) (dN D (Z 1) a0 a1 a2 a3 a4) tx tp so sz it (47 + Z 1 + 1, t + 7, u1 sh (47 + Z 1) (0, 7), I', L', u2 R 2 (Z 1) (some (47 + Z 1))) := by
  obtain ⟨⟨o1, ⟨o2, hB⟩, o3, o4, o5, o6, o7⟩, hn, hK, hcl, hD', hM, h4', h5, h6, h7, h8, h9⟩ := id hk
  simp only [] at hn hK hcl hD' hM h4' h5 h6 h7 h8 h9
  have e : ∀ x k, ¬ scr x k → x < 47 + Z 1 → ¬ (x = 1 ∧ k = 1) → I' x k = I x k := fun x k h1 h2 h3 => (hI' x k h1).trans ((uu_ne _ _ _ _ h3).trans (hI1 x k h2))
  have eD : ∀ i k, i < Z 1 → dN D (Z 1) a0 a1 a2 a3 a4 i k = D i k := fun i k hi => by simp (disch := omega) only [dN, uu_ne]
  have hnew : (u1 sh (47 + Z 1) (0, 7)) (47 + Z 1) = (0, 7) := u1_eq _ _ _
  refine ⟨⟨?_, ⟨?_, fun i hi => ?_⟩, ⟨?_, fun i hi hi4 => ?_⟩, ?_, ?_, ?_, o7⟩, ⟨?_, ?_, ?_⟩, ?_, fun a k b hb => ?_, ⟨?_, fun i hi k hk => ?_⟩, fun i hi => ?_, ?_, ?_, ?_, fun i hi => ?_, ⟨?_, fun k hk => ?_⟩, fun j hj => ⟨?_, ?_, fun k hk => ?_⟩⟩
  · rw [u1_ne _ _ _ (by decide)]; exact o1
  · rw [u1_eq]; omega
  · rw [u1_eq] at hi
    by_cases h : i = Z 1
    · subst h
      simp (disch := omega) only [dN, uu_eq, uu_ne]
      exact ⟨b0, b1, b2, b3, b4⟩
    · rw [eD i 0 (by omega), eD i 1 (by omega), eD i 2 (by omega), eD i 3 (by omega), eD i 4 (by omega)]
      exact hB i (by omega)
  · rw [u1_ne _ _ _ (by decide)]; exact o3.1
  · rw [u1_eq] at hi
    rw [u1_ne _ _ _ (by decide)]; exact o3.2 i (by omega) hi4
  · simp (disch := omega) only [u1_ne]; exact o4
  · simp (disch := omega) only [u1_ne]; exact o5
  · simp (disch := omega) only [u1_ne, u1_eq]
    rcases o6 with h | ⟨p, q, r, s, u⟩
    · exact Or.inl h
    · exact Or.inr ⟨p, q, by omega, s, u⟩
  · simp only [u1_eq]; omega
  · simp only [u1_eq]; omega
  · intro x hx
    simp only []
    rw [u1_ne _ _ _ (by omega)]; exact hn.2.2 x hx
  · simp only [u1_eq]
    exact cK_add (cK_sh hK (Nat.le_refl _)) h4 hnew
  · simp only [u1_eq] at hb ⊢
    by_cases h : a = 2 ∧ k = Z 1
    · obtain ⟨rfl, rfl⟩ := h
      rw [uu_eq] at hb
      injection hb with hb; omega
    · rw [uu_ne _ _ _ _ h] at hb
      have := hcl a k b hb; omega
  · simp only [u1_eq]
    rw [hI' _ _ (by unfold scr; omega), uu_eq]
  · simp only [u1_eq] at hi ⊢
    rw [hI' _ _ (by unfold scr; omega), uu_ne _ _ _ _ (by omega)]
    by_cases h : i = Z 1
    · subst h; exact hc k hk
    · rw [hI1 _ _ (by omega), eD i k (by omega)]; exact hD'.2 i (by omega) k hk
  · simp only [u1_eq] at hi
    simp (disch := omega) only [u1_ne]
    by_cases h : i = Z 1
    · subst h; exact hm
    · intro st hst tn htn ks hks
      rw [hL' _ _ (by omega), hL' _ _ (by omega), hL1 _ _ (by omega), hL1 _ _ (by omega), opn_dN h, opn_dN h, eD i 0 (by omega), eD i 1 (by omega)]
      exact hM i (by omega) st hst tn htn ks hks
  · simp (disch := omega) only [u1_ne, uu_ne]; exact h4'
  · simp (disch := omega) only [u1_ne]
    rw [e _ _ (by unfold scr; omega) (by omega) (by omega)]; exact h5
  · simp (disch := omega) only [u1_ne]
    rw [e 0 5 (by unfold scr; omega) (by omega) (by omega), e 0 6 (by unfold scr; omega) (by omega) (by omega), e 0 7 (by unfold scr; omega) (by omega) (by omega), e 0 8 (by unfold scr; omega) (by omega) (by omega), e 0 9 (by unfold scr; omega) (by omega) (by omega), e 0 10 (by unfold scr; omega) (by omega) (by omega), e 0 11 (by unfold scr; omega) (by omega) (by omega)]
    exact h6
  · rw [u1_ne _ _ _ (by decide)] at hi
    exact txC_fr (by omega) (fun x k hx => e x k (by unfold scr; omega) (by omega) (by omega)) (h7 i hi)
  · simp (disch := omega) only [u1_ne]
    rw [e _ _ (by unfold scr; omega) (by omega) (by omega)]; exact h8.1
  · rw [u1_ne _ _ _ (by decide)] at hk
    simp only []
    rw [e _ _ (by unfold scr; omega) (by omega) (by omega)]; exact h8.2 k hk
  · simp only []
    rw [e _ _ (by unfold scr; omega) (by omega) (by omega)]; exact (h9 j hj).1
  · simp only []
    rw [e _ _ (by unfold scr; omega) (by omega) (by omega)]; exact (h9 j hj).2.1
  · simp only []
    rw [e _ _ (by unfold scr; omega) (by omega) (by omega)]; exact (h9 j hj).2.2 k hk
end
