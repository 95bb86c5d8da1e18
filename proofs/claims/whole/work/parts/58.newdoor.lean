/-! the class's calls: a door more -/
def dN (D : Nat → Nat → Nat) (m a0 a1 a2 a3 a4 : Nat) : Nat → Nat → Nat := u2 (u2 (u2 (u2 (u2 D m 0 a0) m 1 a1) m 2 a2) m 3 a3) m 4 a4
def dooS (Z : Nat → Nat) (D : Nat → Nat → Nat) (x y z : Int32) : Int32 × (Nat → Nat) × (Nat → Nat → Nat) := match dec x 6, dec z 10 with
  | some kd, some nu => if y < nI 0 then (-nI 2, Z, D) else if y.toNatClampNeg / 100 < Z 0 ∧ y.toNatClampNeg / 10 % 10 < Z 0 ∧ y.toNatClampNeg % 10 < 4 then (if Z 1 < 4 then (nI (Z 1), u1 Z 1 (Z 1 + 1), dN D (Z 1) (y.toNatClampNeg / 100) (y.toNatClampNeg / 10 % 10) (y.toNatClampNeg % 10) nu kd) else (-nI 4, Z, D)) else (-nI 2, Z, D)
  | _, _ => (-nI 2, Z, D)
theorem k3 {d : Nat} (hd : 1 ≤ d) {a : Nat} {x0 x1 x2 x3 x4 : Int32} {n t : Nat} {sh : Nat → Nat × Nat} {I : Nat → Nat → Int32} {L : Nat → Nat → Int64} {R : Nat → Nat → Option Nat} {Q : Option Value → aH → Prop} (h1 : (sh a).1 = 0) : aC d 3 [.ref a, .int x4, .int x0, .int x1, .int x2, .int x3] (n, t, sh, I, L, R) Q ↔
    Q none (n, t, sh, u2 (u2 (u2 (u2 (u2 I a 4 x4) a 0 x0) a 1 x1) a 2 x2) a 3 x3, u2 (u2 L a 5 0) a 6 0, R) := by
  obtain ⟨d, rfl⟩ : ∃ e, d = e + 1 := ⟨d - 1, by omega⟩
  simp (disch := first | assumption | exact ct_i | exact ct_r | exact ct_n | exact ct_h | omega | exact z_in (by omega) (by omega) | exact b01 | exact Or.inl rfl | exact Or.inr rfl) only [b3, e3_0, e3_1, e3_4, e3_5, e3_6, e3_9, e3_10, e3_11, e3_14, e3_15, e3_16, e3_19, e3_20, e3_21, e3_24, e3_25, e3_26, e3_29, e3_30, e3_32, e3_35, e3_36, e3_38, e3_41, ct_i, ct_r, ct_n, ct_h, opt_v, opt_s, ref_s, ref_n, eq_self_iff_true, true_or, or_true, h1]
theorem cK_sh {nd : Nat} {sh : Nat → Nat × Nat} {R : Nat → Nat → Option Nat} (hK : cK nd sh R) {v : Nat × Nat} {m : Nat} (hm : 47 + nd ≤ m) : cK nd (u1 sh m v) R := by
  refine ⟨fun p hp => ?_, fun i hi => ?_, hK.2.2.1, hK.2.2.2.1, hK.2.2.2.2⟩
  · have : ∀ p ∈ cSHl.zipIdx, p.2 < 47 := by decide
    rw [u1_ne _ _ _ (by have := this p hp; omega)]
    exact hK.1 p hp
  · rw [u1_ne _ _ _ (by omega)]
    exact hK.2.1 i hi
theorem z100 : ¬ nI 100 = 0 := by decide
theorem z10 : ¬ nI 10 = 0 := by decide
theorem opn_dN {f : Nat → List Nat} {D : Nat → Nat → Nat} {m a0 a1 a2 a3 a4 j st tn ks rm : Nat} (h : j ≠ m) : opn f (dN D m a0 a1 a2 a3 a4) j st tn ks rm = opn f D j st tn ks rm := by
  simp (disch := omega) only [opn, bey, dN, uu_ne]
  rfl
