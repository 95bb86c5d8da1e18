theorem b01 {p : Prop} [Decidable p] : (if p then nI 1 else nI 0) = 0 ∨ (if p then nI 1 else nI 0) = 1 := by
  split
  · exact Or.inr rfl
  · exact Or.inl rfl
theorem uu_eq {α : Type} (f : Nat → Nat → α) (o k : Nat) (v : α) : u2 f o k v o k = v := by simp [u2]
theorem uu_ne {α : Type} (f : Nat → Nat → α) (o k : Nat) (v : α) {x y : Nat} (h : ¬ (x = o ∧ y = k)) : u2 f o k v x y = f x y := by simp [u2, h]
theorem z_sub {a b : Nat} (h : b ≤ a) : nI a - nI b = nI (a - b) := by
  have e : nI a = nI (a - b) + nI b := by rw [nI_add]; congr 1; omega
  rw [e, Int32.add_sub_cancel]
def tK (o c e s : Nat) (sh : Nat → Nat × Nat) (R : Nat → Nat → Option Nat) : Prop := (sh o).1 = 5 ∧ ((sh c).1 = 100 ∧ (sh c).2 = 160) ∧ ((sh e).1 = 100 ∧ (sh e).2 = 3) ∧ ((sh s).1 = 100 ∧ (sh s).2 = 40) ∧ (R o 0 = some c ∧ R o 1 = some e ∧ R o 2 = some s) ∧ (o ≠ c ∧ o ≠ e ∧ o ≠ s) ∧ c ≠ e ∧ c ≠ s ∧ e ≠ s
theorem k73 {d : Nat} (hd : 1 ≤ d) {o c e s k : Nat} {v : Int32} {n t : Nat} {sh : Nat → Nat × Nat} {I : Nat → Nat → Int32} {L : Nat → Nat → Int64} {R : Nat → Nat → Option Nat} {Q : Option Value → aH → Prop} (ht : tK o c e s sh R) (h4 : I o 4 = nI k) (hk : k < 40) :
    aC d 73 [.ref o, .int v] (n, t, sh, I, L, R) Q ↔ Q none (n, t, sh, u2 (u2 I s k v) o 4 (nI (k + 1)), L, R) := by
  obtain ⟨d, rfl⟩ : ∃ e, d = e + 1 := ⟨d - 1, by omega⟩
  obtain ⟨h1, ⟨h2, h2'⟩, ⟨h3, h3'⟩, ⟨h5, h5'⟩, ⟨h6, h7, h8⟩, ⟨g1, g2, g3⟩, g4, g5, g6⟩ := ht
  simp (disch := first | assumption | exact ct_i | exact ct_r | exact ct_n | exact ct_h | omega | exact z_in (by omega) (by omega) | exact b01 | exact Or.inl rfl | exact Or.inr rfl) only [b73, e73_0, e73_1, e73_4, e73_6, e73_9, e73_10, e73_11, e73_14, e73_15, e73_18, e73_19, e73_20, e73_21, e73_22, e73_25, e73_26, e73_27, e73_30, ct_i, ct_r, ct_n, ct_h, opt_v, opt_s, ref_s, ref_n, eq_self_iff_true, true_or, or_true, zl0, zl1, zl2, zl3, zl4, zl5, zl6, zl7, zl8, zl9, zl10, zl16, zl32, zl40, zl100, zl160, zIc1, zI_lt, zI_le, nI_eq, nI_add, z_sub, nI_clamp, zI_of, uu_eq, uu_ne, Nat.reduceLT, Nat.reduceLeDiff, Nat.reduceEqDiff, Nat.reduceAdd, Nat.reduceSub, Nat.reduceMul, Nat.not_lt_zero, Nat.lt_irrefl, Nat.le_refl, Bool.false_eq_true, false_and, and_false, true_and, and_true, if_pos, if_neg, if_true, if_false, not_true_eq_false, not_false_eq_true, h1, h5, h5', h8, h4, if_pos hk]
theorem k74 {d : Nat} (hd : 1 ≤ d) {o c e s k : Nat} {n t : Nat} {sh : Nat → Nat × Nat} {I : Nat → Nat → Int32} {L : Nat → Nat → Int64} {R : Nat → Nat → Option Nat} {Q : Option Value → aH → Prop} (ht : tK o c e s sh R) (h4 : I o 4 = nI (k + 1)) (hk : k < 40) :
    aC d 74 [.ref o] (n, t, sh, I, L, R) Q ↔ Q (some (.int (I s k))) (n, t, sh, u2 I o 4 (nI k), L, R) := by
  obtain ⟨d, rfl⟩ : ∃ e, d = e + 1 := ⟨d - 1, by omega⟩
  obtain ⟨h1, ⟨h2, h2'⟩, ⟨h3, h3'⟩, ⟨h5, h5'⟩, ⟨h6, h7, h8⟩, ⟨g1, g2, g3⟩, g4, g5, g6⟩ := ht
  simp (disch := first | assumption | exact ct_i | exact ct_r | exact ct_n | exact ct_h | omega | exact z_in (by omega) (by omega) | exact b01 | exact Or.inl rfl | exact Or.inr rfl) only [b74, e74_0, e74_1, e74_4, e74_7, e74_8, e74_11, e74_13, e74_16, e74_17, e74_18, e74_19, e74_20, e74_23, e74_24, e74_25, e74_28, e74_29, e74_32, e74_33, e74_36, e74_37, ct_i, ct_r, ct_n, ct_h, opt_v, opt_s, ref_s, ref_n, eq_self_iff_true, true_or, or_true, zl0, zl1, zl2, zl3, zl4, zl5, zl6, zl7, zl8, zl9, zl10, zl16, zl32, zl40, zl100, zl160, zIc1, zI_lt, zI_le, nI_eq, nI_add, z_sub, nI_clamp, zI_of, uu_eq, uu_ne, Nat.reduceLT, Nat.reduceLeDiff, Nat.reduceEqDiff, Nat.reduceAdd, Nat.reduceSub, Nat.reduceMul, Nat.not_lt_zero, Nat.lt_irrefl, Nat.le_refl, Bool.false_eq_true, false_and, and_false, true_and, and_true, if_pos, if_neg, if_true, if_false, not_true_eq_false, not_false_eq_true, h1, h5, h5', h8, h4, if_neg (show ¬ k + 1 ≤ 0 by omega), if_pos (show k + 1 ≤ 40 by omega), Nat.add_sub_cancel]
/-- the class's word for a code: a number; a name (10000 on); what works on what stands ahead (10006 on) -/
def cCell (k : Nat) : Int32 := if k < 10000 then nI k else match k - 10000 with
  | 0 => -1 | 1 => -2 | 2 => -3 | 3 => -4 | 4 => -5 | 5 => -6 | 6 => -7 | 7 => -8 | 8 => -9 | 9 => -10 | 10 => -11 | 11 => -12 | 12 => -13 | 13 => -14 | _ => -15
def ev2 (j : Nat) (x y : Int32) : Int32 := match j with
  | 8 => if ¬ x = 0 ∨ ¬ y = 0 then 1 else 0
  | 9 => if ¬ x = 0 ∧ ¬ y = 0 then 1 else 0
  | 10 => if y ≤ x then 0 else 1
  | 11 => if x = y then 1 else 0
  | 12 => x + y
  | 13 => x - y
  | _ => x * y
def ev1 (nm : Nat → Int32) (st : List Int32) (k : Nat) : List Int32 :=
  if k < 10000 then nI k :: st else if k < 10006 then nm (k - 10000) :: st else match st with
  | [] => []
  | x :: st => if k = 10006 then (-x) :: st else if k = 10007 then (if x = 0 then 1 else 0) :: st else match st with
    | [] => []
    | y :: st => ev2 (k - 10000) y x :: st
def evs (nm : Nat → Int32) : List Nat → List Int32 → List Int32
  | [], st => st
  | k :: cs, st => evs nm cs (ev1 nm st k)
def ht1 (k h : Nat) : Option Nat := if k < 10006 then (if h < 40 then some (h + 1) else none) else if k < 10008 then (if 1 ≤ h then some h else none) else if 2 ≤ h ∧ k < 10015 then some (h - 1) else none
def okc : List Nat → Nat → Nat → Prop
  | [], h, h' => h = h'
  | k :: cs, h, h' => ∃ h1, ht1 k h = some h1 ∧ okc cs h1 h'
def stkL (I : Nat → Nat → Int32) (s : Nat) : List Int32 → Prop
  | [] => True
  | x :: l => I s l.length = x ∧ stkL I s l
theorem stkL_up {I : Nat → Nat → Int32} {s k : Nat} {v : Int32} : ∀ {l : List Int32}, l.length ≤ k → stkL I s l → stkL (u2 I s k v) s l
  | [], _, _ => trivial
  | x :: l, h, hs => by
    simp only [List.length_cons] at h
    exact ⟨by rw [uu_ne _ _ _ _ (by omega)]; exact hs.1, stkL_up (by omega) hs.2⟩
theorem stkL_ne {I : Nat → Nat → Int32} {s o k : Nat} {v : Int32} (hne : o ≠ s) : ∀ {l : List Int32}, stkL I s l → stkL (u2 I o k v) s l
  | [], _ => trivial
  | x :: l, hs => ⟨by rw [uu_ne _ _ _ _ (by omega)]; exact hs.1, stkL_ne hne hs.2⟩
theorem cc_nm {i : Nat} (h : i < 6) : cCell (10000 + i) < nI 0 ∧ ¬ cCell (10000 + i) ≤ -nI 7 ∧ -nI 1 - cCell (10000 + i) = nI i := by
  rcases (show i = 0 ∨ i = 1 ∨ i = 2 ∨ i = 3 ∨ i = 4 ∨ i = 5 by omega) with rfl | rfl | rfl | rfl | rfl | rfl <;> decide
theorem cc_op {i : Nat} (h : i < 15) (h6 : 6 ≤ i) : cCell (10000 + i) < nI 0 ∧ cCell (10000 + i) ≤ -nI 7 ∧ (cCell (10000 + i) = -nI 7 ↔ i = 6) ∧ (cCell (10000 + i) = -nI 8 ↔ i = 7) := by
  rcases (show i = 6 ∨ i = 7 ∨ i = 8 ∨ i = 9 ∨ i = 10 ∨ i = 11 ∨ i = 12 ∨ i = 13 ∨ i = 14 by omega) with rfl | rfl | rfl | rfl | rfl | rfl | rfl | rfl | rfl <;> decide
theorem k75 {d : Nat} (hd : 1 ≤ d) {i : Nat} {x y : Int32} (hi : i < 15) (h8 : 8 ≤ i) {h : aH} {Q : Option Value → aH → Prop} : aC d 75 [.int (cCell (10000 + i)), .int x, .int y] h Q ↔ Q (some (.int (ev2 i x y))) h := by
  obtain ⟨d, rfl⟩ : ∃ e, d = e + 1 := ⟨d - 1, by omega⟩
  rcases (show i = 8 ∨ i = 9 ∨ i = 10 ∨ i = 11 ∨ i = 12 ∨ i = 13 ∨ i = 14 by omega) with rfl | rfl | rfl | rfl | rfl | rfl | rfl
  all_goals simp +decide (disch := first | assumption | exact ct_i | exact ct_r | exact ct_n | exact ct_h | omega | exact z_in (by omega) (by omega) | exact b01 | exact Or.inl rfl | exact Or.inr rfl) only [b75, e75_0, e75_1, e75_40, e75_41, e75_44, e75_45, e75_48, e75_49, e75_52, e75_53, e75_54, e75_55, e75_58, e75_59, e75_62, e75_63, e75_66, e75_67, e75_68, e75_69, e75_70, e75_73, e75_74, e75_77, e75_78, e75_79, e75_80, e75_81, e75_84, e75_85, e75_88, e75_89, e75_90, e75_91, e75_92, e75_93, e75_94, e75_95, e75_96, e75_97, e75_98, e75_99, e75_100, e75_101, ct_i, ct_r, ct_n, ct_h, opt_v, opt_s, ref_s, ref_n, eq_self_iff_true, true_or, or_true, cCell, ev2, if_true, if_false]
  · by_cases h1 : x = 0 <;> by_cases h2 : y = 0 <;> simp [h1, h2]
  · by_cases h1 : x = 0 <;> by_cases h2 : y = 0 <;> simp [h1, h2]
  · split <;> exact Iff.rfl
  · by_cases h1 : x = y <;> simp [h1]
theorem ev1_len {nm : Nat → Int32} {st : List Int32} {k h1 : Nat} (h : ht1 k st.length = some h1) : (ev1 nm st k).length = h1 := by
  unfold ht1 at h
  unfold ev1
  by_cases h2 : k < 10006
  · rw [if_pos h2] at h
    by_cases h3 : st.length < 40
    · rw [if_pos h3] at h
      by_cases h4 : k < 10000
      · rw [if_pos h4]; simpa using h
      · rw [if_neg h4, if_pos h2]; simpa using h
    · rw [if_neg h3] at h; cases h
  · rw [if_neg h2] at h
    rw [if_neg (show ¬ k < 10000 by omega), if_neg h2]
    match st with
    | [] => simp at h
    | x :: st =>
      by_cases h3 : k < 10008
      · rw [if_pos h3, if_pos (by simp)] at h
        by_cases h4 : k = 10006
        · simp only [if_pos h4]; simpa using h
        · simp only [if_neg h4, if_pos (show k = 10007 by omega)]; simpa using h
      · rw [if_neg h3] at h
        simp only [if_neg (show ¬ k = 10006 by omega), if_neg (show ¬ k = 10007 by omega)]
        match st with
        | [] => simp at h
        | y :: st =>
          split at h
          · simpa using h
          · cases h
/-- what working on a text's part changes: the stack and its height -/
def frT (o s : Nat) (I I' : Nat → Nat → Int32) : Prop := ∀ x k, ¬ (x = s ∨ x = o ∧ k = 4) → I' x k = I x k
theorem k72l {d : Nat} (hd : 1 ≤ d) {o c e s a : Nat} {n t : Nat} {sh : Nat → Nat × Nat} {L : Nat → Nat → Int64} {R : Nat → Nat → Option Nat} {Q : Option Value → aH → Prop} (ht : tK o c e s sh R) (ha : (sh a).1 = 100 ∧ (sh a).2 = 6) (hao : a ≠ o ∧ a ≠ s) {nm : Nat → Int32} {p en : Nat} (hp : p < 3) (hen : en ≤ 160) {l3 : Int32} {I0 : Nat → Nat → Int32} (hnm : ∀ i, i < 6 → I0 a i = nm i) (he : I0 e p = nI en) :
    ∀ (cs : List Nat) (st : List Int32) (i : Nat) (I : Nat → Nat → Int32) (l5 l6 : Value), frT o s I0 I → I o 4 = nI st.length → st.length ≤ 40 → stkL I s st → okc cs st.length 1 → i + cs.length = en → (∀ j, j < cs.length → I0 c (i + j) = cCell (cs.getD j 0)) →
    (∀ I', frT o s I0 I' → Q (some (.int ((evs nm cs st).headD 0))) (n, t, sh, I', L, R)) →
    aE (a_cl_ d) 72 (36, [.ref o, .int (nI p), .ref a, .int l3, .int (nI i), l5, l6], [], (n, t, sh, I, L, R)) Q := by
  obtain ⟨h1, ⟨h2, h2'⟩, ⟨h3, h3'⟩, ⟨h5, h5'⟩, ⟨h6, h7, h8⟩, ⟨g1, g2, g3⟩, g4, g5, g6⟩ := id ht
  obtain ⟨ha1, ha2⟩ := ha
  obtain ⟨ha3, ha4⟩ := hao
  intro cs
  induction cs with
  | nil =>
    intro st i I l5 l6 hI h4 h40 hst hok hi hc H
    have e1 : I e p = nI en := (hI e p (by omega)).trans he
    simp only [okc] at hok
    simp only [List.length_nil, Nat.add_zero] at hi
    subst hi
    match st, hok with
    | [x], _ =>
    simp (disch := first | assumption | exact ct_i | exact ct_r | exact ct_n | exact ct_h | omega | exact z_in (by omega) (by omega) | exact b01 | exact Or.inl rfl | exact Or.inr rfl) only [e72_0, e72_1, e72_4, e72_5, e72_6, e72_9, e72_10, e72_11, e72_12, e72_13, e72_16, e72_17, e72_20, e72_21, e72_24, e72_25, e72_28, e72_29, e72_30, e72_31, e72_32, e72_33, e72_34, e72_36, e72_38, e72_39, e72_42, e72_43, e72_44, e72_47, e72_49, e72_50, e72_53, e72_54, e72_57, e72_58, e72_61, e72_63, e72_64, e72_66, e72_68, e72_71, e72_72, e72_74, e72_77, e72_80, e72_82, e72_84, e72_87, e72_88, e72_90, e72_91, e72_93, e72_94, e72_96, e72_96n, e72_97, e72_98, e72_101, e72_101n, e72_102, e72_104, e72_105, e72_108, e72_109, e72_112, e72_115, e72_116, e72_119, e72_121, e72_123, e72_125, e72_128, e72_129, e72_131, e72_132, e72_135, e72_138, e72_140, e72_142, e72_145, e72_146, e72_148, e72_151, e72_152, e72_155, e72_156, e72_159, e72_162, e72_163, e72_165, e72_166, e72_169, e72_171, e72_174, e72_177, e72_180, e72_183, e72_184, e72_187, ct_i, ct_r, ct_n, ct_h, opt_v, opt_s, ref_s, ref_n, eq_self_iff_true, true_or, or_true, zl0, zl1, zl2, zl3, zl4, zl5, zl6, zl7, zl8, zl9, zl10, zl16, zl32, zl40, zl100, zl160, zIc1, zI_lt, zI_le, nI_eq, nI_add, z_sub, nI_clamp, zI_of, uu_eq, uu_ne, Nat.reduceLT, Nat.reduceLeDiff, Nat.reduceEqDiff, Nat.reduceAdd, Nat.reduceSub, Nat.reduceMul, Nat.not_lt_zero, Nat.lt_irrefl, Nat.le_refl, Bool.false_eq_true, false_and, and_false, true_and, and_true, if_pos, if_neg, if_true, if_false, not_true_eq_false, not_false_eq_true, h1, h2, h2', h3, h3', h6, h7, h8, e1, Nat.le_refl, k74 hd ht (k := 0) (by simpa using h4)]
    have := hst.1
    simp only [List.length_nil] at this
    rw [this]
    exact H _ (fun x k hx => by rw [uu_ne _ _ _ _ (by omega)]; exact hI x k hx)
  | cons k cs ih =>
    intro st i I l5 l6 hI h4 h40 hst hok hi hc H
    simp only [List.length_cons] at hi
    have e1 : I e p = nI en := (hI e p (by omega)).trans he
    have e2 : I c i = cCell k := (hI c i (by omega)).trans (by simpa using hc 0 (by simp))
    have hc' : ∀ j, j < cs.length → I0 c (i + 1 + j) = cCell (cs.getD j 0) := fun j hj => by
      have := hc (j + 1) (by simp; omega)
      rw [show i + 1 + j = i + (j + 1) by omega]
      simpa using this
    obtain ⟨hh, hk1, hok1⟩ := hok
    have hl := ev1_len (nm := nm) hk1
    rw [e72_36]
    simp (disch := first | assumption | exact ct_i | exact ct_r | exact ct_n | exact ct_h | omega | exact z_in (by omega) (by omega) | exact b01 | exact Or.inl rfl | exact Or.inr rfl) only [e72_0, e72_1, e72_4, e72_5, e72_6, e72_9, e72_10, e72_11, e72_12, e72_13, e72_16, e72_17, e72_20, e72_21, e72_24, e72_25, e72_28, e72_29, e72_30, e72_31, e72_32, e72_33, e72_34, e72_38, e72_39, e72_42, e72_43, e72_44, e72_47, e72_49, e72_50, e72_53, e72_54, e72_57, e72_58, e72_61, e72_63, e72_64, e72_66, e72_68, e72_71, e72_72, e72_74, e72_77, e72_80, e72_82, e72_84, e72_87, e72_88, e72_90, e72_91, e72_93, e72_94, e72_96, e72_96n, e72_97, e72_98, e72_101, e72_101n, e72_102, e72_104, e72_105, e72_108, e72_109, e72_112, e72_115, e72_116, e72_119, e72_121, e72_123, e72_125, e72_128, e72_129, e72_131, e72_132, e72_135, e72_138, e72_140, e72_142, e72_145, e72_146, e72_148, e72_151, e72_152, e72_155, e72_156, e72_159, e72_162, e72_163, e72_165, e72_166, e72_169, e72_171, e72_174, e72_177, e72_180, e72_183, e72_184, e72_187, ct_i, ct_r, ct_n, ct_h, opt_v, opt_s, ref_s, ref_n, eq_self_iff_true, true_or, or_true, zl0, zl1, zl2, zl3, zl4, zl5, zl6, zl7, zl8, zl9, zl10, zl16, zl32, zl40, zl100, zl160, zIc1, zI_lt, zI_le, nI_eq, nI_add, z_sub, nI_clamp, zI_of, uu_eq, uu_ne, Nat.reduceLT, Nat.reduceLeDiff, Nat.reduceEqDiff, Nat.reduceAdd, Nat.reduceSub, Nat.reduceMul, Nat.not_lt_zero, Nat.lt_irrefl, Nat.le_refl, Bool.false_eq_true, false_and, and_false, true_and, and_true, if_pos, if_neg, if_true, if_false, not_true_eq_false, not_false_eq_true, h1, h2, h2', h3, h3', h6, h7, h8, e1, e2, if_neg (show ¬ en ≤ i by omega), if_neg (show ¬ 160 ≤ i by omega)]
    by_cases k1 : k < 10000
    · have kc : cCell k = nI k := if_pos k1
      have ke : ev1 nm st k = nI k :: st := if_pos k1
      have kh : st.length < 40 := by
        unfold ht1 at hk1
        rw [if_pos (by omega)] at hk1
        by_cases h : st.length < 40
        · exact h
        · rw [if_neg h] at hk1; cases hk1
      rw [ke] at hl
      simp (disch := first | assumption | exact ct_i | exact ct_r | exact ct_n | exact ct_h | omega | exact z_in (by omega) (by omega) | exact b01 | exact Or.inl rfl | exact Or.inr rfl) only [e72_0, e72_1, e72_4, e72_5, e72_6, e72_9, e72_10, e72_11, e72_12, e72_13, e72_16, e72_17, e72_20, e72_21, e72_24, e72_25, e72_28, e72_29, e72_30, e72_31, e72_32, e72_33, e72_34, e72_38, e72_39, e72_42, e72_43, e72_44, e72_47, e72_49, e72_50, e72_53, e72_54, e72_57, e72_58, e72_61, e72_63, e72_64, e72_66, e72_68, e72_71, e72_72, e72_74, e72_77, e72_80, e72_82, e72_84, e72_87, e72_88, e72_90, e72_91, e72_93, e72_94, e72_96, e72_96n, e72_97, e72_98, e72_101, e72_101n, e72_102, e72_104, e72_105, e72_108, e72_109, e72_112, e72_115, e72_116, e72_119, e72_121, e72_123, e72_125, e72_128, e72_129, e72_131, e72_132, e72_135, e72_138, e72_140, e72_142, e72_145, e72_146, e72_148, e72_151, e72_152, e72_155, e72_156, e72_159, e72_162, e72_163, e72_165, e72_166, e72_169, e72_171, e72_174, e72_177, e72_180, e72_183, e72_184, e72_187, ct_i, ct_r, ct_n, ct_h, opt_v, opt_s, ref_s, ref_n, eq_self_iff_true, true_or, or_true, zl0, zl1, zl2, zl3, zl4, zl5, zl6, zl7, zl8, zl9, zl10, zl16, zl32, zl40, zl100, zl160, zIc1, zI_lt, zI_le, nI_eq, nI_add, z_sub, nI_clamp, zI_of, uu_eq, uu_ne, Nat.reduceLT, Nat.reduceLeDiff, Nat.reduceEqDiff, Nat.reduceAdd, Nat.reduceSub, Nat.reduceMul, Nat.not_lt_zero, Nat.lt_irrefl, Nat.le_refl, Bool.false_eq_true, false_and, and_false, true_and, and_true, if_pos, if_neg, if_true, if_false, not_true_eq_false, not_false_eq_true, h1, h2, h2', h3, h3', h6, h7, h8, kc, if_neg (show ¬ k < 0 by omega), k73 hd ht h4 kh]
      refine ih (nI k :: st) (i + 1) _ _ _ (fun x y hx => by simp (disch := omega) only [uu_ne]; exact hI x y hx) (by rw [uu_eq]; rfl) (by simp; omega) ?_ (by rw [hl]; exact hok1) (by omega) hc' (by rw [← ke]; exact H)
      exact stkL_ne g3 ⟨by rw [uu_eq], stkL_up (Nat.le_refl _) hst⟩
    · obtain ⟨w, rfl⟩ : ∃ w, k = 10000 + w := ⟨k - 10000, by omega⟩
      by_cases k2 : w < 6
      · obtain ⟨kc1, kc2, kc3⟩ := cc_nm k2
        have ke : ev1 nm st (10000 + w) = nm w :: st := by
          unfold ev1
          rw [if_neg (by omega), if_pos (by omega), Nat.add_sub_cancel_left]
        have kh : st.length < 40 := by
          unfold ht1 at hk1
          rw [if_pos (by omega)] at hk1
          by_cases h : st.length < 40
          · exact h
          · rw [if_neg h] at hk1; cases hk1
        have e3 : I a w = nm w := (hI a w (by omega)).trans (hnm w k2)
        rw [ke] at hl
        simp (disch := first | assumption | exact ct_i | exact ct_r | exact ct_n | exact ct_h | omega | exact z_in (by omega) (by omega) | exact b01 | exact Or.inl rfl | exact Or.inr rfl) only [e72_0, e72_1, e72_4, e72_5, e72_6, e72_9, e72_10, e72_11, e72_12, e72_13, e72_16, e72_17, e72_20, e72_21, e72_24, e72_25, e72_28, e72_29, e72_30, e72_31, e72_32, e72_33, e72_34, e72_38, e72_39, e72_42, e72_43, e72_44, e72_47, e72_49, e72_50, e72_53, e72_54, e72_57, e72_58, e72_61, e72_63, e72_64, e72_66, e72_68, e72_71, e72_72, e72_74, e72_77, e72_80, e72_82, e72_84, e72_87, e72_88, e72_90, e72_91, e72_93, e72_94, e72_96, e72_96n, e72_97, e72_98, e72_101, e72_101n, e72_102, e72_104, e72_105, e72_108, e72_109, e72_112, e72_115, e72_116, e72_119, e72_121, e72_123, e72_125, e72_128, e72_129, e72_131, e72_132, e72_135, e72_138, e72_140, e72_142, e72_145, e72_146, e72_148, e72_151, e72_152, e72_155, e72_156, e72_159, e72_162, e72_163, e72_165, e72_166, e72_169, e72_171, e72_174, e72_177, e72_180, e72_183, e72_184, e72_187, ct_i, ct_r, ct_n, ct_h, opt_v, opt_s, ref_s, ref_n, eq_self_iff_true, true_or, or_true, zl0, zl1, zl2, zl3, zl4, zl5, zl6, zl7, zl8, zl9, zl10, zl16, zl32, zl40, zl100, zl160, zIc1, zI_lt, zI_le, nI_eq, nI_add, z_sub, nI_clamp, zI_of, uu_eq, uu_ne, Nat.reduceLT, Nat.reduceLeDiff, Nat.reduceEqDiff, Nat.reduceAdd, Nat.reduceSub, Nat.reduceMul, Nat.not_lt_zero, Nat.lt_irrefl, Nat.le_refl, Bool.false_eq_true, false_and, and_false, true_and, and_true, if_pos, if_neg, if_true, if_false, not_true_eq_false, not_false_eq_true, h1, h2, h2', h3, h3', h6, h7, h8, if_pos kc1, if_neg kc2, kc3, ha1, ha2, e3, if_neg (show ¬ 6 ≤ w by omega), k73 hd ht h4 kh]
        refine ih (nm w :: st) (i + 1) _ _ _ (fun x y hx => by simp (disch := omega) only [uu_ne]; exact hI x y hx) (by rw [uu_eq]; rfl) (by simp; omega) ?_ (by rw [hl]; exact hok1) (by omega) hc' (by rw [← ke]; exact H)
        exact stkL_ne g3 ⟨by rw [uu_eq], stkL_up (Nat.le_refl _) hst⟩
      · have k3 : w < 15 := by
          unfold ht1 at hk1
          rw [if_neg (by omega)] at hk1
          by_cases h : 10000 + w < 10008
          · omega
          · rw [if_neg h] at hk1
            split at hk1
            · omega
            · cases hk1
        obtain ⟨kc1, kc2, kc3, kc4⟩ := cc_op k3 (by omega)
        have kl : st.length ≤ 40 ∧ 1 ≤ st.length := by
          refine ⟨h40, ?_⟩
          unfold ht1 at hk1
          rw [if_neg (by omega)] at hk1
          split at hk1
          · split at hk1
            · assumption
            · cases hk1
          · split at hk1
            · omega
            · cases hk1
        match st, kl with
        | x :: st, kl =>
        simp only [List.length_cons] at kl h4
        have ex : I s st.length = x := hst.1
        by_cases k6 : w = 6
        · subst k6
          have ke : ev1 nm (x :: st) (10000 + 6) = (-x) :: st := rfl
          rw [ke] at hl
          simp (disch := first | assumption | exact ct_i | exact ct_r | exact ct_n | exact ct_h | omega | exact z_in (by omega) (by omega) | exact b01 | exact Or.inl rfl | exact Or.inr rfl) only [e72_0, e72_1, e72_4, e72_5, e72_6, e72_9, e72_10, e72_11, e72_12, e72_13, e72_16, e72_17, e72_20, e72_21, e72_24, e72_25, e72_28, e72_29, e72_30, e72_31, e72_32, e72_33, e72_34, e72_38, e72_39, e72_42, e72_43, e72_44, e72_47, e72_49, e72_50, e72_53, e72_54, e72_57, e72_58, e72_61, e72_63, e72_64, e72_66, e72_68, e72_71, e72_72, e72_74, e72_77, e72_80, e72_82, e72_84, e72_87, e72_88, e72_90, e72_91, e72_93, e72_94, e72_96, e72_96n, e72_97, e72_98, e72_101, e72_101n, e72_102, e72_104, e72_105, e72_108, e72_109, e72_112, e72_115, e72_116, e72_119, e72_121, e72_123, e72_125, e72_128, e72_129, e72_131, e72_132, e72_135, e72_138, e72_140, e72_142, e72_145, e72_146, e72_148, e72_151, e72_152, e72_155, e72_156, e72_159, e72_162, e72_163, e72_165, e72_166, e72_169, e72_171, e72_174, e72_177, e72_180, e72_183, e72_184, e72_187, ct_i, ct_r, ct_n, ct_h, opt_v, opt_s, ref_s, ref_n, eq_self_iff_true, true_or, or_true, zl0, zl1, zl2, zl3, zl4, zl5, zl6, zl7, zl8, zl9, zl10, zl16, zl32, zl40, zl100, zl160, zIc1, zI_lt, zI_le, nI_eq, nI_add, z_sub, nI_clamp, zI_of, uu_eq, uu_ne, Nat.reduceLT, Nat.reduceLeDiff, Nat.reduceEqDiff, Nat.reduceAdd, Nat.reduceSub, Nat.reduceMul, Nat.not_lt_zero, Nat.lt_irrefl, Nat.le_refl, Bool.false_eq_true, false_and, and_false, true_and, and_true, if_pos, if_neg, if_true, if_false, not_true_eq_false, not_false_eq_true, h1, h2, h2', h3, h3', h6, h7, h8, if_pos kc1, if_pos kc2, kc3, kc4, k74 hd ht h4 (by omega), ex]
          simp (disch := first | assumption | exact ct_i | exact ct_r | exact ct_n | exact ct_h | omega | exact z_in (by omega) (by omega) | exact b01 | exact Or.inl rfl | exact Or.inr rfl) only [k73 hd ht (uu_eq I o 4 (nI st.length)) (show st.length < 40 by omega), e72_0, e72_1, e72_4, e72_5, e72_6, e72_9, e72_10, e72_11, e72_12, e72_13, e72_16, e72_17, e72_20, e72_21, e72_24, e72_25, e72_28, e72_29, e72_30, e72_31, e72_32, e72_33, e72_34, e72_38, e72_39, e72_42, e72_43, e72_44, e72_47, e72_49, e72_50, e72_53, e72_54, e72_57, e72_58, e72_61, e72_63, e72_64, e72_66, e72_68, e72_71, e72_72, e72_74, e72_77, e72_80, e72_82, e72_84, e72_87, e72_88, e72_90, e72_91, e72_93, e72_94, e72_96, e72_96n, e72_97, e72_98, e72_101, e72_101n, e72_102, e72_104, e72_105, e72_108, e72_109, e72_112, e72_115, e72_116, e72_119, e72_121, e72_123, e72_125, e72_128, e72_129, e72_131, e72_132, e72_135, e72_138, e72_140, e72_142, e72_145, e72_146, e72_148, e72_151, e72_152, e72_155, e72_156, e72_159, e72_162, e72_163, e72_165, e72_166, e72_169, e72_171, e72_174, e72_177, e72_180, e72_183, e72_184, e72_187, ct_i, ct_r, ct_n, ct_h, opt_v, opt_s, ref_s, ref_n, eq_self_iff_true, true_or, or_true, zl0, zl1, zl2, zl3, zl4, zl5, zl6, zl7, zl8, zl9, zl10, zl16, zl32, zl40, zl100, zl160, zIc1, zI_lt, zI_le, nI_eq, nI_add, z_sub, nI_clamp, zI_of, uu_eq, uu_ne, Nat.reduceLT, Nat.reduceLeDiff, Nat.reduceEqDiff, Nat.reduceAdd, Nat.reduceSub, Nat.reduceMul, Nat.not_lt_zero, Nat.lt_irrefl, Nat.le_refl, Bool.false_eq_true, false_and, and_false, true_and, and_true, if_pos, if_neg, if_true, if_false, not_true_eq_false, not_false_eq_true]
          refine ih ((-x) :: st) (i + 1) _ _ _ (fun x y hx => by simp (disch := omega) only [uu_ne]; exact hI x y hx) (by rw [uu_eq]; rfl) (by simp; omega) ?_ (by rw [hl]; exact hok1) (by omega) hc' (by rw [← ke]; exact H)
          exact stkL_ne g3 ⟨by rw [uu_eq], stkL_up (Nat.le_refl _) (stkL_ne g3 hst.2)⟩
        · by_cases k7 : w = 7
          · subst k7
            have ke : ev1 nm (x :: st) (10000 + 7) = (if x = 0 then 1 else 0) :: st := rfl
            rw [ke] at hl
            simp (disch := first | assumption | exact ct_i | exact ct_r | exact ct_n | exact ct_h | omega | exact z_in (by omega) (by omega) | exact b01 | exact Or.inl rfl | exact Or.inr rfl) only [e72_0, e72_1, e72_4, e72_5, e72_6, e72_9, e72_10, e72_11, e72_12, e72_13, e72_16, e72_17, e72_20, e72_21, e72_24, e72_25, e72_28, e72_29, e72_30, e72_31, e72_32, e72_33, e72_34, e72_38, e72_39, e72_42, e72_43, e72_44, e72_47, e72_49, e72_50, e72_53, e72_54, e72_57, e72_58, e72_61, e72_63, e72_64, e72_66, e72_68, e72_71, e72_72, e72_74, e72_77, e72_80, e72_82, e72_84, e72_87, e72_88, e72_90, e72_91, e72_93, e72_94, e72_96, e72_96n, e72_97, e72_98, e72_101, e72_101n, e72_102, e72_104, e72_105, e72_108, e72_109, e72_112, e72_115, e72_116, e72_119, e72_121, e72_123, e72_125, e72_128, e72_129, e72_131, e72_132, e72_135, e72_138, e72_140, e72_142, e72_145, e72_146, e72_148, e72_151, e72_152, e72_155, e72_156, e72_159, e72_162, e72_163, e72_165, e72_166, e72_169, e72_171, e72_174, e72_177, e72_180, e72_183, e72_184, e72_187, ct_i, ct_r, ct_n, ct_h, opt_v, opt_s, ref_s, ref_n, eq_self_iff_true, true_or, or_true, zl0, zl1, zl2, zl3, zl4, zl5, zl6, zl7, zl8, zl9, zl10, zl16, zl32, zl40, zl100, zl160, zIc1, zI_lt, zI_le, nI_eq, nI_add, z_sub, nI_clamp, zI_of, uu_eq, uu_ne, Nat.reduceLT, Nat.reduceLeDiff, Nat.reduceEqDiff, Nat.reduceAdd, Nat.reduceSub, Nat.reduceMul, Nat.not_lt_zero, Nat.lt_irrefl, Nat.le_refl, Bool.false_eq_true, false_and, and_false, true_and, and_true, if_pos, if_neg, if_true, if_false, not_true_eq_false, not_false_eq_true, h1, h2, h2', h3, h3', h6, h7, h8, if_pos kc1, if_pos kc2, kc3, kc4, k74 hd ht h4 (by omega), ex]
            have key : ∀ v, v = (if x = 0 then (1 : Int32) else 0) → aE (a_cl_ d) 72 (36, [.ref o, .int (nI p), .ref a, .int l3, .int (nI (i + 1)), .int (cCell (10000 + 7)), .int x], [], (n, t, sh, u2 (u2 (u2 I o 4 (nI st.length)) s st.length v) o 4 (nI (st.length + 1)), L, R)) Q := by
              intro v hv
              subst hv
              refine ih ((if x = 0 then 1 else 0) :: st) (i + 1) _ _ _ (fun x y hx => by simp (disch := omega) only [uu_ne]; exact hI x y hx) (by rw [uu_eq]; rfl) (by simp; omega) ?_ (by rw [hl]; exact hok1) (by omega) hc' (by rw [← ke]; exact H)
              exact stkL_ne g3 ⟨by rw [uu_eq], stkL_up (Nat.le_refl _) (stkL_ne g3 hst.2)⟩
            by_cases hx : x = 0
            · simp (disch := first | assumption | exact ct_i | exact ct_r | exact ct_n | exact ct_h | omega | exact z_in (by omega) (by omega) | exact b01 | exact Or.inl rfl | exact Or.inr rfl) only [zl0, zl1, zl2, zl3, zl4, zl5, zl6, zl7, zl8, zl9, zl10, zl16, zl32, zl40, zl100, zl160, zIc1, zI_lt, zI_le, nI_eq, nI_add, z_sub, nI_clamp, zI_of, uu_eq, uu_ne, Nat.reduceLT, Nat.reduceLeDiff, Nat.reduceEqDiff, Nat.reduceAdd, Nat.reduceSub, Nat.reduceMul, Nat.not_lt_zero, Nat.lt_irrefl, Nat.le_refl, Bool.false_eq_true, false_and, and_false, true_and, and_true, if_pos, if_neg, if_true, if_false, not_true_eq_false, not_false_eq_true, hx, k73 hd ht (uu_eq I o 4 (nI st.length)) (show st.length < 40 by omega), e72_0, e72_1, e72_4, e72_5, e72_6, e72_9, e72_10, e72_11, e72_12, e72_13, e72_16, e72_17, e72_20, e72_21, e72_24, e72_25, e72_28, e72_29, e72_30, e72_31, e72_32, e72_33, e72_34, e72_38, e72_39, e72_42, e72_43, e72_44, e72_47, e72_49, e72_50, e72_53, e72_54, e72_57, e72_58, e72_61, e72_63, e72_64, e72_66, e72_68, e72_71, e72_72, e72_74, e72_77, e72_80, e72_82, e72_84, e72_87, e72_88, e72_90, e72_91, e72_93, e72_94, e72_96, e72_96n, e72_97, e72_98, e72_101, e72_101n, e72_102, e72_104, e72_105, e72_108, e72_109, e72_112, e72_115, e72_116, e72_119, e72_121, e72_123, e72_125, e72_128, e72_129, e72_131, e72_132, e72_135, e72_138, e72_140, e72_142, e72_145, e72_146, e72_148, e72_151, e72_152, e72_155, e72_156, e72_159, e72_162, e72_163, e72_165, e72_166, e72_169, e72_171, e72_174, e72_177, e72_180, e72_183, e72_184, e72_187, ct_i, ct_r, ct_n, ct_h, opt_v, opt_s, ref_s, ref_n, eq_self_iff_true, true_or, or_true]
              have := key (nI 1) (by rw [if_pos hx]; rfl)
              rw [hx] at this
              exact this
            · have hx' : ¬ x = nI 0 := hx
              simp (disch := first | assumption | exact ct_i | exact ct_r | exact ct_n | exact ct_h | omega | exact z_in (by omega) (by omega) | exact b01 | exact Or.inl rfl | exact Or.inr rfl) only [zl0, zl1, zl2, zl3, zl4, zl5, zl6, zl7, zl8, zl9, zl10, zl16, zl32, zl40, zl100, zl160, zIc1, zI_lt, zI_le, nI_eq, nI_add, z_sub, nI_clamp, zI_of, uu_eq, uu_ne, Nat.reduceLT, Nat.reduceLeDiff, Nat.reduceEqDiff, Nat.reduceAdd, Nat.reduceSub, Nat.reduceMul, Nat.not_lt_zero, Nat.lt_irrefl, Nat.le_refl, Bool.false_eq_true, false_and, and_false, true_and, and_true, if_pos, if_neg, if_true, if_false, not_true_eq_false, not_false_eq_true, hx', k73 hd ht (uu_eq I o 4 (nI st.length)) (show st.length < 40 by omega), e72_0, e72_1, e72_4, e72_5, e72_6, e72_9, e72_10, e72_11, e72_12, e72_13, e72_16, e72_17, e72_20, e72_21, e72_24, e72_25, e72_28, e72_29, e72_30, e72_31, e72_32, e72_33, e72_34, e72_38, e72_39, e72_42, e72_43, e72_44, e72_47, e72_49, e72_50, e72_53, e72_54, e72_57, e72_58, e72_61, e72_63, e72_64, e72_66, e72_68, e72_71, e72_72, e72_74, e72_77, e72_80, e72_82, e72_84, e72_87, e72_88, e72_90, e72_91, e72_93, e72_94, e72_96, e72_96n, e72_97, e72_98, e72_101, e72_101n, e72_102, e72_104, e72_105, e72_108, e72_109, e72_112, e72_115, e72_116, e72_119, e72_121, e72_123, e72_125, e72_128, e72_129, e72_131, e72_132, e72_135, e72_138, e72_140, e72_142, e72_145, e72_146, e72_148, e72_151, e72_152, e72_155, e72_156, e72_159, e72_162, e72_163, e72_165, e72_166, e72_169, e72_171, e72_174, e72_177, e72_180, e72_183, e72_184, e72_187, ct_i, ct_r, ct_n, ct_h, opt_v, opt_s, ref_s, ref_n, eq_self_iff_true, true_or, or_true]
              exact key (nI 0) (by rw [if_neg hx]; rfl)
          · have kl2 : 1 ≤ st.length := by
              unfold ht1 at hk1
              rw [if_neg (by omega), if_neg (by omega)] at hk1
              simp only [List.length_cons] at hk1
              split at hk1
              · omega
              · cases hk1
            match st, kl2 with
            | y :: st, kl2 =>
            simp only [List.length_cons] at kl h4
            have ey : I s st.length = y := hst.2.1
            simp only [List.length_cons] at ex
            have ke : ev1 nm (x :: y :: st) (10000 + w) = ev2 w y x :: st := by
              unfold ev1
              rw [if_neg (by omega), if_neg (by omega)]
              simp only [if_neg (show ¬ 10000 + w = 10006 by omega), if_neg (show ¬ 10000 + w = 10007 by omega), Nat.add_sub_cancel_left]
            rw [ke] at hl
            simp (disch := first | assumption | exact ct_i | exact ct_r | exact ct_n | exact ct_h | omega | exact z_in (by omega) (by omega) | exact b01 | exact Or.inl rfl | exact Or.inr rfl) only [e72_0, e72_1, e72_4, e72_5, e72_6, e72_9, e72_10, e72_11, e72_12, e72_13, e72_16, e72_17, e72_20, e72_21, e72_24, e72_25, e72_28, e72_29, e72_30, e72_31, e72_32, e72_33, e72_34, e72_38, e72_39, e72_42, e72_43, e72_44, e72_47, e72_49, e72_50, e72_53, e72_54, e72_57, e72_58, e72_61, e72_63, e72_64, e72_66, e72_68, e72_71, e72_72, e72_74, e72_77, e72_80, e72_82, e72_84, e72_87, e72_88, e72_90, e72_91, e72_93, e72_94, e72_96, e72_96n, e72_97, e72_98, e72_101, e72_101n, e72_102, e72_104, e72_105, e72_108, e72_109, e72_112, e72_115, e72_116, e72_119, e72_121, e72_123, e72_125, e72_128, e72_129, e72_131, e72_132, e72_135, e72_138, e72_140, e72_142, e72_145, e72_146, e72_148, e72_151, e72_152, e72_155, e72_156, e72_159, e72_162, e72_163, e72_165, e72_166, e72_169, e72_171, e72_174, e72_177, e72_180, e72_183, e72_184, e72_187, ct_i, ct_r, ct_n, ct_h, opt_v, opt_s, ref_s, ref_n, eq_self_iff_true, true_or, or_true, zl0, zl1, zl2, zl3, zl4, zl5, zl6, zl7, zl8, zl9, zl10, zl16, zl32, zl40, zl100, zl160, zIc1, zI_lt, zI_le, nI_eq, nI_add, z_sub, nI_clamp, zI_of, uu_eq, uu_ne, Nat.reduceLT, Nat.reduceLeDiff, Nat.reduceEqDiff, Nat.reduceAdd, Nat.reduceSub, Nat.reduceMul, Nat.not_lt_zero, Nat.lt_irrefl, Nat.le_refl, Bool.false_eq_true, false_and, and_false, true_and, and_true, if_pos, if_neg, if_true, if_false, not_true_eq_false, not_false_eq_true, h1, h2, h2', h3, h3', h6, h7, h8, if_pos kc1, if_pos kc2, kc3, kc4, k6, k7, k74 hd ht h4 (show st.length + 1 < 40 by omega), ex, k74 hd ht (uu_eq I o 4 (nI (st.length + 1))) (show st.length < 40 by omega), ey, k75 hd k3 (show 8 ≤ w by omega)]
            simp (disch := first | assumption | exact ct_i | exact ct_r | exact ct_n | exact ct_h | omega | exact z_in (by omega) (by omega) | exact b01 | exact Or.inl rfl | exact Or.inr rfl) only [zl0, zl1, zl2, zl3, zl4, zl5, zl6, zl7, zl8, zl9, zl10, zl16, zl32, zl40, zl100, zl160, zIc1, zI_lt, zI_le, nI_eq, nI_add, z_sub, nI_clamp, zI_of, uu_eq, uu_ne, Nat.reduceLT, Nat.reduceLeDiff, Nat.reduceEqDiff, Nat.reduceAdd, Nat.reduceSub, Nat.reduceMul, Nat.not_lt_zero, Nat.lt_irrefl, Nat.le_refl, Bool.false_eq_true, false_and, and_false, true_and, and_true, if_pos, if_neg, if_true, if_false, not_true_eq_false, not_false_eq_true, k73 hd ht (uu_eq (u2 I o 4 (nI (st.length + 1))) o 4 (nI st.length)) (show st.length < 40 by omega), e72_0, e72_1, e72_4, e72_5, e72_6, e72_9, e72_10, e72_11, e72_12, e72_13, e72_16, e72_17, e72_20, e72_21, e72_24, e72_25, e72_28, e72_29, e72_30, e72_31, e72_32, e72_33, e72_34, e72_38, e72_39, e72_42, e72_43, e72_44, e72_47, e72_49, e72_50, e72_53, e72_54, e72_57, e72_58, e72_61, e72_63, e72_64, e72_66, e72_68, e72_71, e72_72, e72_74, e72_77, e72_80, e72_82, e72_84, e72_87, e72_88, e72_90, e72_91, e72_93, e72_94, e72_96, e72_96n, e72_97, e72_98, e72_101, e72_101n, e72_102, e72_104, e72_105, e72_108, e72_109, e72_112, e72_115, e72_116, e72_119, e72_121, e72_123, e72_125, e72_128, e72_129, e72_131, e72_132, e72_135, e72_138, e72_140, e72_142, e72_145, e72_146, e72_148, e72_151, e72_152, e72_155, e72_156, e72_159, e72_162, e72_163, e72_165, e72_166, e72_169, e72_171, e72_174, e72_177, e72_180, e72_183, e72_184, e72_187, ct_i, ct_r, ct_n, ct_h, opt_v, opt_s, ref_s, ref_n, eq_self_iff_true, true_or, or_true]
            refine ih (ev2 w y x :: st) (i + 1) _ _ _ (fun x y hx => by simp (disch := omega) only [uu_ne]; exact hI x y hx) (by rw [uu_eq]; rfl) (by simp; omega) ?_ (by rw [hl]; exact hok1) (by omega) hc' (by rw [← ke]; exact H)
            exact stkL_ne g3 ⟨by rw [uu_eq], stkL_up (Nat.le_refl _) (stkL_ne g3 (stkL_ne g3 hst.2.2))⟩
theorem k72 {d : Nat} (hd : 2 ≤ d) {o c e s a : Nat} {n t : Nat} {sh : Nat → Nat × Nat} {I : Nat → Nat → Int32} {L : Nat → Nat → Int64} {R : Nat → Nat → Option Nat} {Q : Option Value → aH → Prop} (ht : tK o c e s sh R) (ha : (sh a).1 = 100 ∧ (sh a).2 = 6) (hao : a ≠ o ∧ a ≠ s) {nm : Nat → Int32} (hnm : ∀ i, i < 6 → I a i = nm i) {p s0 en : Nat} (hp : p < 3) (hen : en ≤ 160) (he : I e p = nI en) (hs : if p = 0 then s0 = 0 else I e (p - 1) = nI s0)
    {cs : List Nat} (hc : ∀ j, j < cs.length → I c (s0 + j) = cCell (cs.getD j 0)) (hl : s0 + cs.length = en) (hok : okc cs 0 1)
    (H : ∀ I', frT o s I I' → Q (some (.int ((evs nm cs []).headD 0))) (n, t, sh, I', L, R)) :
    aC d 72 [.ref o, .int (nI p), .ref a] (n, t, sh, I, L, R) Q := by
  obtain ⟨d, rfl⟩ : ∃ e, d = e + 1 := ⟨d - 1, by omega⟩
  obtain ⟨h1, ⟨h2, h2'⟩, ⟨h3, h3'⟩, ⟨h5, h5'⟩, ⟨h6, h7, h8⟩, ⟨g1, g2, g3⟩, g4, g5, g6⟩ := id ht
  by_cases hp0 : p = 0
  · subst hp0
    rw [if_pos rfl] at hs
    subst hs
    simp (disch := first | assumption | exact ct_i | exact ct_r | exact ct_n | exact ct_h | omega | exact z_in (by omega) (by omega) | exact b01 | exact Or.inl rfl | exact Or.inr rfl) only [b72, e72_0, e72_1, e72_4, e72_5, e72_6, e72_9, e72_10, e72_11, e72_12, e72_13, e72_16, e72_17, e72_20, e72_21, e72_24, e72_25, e72_28, e72_29, e72_30, e72_31, e72_32, e72_33, e72_34, e72_38, e72_39, e72_42, e72_43, e72_44, e72_47, e72_49, e72_50, e72_53, e72_54, e72_57, e72_58, e72_61, e72_63, e72_64, e72_66, e72_68, e72_71, e72_72, e72_74, e72_77, e72_80, e72_82, e72_84, e72_87, e72_88, e72_90, e72_91, e72_93, e72_94, e72_96, e72_96n, e72_97, e72_98, e72_101, e72_101n, e72_102, e72_104, e72_105, e72_108, e72_109, e72_112, e72_115, e72_116, e72_119, e72_121, e72_123, e72_125, e72_128, e72_129, e72_131, e72_132, e72_135, e72_138, e72_140, e72_142, e72_145, e72_146, e72_148, e72_151, e72_152, e72_155, e72_156, e72_159, e72_162, e72_163, e72_165, e72_166, e72_169, e72_171, e72_174, e72_177, e72_180, e72_183, e72_184, e72_187, ct_i, ct_r, ct_n, ct_h, opt_v, opt_s, ref_s, ref_n, eq_self_iff_true, true_or, or_true, zl0, zl1, zl2, zl3, zl4, zl5, zl6, zl7, zl8, zl9, zl10, zl16, zl32, zl40, zl100, zl160, zIc1, zI_lt, zI_le, nI_eq, nI_add, z_sub, nI_clamp, zI_of, uu_eq, uu_ne, Nat.reduceLT, Nat.reduceLeDiff, Nat.reduceEqDiff, Nat.reduceAdd, Nat.reduceSub, Nat.reduceMul, Nat.not_lt_zero, Nat.lt_irrefl, Nat.le_refl, Bool.false_eq_true, false_and, and_false, true_and, and_true, if_pos, if_neg, if_true, if_false, not_true_eq_false, not_false_eq_true, h1]
    exact k72l (show 1 ≤ d by omega) ht ha hao (nm := nm) (I0 := I) hp hen hnm he cs [] _ _ _ _ (fun x y hx => uu_ne _ _ _ _ (by omega)) (uu_eq _ _ _ _) (Nat.zero_le _) trivial hok hl hc H
  · rw [if_neg hp0] at hs
    simp (disch := first | assumption | exact ct_i | exact ct_r | exact ct_n | exact ct_h | omega | exact z_in (by omega) (by omega) | exact b01 | exact Or.inl rfl | exact Or.inr rfl) only [b72, e72_0, e72_1, e72_4, e72_5, e72_6, e72_9, e72_10, e72_11, e72_12, e72_13, e72_16, e72_17, e72_20, e72_21, e72_24, e72_25, e72_28, e72_29, e72_30, e72_31, e72_32, e72_33, e72_34, e72_38, e72_39, e72_42, e72_43, e72_44, e72_47, e72_49, e72_50, e72_53, e72_54, e72_57, e72_58, e72_61, e72_63, e72_64, e72_66, e72_68, e72_71, e72_72, e72_74, e72_77, e72_80, e72_82, e72_84, e72_87, e72_88, e72_90, e72_91, e72_93, e72_94, e72_96, e72_96n, e72_97, e72_98, e72_101, e72_101n, e72_102, e72_104, e72_105, e72_108, e72_109, e72_112, e72_115, e72_116, e72_119, e72_121, e72_123, e72_125, e72_128, e72_129, e72_131, e72_132, e72_135, e72_138, e72_140, e72_142, e72_145, e72_146, e72_148, e72_151, e72_152, e72_155, e72_156, e72_159, e72_162, e72_163, e72_165, e72_166, e72_169, e72_171, e72_174, e72_177, e72_180, e72_183, e72_184, e72_187, ct_i, ct_r, ct_n, ct_h, opt_v, opt_s, ref_s, ref_n, eq_self_iff_true, true_or, or_true, zl0, zl1, zl2, zl3, zl4, zl5, zl6, zl7, zl8, zl9, zl10, zl16, zl32, zl40, zl100, zl160, zIc1, zI_lt, zI_le, nI_eq, nI_add, z_sub, nI_clamp, zI_of, uu_eq, uu_ne, Nat.reduceLT, Nat.reduceLeDiff, Nat.reduceEqDiff, Nat.reduceAdd, Nat.reduceSub, Nat.reduceMul, Nat.not_lt_zero, Nat.lt_irrefl, Nat.le_refl, Bool.false_eq_true, false_and, and_false, true_and, and_true, if_pos, if_neg, if_true, if_false, not_true_eq_false, not_false_eq_true, h1, h3, h3', h7, hs]
    exact k72l (show 1 ≤ d by omega) ht ha hao (nm := nm) (I0 := I) hp hen hnm he cs [] _ _ _ _ (fun x y hx => uu_ne _ _ _ _ (by omega)) (uu_eq _ _ _ _) (Nat.zero_le _) trivial hok hl hc H
def fI (I : Nat → Nat → Int32) (a len : Nat) (v : Int32) : Nat → Nat → Int32 := fun x k => if x = a ∧ k < len then v else I x k
theorem fI_0 {I : Nat → Nat → Int32} {a : Nat} {v : Int32} : fI I a 0 v = I := by
  funext x k; simp [fI]
theorem fI_s {I : Nat → Nat → Int32} {a i : Nat} {v : Int32} : u2 (fI I a i v) a i v = fI I a (i + 1) v := by
  funext x k
  simp only [u2, fI]
  by_cases h : x = a ∧ k = i
  · rw [if_pos h, if_pos (by omega)]
  · rw [if_neg h]
    by_cases h2 : x = a ∧ k < i
    · rw [if_pos h2, if_pos (by omega)]
    · rw [if_neg h2, if_neg (by omega)]
theorem fI_in {I : Nat → Nat → Int32} {a i k : Nat} {v : Int32} (h : k < i) : fI I a i v a k = v := if_pos ⟨rfl, h⟩
theorem fI_ne {I : Nat → Nat → Int32} {a i x k : Nat} {v : Int32} (h : ¬ (x = a ∧ k < i)) : fI I a i v x k = I x k := if_neg h
theorem k215l {d : Nat} {a len : Nat} {v : Int32} {n t : Nat} {sh : Nat → Nat × Nat} {I : Nat → Nat → Int32} {L : Nat → Nat → Int64} {R : Nat → Nat → Option Nat} {Q : Option Value → aH → Prop} (h1 : (sh a).1 = 100) (h2 : (sh a).2 = len) (hl : len < 2 ^ 31) : ∀ k i, i + k = len →
    (aE (a_cl_ d) 215 (5, [.ref a, .int v, .int (nI i), .int (nI len)], [], (n, t, sh, fI I a i v, L, R)) Q ↔ Q none (n, t, sh, fI I a len v, L, R)) := by
  intro k
  induction k with
  | zero =>
    intro i hi
    obtain rfl : i = len := by omega
    simp (disch := first | assumption | exact ct_i | exact ct_r | exact ct_n | exact ct_h | omega | exact z_in (by omega) (by omega) | exact b01 | exact Or.inl rfl | exact Or.inr rfl) only [e215_0, e215_1, e215_2, e215_2n, e215_3, e215_4, e215_5, e215_6, e215_7, e215_10, e215_10n, e215_11, e215_12, e215_13, e215_14, e215_17, e215_20, ct_i, ct_r, ct_n, ct_h, opt_v, opt_s, ref_s, ref_n, eq_self_iff_true, true_or, or_true, zl0, zl1, zl2, zl3, zl4, zl5, zl6, zl7, zl8, zl9, zl10, zl16, zl32, zl40, zl100, zl160, zIc1, zI_lt, zI_le, nI_eq, nI_add, z_sub, nI_clamp, zI_of, uu_eq, uu_ne, Nat.reduceLT, Nat.reduceLeDiff, Nat.reduceEqDiff, Nat.reduceAdd, Nat.reduceSub, Nat.reduceMul, Nat.not_lt_zero, Nat.lt_irrefl, Nat.le_refl, Bool.false_eq_true, false_and, and_false, true_and, and_true, if_pos, if_neg, if_true, if_false, not_true_eq_false, not_false_eq_true]
  | succ k ih =>
    intro i hi
    rw [e215_5]
    simp (disch := first | assumption | exact ct_i | exact ct_r | exact ct_n | exact ct_h | omega | exact z_in (by omega) (by omega) | exact b01 | exact Or.inl rfl | exact Or.inr rfl) only [e215_0, e215_1, e215_2, e215_2n, e215_3, e215_4, e215_6, e215_7, e215_10, e215_10n, e215_11, e215_12, e215_13, e215_14, e215_17, e215_20, ct_i, ct_r, ct_n, ct_h, opt_v, opt_s, ref_s, ref_n, eq_self_iff_true, true_or, or_true, zl0, zl1, zl2, zl3, zl4, zl5, zl6, zl7, zl8, zl9, zl10, zl16, zl32, zl40, zl100, zl160, zIc1, zI_lt, zI_le, nI_eq, nI_add, z_sub, nI_clamp, zI_of, uu_eq, uu_ne, Nat.reduceLT, Nat.reduceLeDiff, Nat.reduceEqDiff, Nat.reduceAdd, Nat.reduceSub, Nat.reduceMul, Nat.not_lt_zero, Nat.lt_irrefl, Nat.le_refl, Bool.false_eq_true, false_and, and_false, true_and, and_true, if_pos, if_neg, if_true, if_false, not_true_eq_false, not_false_eq_true, h1, h2, fI_s]
    exact ih (i + 1) (by omega)
theorem k215 {d : Nat} (hd : 1 ≤ d) {a len : Nat} {v : Int32} {n t : Nat} {sh : Nat → Nat × Nat} {I : Nat → Nat → Int32} {L : Nat → Nat → Int64} {R : Nat → Nat → Option Nat} {Q : Option Value → aH → Prop} (h1 : (sh a).1 = 100) (h2 : (sh a).2 = len) (hl : len < 2 ^ 31) :
    aC d 215 [.ref a, .int v] (n, t, sh, I, L, R) Q ↔ Q none (n, t, sh, fI I a len v, L, R) := by
  obtain ⟨d, rfl⟩ : ∃ e, d = e + 1 := ⟨d - 1, by omega⟩
  have := k215l (d := d) (v := v) (n := n) (t := t) (I := I) (L := L) (R := R) (Q := Q) h1 h2 hl len 0 (by omega)
  rw [fI_0] at this
  rw [← this]
  simp (disch := first | assumption | exact ct_i | exact ct_r | exact ct_n | exact ct_h | omega | exact z_in (by omega) (by omega) | exact b01 | exact Or.inl rfl | exact Or.inr rfl) only [b215, e215_0, e215_1, e215_2, e215_2n, e215_3, e215_4, e215_6, e215_7, e215_10, e215_10n, e215_11, e215_12, e215_13, e215_14, e215_17, e215_20, ct_i, ct_r, ct_n, ct_h, opt_v, opt_s, ref_s, ref_n, eq_self_iff_true, true_or, or_true, zl0, zl1, zl2, zl3, zl4, zl5, zl6, zl7, zl8, zl9, zl10, zl16, zl32, zl40, zl100, zl160, zIc1, zI_lt, zI_le, nI_eq, nI_add, z_sub, nI_clamp, zI_of, uu_eq, uu_ne, Nat.reduceLT, Nat.reduceLeDiff, Nat.reduceEqDiff, Nat.reduceAdd, Nat.reduceSub, Nat.reduceMul, Nat.not_lt_zero, Nat.lt_irrefl, Nat.le_refl, Bool.false_eq_true, false_and, and_false, true_and, and_true, if_pos, if_neg, if_true, if_false, not_true_eq_false, not_false_eq_true, h1, h2]
theorem k69 {d : Nat} (hd : 2 ≤ d) {o c e s : Nat} {n t : Nat} {sh : Nat → Nat × Nat} {I : Nat → Nat → Int32} {L : Nat → Nat → Int64} {R : Nat → Nat → Option Nat} {Q : Option Value → aH → Prop} (ht : tK o c e s sh R) :
    aC d 69 [.ref o] (n, t, sh, I, L, R) Q ↔ Q none (n, t, sh, fI (u2 I o 3 (nI 0)) e 3 (nI 0), L, R) := by
  obtain ⟨d, rfl⟩ : ∃ e, d = e + 1 := ⟨d - 1, by omega⟩
  obtain ⟨h1, ⟨h2, h2'⟩, ⟨h3, h3'⟩, ⟨h5, h5'⟩, ⟨h6, h7, h8⟩, ⟨g1, g2, g3⟩, g4, g5, g6⟩ := ht
  simp (disch := first | assumption | exact ct_i | exact ct_r | exact ct_n | exact ct_h | omega | exact z_in (by omega) (by omega) | exact b01 | exact Or.inl rfl | exact Or.inr rfl) only [b69, e69_0, e69_1, e69_2, e69_5, e69_6, e69_9, e69_10, e69_13, ct_i, ct_r, ct_n, ct_h, opt_v, opt_s, ref_s, ref_n, eq_self_iff_true, true_or, or_true, zl0, zl1, zl2, zl3, zl4, zl5, zl6, zl7, zl8, zl9, zl10, zl16, zl32, zl40, zl100, zl160, zIc1, zI_lt, zI_le, nI_eq, nI_add, z_sub, nI_clamp, zI_of, uu_eq, uu_ne, Nat.reduceLT, Nat.reduceLeDiff, Nat.reduceEqDiff, Nat.reduceAdd, Nat.reduceSub, Nat.reduceMul, Nat.not_lt_zero, Nat.lt_irrefl, Nat.le_refl, Bool.false_eq_true, false_and, and_false, true_and, and_true, if_pos, if_neg, if_true, if_false, not_true_eq_false, not_false_eq_true, h1, h7, k215 (show 1 ≤ d by omega) h3 h3']
theorem k70 {d : Nat} (hd : 1 ≤ d) {o c e s k : Nat} {v : Int32} {n t : Nat} {sh : Nat → Nat × Nat} {I : Nat → Nat → Int32} {L : Nat → Nat → Int64} {R : Nat → Nat → Option Nat} {Q : Option Value → aH → Prop} (ht : tK o c e s sh R) (h4 : I o 3 = nI k) (hk : k < 160) :
    aC d 70 [.ref o, .int v] (n, t, sh, I, L, R) Q ↔ Q none (n, t, sh, u2 (u2 I c k v) o 3 (nI (k + 1)), L, R) := by
  obtain ⟨d, rfl⟩ : ∃ e, d = e + 1 := ⟨d - 1, by omega⟩
  obtain ⟨h1, ⟨h2, h2'⟩, ⟨h3, h3'⟩, ⟨h5, h5'⟩, ⟨h6, h7, h8⟩, ⟨g1, g2, g3⟩, g4, g5, g6⟩ := ht
  simp (disch := first | assumption | exact ct_i | exact ct_r | exact ct_n | exact ct_h | omega | exact z_in (by omega) (by omega) | exact b01 | exact Or.inl rfl | exact Or.inr rfl) only [b70, e70_0, e70_1, e70_4, e70_5, e70_8, e70_9, e70_12, e70_13, e70_14, e70_17, e70_18, e70_21, e70_22, e70_23, e70_24, e70_25, e70_28, e70_29, e70_30, e70_33, ct_i, ct_r, ct_n, ct_h, opt_v, opt_s, ref_s, ref_n, eq_self_iff_true, true_or, or_true, zl0, zl1, zl2, zl3, zl4, zl5, zl6, zl7, zl8, zl9, zl10, zl16, zl32, zl40, zl100, zl160, zIc1, zI_lt, zI_le, nI_eq, nI_add, z_sub, nI_clamp, zI_of, uu_eq, uu_ne, Nat.reduceLT, Nat.reduceLeDiff, Nat.reduceEqDiff, Nat.reduceAdd, Nat.reduceSub, Nat.reduceMul, Nat.not_lt_zero, Nat.lt_irrefl, Nat.le_refl, Bool.false_eq_true, false_and, and_false, true_and, and_true, if_pos, if_neg, if_true, if_false, not_true_eq_false, not_false_eq_true, h1, h2, h2', h6, h4]
theorem k71 {d : Nat} (hd : 1 ≤ d) {o c e s k p : Nat} {n t : Nat} {sh : Nat → Nat × Nat} {I : Nat → Nat → Int32} {L : Nat → Nat → Int64} {R : Nat → Nat → Option Nat} {Q : Option Value → aH → Prop} (ht : tK o c e s sh R) (h4 : I o 3 = nI k) (hp : p < 3) :
    aC d 71 [.ref o, .int (nI p)] (n, t, sh, I, L, R) Q ↔ Q none (n, t, sh, u2 I e p (nI k), L, R) := by
  obtain ⟨d, rfl⟩ : ∃ e, d = e + 1 := ⟨d - 1, by omega⟩
  obtain ⟨h1, ⟨h2, h2'⟩, ⟨h3, h3'⟩, ⟨h5, h5'⟩, ⟨h6, h7, h8⟩, ⟨g1, g2, g3⟩, g4, g5, g6⟩ := ht
  simp (disch := first | assumption | exact ct_i | exact ct_r | exact ct_n | exact ct_h | omega | exact z_in (by omega) (by omega) | exact b01 | exact Or.inl rfl | exact Or.inr rfl) only [b71, e71_0, e71_1, e71_4, e71_5, e71_6, e71_9, e71_10, e71_13, e71_14, e71_15, e71_18, e71_19, ct_i, ct_r, ct_n, ct_h, opt_v, opt_s, ref_s, ref_n, eq_self_iff_true, true_or, or_true, zl0, zl1, zl2, zl3, zl4, zl5, zl6, zl7, zl8, zl9, zl10, zl16, zl32, zl40, zl100, zl160, zIc1, zI_lt, zI_le, nI_eq, nI_add, z_sub, nI_clamp, zI_of, uu_eq, uu_ne, Nat.reduceLT, Nat.reduceLeDiff, Nat.reduceEqDiff, Nat.reduceAdd, Nat.reduceSub, Nat.reduceMul, Nat.not_lt_zero, Nat.lt_irrefl, Nat.le_refl, Bool.false_eq_true, false_and, and_false, true_and, and_true, if_pos, if_neg, if_true, if_false, not_true_eq_false, not_false_eq_true, h1, h3, h3', h7, h4]
/-- the six names written into their array -/
def nm6 (I : Nat → Nat → Int32) (a : Nat) (x0 x1 x2 x3 x4 x5 : Int32) : Nat → Nat → Int32 := u2 (u2 (u2 (u2 (u2 (u2 I a 0 x0) a 1 x1) a 2 x2) a 3 x3) a 4 x4) a 5 x5
theorem k13 {d : Nat} (hd : 1 ≤ d) {o a : Nat} {x0 x1 x2 x3 x4 x5 : Int32} {n t : Nat} {sh : Nat → Nat × Nat} {I : Nat → Nat → Int32} {L : Nat → Nat → Int64} {R : Nat → Nat → Option Nat} {Q : Option Value → aH → Prop} (h1 : (sh o).1 = 1) (h2 : (sh a).1 = 100) (h3 : (sh a).2 = 6) (h4 : R o 3 = some a) :
    aC d 13 [.ref o, .int x0, .int x1, .int x2, .int x3, .int x4, .int x5] (n, t, sh, I, L, R) Q ↔ Q none (n, t, sh, nm6 I a x0 x1 x2 x3 x4 x5, L, R) := by
  obtain ⟨d, rfl⟩ : ∃ e, d = e + 1 := ⟨d - 1, by omega⟩
  simp (disch := first | assumption | exact ct_i | exact ct_r | exact ct_n | exact ct_h | omega | exact z_in (by omega) (by omega) | exact b01 | exact Or.inl rfl | exact Or.inr rfl) only [b13, e13_0, e13_1, e13_4, e13_5, e13_6, e13_7, e13_8, e13_11, e13_12, e13_13, e13_14, e13_15, e13_18, e13_19, e13_20, e13_21, e13_22, e13_25, e13_26, e13_28, e13_29, e13_30, e13_33, e13_34, e13_36, e13_37, e13_38, e13_41, e13_42, e13_44, e13_45, ct_i, ct_r, ct_n, ct_h, opt_v, opt_s, ref_s, ref_n, eq_self_iff_true, true_or, or_true, zl0, zl1, zl2, zl3, zl4, zl5, zl6, zl7, zl8, zl9, zl10, zl16, zl32, zl40, zl100, zl160, zIc1, zI_lt, zI_le, nI_eq, nI_add, z_sub, nI_clamp, zI_of, uu_eq, uu_ne, Nat.reduceLT, Nat.reduceLeDiff, Nat.reduceEqDiff, Nat.reduceAdd, Nat.reduceSub, Nat.reduceMul, Nat.not_lt_zero, Nat.lt_irrefl, Nat.le_refl, Bool.false_eq_true, false_and, and_false, true_and, and_true, if_pos, if_neg, if_true, if_false, not_true_eq_false, not_false_eq_true, h1, h2, h3, h4, nm6]
