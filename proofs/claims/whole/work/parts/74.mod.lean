/-! the model's heap -/
def mSHl : List (Nat × Nat) := [(7, 48), (100, 4), (100, 4), (100, 4), (100, 4), (100, 4), (100, 4), (100, 4), (100, 4), (100, 160), (100, 3570), (100, 21), (100, 21), (102, 57), (100, 170), (100, 6), (100, 6144), (100, 6144), (100, 24576), (100, 6144), (100, 4), (100, 4), (100, 4), (100, 160), (100, 40), (100, 7)]
def mRRl : List (Nat × Nat) := [(4, 1), (5, 2), (6, 3), (7, 4), (8, 5), (9, 6), (10, 7), (11, 8), (14, 9), (18, 10), (19, 11), (20, 12), (29, 13), (30, 14), (31, 15), (32, 16), (34, 17), (35, 18), (36, 19), (43, 20), (44, 21), (45, 22), (46, 23), (47, 24)]
def mK (sh : Nat → Nat × Nat) (R : Nat → Nat → Option Nat) : Prop := (∀ p ∈ mSHl.zipIdx, sh p.2 = p.1) ∧ ∀ p ∈ mRRl, R 0 p.1 = some p.2
section
variable {sh : Nat → Nat × Nat} {R : Nat → Nat → Option Nat}
theorem mm_0 (h : mK sh R) : (sh 0).1 = 7 := congrArg Prod.fst (h.1 ((7, 48), 0) (by decide))
theorem mm_x1 (h : mK sh R) : (sh 1).1 = 100 := congrArg Prod.fst (h.1 ((100, 4), 1) (by decide))
theorem mm_y1 (h : mK sh R) : (sh 1).2 = 4 := congrArg Prod.snd (h.1 ((100, 4), 1) (by decide))
theorem mm_r4 (h : mK sh R) : R 0 4 = some 1 := h.2 (4, 1) (by decide)
theorem mm_x2 (h : mK sh R) : (sh 2).1 = 100 := congrArg Prod.fst (h.1 ((100, 4), 2) (by decide))
theorem mm_y2 (h : mK sh R) : (sh 2).2 = 4 := congrArg Prod.snd (h.1 ((100, 4), 2) (by decide))
theorem mm_r5 (h : mK sh R) : R 0 5 = some 2 := h.2 (5, 2) (by decide)
theorem mm_x3 (h : mK sh R) : (sh 3).1 = 100 := congrArg Prod.fst (h.1 ((100, 4), 3) (by decide))
theorem mm_y3 (h : mK sh R) : (sh 3).2 = 4 := congrArg Prod.snd (h.1 ((100, 4), 3) (by decide))
theorem mm_r6 (h : mK sh R) : R 0 6 = some 3 := h.2 (6, 3) (by decide)
theorem mm_x4 (h : mK sh R) : (sh 4).1 = 100 := congrArg Prod.fst (h.1 ((100, 4), 4) (by decide))
theorem mm_y4 (h : mK sh R) : (sh 4).2 = 4 := congrArg Prod.snd (h.1 ((100, 4), 4) (by decide))
theorem mm_r7 (h : mK sh R) : R 0 7 = some 4 := h.2 (7, 4) (by decide)
theorem mm_x5 (h : mK sh R) : (sh 5).1 = 100 := congrArg Prod.fst (h.1 ((100, 4), 5) (by decide))
theorem mm_y5 (h : mK sh R) : (sh 5).2 = 4 := congrArg Prod.snd (h.1 ((100, 4), 5) (by decide))
theorem mm_r8 (h : mK sh R) : R 0 8 = some 5 := h.2 (8, 5) (by decide)
theorem mm_x6 (h : mK sh R) : (sh 6).1 = 100 := congrArg Prod.fst (h.1 ((100, 4), 6) (by decide))
theorem mm_y6 (h : mK sh R) : (sh 6).2 = 4 := congrArg Prod.snd (h.1 ((100, 4), 6) (by decide))
theorem mm_r9 (h : mK sh R) : R 0 9 = some 6 := h.2 (9, 6) (by decide)
theorem mm_x7 (h : mK sh R) : (sh 7).1 = 100 := congrArg Prod.fst (h.1 ((100, 4), 7) (by decide))
theorem mm_y7 (h : mK sh R) : (sh 7).2 = 4 := congrArg Prod.snd (h.1 ((100, 4), 7) (by decide))
theorem mm_r10 (h : mK sh R) : R 0 10 = some 7 := h.2 (10, 7) (by decide)
theorem mm_x8 (h : mK sh R) : (sh 8).1 = 100 := congrArg Prod.fst (h.1 ((100, 4), 8) (by decide))
theorem mm_y8 (h : mK sh R) : (sh 8).2 = 4 := congrArg Prod.snd (h.1 ((100, 4), 8) (by decide))
theorem mm_r11 (h : mK sh R) : R 0 11 = some 8 := h.2 (11, 8) (by decide)
theorem mm_x9 (h : mK sh R) : (sh 9).1 = 100 := congrArg Prod.fst (h.1 ((100, 160), 9) (by decide))
theorem mm_y9 (h : mK sh R) : (sh 9).2 = 160 := congrArg Prod.snd (h.1 ((100, 160), 9) (by decide))
theorem mm_r14 (h : mK sh R) : R 0 14 = some 9 := h.2 (14, 9) (by decide)
theorem mm_x10 (h : mK sh R) : (sh 10).1 = 100 := congrArg Prod.fst (h.1 ((100, 3570), 10) (by decide))
theorem mm_y10 (h : mK sh R) : (sh 10).2 = 3570 := congrArg Prod.snd (h.1 ((100, 3570), 10) (by decide))
theorem mm_r18 (h : mK sh R) : R 0 18 = some 10 := h.2 (18, 10) (by decide)
theorem mm_x11 (h : mK sh R) : (sh 11).1 = 100 := congrArg Prod.fst (h.1 ((100, 21), 11) (by decide))
theorem mm_y11 (h : mK sh R) : (sh 11).2 = 21 := congrArg Prod.snd (h.1 ((100, 21), 11) (by decide))
theorem mm_r19 (h : mK sh R) : R 0 19 = some 11 := h.2 (19, 11) (by decide)
theorem mm_x12 (h : mK sh R) : (sh 12).1 = 100 := congrArg Prod.fst (h.1 ((100, 21), 12) (by decide))
theorem mm_y12 (h : mK sh R) : (sh 12).2 = 21 := congrArg Prod.snd (h.1 ((100, 21), 12) (by decide))
theorem mm_r20 (h : mK sh R) : R 0 20 = some 12 := h.2 (20, 12) (by decide)
theorem mm_x13 (h : mK sh R) : (sh 13).1 = 102 := congrArg Prod.fst (h.1 ((102, 57), 13) (by decide))
theorem mm_y13 (h : mK sh R) : (sh 13).2 = 57 := congrArg Prod.snd (h.1 ((102, 57), 13) (by decide))
theorem mm_r29 (h : mK sh R) : R 0 29 = some 13 := h.2 (29, 13) (by decide)
theorem mm_x14 (h : mK sh R) : (sh 14).1 = 100 := congrArg Prod.fst (h.1 ((100, 170), 14) (by decide))
theorem mm_y14 (h : mK sh R) : (sh 14).2 = 170 := congrArg Prod.snd (h.1 ((100, 170), 14) (by decide))
theorem mm_r30 (h : mK sh R) : R 0 30 = some 14 := h.2 (30, 14) (by decide)
theorem mm_x15 (h : mK sh R) : (sh 15).1 = 100 := congrArg Prod.fst (h.1 ((100, 6), 15) (by decide))
theorem mm_y15 (h : mK sh R) : (sh 15).2 = 6 := congrArg Prod.snd (h.1 ((100, 6), 15) (by decide))
theorem mm_r31 (h : mK sh R) : R 0 31 = some 15 := h.2 (31, 15) (by decide)
theorem mm_x16 (h : mK sh R) : (sh 16).1 = 100 := congrArg Prod.fst (h.1 ((100, 6144), 16) (by decide))
theorem mm_y16 (h : mK sh R) : (sh 16).2 = 6144 := congrArg Prod.snd (h.1 ((100, 6144), 16) (by decide))
theorem mm_r32 (h : mK sh R) : R 0 32 = some 16 := h.2 (32, 16) (by decide)
theorem mm_x17 (h : mK sh R) : (sh 17).1 = 100 := congrArg Prod.fst (h.1 ((100, 6144), 17) (by decide))
theorem mm_y17 (h : mK sh R) : (sh 17).2 = 6144 := congrArg Prod.snd (h.1 ((100, 6144), 17) (by decide))
theorem mm_r34 (h : mK sh R) : R 0 34 = some 17 := h.2 (34, 17) (by decide)
theorem mm_x18 (h : mK sh R) : (sh 18).1 = 100 := congrArg Prod.fst (h.1 ((100, 24576), 18) (by decide))
theorem mm_y18 (h : mK sh R) : (sh 18).2 = 24576 := congrArg Prod.snd (h.1 ((100, 24576), 18) (by decide))
theorem mm_r35 (h : mK sh R) : R 0 35 = some 18 := h.2 (35, 18) (by decide)
theorem mm_x19 (h : mK sh R) : (sh 19).1 = 100 := congrArg Prod.fst (h.1 ((100, 6144), 19) (by decide))
theorem mm_y19 (h : mK sh R) : (sh 19).2 = 6144 := congrArg Prod.snd (h.1 ((100, 6144), 19) (by decide))
theorem mm_r36 (h : mK sh R) : R 0 36 = some 19 := h.2 (36, 19) (by decide)
theorem mm_x20 (h : mK sh R) : (sh 20).1 = 100 := congrArg Prod.fst (h.1 ((100, 4), 20) (by decide))
theorem mm_y20 (h : mK sh R) : (sh 20).2 = 4 := congrArg Prod.snd (h.1 ((100, 4), 20) (by decide))
theorem mm_r43 (h : mK sh R) : R 0 43 = some 20 := h.2 (43, 20) (by decide)
theorem mm_x21 (h : mK sh R) : (sh 21).1 = 100 := congrArg Prod.fst (h.1 ((100, 4), 21) (by decide))
theorem mm_y21 (h : mK sh R) : (sh 21).2 = 4 := congrArg Prod.snd (h.1 ((100, 4), 21) (by decide))
theorem mm_r44 (h : mK sh R) : R 0 44 = some 21 := h.2 (44, 21) (by decide)
theorem mm_x22 (h : mK sh R) : (sh 22).1 = 100 := congrArg Prod.fst (h.1 ((100, 4), 22) (by decide))
theorem mm_y22 (h : mK sh R) : (sh 22).2 = 4 := congrArg Prod.snd (h.1 ((100, 4), 22) (by decide))
theorem mm_r45 (h : mK sh R) : R 0 45 = some 22 := h.2 (45, 22) (by decide)
theorem mm_x23 (h : mK sh R) : (sh 23).1 = 100 := congrArg Prod.fst (h.1 ((100, 160), 23) (by decide))
theorem mm_y23 (h : mK sh R) : (sh 23).2 = 160 := congrArg Prod.snd (h.1 ((100, 160), 23) (by decide))
theorem mm_r46 (h : mK sh R) : R 0 46 = some 23 := h.2 (46, 23) (by decide)
theorem mm_x24 (h : mK sh R) : (sh 24).1 = 100 := congrArg Prod.fst (h.1 ((100, 40), 24) (by decide))
theorem mm_y24 (h : mK sh R) : (sh 24).2 = 40 := congrArg Prod.snd (h.1 ((100, 40), 24) (by decide))
theorem mm_r47 (h : mK sh R) : R 0 47 = some 24 := h.2 (47, 24) (by decide)
end
/-- the model's word for a code -/
def mCell (k : Nat) : Int32 := if k < 10000 then nI k else if k < 10006 then -nI 1 - nI (k - 10000) else match k - 10000 with
  | 6 => -100 | 7 => -101 | 8 => -103 | 9 => -102 | 10 => -160 | 11 => -161 | 12 => -143 | 13 => -145 | _ => -142
def txM (f : Nat → List Nat) (i : Nat) (I : Nat → Nat → Int32) : Prop := ∀ p, p < 3 → I 11 (3 * i + p) = nI (510 * i + tS f p) ∧ I 12 (3 * i + p) = nI (510 * i + tS f p + (f p).length) ∧ ∀ j, j < (f p).length → I 10 (510 * i + tS f p + j) = mCell ((f p).getD j 0)
/-- the doors but for their kinds -/
def dM (nd : Nat) (D : Nat → Nat → Nat) (I : Nat → Nat → Int32) : Prop := I 0 1 = nI nd ∧ ∀ d, d < nd → I 2 d = nI (D d 0) ∧ I 3 d = nI (D d 1) ∧ I 4 d = nI (D d 2) ∧ I 5 d = nI (D d 3)
/-- the situation in thought, with the kinds in thought -/
def thS (nd : Nat) (D : Nat → Nat → Nat) (s : Nat) (I : Nat → Nat → Int32) : Prop := I 0 12 = nI (tno s) ∧ I 0 13 = nI (rmo s) ∧ ∀ d, d < nd → I 7 d = nI (stt s d) ∧ I 8 d = nI (D d 4)
def MI (Z : Nat → Nat) (D : Nat → Nat → Nat) (tx : Nat → Nat → List Nat) (tp so sz : Nat → Nat) (it : Nat → Nat → Int32) (I : Nat → Nat → Int32) : Prop :=
  dM (Z 1) D I ∧ (I 0 0 = nI (Z 0) ∧ I 0 2 = nI (tno (Z 2)) ∧ I 0 3 = nI (rmo (Z 2))) ∧ (∀ d, d < Z 1 → I 1 d = nI (D d 4) ∧ I 6 d = nI (stt (Z 2) d)) ∧
  (I 0 15 = nI (Z 5) ∧ ∀ k, k < Z 5 → I 9 k = nI (tp k)) ∧ (I 0 16 = nI (Z 3) ∧ I 0 17 = nI (Z 4)) ∧ (∀ i, i < Z 3 → txM (tx i) i I) ∧
  (I 0 38 = nI (Z 6) ∧ (Z 6 = 1 → (I 0 39 = nI (Z 8) ∧ I 0 40 = nI (tno (Z 7)) ∧ I 0 41 = nI (rmo (Z 7)) ∧ I 0 42 = nI (Z 9)) ∧ ∀ d, d < Z 8 → I 20 d = nI (stt (Z 7) d))) ∧
  (∀ j, j < 4 → I 21 j = dI (so j) ∧ I 22 j = nI (sz j) ∧ ∀ k, k < 40 → I 23 (40 * j + k) = it j k) ∧ ∀ j, j < 57 → I 13 j = nI (wb 0 j)
def RM (T0 : Nat) (Z : Nat → Nat) (D : Nat → Nat → Nat) (tx : Nat → Nat → List Nat) (tp so sz : Nat → Nat) (it : Nat → Nat → Int32) (h : aH) : Prop :=
  okS Z D tx tp so sz ∧ (h.1 = 26 ∧ h.2.1 = T0) ∧ mK h.2.2.1 h.2.2.2.2.2 ∧ (∀ a k b, h.2.2.2.2.2 a k = some b → b < 26) ∧ MI Z D tx tp so sz it h.2.2.2.1
/-- what thinking changes -/
def scM (x k : Nat) : Prop := x = 0 ∧ (k = 12 ∨ k = 13 ∨ 21 ≤ k ∧ k ≤ 28 ∨ k = 33 ∨ k = 37) ∨ x = 7 ∨ x = 8 ∨ 14 ≤ x ∧ x ≤ 19 ∨ x = 24
def frM (I I' : Nat → Nat → Int32) : Prop := ∀ x k, ¬ scM x k → I' x k = I x k
theorem frM_0 (I : Nat → Nat → Int32) : frM I I := fun _ _ _ => rfl
theorem frM_t {I I1 I2 : Nat → Nat → Int32} (h : frM I I1) (h' : frM I1 I2) : frM I I2 := fun x k hx => (h' x k hx).trans (h x k hx)
theorem frM_u {I I1 : Nat → Nat → Int32} {o k : Nat} {v : Int32} (h : frM I I1) (hs : scM o k) : frM I (u2 I1 o k v) := fun x y hx => by
  rw [uu_ne _ _ _ _ (fun e => hx (by obtain ⟨rfl, rfl⟩ := e; exact hs))]; exact h x y hx
theorem dM_fr {nd : Nat} {D : Nat → Nat → Nat} {I I' : Nat → Nat → Int32} (h : dM nd D I) (f : frM I I') : dM nd D I' :=
  ⟨(f 0 1 (by unfold scM; omega)).trans h.1, fun d hd => ⟨(f _ _ (by unfold scM; omega)).trans (h.2 d hd).1, (f _ _ (by unfold scM; omega)).trans (h.2 d hd).2.1, (f _ _ (by unfold scM; omega)).trans (h.2 d hd).2.2.1, (f _ _ (by unfold scM; omega)).trans (h.2 d hd).2.2.2⟩⟩
theorem txM_fr {f : Nat → List Nat} {i : Nat} {I I' : Nat → Nat → Int32} (h : txM f i I) (e : ∀ x k, x = 10 ∨ x = 11 ∨ x = 12 → I' x k = I x k) : txM f i I' := fun p hp =>
  ⟨(e _ _ (by omega)).trans (h p hp).1, (e _ _ (by omega)).trans (h p hp).2.1, fun j hj => (e _ _ (by omega)).trans ((h p hp).2.2 j hj)⟩
theorem MI_fr {Z : Nat → Nat} {D : Nat → Nat → Nat} {tx : Nat → Nat → List Nat} {tp so sz : Nat → Nat} {it : Nat → Nat → Int32} {I I' : Nat → Nat → Int32} (h : MI Z D tx tp so sz it I) (f : frM I I') : MI Z D tx tp so sz it I' := by
  obtain ⟨h1, ⟨h2, h3, h4⟩, h5, ⟨h6, h7⟩, ⟨h8, h9⟩, h10, ⟨h11, h12⟩, h13, h14⟩ := h
  have e : ∀ x k, ¬ scM x k → I' x k = I x k := f
  refine ⟨dM_fr h1 f, ⟨?_, ?_, ?_⟩, fun d hd => ⟨?_, ?_⟩, ⟨?_, fun k hk => ?_⟩, ⟨?_, ?_⟩, fun i hi => ?_, ⟨?_, fun hz => ?_⟩, fun j hj => ⟨?_, ?_, fun k hk => ?_⟩, fun j hj => ?_⟩
  · exact (e _ _ (by unfold scM; omega)).trans h2
  · exact (e _ _ (by unfold scM; omega)).trans h3
  · exact (e _ _ (by unfold scM; omega)).trans h4
  · exact (e _ _ (by unfold scM; omega)).trans (h5 d hd).1
  · exact (e _ _ (by unfold scM; omega)).trans (h5 d hd).2
  · exact (e _ _ (by unfold scM; omega)).trans h6
  · exact (e _ _ (by unfold scM; omega)).trans (h7 k hk)
  · exact (e _ _ (by unfold scM; omega)).trans h8
  · exact (e _ _ (by unfold scM; omega)).trans h9
  · exact txM_fr (h10 i hi) (fun x k hx => e x k (by unfold scM; omega))
  · exact (e _ _ (by unfold scM; omega)).trans h11
  · obtain ⟨⟨g1, g2, g3, g4⟩, g5⟩ := h12 hz
    exact ⟨⟨(e _ _ (by unfold scM; omega)).trans g1, (e _ _ (by unfold scM; omega)).trans g2, (e _ _ (by unfold scM; omega)).trans g3, (e _ _ (by unfold scM; omega)).trans g4⟩, fun d hd => (e _ _ (by unfold scM; omega)).trans (g5 d hd)⟩
  · exact (e _ _ (by unfold scM; omega)).trans (h13 j hj).1
  · exact (e _ _ (by unfold scM; omega)).trans (h13 j hj).2.1
  · exact (e _ _ (by unfold scM; omega)).trans ((h13 j hj).2.2 k hk)
  · exact (e _ _ (by unfold scM; omega)).trans (h14 j hj)
/-! longs from ints -/
theorem lc_lt {x y : Int32} : lg_cmp x.toInt64 y.toInt64 < 0 ↔ x < y := by
  have hx : x.toInt64.toInt = x.toInt := Int32.toInt_toInt64 x
  have hy : y.toInt64.toInt = y.toInt := Int32.toInt_toInt64 y
  unfold lg_cmp
  by_cases h1 : x.toInt64 > y.toInt64
  · rw [if_pos h1]
    rw [gt_iff_lt, Int64.lt_iff_toInt_lt, hx, hy] at h1
    rw [Int32.lt_iff_toInt_lt (x := x)]
    exact ⟨fun h => absurd h (by decide), fun h => by omega⟩
  · rw [if_neg h1]
    rw [gt_iff_lt, Int64.lt_iff_toInt_lt, hx, hy] at h1
    by_cases h2 : x.toInt64 = y.toInt64
    · rw [if_pos h2]
      have : x.toInt = y.toInt := by rw [← hx, ← hy, h2]
      rw [Int32.lt_iff_toInt_lt (x := x)]
      exact ⟨fun h => absurd h (by decide), fun h => by omega⟩
    · rw [if_neg h2]
      have : ¬ x.toInt = y.toInt := fun e => h2 (Int64.toInt_inj.mp (by rw [hx, hy, e]))
      rw [Int32.lt_iff_toInt_lt (x := x)]
      exact ⟨fun _ => by omega, fun _ => by decide⟩
theorem lc_gt {x y : Int32} : 0 < lg_cmp x.toInt64 y.toInt64 ↔ y < x := by
  have hx : x.toInt64.toInt = x.toInt := Int32.toInt_toInt64 x
  have hy : y.toInt64.toInt = y.toInt := Int32.toInt_toInt64 y
  unfold lg_cmp
  by_cases h1 : x.toInt64 > y.toInt64
  · rw [if_pos h1]
    rw [gt_iff_lt, Int64.lt_iff_toInt_lt, hx, hy] at h1
    rw [Int32.lt_iff_toInt_lt (x := y)]
    exact ⟨fun _ => by omega, fun _ => by decide⟩
  · rw [if_neg h1]
    rw [gt_iff_lt, Int64.lt_iff_toInt_lt, hx, hy] at h1
    rw [Int32.lt_iff_toInt_lt (x := y)]
    by_cases h2 : x.toInt64 = y.toInt64
    · rw [if_pos h2]; exact ⟨fun h => absurd h (by decide), fun h => by omega⟩
    · rw [if_neg h2]; exact ⟨fun h => absurd h (by decide), fun h => by omega⟩
theorem k118 {d : Nat} (hd : 1 ≤ d) {x y z : Int32} {h : aH} {Q : Option Value → aH → Prop} : aC d 118 [.long x.toInt64, .long y.toInt64, .long z.toInt64] h Q ↔ Q (some (.int (if y ≤ x ∧ x ≤ z then nI 1 else nI 0))) h := by
  obtain ⟨d, rfl⟩ : ∃ e, d = e + 1 := ⟨d - 1, by omega⟩
  simp (disch := first | assumption | exact ct_i | exact ct_r | exact ct_n | exact ct_h | omega | exact z_in (by omega) (by omega) | exact b01 | exact Or.inl rfl | exact Or.inr rfl) only [b118, e118_0, e118_1, e118_2, e118_3, e118_6, e118_7, e118_9, e118_10, e118_13, e118_14, e118_17, e118_18, ct_i, ct_r, ct_n, ct_h, opt_v, opt_s, ref_s, ref_n, eq_self_iff_true, true_or, or_true, lc_lt, lc_gt]
  by_cases h1 : x < y
  · rw [if_pos h1, if_neg (fun h => by rw [Int32.lt_iff_toInt_lt] at h1; rw [Int32.le_iff_toInt_le] at h; omega)]; exact Iff.rfl
  · rw [if_neg h1]
    by_cases h2 : z < x
    · rw [if_pos h2, if_neg (fun h => by rw [Int32.lt_iff_toInt_lt] at h2; have := h.2; rw [Int32.le_iff_toInt_le] at this; omega)]; exact Iff.rfl
    · rw [if_neg h2, if_pos (by rw [Int32.lt_iff_toInt_lt] at h1 h2; constructor <;> rw [Int32.le_iff_toInt_le] <;> omega)]; exact Iff.rfl
