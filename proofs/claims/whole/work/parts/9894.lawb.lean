/-! the law: what its start holds -/
theorem lw_arr {s : State} {ty : FieldType} {args : Array Value} (h : (Cond.arrayClass ty).before args s = true) : ∃ c : ClassId, ArrOfT s c ty ∧ s.vm.findClass ("[" ++ ty.toString) = some c := by
  obtain ⟨c, k, comp, h1, h2, h3⟩ := Cond.arrayClass_spec h
  exact ⟨c, fun n z => ⟨(fun k h => by cases h), k, h2, comp, h3⟩, h1⟩
theorem lw_arq {s : State} {C : String} {args : Array Value} (h : (Cond.arrayOver (.object C)).before args s = true) : ∃ c : ClassId, ArrOfT s c (.object C) ∧ va_RA s c (.object C) := by
  obtain ⟨comp, c, k, h1, h2, h3, h4, h5⟩ := Cond.arrayOver_spec h
  exact ⟨c, fun n z => ⟨(fun k h => by cases h), k, h3, comp, h4⟩, k, comp, h3, h4, h1, h5⟩
set_option maxRecDepth 100000 in
theorem lw_fa : Cond.arrayClass .char ∈ lw_tbl ∧ Cond.arrayClass .int ∈ lw_tbl ∧ Cond.arrayClass .long ∈ lw_tbl ∧ Cond.arrayOver (.object RX0) ∈ lw_tbl ∧ Cond.arrayOver (.object RX4) ∈ lw_tbl ∧ Cond.arrayOver (.object RX6) ∈ lw_tbl := by decide +kernel
def lw_ca (c0 c1 c2 c3 c4 c5 : Nat) (k : Nat) : Nat := if k = 100 then c0 else if k = 101 then c1 else if k = 102 then c2 else if k = 110 then c3 else if k = 114 then c4 else c5
theorem lw_tys {s : State} {args : Array Value} (hts : ∀ w ∈ lw_tbl, w.before args s = true) : ∃ ca : Nat → Nat, ∀ (k : Nat) (q : ClassId × FieldType), (a_tys ca)[k]? = some q → ArrOfT s q.1 q.2 ∧ va_RA s q.1 q.2 := by
  obtain ⟨f1, f2, f3, f4, f5, f6⟩ := lw_fa
  obtain ⟨c2, g2, j2⟩ := lw_arr (hts _ f1)
  obtain ⟨c0, g0, j0⟩ := lw_arr (hts _ f2)
  obtain ⟨c1, g1, j1⟩ := lw_arr (hts _ f3)
  obtain ⟨c3, g3, j3⟩ := lw_arq (hts _ f4)
  obtain ⟨c4, g4, j4⟩ := lw_arq (hts _ f5)
  obtain ⟨c5, g5, j5⟩ := lw_arq (hts _ f6)
  refine ⟨lw_ca c0 c1 c2 c3 c4 c5, fun k q hk => ?_⟩
  match k, hk with
  | 0, hk => cases hk; exact ⟨g0, j0⟩
  | 1, hk => cases hk; exact ⟨g1, j1⟩
  | 2, hk => cases hk; exact ⟨g2, j2⟩
  | 3, hk => cases hk; exact ⟨g3, j3⟩
  | 4, hk => cases hk; exact ⟨g4, j4⟩
  | 5, hk => cases hk; exact ⟨g5, j5⟩
  | k + 6, hk => cases hk
theorem lw_cls {s : State} {args : Array Value} (hts : ∀ w ∈ lw_tbl, w.before args s = true) : ∃ G : va_G, ∀ (k : Nat) (q : vw_C), vwCl[k]? = some q → u_Kn s q.1 q.2.1 q.2.2 (G.1 k) (G.2 k) := by
  have h : ∀ k : Nat, ∃ p : ClassId × (Nat → Nat), ∀ q, vwCl[k]? = some q → u_Kn s q.1 q.2.1 q.2.2 p.1 p.2 := by
    intro k
    cases hq : vwCl[k]? with
    | none => exact ⟨(0, fun _ => 0), fun q h => by cases h⟩
    | some q =>
      obtain ⟨C, T, N⟩ := q
      obtain ⟨g1, g2, g3, g4, g5, g6, g7, g8, g9⟩ := a_cls hq
      obtain ⟨cC, iS, hk⟩ := u_known (N := N) hts (fun w hw => (List.mem_filter.mp (g2 w hw)).1) (hts _ (List.mem_filter.mp g6).1)
      exact ⟨(cC, iS), fun q h => by cases h; exact hk⟩
  obtain ⟨f, hf⟩ := Classical.axiomOfChoice h
  exact ⟨(fun k => (f k).1, fun k => (f k).2), fun k q hq => hf k q hq⟩
def lw_tm (i : Nat) : Term := match i with
  | 0 => .string RX2 96
  | 1 => .string RX2 108
  | _ => .string RX7 67
def lw_fl : List Cond := flatC (Jvm.Cond.and given_1 narrow_1)
set_option maxRecDepth 100000 in
theorem lw_w1 : ∀ i, i < 3 → Cond.exactly (lw_tm i) "java/lang/String" ∈ lw_fl ∧ Cond.eq (.field (lw_tm i) "java/lang/String" "coder" "B") (.int 0) ∈ lw_fl ∧ Cond.arrayOf (.field (lw_tm i) "java/lang/String" "value" "[B") .byte ∈ lw_fl ∧ Cond.eq (.length (.field (lw_tm i) "java/lang/String" "value" "[B")) (.int (Int32.ofNat (a_lens.getD i 0))) ∈ lw_fl := by decide +kernel
set_option maxRecDepth 100000 in
theorem lw_w2 : ∀ i, i < 3 → ∀ j, j < a_lens.getD i 0 → Cond.eq (.elem (.field (lw_tm i) "java/lang/String" "value" "[B") (.int (Int32.ofNat j))) (.int ((a_bytes.getD i []).getD j 0)) ∈ lw_fl := by decide +kernel
set_option maxRecDepth 100000 in
theorem lw_w3 : ∀ i, i < 3 → ∀ j, j < 3 → i ≠ j → Cond.not (.eq (lw_tm i) (lw_tm j)) ∈ lw_fl ∨ Cond.not (.eq (lw_tm j) (lw_tm i)) ∈ lw_fl := by decide +kernel
set_option maxRecDepth 100000 in
theorem lw_w4 : Cond.arrayOf (.static RX0 "ABOVE" "[I") .int ∈ lw_fl ∧ Cond.eq (.length (.static RX0 "ABOVE" "[I")) (.int (Int32.ofNat 6)) ∈ lw_fl ∧ (∀ j, j < 6 → Cond.eq (.elem (.static RX0 "ABOVE" "[I") (.int (Int32.ofNat j))) (.int (a_above.getD j 0)) ∈ lw_fl) ∧ Cond.eq (.static RJ0 "COMPACT_STRINGS" "Z") (.int 1) ∈ lw_fl ∧ Cond.isRef (.static RJ3 "SIOOBE_FORMATTER" "Ljava/util/function/BiFunction;") ∈ lw_fl := by decide +kernel
set_option maxRecDepth 100000 in
theorem lw_w5 : Cond.laysStatic RX0 "ABOVE" "[I" ∈ lw_tbl ∧ Cond.initialized RX0 ∈ lw_tbl ∧ Cond.laysStatic RJ0 "COMPACT_STRINGS" "Z" ∈ lw_tbl ∧ Cond.initialized RJ0 ∈ lw_tbl ∧ Cond.laysStatic RJ3 "SIOOBE_FORMATTER" "Ljava/util/function/BiFunction;" ∈ lw_tbl ∧ Cond.initialized RJ3 ∈ lw_tbl := by decide +kernel
set_option maxRecDepth 100000 in
theorem lw_w6 : (∀ e ∈ a_nst, Cond.methodLinkNest e.1 e.2.1 e.2.2 RX7 ∈ lw_tbl) ∧ Cond.stringRef RX2 96 "door state turn room key other shut cost wish or and not " ∈ lw_tbl ∧ Cond.stringRef RX2 108 "();+-*<=" ∈ lw_tbl ∧ Cond.stringRef RX7 67 "shut 0 ; cost 1 + state ; wish room = 2 ;" ∈ lw_tbl := by decide +kernel
def lw_aK (z t tA : Nat) (adS adV : Nat → Nat) (k : Nat) : Nat := if k = 1000031 then z else if k = 1000030 then t else if k = 1000020 then tA else if 1000010 ≤ k then adV (k - 1000010) else adS (k - 1000000)
theorem lw_CK0 {s : State} {b : Nat} (hts : ∀ w ∈ lw_tbl, w.before #[Value.ref b] s = true) (hgv : (Jvm.Cond.and given_1 narrow_1).before #[Value.ref b] s = true) : ∃ adK : Nat → Nat, a_CK adK (fun q : Nat => s.heap.size ≤ q) s s.heap := by
  have hs : ∀ w ∈ lw_fl, w.before #[Value.ref b] s = true := flat_of_before _ hgv
  have hA : ∀ a : Nat, a < s.heap.size → ¬ (fun q : Nat => s.heap.size ≤ q) a := fun a h => Nat.not_le.mpr h
  obtain ⟨adS, adV, hS, hSe⟩ := vk_Sof (args := #[Value.ref b]) (s := s) (N := 3) (tm := lw_tm) (len := a_lens) (byt := a_bytes) (A := fun q : Nat => s.heap.size ≤ q) (by decide) (fun i hi => hs _ (lw_w1 i hi).1) (fun i hi => hs _ (lw_w1 i hi).2.1) (fun i hi => hs _ (lw_w1 i hi).2.2.1) (fun i hi => hs _ (lw_w1 i hi).2.2.2) (fun i hi j hj => hs _ (lw_w2 i hi j hj))
    (fun i j hi hj hij => (lw_w3 i hi j hj hij).elim (fun h => Or.inl (hs _ h)) (fun h => Or.inr (hs _ h))) hA
  obtain ⟨a1, a2, a3, a4, a5⟩ := lw_w4
  obtain ⟨l1, l2, l3, l4, l5, l6⟩ := lw_w5
  obtain ⟨n1, n2, n3, n4⟩ := lw_w6
  obtain ⟨f1, f2, f3, f4, f5, f6⟩ := lw_fa
  obtain ⟨tA, htA, hTA⟩ := va_Tof (args := #[Value.ref b]) (s := s) (tm := .static RX0 "ABOVE" "[I") (ty := .int) (N := 6) (f := fun j => .int (a_above.getD j 0)) (A := fun q : Nat => s.heap.size ≤ q) (by decide) (hs _ a1) (va_eqt (hs _ a2)) (fun j hj => va_eqt (hs _ (a3 j hj))) hA
  have zA := va_Zref (hts _ l1) (hts _ l2) htA hA
  have zC := va_Zof (hts _ l3) (hts _ l4) (va_eqt (hs _ a4)) hA
  obtain ⟨z, t, zF⟩ : ∃ z t : Nat, va_Z RJ3 "SIOOBE_FORMATTER" "Ljava/util/function/BiFunction;" (if z = 0 then .null else .ref t) (fun q : Nat => s.heap.size ≤ q) s s.heap := by
    rcases va_Zqof (hts _ l5) (hts _ l6) (hs _ a5) hA with h | ⟨t, h⟩
    · exact ⟨0, 0, h⟩
    · exact ⟨1, t, h⟩
  refine ⟨lw_aK z t tA adS adV, ?_⟩
  have e1 : ∀ i, i < 3 → lw_aK z t tA adS adV (1000000 + i) = adS i := fun i hi => by
    unfold lw_aK
    rw [if_neg (by omega), if_neg (by omega), if_neg (by omega), if_neg (by omega), Nat.add_sub_cancel_left]
  have e2 : ∀ i, i < 3 → lw_aK z t tA adS adV (1000010 + i) = adV i := fun i hi => by
    unfold lw_aK
    rw [if_neg (by omega), if_neg (by omega), if_neg (by omega), if_pos (by omega), Nat.add_sub_cancel_left]
  refine ⟨⟨fun i hi => ?_, fun i j hi hj => ?_⟩, hTA, zC, zA, zF, fun e he => va_Nw.of rfl (hts _ (n1 e he)), va_AO.of (hts _ f4), va_AO.of (hts _ f5), va_AO.of (hts _ f6), ?_, ?_, ?_⟩
  · show va_O _ (lw_aK z t tA adS adV (1000000 + i)) _ _ _ ∧ va_OF _ _ _ _ (lw_aK z t tA adS adV (1000000 + i)) _ _ _ ∧ va_OF _ _ _ (.ref (lw_aK z t tA adS adV (1000010 + i))) (lw_aK z t tA adS adV (1000000 + i)) _ _ _ ∧ va_T _ (lw_aK z t tA adS adV (1000010 + i)) _ _ _ _ _
    rw [e1 i hi, e2 i hi]
    exact hS.1 i hi
  · show lw_aK z t tA adS adV (1000000 + i) = lw_aK z t tA adS adV (1000000 + j) → i = j
    rw [e1 i hi, e1 j hj]
    exact hS.2 i j hi hj
  · exact vk_R.of (hts _ n2) (by rw [e1 0 (by decide)]; exact hSe 0 (by decide))
  · exact vk_R.of (hts _ n3) (by rw [show (1000001 : Nat) = 1000000 + 1 from rfl, e1 1 (by decide)]; exact hSe 1 (by decide))
  · exact vk_R.of (hts _ n4) (by rw [show (1000002 : Nat) = 1000000 + 2 from rfl, e1 2 (by decide)]; exact hSe 2 (by decide))
