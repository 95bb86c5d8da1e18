/-! new cells; Object(); max, min, arraycopy -/
theorem a_new_sh {kd len k : Nat} {h : aH} (hk : k ≠ h.1) : (a_new kd len h).2.2.1 k = h.2.2.1 k := by
  show u1 h.2.2.1 h.1 (kd, len) k = _
  unfold u1
  rw [if_neg hk]
theorem a_new_sh0 {kd len : Nat} {h : aH} : (a_new kd len h).2.2.1 h.1 = (kd, len) := by
  show u1 h.2.2.1 h.1 (kd, len) h.1 = _
  unfold u1
  rw [if_pos rfl]
theorem a_cal_in {o i kd mid : Nat} (h : a_cal o i = some (kd, mid)) : ∃ p1 p2 p3 p4 : Nat, a_cchk (o, i, kd, mid, p1, p2, p3, p4) = true := by
  unfold a_cal at h
  cases hq : a_look a_cl o i with
  | none => rw [hq] at h; cases h
  | some e =>
    rw [hq] at h
    obtain ⟨e1, e2, e3, e4, e5, e6⟩ := e
    cases h
    exact ⟨e3, e4, e5, e6, List.all_eq_true.mp a_cl_ok _ (a_look_in hq)⟩
section
variable {p : Program} {l : Launch} {e : Env} {R : Room} {s : State} {m : MethodId} {args : Array Value} {below : List Frame} {meth : Method} {c : Code} {Q : State → Prop} {D : va_G} {ca : Nat → ClassId} {ad : Nat → Nat} {A : Nat → Prop} {mid d : Nat} {h0 : aH}
/-- the heap is just as large as the cells made say -/
theorem a_size {h : aH} {H : Heap} {locs : List Loc} {slots : Nat} {T : State} (hI : a_Inv D ca ad A s h0 h H locs) (hT : T.heap = H) (X : Stand p l e R s m args below meth c T locs (h.1 - h0.1) slots) : H.size = s.heap.size + (h.1 - h0.1) := by
  obtain ⟨i1, i2, i3, i4, i5, i6, i7⟩ := hI
  have h1 : T.heap.size ≤ s.heap.size + (h.1 - h0.1) := X.same.2.2.1
  rw [hT] at h1
  have h2 : s.heap.size ≤ H.size := i6.1
  by_cases hz : h.1 = h0.1
  · omega
  · have hlt : h.1 - 1 < h.1 := by omega
    have h3 := (i4 _ _ (a_W_get (ca := ca) (ad := ad) hlt)).lt
    have h4 := i7 (h.1 - 1) (by omega) (by have := i1.1; omega)
    dsimp only at h3
    omega
theorem a_Inv.push {h : aH} {H H1 : Heap} {locs : List Loc} {kd len : Nat} (hI : a_Inv D ca ad A s h0 h H locs) (hn : h.1 < 1000000) (hsz : H.size = s.heap.size + (h.1 - h0.1)) (hA : ∀ q : Nat, s.heap.size ≤ q → A q) (hkd : kd < 8 ∨ kd = 100 ∨ kd = 101 ∨ kd = 102 ∨ kd = 110 ∨ kd = 114 ∨ kd = 115)
    (z1 : H1.size = H.size + 1) (o1 : ∀ q : Nat, q < H.size → H1[q]? = H[q]?) (he : va_at D vwCl (H.size, a_ce ca ad (a_new kd len h) h.1) H1) : a_Inv D ca ad A s h0 (a_new kd len h) H1 locs := by
  obtain ⟨i1, i2, i3, i4, i5, i6, i7⟩ := hI
  have hadr : ad h.1 = H.size := by rw [hsz]; exact i7 h.1 i2 hn
  have hW : a_W ca ad (a_new kd len h) = a_W ca ad h ++ [(ad h.1, a_ce ca ad (a_new kd len h) h.1)] :=
    a_W_push rfl (fun k hk => a_ce_congr (a_new_sh (by omega)) rfl rfl rfl)
  refine ⟨⟨by show h.1 + 1 ≤ _; omega, fun a ha => ?_, fun a ha => ?_⟩, by show h0.1 ≤ h.1 + 1; omega, by show h0.2.1 ≤ h.2.1 + len; omega, ?_, ?_, ⟨by have := i6.1; omega, fun x h1 h2 => (o1 x (Nat.lt_of_lt_of_le h1 i6.1)).trans (i6.2.1 x h1 h2), i6.2.2⟩, i7⟩
  · have ha2 : h.1 + 1 ≤ a := ha
    have h9 := i1.2.1 a (by omega)
    refine ⟨?_, h9.2⟩
    rw [a_new_sh (by omega)]
    exact h9.1
  · have ha2 : a < h.1 + 1 := ha
    by_cases hq : a = h.1
    · subst hq
      rw [a_new_sh0]
      exact hkd
    · rw [a_new_sh hq]
      exact i1.2.2 a (by omega)
  · rw [hW]
    refine (i4.kept (fun k x hx => o1 x.1 ((i4 k x hx).lt))).app (fun k x hx => ?_)
    have hz : k < 1 := (List.getElem?_eq_some_iff.mp hx).1
    rw [show k = 0 by omega] at hx
    cases hx
    rw [hadr]
    exact he
  · rw [hW]
    exact i5.push i4 hadr (hA _ (by rw [hadr]; exact i6.1))
theorem x_new (F : a_Fx p R s m args meth c D ca ad A mid d) {pc : Nat} {ls st : List Value} {h : aH} {z : aS} {idx : Nat} (hB : z.2.2.2.1 - h0.1 ≤ R.cells ∧ z.2.2.2.2.1 - h0.2.1 ≤ R.slots) (hd : decode (a_code mid) pc = .ok (.new idx, 3)) (hs : a_nwo mid idx pc 3 ls st h = some (.inl z)) (K : a_K p l e R s m args below meth c Q D ca ad A h0 z) : a_K p l e R s m args below meth c Q D ca ad A h0 (pc, ls, st, h) := by
  intro H locs lsR hI hL T hT X
  have hI : a_Inv D ca ad A s h0 h H locs := hI
  have hsz := a_size hI hT X
  unfold a_nwo at hs
  split at hs
  · rename_i e0 hk
    split at hs
    · rename_i hlt
      unfold a_go at hs; cases hs
      have h1 := List.all_eq_true.mp a_nw_ok _ (a_look_in hk)
      unfold a_nchk at h1
      dsimp only at h1
      cases hc : vwCl[e0.1]? with
      | none => rw [hc] at h1; cases h1
      | some q =>
        obtain ⟨C, T0, N⟩ := q
        rw [hc] at h1
        have hcl := a_at_in h1 rfl
        obtain ⟨g1, g2, g3, g4, g5, g6, g7, g8, g9⟩ := a_cls hc
        have hKn := F.2.2.2.2.2.1.1 e0.1 _ hc
        have hB1 : (h.1 + 1) - h0.1 ≤ R.cells := hB.1
        have hB2 : (h.2.1 + a_nf e0.1) - h0.2.1 ≤ R.slots := hB.2
        have hI2 := hI
        obtain ⟨i1, i2, i3, i4, i5, i6, i7⟩ := hI2
        have hadr : ad h.1 = H.size := by rw [hsz]; exact i7 h.1 i2 hlt
        have hts : ∀ w ∈ u_ws C T0 N, w ∈ a_ws mid := fun w hw => List.mem_cons_of_mem _ (g2 w hw)
        have hty : ∀ j, j < N → parseFieldDescriptor (T0 j).2.2.1 = some ((parseFieldDescriptor (T0 j).2.2.1).getD .int) := fun j hj => by
          obtain ⟨ty', h1, -⟩ := g3 j hj
          rw [h1]; rfl
        refine (W.newcK F.1 F.2.1 F.own (F.w hcl) (F.w g6) (F.w g7) (g := F0 m pc lsR (st.map (a_cv ad))) rfl hd (by show h.1 - h0.1 + 1 ≤ _; omega) (by show h.2.1 - h0.2.1 + N ≤ _; omega) (cC := D.1 e0.1) hKn.2.1 hadr.symm (fun H1 kC hkC e1 z1 o1 => ?_)) T hT X
        rw [hadr] at e1 z1 o1
        have hce : a_ce ca ad (a_new e0.1 (a_nf e0.1) h) h.1 = .inr (e0.1, a_fs ad (a_new e0.1 (a_nf e0.1) h) h.1 e0.1) := a_ce_obj (by rw [a_new_sh0]) (by omega)
        refine W.cs (by show h.1 - h0.1 + 1 = h.1 + 1 - h0.1; omega) (by show h.2.1 - h0.2.1 + N = h.2.1 + a_nf e0.1 - h0.2.1; omega) (K H1 locs lsR (hI.push hlt hsz F.2.2.2.2.2.2.2.1 (Or.inl g9) z1 o1 ?_) hL)
        rw [hce]
        refine ⟨_, hc, (u_born (fun j => (parseFieldDescriptor (T0 j).2.2.1).getD .int) F.2.2.2.2.1 hts hKn hkC e1 hty).to (fun j hj => ?_)⟩
        obtain ⟨ty', h2, h3⟩ := g3 j hj
        have h9 := (i1.2.1 h.1 (Nat.le_refl _)).2 j
        have hfs : vp_V (a_fs ad (a_new e0.1 (a_nf e0.1) h) h.1 e0.1) j = a_fv ad h h.1 e0.1 j := by
          unfold vp_V
          rw [List.getD_eq_getElem?_getD, a_fs_get (by omega)]
          exact a_fv_congr rfl rfl rfl
        rw [hfs, h2]
        show defaultValue ty' = _
        unfold a_fv
        rw [h9.1, h9.2.1, h9.2.2]
        generalize a_fty e0.1 j = tq at h3
        match tq, ty', h3 with
        | 0, .int, _ => rfl
        | 1, .boolean, _ => rfl
        | 2, .long, _ => rfl
        | 3, .object _, _ => rfl
        | 3, .array _, _ => rfl
    · cases hs
  · cases hs
theorem x_newa (F : a_Fx p R s m args meth c D ca ad A mid d) {pc : Nat} {ls st : List Value} {h : aH} {z : aS} {t : ArrayType} (hB : z.2.2.2.1 - h0.1 ≤ R.cells ∧ z.2.2.2.2.1 - h0.2.1 ≤ R.slots) (hd : decode (a_code mid) pc = .ok (.newarray t, 2)) (hs : a_nwa t pc 2 ls st h = some (.inl z)) (K : a_K p l e R s m args below meth c Q D ca ad A h0 z) : a_K p l e R s m args below meth c Q D ca ad A h0 (pc, ls, st, h) := by
  intro H locs lsR hI hL T hT X
  have hI : a_Inv D ca ad A s h0 h H locs := hI
  have hsz := a_size hI hT X
  unfold a_nwa at hs
  split at hs
  · rename_i n st'
    split at hs
    · rename_i k hk
      split at hs
      · rename_i hlt
        unfold a_go at hs; cases hs
        have hB1 : (h.1 + 1) - h0.1 ≤ R.cells := hB.1
        have hB2 : (h.2.1 + n.toNatClampNeg) - h0.2.1 ≤ R.slots := hB.2
        have hI2 := hI
        obtain ⟨i1, i2, i3, i4, i5, i6, i7⟩ := hI2
        have e1c : h.1 + 1 - h0.1 = h.1 - h0.1 + 1 := Nat.sub_add_comm i2
        have e2c : h.2.1 + n.toNatClampNeg - h0.2.1 = h.2.1 - h0.2.1 + n.toNatClampNeg := Nat.sub_add_comm i3
        rw [e1c] at hB1
        rw [e2c] at hB2
        have hadr : ad h.1 = H.size := by rw [hsz]; exact i7 h.1 i2 hlt.1
        have hz0 := i1.2.1 h.1 (Nat.le_refl _)
        cases t <;> simp only [a_akind] at hk <;> first | (cases hk; done) | skip
        · cases hk
          refine (va_newaK F.1 F.2.1 (atype := .char) (F.w (a_tb_of a_few_ac rfl)) (g := F0 m pc lsR ((Value.int n :: st').map (a_cv ad))) rfl hd rfl hlt.2.1 rfl (Nat.le_trans (Nat.mul_le_mul hlt.2.2 (show componentBytes (newarray.typeOf .char) ≤ 8 by decide)) (by decide)) hB1 hB2 hadr.symm (fun H1 cA e1 z1 o1 hAr hNm => ?_)) T hT X
          rw [hadr] at e1 z1 o1
          have hcA : cA = ca 102 := Option.some.inj (hNm.symm.trans (F.2.2.2.2.2.1.2 2 _ rfl).2)
          subst hcA
          refine W.cs e1c.symm e2c.symm (K H1 locs lsR (hI.push hlt.1 hsz F.2.2.2.2.2.2.2.1 (Or.inr (Or.inr (Or.inr (Or.inl rfl)))) z1 o1 ?_) hL)
          rw [a_ce_c (by rw [a_new_sh0]), a_new_sh0]
          show H1[H.size]? = some (vp_cell _ _)
          rw [e1, vp_cell_i]
          congr 2
          funext j
          exact (congrArg Value.int (hz0.2 j).1).symm
        · cases hk
          refine (va_newaK F.1 F.2.1 (atype := .int) (F.w (a_tb_of a_few_ai rfl)) (g := F0 m pc lsR ((Value.int n :: st').map (a_cv ad))) rfl hd rfl hlt.2.1 rfl (Nat.le_trans (Nat.mul_le_mul hlt.2.2 (show componentBytes (newarray.typeOf .int) ≤ 8 by decide)) (by decide)) hB1 hB2 hadr.symm (fun H1 cA e1 z1 o1 hAr hNm => ?_)) T hT X
          rw [hadr] at e1 z1 o1
          have hcA : cA = ca 100 := Option.some.inj (hNm.symm.trans (F.2.2.2.2.2.1.2 0 _ rfl).2)
          subst hcA
          refine W.cs e1c.symm e2c.symm (K H1 locs lsR (hI.push hlt.1 hsz F.2.2.2.2.2.2.2.1 (Or.inr (Or.inl rfl)) z1 o1 ?_) hL)
          rw [a_ce_i (by rw [a_new_sh0]), a_new_sh0]
          show H1[H.size]? = some (vp_cell _ _)
          rw [e1, vp_cell_i]
          congr 2
          funext j
          exact (congrArg Value.int (hz0.2 j).1).symm
        · cases hk
          refine (va_newaK F.1 F.2.1 (atype := .long) (F.w (a_tb_of a_few_aj rfl)) (g := F0 m pc lsR ((Value.int n :: st').map (a_cv ad))) rfl hd rfl hlt.2.1 rfl (Nat.le_trans (Nat.mul_le_mul hlt.2.2 (show componentBytes (newarray.typeOf .long) ≤ 8 by decide)) (by decide)) hB1 hB2 hadr.symm (fun H1 cA e1 z1 o1 hAr hNm => ?_)) T hT X
          rw [hadr] at e1 z1 o1
          have hcA : cA = ca 101 := Option.some.inj (hNm.symm.trans (F.2.2.2.2.2.1.2 1 _ rfl).2)
          subst hcA
          refine W.cs e1c.symm e2c.symm (K H1 locs lsR (hI.push hlt.1 hsz F.2.2.2.2.2.2.2.1 (Or.inr (Or.inr (Or.inl rfl))) z1 o1 ?_) hL)
          rw [a_ce_l (by rw [a_new_sh0]), a_new_sh0]
          show H1[H.size]? = some (vp_cell _ _)
          rw [e1, vp_cell_l]
          congr 2
          funext j
          exact (congrArg Value.long (hz0.2 j).2.1).symm
      · cases hs
    · cases hs
  · cases hs
theorem x_newr (F : a_Fx p R s m args meth c D ca ad A mid d) {pc : Nat} {ls st : List Value} {h : aH} {z : aS} {idx : Nat} (hB : z.2.2.2.1 - h0.1 ≤ R.cells ∧ z.2.2.2.2.1 - h0.2.1 ≤ R.slots) (hd : decode (a_code mid) pc = .ok (.anewarray idx, 3)) (hs : a_nwr mid idx pc 3 ls st h = some (.inl z)) (K : a_K p l e R s m args below meth c Q D ca ad A h0 z) : a_K p l e R s m args below meth c Q D ca ad A h0 (pc, ls, st, h) := by
  intro H locs lsR hI hL T hT X
  have hI : a_Inv D ca ad A s h0 h H locs := hI
  have hsz := a_size hI hT X
  obtain ⟨q1, q2, q3, q4, q5, q6, q7, q8, q9, q10⟩ := F.2.2.2.2.2.2.1
  unfold a_nwr at hs
  split at hs
  · rename_i n st'
    split at hs
    · rename_i e0 hk
      split at hs
      · rename_i hlt
        unfold a_go at hs; cases hs
        have h1 := List.all_eq_true.mp a_nw_ok _ (a_look_in hk)
        unfold a_nchk at h1
        dsimp only at h1
        have hB1 : (h.1 + 1) - h0.1 ≤ R.cells := hB.1
        have hB2 : (h.2.1 + n.toNatClampNeg) - h0.2.1 ≤ R.slots := hB.2
        have hI2 := hI
        obtain ⟨i1, i2, i3, i4, i5, i6, i7⟩ := hI2
        have e1c : h.1 + 1 - h0.1 = h.1 - h0.1 + 1 := Nat.sub_add_comm i2
        have e2c : h.2.1 + n.toNatClampNeg - h0.2.1 = h.2.1 - h0.2.1 + n.toNatClampNeg := Nat.sub_add_comm i3
        rw [e1c] at hB1
        rw [e2c] at hB2
        have hadr : ad h.1 = H.size := by rw [hsz]; exact i7 h.1 i2 hlt.1
        have hz0 := i1.2.1 h.1 (Nat.le_refl _)
        have key : ∃ (C : String) (t0 : Nat), (∃ T0 N, vwCl[e0.1]? = some (C, T0, N)) ∧ (a_tys ca)[t0]? = some (ca (110 + e0.1), .object C) ∧ va_AO C s ∧ (110 + e0.1 = 110 ∨ 110 + e0.1 = 114 ∨ 110 + e0.1 = 115) := by
          rcases hlt.2.2.2 with g | g | g
          · rw [g]; exact ⟨RX0, 3, ⟨TX0, 7, rfl⟩, rfl, q7, Or.inl rfl⟩
          · rw [g]; exact ⟨RX4, 4, ⟨TX4, 3, rfl⟩, rfl, q8, Or.inr (Or.inl rfl)⟩
          · rw [g]; exact ⟨RX6, 5, ⟨TX6, 5, rfl⟩, rfl, q9, Or.inr (Or.inr rfl)⟩
        obtain ⟨C, t0, ⟨T0, N, hc⟩, ht, hao, hkd⟩ := key
        rw [hc] at h1
        have hcl := a_at_in h1 rfl
        refine (W.anew F.1 F.2.1 F.own (F.w hcl) (va_AO.use hao) (g := F0 m pc lsR ((Value.int n :: st').map (a_cv ad))) rfl hd rfl hlt.2.1 (Nat.le_trans (Nat.mul_le_mul_right 4 hlt.2.2.1) (by decide)) hB1 hB2 (fun cA kA comp f1 f2 f3 f4 => ?_)) T hT X
        obtain ⟨kA', comp', r1, r2, r3, r4⟩ := (F.2.2.2.2.2.1.2 t0 _ ht).2
        have hcA : cA = ca (110 + e0.1) := Option.some.inj (f1.symm.trans r4)
        subst hcA
        generalize hH1 : H.push ({ cls := ca (110 + e0.1), slots := Array.replicate n.toNatClampNeg .null, vm := .none } : Cell) = H1
        have z1 : H1.size = H.size + 1 := by rw [← hH1, Array.size_push]
        have e1 : H1[H.size]? = some (arrV (ca (110 + e0.1)) n.toNatClampNeg (fun _ => .null)) := by rw [← hH1, Array.getElem?_push_size, ← arrV_new]
        have o1 : ∀ q : Nat, q < H.size → H1[q]? = H[q]? := fun q hq => by rw [← hH1, Array.getElem?_push, if_neg (Nat.ne_of_lt hq)]
        rw [← hadr]
        refine W.cs e1c.symm e2c.symm (K H1 locs lsR (hI.push hlt.1 hsz F.2.2.2.2.2.2.2.1 (Or.inr (Or.inr (Or.inr (Or.inr hkd)))) z1 o1 ?_) hL)
        rw [a_ce_q (kd := 110 + e0.1) (by rw [a_new_sh0]) (by omega), a_new_sh0]
        show H1[H.size]? = some (vp_cell _ _)
        rw [e1, vp_cell_q]
        congr 2
        funext j
        have h8 : (a_new (110 + e0.1) n.toNatClampNeg h).2.2.2.2.2 h.1 j = none := (hz0.2 j).2.2
        rw [h8]
        rfl
      · cases hs
    · cases hs
  · cases hs
end
