/-! calls and answers; every run of the abstract machine is a run of the machine -/
set_option maxRecDepth 100000 in
theorem a_nst_ok : a_cl.all (fun e => decide (e.2.2.1 = 7 → (a_cname e.1, e.2.1, a_name e.2.2.2.1) ∈ a_nst)) = true := by decide +kernel
set_option maxRecDepth 100000 in
theorem a_owns_ok : a_owns.all (fun o => Nat.ble o 99) = true := by decide +kernel
theorem a_own_le (m : Nat) : a_own m ≤ 99 := by
  unfold a_own
  rw [List.getD_eq_getElem?_getD]
  cases h : a_owns[m]? with
  | none => exact Nat.le_refl _
  | some o => exact Nat.le_of_ble_eq_true (List.all_eq_true.mp a_owns_ok o (List.mem_of_getElem? h))
/-- what a step that calls looks like -/
theorem a_step_call {mid pc : Nat} {ls st : List Value} {h : aH} {mid2 : Nat} {args2 : List Value} {z : aS} (hs : a_step mid (pc, ls, st, h) = some (.inr (.inl (mid2, args2, z)))) :
    ∃ idx n : Nat, a_lok2 mid ls = true ∧ args2 = (st.take n).reverse ∧ z = (pc + 3, ls, st.drop n, h) ∧ n ≤ st.length ∧ ((st.drop n).map Value.category).sum ≤ 8 ∧
      ((decode (a_code mid) pc = .ok (.invokestatic idx, 3) ∧ a_cal (a_own mid) idx = some (0, mid2) ∧ n = a_nar mid2) ∨
       (decode (a_code mid) pc = .ok (.invokevirtual idx, 3) ∧ a_cal (a_own mid) idx = some (1, mid2) ∧ n = a_nar mid2 + 1 ∧ a_rcv mid2 st[a_nar mid2]? h = true) ∨
       (decode (a_code mid) pc = .ok (.invokespecial idx, 3) ∧ (a_cal (a_own mid) idx = some (2, mid2) ∨ a_cal (a_own mid) idx = some (7, mid2)) ∧ n = a_nar mid2 + 1 ∧ a_rcv mid2 st[a_nar mid2]? h = true)) := by
  unfold a_step at hs
  split at hs
  · rename_i i len hd
    have hd : decode (a_code mid) pc = .ok (i, len) := hd
    split at hs
    · rename_i hl
      have hs : a_stepI mid pc ls st h i len = some (.inr (.inl (mid2, args2, z))) := hs
      cases i with
      | invokestatic idx =>
        have hl := Nat.eq_of_beq_eq_true (show Nat.beq len 3 = true from hl)
        subst hl
        simp only [a_stepI] at hs
        split at hs
        · rename_i hk2
          simp only [a_iS] at hs
          split at hs
          · rename_i mid' hc
            unfold a_call at hs
            split at hs
            · rename_i hn
              cases hs
              exact ⟨idx, _, hk2, rfl, rfl, hn.1, hn.2, Or.inl ⟨hd, hc, rfl⟩⟩
            · cases hs
          all_goals (repeat' split at hs) <;> (try unfold a_go at hs) <;> cases hs
        · cases hs
      | invokevirtual idx =>
        have hl := Nat.eq_of_beq_eq_true (show Nat.beq len 3 = true from hl)
        subst hl
        simp only [a_stepI] at hs
        split at hs
        · rename_i hk2
          simp only [a_iV] at hs
          split at hs
          · rename_i mid' hc
            split at hs
            · rename_i hr
              unfold a_call at hs
              split at hs
              · rename_i hn
                cases hs
                exact ⟨idx, _, hk2, rfl, rfl, hn.1, hn.2, Or.inr (Or.inl ⟨hd, hc, rfl, hr⟩)⟩
              · cases hs
            · cases hs
          · cases hs
        · cases hs
      | invokespecial idx =>
        have hl := Nat.eq_of_beq_eq_true (show Nat.beq len 3 = true from hl)
        subst hl
        simp only [a_stepI] at hs
        split at hs
        · rename_i hk2
          simp only [a_iI] at hs
          split at hs
          · rename_i mid' hc
            split at hs
            · rename_i hr
              unfold a_call at hs
              split at hs
              · rename_i hn
                cases hs
                exact ⟨idx, _, hk2, rfl, rfl, hn.1, hn.2, Or.inr (Or.inr ⟨hd, Or.inl hc, rfl, hr⟩)⟩
              · cases hs
            · cases hs
          · rename_i mid' hc
            split at hs
            · rename_i hr
              unfold a_call at hs
              split at hs
              · rename_i hn
                cases hs
                exact ⟨idx, _, hk2, rfl, rfl, hn.1, hn.2, Or.inr (Or.inr ⟨hd, Or.inr hc, rfl, hr⟩)⟩
              · cases hs
            · cases hs
          all_goals (repeat' split at hs) <;> (try unfold a_go at hs) <;> cases hs
        · cases hs
      | _ =>
        exfalso
        simp only [a_stepI, a_ldI, a_ldL, a_ldA, a_stI, a_stL, a_stA, a_iinc, a_ldc, a_ldcs, a_ldc2, a_idiv, a_irem, a_ll, a_lc, a_i2l, a_l2i, a_jmp, a_if2, a_if1, a_br, a_ifn, a_tsw, a_lsw, a_al, a_gf, a_pf, a_gs, a_nwo, a_nwa, a_nwr, a_dup, a_dup2, a_pop, a_rti, a_rtl, a_rta, a_rtv, a_u1, a_b2, a_ld, a_sv, a_go] at hs
        repeat' split at hs
        all_goals cases hs
    · cases hs
  · cases hs
/-- what a step that ends the method looks like -/
theorem a_step_ret {mid pc : Nat} {ls st : List Value} {h : aH} {v0 : Option Value} {hr : aH} (hs : a_step mid (pc, ls, st, h) = some (.inr (.inr (v0, hr)))) :
    hr = h ∧ ((∃ v, st = [v] ∧ v0 = some v ∧ a_rets mid v = true ∧ decode (a_code mid) pc = .ok (.ireturn, 1)) ∨ (∃ x, st = [.long x] ∧ v0 = some (.long x) ∧ a_ret mid = some .long ∧ decode (a_code mid) pc = .ok (.lreturn, 1)) ∨
      (∃ v, st = [v] ∧ v0 = some v ∧ (v = .null ∨ ∃ a, v = .ref a) ∧ a_isO (a_ret mid) = true ∧ decode (a_code mid) pc = .ok (.areturn, 1)) ∨ (st = [] ∧ v0 = none ∧ a_ret mid = none ∧ decode (a_code mid) pc = .ok (.return_, 1))) := by
  unfold a_step at hs
  split at hs
  · rename_i i len hd
    have hd : decode (a_code mid) pc = .ok (i, len) := hd
    split at hs
    · rename_i hl
      have hs : a_stepI mid pc ls st h i len = some (.inr (.inr (v0, hr))) := hs
      cases i with
      | ireturn =>
        have hl := Nat.eq_of_beq_eq_true (show Nat.beq len 1 = true from hl)
        subst hl
        simp only [a_stepI, a_rti] at hs
        split at hs
        · split at hs
          · rename_i v hv
            cases hs
            exact ⟨rfl, Or.inl ⟨_, rfl, rfl, hv, hd⟩⟩
          · cases hs
        · cases hs
      | lreturn =>
        have hl := Nat.eq_of_beq_eq_true (show Nat.beq len 1 = true from hl)
        subst hl
        simp only [a_stepI, a_rtl] at hs
        split at hs
        · split at hs
          · rename_i hv
            cases hs
            exact ⟨rfl, Or.inr (Or.inl ⟨_, rfl, rfl, hv, hd⟩)⟩
          · cases hs
        · cases hs
      | areturn =>
        have hl := Nat.eq_of_beq_eq_true (show Nat.beq len 1 = true from hl)
        subst hl
        simp only [a_stepI, a_rta] at hs
        split at hs
        · split at hs
          · rename_i hv
            cases hs
            exact ⟨rfl, Or.inr (Or.inr (Or.inl ⟨_, rfl, rfl, Or.inl rfl, hv, hd⟩))⟩
          · cases hs
        · split at hs
          · rename_i hv
            cases hs
            exact ⟨rfl, Or.inr (Or.inr (Or.inl ⟨_, rfl, rfl, Or.inr ⟨_, rfl⟩, hv, hd⟩))⟩
          · cases hs
        · cases hs
      | return_ =>
        have hl := Nat.eq_of_beq_eq_true (show Nat.beq len 1 = true from hl)
        subst hl
        simp only [a_stepI, a_rtv] at hs
        split at hs
        · split at hs
          · rename_i hv
            cases hs
            exact ⟨rfl, Or.inr (Or.inr (Or.inr ⟨rfl, rfl, hv, hd⟩))⟩
          · cases hs
        · cases hs
      | _ =>
        exfalso
        simp only [a_stepI, a_ldI, a_ldL, a_ldA, a_stI, a_stL, a_stA, a_iinc, a_ldc, a_ldcs, a_ldc2, a_idiv, a_irem, a_ll, a_lc, a_i2l, a_l2i, a_jmp, a_if2, a_if1, a_br, a_ifn, a_tsw, a_lsw, a_al, a_gf, a_pf, a_gs, a_nwo, a_nwa, a_nwr, a_dup, a_dup2, a_pop, a_iS, a_iV, a_iI, a_call, a_u1, a_b2, a_ld, a_sv, a_go] at hs
        repeat' split at hs
        all_goals cases hs
    · cases hs
  · cases hs
theorem a_step_mono {m : Nat} {s0 z : aS} (hs : a_step m s0 = some (.inl z)) : s0.2.2.2.1 ≤ z.2.2.2.1 ∧ s0.2.2.2.2.1 ≤ z.2.2.2.2.1 := by
  unfold a_step at hs
  split at hs
  · split at hs
    · exact a_stepI_mono hs
    · cases hs
  · cases hs
theorem a_run_mono {call : Nat → List Value → aH → Option Value → aH → Prop} {m : Nat} (hc : ∀ mid args h v h', call mid args h v h' → h.1 ≤ h'.1 ∧ h.2.1 ≤ h'.2.1) : ∀ (n : Nat) (s : aS) (v : Option Value) (h' : aH), a_run call m n s v h' → s.2.2.2.1 ≤ h'.1 ∧ s.2.2.2.2.1 ≤ h'.2.1 := by
  intro n
  induction n with
  | zero => intro s v h' h; exact h.elim
  | succ n ih =>
    intro s v h' ha
    obtain ⟨pc, ls, st, h⟩ := s
    cases hs : a_step m (pc, ls, st, h) with
    | none => simp only [a_run, hs] at ha
    | some r =>
      rcases r with s' | ⟨mid, args, s'⟩ | ⟨v0, h0⟩
      · simp only [a_run, hs] at ha
        have h1 := a_step_mono hs
        have h2 := ih s' v h' ha
        exact ⟨Nat.le_trans h1.1 h2.1, Nat.le_trans h1.2 h2.2⟩
      · simp only [a_run, hs] at ha
        obtain ⟨v1, h1, c1, r1⟩ := ha
        obtain ⟨idx, n', -, -, rfl, -⟩ := a_step_call hs
        have h1 := hc _ _ _ _ _ c1
        have h2 := ih _ v h' r1
        exact ⟨Nat.le_trans h1.1 h2.1, Nat.le_trans h1.2 h2.2⟩
      · simp only [a_run, hs] at ha
        obtain ⟨rfl, -⟩ := a_step_ret hs
        obtain ⟨-, rfl⟩ := ha
        exact ⟨Nat.le_refl _, Nat.le_refl _⟩
theorem a_cl_mono : ∀ (d m : Nat) (args : List Value) (h : aH) (v : Option Value) (h' : aH), a_cl_ d m args h v h' → h.1 ≤ h'.1 ∧ h.2.1 ≤ h'.2.1 := by
  intro d
  induction d with
  | zero => intro m args h v h' a; exact a.elim
  | succ d ih =>
    rintro m args h v h' ⟨_, n, a⟩
    exact a_run_mono ih n _ v h' a
def a_Pc (D : va_G) (ca : Nat → ClassId) (ad : Nat → Nat) (sz : Nat) (args : List Value) (h : aH) : Array Value → State → Prop := va_Pc (args.map (a_cv ad)) (fun U => U.heap.size = sz ∧ aWF h ∧ va_P D vwCl (a_W ca ad h) U.heap ∧ va_K D vwCl (a_tys ca) U ∧ va_D (fun _ => True) (a_W ca ad h) ∧ (∀ k, h.1 ≤ k → k < 1000000 → ad k = sz + (k - h.1)) ∧ a_CK ad (va_A (a_W ca ad h) sz) U U.heap)
def a_Qc (D : va_G) (ca : Nat → ClassId) (ad : Nat → Nat) (h : aH) (sz : Nat) (v1 : Option Value) (h1 : aH) : Array Value → State → Outcome → State → Prop := fun _ st oc t => (oc = .returned (v1.map (a_cv ad)) ∧ aWF h1 ∧ va_P D vwCl (a_W ca ad h1) t.heap ∧ va_D (va_A (a_W ca ad h) sz) (a_W ca ad h1)) ∧ va_F (va_A (a_W ca ad h) sz) st t
def a_rm (d mc ms : Nat) : Room := { frames := d, cells := mc, slots := ms, locals := 60 * d }
theorem a_Pc_blind {D : va_G} {ca : Nat → ClassId} {ad : Nat → Nat} {sz : Nat} {args : List Value} {h : aH} : FrameBlind (a_Pc D ca ad sz args h) := by
  intro a U g mk q
  obtain ⟨q0, q1, q2, q3, q4, q5, q6, q7⟩ := q
  exact ⟨q0, q1, q2, q3, va_K.moved (u := U) (U := U.calling g mk a) (Vm.Alike.refl U.vm) q4, q5, q6, q7.same rfl⟩
section
variable {p : Program} {l : Launch} {e : Env} {R : Room} {s : State} {m : MethodId} {args : Array Value} {below : List Frame} {meth : Method} {c : Code} {Q : State → Prop} {D : va_G} {ca : Nat → ClassId} {ad : Nat → Nat} {A : Nat → Prop} {mid d : Nat} {h0 : aH}
theorem a_free {h : aH} {H : Heap} {locs : List Loc} (hI : a_Inv D ca ad A s h0 h H locs) (hA : ∀ q : Nat, s.heap.size ≤ q → A q) : ∀ q, va_A (a_W ca ad h) H.size q → A q := by
  intro q hq
  rcases hq with ⟨k, e, hk⟩ | hq
  · exact hI.2.2.2.2.1.2 k _ hk
  · exact hA q (Nat.le_trans hI.2.2.2.2.2.1.1 hq)
theorem a_after {pc mc ms cells slots : Nat} {lsR : Array Slot} {st0 rest : List Value} {v1 : Option Value} {h h1 : aH} {H : Heap} {locs : List Loc} {a : Array Value} (hr : va_Run p l e R s m args below meth c H locs cells slots mc ms (F0 m pc lsR st0) rest (a_Qc D ca ad h H.size v1 h1 a) (va_A (a_W ca ad h) H.size))
    (hI : a_Inv D ca ad A s h0 h H locs) (hA : ∀ q : Nat, s.heap.size ≤ q → A q) (hm : h.1 ≤ h1.1 ∧ h.2.1 ≤ h1.2.1)
    (kk : ∀ (H1 : Heap) (locs1 : List Loc), a_Inv D ca ad A s h0 h1 H1 locs1 → W p l e R s m args below meth c H1 locs1 (cells + mc) (slots + ms) Q (F0 m (pc + 3) lsR ((v1.map (a_cv ad)).toList ++ rest))) : W p l e R s m args below meth c H locs cells slots Q (F0 m pc lsR st0) := by
  intro T hT X
  obtain ⟨v, st₀, t, T', L, e0, X', hL, e1, e2, ⟨⟨hv, w1, w2, w3⟩, hz, hk⟩, st⟩ := hr T hT X
  cases hv
  rw [e0] at hz hk
  have hfree := a_free hI hA
  obtain ⟨i1, i2, i3, i4, i5, i6, i7⟩ := hI
  obtain ⟨t2, a1, b1⟩ := kk T'.heap (locs ++ L) ⟨w1, Nat.le_trans i2 hm.1, Nat.le_trans i3 hm.2, by rw [e1]; exact w2, w3.weaken (fun _ _ _ hq => hfree _ hq),
    ⟨Nat.le_trans i6.1 (by rw [e1]; exact hz), fun q h1 h2 => by rw [e1, hk q (Nat.lt_of_lt_of_le h1 i6.1) (fun z => h2 (hfree _ z))]; exact i6.2.1 q h1 h2, fun q hq => by
      rcases List.mem_append.mp hq with h | h
      · exact i6.2.2 q h
      · exact hfree _ (hL q h)⟩, i7⟩ T' rfl X'
  exact ⟨t2, st t2 a1, b1⟩
end
