/-! the law, from its entry (its statement is the skeleton's) -/
set_option maxHeartbeats 4000000 in
/-- YOUR PART: from the entry, for every script of at most 3072 ints, the law comes to its end with true ('hflags': the launch's flags, for a law that throws: no stack traces) -/
theorem whole_start {p : Program} {e : Env} {s : State} {m : MethodId} {below : List Frame} {meth : Method} {c : Code} (l : Launch) (hflags : l.flags = flags0) {b L : Nat} {xs : Nat → Int32} (hL : L ≤ 3072) (C0 : lw_At p s m meth c b L xs) : W p l e room_1 s m #[Value.ref b] below meth c s.heap [] 0 0 (lw_Z below #[Value.ref b] s) (entryFrame m ([Value.ref b] : List Value).toArray 4) := by
  obtain ⟨hx, hb, hr, hml, hown, hts, hX, hbl, hlocks, hgv⟩ := id C0
  obtain ⟨G, hG⟩ := lw_cls hts
  obtain ⟨ca, hca⟩ := lw_tys hts
  obtain ⟨adK, hCK⟩ := lw_CK0 hts hgv
  have F : lw_Fx p s m c b G ca adK := ⟨hx, hb, hml, hown, hts, ⟨hG, hca⟩, hCK⟩
  have hP : va_P G vwCl [] s.heap := fun k q h => by simp at h
  have hD : va_D (fun q : Nat => s.heap.size ≤ q) [] := ⟨fun i j p q h => by simp at h, fun k q h => by simp at h⟩
  have hl := lv_entry ([.ref b]) (n := 4) (Nat.le_of_ble_eq_true rfl)
  rw [lg_entry_eq]
  generalize (lg_sl ([.ref b]) ++ List.replicate (4 - (lg_sl ([.ref b])).length) Slot.unset).toArray = ls at hl ⊢
  have hl : lv_has ls 4 [(0, .ref b)] := hl
  obtain ⟨w1, w2⟩ := lw_w7
  obtain ⟨v1, h1, hc1, hv1, hk⟩ := k76 (d := 200) (t := 12) (Q := fun v h' => v = none ∧ RK lw_T1 Z0 D0 tx0 n0 n0 n0 it0 h') (by decide) (fun h' h => ⟨rfl, h⟩)
  obtain ⟨v2, h2, hc2, hv2, hm⟩ := k116 (d := 199) (t := 48) (Q := fun v h' => v = none ∧ RMh lw_T2 Z0 D0 tx0 n0 n0 n0 it0 h') (by decide) (fun h' h => ⟨rfl, h⟩)
  subst hv1; subst hv2
  obtain ⟨ho, ⟨hn1, ht1, -⟩, hK1, hcl1, -⟩ := id hk
  obtain ⟨⟨hn2, ht2⟩, hK2, hcl2, -⟩ := id hm
  have z1 : Z0 1 = 0 := rfl
  have eT1 : lw_T1 = 8074 := rfl
  have eT2 : lw_T2 = 47312 := rfl
  refine lw_new (ci := 6) (N := 12) (C := RX7) (T := TX7) (ws := []) F rfl w1.1 dL_law_0 hP hD va_S.rf ⟨by decide, by decide⟩ (fun q1 H hP hD hS => ?_)
  refine lv_dup hx hb dL_law_3 rfl ?_
  refine lw_ini (ci := 6) (N := 12) (mid := 76) (ad := fun _ => q1) (wr := []) (rest := [.ref q1]) F dL_law_4 w1.2.1 w1.2.2.1 w1.2.2.2 lw_w8.1.1 lw_w8.1.2.1 lw_w8.1.2.2.1 lw_w8.1.2.2.2 (by decide) hl.1 hc1 (by decide) (by rw [List.append_nil]; exact hP) (by rw [List.append_nil]; exact hD) hS ⟨by omega, by omega⟩ (by show 1 ≤ 8; decide) (fun ad1 H locs e1 wf1 hP hD hS => ?_)
  refine lv_astore_n (lv' := [(1, .ref q1), (0, .ref b)]) hx hb dL_law_7 rfl hl (by decide) rfl (fun ls hl => ?_)
  refine lw_new (ci := 7) (N := 48) (C := RX8) (T := TX8) F rfl w2.1 dL_law_8 hP hD hS ⟨by omega, by omega⟩ (fun q2 H hP hD hS => ?_)
  refine lv_dup hx hb dL_law_11 rfl ?_
  obtain ⟨hP, hD⟩ := lw_swap hP hD
  refine lw_ini (ci := 7) (N := 48) (mid := 116) (ad := fun _ => q2) (rest := [.ref q2]) F dL_law_12 w2.2.1 w2.2.2.1 w2.2.2.2 lw_w8.2.1 lw_w8.2.2.1 lw_w8.2.2.2.1 lw_w8.2.2.2.2 (by decide) hl.1 hc2 (by decide) hP hD hS ⟨by omega, by omega⟩ (by show 1 ≤ 8; decide) (fun ad2 H locs e2 wf2 hP hD hS => ?_)
  refine lv_astore_n (lv' := [(2, .ref q2), (1, .ref q1), (0, .ref b)]) hx hb dL_law_15 rfl hl (by decide) rfl (fun ls hl => ?_)
  refine lv_iconst (v := nI 0) hx hb dL_law_16 (by decide) ?_
  refine lv_istore_n (lv' := [(3, .int (nI 0)), (2, .ref q2), (1, .ref q1), (0, .ref b)]) hx hb dL_law_17 rfl hl (by decide) rfl (fun ls hl => ?_)
  refine W.cs (cells' := h1.1 + h2.1) (slots' := h1.2.1 + h2.2.1) (by omega) (by omega) ?_
  refine lw_loop F hr hlocks hX hbl hL 3072 0 (by omega) (by omega) Z0 D0 tx0 n0 n0 n0 it0 ad1 ad2 h1 h2 H locs ls hk hm ⟨wf1, wf2, hP, hD, hS⟩ ?_
  rw [e1, e2]
  exact lv_sub hl [3, 2, 1, 0] rfl
