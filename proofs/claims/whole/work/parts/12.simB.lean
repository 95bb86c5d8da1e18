/-! the heap's instructions -/
theorem a_cls {ci : Nat} {C : String} {T : u_T} {N : Nat} (hc : vwCl[ci]? = some (C, T, N)) : N = a_nf ci ∧ (∀ w ∈ u_ws C T N, w ∈ a_tb) ∧ (∀ k, k < N → ∃ ty, parseFieldDescriptor (T k).2.2.1 = some ty ∧ a_tyc (a_fty ci k) ty = true) ∧ (∀ k, k < N → (T k).2.2.2 = a_fin ci k ∧ (T k).1 = C) ∧
    (∀ a, a < N → ∀ b, b < N → a ≠ b → (T a).2.1 ≠ (T b).2.1) ∧ Cond.instantiable C N ∈ a_tb ∧ Cond.initialized C ∈ a_tb ∧ C = a_cname ci ∧ ci < 8 := by
  have hlt : ci < 8 := (List.getElem?_eq_some_iff.mp hc).1
  have h := List.all_eq_true.mp a_k_ok ci (List.mem_range.mpr hlt)
  unfold a_kchk at h
  rw [hc] at h
  simp only [Bool.and_eq_true, decide_eq_true_eq] at h
  obtain ⟨⟨⟨⟨h1, h2⟩, h3⟩, h4⟩, h5⟩ := h
  have h2 := fun k (hk : k < N) => List.all_eq_true.mp h2 k (List.mem_range.mpr hk)
  simp only [Bool.and_eq_true, decide_eq_true_eq] at h2
  refine ⟨h1, fun w hw => ?_, fun k hk => ?_, fun k hk => ?_, fun a ha b hb hab => ?_, a_tb_of h3 rfl, a_tb_of h4 rfl, h5, hlt⟩
  · obtain ⟨k, hk, rfl⟩ := List.mem_map.mp hw
    have h := h2 k (List.mem_range.mp hk)
    exact a_tb_of h.1.1.1.1.1 h.1.1.1.1.2
  · have h := (h2 k hk).1.1.1.2
    cases hp : parseFieldDescriptor (T k).2.2.1 with
    | none => rw [hp] at h; cases h
    | some ty => rw [hp] at h; exact ⟨ty, rfl, h⟩
  · exact ⟨(h2 k hk).1.1.2, (h2 k hk).1.2⟩
  · have h := List.all_eq_true.mp (h2 b hb).2 a (List.mem_range.mpr ha)
    rcases of_decide_eq_true h with h | h
    · exact absurd h hab
    · exact h
theorem a_fld_in {o i ci k : Nat} (h : a_fld o i = some (ci, k)) : ∃ (C : String) (T : u_T) (N pl : Nat), vwCl[ci]? = some (C, T, N) ∧ k < N ∧ Cond.fieldLink (a_cname o) i (T k).1 (T k).2.1 (T k).2.2.1 ∈ a_tb := by
  unfold a_fld at h
  cases hq : a_look a_fl o i with
  | none => rw [hq] at h; cases h
  | some e =>
    rw [hq] at h
    obtain ⟨e1, e2, e3⟩ := e
    cases h
    have h1 := List.all_eq_true.mp a_fl_ok _ (a_look_in hq)
    unfold a_fchk at h1
    dsimp only at h1
    cases hc : vwCl[e1]? with
    | none => rw [hc] at h1; cases h1
    | some q =>
      obtain ⟨C, T, N⟩ := q
      rw [hc] at h1
      simp only [Bool.and_eq_true, decide_eq_true_eq] at h1
      exact ⟨C, T, N, e3, rfl, h1.2, a_at_in h1.1 rfl⟩
theorem aWF.lt {h : aH} (hw : aWF h) {a k : Nat} (hk : (h.2.2.1 a).1 = k) (hn : k ≠ 999) : a < h.1 := by
  by_cases g : a < h.1
  · exact g
  · exfalso
    have := (hw.2.1 a (by omega)).1
    rw [this] at hk
    exact hn hk.symm
theorem a_ce_obj {ca : Nat → ClassId} {ad : Nat → Nat} {h : aH} {a ci : Nat} (hk : (h.2.2.1 a).1 = ci) (hc : ci < 100) : a_ce ca ad h a = .inr (ci, a_fs ad h a ci) := by
  unfold a_ce
  rw [hk, if_pos hc]
theorem a_ce_congr {ca : Nat → ClassId} {ad : Nat → Nat} {h h' : aH} {k : Nat} (e1 : h'.2.2.1 k = h.2.2.1 k) (e2 : h'.2.2.2.1 k = h.2.2.2.1 k) (e3 : h'.2.2.2.2.1 k = h.2.2.2.2.1 k) (e4 : h'.2.2.2.2.2 k = h.2.2.2.2.2 k) : a_ce ca ad h' k = a_ce ca ad h k := by
  unfold a_ce a_fs a_row
  rw [e1, e2, e3, e4]
  congr 1
  congr 1
  congr 1
  apply List.map_congr_left
  intro j _
  unfold a_fv
  rw [e2, e3, e4]
theorem u2_ne {α : Type} {f : Nat → Nat → α} {o k o' : Nat} {v : α} (h : o' ≠ o) : u2 f o k v o' = f o' := by
  funext j
  simp [u2, h]
theorem u2_at {α : Type} {f : Nat → Nat → α} {o k j : Nat} {v : α} : u2 f o k v o j = if j = k then v else f o j := by simp [u2]
theorem a_fs_get {ad : Nat → Nat} {h : aH} {a ci k : Nat} (hk : k < a_nf ci) : (a_fs ad h a ci)[k]? = some (a_fv ad h a ci k) := by
  unfold a_fs
  rw [List.getElem?_map, List.getElem?_range hk]
  rfl
theorem a_fs_put {ad : Nat → Nat} {h h' : aH} {a ci k : Nat} {w : Value} (hv : a_fv ad h' a ci k = w) (ho : ∀ j, j ≠ k → a_fv ad h' a ci j = a_fv ad h a ci j) : a_fs ad h' a ci = (a_fs ad h a ci).set k w := by
  apply List.ext_getElem?
  intro j
  by_cases hj : j < a_nf ci
  · rw [a_fs_get hj]
    by_cases hjk : j = k
    · subst hjk
      rw [List.getElem?_set_self (by unfold a_fs; simpa using hj), hv]
    · rw [List.getElem?_set_ne (Ne.symm hjk), a_fs_get hj, ho j hjk]
  · rw [List.getElem?_eq_none (by unfold a_fs; simpa using hj), List.getElem?_eq_none (by unfold a_fs; simpa using hj)]
theorem aWF_upd {h h' : aH} (hw : aWF h) {a : Nat} (ha : a < h.1) (e0 : h'.1 = h.1) (e1 : h'.2.2.1 = h.2.2.1) (e2 : ∀ k, k ≠ a → h'.2.2.2.1 k = h.2.2.2.1 k) (e3 : ∀ k, k ≠ a → h'.2.2.2.2.1 k = h.2.2.2.2.1 k) (e4 : ∀ k, k ≠ a → h'.2.2.2.2.2 k = h.2.2.2.2.2 k) : aWF h' := by
  refine ⟨by rw [e0]; exact hw.1, fun k hk => ?_, fun k hk => by rw [e1]; exact hw.2.2 k (by rw [e0] at hk; exact hk)⟩
  rw [e0] at hk
  rw [e1, e2 k (by omega), e3 k (by omega), e4 k (by omega)]
  exact hw.2.1 k hk
theorem a_ck1 {a : Nat} (h : (a_ck a).1 = 1) : ∃ j : Nat, j < 3 ∧ a = 1000000 + j ∧ (a_ck a).2 = j := by
  have h2 : 1000000 ≤ a ∧ a < 1000003 := by
    unfold a_ck at h
    by_cases h1 : a < 1000000
    · rw [if_pos h1] at h; cases h
    · by_cases h2 : a < 1000003
      · omega
      · rw [if_neg h1, if_neg h2] at h
        repeat' split at h
        all_goals cases h
  refine ⟨a - 1000000, by omega, by omega, ?_⟩
  unfold a_ck
  rw [if_neg (by omega), if_pos (by omega)]
theorem a_ck2 {a : Nat} (h : (a_ck a).1 = 2) : ∃ j : Nat, j < 3 ∧ a = 1000010 + j ∧ (a_ck a).2 = j := by
  have h2 : 1000010 ≤ a ∧ a < 1000013 := by
    unfold a_ck at h
    by_cases h1 : a < 1000000
    · rw [if_pos h1] at h; cases h
    · by_cases h2 : a < 1000003
      · rw [if_neg h1, if_pos h2] at h; cases h
      · by_cases h3 : a < 1000010
        · rw [if_neg h1, if_neg h2, if_pos h3] at h; cases h
        · by_cases h4 : a < 1000013
          · omega
          · rw [if_neg h1, if_neg h2, if_neg h3, if_neg h4] at h
            split at h <;> cases h
  refine ⟨a - 1000010, by omega, by omega, ?_⟩
  unfold a_ck
  rw [if_neg (by omega), if_neg (by omega), if_neg (by omega), if_pos (by omega)]
theorem a_ck3 {a : Nat} (h : (a_ck a).1 = 3) : a = 1000020 := by
  unfold a_ck at h
  repeat' split at h
  all_goals first | assumption | (cases h; done)
section
variable {p : Program} {l : Launch} {e : Env} {R : Room} {s : State} {m : MethodId} {args : Array Value} {below : List Frame} {meth : Method} {c : Code} {Q : State → Prop} {D : va_G} {ca : Nat → ClassId} {ad : Nat → Nat} {A : Nat → Prop} {mid d : Nat} {h0 : aH}
/-- a row changed -/
theorem a_Inv.upd {h h' : aH} {H H1 : Heap} {locs locs1 : List Loc} (hI : a_Inv D ca ad A s h0 h H locs) {a : Nat} {w : va_E} (ha : a < h.1) (e0 : h'.1 = h.1) (et : h'.2.1 = h.2.1) (e1 : h'.2.2.1 = h.2.2.1) (e2 : ∀ k, k ≠ a → h'.2.2.2.1 k = h.2.2.2.1 k) (e3 : ∀ k, k ≠ a → h'.2.2.2.2.1 k = h.2.2.2.2.1 k) (e4 : ∀ k, k ≠ a → h'.2.2.2.2.2 k = h.2.2.2.2.2 k)
    (hw : a_ce ca ad h' a = w) (hP : va_P D vwCl ((a_W ca ad h).set a (ad a, w)) H1) (hD : va_D A ((a_W ca ad h).set a (ad a, w))) (hS : va_S A s.heap H1 locs1) : a_Inv D ca ad A s h0 h' H1 locs1 := by
  obtain ⟨i1, i2, i3, i4, i5, i6, i7⟩ := hI
  have hW : a_W ca ad h' = (a_W ca ad h).set a (ad a, w) := by
    rw [a_W_set e0 (fun k hk => a_ce_congr (by rw [e1]) (e2 k hk) (e3 k hk) (e4 k hk)), hw]
  exact ⟨aWF_upd i1 ha e0 e1 e2 e3 e4, by rw [e0]; exact i2, by rw [et]; exact i3, by rw [hW]; exact hP, by rw [hW]; exact hD, hS, i7⟩
theorem x_getf (F : a_Fx p R s m args meth c D ca ad A mid d) {pc : Nat} {ls st : List Value} {h : aH} {z : aS} {idx : Nat} (hd : decode (a_code mid) pc = .ok (.getfield idx, 3)) (hs : a_gf mid idx pc 3 ls st h = some (.inl z)) (K : a_K p l e R s m args below meth c Q D ca ad A h0 z) : a_K p l e R s m args below meth c Q D ca ad A h0 (pc, ls, st, h) := by
  intro H locs lsR hI hL
  have hI2 := hI
  obtain ⟨i1, i2, i3, i4, i5, i6, i7⟩ := hI2
  unfold a_gf at hs
  split at hs
  · rename_i a st'
    cases hq : a_getf mid idx a h with
    | none => rw [hq] at hs; cases hs
    | some v =>
      rw [hq] at hs
      unfold a_go at hs; cases hs
      unfold a_getf at hq
      split at hq
      · rename_i ci k hf
        split at hq
        · rename_i hk
          obtain ⟨C, T, N, pl, hc, hkN, hlink⟩ := a_fld_in hf
          obtain ⟨g1, g2, g3, g4, g5, g6, g7, g8, g9⟩ := a_cls hc
          have ha : a < h.1 := aWF.lt i1 hk (by omega)
          have he : (a_W ca ad h)[a]? = some (ad a, .inr (ci, a_fs ad h a ci)) := by rw [a_W_get ha, a_ce_obj hk (by omega)]
          have hv : a_cv ad v = a_fv ad h a ci k := by
            cases hq
            unfold a_fv
            generalize a_fty ci k = ty
            match ty with
            | 0 => rfl
            | 1 => rfl
            | 2 => rfl
            | n + 3 =>
              show a_cv ad (a_ref (h.2.2.2.2.2 a k)) = va_rf ((h.2.2.2.2.2 a k).map ad)
              cases h.2.2.2.2.2 a k <;> rfl
          refine va_get (D := D) (ws := a_W ca ad h) (Ts := a_ws mid) F.1 F.2.1 F.2.2.2.2.1 (fun w hw => List.mem_cons_of_mem _ (g2 w hw)) F.own F.2.2.2.2.2.1 i4 a he hc k hkN (F.w hlink) (fun _ q => q) (by rw [a_fs_get (by rw [← g1]; exact hkN)]) hd ?_
          rw [← hv]
          exact K H locs lsR hI hL
        · cases hq
      · split at hq
        · rename_i k hk
          split at hq
          · rename_i hck
            have hin := a_look_in hk
            have hS : vk_S 3 a_lens a_bytes (fun i => ad (1000000 + i)) (fun i => ad (1000010 + i)) A s s.heap := F.2.2.2.2.2.2.1.1
            obtain ⟨j, hj, rfl, hj2⟩ := a_ck1 hck
            simp only [a_sfl, List.mem_cons, Prod.mk.injEq, List.not_mem_nil, or_false] at hin
            have hown : s.vm.findClass RJ0 = some m.cls := by
              have := F.own
              rcases hin with ⟨e, -⟩ | ⟨e, -⟩ <;> (rw [e] at this; exact this)
            rcases hin with ⟨-, rfl, rfl⟩ | ⟨-, rfl, rfl⟩
            · cases hq
              rw [hj2] at K
              refine vk_getf F.1 F.2.1 (hS.1 j hj).2.2.1 i6 hown (F.w (a_tb_of a_few_v1 rfl)) (fun _ q => q) hd ?_
              exact K H locs lsR hI hL
            · cases hq
              refine vk_getf F.1 F.2.1 (hS.1 j hj).2.1 i6 hown (F.w (a_tb_of a_few_v2 rfl)) (fun _ q => q) hd ?_
              exact K H locs lsR hI hL
          · cases hq
        · cases hq
  · cases hs
end
