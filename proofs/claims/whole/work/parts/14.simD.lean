/-! rows of arrays; new cells; what the JDK does by itself -/
section
variable {p : Program} {l : Launch} {e : Env} {R : Room} {s : State} {m : MethodId} {args : Array Value} {below : List Frame} {meth : Method} {c : Code} {Q : State → Prop} {D : va_G} {ca : Nat → ClassId} {ad : Nat → Nat} {A : Nat → Prop} {mid d : Nat} {h0 : aH}
theorem x_iaload (F : a_Fx p R s m args meth c D ca ad A mid d) {pc : Nat} {ls st : List Value} {h : aH} {z : aS} (hd : decode (a_code mid) pc = .ok (.iaload, 1)) (hs : a_ld .iaload pc 1 ls st h = some (.inl z)) (K : a_K p l e R s m args below meth c Q D ca ad A h0 z) : a_K p l e R s m args below meth c Q D ca ad A h0 (pc, ls, st, h) := by
  intro H locs lsR hI hL
  obtain ⟨i1, i2, i3, i4, i5, i6, i7⟩ := (show a_Inv D ca ad A s h0 h H locs from hI)
  unfold a_ld at hs
  split at hs
  · rename_i x a st'
    cases hq : a_aload .iaload x a h with
    | none => rw [hq] at hs; cases hs
    | some v =>
      rw [hq] at hs
      unfold a_go at hs; cases hs
      simp only [a_aload] at hq
      split at hq
      · rename_i hk
        split at hq
        · cases hq
        · rename_i hx
          cases hq
          have ha : a < h.1 := aWF.lt i1 hk (by decide)
          exact va_iald (D := D) (tys := a_tys ca) F.1 F.2.1 F.2.2.2.2.2.1 i4 a 0 (by rw [a_W_get ha, a_ce_i hk]) rfl hx hd (K H locs lsR hI hL)
      · split at hq
        · rename_i hck
          split at hq
          · cases hq
          · rename_i hx
            cases hq
            have ha := a_ck3 hck
            subst ha
            exact va_ti F.1 F.2.1 F.2.2.2.2.2.2.1.2.1 i6 hx rfl hd (K H locs lsR hI hL)
        · cases hq
  · cases hs
theorem x_laload (F : a_Fx p R s m args meth c D ca ad A mid d) {pc : Nat} {ls st : List Value} {h : aH} {z : aS} (hd : decode (a_code mid) pc = .ok (.laload, 1)) (hs : a_ld .laload pc 1 ls st h = some (.inl z)) (K : a_K p l e R s m args below meth c Q D ca ad A h0 z) : a_K p l e R s m args below meth c Q D ca ad A h0 (pc, ls, st, h) := by
  intro H locs lsR hI hL
  obtain ⟨i1, i2, i3, i4, i5, i6, i7⟩ := (show a_Inv D ca ad A s h0 h H locs from hI)
  unfold a_ld at hs
  split at hs
  · rename_i x a st'
    cases hq : a_aload .laload x a h with
    | none => rw [hq] at hs; cases hs
    | some v =>
      rw [hq] at hs
      unfold a_go at hs; cases hs
      simp only [a_aload] at hq
      split at hq
      · rename_i hk
        split at hq
        · cases hq
        · rename_i hx
          cases hq
          have ha : a < h.1 := aWF.lt i1 hk (by decide)
          exact va_lald (D := D) (tys := a_tys ca) F.1 F.2.1 F.2.2.2.2.2.1 i4 a 1 (by rw [a_W_get ha, a_ce_l hk]) rfl hx hd (K H locs lsR hI hL)
      · cases hq
  · cases hs
theorem x_caload (F : a_Fx p R s m args meth c D ca ad A mid d) {pc : Nat} {ls st : List Value} {h : aH} {z : aS} (hd : decode (a_code mid) pc = .ok (.caload, 1)) (hs : a_ld .caload pc 1 ls st h = some (.inl z)) (K : a_K p l e R s m args below meth c Q D ca ad A h0 z) : a_K p l e R s m args below meth c Q D ca ad A h0 (pc, ls, st, h) := by
  intro H locs lsR hI hL
  obtain ⟨i1, i2, i3, i4, i5, i6, i7⟩ := (show a_Inv D ca ad A s h0 h H locs from hI)
  unfold a_ld at hs
  split at hs
  · rename_i x a st'
    cases hq : a_aload .caload x a h with
    | none => rw [hq] at hs; cases hs
    | some v =>
      rw [hq] at hs
      unfold a_go at hs; cases hs
      simp only [a_aload] at hq
      split at hq
      · rename_i hk
        split at hq
        · cases hq
        · rename_i hx
          cases hq
          have ha : a < h.1 := aWF.lt i1 hk (by decide)
          exact va_cald (D := D) (tys := a_tys ca) F.1 F.2.1 F.2.2.2.2.2.1 i4 a 2 (by rw [a_W_get ha, a_ce_c hk]) rfl hx hd (K H locs lsR hI hL)
      · cases hq
  · cases hs
theorem x_aaload (F : a_Fx p R s m args meth c D ca ad A mid d) {pc : Nat} {ls st : List Value} {h : aH} {z : aS} (hd : decode (a_code mid) pc = .ok (.aaload, 1)) (hs : a_ld .aaload pc 1 ls st h = some (.inl z)) (K : a_K p l e R s m args below meth c Q D ca ad A h0 z) : a_K p l e R s m args below meth c Q D ca ad A h0 (pc, ls, st, h) := by
  intro H locs lsR hI hL
  obtain ⟨i1, i2, i3, i4, i5, i6, i7⟩ := (show a_Inv D ca ad A s h0 h H locs from hI)
  unfold a_ld at hs
  split at hs
  · rename_i x a st'
    cases hq : a_aload .aaload x a h with
    | none => rw [hq] at hs; cases hs
    | some v =>
      rw [hq] at hs
      unfold a_go at hs; cases hs
      simp only [a_aload] at hq
      split at hq
      · rename_i hk
        split at hq
        · cases hq
        · rename_i hx
          cases hq
          have ha : a < h.1 := aWF.lt i1 (k := (h.2.2.1 a).1) rfl (by omega)
          obtain ⟨t0, ci, r, ht, hc, hkd⟩ := a_qty (ca := ca) (i1.kinds ha hk.1)
          refine va_aldq (D := D) (tys := a_tys ca) F.1 F.2.1 F.2.2.2.2.2.1 i4 a t0 (by rw [a_W_get ha, a_ce_q rfl hk.1]) ht hx hd ?_
          have h9 := K H locs lsR hI hL
          rw [← a_cv_ref]
          exact h9
      · cases hq
  · cases hs
theorem x_baload (F : a_Fx p R s m args meth c D ca ad A mid d) {pc : Nat} {ls st : List Value} {h : aH} {z : aS} (hd : decode (a_code mid) pc = .ok (.baload, 1)) (hs : a_ld .baload pc 1 ls st h = some (.inl z)) (K : a_K p l e R s m args below meth c Q D ca ad A h0 z) : a_K p l e R s m args below meth c Q D ca ad A h0 (pc, ls, st, h) := by
  intro H locs lsR hI hL
  obtain ⟨i1, i2, i3, i4, i5, i6, i7⟩ := (show a_Inv D ca ad A s h0 h H locs from hI)
  unfold a_ld at hs
  split at hs
  · rename_i x a st'
    cases hq : a_aload .baload x a h with
    | none => rw [hq] at hs; cases hs
    | some v =>
      rw [hq] at hs
      unfold a_go at hs; cases hs
      simp only [a_aload] at hq
      split at hq
      · rename_i hck
        split at hq
        · cases hq
        · rename_i hx
          cases hq
          obtain ⟨j, hj, rfl, hj2⟩ := a_ck2 hck
          rw [hj2] at K hx
          have hS : vk_S 3 a_lens a_bytes (fun i => ad (1000000 + i)) (fun i => ad (1000010 + i)) A s s.heap := F.2.2.2.2.2.2.1.1
          have hlen : a_lens.getD j 0 = (a_bytes.getD j []).length := by rcases (show j = 0 ∨ j = 1 ∨ j = 2 by omega) with rfl | rfl | rfl <;> rfl
          exact va_tb F.1 F.2.1 (hS.1 j hj).2.2.2 i6 (show vp_in x (a_lens.getD j 0) by rw [hlen]; exact hx) rfl hd (K H locs lsR hI hL)
      · cases hq
  · cases hs
theorem x_iastore (F : a_Fx p R s m args meth c D ca ad A mid d) {pc : Nat} {ls st : List Value} {h : aH} {z : aS} (hd : decode (a_code mid) pc = .ok (.iastore, 1)) (hs : a_sv .iastore pc 1 ls st h = some (.inl z)) (K : a_K p l e R s m args below meth c Q D ca ad A h0 z) : a_K p l e R s m args below meth c Q D ca ad A h0 (pc, ls, st, h) := by
  intro H locs lsR hI hL
  obtain ⟨i1, i2, i3, i4, i5, i6, i7⟩ := (show a_Inv D ca ad A s h0 h H locs from hI)
  unfold a_sv at hs
  split at hs
  · rename_i v x a st'
    cases hq : a_astore .iastore v x a h with
    | none => rw [hq] at hs; cases hs
    | some h2 =>
      rw [hq] at hs
      unfold a_go at hs; cases hs
      unfold a_astore at hq
      cases v <;> simp only at hq <;> first | (cases hq; done) | skip
      rename_i y
      split at hq
      · rename_i hk
        cases hq
        have ha : a < h.1 := aWF.lt i1 hk.1 (by decide)
        refine va_iast (D := D) (tys := a_tys ca) F.1 F.2.1 F.2.2.2.2.2.1 i4 i5 i6 a 0 (by rw [a_W_get ha, a_ce_i hk.1]) rfl hk.2 hd (fun H1 locs1 hP hD hS => ?_)
        have h9 : a_ce ca ad (h.1, h.2.1, h.2.2.1, u2 h.2.2.2.1 a x.toNatClampNeg y, h.2.2.2.2.1, h.2.2.2.2.2) a = _ := a_ce_i (h := (h.1, h.2.1, h.2.2.1, u2 h.2.2.2.1 a x.toNatClampNeg y, h.2.2.2.2.1, h.2.2.2.2.2)) hk.1
        dsimp only at h9
        rw [u2_row] at h9
        exact K H1 locs1 lsR (hI.upd (h' := (h.1, h.2.1, h.2.2.1, u2 h.2.2.2.1 a x.toNatClampNeg y, h.2.2.2.2.1, h.2.2.2.2.2)) ha rfl rfl rfl (fun j hj => u2_ne hj) (fun _ _ => rfl) (fun _ _ => rfl) h9 hP hD hS) hL
      · cases hq
  · cases hs
theorem x_castore (F : a_Fx p R s m args meth c D ca ad A mid d) {pc : Nat} {ls st : List Value} {h : aH} {z : aS} (hd : decode (a_code mid) pc = .ok (.castore, 1)) (hs : a_sv .castore pc 1 ls st h = some (.inl z)) (K : a_K p l e R s m args below meth c Q D ca ad A h0 z) : a_K p l e R s m args below meth c Q D ca ad A h0 (pc, ls, st, h) := by
  intro H locs lsR hI hL
  obtain ⟨i1, i2, i3, i4, i5, i6, i7⟩ := (show a_Inv D ca ad A s h0 h H locs from hI)
  unfold a_sv at hs
  split at hs
  · rename_i v x a st'
    cases hq : a_astore .castore v x a h with
    | none => rw [hq] at hs; cases hs
    | some h2 =>
      rw [hq] at hs
      unfold a_go at hs; cases hs
      unfold a_astore at hq
      cases v <;> simp only at hq <;> first | (cases hq; done) | skip
      rename_i y
      split at hq
      · rename_i hk
        cases hq
        have ha : a < h.1 := aWF.lt i1 hk.1 (by decide)
        refine va_cast (D := D) (tys := a_tys ca) F.1 F.2.1 F.2.2.2.2.2.1 i4 i5 i6 a 2 (by rw [a_W_get ha, a_ce_c hk.1]) rfl hk.2 hd (fun H1 locs1 hP hD hS => ?_)
        have h9 : a_ce ca ad (h.1, h.2.1, h.2.2.1, u2 h.2.2.2.1 a x.toNatClampNeg (vp_nar .char y), h.2.2.2.2.1, h.2.2.2.2.2) a = _ := a_ce_c (h := (h.1, h.2.1, h.2.2.1, u2 h.2.2.2.1 a x.toNatClampNeg (vp_nar .char y), h.2.2.2.2.1, h.2.2.2.2.2)) hk.1
        dsimp only at h9
        rw [u2_row] at h9
        exact K H1 locs1 lsR (hI.upd (h' := (h.1, h.2.1, h.2.2.1, u2 h.2.2.2.1 a x.toNatClampNeg (vp_nar .char y), h.2.2.2.2.1, h.2.2.2.2.2)) ha rfl rfl rfl (fun j hj => u2_ne hj) (fun _ _ => rfl) (fun _ _ => rfl) h9 hP hD hS) hL
      · cases hq
  · cases hs
theorem x_lastore (F : a_Fx p R s m args meth c D ca ad A mid d) {pc : Nat} {ls st : List Value} {h : aH} {z : aS} (hd : decode (a_code mid) pc = .ok (.lastore, 1)) (hs : a_sv .lastore pc 1 ls st h = some (.inl z)) (K : a_K p l e R s m args below meth c Q D ca ad A h0 z) : a_K p l e R s m args below meth c Q D ca ad A h0 (pc, ls, st, h) := by
  intro H locs lsR hI hL
  obtain ⟨i1, i2, i3, i4, i5, i6, i7⟩ := (show a_Inv D ca ad A s h0 h H locs from hI)
  unfold a_sv at hs
  split at hs
  · rename_i v x a st'
    cases hq : a_astore .lastore v x a h with
    | none => rw [hq] at hs; cases hs
    | some h2 =>
      rw [hq] at hs
      unfold a_go at hs; cases hs
      unfold a_astore at hq
      cases v <;> simp only at hq <;> first | (cases hq; done) | skip
      rename_i y
      split at hq
      · rename_i hk
        cases hq
        have ha : a < h.1 := aWF.lt i1 hk.1 (by decide)
        refine va_last (D := D) (tys := a_tys ca) F.1 F.2.1 F.2.2.2.2.2.1 i4 i5 i6 a 1 (by rw [a_W_get ha, a_ce_l hk.1]) rfl hk.2 hd (fun H1 locs1 hP hD hS => ?_)
        have h9 : a_ce ca ad (h.1, h.2.1, h.2.2.1, h.2.2.2.1, u2 h.2.2.2.2.1 a x.toNatClampNeg y, h.2.2.2.2.2) a = _ := a_ce_l (h := (h.1, h.2.1, h.2.2.1, h.2.2.2.1, u2 h.2.2.2.2.1 a x.toNatClampNeg y, h.2.2.2.2.2)) hk.1
        dsimp only at h9
        rw [u2_rowL] at h9
        exact K H1 locs1 lsR (hI.upd (h' := (h.1, h.2.1, h.2.2.1, h.2.2.2.1, u2 h.2.2.2.2.1 a x.toNatClampNeg y, h.2.2.2.2.2)) ha rfl rfl rfl (fun _ _ => rfl) (fun j hj => u2_ne hj) (fun _ _ => rfl) h9 hP hD hS) hL
      · cases hq
  · cases hs
theorem x_aastore (F : a_Fx p R s m args meth c D ca ad A mid d) {pc : Nat} {ls st : List Value} {h : aH} {z : aS} (hd : decode (a_code mid) pc = .ok (.aastore, 1)) (hs : a_sv .aastore pc 1 ls st h = some (.inl z)) (K : a_K p l e R s m args below meth c Q D ca ad A h0 z) : a_K p l e R s m args below meth c Q D ca ad A h0 (pc, ls, st, h) := by
  intro H locs lsR hI hL
  obtain ⟨i1, i2, i3, i4, i5, i6, i7⟩ := (show a_Inv D ca ad A s h0 h H locs from hI)
  unfold a_sv at hs
  split at hs
  · rename_i v x a st'
    cases hq : a_astore .aastore v x a h with
    | none => rw [hq] at hs; cases hs
    | some h2 =>
      rw [hq] at hs
      unfold a_go at hs; cases hs
      unfold a_astore at hq
      cases v <;> simp only at hq <;> first | (cases hq; done) | skip
      rename_i y
      split at hq
      · rename_i hk
        cases hq
        have ha : a < h.1 := aWF.lt i1 (k := (h.2.2.1 a).1) rfl (by omega)
        obtain ⟨t0, ci, r, ht, hc, hkd⟩ := a_qty (ca := ca) (i1.kinds ha hk.1)
        have hyk : (h.2.2.1 y).1 = ci := by have := hk.2.1; omega
        have hci : ci < 100 := by have := hk.2.2.1; omega
        have hy : y < h.1 := aWF.lt i1 hyk (by omega)
        refine va_astq (D := D) (tys := a_tys ca) F.1 F.2.1 F.2.2.2.2.2.1 i4 i5 i6 a t0 y ci (v := ad y) (by rw [a_W_get ha, a_ce_q rfl hk.1]) ht (by rw [a_W_get hy, a_ce_obj hyk hci]) hc hk.2.2.2 hd (fun H1 locs1 hP hD hS => ?_)
        have h9 : a_ce ca ad (h.1, h.2.1, h.2.2.1, h.2.2.2.1, h.2.2.2.2.1, u2 h.2.2.2.2.2 a x.toNatClampNeg (some y)) a = _ := a_ce_q (h := (h.1, h.2.1, h.2.2.1, h.2.2.2.1, h.2.2.2.2.1, u2 h.2.2.2.2.2 a x.toNatClampNeg (some y))) rfl hk.1
        have h8 : (fun j => Option.map ad (u2 h.2.2.2.2.2 a x.toNatClampNeg (some y) a j)) = va_up (fun j => Option.map ad (h.2.2.2.2.2 a j)) x.toNatClampNeg (some (ad y)) := by
          funext j
          rw [u2_at]
          unfold va_up
          by_cases hj : j = x.toNatClampNeg
          · rw [if_pos hj, if_pos hj]; rfl
          · rw [if_neg hj, if_neg hj]
        dsimp only at h9
        rw [h8] at h9
        exact K H1 locs1 lsR (hI.upd (h' := (h.1, h.2.1, h.2.2.1, h.2.2.2.1, h.2.2.2.2.1, u2 h.2.2.2.2.2 a x.toNatClampNeg (some y))) ha rfl rfl rfl (fun _ _ => rfl) (fun _ _ => rfl) (fun j hj => u2_ne hj) h9 hP hD hS) hL
      · cases hq
  · cases hs
end
