/-! what is run without a frame of the class's own: Object(), max, min, arraycopy -/
theorem a_cchk_3 {o i mid p1 p2 p3 p4 : Nat} (h : a_cchk (o, i, 3, mid, p1, p2, p3, p4) = true) : a_at p1 (.methodLink (a_cname o) i Lib.objectInit) = true := by simpa only [a_cchk, Nat.reduceEqDiff, reduceIte, Bool.and_eq_true] using h
theorem a_cchk_4 {o i mid p1 p2 p3 p4 : Nat} (h : a_cchk (o, i, 4, mid, p1, p2, p3, p4) = true) : (a_at p1 (.methodLink (a_cname o) i Lib.Math.max.name) = true ∧ a_at p2 (.static Lib.Math.max.name) = true) ∧ a_at p3 (.initialized "java/lang/Math") = true := by simpa only [a_cchk, Nat.reduceEqDiff, reduceIte, Bool.and_eq_true] using h
theorem a_cchk_5 {o i mid p1 p2 p3 p4 : Nat} (h : a_cchk (o, i, 5, mid, p1, p2, p3, p4) = true) : (a_at p1 (.methodLink (a_cname o) i Lib.Math.min.name) = true ∧ a_at p2 (.static Lib.Math.min.name) = true) ∧ a_at p3 (.initialized "java/lang/Math") = true := by simpa only [a_cchk, Nat.reduceEqDiff, reduceIte, Bool.and_eq_true] using h
theorem a_cchk_6 {o i mid p1 p2 p3 p4 : Nat} (h : a_cchk (o, i, 6, mid, p1, p2, p3, p4) = true) : ((a_at p1 (.methodLink (a_cname o) i arraycopyName) = true ∧ a_at p2 (.native arraycopyName) = true) ∧ a_at p3 (.static arraycopyName) = true) ∧ a_at p4 (.initialized "java/lang/System") = true := by simpa only [a_cchk, Nat.reduceEqDiff, reduceIte, Bool.and_eq_true] using h
theorem a_cchk_0 {o i mid p1 p2 p3 p4 : Nat} (h : a_cchk (o, i, 0, mid, p1, p2, p3, p4) = true) : ((a_at p1 (.methodLink (a_cname o) i (a_name mid)) = true ∧ a_at p2 (.static (a_name mid)) = true) ∧ a_at p3 (.initialized (a_name mid).cls) = true) ∧ mid < a_ms.length := by simpa only [a_cchk, Nat.reduceEqDiff, reduceIte, Bool.and_eq_true, decide_eq_true_eq] using h
theorem a_cchk_1 {o i mid p1 p2 p3 p4 : Nat} (h : a_cchk (o, i, 1, mid, p1, p2, p3, p4) = true) : (((a_at p1 (.methodLink (a_cname o) i (a_name mid)) = true ∧ a_at p2 (.instanceMethod (a_name mid)) = true) ∧ a_at p3 (.selects (a_name mid).cls (a_name mid) (a_name mid)) = true) ∧ a_at p4 (.initialized (a_name mid).cls) = true) ∧ mid < a_ms.length := by simpa only [a_cchk, Nat.reduceEqDiff, reduceIte, Bool.and_eq_true, decide_eq_true_eq] using h
theorem a_cchk_2 {o i mid p1 p2 p3 p4 : Nat} (h : a_cchk (o, i, 2, mid, p1, p2, p3, p4) = true) : ((((a_at p1 (.methodLink (a_cname o) i (a_name mid)) = true ∧ a_at p2 (.instanceMethod (a_name mid)) = true) ∧ a_at p3 (.initialized (a_name mid).cls) = true) ∧ (a_name mid).name = "<init>") ∧ a_ret mid = none) ∧ mid < a_ms.length := by simpa only [a_cchk, Nat.reduceEqDiff, reduceIte, Bool.and_eq_true, decide_eq_true_eq] using h
theorem a_cchk_7 {o i mid p1 p2 p3 p4 : Nat} (h : a_cchk (o, i, 7, mid, p1, p2, p3, p4) = true) : ((((a_at p1 (.methodLinkNest (a_cname o) i (a_name mid) RX7) = true ∧ a_at p2 (.instanceMethod (a_name mid)) = true) ∧ a_at p3 (.initialized (a_name mid).cls) = true) ∧ (a_name mid).name = "<init>") ∧ a_ret mid = none) ∧ mid < a_ms.length := by simpa only [a_cchk, Nat.reduceEqDiff, reduceIte, Bool.and_eq_true, decide_eq_true_eq] using h
theorem a_cat_map (ad : Nat → Nat) (st : List Value) : ((st.map (a_cv ad)).map fun v => v.category).sum = (st.map Value.category).sum := by
  congr 1
  rw [List.map_map]
  exact List.map_congr_left (fun v _ => a_cv_cat ad v)
section
variable {p : Program} {l : Launch} {e : Env} {R : Room} {s : State} {m : MethodId} {args : Array Value} {below : List Frame} {meth : Method} {c : Code} {Q : State → Prop} {D : va_G} {ca : Nat → ClassId} {ad : Nat → Nat} {A : Nat → Prop} {mid d : Nat} {h0 : aH}
theorem a_lsz (F : a_Fx p R s m args meth c D ca ad A mid d) {ls : List Value} {lsR : Array Slot} (hL : a_lo ad ls lsR) (hk : a_lok2 mid ls = true) : c.maxLocals = lsR.size := by
  rw [F.2.2.1, hL.1]
  exact (Nat.eq_of_beq_eq_true hk).symm
theorem x_iS (F : a_Fx p R s m args meth c D ca ad A mid d) {pc : Nat} {ls st : List Value} {h : aH} {z : aS} {idx : Nat} (hB : h.1 - h0.1 ≤ R.cells ∧ h.2.1 - h0.2.1 ≤ R.slots) (hk2 : a_lok2 mid ls = true) (hd : decode (a_code mid) pc = .ok (.invokestatic idx, 3)) (hs : a_iS mid idx pc ls st h = some (.inl z)) (K : a_K p l e R s m args below meth c Q D ca ad A h0 z) : a_K p l e R s m args below meth c Q D ca ad A h0 (pc, ls, st, h) := by
  intro H locs lsR hI hL
  obtain ⟨i1, i2, i3, i4, i5, i6, i7⟩ := (show a_Inv D ca ad A s h0 h H locs from hI)
  have hml := a_lsz F hL hk2
  have hfr : 1 ≤ R.frames := by have := F.2.2.2.2.2.2.2.2.2.2.1; omega
  have hlo : 60 ≤ R.locals := by have := F.2.2.2.2.2.2.2.2.2.2.2; omega
  unfold a_iS at hs
  split at hs
  · unfold a_call at hs
    split at hs
    · cases hs
    · cases hs
  · rename_i mid2 hc
    obtain ⟨p1, p2, p3, p4, hq⟩ := a_cal_in hc
    have hw := a_cchk_4 hq
    split at hs
    · rename_i y x st'
      split at hs
      · rename_i hsum
        unfold a_go at hs; cases hs
        exact va_mmax F.1 F.2.1 hml F.own (F.w (a_at_in hw.1.1 rfl)) (F.w (a_at_in hw.1.2 rfl)) (F.w (a_at_in hw.2 rfl)) (F.w (a_tb_of am_max rfl)) hfr (by rw [a_cat_map]; omega) hB.1 hB.2 hd (K H locs lsR hI hL)
      · cases hs
    · cases hs
  · rename_i mid2 hc
    obtain ⟨p1, p2, p3, p4, hq⟩ := a_cal_in hc
    have hw := a_cchk_5 hq
    split at hs
    · rename_i y x st'
      split at hs
      · rename_i hsum
        unfold a_go at hs; cases hs
        exact va_mmin F.1 F.2.1 hml F.own (F.w (a_at_in hw.1.1 rfl)) (F.w (a_at_in hw.1.2 rfl)) (F.w (a_at_in hw.2 rfl)) (F.w (a_tb_of am_min rfl)) hfr (by rw [a_cat_map]; omega) hB.1 hB.2 hd (K H locs lsR hI hL)
      · cases hs
    · cases hs
  · rename_i mid2 hc
    obtain ⟨p1, p2, p3, p4, hq⟩ := a_cal_in hc
    have hw := a_cchk_6 hq
    split at hs
    · rename_i n dp b sp a st'
      split at hs
      · rename_i hh
        obtain ⟨k1, k2, k3, k4, k5, k6, k7, k8⟩ := hh
        unfold a_go at hs; cases hs
        have ha : a < h.1 := aWF.lt i1 k1 (by decide)
        have hb : b < h.1 := aWF.lt i1 k2 (by decide)
        have hnf : nativeFrameWords "java/lang/System" "arraycopy" 5 ≤ 40 := by decide +kernel
        refine va_copyi (D := D) (tys := a_tys ca) F.1 F.2.1 hml F.own (F.w (a_at_in hw.1.1.1 rfl)) (F.w (a_at_in hw.1.1.2 rfl)) (F.w (a_at_in hw.1.2 rfl)) (F.w (a_at_in hw.2 rfl)) F.2.2.2.2.2.1 i4 i5 i6 a b 0 0 (by rw [a_W_get ha, a_ce_i k1]) (by rw [a_W_get hb, a_ce_i k2]) rfl rfl rfl k3 k4 k5 k6 k7 (fun _ _ => rfl) hfr (by rw [a_cat_map]; omega) hd (fun H1 locs1 hP hD hS => ?_)
        refine K H1 locs1 lsR (hI.upd (h' := (h.1, h.2.1, h.2.2.1, (fun o => if o = b then va_cpy (h.2.2.2.1 a) (h.2.2.2.1 b) sp.toNatClampNeg dp.toNatClampNeg n.toNatClampNeg else h.2.2.2.1 o), h.2.2.2.2)) hb rfl rfl rfl (fun j hj => if_neg hj) (fun _ _ => rfl) (fun _ _ => rfl) ?_ hP hD hS) hL
        rw [a_ce_i (by exact k2)]
        dsimp only
        rw [if_pos rfl]
      · cases hs
    · cases hs
  · cases hs
theorem x_iI (F : a_Fx p R s m args meth c D ca ad A mid d) {pc : Nat} {ls st : List Value} {h : aH} {z : aS} {idx : Nat} (hk2 : a_lok2 mid ls = true) (hd : decode (a_code mid) pc = .ok (.invokespecial idx, 3)) (hs : a_iI mid idx pc ls st h = some (.inl z)) (K : a_K p l e R s m args below meth c Q D ca ad A h0 z) : a_K p l e R s m args below meth c Q D ca ad A h0 (pc, ls, st, h) := by
  intro H locs lsR hI hL
  have hml := a_lsz F hL hk2
  have hfr : 1 ≤ R.frames := by have := F.2.2.2.2.2.2.2.2.2.2.1; omega
  have hlo : 60 ≤ R.locals := by have := F.2.2.2.2.2.2.2.2.2.2.2; omega
  unfold a_iI at hs
  split at hs
  · split at hs
    · unfold a_call at hs
      split at hs <;> cases hs
    · cases hs
  · split at hs
    · unfold a_call at hs
      split at hs <;> cases hs
    · cases hs
  · rename_i mid2 hc
    obtain ⟨p1, p2, p3, p4, hq⟩ := a_cal_in hc
    have hw := a_cchk_3 hq
    split at hs
    · rename_i a st'
      split at hs
      · rename_i hsum
        unfold a_go at hs; cases hs
        refine W.objInit F.1 F.2.1 F.own (F.w (a_at_in hw rfl)) (F.w (a_tb_of a_few_oi rfl)) (F.w (a_tb_of am_object rfl)) (g := F0 m pc lsR ((Value.ref a :: st').map (a_cv ad))) rfl hml.symm rfl hd hfr (by rw [a_cat_map]; show 2 * 0 + _ + 12 ≤ _; omega) ?_
        exact K H locs lsR hI hL
      · cases hs
    · cases hs
  · cases hs
end
