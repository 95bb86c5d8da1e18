/-! storing into fields, statics, rows -/
theorem a_ce_i {ca : Nat → ClassId} {ad : Nat → Nat} {h : aH} {a : Nat} (hk : (h.2.2.1 a).1 = 100) : a_ce ca ad h a = .inl (ca 100, (h.2.2.1 a).2, .inl (h.2.2.2.1 a)) := by
  unfold a_ce a_row
  rw [hk, if_neg (by decide), if_neg (by decide), if_pos (by decide)]
theorem a_ce_l {ca : Nat → ClassId} {ad : Nat → Nat} {h : aH} {a : Nat} (hk : (h.2.2.1 a).1 = 101) : a_ce ca ad h a = .inl (ca 101, (h.2.2.1 a).2, .inr (.inl (h.2.2.2.2.1 a))) := by
  unfold a_ce a_row
  rw [hk, if_neg (by decide), if_pos rfl]
theorem a_ce_c {ca : Nat → ClassId} {ad : Nat → Nat} {h : aH} {a : Nat} (hk : (h.2.2.1 a).1 = 102) : a_ce ca ad h a = .inl (ca 102, (h.2.2.1 a).2, .inl (h.2.2.2.1 a)) := by
  unfold a_ce a_row
  rw [hk, if_neg (by decide), if_neg (by decide), if_pos (by decide)]
theorem a_ce_q {ca : Nat → ClassId} {ad : Nat → Nat} {h : aH} {a kd : Nat} (hk : (h.2.2.1 a).1 = kd) (h1 : 110 ≤ kd) : a_ce ca ad h a = .inl (ca kd, (h.2.2.1 a).2, .inr (.inr (.inr (.inr (fun j => (h.2.2.2.2.2 a j).map ad))))) := by
  unfold a_ce a_row
  rw [hk, if_neg (by omega), if_neg (by omega), if_neg (by omega)]
theorem u2_row {f : Nat → Nat → Int32} {a k : Nat} {x : Int32} : u2 f a k x a = upd (f a) k x := by
  funext j
  rw [u2_at]
  rfl
theorem u2_rowL {f : Nat → Nat → Int64} {a k : Nat} {x : Int64} : u2 f a k x a = vp_updL (f a) k x := by
  funext j
  rw [u2_at]
  rfl
theorem aWF.kinds {h : aH} (hw : aWF h) {a : Nat} (ha : a < h.1) (h1 : 110 ≤ (h.2.2.1 a).1) : (h.2.2.1 a).1 = 110 ∨ (h.2.2.1 a).1 = 114 ∨ (h.2.2.1 a).1 = 115 := by
  rcases hw.2.2 a ha with g | g | g | g | g
  · omega
  · omega
  · omega
  · omega
  · exact g
theorem a_qty {ca : Nat → ClassId} {kd : Nat} (hk : kd = 110 ∨ kd = 114 ∨ kd = 115) : ∃ (t0 ci : Nat) (r : vw_C), (a_tys ca)[t0]? = some (ca kd, .object r.1) ∧ vwCl[ci]? = some r ∧ kd = 110 + ci := by
  rcases hk with rfl | rfl | rfl
  · exact ⟨3, 0, (RX0, TX0, 7), rfl, rfl, rfl⟩
  · exact ⟨4, 4, (RX4, TX4, 3), rfl, rfl, rfl⟩
  · exact ⟨5, 5, (RX6, TX6, 5), rfl, rfl, rfl⟩
theorem a_cv_ref (ad : Nat → Nat) (r : Option Nat) : a_cv ad (a_ref r) = va_rf (r.map ad) := by cases r <;> rfl
section
variable {p : Program} {l : Launch} {e : Env} {R : Room} {s : State} {m : MethodId} {args : Array Value} {below : List Frame} {meth : Method} {c : Code} {Q : State → Prop} {D : va_G} {ca : Nat → ClassId} {ad : Nat → Nat} {A : Nat → Prop} {mid d : Nat} {h0 : aH}
theorem x_put_core (F : a_Fx p R s m args meth c D ca ad A mid d) {pc : Nat} {lsR : Array Slot} {rest : List Value} {h h' : aH} {H : Heap} {locs : List Loc} (hI : a_Inv D ca ad A s h0 h H locs) {idx a ci k : Nat} {w : Value} {ty : FieldType} {C : String} {T : u_T} {N cells slots : Nat}
    (hd : decode (a_code mid) pc = .ok (.putfield idx, 3)) (hk : (h.2.2.1 a).1 = ci) (hc : vwCl[ci]? = some (C, T, N)) (hkN : k < N) (hlink : Cond.fieldLink (a_cname (a_own mid)) idx (T k).1 (T k).2.1 (T k).2.2.1 ∈ a_tb) (hfin : a_fin ci k = false ∨ (a_ini mid = true ∧ a_own mid = ci))
    (hp : parseFieldDescriptor (T k).2.2.1 = some ty) (hn : narrow ty w = w) (hf : fits ty w = true) (e0 : h'.1 = h.1) (et : h'.2.1 = h.2.1) (e1 : h'.2.2.1 = h.2.2.1) (e2 : ∀ k, k ≠ a → h'.2.2.2.1 k = h.2.2.2.1 k) (e3 : ∀ k, k ≠ a → h'.2.2.2.2.1 k = h.2.2.2.2.1 k) (e4 : ∀ k, k ≠ a → h'.2.2.2.2.2 k = h.2.2.2.2.2 k)
    (hw : a_fv ad h' a ci k = w) (ho : ∀ j, j ≠ k → a_fv ad h' a ci j = a_fv ad h a ci j)
    (K : ∀ (H1 : Heap) (locs1 : List Loc), a_Inv D ca ad A s h0 h' H1 locs1 → W p l e R s m args below meth c H1 locs1 cells slots Q (F0 m (pc + 3) lsR rest)) : W p l e R s m args below meth c H locs cells slots Q (F0 m pc lsR (w :: .ref (ad a) :: rest)) := by
  have hI2 := hI
  obtain ⟨i1, i2, i3, i4, i5, i6, i7⟩ := hI2
  obtain ⟨g1, g2, g3, g4, g5, g6, g7, g8, g9⟩ := a_cls hc
  have ha : a < h.1 := aWF.lt i1 hk (by omega)
  have he : (a_W ca ad h)[a]? = some (ad a, .inr (ci, a_fs ad h a ci)) := by rw [a_W_get ha, a_ce_obj hk (by omega)]
  have hl : k < (a_fs ad h a ci).length := by unfold a_fs; rw [List.length_map, List.length_range, ← g1]; exact hkN
  have hce : a_ce ca ad h' a = .inr (ci, (a_fs ad h a ci).set k w) := by
    have h9 := a_ce_obj (ca := ca) (ad := ad) (h := h') (a := a) (ci := ci) (by rw [e1]; exact hk) (by omega)
    rw [h9, a_fs_put hw ho]
  have hts : ∀ w ∈ u_ws C T N, w ∈ a_ws mid := fun w hw => List.mem_cons_of_mem _ (g2 w hw)
  have hty : ∀ j, j < N → parseFieldDescriptor (T j).2.2.1 = some ((parseFieldDescriptor (T j).2.2.1).getD .int) := fun j hj => by
    obtain ⟨ty', h1, -⟩ := g3 j hj
    rw [h1]; rfl
  by_cases hfn : a_fin ci k = false
  · refine va_put (D := D) (tys := a_tys ca) F.1 F.2.1 F.2.2.2.2.1 hts (fun j => (parseFieldDescriptor (T j).2.2.1).getD .int) hty g5 F.own F.2.2.2.2.2.1 i4 i5 i6 a he hc k hkN (F.w hlink) (fun _ q => q) (by rw [(g4 k hkN).1]; exact hfn) hp hn hf hl hd (fun H1 locs1 hP hD hS => ?_)
    exact K H1 locs1 (hI.upd ha e0 et e1 e2 e3 e4 hce hP hD hS)
  · rcases hfin with hfin | ⟨hi, ho2⟩
    · exact absurd hfin hfn
    · refine va_putF (D := D) (tys := a_tys ca) F.1 F.2.1 F.2.2.2.2.1 hts (fun j => (parseFieldDescriptor (T j).2.2.1).getD .int) hty g5 F.own F.2.2.2.2.2.1 i4 i5 i6 a he hc k hkN (F.w hlink) (fun _ q => q) (by rw [(g4 k hkN).1]; exact eq_true_of_ne_false hfn) (F.2.2.2.2.2.2.2.2.2.1 hi) (by rw [(g4 k hkN).2, g8, ho2]) hp hn hf hl hd (fun H1 locs1 hP hD hS => ?_)
      exact K H1 locs1 (hI.upd ha e0 et e1 e2 e3 e4 hce hP hD hS)
theorem a_fv_i {ad : Nat → Nat} {h : aH} {a ci k : Nat} (ht : a_fty ci k = 0 ∨ a_fty ci k = 1) : a_fv ad h a ci k = .int (h.2.2.2.1 a k) := by
  unfold a_fv
  rcases ht with ht | ht <;> (rw [ht]; rfl)
theorem a_fv_l {ad : Nat → Nat} {h : aH} {a ci k : Nat} (ht : a_fty ci k = 2) : a_fv ad h a ci k = .long (h.2.2.2.2.1 a k) := by
  unfold a_fv
  rw [ht]
  rfl
theorem a_fv_r {ad : Nat → Nat} {h : aH} {a ci k : Nat} (ht : a_fty ci k = 3) : a_fv ad h a ci k = va_rf ((h.2.2.2.2.2 a k).map ad) := by
  unfold a_fv
  rw [ht]
  rfl
theorem a_fv_congr {ad : Nat → Nat} {h h' : aH} {a ci k : Nat} (e2 : h'.2.2.2.1 a k = h.2.2.2.1 a k) (e3 : h'.2.2.2.2.1 a k = h.2.2.2.2.1 a k) (e4 : h'.2.2.2.2.2 a k = h.2.2.2.2.2 a k) : a_fv ad h' a ci k = a_fv ad h a ci k := by
  unfold a_fv
  rw [e2, e3, e4]
theorem x_putf (F : a_Fx p R s m args meth c D ca ad A mid d) {pc : Nat} {ls st : List Value} {h : aH} {z : aS} {idx : Nat} (hd : decode (a_code mid) pc = .ok (.putfield idx, 3)) (hs : a_pf mid idx pc 3 ls st h = some (.inl z)) (K : a_K p l e R s m args below meth c Q D ca ad A h0 z) : a_K p l e R s m args below meth c Q D ca ad A h0 (pc, ls, st, h) := by
  intro H locs lsR hI hL
  unfold a_pf at hs
  split at hs
  · rename_i v a st'
    cases hq : a_putf mid idx a v h with
    | none => rw [hq] at hs; cases hs
    | some h2 =>
      rw [hq] at hs
      unfold a_go at hs; cases hs
      unfold a_putf at hq
      split at hq
      · rename_i ci k hf
        obtain ⟨C, T, N, pl, hc, hkN, hlink⟩ := a_fld_in hf
        obtain ⟨g1, g2, g3, g4, g5, g6, g7, g8, g9⟩ := a_cls hc
        obtain ⟨ty, hp, hty⟩ := g3 k hkN
        split at hq
        · rename_i hk
          split at hq
          · rename_i x ht
            cases hq
            rw [ht] at hty
            cases ty <;> simp only [a_tyc] at hty <;> first | (cases hty; done) | skip
            exact x_put_core F (h' := (h.1, h.2.1, h.2.2.1, u2 h.2.2.2.1 a k x, h.2.2.2.2.1, h.2.2.2.2.2)) hI hd hk.1 hc hkN hlink hk.2 hp rfl rfl rfl rfl rfl (fun j hj => u2_ne hj) (fun _ _ => rfl) (fun _ _ => rfl) (by rw [a_fv_i (Or.inl ht)]; exact congrArg Value.int (u2_at.trans (if_pos rfl))) (fun j hj => a_fv_congr (u2_at.trans (if_neg hj)) rfl rfl) (fun H1 locs1 hI1 => K H1 locs1 lsR hI1 hL)
          · rename_i x ht
            split at hq
            · rename_i hx
              cases hq
              rw [ht] at hty
              cases ty <;> simp only [a_tyc] at hty <;> first | (cases hty; done) | skip
              exact x_put_core F (h' := (h.1, h.2.1, h.2.2.1, u2 h.2.2.2.1 a k x, h.2.2.2.2.1, h.2.2.2.2.2)) hI hd hk.1 hc hkN hlink hk.2 hp (by rcases hx with rfl | rfl <;> rfl) (by rcases hx with rfl | rfl <;> rfl) rfl rfl rfl (fun j hj => u2_ne hj) (fun _ _ => rfl) (fun _ _ => rfl) (by rw [a_fv_i (Or.inr ht)]; exact congrArg Value.int (u2_at.trans (if_pos rfl))) (fun j hj => a_fv_congr (u2_at.trans (if_neg hj)) rfl rfl) (fun H1 locs1 hI1 => K H1 locs1 lsR hI1 hL)
            · cases hq
          · rename_i x ht
            cases hq
            rw [ht] at hty
            cases ty <;> simp only [a_tyc] at hty <;> first | (cases hty; done) | skip
            exact x_put_core F (h' := (h.1, h.2.1, h.2.2.1, h.2.2.2.1, u2 h.2.2.2.2.1 a k x, h.2.2.2.2.2)) hI hd hk.1 hc hkN hlink hk.2 hp rfl rfl rfl rfl rfl (fun _ _ => rfl) (fun j hj => u2_ne hj) (fun _ _ => rfl) (by rw [a_fv_l ht]; exact congrArg Value.long (u2_at.trans (if_pos rfl))) (fun j hj => a_fv_congr rfl (u2_at.trans (if_neg hj)) rfl) (fun H1 locs1 hI1 => K H1 locs1 lsR hI1 hL)
          · rename_i ht
            cases hq
            rw [ht] at hty
            have hnf : narrow ty .null = .null ∧ fits ty .null = true := by cases ty <;> simp only [a_tyc] at hty <;> first | (cases hty; done) | exact ⟨rfl, rfl⟩
            exact x_put_core F (h' := (h.1, h.2.1, h.2.2.1, h.2.2.2.1, h.2.2.2.2.1, u2 h.2.2.2.2.2 a k none)) hI hd hk.1 hc hkN hlink hk.2 hp hnf.1 hnf.2 rfl rfl rfl (fun _ _ => rfl) (fun _ _ => rfl) (fun j hj => u2_ne hj) (by rw [a_fv_r ht]; exact congrArg (fun r => va_rf (Option.map ad r)) (u2_at.trans (if_pos rfl))) (fun j hj => a_fv_congr rfl rfl (u2_at.trans (if_neg hj))) (fun H1 locs1 hI1 => K H1 locs1 lsR hI1 hL)
          · rename_i b ht
            split at hq
            · cases hq
              rw [ht] at hty
              have hnf : narrow ty (.ref (ad b)) = .ref (ad b) ∧ fits ty (.ref (ad b)) = true := by cases ty <;> simp only [a_tyc] at hty <;> first | (cases hty; done) | exact ⟨rfl, rfl⟩
              exact x_put_core F (h' := (h.1, h.2.1, h.2.2.1, h.2.2.2.1, h.2.2.2.2.1, u2 h.2.2.2.2.2 a k (some b))) hI hd hk.1 hc hkN hlink hk.2 hp hnf.1 hnf.2 rfl rfl rfl (fun _ _ => rfl) (fun _ _ => rfl) (fun j hj => u2_ne hj) (by rw [a_fv_r ht]; exact congrArg (fun r => va_rf (Option.map ad r)) (u2_at.trans (if_pos rfl))) (fun j hj => a_fv_congr rfl rfl (u2_at.trans (if_neg hj))) (fun H1 locs1 hI1 => K H1 locs1 lsR hI1 hL)
            · cases hq
          · cases hq
        · cases hq
      · cases hq
  · cases hs
theorem x_gets (F : a_Fx p R s m args meth c D ca ad A mid d) {pc : Nat} {ls st : List Value} {h : aH} {z : aS} {idx : Nat} (hd : decode (a_code mid) pc = .ok (.getstatic idx, 3)) (hs : a_gs mid idx pc 3 ls st h = some (.inl z)) (K : a_K p l e R s m args below meth c Q D ca ad A h0 z) : a_K p l e R s m args below meth c Q D ca ad A h0 (pc, ls, st, h) := by
  intro H locs lsR hI hL
  obtain ⟨i1, i2, i3, i4, i5, i6, i7⟩ := (show a_Inv D ca ad A s h0 h H locs from hI)
  obtain ⟨q1, q2, q3, q4, q5, q6⟩ := F.2.2.2.2.2.2.1
  unfold a_gs at hs
  split at hs
  · rename_i k hk
    unfold a_go at hs; cases hs
    have hin := a_look_in hk
    have hown := F.own
    simp only [a_gst, List.mem_cons, Prod.mk.injEq, List.not_mem_nil, or_false] at hin
    rcases hin with ⟨e1, rfl, rfl⟩ | ⟨e1, rfl, rfl⟩ | ⟨e1, rfl, rfl⟩
    · rw [e1] at hown
      exact va_gets F.1 F.2.1 q3 i6 hown (F.w (a_tb_of a_few_s1 rfl)) (fun _ q => q) hd (K H locs lsR hI hL)
    · rw [e1] at hown
      exact va_gets F.1 F.2.1 q4 i6 hown (F.w (a_tb_of a_few_s2 rfl)) (fun _ q => q) hd (K H locs lsR hI hL)
    · rw [e1] at hown
      exact va_gets F.1 F.2.1 q5 i6 hown (F.w (a_tb_of a_few_s3 rfl)) (fun _ q => q) hd (K H locs lsR hI hL)
  · cases hs
theorem x_ldcs (F : a_Fx p R s m args meth c D ca ad A mid d) {pc : Nat} {ls st : List Value} {h : aH} {z : aS} {idx : Nat} (hd : decode (a_code mid) pc = .ok (.ldc idx, 2)) (hs : a_ldcs mid idx pc 2 ls st h = some (.inl z)) (K : a_K p l e R s m args below meth c Q D ca ad A h0 z) : a_K p l e R s m args below meth c Q D ca ad A h0 (pc, ls, st, h) := by
  intro H locs lsR hI hL
  obtain ⟨q1, q2, q3, q4, q5, q6, q7, q8, q9, q10, q11, q12⟩ := F.2.2.2.2.2.2.1
  unfold a_ldcs at hs
  split at hs
  · rename_i k hk
    unfold a_go at hs; cases hs
    have hin := a_look_in hk
    have hown := F.own
    simp only [a_cs, List.mem_cons, Prod.mk.injEq, List.not_mem_nil, or_false] at hin
    rcases hin with ⟨e1, rfl, rfl⟩ | ⟨e1, rfl, rfl⟩ | ⟨e1, rfl, rfl⟩
    · rw [e1] at hown
      exact va_ldcS F.1 F.2.1 hown q10 hd (K H locs lsR hI hL)
    · rw [e1] at hown
      exact va_ldcS F.1 F.2.1 hown q11 hd (K H locs lsR hI hL)
    · rw [e1] at hown
      exact va_ldcS F.1 F.2.1 hown q12 hd (K H locs lsR hI hL)
  · cases hs
theorem x_alen (F : a_Fx p R s m args meth c D ca ad A mid d) {pc : Nat} {ls st : List Value} {h : aH} {z : aS} (hd : decode (a_code mid) pc = .ok (.arraylength, 1)) (hs : a_al pc 1 ls st h = some (.inl z)) (K : a_K p l e R s m args below meth c Q D ca ad A h0 z) : a_K p l e R s m args below meth c Q D ca ad A h0 (pc, ls, st, h) := by
  intro H locs lsR hI hL
  obtain ⟨i1, i2, i3, i4, i5, i6, i7⟩ := (show a_Inv D ca ad A s h0 h H locs from hI)
  unfold a_al at hs
  split at hs
  · rename_i a st'
    cases hq : a_alen a h with
    | none => rw [hq] at hs; cases hs
    | some n =>
      rw [hq] at hs
      unfold a_go at hs; cases hs
      unfold a_alen at hq
      split at hq
      · rename_i hk
        cases hq
        have ha : a < h.1 := aWF.lt i1 (k := (h.2.2.1 a).1) rfl (by omega)
        have hw := a_W_get (ca := ca) (ad := ad) ha
        rcases i1.2.2 a ha with g | g | g | g | g | g | g
        · omega
        · rw [a_ce_i g] at hw
          exact va_alen (D := D) (tys := a_tys ca) F.1 F.2.1 F.2.2.2.2.2.1 i4 a 0 hw rfl rfl hd (K H locs lsR hI hL)
        · rw [a_ce_l g] at hw
          exact va_alen (D := D) (tys := a_tys ca) F.1 F.2.1 F.2.2.2.2.2.1 i4 a 1 hw rfl rfl hd (K H locs lsR hI hL)
        · rw [a_ce_c g] at hw
          exact va_alen (D := D) (tys := a_tys ca) F.1 F.2.1 F.2.2.2.2.2.1 i4 a 2 hw rfl rfl hd (K H locs lsR hI hL)
        · rw [a_ce_q g (by decide)] at hw
          exact va_alen (D := D) (tys := a_tys ca) F.1 F.2.1 F.2.2.2.2.2.1 i4 a 3 hw rfl rfl hd (K H locs lsR hI hL)
        · rw [a_ce_q g (by decide)] at hw
          exact va_alen (D := D) (tys := a_tys ca) F.1 F.2.1 F.2.2.2.2.2.1 i4 a 4 hw rfl rfl hd (K H locs lsR hI hL)
        · rw [a_ce_q g (by decide)] at hw
          exact va_alen (D := D) (tys := a_tys ca) F.1 F.2.1 F.2.2.2.2.2.1 i4 a 5 hw rfl rfl hd (K H locs lsR hI hL)
      · split at hq
        · rename_i hck
          obtain ⟨j, hj, rfl, hj2⟩ := a_ck2 hck
          cases hq
          rw [hj2] at K
          have hS : vk_S 3 a_lens a_bytes (fun i => ad (1000000 + i)) (fun i => ad (1000010 + i)) A s s.heap := F.2.2.2.2.2.2.1.1
          have hlen : a_lens.getD j 0 = (a_bytes.getD j []).length := by rcases (show j = 0 ∨ j = 1 ∨ j = 2 by omega) with rfl | rfl | rfl <;> rfl
          exact va_tlen F.1 F.2.1 (hS.1 j hj).2.2.2 i6 (by rw [hlen]) hd (K H locs lsR hI hL)
        · cases hq
  · cases hs
end
