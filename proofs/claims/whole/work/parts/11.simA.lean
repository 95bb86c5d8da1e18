/-! one instruction of the abstract machine is one of the machine -/
def a_Inv (D : va_G) (ca : Nat → ClassId) (ad : Nat → Nat) (A : Nat → Prop) (s : State) (h0 h : aH) (H : Heap) (locs : List Loc) : Prop :=
  aWF h ∧ h0.1 ≤ h.1 ∧ h0.2.1 ≤ h.2.1 ∧ va_P D vwCl (a_W ca ad h) H ∧ va_D A (a_W ca ad h) ∧ va_S A s.heap H locs ∧ ∀ k, h0.1 ≤ k → k < 1000000 → ad k = s.heap.size + (k - h0.1)
def a_K (p : Program) (l : Launch) (e : Env) (R : Room) (s : State) (m : MethodId) (args : Array Value) (below : List Frame) (meth : Method) (c : Code) (Q : State → Prop) (D : va_G) (ca : Nat → ClassId) (ad : Nat → Nat) (A : Nat → Prop) (h0 : aH) (z : aS) : Prop :=
  ∀ (H : Heap) (locs : List Loc) (lsR : Array Slot), a_Inv D ca ad A s h0 z.2.2.2 H locs → a_lo ad z.2.1 lsR → W p l e R s m args below meth c H locs (z.2.2.2.1 - h0.1) (z.2.2.2.2.1 - h0.2.1) Q (F0 m z.1 lsR (z.2.2.1.map (a_cv ad)))
def a_Fx (p : Program) (R : Room) (s : State) (m : MethodId) (args : Array Value) (meth : Method) (c : Code) (D : va_G) (ca : Nat → ClassId) (ad : Nat → Nat) (A : Nat → Prop) (mid d : Nat) : Prop :=
  p.tables.exec = Jvm.exec ∧ c.code = a_code mid ∧ c.maxLocals = a_maxL mid ∧ s.vm.findClass (a_name mid).cls = some m.cls ∧ (∀ w ∈ a_ws mid, w.before args s = true) ∧ va_K D vwCl (a_tys ca) s ∧ a_CK ad A s s.heap ∧ (∀ q : Nat, s.heap.size ≤ q → A q) ∧ mid < a_ms.length ∧ (a_ini mid = true → meth.name = "<init>") ∧ d + 1 ≤ R.frames ∧ 60 * (d + 1) ≤ R.locals
section
variable {p : Program} {l : Launch} {e : Env} {R : Room} {s : State} {m : MethodId} {args : Array Value} {below : List Frame} {meth : Method} {c : Code} {Q : State → Prop} {D : va_G} {ca : Nat → ClassId} {ad : Nat → Nat} {A : Nat → Prop} {mid d : Nat} {h0 : aH}
theorem a_Fx.own (F : a_Fx p R s m args meth c D ca ad A mid d) : s.vm.findClass (a_cname (a_own mid)) = some m.cls := by rw [(a_own_eq F.2.2.2.2.2.2.2.2.1).1]; exact F.2.2.2.1
theorem a_Fx.w (F : a_Fx p R s m args meth c D ca ad A mid d) {w : Cond} (h : w ∈ a_tb) : w.before args s = true := F.2.2.2.2.1 w (List.mem_cons_of_mem _ h)
theorem a_set1_lt {ls ls' : List Value} {i : Nat} {v : Value} (hs : a_set1 ls i v = some ls') : i < ls.length := by
  unfold a_set1 at hs
  split at hs
  · rename_i h; exact h.1
  · cases hs
theorem a_set2_lt {ls ls' : List Value} {i : Nat} {v : Value} (hs : a_set2 ls i v = some ls') : i + 1 < ls.length := by
  unfold a_set2 at hs
  split at hs
  · rename_i h; exact h.1
  · cases hs

theorem x_iload (F : a_Fx p R s m args meth c D ca ad A mid d) {pc : Nat} {ls st : List Value} {h : aH} {z : aS} {k : Nat} (hd : decode (a_code mid) pc = .ok (.iload k, 2)) (hs : a_ldI ls[k]? pc 2 ls st h = some (.inl z)) (K : a_K p l e R s m args below meth c Q D ca ad A h0 z) : a_K p l e R s m args below meth c Q D ca ad A h0 (pc, ls, st, h) := by
  intro H locs lsR hI hL
  unfold a_ldI at hs
  split at hs
  · rename_i x hx
    unfold a_go at hs; cases hs
    exact lv_iload F.1 F.2.1 hd (a_lo_get hL hx (by intro h; cases h)) (K H locs lsR hI hL)
  · cases hs
theorem x_iload_n (F : a_Fx p R s m args meth c D ca ad A mid d) {pc : Nat} {ls st : List Value} {h : aH} {z : aS} {k : Fin 4} (hd : decode (a_code mid) pc = .ok (.iload_n k, 1)) (hs : a_ldI ls[k.val]? pc 1 ls st h = some (.inl z)) (K : a_K p l e R s m args below meth c Q D ca ad A h0 z) : a_K p l e R s m args below meth c Q D ca ad A h0 (pc, ls, st, h) := by
  intro H locs lsR hI hL
  unfold a_ldI at hs
  split at hs
  · rename_i x hx
    unfold a_go at hs; cases hs
    exact lv_iload_n F.1 F.2.1 hd rfl (a_lo_get hL hx (by intro h; cases h)) (K H locs lsR hI hL)
  · cases hs
theorem x_lload (F : a_Fx p R s m args meth c D ca ad A mid d) {pc : Nat} {ls st : List Value} {h : aH} {z : aS} {k : Nat} (hd : decode (a_code mid) pc = .ok (.lload k, 2)) (hs : a_ldL ls[k]? pc 2 ls st h = some (.inl z)) (K : a_K p l e R s m args below meth c Q D ca ad A h0 z) : a_K p l e R s m args below meth c Q D ca ad A h0 (pc, ls, st, h) := by
  intro H locs lsR hI hL
  unfold a_ldL at hs
  split at hs
  · rename_i x hx
    unfold a_go at hs; cases hs
    exact lv_lload F.1 F.2.1 hd (a_lo_get hL hx (by intro h; cases h)) (K H locs lsR hI hL)
  · cases hs
theorem x_lload_n (F : a_Fx p R s m args meth c D ca ad A mid d) {pc : Nat} {ls st : List Value} {h : aH} {z : aS} {k : Fin 4} (hd : decode (a_code mid) pc = .ok (.lload_n k, 1)) (hs : a_ldL ls[k.val]? pc 1 ls st h = some (.inl z)) (K : a_K p l e R s m args below meth c Q D ca ad A h0 z) : a_K p l e R s m args below meth c Q D ca ad A h0 (pc, ls, st, h) := by
  intro H locs lsR hI hL
  unfold a_ldL at hs
  split at hs
  · rename_i x hx
    unfold a_go at hs; cases hs
    exact lv_lload_n F.1 F.2.1 hd rfl (a_lo_get hL hx (by intro h; cases h)) (K H locs lsR hI hL)
  · cases hs
theorem x_aload (F : a_Fx p R s m args meth c D ca ad A mid d) {pc : Nat} {ls st : List Value} {h : aH} {z : aS} {k : Nat} (hd : decode (a_code mid) pc = .ok (.aload k, 2)) (hs : a_ldA ls[k]? pc 2 ls st h = some (.inl z)) (K : a_K p l e R s m args below meth c Q D ca ad A h0 z) : a_K p l e R s m args below meth c Q D ca ad A h0 (pc, ls, st, h) := by
  intro H locs lsR hI hL
  unfold a_ldA at hs
  split at hs
  · rename_i x hx
    unfold a_go at hs; cases hs
    exact lv_aload F.1 F.2.1 hd (a_lo_get hL hx (by intro h; cases h)) (K H locs lsR hI hL)
  · rename_i hx
    unfold a_go at hs; cases hs
    exact lv_aloadN F.1 F.2.1 hd (a_lo_get hL hx (by intro h; cases h)) (K H locs lsR hI hL)
  · cases hs
theorem x_aload_n (F : a_Fx p R s m args meth c D ca ad A mid d) {pc : Nat} {ls st : List Value} {h : aH} {z : aS} {k : Fin 4} (hd : decode (a_code mid) pc = .ok (.aload_n k, 1)) (hs : a_ldA ls[k.val]? pc 1 ls st h = some (.inl z)) (K : a_K p l e R s m args below meth c Q D ca ad A h0 z) : a_K p l e R s m args below meth c Q D ca ad A h0 (pc, ls, st, h) := by
  intro H locs lsR hI hL
  unfold a_ldA at hs
  split at hs
  · rename_i x hx
    unfold a_go at hs; cases hs
    exact lv_aload_n F.1 F.2.1 hd rfl (a_lo_get hL hx (by intro h; cases h)) (K H locs lsR hI hL)
  · rename_i hx
    unfold a_go at hs; cases hs
    exact lv_aload_nN F.1 F.2.1 hd rfl (a_lo_get hL hx (by intro h; cases h)) (K H locs lsR hI hL)
  · cases hs
theorem x_istore (F : a_Fx p R s m args meth c D ca ad A mid d) {pc : Nat} {ls st : List Value} {h : aH} {z : aS} {k : Nat} (hd : decode (a_code mid) pc = .ok (.istore k, 2)) (hs : a_stI k pc 2 ls st h = some (.inl z)) (K : a_K p l e R s m args below meth c Q D ca ad A h0 z) : a_K p l e R s m args below meth c Q D ca ad A h0 (pc, ls, st, h) := by
  intro H locs lsR hI hL
  unfold a_stI at hs
  split at hs
  · rename_i x st'
    cases hq : a_set1 ls k (.int x) with
    | none => rw [hq] at hs; cases hs
    | some ls2 =>
      rw [hq] at hs; unfold a_go at hs; cases hs
      exact lv_istore (nL := ls.length) F.1 F.2.1 hd (a_lo_has hL) (a_set1_lt hq) rfl (fun ls' h' => K H locs ls' hI (a_lo_set1 hq h'))
  · cases hs
theorem x_istore_n (F : a_Fx p R s m args meth c D ca ad A mid d) {pc : Nat} {ls st : List Value} {h : aH} {z : aS} {k : Fin 4} (hd : decode (a_code mid) pc = .ok (.istore_n k, 1)) (hs : a_stI k.val pc 1 ls st h = some (.inl z)) (K : a_K p l e R s m args below meth c Q D ca ad A h0 z) : a_K p l e R s m args below meth c Q D ca ad A h0 (pc, ls, st, h) := by
  intro H locs lsR hI hL
  unfold a_stI at hs
  split at hs
  · rename_i x st'
    cases hq : a_set1 ls k.val (.int x) with
    | none => rw [hq] at hs; cases hs
    | some ls2 =>
      rw [hq] at hs; unfold a_go at hs; cases hs
      exact lv_istore_n (nL := ls.length) F.1 F.2.1 hd rfl (a_lo_has hL) (a_set1_lt hq) rfl (fun ls' h' => K H locs ls' hI (a_lo_set1 hq h'))
  · cases hs
theorem x_lstore (F : a_Fx p R s m args meth c D ca ad A mid d) {pc : Nat} {ls st : List Value} {h : aH} {z : aS} {k : Nat} (hd : decode (a_code mid) pc = .ok (.lstore k, 2)) (hs : a_stL k pc 2 ls st h = some (.inl z)) (K : a_K p l e R s m args below meth c Q D ca ad A h0 z) : a_K p l e R s m args below meth c Q D ca ad A h0 (pc, ls, st, h) := by
  intro H locs lsR hI hL
  unfold a_stL at hs
  split at hs
  · rename_i x st'
    cases hq : a_set2 ls k (.long x) with
    | none => rw [hq] at hs; cases hs
    | some ls2 =>
      rw [hq] at hs; unfold a_go at hs; cases hs
      exact lv_lstore (nL := ls.length) F.1 F.2.1 hd (a_lo_has hL) (a_set2_lt hq) rfl (fun ls' h' => K H locs ls' hI (a_lo_set2 hq h'))
  · cases hs
theorem x_lstore_n (F : a_Fx p R s m args meth c D ca ad A mid d) {pc : Nat} {ls st : List Value} {h : aH} {z : aS} {k : Fin 4} (hd : decode (a_code mid) pc = .ok (.lstore_n k, 1)) (hs : a_stL k.val pc 1 ls st h = some (.inl z)) (K : a_K p l e R s m args below meth c Q D ca ad A h0 z) : a_K p l e R s m args below meth c Q D ca ad A h0 (pc, ls, st, h) := by
  intro H locs lsR hI hL
  unfold a_stL at hs
  split at hs
  · rename_i x st'
    cases hq : a_set2 ls k.val (.long x) with
    | none => rw [hq] at hs; cases hs
    | some ls2 =>
      rw [hq] at hs; unfold a_go at hs; cases hs
      exact lv_lstore_n (nL := ls.length) F.1 F.2.1 hd rfl (a_lo_has hL) (a_set2_lt hq) rfl (fun ls' h' => K H locs ls' hI (a_lo_set2 hq h'))
  · cases hs
theorem x_astore (F : a_Fx p R s m args meth c D ca ad A mid d) {pc : Nat} {ls st : List Value} {h : aH} {z : aS} {k : Nat} (hd : decode (a_code mid) pc = .ok (.astore k, 2)) (hs : a_stA k pc 2 ls st h = some (.inl z)) (K : a_K p l e R s m args below meth c Q D ca ad A h0 z) : a_K p l e R s m args below meth c Q D ca ad A h0 (pc, ls, st, h) := by
  intro H locs lsR hI hL
  unfold a_stA at hs
  split at hs
  · rename_i x st'
    cases hq : a_set1 ls k (.ref x) with
    | none => rw [hq] at hs; cases hs
    | some ls2 =>
      rw [hq] at hs; unfold a_go at hs; cases hs
      exact lv_astore (nL := ls.length) F.1 F.2.1 hd (a_lo_has hL) (a_set1_lt hq) rfl (fun ls' h' => K H locs ls' hI (a_lo_set1 hq h'))
  · rename_i st'
    cases hq : a_set1 ls k .null with
    | none => rw [hq] at hs; cases hs
    | some ls2 =>
      rw [hq] at hs; unfold a_go at hs; cases hs
      exact lv_astoreN (nL := ls.length) F.1 F.2.1 hd (a_lo_has hL) (a_set1_lt hq) rfl (fun ls' h' => K H locs ls' hI (a_lo_set1 hq h'))
  · cases hs
theorem x_astore_n (F : a_Fx p R s m args meth c D ca ad A mid d) {pc : Nat} {ls st : List Value} {h : aH} {z : aS} {k : Fin 4} (hd : decode (a_code mid) pc = .ok (.astore_n k, 1)) (hs : a_stA k.val pc 1 ls st h = some (.inl z)) (K : a_K p l e R s m args below meth c Q D ca ad A h0 z) : a_K p l e R s m args below meth c Q D ca ad A h0 (pc, ls, st, h) := by
  intro H locs lsR hI hL
  unfold a_stA at hs
  split at hs
  · rename_i x st'
    cases hq : a_set1 ls k.val (.ref x) with
    | none => rw [hq] at hs; cases hs
    | some ls2 =>
      rw [hq] at hs; unfold a_go at hs; cases hs
      exact lv_astore_n (nL := ls.length) F.1 F.2.1 hd rfl (a_lo_has hL) (a_set1_lt hq) rfl (fun ls' h' => K H locs ls' hI (a_lo_set1 hq h'))
  · rename_i st'
    cases hq : a_set1 ls k.val .null with
    | none => rw [hq] at hs; cases hs
    | some ls2 =>
      rw [hq] at hs; unfold a_go at hs; cases hs
      exact lv_astore_nN (nL := ls.length) F.1 F.2.1 hd rfl (a_lo_has hL) (a_set1_lt hq) rfl (fun ls' h' => K H locs ls' hI (a_lo_set1 hq h'))
  · cases hs
theorem x_iinc (F : a_Fx p R s m args meth c D ca ad A mid d) {pc : Nat} {ls st : List Value} {h : aH} {z : aS} {k : Nat} {n : Int} (hd : decode (a_code mid) pc = .ok (.iinc k n, 3)) (hs : a_iinc k n pc 3 ls st h = some (.inl z)) (K : a_K p l e R s m args below meth c Q D ca ad A h0 z) : a_K p l e R s m args below meth c Q D ca ad A h0 (pc, ls, st, h) := by
  intro H locs lsR hI hL
  unfold a_iinc at hs
  split at hs
  · rename_i x hx
    cases hq : a_set1 ls k (.int (x + Int32.ofInt n)) with
    | none => rw [hq] at hs; cases hs
    | some ls2 =>
      rw [hq] at hs; unfold a_go at hs; cases hs
      obtain ⟨j, hj⟩ := List.getElem?_of_mem (a_pr_mem.mpr ⟨_, hx, (by intro h; cases h), rfl⟩)
      exact lv_iinc (nL := ls.length) F.1 F.2.1 hd (a_lo_has hL) hj rfl (a_set1_lt hq) rfl (fun ls' h' => K H locs ls' hI (a_lo_set1 hq h'))
  · cases hs
theorem x_iconst (F : a_Fx p R s m args meth c D ca ad A mid d) {pc : Nat} {ls st : List Value} {h : aH} {z : aS} {n : Int} (hd : decode (a_code mid) pc = .ok (.iconst n, 1)) (hs : a_go pc 1 ls (.int (Int32.ofInt n) :: st) h = some (.inl z)) (K : a_K p l e R s m args below meth c Q D ca ad A h0 z) : a_K p l e R s m args below meth c Q D ca ad A h0 (pc, ls, st, h) := by
  intro H locs lsR hI hL
  unfold a_go at hs; cases hs
  exact lv_iconst F.1 F.2.1 hd rfl (K H locs lsR hI hL)
theorem x_bipush (F : a_Fx p R s m args meth c D ca ad A mid d) {pc : Nat} {ls st : List Value} {h : aH} {z : aS} {n : Int} (hd : decode (a_code mid) pc = .ok (.bipush n, 2)) (hs : a_go pc 2 ls (.int (Int8.ofInt n).toInt32 :: st) h = some (.inl z)) (K : a_K p l e R s m args below meth c Q D ca ad A h0 z) : a_K p l e R s m args below meth c Q D ca ad A h0 (pc, ls, st, h) := by
  intro H locs lsR hI hL
  unfold a_go at hs; cases hs
  exact lv_bipush F.1 F.2.1 hd rfl (K H locs lsR hI hL)
theorem x_sipush (F : a_Fx p R s m args meth c D ca ad A mid d) {pc : Nat} {ls st : List Value} {h : aH} {z : aS} {n : Int} (hd : decode (a_code mid) pc = .ok (.sipush n, 3)) (hs : a_go pc 3 ls (.int (Int16.ofInt n).toInt32 :: st) h = some (.inl z)) (K : a_K p l e R s m args below meth c Q D ca ad A h0 z) : a_K p l e R s m args below meth c Q D ca ad A h0 (pc, ls, st, h) := by
  intro H locs lsR hI hL
  unfold a_go at hs; cases hs
  exact lv_sipush F.1 F.2.1 hd rfl (K H locs lsR hI hL)
theorem x_lconst (F : a_Fx p R s m args meth c D ca ad A mid d) {pc : Nat} {ls st : List Value} {h : aH} {z : aS} {n : Fin 2} (hd : decode (a_code mid) pc = .ok (.lconst n, 1)) (hs : a_go pc 1 ls (.long (Int64.ofNat (n : Nat)) :: st) h = some (.inl z)) (K : a_K p l e R s m args below meth c Q D ca ad A h0 z) : a_K p l e R s m args below meth c Q D ca ad A h0 (pc, ls, st, h) := by
  intro H locs lsR hI hL
  unfold a_go at hs; cases hs
  exact lv_lconst F.1 F.2.1 hd rfl (K H locs lsR hI hL)
theorem x_null (F : a_Fx p R s m args meth c D ca ad A mid d) {pc : Nat} {ls st : List Value} {h : aH} {z : aS}  (hd : decode (a_code mid) pc = .ok (.aconst_null, 1)) (hs : a_go pc 1 ls (.null :: st) h = some (.inl z)) (K : a_K p l e R s m args below meth c Q D ca ad A h0 z) : a_K p l e R s m args below meth c Q D ca ad A h0 (pc, ls, st, h) := by
  intro H locs lsR hI hL
  unfold a_go at hs; cases hs
  exact lv_null F.1 F.2.1 hd (K H locs lsR hI hL)
theorem x_ldc (F : a_Fx p R s m args meth c D ca ad A mid d) {pc : Nat} {ls st : List Value} {h : aH} {z : aS} {idx : Nat} (hd : decode (a_code mid) pc = .ok (.ldc idx, 2)) (hs : a_ldc mid idx pc 2 ls st h = some (.inl z)) (K : a_K p l e R s m args below meth c Q D ca ad A h0 z) : a_K p l e R s m args below meth c Q D ca ad A h0 (pc, ls, st, h) := by
  intro H locs lsR hI hL
  unfold a_ldc at hs
  split at hs
  · rename_i q hq
    unfold a_go at hs; cases hs
    have h1 := List.all_eq_true.mp a_ci_ok _ (a_look_in hq)
    exact lv_ldc F.1 F.2.1 F.own (F.w (a_at_in h1 rfl)) hd (K H locs lsR hI hL)
  · cases hs
theorem x_ldc_w (F : a_Fx p R s m args meth c D ca ad A mid d) {pc : Nat} {ls st : List Value} {h : aH} {z : aS} {idx : Nat} (hd : decode (a_code mid) pc = .ok (.ldc_w idx, 3)) (hs : a_ldc mid idx pc 3 ls st h = some (.inl z)) (K : a_K p l e R s m args below meth c Q D ca ad A h0 z) : a_K p l e R s m args below meth c Q D ca ad A h0 (pc, ls, st, h) := by
  intro H locs lsR hI hL
  unfold a_ldc at hs
  split at hs
  · rename_i q hq
    unfold a_go at hs; cases hs
    have h1 := List.all_eq_true.mp a_ci_ok _ (a_look_in hq)
    exact lv_ldcw F.1 F.2.1 F.own (F.w (a_at_in h1 rfl)) hd (K H locs lsR hI hL)
  · cases hs
theorem x_ldc2 (F : a_Fx p R s m args meth c D ca ad A mid d) {pc : Nat} {ls st : List Value} {h : aH} {z : aS} {idx : Nat} (hd : decode (a_code mid) pc = .ok (.ldc2_w idx, 3)) (hs : a_ldc2 mid idx pc 3 ls st h = some (.inl z)) (K : a_K p l e R s m args below meth c Q D ca ad A h0 z) : a_K p l e R s m args below meth c Q D ca ad A h0 (pc, ls, st, h) := by
  intro H locs lsR hI hL
  unfold a_ldc2 at hs
  split at hs
  · rename_i q hq
    unfold a_go at hs; cases hs
    have h1 := List.all_eq_true.mp a_cj_ok _ (a_look_in hq)
    exact lv_ldc2 F.1 F.2.1 F.own (F.w (a_at_in h1 rfl)) hd (K H locs lsR hI hL)
  · cases hs
theorem x_idiv (F : a_Fx p R s m args meth c D ca ad A mid d) {pc : Nat} {ls st : List Value} {h : aH} {z : aS}  (hd : decode (a_code mid) pc = .ok (.idiv, 1)) (hs : a_idiv pc 1 ls st h = some (.inl z)) (K : a_K p l e R s m args below meth c Q D ca ad A h0 z) : a_K p l e R s m args below meth c Q D ca ad A h0 (pc, ls, st, h) := by
  intro H locs lsR hI hL
  unfold a_idiv at hs
  split at hs
  · rename_i y x st'
    split at hs
    · cases hs
    · rename_i hy
      unfold a_go at hs; cases hs
      exact lv_idiv F.1 F.2.1 hd hy (K H locs lsR hI hL)
  · cases hs
theorem x_irem (F : a_Fx p R s m args meth c D ca ad A mid d) {pc : Nat} {ls st : List Value} {h : aH} {z : aS}  (hd : decode (a_code mid) pc = .ok (.irem, 1)) (hs : a_irem pc 1 ls st h = some (.inl z)) (K : a_K p l e R s m args below meth c Q D ca ad A h0 z) : a_K p l e R s m args below meth c Q D ca ad A h0 (pc, ls, st, h) := by
  intro H locs lsR hI hL
  unfold a_irem at hs
  split at hs
  · rename_i y x st'
    split at hs
    · cases hs
    · rename_i hy
      unfold a_go at hs; cases hs
      exact lv_irem F.1 F.2.1 hd hy (K H locs lsR hI hL)
  · cases hs
theorem x_ineg (F : a_Fx p R s m args meth c D ca ad A mid d) {pc : Nat} {ls st : List Value} {h : aH} {z : aS}  (hd : decode (a_code mid) pc = .ok (.ineg, 1)) (hs : a_u1 .ineg pc 1 ls st h = some (.inl z)) (K : a_K p l e R s m args below meth c Q D ca ad A h0 z) : a_K p l e R s m args below meth c Q D ca ad A h0 (pc, ls, st, h) := by
  intro H locs lsR hI hL
  unfold a_u1 at hs
  split at hs
  · simp only [a_un] at hs
    unfold a_go at hs; cases hs
    exact lv_ineg F.1 F.2.1 hd (K H locs lsR hI hL)
  · cases hs
theorem x_i2b (F : a_Fx p R s m args meth c D ca ad A mid d) {pc : Nat} {ls st : List Value} {h : aH} {z : aS}  (hd : decode (a_code mid) pc = .ok (.i2b, 1)) (hs : a_u1 .i2b pc 1 ls st h = some (.inl z)) (K : a_K p l e R s m args below meth c Q D ca ad A h0 z) : a_K p l e R s m args below meth c Q D ca ad A h0 (pc, ls, st, h) := by
  intro H locs lsR hI hL
  unfold a_u1 at hs
  split at hs
  · simp only [a_un] at hs
    unfold a_go at hs; cases hs
    exact lv_i2b F.1 F.2.1 hd rfl (K H locs lsR hI hL)
  · cases hs
theorem x_i2s (F : a_Fx p R s m args meth c D ca ad A mid d) {pc : Nat} {ls st : List Value} {h : aH} {z : aS}  (hd : decode (a_code mid) pc = .ok (.i2s, 1)) (hs : a_u1 .i2s pc 1 ls st h = some (.inl z)) (K : a_K p l e R s m args below meth c Q D ca ad A h0 z) : a_K p l e R s m args below meth c Q D ca ad A h0 (pc, ls, st, h) := by
  intro H locs lsR hI hL
  unfold a_u1 at hs
  split at hs
  · simp only [a_un] at hs
    unfold a_go at hs; cases hs
    exact lv_i2s F.1 F.2.1 hd rfl (K H locs lsR hI hL)
  · cases hs
theorem x_i2c (F : a_Fx p R s m args meth c D ca ad A mid d) {pc : Nat} {ls st : List Value} {h : aH} {z : aS}  (hd : decode (a_code mid) pc = .ok (.i2c, 1)) (hs : a_u1 .i2c pc 1 ls st h = some (.inl z)) (K : a_K p l e R s m args below meth c Q D ca ad A h0 z) : a_K p l e R s m args below meth c Q D ca ad A h0 (pc, ls, st, h) := by
  intro H locs lsR hI hL
  unfold a_u1 at hs
  split at hs
  · simp only [a_un] at hs
    unfold a_go at hs; cases hs
    exact lv_i2c F.1 F.2.1 hd rfl (K H locs lsR hI hL)
  · cases hs
theorem x_iadd (F : a_Fx p R s m args meth c D ca ad A mid d) {pc : Nat} {ls st : List Value} {h : aH} {z : aS}  (hd : decode (a_code mid) pc = .ok (.iadd, 1)) (hs : a_b2 .iadd pc 1 ls st h = some (.inl z)) (K : a_K p l e R s m args below meth c Q D ca ad A h0 z) : a_K p l e R s m args below meth c Q D ca ad A h0 (pc, ls, st, h) := by
  intro H locs lsR hI hL
  unfold a_b2 at hs
  split at hs
  · simp only [a_bin] at hs
    unfold a_go at hs; cases hs
    exact lv_iadd F.1 F.2.1 hd (K H locs lsR hI hL)
  · cases hs
theorem x_isub (F : a_Fx p R s m args meth c D ca ad A mid d) {pc : Nat} {ls st : List Value} {h : aH} {z : aS}  (hd : decode (a_code mid) pc = .ok (.isub, 1)) (hs : a_b2 .isub pc 1 ls st h = some (.inl z)) (K : a_K p l e R s m args below meth c Q D ca ad A h0 z) : a_K p l e R s m args below meth c Q D ca ad A h0 (pc, ls, st, h) := by
  intro H locs lsR hI hL
  unfold a_b2 at hs
  split at hs
  · simp only [a_bin] at hs
    unfold a_go at hs; cases hs
    exact lv_isub F.1 F.2.1 hd (K H locs lsR hI hL)
  · cases hs
theorem x_imul (F : a_Fx p R s m args meth c D ca ad A mid d) {pc : Nat} {ls st : List Value} {h : aH} {z : aS}  (hd : decode (a_code mid) pc = .ok (.imul, 1)) (hs : a_b2 .imul pc 1 ls st h = some (.inl z)) (K : a_K p l e R s m args below meth c Q D ca ad A h0 z) : a_K p l e R s m args below meth c Q D ca ad A h0 (pc, ls, st, h) := by
  intro H locs lsR hI hL
  unfold a_b2 at hs
  split at hs
  · simp only [a_bin] at hs
    unfold a_go at hs; cases hs
    exact lv_imul F.1 F.2.1 hd (K H locs lsR hI hL)
  · cases hs
theorem x_iand (F : a_Fx p R s m args meth c D ca ad A mid d) {pc : Nat} {ls st : List Value} {h : aH} {z : aS}  (hd : decode (a_code mid) pc = .ok (.iand, 1)) (hs : a_b2 .iand pc 1 ls st h = some (.inl z)) (K : a_K p l e R s m args below meth c Q D ca ad A h0 z) : a_K p l e R s m args below meth c Q D ca ad A h0 (pc, ls, st, h) := by
  intro H locs lsR hI hL
  unfold a_b2 at hs
  split at hs
  · simp only [a_bin] at hs
    unfold a_go at hs; cases hs
    exact lv_iand F.1 F.2.1 hd (K H locs lsR hI hL)
  · cases hs
theorem x_ior (F : a_Fx p R s m args meth c D ca ad A mid d) {pc : Nat} {ls st : List Value} {h : aH} {z : aS}  (hd : decode (a_code mid) pc = .ok (.ior, 1)) (hs : a_b2 .ior pc 1 ls st h = some (.inl z)) (K : a_K p l e R s m args below meth c Q D ca ad A h0 z) : a_K p l e R s m args below meth c Q D ca ad A h0 (pc, ls, st, h) := by
  intro H locs lsR hI hL
  unfold a_b2 at hs
  split at hs
  · simp only [a_bin] at hs
    unfold a_go at hs; cases hs
    exact lv_ior F.1 F.2.1 hd (K H locs lsR hI hL)
  · cases hs
theorem x_ixor (F : a_Fx p R s m args meth c D ca ad A mid d) {pc : Nat} {ls st : List Value} {h : aH} {z : aS}  (hd : decode (a_code mid) pc = .ok (.ixor, 1)) (hs : a_b2 .ixor pc 1 ls st h = some (.inl z)) (K : a_K p l e R s m args below meth c Q D ca ad A h0 z) : a_K p l e R s m args below meth c Q D ca ad A h0 (pc, ls, st, h) := by
  intro H locs lsR hI hL
  unfold a_b2 at hs
  split at hs
  · simp only [a_bin] at hs
    unfold a_go at hs; cases hs
    exact lv_ixor F.1 F.2.1 hd (K H locs lsR hI hL)
  · cases hs
theorem x_ishl (F : a_Fx p R s m args meth c D ca ad A mid d) {pc : Nat} {ls st : List Value} {h : aH} {z : aS}  (hd : decode (a_code mid) pc = .ok (.ishl, 1)) (hs : a_b2 .ishl pc 1 ls st h = some (.inl z)) (K : a_K p l e R s m args below meth c Q D ca ad A h0 z) : a_K p l e R s m args below meth c Q D ca ad A h0 (pc, ls, st, h) := by
  intro H locs lsR hI hL
  unfold a_b2 at hs
  split at hs
  · simp only [a_bin] at hs
    unfold a_go at hs; cases hs
    exact lv_ishl F.1 F.2.1 hd (K H locs lsR hI hL)
  · cases hs
theorem x_ishr (F : a_Fx p R s m args meth c D ca ad A mid d) {pc : Nat} {ls st : List Value} {h : aH} {z : aS}  (hd : decode (a_code mid) pc = .ok (.ishr, 1)) (hs : a_b2 .ishr pc 1 ls st h = some (.inl z)) (K : a_K p l e R s m args below meth c Q D ca ad A h0 z) : a_K p l e R s m args below meth c Q D ca ad A h0 (pc, ls, st, h) := by
  intro H locs lsR hI hL
  unfold a_b2 at hs
  split at hs
  · simp only [a_bin] at hs
    unfold a_go at hs; cases hs
    exact lv_ishr F.1 F.2.1 hd (K H locs lsR hI hL)
  · cases hs
theorem x_iushr (F : a_Fx p R s m args meth c D ca ad A mid d) {pc : Nat} {ls st : List Value} {h : aH} {z : aS}  (hd : decode (a_code mid) pc = .ok (.iushr, 1)) (hs : a_b2 .iushr pc 1 ls st h = some (.inl z)) (K : a_K p l e R s m args below meth c Q D ca ad A h0 z) : a_K p l e R s m args below meth c Q D ca ad A h0 (pc, ls, st, h) := by
  intro H locs lsR hI hL
  unfold a_b2 at hs
  split at hs
  · simp only [a_bin] at hs
    unfold a_go at hs; cases hs
    exact lv_iushr F.1 F.2.1 hd rfl (K H locs lsR hI hL)
  · cases hs
theorem x_land (F : a_Fx p R s m args meth c D ca ad A mid d) {pc : Nat} {ls st : List Value} {h : aH} {z : aS}  (hd : decode (a_code mid) pc = .ok (.land, 1)) (hs : a_ll .land pc 1 ls st h = some (.inl z)) (K : a_K p l e R s m args below meth c Q D ca ad A h0 z) : a_K p l e R s m args below meth c Q D ca ad A h0 (pc, ls, st, h) := by
  intro H locs lsR hI hL
  unfold a_ll at hs
  split at hs
  · simp only [a_binL] at hs
    unfold a_go at hs; cases hs
    exact lv_land F.1 F.2.1 hd (K H locs lsR hI hL)
  · simp only [a_binS] at hs; cases hs
  · cases hs
theorem x_lor (F : a_Fx p R s m args meth c D ca ad A mid d) {pc : Nat} {ls st : List Value} {h : aH} {z : aS}  (hd : decode (a_code mid) pc = .ok (.lor, 1)) (hs : a_ll .lor pc 1 ls st h = some (.inl z)) (K : a_K p l e R s m args below meth c Q D ca ad A h0 z) : a_K p l e R s m args below meth c Q D ca ad A h0 (pc, ls, st, h) := by
  intro H locs lsR hI hL
  unfold a_ll at hs
  split at hs
  · simp only [a_binL] at hs
    unfold a_go at hs; cases hs
    exact lv_lor F.1 F.2.1 hd (K H locs lsR hI hL)
  · simp only [a_binS] at hs; cases hs
  · cases hs
theorem x_lshl (F : a_Fx p R s m args meth c D ca ad A mid d) {pc : Nat} {ls st : List Value} {h : aH} {z : aS}  (hd : decode (a_code mid) pc = .ok (.lshl, 1)) (hs : a_ll .lshl pc 1 ls st h = some (.inl z)) (K : a_K p l e R s m args below meth c Q D ca ad A h0 z) : a_K p l e R s m args below meth c Q D ca ad A h0 (pc, ls, st, h) := by
  intro H locs lsR hI hL
  unfold a_ll at hs
  split at hs
  · simp only [a_binL] at hs; cases hs
  · simp only [a_binS] at hs
    unfold a_go at hs; cases hs
    exact lv_lshl F.1 F.2.1 hd rfl (K H locs lsR hI hL)
  · cases hs
theorem x_lshr (F : a_Fx p R s m args meth c D ca ad A mid d) {pc : Nat} {ls st : List Value} {h : aH} {z : aS}  (hd : decode (a_code mid) pc = .ok (.lshr, 1)) (hs : a_ll .lshr pc 1 ls st h = some (.inl z)) (K : a_K p l e R s m args below meth c Q D ca ad A h0 z) : a_K p l e R s m args below meth c Q D ca ad A h0 (pc, ls, st, h) := by
  intro H locs lsR hI hL
  unfold a_ll at hs
  split at hs
  · simp only [a_binL] at hs; cases hs
  · simp only [a_binS] at hs
    unfold a_go at hs; cases hs
    exact lv_lshr F.1 F.2.1 hd rfl (K H locs lsR hI hL)
  · cases hs
theorem x_lcmp (F : a_Fx p R s m args meth c D ca ad A mid d) {pc : Nat} {ls st : List Value} {h : aH} {z : aS}  (hd : decode (a_code mid) pc = .ok (.lcmp, 1)) (hs : a_lc pc 1 ls st h = some (.inl z)) (K : a_K p l e R s m args below meth c Q D ca ad A h0 z) : a_K p l e R s m args below meth c Q D ca ad A h0 (pc, ls, st, h) := by
  intro H locs lsR hI hL
  unfold a_lc at hs
  split at hs
  · unfold a_go at hs; cases hs
    exact W.lcmp F.1 F.2.1 hd (K H locs lsR hI hL)
  · cases hs
theorem x_i2l (F : a_Fx p R s m args meth c D ca ad A mid d) {pc : Nat} {ls st : List Value} {h : aH} {z : aS}  (hd : decode (a_code mid) pc = .ok (.i2l, 1)) (hs : a_i2l pc 1 ls st h = some (.inl z)) (K : a_K p l e R s m args below meth c Q D ca ad A h0 z) : a_K p l e R s m args below meth c Q D ca ad A h0 (pc, ls, st, h) := by
  intro H locs lsR hI hL
  unfold a_i2l at hs
  split at hs
  · unfold a_go at hs; cases hs
    exact lv_i2l F.1 F.2.1 hd rfl (K H locs lsR hI hL)
  · cases hs
theorem x_l2i (F : a_Fx p R s m args meth c D ca ad A mid d) {pc : Nat} {ls st : List Value} {h : aH} {z : aS}  (hd : decode (a_code mid) pc = .ok (.l2i, 1)) (hs : a_l2i pc 1 ls st h = some (.inl z)) (K : a_K p l e R s m args below meth c Q D ca ad A h0 z) : a_K p l e R s m args below meth c Q D ca ad A h0 (pc, ls, st, h) := by
  intro H locs lsR hI hL
  unfold a_l2i at hs
  split at hs
  · unfold a_go at hs; cases hs
    exact lv_l2i F.1 F.2.1 hd rfl (K H locs lsR hI hL)
  · cases hs
theorem a_jmp_inv {pc : Nat} {off : Int} {ls st : List Value} {h : aH} {z : aS} (hs : a_jmp pc off ls st h = some (.inl z)) : ∃ t : Nat, (pc : Int) + off = (t : Int) ∧ z = (t, ls, st, h) := by
  unfold a_jmp at hs
  split at hs
  · rename_i t ht
    cases hs
    exact ⟨t, ht, rfl⟩
  · cases hs
theorem x_goto (F : a_Fx p R s m args meth c D ca ad A mid d) {pc : Nat} {ls st : List Value} {h : aH} {z : aS} {off : Int} (hd : decode (a_code mid) pc = .ok (.goto off, 3)) (hs : a_jmp pc off ls st h = some (.inl z)) (K : a_K p l e R s m args below meth c Q D ca ad A h0 z) : a_K p l e R s m args below meth c Q D ca ad A h0 (pc, ls, st, h) := by
  intro H locs lsR hI hL
  obtain ⟨t, ht, rfl⟩ := a_jmp_inv hs
  exact lv_goto F.1 F.2.1 hd ht (K H locs lsR hI hL)
theorem a_br_inv {b : Bool} {pc : Nat} {off : Int} {ls st : List Value} {h : aH} {z : aS} (hs : a_br b pc off ls st h = some (.inl z)) : ∃ t : Nat, (pc : Int) + off = (t : Int) ∧ z = (if b = true then t else pc + 3, ls, st, h) := by
  unfold a_br at hs
  split at hs
  · rename_i t ht
    cases hs
    exact ⟨t, ht, rfl⟩
  · cases hs
theorem x_icmp (F : a_Fx p R s m args meth c D ca ad A mid d) {pc : Nat} {ls st : List Value} {h : aH} {z : aS} {cc : Jvm.ClassFile.Cond} {off : Int} (hd : decode (a_code mid) pc = .ok (.if_icmp cc off, 3)) (hs : a_if2 cc off pc ls st h = some (.inl z)) (K : a_K p l e R s m args below meth c Q D ca ad A h0 z) : a_K p l e R s m args below meth c Q D ca ad A h0 (pc, ls, st, h) := by
  intro H locs lsR hI hL
  unfold a_if2 at hs
  split at hs
  · rename_i y x st'
    obtain ⟨t, ht, rfl⟩ := a_br_inv hs
    cases cc with
    | eq =>
      refine lv_icmp_eq F.1 F.2.1 hd ht (fun hq => ?_) (fun hq => ?_)
      · have hb : a_icmp .eq x y = true := decide_eq_true hq
        rw [if_pos hb] at K
        exact K H locs lsR hI hL
      · have hb : ¬ a_icmp .eq x y = true := fun g => hq (of_decide_eq_true g)
        rw [if_neg hb] at K
        exact K H locs lsR hI hL
    | ne =>
      refine lv_icmp_ne F.1 F.2.1 hd ht (fun hq => ?_) (fun hq => ?_)
      · have hb : a_icmp .ne x y = true := decide_eq_true hq
        rw [if_pos hb] at K
        exact K H locs lsR hI hL
      · have hb : ¬ a_icmp .ne x y = true := fun g => (of_decide_eq_true g) hq
        rw [if_neg hb] at K
        exact K H locs lsR hI hL
    | lt =>
      refine lv_icmp_lt F.1 F.2.1 hd ht (fun hq => ?_) (fun hq => ?_)
      · have hb : a_icmp .lt x y = true := decide_eq_true hq
        rw [if_pos hb] at K
        exact K H locs lsR hI hL
      · have hb : ¬ a_icmp .lt x y = true := fun g => hq (of_decide_eq_true g)
        rw [if_neg hb] at K
        exact K H locs lsR hI hL
    | ge =>
      refine lv_icmp_ge F.1 F.2.1 hd ht (fun hq => ?_) (fun hq => ?_)
      · have hb : a_icmp .ge x y = true := decide_eq_true hq
        rw [if_pos hb] at K
        exact K H locs lsR hI hL
      · have hb : ¬ a_icmp .ge x y = true := fun g => hq (of_decide_eq_true g)
        rw [if_neg hb] at K
        exact K H locs lsR hI hL
    | gt =>
      refine lv_icmp_gt F.1 F.2.1 hd ht (fun hq => ?_) (fun hq => ?_)
      · have hb : a_icmp .gt x y = true := decide_eq_true hq
        rw [if_pos hb] at K
        exact K H locs lsR hI hL
      · have hb : ¬ a_icmp .gt x y = true := fun g => hq (of_decide_eq_true g)
        rw [if_neg hb] at K
        exact K H locs lsR hI hL
    | le =>
      refine lv_icmp_le F.1 F.2.1 hd ht (fun hq => ?_) (fun hq => ?_)
      · have hb : a_icmp .le x y = true := decide_eq_true hq
        rw [if_pos hb] at K
        exact K H locs lsR hI hL
      · have hb : ¬ a_icmp .le x y = true := fun g => hq (of_decide_eq_true g)
        rw [if_neg hb] at K
        exact K H locs lsR hI hL
  · cases hs
theorem x_if (F : a_Fx p R s m args meth c D ca ad A mid d) {pc : Nat} {ls st : List Value} {h : aH} {z : aS} {cc : Jvm.ClassFile.Cond} {off : Int} (hd : decode (a_code mid) pc = .ok (.ifCond cc off, 3)) (hs : a_if1 cc off pc ls st h = some (.inl z)) (K : a_K p l e R s m args below meth c Q D ca ad A h0 z) : a_K p l e R s m args below meth c Q D ca ad A h0 (pc, ls, st, h) := by
  intro H locs lsR hI hL
  unfold a_if1 at hs
  split at hs
  · rename_i x st'
    obtain ⟨t, ht, rfl⟩ := a_br_inv hs
    cases cc with
    | eq =>
      refine lv_if_eq F.1 F.2.1 hd ht (fun hq => ?_) (fun hq => ?_)
      · have hb : a_icmp .eq x 0 = true := decide_eq_true hq
        rw [if_pos hb] at K
        exact K H locs lsR hI hL
      · have hb : ¬ a_icmp .eq x 0 = true := fun g => hq (of_decide_eq_true g)
        rw [if_neg hb] at K
        exact K H locs lsR hI hL
    | ne =>
      refine lv_if_ne F.1 F.2.1 hd ht (fun hq => ?_) (fun hq => ?_)
      · have hb : a_icmp .ne x 0 = true := decide_eq_true hq
        rw [if_pos hb] at K
        exact K H locs lsR hI hL
      · have hb : ¬ a_icmp .ne x 0 = true := fun g => (of_decide_eq_true g) hq
        rw [if_neg hb] at K
        exact K H locs lsR hI hL
    | lt =>
      refine lv_if_lt F.1 F.2.1 hd ht (fun hq => ?_) (fun hq => ?_)
      · have hb : a_icmp .lt x 0 = true := decide_eq_true hq
        rw [if_pos hb] at K
        exact K H locs lsR hI hL
      · have hb : ¬ a_icmp .lt x 0 = true := fun g => hq (of_decide_eq_true g)
        rw [if_neg hb] at K
        exact K H locs lsR hI hL
    | ge =>
      refine lv_if_ge F.1 F.2.1 hd ht (fun hq => ?_) (fun hq => ?_)
      · have hb : a_icmp .ge x 0 = true := decide_eq_true hq
        rw [if_pos hb] at K
        exact K H locs lsR hI hL
      · have hb : ¬ a_icmp .ge x 0 = true := fun g => hq (of_decide_eq_true g)
        rw [if_neg hb] at K
        exact K H locs lsR hI hL
    | gt =>
      refine lv_if_gt F.1 F.2.1 hd ht (fun hq => ?_) (fun hq => ?_)
      · have hb : a_icmp .gt x 0 = true := decide_eq_true hq
        rw [if_pos hb] at K
        exact K H locs lsR hI hL
      · have hb : ¬ a_icmp .gt x 0 = true := fun g => hq (of_decide_eq_true g)
        rw [if_neg hb] at K
        exact K H locs lsR hI hL
    | le =>
      refine lv_if_le F.1 F.2.1 hd ht (fun hq => ?_) (fun hq => ?_)
      · have hb : a_icmp .le x 0 = true := decide_eq_true hq
        rw [if_pos hb] at K
        exact K H locs lsR hI hL
      · have hb : ¬ a_icmp .le x 0 = true := fun g => hq (of_decide_eq_true g)
        rw [if_neg hb] at K
        exact K H locs lsR hI hL
  · cases hs
theorem x_ifnull (F : a_Fx p R s m args meth c D ca ad A mid d) {pc : Nat} {ls st : List Value} {h : aH} {z : aS} {off : Int} (hd : decode (a_code mid) pc = .ok (.ifnull off, 3)) (hs : a_ifn true off pc ls st h = some (.inl z)) (K : a_K p l e R s m args below meth c Q D ca ad A h0 z) : a_K p l e R s m args below meth c Q D ca ad A h0 (pc, ls, st, h) := by
  intro H locs lsR hI hL
  unfold a_ifn at hs
  split at hs
  · obtain ⟨t, ht, rfl⟩ := a_br_inv hs
    exact lv_ifnullN F.1 F.2.1 hd ht (K H locs lsR hI hL)
  · obtain ⟨t, ht, rfl⟩ := a_br_inv hs
    exact lv_ifnull F.1 F.2.1 hd (K H locs lsR hI hL)
  · cases hs
theorem x_ifnonnull (F : a_Fx p R s m args meth c D ca ad A mid d) {pc : Nat} {ls st : List Value} {h : aH} {z : aS} {off : Int} (hd : decode (a_code mid) pc = .ok (.ifnonnull off, 3)) (hs : a_ifn false off pc ls st h = some (.inl z)) (K : a_K p l e R s m args below meth c Q D ca ad A h0 z) : a_K p l e R s m args below meth c Q D ca ad A h0 (pc, ls, st, h) := by
  intro H locs lsR hI hL
  unfold a_ifn at hs
  split at hs
  · obtain ⟨t, ht, rfl⟩ := a_br_inv hs
    exact lv_ifnonnullN F.1 F.2.1 hd (K H locs lsR hI hL)
  · obtain ⟨t, ht, rfl⟩ := a_br_inv hs
    exact lv_ifnonnull F.1 F.2.1 hd ht (K H locs lsR hI hL)
  · cases hs
theorem x_tsw (F : a_Fx p R s m args meth c D ca ad A mid d) {pc : Nat} {ls st : List Value} {h : aH} {z : aS} {dflt lo hi : Int} {offs : Array Int} {len : Nat} (hd : decode (a_code mid) pc = .ok (.tableswitch dflt lo hi offs, len)) (hs : a_tsw dflt lo hi offs pc ls st h = some (.inl z)) (K : a_K p l e R s m args below meth c Q D ca ad A h0 z) : a_K p l e R s m args below meth c Q D ca ad A h0 (pc, ls, st, h) := by
  intro H locs lsR hI hL
  unfold a_tsw at hs
  split at hs
  · split at hs
    · rename_i hx
      obtain ⟨t, ht, rfl⟩ := a_jmp_inv hs
      exact lv_tableOut F.1 F.2.1 hd hx ht (K H locs lsR hI hL)
    · rename_i hx
      split at hs
      · rename_i off ho
        obtain ⟨t, ht, rfl⟩ := a_jmp_inv hs
        exact lv_tableIn F.1 F.2.1 hd (fun g => hx (Or.inl g)) (fun g => hx (Or.inr g)) ho ht (K H locs lsR hI hL)
      · cases hs
  · cases hs
theorem x_lsw (F : a_Fx p R s m args meth c D ca ad A mid d) {pc : Nat} {ls st : List Value} {h : aH} {z : aS} {dflt : Int} {ps : Array (Int × Int)} {len : Nat} (hd : decode (a_code mid) pc = .ok (.lookupswitch dflt ps, len)) (hs : a_lsw dflt ps pc ls st h = some (.inl z)) (K : a_K p l e R s m args below meth c Q D ca ad A h0 z) : a_K p l e R s m args below meth c Q D ca ad A h0 (pc, ls, st, h) := by
  intro H locs lsR hI hL
  unfold a_lsw at hs
  split at hs
  · split at hs
    · rename_i hx
      obtain ⟨t, ht, rfl⟩ := a_jmp_inv hs
      exact lv_lookup F.1 F.2.1 hd hx rfl ht (K H locs lsR hI hL)
    · cases hs
  · cases hs
theorem x_dup (F : a_Fx p R s m args meth c D ca ad A mid d) {pc : Nat} {ls st : List Value} {h : aH} {z : aS}  (hd : decode (a_code mid) pc = .ok (.dup, 1)) (hs : a_dup pc 1 ls st h = some (.inl z)) (K : a_K p l e R s m args below meth c Q D ca ad A h0 z) : a_K p l e R s m args below meth c Q D ca ad A h0 (pc, ls, st, h) := by
  intro H locs lsR hI hL
  unfold a_dup at hs
  split at hs
  · split at hs
    · rename_i hc
      unfold a_go at hs; cases hs
      exact lv_dup F.1 F.2.1 hd ((a_cv_cat ad _).trans hc) (K H locs lsR hI hL)
    · cases hs
  · cases hs
theorem x_pop (F : a_Fx p R s m args meth c D ca ad A mid d) {pc : Nat} {ls st : List Value} {h : aH} {z : aS}  (hd : decode (a_code mid) pc = .ok (.pop, 1)) (hs : a_pop pc 1 ls st h = some (.inl z)) (K : a_K p l e R s m args below meth c Q D ca ad A h0 z) : a_K p l e R s m args below meth c Q D ca ad A h0 (pc, ls, st, h) := by
  intro H locs lsR hI hL
  unfold a_pop at hs
  split at hs
  · split at hs
    · rename_i hc
      unfold a_go at hs; cases hs
      exact lv_pop F.1 F.2.1 hd ((a_cv_cat ad _).trans hc) (K H locs lsR hI hL)
    · cases hs
  · cases hs
theorem x_dup2 (F : a_Fx p R s m args meth c D ca ad A mid d) {pc : Nat} {ls st : List Value} {h : aH} {z : aS}  (hd : decode (a_code mid) pc = .ok (.dup2, 1)) (hs : a_dup2 pc 1 ls st h = some (.inl z)) (K : a_K p l e R s m args below meth c Q D ca ad A h0 z) : a_K p l e R s m args below meth c Q D ca ad A h0 (pc, ls, st, h) := by
  intro H locs lsR hI hL
  unfold a_dup2 at hs
  split at hs
  · split at hs
    · rename_i hc
      unfold a_go at hs; cases hs
      exact lv_dup2_11 F.1 F.2.1 hd ((a_cv_cat ad _).trans hc.1) ((a_cv_cat ad _).trans hc.2) (K H locs lsR hI hL)
    · cases hs
  · cases hs
end
