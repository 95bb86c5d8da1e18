/-! all instructions together; the heap only grows -/
theorem a_putf_n {m idx a : Nat} {v : Value} {h h' : aH} (hs : a_putf m idx a v h = some h') : h'.1 = h.1 ∧ h'.2.1 = h.2.1 := by
  unfold a_putf at hs
  repeat' split at hs
  all_goals first | (cases hs; done) | (cases hs; exact ⟨rfl, rfl⟩)
theorem a_astore_n {i : Instr} {x : Int32} {a : Nat} {v : Value} {h h' : aH} (hs : a_astore i v x a h = some h') : h'.1 = h.1 ∧ h'.2.1 = h.2.1 := by
  unfold a_astore at hs
  repeat' split at hs
  all_goals first | (cases hs; done) | (cases hs; exact ⟨rfl, rfl⟩)
theorem a_iV_no {m idx pc : Nat} {ls st : List Value} {h : aH} {z : aS} (hs : a_iV m idx pc ls st h = some (.inl z)) : False := by
  unfold a_iV a_call at hs
  repeat' split at hs
  all_goals cases hs
theorem a_rti_no {m : Nat} {st : List Value} {h : aH} {z : aS} (hs : a_rti m st h = some (.inl z)) : False := by
  unfold a_rti at hs
  repeat' split at hs
  all_goals cases hs
theorem a_rtl_no {m : Nat} {st : List Value} {h : aH} {z : aS} (hs : a_rtl m st h = some (.inl z)) : False := by
  unfold a_rtl at hs
  repeat' split at hs
  all_goals cases hs
theorem a_rta_no {m : Nat} {st : List Value} {h : aH} {z : aS} (hs : a_rta m st h = some (.inl z)) : False := by
  unfold a_rta at hs
  repeat' split at hs
  all_goals cases hs
theorem a_rtv_no {m : Nat} {st : List Value} {h : aH} {z : aS} (hs : a_rtv m st h = some (.inl z)) : False := by
  unfold a_rtv at hs
  repeat' split at hs
  all_goals cases hs
section
variable {p : Program} {l : Launch} {e : Env} {R : Room} {s : State} {m : MethodId} {args : Array Value} {below : List Frame} {meth : Method} {c : Code} {Q : State → Prop} {D : va_G} {ca : Nat → ClassId} {ad : Nat → Nat} {A : Nat → Prop} {mid d : Nat} {h0 : aH}
set_option maxHeartbeats 4000000 in
theorem x_step (F : a_Fx p R s m args meth c D ca ad A mid d) {pc : Nat} {ls st : List Value} {h : aH} {z : aS} (hB0 : h.1 - h0.1 ≤ R.cells ∧ h.2.1 - h0.2.1 ≤ R.slots) (hB : z.2.2.2.1 - h0.1 ≤ R.cells ∧ z.2.2.2.2.1 - h0.2.1 ≤ R.slots) (hs : a_step mid (pc, ls, st, h) = some (.inl z)) (K : a_K p l e R s m args below meth c Q D ca ad A h0 z) : a_K p l e R s m args below meth c Q D ca ad A h0 (pc, ls, st, h) := by
  unfold a_step at hs
  split at hs
  · rename_i i len hd
    have hd : decode (a_code mid) pc = .ok (i, len) := hd
    split at hs
    · rename_i hl
      have hs : a_stepI mid pc ls st h i len = some (.inl z) := hs
      cases i with
      | iload k =>
        have hl := Nat.eq_of_beq_eq_true (show Nat.beq len 2 = true from hl)
        subst hl
        exact x_iload F hd hs K
      | iload_n k =>
        have hl := Nat.eq_of_beq_eq_true (show Nat.beq len 1 = true from hl)
        subst hl
        exact x_iload_n F hd hs K
      | lload k =>
        have hl := Nat.eq_of_beq_eq_true (show Nat.beq len 2 = true from hl)
        subst hl
        exact x_lload F hd hs K
      | lload_n k =>
        have hl := Nat.eq_of_beq_eq_true (show Nat.beq len 1 = true from hl)
        subst hl
        exact x_lload_n F hd hs K
      | aload k =>
        have hl := Nat.eq_of_beq_eq_true (show Nat.beq len 2 = true from hl)
        subst hl
        exact x_aload F hd hs K
      | aload_n k =>
        have hl := Nat.eq_of_beq_eq_true (show Nat.beq len 1 = true from hl)
        subst hl
        exact x_aload_n F hd hs K
      | istore k =>
        have hl := Nat.eq_of_beq_eq_true (show Nat.beq len 2 = true from hl)
        subst hl
        exact x_istore F hd hs K
      | istore_n k =>
        have hl := Nat.eq_of_beq_eq_true (show Nat.beq len 1 = true from hl)
        subst hl
        exact x_istore_n F hd hs K
      | lstore k =>
        have hl := Nat.eq_of_beq_eq_true (show Nat.beq len 2 = true from hl)
        subst hl
        exact x_lstore F hd hs K
      | lstore_n k =>
        have hl := Nat.eq_of_beq_eq_true (show Nat.beq len 1 = true from hl)
        subst hl
        exact x_lstore_n F hd hs K
      | astore k =>
        have hl := Nat.eq_of_beq_eq_true (show Nat.beq len 2 = true from hl)
        subst hl
        exact x_astore F hd hs K
      | astore_n k =>
        have hl := Nat.eq_of_beq_eq_true (show Nat.beq len 1 = true from hl)
        subst hl
        exact x_astore_n F hd hs K
      | iinc k n =>
        have hl := Nat.eq_of_beq_eq_true (show Nat.beq len 3 = true from hl)
        subst hl
        exact x_iinc F hd hs K
      | iconst n =>
        have hl := Nat.eq_of_beq_eq_true (show Nat.beq len 1 = true from hl)
        subst hl
        exact x_iconst F hd hs K
      | bipush n =>
        have hl := Nat.eq_of_beq_eq_true (show Nat.beq len 2 = true from hl)
        subst hl
        exact x_bipush F hd hs K
      | sipush n =>
        have hl := Nat.eq_of_beq_eq_true (show Nat.beq len 3 = true from hl)
        subst hl
        exact x_sipush F hd hs K
      | lconst n =>
        have hl := Nat.eq_of_beq_eq_true (show Nat.beq len 1 = true from hl)
        subst hl
        exact x_lconst F hd hs K
      | aconst_null  =>
        have hl := Nat.eq_of_beq_eq_true (show Nat.beq len 1 = true from hl)
        subst hl
        exact x_null F hd hs K
      | ldc_w idx =>
        have hl := Nat.eq_of_beq_eq_true (show Nat.beq len 3 = true from hl)
        subst hl
        exact x_ldc_w F hd hs K
      | ldc2_w idx =>
        have hl := Nat.eq_of_beq_eq_true (show Nat.beq len 3 = true from hl)
        subst hl
        exact x_ldc2 F hd hs K
      | idiv  =>
        have hl := Nat.eq_of_beq_eq_true (show Nat.beq len 1 = true from hl)
        subst hl
        exact x_idiv F hd hs K
      | irem  =>
        have hl := Nat.eq_of_beq_eq_true (show Nat.beq len 1 = true from hl)
        subst hl
        exact x_irem F hd hs K
      | land  =>
        have hl := Nat.eq_of_beq_eq_true (show Nat.beq len 1 = true from hl)
        subst hl
        exact x_land F hd hs K
      | lor  =>
        have hl := Nat.eq_of_beq_eq_true (show Nat.beq len 1 = true from hl)
        subst hl
        exact x_lor F hd hs K
      | lshl  =>
        have hl := Nat.eq_of_beq_eq_true (show Nat.beq len 1 = true from hl)
        subst hl
        exact x_lshl F hd hs K
      | lshr  =>
        have hl := Nat.eq_of_beq_eq_true (show Nat.beq len 1 = true from hl)
        subst hl
        exact x_lshr F hd hs K
      | lcmp  =>
        have hl := Nat.eq_of_beq_eq_true (show Nat.beq len 1 = true from hl)
        subst hl
        exact x_lcmp F hd hs K
      | i2l  =>
        have hl := Nat.eq_of_beq_eq_true (show Nat.beq len 1 = true from hl)
        subst hl
        exact x_i2l F hd hs K
      | l2i  =>
        have hl := Nat.eq_of_beq_eq_true (show Nat.beq len 1 = true from hl)
        subst hl
        exact x_l2i F hd hs K
      | goto off =>
        have hl := Nat.eq_of_beq_eq_true (show Nat.beq len 3 = true from hl)
        subst hl
        exact x_goto F hd hs K
      | if_icmp cc off =>
        have hl := Nat.eq_of_beq_eq_true (show Nat.beq len 3 = true from hl)
        subst hl
        exact x_icmp F hd hs K
      | ifCond cc off =>
        have hl := Nat.eq_of_beq_eq_true (show Nat.beq len 3 = true from hl)
        subst hl
        exact x_if F hd hs K
      | ifnull off =>
        have hl := Nat.eq_of_beq_eq_true (show Nat.beq len 3 = true from hl)
        subst hl
        exact x_ifnull F hd hs K
      | ifnonnull off =>
        have hl := Nat.eq_of_beq_eq_true (show Nat.beq len 3 = true from hl)
        subst hl
        exact x_ifnonnull F hd hs K
      | tableswitch a b c d =>
        exact x_tsw F hd hs K
      | lookupswitch a b =>
        exact x_lsw F hd hs K
      | arraylength  =>
        have hl := Nat.eq_of_beq_eq_true (show Nat.beq len 1 = true from hl)
        subst hl
        exact x_alen F hd hs K
      | getfield idx =>
        have hl := Nat.eq_of_beq_eq_true (show Nat.beq len 3 = true from hl)
        subst hl
        exact x_getf F hd hs K
      | putfield idx =>
        have hl := Nat.eq_of_beq_eq_true (show Nat.beq len 3 = true from hl)
        subst hl
        exact x_putf F hd hs K
      | getstatic idx =>
        have hl := Nat.eq_of_beq_eq_true (show Nat.beq len 3 = true from hl)
        subst hl
        exact x_gets F hd hs K
      | dup  =>
        have hl := Nat.eq_of_beq_eq_true (show Nat.beq len 1 = true from hl)
        subst hl
        exact x_dup F hd hs K
      | dup2  =>
        have hl := Nat.eq_of_beq_eq_true (show Nat.beq len 1 = true from hl)
        subst hl
        exact x_dup2 F hd hs K
      | pop  =>
        have hl := Nat.eq_of_beq_eq_true (show Nat.beq len 1 = true from hl)
        subst hl
        exact x_pop F hd hs K
      | ineg  =>
        have hl := Nat.eq_of_beq_eq_true (show Nat.beq len 1 = true from hl)
        subst hl
        exact x_ineg F hd hs K
      | i2b  =>
        have hl := Nat.eq_of_beq_eq_true (show Nat.beq len 1 = true from hl)
        subst hl
        exact x_i2b F hd hs K
      | i2s  =>
        have hl := Nat.eq_of_beq_eq_true (show Nat.beq len 1 = true from hl)
        subst hl
        exact x_i2s F hd hs K
      | i2c  =>
        have hl := Nat.eq_of_beq_eq_true (show Nat.beq len 1 = true from hl)
        subst hl
        exact x_i2c F hd hs K
      | iadd  =>
        have hl := Nat.eq_of_beq_eq_true (show Nat.beq len 1 = true from hl)
        subst hl
        exact x_iadd F hd hs K
      | isub  =>
        have hl := Nat.eq_of_beq_eq_true (show Nat.beq len 1 = true from hl)
        subst hl
        exact x_isub F hd hs K
      | imul  =>
        have hl := Nat.eq_of_beq_eq_true (show Nat.beq len 1 = true from hl)
        subst hl
        exact x_imul F hd hs K
      | iand  =>
        have hl := Nat.eq_of_beq_eq_true (show Nat.beq len 1 = true from hl)
        subst hl
        exact x_iand F hd hs K
      | ior  =>
        have hl := Nat.eq_of_beq_eq_true (show Nat.beq len 1 = true from hl)
        subst hl
        exact x_ior F hd hs K
      | ixor  =>
        have hl := Nat.eq_of_beq_eq_true (show Nat.beq len 1 = true from hl)
        subst hl
        exact x_ixor F hd hs K
      | ishl  =>
        have hl := Nat.eq_of_beq_eq_true (show Nat.beq len 1 = true from hl)
        subst hl
        exact x_ishl F hd hs K
      | ishr  =>
        have hl := Nat.eq_of_beq_eq_true (show Nat.beq len 1 = true from hl)
        subst hl
        exact x_ishr F hd hs K
      | iushr  =>
        have hl := Nat.eq_of_beq_eq_true (show Nat.beq len 1 = true from hl)
        subst hl
        exact x_iushr F hd hs K
      | iaload  =>
        have hl := Nat.eq_of_beq_eq_true (show Nat.beq len 1 = true from hl)
        subst hl
        exact x_iaload F hd hs K
      | laload  =>
        have hl := Nat.eq_of_beq_eq_true (show Nat.beq len 1 = true from hl)
        subst hl
        exact x_laload F hd hs K
      | caload  =>
        have hl := Nat.eq_of_beq_eq_true (show Nat.beq len 1 = true from hl)
        subst hl
        exact x_caload F hd hs K
      | aaload  =>
        have hl := Nat.eq_of_beq_eq_true (show Nat.beq len 1 = true from hl)
        subst hl
        exact x_aaload F hd hs K
      | baload  =>
        have hl := Nat.eq_of_beq_eq_true (show Nat.beq len 1 = true from hl)
        subst hl
        exact x_baload F hd hs K
      | iastore  =>
        have hl := Nat.eq_of_beq_eq_true (show Nat.beq len 1 = true from hl)
        subst hl
        exact x_iastore F hd hs K
      | lastore  =>
        have hl := Nat.eq_of_beq_eq_true (show Nat.beq len 1 = true from hl)
        subst hl
        exact x_lastore F hd hs K
      | castore  =>
        have hl := Nat.eq_of_beq_eq_true (show Nat.beq len 1 = true from hl)
        subst hl
        exact x_castore F hd hs K
      | aastore  =>
        have hl := Nat.eq_of_beq_eq_true (show Nat.beq len 1 = true from hl)
        subst hl
        exact x_aastore F hd hs K
      | new idx =>
        have hl := Nat.eq_of_beq_eq_true (show Nat.beq len 3 = true from hl)
        subst hl
        exact x_new F hB hd hs K
      | newarray t =>
        have hl := Nat.eq_of_beq_eq_true (show Nat.beq len 2 = true from hl)
        subst hl
        exact x_newa F hB hd hs K
      | anewarray idx =>
        have hl := Nat.eq_of_beq_eq_true (show Nat.beq len 3 = true from hl)
        subst hl
        exact x_newr F hB hd hs K
      | ldc idx =>
        have hl := Nat.eq_of_beq_eq_true (show Nat.beq len 2 = true from hl)
        subst hl
        simp only [a_stepI] at hs
        split at hs
        · exact x_ldcs F hd hs K
        · exact x_ldc F hd hs K
      | invokestatic idx =>
        have hl := Nat.eq_of_beq_eq_true (show Nat.beq len 3 = true from hl)
        subst hl
        simp only [a_stepI] at hs
        split at hs
        · rename_i hk2
          exact x_iS F hB0 hk2 hd hs K
        · cases hs
      | invokevirtual idx =>
        simp only [a_stepI] at hs
        split at hs
        · exact (a_iV_no hs).elim
        · cases hs
      | invokespecial idx =>
        have hl := Nat.eq_of_beq_eq_true (show Nat.beq len 3 = true from hl)
        subst hl
        simp only [a_stepI] at hs
        split at hs
        · rename_i hk2
          exact x_iI F hk2 hd hs K
        · cases hs
      | ireturn => exact (a_rti_no hs).elim
      | lreturn => exact (a_rtl_no hs).elim
      | areturn => exact (a_rta_no hs).elim
      | return_ => exact (a_rtv_no hs).elim
      | _ => (simp only [a_stepI] at hs; try cases hs)
    · cases hs
  · cases hs
end
set_option maxHeartbeats 4000000 in
theorem a_stepI_mono {m pc : Nat} {ls st : List Value} {h : aH} {z : aS} {i : Instr} {len : Nat} (hs : a_stepI m pc ls st h i len = some (.inl z)) : h.1 ≤ z.2.2.2.1 ∧ h.2.1 ≤ z.2.2.2.2.1 := by
  cases i with
  | iload k =>
    simp only [a_stepI, a_ldI] at hs
    repeat' split at hs
    all_goals first | (cases hs; done) | ((try unfold a_go at hs); cases hs; exact ⟨Nat.le_refl _, Nat.le_refl _⟩)
  | iload_n k =>
    simp only [a_stepI, a_ldI] at hs
    repeat' split at hs
    all_goals first | (cases hs; done) | ((try unfold a_go at hs); cases hs; exact ⟨Nat.le_refl _, Nat.le_refl _⟩)
  | lload k =>
    simp only [a_stepI, a_ldL] at hs
    repeat' split at hs
    all_goals first | (cases hs; done) | ((try unfold a_go at hs); cases hs; exact ⟨Nat.le_refl _, Nat.le_refl _⟩)
  | lload_n k =>
    simp only [a_stepI, a_ldL] at hs
    repeat' split at hs
    all_goals first | (cases hs; done) | ((try unfold a_go at hs); cases hs; exact ⟨Nat.le_refl _, Nat.le_refl _⟩)
  | aload k =>
    simp only [a_stepI, a_ldA] at hs
    repeat' split at hs
    all_goals first | (cases hs; done) | ((try unfold a_go at hs); cases hs; exact ⟨Nat.le_refl _, Nat.le_refl _⟩)
  | aload_n k =>
    simp only [a_stepI, a_ldA] at hs
    repeat' split at hs
    all_goals first | (cases hs; done) | ((try unfold a_go at hs); cases hs; exact ⟨Nat.le_refl _, Nat.le_refl _⟩)
  | istore k =>
    simp only [a_stepI, a_stI] at hs
    repeat' split at hs
    all_goals first | (cases hs; done) | ((try unfold a_go at hs); cases hs; exact ⟨Nat.le_refl _, Nat.le_refl _⟩)
  | istore_n k =>
    simp only [a_stepI, a_stI] at hs
    repeat' split at hs
    all_goals first | (cases hs; done) | ((try unfold a_go at hs); cases hs; exact ⟨Nat.le_refl _, Nat.le_refl _⟩)
  | lstore k =>
    simp only [a_stepI, a_stL] at hs
    repeat' split at hs
    all_goals first | (cases hs; done) | ((try unfold a_go at hs); cases hs; exact ⟨Nat.le_refl _, Nat.le_refl _⟩)
  | lstore_n k =>
    simp only [a_stepI, a_stL] at hs
    repeat' split at hs
    all_goals first | (cases hs; done) | ((try unfold a_go at hs); cases hs; exact ⟨Nat.le_refl _, Nat.le_refl _⟩)
  | astore k =>
    simp only [a_stepI, a_stA] at hs
    repeat' split at hs
    all_goals first | (cases hs; done) | ((try unfold a_go at hs); cases hs; exact ⟨Nat.le_refl _, Nat.le_refl _⟩)
  | astore_n k =>
    simp only [a_stepI, a_stA] at hs
    repeat' split at hs
    all_goals first | (cases hs; done) | ((try unfold a_go at hs); cases hs; exact ⟨Nat.le_refl _, Nat.le_refl _⟩)
  | iinc k n =>
    simp only [a_stepI, a_iinc] at hs
    repeat' split at hs
    all_goals first | (cases hs; done) | ((try unfold a_go at hs); cases hs; exact ⟨Nat.le_refl _, Nat.le_refl _⟩)
  | iconst n =>
    simp only [a_stepI, a_go] at hs; cases hs; exact ⟨Nat.le_refl _, Nat.le_refl _⟩
  | bipush n =>
    simp only [a_stepI, a_go] at hs; cases hs; exact ⟨Nat.le_refl _, Nat.le_refl _⟩
  | sipush n =>
    simp only [a_stepI, a_go] at hs; cases hs; exact ⟨Nat.le_refl _, Nat.le_refl _⟩
  | lconst n =>
    simp only [a_stepI, a_go] at hs; cases hs; exact ⟨Nat.le_refl _, Nat.le_refl _⟩
  | aconst_null  =>
    simp only [a_stepI, a_go] at hs; cases hs; exact ⟨Nat.le_refl _, Nat.le_refl _⟩
  | ldc_w idx =>
    simp only [a_stepI, a_ldc] at hs
    repeat' split at hs
    all_goals first | (cases hs; done) | ((try unfold a_go at hs); cases hs; exact ⟨Nat.le_refl _, Nat.le_refl _⟩)
  | ldc2_w idx =>
    simp only [a_stepI, a_ldc2] at hs
    repeat' split at hs
    all_goals first | (cases hs; done) | ((try unfold a_go at hs); cases hs; exact ⟨Nat.le_refl _, Nat.le_refl _⟩)
  | idiv  =>
    simp only [a_stepI, a_idiv] at hs
    repeat' split at hs
    all_goals first | (cases hs; done) | ((try unfold a_go at hs); cases hs; exact ⟨Nat.le_refl _, Nat.le_refl _⟩)
  | irem  =>
    simp only [a_stepI, a_irem] at hs
    repeat' split at hs
    all_goals first | (cases hs; done) | ((try unfold a_go at hs); cases hs; exact ⟨Nat.le_refl _, Nat.le_refl _⟩)
  | land  =>
    simp only [a_stepI, a_ll] at hs
    repeat' split at hs
    all_goals first | (cases hs; done) | ((try unfold a_go at hs); cases hs; exact ⟨Nat.le_refl _, Nat.le_refl _⟩)
  | lor  =>
    simp only [a_stepI, a_ll] at hs
    repeat' split at hs
    all_goals first | (cases hs; done) | ((try unfold a_go at hs); cases hs; exact ⟨Nat.le_refl _, Nat.le_refl _⟩)
  | lshl  =>
    simp only [a_stepI, a_ll] at hs
    repeat' split at hs
    all_goals first | (cases hs; done) | ((try unfold a_go at hs); cases hs; exact ⟨Nat.le_refl _, Nat.le_refl _⟩)
  | lshr  =>
    simp only [a_stepI, a_ll] at hs
    repeat' split at hs
    all_goals first | (cases hs; done) | ((try unfold a_go at hs); cases hs; exact ⟨Nat.le_refl _, Nat.le_refl _⟩)
  | lcmp  =>
    simp only [a_stepI, a_lc] at hs
    repeat' split at hs
    all_goals first | (cases hs; done) | ((try unfold a_go at hs); cases hs; exact ⟨Nat.le_refl _, Nat.le_refl _⟩)
  | i2l  =>
    simp only [a_stepI, a_i2l] at hs
    repeat' split at hs
    all_goals first | (cases hs; done) | ((try unfold a_go at hs); cases hs; exact ⟨Nat.le_refl _, Nat.le_refl _⟩)
  | l2i  =>
    simp only [a_stepI, a_l2i] at hs
    repeat' split at hs
    all_goals first | (cases hs; done) | ((try unfold a_go at hs); cases hs; exact ⟨Nat.le_refl _, Nat.le_refl _⟩)
  | goto off =>
    simp only [a_stepI, a_jmp] at hs
    repeat' split at hs
    all_goals first | (cases hs; done) | ((try unfold a_go at hs); cases hs; exact ⟨Nat.le_refl _, Nat.le_refl _⟩)
  | if_icmp cc off =>
    simp only [a_stepI, a_if2, a_br] at hs
    repeat' split at hs
    all_goals first | (cases hs; done) | ((try unfold a_go at hs); cases hs; exact ⟨Nat.le_refl _, Nat.le_refl _⟩)
  | ifCond cc off =>
    simp only [a_stepI, a_if1, a_br] at hs
    repeat' split at hs
    all_goals first | (cases hs; done) | ((try unfold a_go at hs); cases hs; exact ⟨Nat.le_refl _, Nat.le_refl _⟩)
  | ifnull off =>
    simp only [a_stepI, a_ifn, a_br] at hs
    repeat' split at hs
    all_goals first | (cases hs; done) | ((try unfold a_go at hs); cases hs; exact ⟨Nat.le_refl _, Nat.le_refl _⟩)
  | ifnonnull off =>
    simp only [a_stepI, a_ifn, a_br] at hs
    repeat' split at hs
    all_goals first | (cases hs; done) | ((try unfold a_go at hs); cases hs; exact ⟨Nat.le_refl _, Nat.le_refl _⟩)
  | tableswitch a b c d =>
    simp only [a_stepI, a_tsw, a_jmp] at hs
    repeat' split at hs
    all_goals first | (cases hs; done) | ((try unfold a_go at hs); cases hs; exact ⟨Nat.le_refl _, Nat.le_refl _⟩)
  | lookupswitch a b =>
    simp only [a_stepI, a_lsw, a_jmp] at hs
    repeat' split at hs
    all_goals first | (cases hs; done) | ((try unfold a_go at hs); cases hs; exact ⟨Nat.le_refl _, Nat.le_refl _⟩)
  | arraylength  =>
    simp only [a_stepI, a_al] at hs
    repeat' split at hs
    all_goals first | (cases hs; done) | ((try unfold a_go at hs); cases hs; exact ⟨Nat.le_refl _, Nat.le_refl _⟩)
  | getfield idx =>
    simp only [a_stepI, a_gf] at hs
    repeat' split at hs
    all_goals first | (cases hs; done) | ((try unfold a_go at hs); cases hs; exact ⟨Nat.le_refl _, Nat.le_refl _⟩)
  | putfield idx =>
    simp only [a_stepI, a_pf] at hs
    split at hs
    · split at hs
      · rename_i hq
        unfold a_go at hs; cases hs
        have h1 := a_putf_n hq
        exact ⟨Nat.le_of_eq h1.1.symm, Nat.le_of_eq h1.2.symm⟩
      · cases hs
    · cases hs
  | getstatic idx =>
    simp only [a_stepI, a_gs] at hs
    repeat' split at hs
    all_goals first | (cases hs; done) | ((try unfold a_go at hs); cases hs; exact ⟨Nat.le_refl _, Nat.le_refl _⟩)
  | dup  =>
    simp only [a_stepI, a_dup] at hs
    repeat' split at hs
    all_goals first | (cases hs; done) | ((try unfold a_go at hs); cases hs; exact ⟨Nat.le_refl _, Nat.le_refl _⟩)
  | dup2  =>
    simp only [a_stepI, a_dup2] at hs
    repeat' split at hs
    all_goals first | (cases hs; done) | ((try unfold a_go at hs); cases hs; exact ⟨Nat.le_refl _, Nat.le_refl _⟩)
  | pop  =>
    simp only [a_stepI, a_pop] at hs
    repeat' split at hs
    all_goals first | (cases hs; done) | ((try unfold a_go at hs); cases hs; exact ⟨Nat.le_refl _, Nat.le_refl _⟩)
  | ineg  =>
    simp only [a_stepI, a_u1] at hs
    repeat' split at hs
    all_goals first | (cases hs; done) | ((try unfold a_go at hs); cases hs; exact ⟨Nat.le_refl _, Nat.le_refl _⟩)
  | i2b  =>
    simp only [a_stepI, a_u1] at hs
    repeat' split at hs
    all_goals first | (cases hs; done) | ((try unfold a_go at hs); cases hs; exact ⟨Nat.le_refl _, Nat.le_refl _⟩)
  | i2s  =>
    simp only [a_stepI, a_u1] at hs
    repeat' split at hs
    all_goals first | (cases hs; done) | ((try unfold a_go at hs); cases hs; exact ⟨Nat.le_refl _, Nat.le_refl _⟩)
  | i2c  =>
    simp only [a_stepI, a_u1] at hs
    repeat' split at hs
    all_goals first | (cases hs; done) | ((try unfold a_go at hs); cases hs; exact ⟨Nat.le_refl _, Nat.le_refl _⟩)
  | iadd  =>
    simp only [a_stepI, a_b2] at hs
    repeat' split at hs
    all_goals first | (cases hs; done) | ((try unfold a_go at hs); cases hs; exact ⟨Nat.le_refl _, Nat.le_refl _⟩)
  | isub  =>
    simp only [a_stepI, a_b2] at hs
    repeat' split at hs
    all_goals first | (cases hs; done) | ((try unfold a_go at hs); cases hs; exact ⟨Nat.le_refl _, Nat.le_refl _⟩)
  | imul  =>
    simp only [a_stepI, a_b2] at hs
    repeat' split at hs
    all_goals first | (cases hs; done) | ((try unfold a_go at hs); cases hs; exact ⟨Nat.le_refl _, Nat.le_refl _⟩)
  | iand  =>
    simp only [a_stepI, a_b2] at hs
    repeat' split at hs
    all_goals first | (cases hs; done) | ((try unfold a_go at hs); cases hs; exact ⟨Nat.le_refl _, Nat.le_refl _⟩)
  | ior  =>
    simp only [a_stepI, a_b2] at hs
    repeat' split at hs
    all_goals first | (cases hs; done) | ((try unfold a_go at hs); cases hs; exact ⟨Nat.le_refl _, Nat.le_refl _⟩)
  | ixor  =>
    simp only [a_stepI, a_b2] at hs
    repeat' split at hs
    all_goals first | (cases hs; done) | ((try unfold a_go at hs); cases hs; exact ⟨Nat.le_refl _, Nat.le_refl _⟩)
  | ishl  =>
    simp only [a_stepI, a_b2] at hs
    repeat' split at hs
    all_goals first | (cases hs; done) | ((try unfold a_go at hs); cases hs; exact ⟨Nat.le_refl _, Nat.le_refl _⟩)
  | ishr  =>
    simp only [a_stepI, a_b2] at hs
    repeat' split at hs
    all_goals first | (cases hs; done) | ((try unfold a_go at hs); cases hs; exact ⟨Nat.le_refl _, Nat.le_refl _⟩)
  | iushr  =>
    simp only [a_stepI, a_b2] at hs
    repeat' split at hs
    all_goals first | (cases hs; done) | ((try unfold a_go at hs); cases hs; exact ⟨Nat.le_refl _, Nat.le_refl _⟩)
  | iaload  =>
    simp only [a_stepI, a_ld] at hs
    repeat' split at hs
    all_goals first | (cases hs; done) | ((try unfold a_go at hs); cases hs; exact ⟨Nat.le_refl _, Nat.le_refl _⟩)
  | laload  =>
    simp only [a_stepI, a_ld] at hs
    repeat' split at hs
    all_goals first | (cases hs; done) | ((try unfold a_go at hs); cases hs; exact ⟨Nat.le_refl _, Nat.le_refl _⟩)
  | caload  =>
    simp only [a_stepI, a_ld] at hs
    repeat' split at hs
    all_goals first | (cases hs; done) | ((try unfold a_go at hs); cases hs; exact ⟨Nat.le_refl _, Nat.le_refl _⟩)
  | aaload  =>
    simp only [a_stepI, a_ld] at hs
    repeat' split at hs
    all_goals first | (cases hs; done) | ((try unfold a_go at hs); cases hs; exact ⟨Nat.le_refl _, Nat.le_refl _⟩)
  | baload  =>
    simp only [a_stepI, a_ld] at hs
    repeat' split at hs
    all_goals first | (cases hs; done) | ((try unfold a_go at hs); cases hs; exact ⟨Nat.le_refl _, Nat.le_refl _⟩)
  | iastore  =>
    simp only [a_stepI, a_sv] at hs
    split at hs
    · split at hs
      · rename_i hq
        unfold a_go at hs; cases hs
        have h1 := a_astore_n hq
        exact ⟨Nat.le_of_eq h1.1.symm, Nat.le_of_eq h1.2.symm⟩
      · cases hs
    · cases hs
  | lastore  =>
    simp only [a_stepI, a_sv] at hs
    split at hs
    · split at hs
      · rename_i hq
        unfold a_go at hs; cases hs
        have h1 := a_astore_n hq
        exact ⟨Nat.le_of_eq h1.1.symm, Nat.le_of_eq h1.2.symm⟩
      · cases hs
    · cases hs
  | castore  =>
    simp only [a_stepI, a_sv] at hs
    split at hs
    · split at hs
      · rename_i hq
        unfold a_go at hs; cases hs
        have h1 := a_astore_n hq
        exact ⟨Nat.le_of_eq h1.1.symm, Nat.le_of_eq h1.2.symm⟩
      · cases hs
    · cases hs
  | aastore  =>
    simp only [a_stepI, a_sv] at hs
    split at hs
    · split at hs
      · rename_i hq
        unfold a_go at hs; cases hs
        have h1 := a_astore_n hq
        exact ⟨Nat.le_of_eq h1.1.symm, Nat.le_of_eq h1.2.symm⟩
      · cases hs
    · cases hs
  | new idx =>
    simp only [a_stepI, a_nwo] at hs
    repeat' split at hs
    all_goals first | (cases hs; done) | (unfold a_go at hs; cases hs; exact ⟨Nat.le_succ _, Nat.le_add_right _ _⟩)
  | newarray t =>
    simp only [a_stepI, a_nwa] at hs
    repeat' split at hs
    all_goals first | (cases hs; done) | (unfold a_go at hs; cases hs; exact ⟨Nat.le_succ _, Nat.le_add_right _ _⟩)
  | anewarray idx =>
    simp only [a_stepI, a_nwr] at hs
    repeat' split at hs
    all_goals first | (cases hs; done) | (unfold a_go at hs; cases hs; exact ⟨Nat.le_succ _, Nat.le_add_right _ _⟩)
  | ldc idx =>
    simp only [a_stepI, a_ldcs, a_ldc] at hs
    repeat' split at hs
    all_goals first | (cases hs; done) | (unfold a_go at hs; cases hs; exact ⟨Nat.le_refl _, Nat.le_refl _⟩)
  | invokestatic idx =>
    simp only [a_stepI, a_iS, a_call] at hs
    repeat' split at hs
    all_goals first | (cases hs; done) | (unfold a_go at hs; cases hs; exact ⟨Nat.le_refl _, Nat.le_refl _⟩)
  | invokevirtual idx =>
    simp only [a_stepI] at hs
    split at hs
    · exact (a_iV_no hs).elim
    · cases hs
  | invokespecial idx =>
    simp only [a_stepI, a_iI, a_call] at hs
    repeat' split at hs
    all_goals first | (cases hs; done) | (unfold a_go at hs; cases hs; exact ⟨Nat.le_refl _, Nat.le_refl _⟩)
  | ireturn => exact (a_rti_no hs).elim
  | lreturn => exact (a_rtl_no hs).elim
  | areturn => exact (a_rta_no hs).elim
  | return_ => exact (a_rtv_no hs).elim
  | _ => (simp only [a_stepI] at hs; try cases hs)
