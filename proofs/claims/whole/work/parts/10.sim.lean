/-! how a heap of the abstract machine lies in the machine's: addresses by 'ad', array classes by 'ca' -/
def a_cv (ad : Nat → Nat) (v : Value) : Value := match v with
  | .ref a => .ref (ad a)
  | .float _ => if ad 1000031 = 0 then .null else .ref (ad 1000030)
  | w => w
def a_fv (ad : Nat → Nat) (h : aH) (k ci j : Nat) : Value := match a_fty ci j with
  | 0 => .int (h.2.2.2.1 k j)
  | 1 => .int (h.2.2.2.1 k j)
  | 2 => .long (h.2.2.2.2.1 k j)
  | _ => va_rf ((h.2.2.2.2.2 k j).map ad)
def a_row (ad : Nat → Nat) (h : aH) (k : Nat) : (Nat → Int32) ⊕ (Nat → Int64) ⊕ (Nat → UInt32) ⊕ (Nat → UInt64) ⊕ (Nat → Option Nat) :=
  if (h.2.2.1 k).1 = 101 then .inr (.inl (h.2.2.2.2.1 k)) else if (h.2.2.1 k).1 < 110 then .inl (h.2.2.2.1 k) else .inr (.inr (.inr (.inr (fun j => (h.2.2.2.2.2 k j).map ad))))
def a_fs (ad : Nat → Nat) (h : aH) (k ci : Nat) : List Value := (List.range (a_nf ci)).map (a_fv ad h k ci)
def a_ce (ca : Nat → ClassId) (ad : Nat → Nat) (h : aH) (k : Nat) : va_E :=
  if (h.2.2.1 k).1 < 100 then .inr ((h.2.2.1 k).1, a_fs ad h k (h.2.2.1 k).1) else .inl (ca (h.2.2.1 k).1, (h.2.2.1 k).2, a_row ad h k)
def a_W (ca : Nat → ClassId) (ad : Nat → Nat) (h : aH) : va_W := (List.range h.1).map (fun k => (ad k, a_ce ca ad h k))
def a_tys (ca : Nat → ClassId) : List (ClassId × FieldType) := [(ca 100, .int), (ca 101, .long), (ca 102, .char), (ca 110, .object RX0), (ca 114, .object RX4), (ca 115, .object RX6)]
/-- a heap as the machine makes them: what isn't there yet is none, and holds nothing; sorts are those of the table -/
def aWF (h : aH) : Prop := h.1 ≤ 1000000 ∧ (∀ a, h.1 ≤ a → h.2.2.1 a = (999, 0) ∧ ∀ k, h.2.2.2.1 a k = 0 ∧ h.2.2.2.2.1 a k = 0 ∧ h.2.2.2.2.2 a k = none) ∧
  ∀ a, a < h.1 → (h.2.2.1 a).1 < 8 ∨ (h.2.2.1 a).1 = 100 ∨ (h.2.2.1 a).1 = 101 ∨ (h.2.2.1 a).1 = 102 ∨ (h.2.2.1 a).1 = 110 ∨ (h.2.2.1 a).1 = 114 ∨ (h.2.2.1 a).1 = 115
theorem a_cv_cat (ad : Nat → Nat) (v : Value) : (a_cv ad v).category = v.category := by
  cases v <;> first | rfl | (show (if ad 1000031 = 0 then Value.null else .ref (ad 1000030)).category = 1; split <;> rfl)
theorem a_W_get {ca : Nat → ClassId} {ad : Nat → Nat} {h : aH} {k : Nat} (hk : k < h.1) : (a_W ca ad h)[k]? = some (ad k, a_ce ca ad h k) := by
  unfold a_W
  rw [List.getElem?_map, List.getElem?_range hk]
  rfl
theorem a_W_len {ca : Nat → ClassId} {ad : Nat → Nat} {h : aH} : (a_W ca ad h).length = h.1 := by simp [a_W]
theorem a_W_set {ca : Nat → ClassId} {ad : Nat → Nat} {h h' : aH} {k0 : Nat} (hn : h'.1 = h.1) (ho : ∀ k, k ≠ k0 → a_ce ca ad h' k = a_ce ca ad h k) : a_W ca ad h' = (a_W ca ad h).set k0 (ad k0, a_ce ca ad h' k0) := by
  apply List.ext_getElem?
  intro k
  by_cases hk : k < h.1
  · rw [a_W_get (by rw [hn]; exact hk)]
    by_cases hkk : k = k0
    · subst hkk
      rw [List.getElem?_set_self (by rw [a_W_len]; exact hk)]
    · rw [List.getElem?_set_ne (Ne.symm hkk), a_W_get hk, ho k hkk]
  · rw [List.getElem?_eq_none (by rw [a_W_len]; omega), List.getElem?_eq_none (by rw [List.length_set, a_W_len]; omega)]
theorem a_W_push {ca : Nat → ClassId} {ad : Nat → Nat} {h h' : aH} (hn : h'.1 = h.1 + 1) (ho : ∀ k, k < h.1 → a_ce ca ad h' k = a_ce ca ad h k) : a_W ca ad h' = a_W ca ad h ++ [(ad h.1, a_ce ca ad h' h.1)] := by
  unfold a_W
  rw [hn, List.range_succ, List.map_append]
  congr 1
  exact List.map_congr_left (fun k hk => by rw [ho k (List.mem_range.mp hk)])
/-! locals -/
def a_lo (ad : Nat → Nat) (ls : List Value) (lsR : Array Slot) : Prop := lsR.size = ls.length ∧ lv_wf lsR ∧ ∀ (i : Nat) (v : Value), ls[i]? = some v → v ≠ a_hole → lsR[i]? = some (.val (a_cv ad v))
def a_pr (ad : Nat → Nat) (ls : List Value) : List (Nat × Value) := (List.range ls.length).filterMap (fun i => match ls[i]? with
  | some v => if v = a_hole then none else some (i, a_cv ad v)
  | none => none)
theorem a_pr_mem {ad : Nat → Nat} {ls : List Value} {i : Nat} {w : Value} : (i, w) ∈ a_pr ad ls ↔ ∃ v, ls[i]? = some v ∧ v ≠ a_hole ∧ w = a_cv ad v := by
  unfold a_pr
  rw [List.mem_filterMap]
  constructor
  · rintro ⟨j, _, hj⟩
    cases hv : ls[j]? with
    | none => rw [hv] at hj; cases hj
    | some v =>
      rw [hv] at hj
      by_cases hh : v = a_hole
      · simp [hh] at hj
      · simp only [if_neg hh] at hj
        cases hj
        exact ⟨v, hv, hh, rfl⟩
  · rintro ⟨v, hv, hh, rfl⟩
    refine ⟨i, List.mem_range.mpr (List.getElem?_eq_some_iff.mp hv).1, ?_⟩
    rw [hv]
    simp only [if_neg hh]
theorem a_lo_has {ad : Nat → Nat} {ls : List Value} {lsR : Array Slot} (h : a_lo ad ls lsR) : lv_has lsR ls.length (a_pr ad ls) := by
  refine ⟨h.1, h.2.1, fun q hq => ?_⟩
  obtain ⟨i, w⟩ := q
  obtain ⟨v, hv, hh, rfl⟩ := a_pr_mem.mp hq
  exact h.2.2 i v hv hh
theorem a_lo_get {ad : Nat → Nat} {ls : List Value} {lsR : Array Slot} (h : a_lo ad ls lsR) {i : Nat} {v : Value} (hv : ls[i]? = some v) (hh : v ≠ a_hole) : lsR[i]? = some (.val (a_cv ad v)) := h.2.2 i v hv hh
theorem a_lo_set1 {ad : Nat → Nat} {ls ls' : List Value} {lsR' : Array Slot} {i : Nat} {v : Value} (hs : a_set1 ls i v = some ls')
    (h : lv_has lsR' ls.length ((i, a_cv ad v) :: (a_pr ad ls).filter (fun q => !(q.1 == i) && !(q.1 + 1 == i && q.2.category == 2)))) : a_lo ad ls' lsR' := by
  unfold a_set1 at hs
  split at hs
  · rename_i hc
    cases hs
    refine ⟨by rw [List.length_set]; exact h.1, h.2.1, fun j w hj hw => ?_⟩
    by_cases hji : j = i
    · subst hji
      rw [List.getElem?_set_self hc.1] at hj
      cases hj
      exact h.2.2 _ List.mem_cons_self
    · rw [List.getElem?_set_ne (Ne.symm hji)] at hj
      refine h.2.2 (j, a_cv ad w) (List.mem_cons_of_mem _ (List.mem_filter.mpr ⟨a_pr_mem.mpr ⟨w, hj, hw, rfl⟩, ?_⟩))
      by_cases hj1 : j + 1 = i
      · subst hj1
        have h2 := hc.2
        simp only [a_ok, hj] at h2
        have h3 : w.category = 1 := Nat.eq_of_beq_eq_true h2
        simp [hji, a_cv_cat, h3]
      · simp [hji, hj1]
  · cases hs
theorem a_lo_set2 {ad : Nat → Nat} {ls ls' : List Value} {lsR' : Array Slot} {i : Nat} {v : Value} (hs : a_set2 ls i v = some ls')
    (h : lv_has lsR' ls.length ((i, a_cv ad v) :: (a_pr ad ls).filter (fun q => !(q.1 == i) && (!(q.1 == i + 1) && !(q.1 + 1 == i && q.2.category == 2))))) : a_lo ad ls' lsR' := by
  unfold a_set2 at hs
  split at hs
  · rename_i hc
    cases hs
    refine ⟨by rw [List.length_set, List.length_set]; exact h.1, h.2.1, fun j w hj hw => ?_⟩
    by_cases hj1 : j = i + 1
    · subst hj1
      rw [List.getElem?_set_self (by rw [List.length_set]; exact hc.1)] at hj
      cases hj
      exact absurd rfl hw
    · rw [List.getElem?_set_ne (Ne.symm hj1)] at hj
      by_cases hji : j = i
      · subst hji
        rw [List.getElem?_set_self (by omega)] at hj
        cases hj
        exact h.2.2 _ List.mem_cons_self
      · rw [List.getElem?_set_ne (Ne.symm hji)] at hj
        refine h.2.2 (j, a_cv ad w) (List.mem_cons_of_mem _ (List.mem_filter.mpr ⟨a_pr_mem.mpr ⟨w, hj, hw, rfl⟩, ?_⟩))
        by_cases hj2 : j + 1 = i
        · subst hj2
          have h2 := hc.2
          simp only [a_ok, hj] at h2
          have h3 : w.category = 1 := Nat.eq_of_beq_eq_true h2
          simp [hji, hj1, a_cv_cat, h3]
        · simp [hji, hj1, hj2]
  · cases hs
theorem a_args_mem (ad : Nat → Nat) : ∀ (vs : List Value) (off i : Nat) (v : Value), (a_args vs)[i]? = some v → v ≠ a_hole → (off + i, a_cv ad v) ∈ lv_args off (vs.map (a_cv ad)) := by
  intro vs
  induction vs with
  | nil => intro off i v h; simp [a_args] at h
  | cons v0 vs ih =>
    intro off i v h hh
    rw [List.map_cons, lv_args, a_cv_cat]
    by_cases hc : v0.category = 2
    · rw [a_args, if_pos hc] at h
      rw [if_pos hc]
      match i, h with
      | 0, h => cases h; exact List.mem_cons_self
      | 1, h => cases h; exact absurd rfl hh
      | i + 2, h =>
        have h3 := ih (off + 2) i v h hh
        rw [show off + (i + 2) = off + 2 + i by omega]
        exact List.mem_cons_of_mem _ h3
    · rw [a_args, if_neg hc] at h
      rw [if_neg hc]
      match i, h with
      | 0, h => cases h; exact List.mem_cons_self
      | i + 1, h =>
        have h3 := ih (off + 1) i v h hh
        rw [show off + (i + 1) = off + 1 + i by omega]
        exact List.mem_cons_of_mem _ h3
theorem a_sl_len (ad : Nat → Nat) : ∀ vs : List Value, (lg_sl (vs.map (a_cv ad))).length = (a_args vs).length := by
  intro vs
  induction vs with
  | nil => rfl
  | cons v0 vs ih =>
    have e : lg_sl ((v0 :: vs).map (a_cv ad)) = (if v0.category = 2 then [Slot.val (a_cv ad v0), .second] else [.val (a_cv ad v0)]) ++ lg_sl (vs.map (a_cv ad)) := by
      simp only [lg_sl, List.map_cons, List.flatMap_cons, a_cv_cat]
    rw [e, List.length_append, ih, a_args]
    by_cases hc : v0.category = 2
    · simp only [if_pos hc, List.length_cons, List.length_nil]; omega
    · simp only [if_neg hc, List.length_cons, List.length_nil]; omega
theorem a_lo_entry (ad : Nat → Nat) {m : Nat} {args : List Value} (hl : (a_args args).length ≤ a_maxL m) :
    a_lo ad (a_entry m args) ((lg_sl (args.map (a_cv ad)) ++ List.replicate (a_maxL m - (lg_sl (args.map (a_cv ad))).length) Slot.unset).toArray) := by
  have h := lv_entry (args.map (a_cv ad)) (n := a_maxL m) (by rw [a_sl_len]; exact hl)
  have hlen : (a_entry m args).length = a_maxL m := by unfold a_entry; rw [List.length_append, List.length_replicate]; omega
  refine ⟨by rw [h.1, hlen], h.2.1, fun i v hv hh => ?_⟩
  unfold a_entry at hv
  by_cases hi : i < (a_args args).length
  · rw [List.getElem?_append_left hi] at hv
    have := h.2.2 (0 + i, a_cv ad v) (a_args_mem ad args 0 i v hv hh)
    rwa [Nat.zero_add] at this
  · rw [List.getElem?_append_right (by omega)] at hv
    have h2 := List.eq_of_mem_replicate (List.mem_of_getElem? hv)
    exact absurd h2 hh
/-! words -/
def a_tb : List Cond := lw_tbl.filter goodWord
def a_ws (m : Nat) : List Cond := Cond.code (a_name m) (a_code m) (a_maxL m) (a_ret m) :: a_tb
theorem a_tb_of {w : Cond} (h : w ∈ lw_tbl) (hg : goodWord w = true) : w ∈ a_tb := List.mem_filter.mpr ⟨h, hg⟩
theorem a_at_in {i : Nat} {w : Cond} (h : a_at i w = true) (hg : goodWord w = true) : w ∈ a_tb := a_tb_of (List.mem_of_getElem? (of_decide_eq_true h)) hg
theorem a_m_in {m : Nat} (hm : m < a_ms.length) : a_m m ∈ a_ms := by
  unfold a_m
  rw [List.getD_eq_getElem?_getD, List.getElem?_eq_getElem hm]
  exact List.getElem_mem hm
theorem a_code_in {m : Nat} (hm : m < a_ms.length) : Cond.code (a_name m) (a_code m) (a_maxL m) (a_ret m) ∈ a_tb := a_tb_of (a_ms_in _ (a_m_in hm)) rfl
theorem a_good {m m' : Nat} (hm : m' < a_ms.length) : GoodIn (a_ws m) (a_ws m') := by
  intro w hw
  rcases List.mem_cons.mp hw with rfl | hw
  · exact ⟨List.mem_cons_of_mem _ (a_code_in hm), Or.inl rfl⟩
  · exact ⟨List.mem_cons_of_mem _ hw, good_of_word (List.mem_filter.mp hw).2⟩
theorem a_look_in {α : Type} {o i : Nat} {e : α} : ∀ {l : List (Nat × Nat × α)}, a_look l o i = some e → (o, i, e) ∈ l := by
  intro l
  induction l with
  | nil => intro h; cases h
  | cons q r ih =>
    intro h
    unfold a_look at h
    split at h
    · rename_i hq
      rw [Bool.and_eq_true] at hq
      have h1 := Nat.eq_of_beq_eq_true hq.1
      have h2 := Nat.eq_of_beq_eq_true hq.2
      cases h
      obtain ⟨q1, q2, q3⟩ := q
      dsimp only at h1 h2
      subst h1; subst h2
      exact List.mem_cons_self
    · exact List.mem_cons_of_mem _ (ih h)
theorem a_own_eq {m : Nat} (hm : m < a_ms.length) : a_cname (a_own m) = (a_name m).cls ∧ (a_ini m = true → (a_name m).name = "<init>") := by
  have h := List.all_eq_true.mp a_own_ok m (List.mem_range.mpr hm)
  rw [Bool.and_eq_true] at h
  exact ⟨of_decide_eq_true h.1, of_decide_eq_true h.2⟩
/-! constants: what the tables and the start say of them, seen past the cells A that may change -/
def a_lens : List Nat := [57, 8, 41]
def a_nst : List (String × Nat × MethodName) := [(RX7, 9, yX1_init), (RX1, 30, yX6_init), (RX7, 18, yX3_init), (RX7, 25, yX2_init), (RX7, 65, yX4_init), (RX7, 66, yX6_init)]
def a_CK (ad : Nat → Nat) (A : Nat → Prop) (U : State) (H : Heap) : Prop :=
  vk_S 3 a_lens a_bytes (fun i => ad (1000000 + i)) (fun i => ad (1000010 + i)) A U H ∧ va_T .int (ad 1000020) 6 (fun j => .int (a_above.getD j 0)) A U H ∧
  va_Z RJ0 "COMPACT_STRINGS" "Z" (.int 1) A U H ∧ va_Z RX0 "ABOVE" "[I" (.ref (ad 1000020)) A U H ∧ va_Z RJ3 "SIOOBE_FORMATTER" "Ljava/util/function/BiFunction;" (a_cv ad (.float 7)) A U H ∧
  (∀ e ∈ a_nst, va_Nw (.methodLinkNest e.1 e.2.1 e.2.2 RX7) U) ∧ va_AO RX0 U ∧ va_AO RX4 U ∧ va_AO RX6 U ∧
  vk_R RX2 96 "door state turn room key other shut cost wish or and not " (ad 1000000) U ∧ vk_R RX2 108 "();+-*<=" (ad 1000001) U ∧ vk_R RX7 67 "shut 0 ; cost 1 + state ; wish room = 2 ;" (ad 1000002) U
theorem a_CK.to {ad : Nat → Nat} {A B : Nat → Prop} {s U : State} {H0 H : Heap} (h : a_CK ad A s H0) (hW : s.WarmedH U.vm) (hS : ∀ q : Nat, q < H0.size → ¬ A q → H[q]? = H0[q]?) (hAB : ∀ q, B q → A q) : a_CK ad B U H := by
  obtain ⟨h1, h2, h3, h4, h5, h6, h7, h8, h9, h10, h11, h12⟩ := h
  have hv := hW.alike
  exact ⟨((h1.kept hS).narrow hAB).moved hv, ((h2.kept hS).narrow hAB).moved hv, ((h3.kept hS).narrow hAB).moved hv, ((h4.kept hS).narrow hAB).moved hv, ((h5.kept hS).narrow hAB).moved hv,
    fun e he => va_Nw.warmM hW (h6 e he), h7.moved hv, h8.moved hv, h9.moved hv, h10.warm hW, h11.warm hW, h12.warm hW⟩
theorem a_CK.same {ad : Nat → Nat} {A : Nat → Prop} {s U : State} {H : Heap} (h : a_CK ad A s H) (hv : U.vm = s.vm) : a_CK ad A U H := by
  obtain ⟨h1, h2, h3, h4, h5, h6, h7, h8, h9, h10, h11, h12⟩ := h
  have hvm : s.vm.Alike U.vm := by rw [hv]; exact Vm.Alike.refl s.vm
  exact ⟨h1.moved hvm, h2.moved hvm, h3.moved hvm, h4.moved hvm, h5.moved hvm, fun e he => (h6 e he).same rfl hv.symm, h7.moved hvm, h8.moved hvm, h9.moved hvm, h10.same hv, h11.same hv, h12.same hv⟩
