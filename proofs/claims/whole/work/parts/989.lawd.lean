/-! the law: a call, with what stays beside it -/
theorem lw_good {idx mid p1 p2 p3 p4 : Nat} (h : lw_chk (idx, mid, p1, p2, p3, p4) = true) : GoodIn lw_tbl (wsV R_law idx (a_name mid).cls (a_name mid) (a_ws mid)) ∧ mid < a_ms.length ∧ a_own mid < 8 := by
  unfold lw_chk at h
  simp only [Bool.and_eq_true, decide_eq_true_eq] at h
  obtain ⟨⟨⟨⟨⟨w1, w2⟩, w3⟩, w4⟩, hlt⟩, ho⟩ := h
  refine ⟨fun w hw => ?_, hlt, ho⟩
  have g : ∀ {i : Nat} {w : Cond}, a_at i w = true → w ∈ lw_tbl := fun h => List.mem_of_getElem? (of_decide_eq_true h)
  rcases List.mem_append.mp hw with hw | hw
  · simp only [List.mem_cons, List.not_mem_nil, or_false] at hw
    rcases hw with rfl | rfl | rfl | rfl
    · exact ⟨g w1, Or.inl rfl⟩
    · exact ⟨g w2, Or.inl rfl⟩
    · exact ⟨g w3, Or.inl rfl⟩
    · exact ⟨g w4, Or.inl rfl⟩
  · obtain ⟨h1, h2⟩ := a_good (m := mid) hlt w hw
    rcases List.mem_cons.mp hw with rfl | hw
    · exact ⟨(List.mem_filter.mp (a_code_in hlt)).1, h2⟩
    · exact ⟨(List.mem_filter.mp hw).1, h2⟩
def lw_ad (adK ad : Nat → Nat) (n sz : Nat) (k : Nat) : Nat := if k < n then ad k else if k < 1000000 then sz + (k - n) else adK k
theorem lw_W {ca : Nat → ClassId} {ad ad' : Nat → Nat} {h : aH} (hc : ∀ a k b, h.2.2.2.2.2 a k = some b → b < h.1) (he : ∀ k, k < h.1 → ad' k = ad k) : a_W ca ad' h = a_W ca ad h := by
  have e : ∀ k j, (h.2.2.2.2.2 k j).map ad' = (h.2.2.2.2.2 k j).map ad := by
    intro k j
    cases hb : h.2.2.2.2.2 k j with
    | none => rfl
    | some b => show some (ad' b) = some (ad b); rw [he b (hc k j b hb)]
  unfold a_W
  refine List.map_congr_left (fun k hk => ?_)
  rw [he k (List.mem_range.mp hk)]
  congr 1
  unfold a_ce a_fs a_fv a_row
  simp only [e]
theorem lw_CK {adK ad : Nat → Nat} {n sz : Nat} (hn : n ≤ 1000000) {A : Nat → Prop} {U : State} {H : Heap} (h : a_CK adK A U H) : a_CK (lw_ad adK ad n sz) A U H := by
  have e : ∀ k, 1000000 ≤ k → lw_ad adK ad n sz k = adK k := fun k hk => by
    unfold lw_ad
    rw [if_neg (by omega), if_neg (by omega)]
  unfold a_CK at h ⊢
  simp only [a_cv] at h ⊢
  simp (disch := omega) only [e]
  exact h
/-- two worlds side by side, the first one changed -/
theorem lw_join {A0 : Nat → Prop} {D : va_G} {cl : List vw_C} {wc wr w1 : va_W} {H H1 : Heap} (hP : va_P D cl (wc ++ wr) H) (hD : va_D A0 (wc ++ wr)) (hk : ∀ q : Nat, q < H.size → ¬ va_A wc H.size q → H1[q]? = H[q]?) (hF : ∀ q, va_A wc H.size q → A0 q) (hP1 : va_P D cl w1 H1) (hD1 : va_D (va_A wc H.size) w1) : va_P D cl (wr ++ w1) H1 ∧ va_D A0 (wr ++ w1) := by
  have at' : ∀ (k : Nat) (q : Nat × va_E), wr[k]? = some q → (wc ++ wr)[wc.length + k]? = some q := fun k q h => by
    rw [List.getElem?_append_right (by omega), Nat.add_sub_cancel_left]; exact h
  have apart : ∀ (k : Nat) (q : Nat × va_E), wr[k]? = some q → q.1 < H.size ∧ ¬ va_A wc H.size q.1 := by
    intro k q hq
    have hl := (hP _ q (at' k q hq)).lt
    refine ⟨hl, fun h => ?_⟩
    rcases h with ⟨k2, e, h⟩ | h
    · have hlt : k2 < wc.length := (List.getElem?_eq_some_iff.mp h).1
      have := hD.1 k2 (wc.length + k) (q.1, e) q (by rw [List.getElem?_append_left hlt]; exact h) (at' k q hq) rfl
      omega
    · exact absurd hl (Nat.not_lt.mpr h)
  refine ⟨va_P.app (fun k q hq => (hP _ q (at' k q hq)).kept (hk _ (apart k q hq).1 (apart k q hq).2)) hP1, va_D.app ⟨fun i j p q h1 h2 he => ?_, fun k q hq => hD.2 _ q (at' k q hq)⟩ (hD1.weaken (fun _ _ _ h => hF _ h)) (fun i j p q h1 h2 he => ?_)⟩
  · have := hD.1 _ _ p q (at' i p h1) (at' j q h2) he
    omega
  · exact (apart i p h1).2 (by rw [he]; exact hD1.2 j q h2)
def lw_Fx (p : Program) (s : State) (m : MethodId) (c : Code) (b : Nat) (D : va_G) (ca adK : Nat → Nat) : Prop := p.tables.exec = Jvm.exec ∧ c.code = code ∧ c.maxLocals = 4 ∧ s.vm.findClass R_law = some m.cls ∧ (∀ w ∈ lw_tbl, w.before #[Value.ref b] s = true) ∧ va_K D vwCl (a_tys ca) s ∧ a_CK adK (fun q : Nat => s.heap.size ≤ q) s s.heap
section
variable {p : Program} {l : Launch} {e : Env} {s : State} {m : MethodId} {below : List Frame} {meth : Method} {c : Code} {b : Nat} {D : va_G} {ca adK : Nat → Nat} {Q : State → Prop}
theorem lw_call (F : lw_Fx p s m c b D ca adK) {pc idx mid p1 p2 p3 p4 : Nat} (hdg : decode code pc = .ok (.invokevirtual idx, 3)) (hcl : lw_chk (idx, mid, p1, p2, p3, p4) = true) {ls : Array Slot} (hls : ls.size = 4) {As rest : List Value} (hA : As.length = a_nar mid) (hA2 : ∀ f, As.map (a_cv f) = As)
    {h h' : aH} {v : Option Value} {d : Nat} (hc : a_cl_ d mid (.ref 0 :: As) h v h') (hd : d ≤ 1000) (hcc : ∀ a k b, h.2.2.2.2.2 a k = some b → b < h.1) (hown : (h.2.2.1 0).1 = a_own mid) (h0 : 0 < h.1)
    {ad : Nat → Nat} {wr : va_W} {H : Heap} {locs : List Loc} {cells slots : Nat} (hwf : aWF h) (hP : va_P D vwCl (a_W ca ad h ++ wr) H) (hD : va_D (fun q : Nat => s.heap.size ≤ q) (a_W ca ad h ++ wr)) (hS : va_S (fun q : Nat => s.heap.size ≤ q) s.heap H locs)
    (hroom : cells + (h'.1 - h.1) ≤ 600000 ∧ slots + (h'.2.1 - h.2.1) ≤ 7302250) (hW : (rest.map fun v => v.category).sum ≤ 8)
    (kk : ∀ (ad' : Nat → Nat) (H1 : Heap) (locs1 : List Loc), (∀ k, k < h.1 → ad' k = ad k) → aWF h' → va_P D vwCl (wr ++ a_W ca ad' h') H1 → va_D (fun q : Nat => s.heap.size ≤ q) (wr ++ a_W ca ad' h') → va_S (fun q : Nat => s.heap.size ≤ q) s.heap H1 locs1 →
      W p l e room_1 s m #[Value.ref b] below meth c H1 locs1 (cells + (h'.1 - h.1)) (slots + (h'.2.1 - h.2.1)) Q (F0 m (pc + 3) ls ((v.map (a_cv ad')).toList ++ rest))) :
    W p l e room_1 s m #[Value.ref b] below meth c H locs cells slots Q (F0 m pc ls (As.reverse ++ .ref (ad 0) :: rest)) := by
  obtain ⟨hx, hb, hml, ho, hts, hK, hCK⟩ := F
  obtain ⟨hG, hlt, ho8⟩ := lw_good hcl
  obtain ⟨-, a2, a3, a4⟩ := a_arity hlt
  have e1 : ∀ k, k < h.1 → lw_ad adK ad h.1 H.size k = ad k := fun k hk => by unfold lw_ad; rw [if_pos hk]
  have e2 := lw_W (ca := ca) hcc e1
  have hPc : va_P D vwCl (a_W ca (lw_ad adK ad h.1 H.size) h) H := by
    rw [e2]
    intro k q hq
    exact hP k q (by rw [List.getElem?_append_left (List.getElem?_eq_some_iff.mp hq).1]; exact hq)
  have hDc : va_D (fun q : Nat => s.heap.size ≤ q) (a_W ca (lw_ad adK ad h.1 H.size) h) := by
    rw [e2]
    have g : ∀ (k : Nat) (q : Nat × va_E), (a_W ca ad h)[k]? = some q → (a_W ca ad h ++ wr)[k]? = some q := fun k q hq => by
      rw [List.getElem?_append_left (List.getElem?_eq_some_iff.mp hq).1]; exact hq
    exact ⟨fun i j p q h1 h2 he => hD.1 i j p q (g i p h1) (g j q h2) he, fun k q hq => hD.2 k q (g k q hq)⟩
  have hfree : ∀ q, va_A (a_W ca (lw_ad adK ad h.1 H.size) h) H.size q → s.heap.size ≤ q := by
    intro q hq
    rcases hq with ⟨k, e, hk⟩ | hq
    · exact hDc.2 k _ hk
    · exact Nat.le_trans hS.1 hq
  have hpre : ∀ U : State, U.heap = H → s.WarmedH U.vm → a_Pc D ca (lw_ad adK ad h.1 H.size) H.size (.ref 0 :: As) h (Value.ref (ad 0) :: As).toArray U := by
    intro U hU hW
    refine ⟨?_, by rw [hU], hwf, by rw [hU]; exact hPc, va_K.moved hW.alike hK, hDc.weaken (fun _ _ _ _ => trivial), fun k h1 h2 => ?_, ?_⟩
    · show _ = (a_cv _ (.ref 0) :: As.map (a_cv _)).toArray
      rw [hA2]
      show _ = (Value.ref (lw_ad adK ad h.1 H.size 0) :: As).toArray
      rw [e1 0 h0]
    · unfold lw_ad
      rw [if_neg (by omega), if_pos h2]
    · rw [hU]
      exact lw_CK hwf.1 (hCK.to hW hS.2.1 hfree)
  obtain ⟨q, hq⟩ : ∃ q, vwCl[a_own mid]? = some q := ⟨_, List.getElem?_eq_getElem ho8⟩
  obtain ⟨C, T, N⟩ := q
  obtain ⟨g1, g2, g3, g4, g5, g6, g7, g8, g9⟩ := a_cls hq
  have h9 := va_recv (s := s) (D := D) (tys := a_tys ca) (q0 := 0) hK hPc hq (by rw [a_W_get h0, a_ce_obj hown (by omega)])
  have hC : C = (a_name mid).cls := by rw [g8, (a_own_eq hlt).1]
  rw [hC, e1 0 h0] at h9
  have run := va_runV (rest := rest) (As := As) (b := ad 0) (g := F0 m pc ls (As.reverse ++ .ref (ad 0) :: rest)) (R := room_1) (locs := locs) (below := below) (meth := meth) (e := e) (p := p) (l := l) (cells := cells) (slots := slots) ⟨hx, hb, hml, ho, hts⟩ (a_met l d mid (.ref 0 :: As) h v h' hc hlt D ca (lw_ad adK ad h.1 H.size) H.size) (cwV (a_nar mid) hts hG rfl rfl rfl ⟨rfl, a2.1, a2.2, a3⟩ ⟨by show d + 1 ≤ 2048; omega, by show 8 + (a_maxL mid + 11) + 60 * d ≤ 84000; omega⟩) ⟨a_Pc_blind, h9, hpre⟩ rfl hA hls rfl (lv_room hW) hdg hroom
  intro T hT X
  obtain ⟨v1, st₀, t, T', L, e0, X', hL, t1, t2, ⟨⟨hv, w1, w2, w3⟩, hz, hk⟩, st⟩ := run T hT X
  cases hv
  rw [e0] at hz hk
  obtain ⟨j1, j2⟩ := lw_join (wc := a_W ca (lw_ad adK ad h.1 H.size) h) (by rw [e2]; exact hP) (by rw [e2]; exact hD) hk hfree w2 w3
  obtain ⟨t3, b1, b2⟩ := kk (lw_ad adK ad h.1 H.size) T'.heap (locs ++ L) e1 w1 (by rw [t1]; exact j1) j2
    ⟨Nat.le_trans hS.1 (by rw [t1]; exact hz), fun q h1 h2 => by rw [t1, hk q (Nat.lt_of_lt_of_le h1 hS.1) (fun z => h2 (hfree _ z))]; exact hS.2.1 q h1 h2, fun q hq => by
      rcases List.mem_append.mp hq with h | h
      · exact hS.2.2 q h
      · exact hfree _ (hL q h)⟩ T' rfl X'
  exact ⟨t3, st t3 b1, b2⟩
end
