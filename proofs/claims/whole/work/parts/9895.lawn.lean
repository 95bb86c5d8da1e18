/-! the law: the two objects -/
set_option maxRecDepth 100000 in
theorem lw_w7 : (Cond.classLink R_law 7 RX7 ∈ lw_tbl ∧ Cond.methodLink R_law 9 (a_name 76) ∈ lw_tbl ∧ Cond.instanceMethod (a_name 76) ∈ lw_tbl ∧ Cond.initialized (a_name 76).cls ∈ lw_tbl) ∧ Cond.classLink R_law 10 RX8 ∈ lw_tbl ∧ Cond.methodLink R_law 12 (a_name 116) ∈ lw_tbl ∧ Cond.instanceMethod (a_name 116) ∈ lw_tbl ∧ Cond.initialized (a_name 116).cls ∈ lw_tbl := by decide +kernel
set_option maxRecDepth 100000 in
theorem lw_w8 : (76 < a_ms.length ∧ (a_name 76).name = "<init>" ∧ a_ret 76 = none ∧ a_nar 76 = 0) ∧ 116 < a_ms.length ∧ (a_name 116).name = "<init>" ∧ a_ret 116 = none ∧ a_nar 116 = 0 := by decide +kernel
def lw_hI (ci N : Nat) : aH := (1, N, u1 (fun _ => (999, 0)) 0 (ci, N), I00, L00, R00)
theorem lw_hW {ci N : Nat} (hc : ci < 8) : aWF (lw_hI ci N) := by
  have h1 : ∀ a, 1 ≤ a → (u1 (fun _ => (999, 0)) 0 (ci, N) : Nat → Nat × Nat) a = (999, 0) := fun a ha => by rw [u1_ne _ _ _ (by omega)]
  refine ⟨by show 1 ≤ 1000000; decide, fun a ha => ⟨h1 a ha, fun k => ⟨rfl, rfl, rfl⟩⟩, fun a ha => Or.inl ?_⟩
  have h0 : a = 0 := by have : a < 1 := ha; omega
  subst h0
  show ((u1 (fun _ => (999, 0)) 0 (ci, N) : Nat → Nat × Nat) 0).1 < 8
  rw [u1_eq]
  exact hc
theorem lw_hs {ad ad' : Nat → Nat} {ci N : Nat} : a_fs ad (lw_hI ci N) 0 ci = a_fs ad' (lw_hI ci N) 0 ci := by
  unfold a_fs
  refine List.map_congr_left (fun j _ => ?_)
  unfold a_fv
  split <;> rfl
theorem lw_h1 {ca ad : Nat → Nat} {ci N : Nat} (hc : ci < 8) : a_W ca ad (lw_hI ci N) = [(ad 0, .inr (ci, a_fs ad (lw_hI ci N) 0 ci))] := by
  show [(ad 0, a_ce ca ad (lw_hI ci N) 0)] = _
  rw [a_ce_obj (ci := ci) (by show ((u1 (fun _ => (999, 0)) 0 (ci, N) : Nat → Nat × Nat) 0).1 = ci; rw [u1_eq]) (by omega)]
theorem lw_swap {A0 : Nat → Prop} {D : va_G} {cl : List vw_C} {w1 w2 : va_W} {H : Heap} (hP : va_P D cl (w1 ++ w2) H) (hD : va_D A0 (w1 ++ w2)) : va_P D cl (w2 ++ w1) H ∧ va_D A0 (w2 ++ w1) := by
  have g1 : ∀ (k : Nat) (q : Nat × va_E), w1[k]? = some q → (w1 ++ w2)[k]? = some q := fun k q h => by rw [List.getElem?_append_left (List.getElem?_eq_some_iff.mp h).1]; exact h
  have g2 : ∀ (k : Nat) (q : Nat × va_E), w2[k]? = some q → (w1 ++ w2)[w1.length + k]? = some q := fun k q h => by rw [List.getElem?_append_right (by omega), Nat.add_sub_cancel_left]; exact h
  refine ⟨va_P.app (fun k q h => hP _ q (g2 k q h)) (fun k q h => hP _ q (g1 k q h)), va_D.app ⟨fun i j p q h1 h2 he => ?_, fun k q h => hD.2 _ q (g2 k q h)⟩ ⟨fun i j p q h1 h2 he => hD.1 _ _ p q (g1 i p h1) (g1 j q h2) he, fun k q h => hD.2 _ q (g1 k q h)⟩ (fun i j p q h1 h2 he => ?_)⟩
  · have := hD.1 _ _ p q (g2 i p h1) (g2 j q h2) he
    omega
  · have := hD.1 _ _ p q (g2 i p h1) (g1 j q h2) he
    have hl := (List.getElem?_eq_some_iff.mp h2).1
    omega
section
variable {p : Program} {l : Launch} {e : Env} {s : State} {m : MethodId} {below : List Frame} {meth : Method} {c : Code} {b : Nat} {G : va_G} {ca adK : Nat → Nat} {Q : State → Prop}
theorem lw_new (F : lw_Fx p s m c b G ca adK) {ci N idx pc : Nat} {C : String} {T : u_T} (hq : vwCl[ci]? = some (C, T, N)) (hcl : Cond.classLink R_law idx C ∈ lw_tbl) (hdg : decode code pc = .ok (.new idx, 3)) {ws : va_W} {H : Heap} {locs : List Loc} {cells slots : Nat} {ls : Array Slot} {rest : List Value}
    (hP : va_P G vwCl ws H) (hD : va_D (fun q : Nat => s.heap.size ≤ q) ws) (hS : va_S (fun q : Nat => s.heap.size ≤ q) s.heap H locs) (hroom : cells + 1 ≤ 600000 ∧ slots + N ≤ 7302250)
    (kk : ∀ (q : Nat) (H1 : Heap), va_P G vwCl (ws ++ a_W ca (fun _ => q) (lw_hI ci N)) H1 → va_D (fun q : Nat => s.heap.size ≤ q) (ws ++ a_W ca (fun _ => q) (lw_hI ci N)) → va_S (fun q : Nat => s.heap.size ≤ q) s.heap H1 locs → W p l e room_1 s m #[Value.ref b] below meth c H1 locs (cells + 1) (slots + N) Q (F0 m (pc + 3) ls (.ref q :: rest))) :
    W p l e room_1 s m #[Value.ref b] below meth c H locs cells slots Q (F0 m pc ls rest) := by
  obtain ⟨hx, hb, hml, ho, hts, hK, hCK⟩ := F
  obtain ⟨g1, g2, g3, g4, g5, g6, g7, g8, g9⟩ := a_cls hq
  have hty : ∀ j, j < N → parseFieldDescriptor (T j).2.2.1 = some ((parseFieldDescriptor (T j).2.2.1).getD .int) := fun j hj => by
    obtain ⟨ty', h1, -⟩ := g3 j hj
    rw [h1]; rfl
  refine va_new (fs := a_fs (fun _ => 0) (lw_hI ci N) 0 ci) (cl := vwCl) (own := R_law) (D := G) hx hb hts (fun w hw => (List.mem_filter.mp (g2 w hw)).1) (fun j => (parseFieldDescriptor (T j).2.2.1).getD .int) hty ho (hts _ hcl) (hts _ (List.mem_filter.mp g6).1) (hts _ (List.mem_filter.mp g7).1) hK hP hD hS (fun _ h => h) hq (fun j hj => ?_) hroom.1 hroom.2 hdg (fun q H1 hP1 hD1 hS1 => ?_)
  · obtain ⟨ty', h2, h3⟩ := g3 j hj
    have hfs : vp_V (a_fs (fun _ => 0) (lw_hI ci N) 0 ci) j = a_fv (fun _ => 0) (lw_hI ci N) 0 ci j := by
      unfold vp_V
      rw [List.getD_eq_getElem?_getD, a_fs_get (by omega)]
      rfl
    rw [hfs, h2]
    show defaultValue ty' = _
    unfold a_fv
    generalize a_fty ci j = tq at h3
    match tq, ty', h3 with
    | 0, .int, _ => rfl
    | 1, .boolean, _ => rfl
    | 2, .long, _ => rfl
    | 3, .object _, _ => rfl
    | 3, .array _, _ => rfl
  · have e : a_W ca (fun _ => q) (lw_hI ci N) = [(q, .inr (ci, a_fs (fun _ => 0) (lw_hI ci N) 0 ci))] := by
      rw [lw_h1 g9, lw_hs (ad' := fun _ => 0)]
    rw [← e] at hP1 hD1
    exact kk q H1 hP1 hD1 hS1
theorem lw_ini (F : lw_Fx p s m c b G ca adK) {pc idx mid ci N : Nat} (hdg : decode code pc = .ok (.invokespecial idx, 3)) (w1 : Cond.methodLink R_law idx (a_name mid) ∈ lw_tbl) (w2 : Cond.instanceMethod (a_name mid) ∈ lw_tbl) (w3 : Cond.initialized (a_name mid).cls ∈ lw_tbl) (hlt : mid < a_ms.length) (hnm : (a_name mid).name = "<init>") (hrt : a_ret mid = none) (hna : a_nar mid = 0) (hc8 : ci < 8) {ls : Array Slot} (hls : ls.size = 4) {rest : List Value}
    {h' : aH} {d : Nat} (hc : a_cl_ d mid [.ref 0] (lw_hI ci N) none h') (hd : d ≤ 1000)
    {ad : Nat → Nat} {wr : va_W} {H : Heap} {locs : List Loc} {cells slots : Nat} (hP : va_P G vwCl (a_W ca ad (lw_hI ci N) ++ wr) H) (hD : va_D (fun q : Nat => s.heap.size ≤ q) (a_W ca ad (lw_hI ci N) ++ wr)) (hS : va_S (fun q : Nat => s.heap.size ≤ q) s.heap H locs)
    (hroom : cells + (h'.1 - 1) ≤ 600000 ∧ slots + (h'.2.1 - N) ≤ 7302250) (hW : (rest.map fun v => v.category).sum ≤ 8)
    (kk : ∀ (ad' : Nat → Nat) (H1 : Heap) (locs1 : List Loc), ad' 0 = ad 0 → aWF h' → va_P G vwCl (wr ++ a_W ca ad' h') H1 → va_D (fun q : Nat => s.heap.size ≤ q) (wr ++ a_W ca ad' h') → va_S (fun q : Nat => s.heap.size ≤ q) s.heap H1 locs1 →
      W p l e room_1 s m #[Value.ref b] below meth c H1 locs1 (cells + (h'.1 - 1)) (slots + (h'.2.1 - N)) Q (F0 m (pc + 3) ls rest)) :
    W p l e room_1 s m #[Value.ref b] below meth c H locs cells slots Q (F0 m pc ls (.ref (ad 0) :: rest)) := by
  obtain ⟨hx, hb, hml, ho, hts, hK, hCK⟩ := F
  obtain ⟨-, a2, a3, a4⟩ := a_arity hlt
  have hwf := lw_hW (N := N) hc8
  have hcc : ∀ a k b, (lw_hI ci N).2.2.2.2.2 a k = some b → b < (lw_hI ci N).1 := fun a k b h => by cases h
  have e1 : ∀ k, k < (lw_hI ci N).1 → lw_ad adK ad (lw_hI ci N).1 H.size k = ad k := fun k hk => by unfold lw_ad; rw [if_pos hk]
  have e2 := lw_W (ca := ca) hcc e1
  have hPc : va_P G vwCl (a_W ca (lw_ad adK ad (lw_hI ci N).1 H.size) (lw_hI ci N)) H := by
    rw [e2]
    intro k q hq
    exact hP k q (by rw [List.getElem?_append_left (List.getElem?_eq_some_iff.mp hq).1]; exact hq)
  have hDc : va_D (fun q : Nat => s.heap.size ≤ q) (a_W ca (lw_ad adK ad (lw_hI ci N).1 H.size) (lw_hI ci N)) := by
    rw [e2]
    have g : ∀ (k : Nat) (q : Nat × va_E), (a_W ca ad (lw_hI ci N))[k]? = some q → (a_W ca ad (lw_hI ci N) ++ wr)[k]? = some q := fun k q hq => by
      rw [List.getElem?_append_left (List.getElem?_eq_some_iff.mp hq).1]; exact hq
    exact ⟨fun i j p q h1 h2 he => hD.1 i j p q (g i p h1) (g j q h2) he, fun k q hq => hD.2 k q (g k q hq)⟩
  have hfree : ∀ q, va_A (a_W ca (lw_ad adK ad (lw_hI ci N).1 H.size) (lw_hI ci N)) H.size q → s.heap.size ≤ q := by
    intro q hq
    rcases hq with ⟨k, e, hk⟩ | hq
    · exact hDc.2 k _ hk
    · exact Nat.le_trans hS.1 hq
  have hpre : ∀ U : State, U.heap = H → s.WarmedH U.vm → a_Pc G ca (lw_ad adK ad (lw_hI ci N).1 H.size) H.size [.ref 0] (lw_hI ci N) [Value.ref (ad 0)].toArray U := by
    intro U hU hW
    refine ⟨?_, by rw [hU], hwf, by rw [hU]; exact hPc, va_K.moved hW.alike hK, hDc.weaken (fun _ _ _ _ => trivial), fun k h1 h2 => ?_, ?_⟩
    · show _ = [Value.ref (lw_ad adK ad (lw_hI ci N).1 H.size 0)].toArray
      rw [e1 0 (by show 0 < 1; decide)]
    · unfold lw_ad
      rw [if_neg (by omega), if_pos h2]
    · rw [hU]
      exact lw_CK hwf.1 (hCK.to hW hS.2.1 hfree)
  have hG : GoodIn lw_tbl (a_ws mid) := by
    intro w hw
    obtain ⟨h1, h2⟩ := a_good (m := mid) hlt w hw
    rcases List.mem_cons.mp hw with rfl | hw
    · exact ⟨(List.mem_filter.mp (a_code_in hlt)).1, h2⟩
    · exact ⟨(List.mem_filter.mp hw).1, h2⟩
  have hws : a_ws mid = Cond.code (a_name mid) (a_code mid) (a_maxL mid) none :: a_tb := by unfold a_ws; rw [hrt]
  have run := va_runI (rest := rest) (As := []) (b := ad 0) (g := F0 m pc ls (.ref (ad 0) :: rest)) (R := room_1) (locs := locs) (below := below) (meth := meth) (e := e) (p := p) (l := l) (cells := cells) (slots := slots) ⟨hx, hb, hml, ho, hts⟩ (a_met l d mid [.ref 0] (lw_hI ci N) none h' hc hlt G ca (lw_ad adK ad (lw_hI ci N).1 H.size) H.size) (cwI (a_nar mid) hts hG hws rfl rfl (hts _ w3) (hts _ w1) (hts _ w2) hnm ⟨a2.1, a2.2, a3⟩ ⟨by show d + 1 ≤ 2048; omega, by show 8 + (a_maxL mid + 11) + 60 * d ≤ 84000; omega⟩) ⟨a_Pc_blind, hpre⟩ rfl hna.symm hls rfl (lv_room hW) hdg hroom
  intro T hT X
  obtain ⟨v1, st₀, t, T', L, e0, X', hL, t1, t2, ⟨⟨hv, w1, w2, w3⟩, hz, hk⟩, st⟩ := run T hT X
  cases hv
  rw [e0] at hz hk
  obtain ⟨j1, j2⟩ := lw_join (wc := a_W ca (lw_ad adK ad (lw_hI ci N).1 H.size) (lw_hI ci N)) (by rw [e2]; exact hP) (by rw [e2]; exact hD) hk hfree w2 w3
  obtain ⟨t3, b1, b2⟩ := kk (lw_ad adK ad (lw_hI ci N).1 H.size) T'.heap (locs ++ L) (e1 0 (by show 0 < 1; decide)) w1 (by rw [t1]; exact j1) j2
    ⟨Nat.le_trans hS.1 (by rw [t1]; exact hz), fun q h1 h2 => by rw [t1, hk q (Nat.lt_of_lt_of_le h1 hS.1) (fun z => h2 (hfree _ z))]; exact hS.2.1 q h1 h2, fun q hq => by
      rcases List.mem_append.mp hq with h | h
      · exact hS.2.2 q h
      · exact hfree _ (hL q h)⟩ T' rfl X'
  exact ⟨t3, st t3 b1, b2⟩
end
