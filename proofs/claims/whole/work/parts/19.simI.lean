/-! the contract of every method of the table, out of its run in the abstract machine -/
theorem a_arity {m : Nat} (hm : m < a_ms.length) : plainName (a_name m).cls = true ∧ ((a_name m).cls ≠ "java/lang/invoke/MethodHandle" ∧ (a_name m).cls ≠ "java/lang/invoke/VarHandle") ∧ (parseMethodDescriptor (a_name m).desc).map (fun d => d.parameters.length) = some (a_nar m) ∧ a_maxL m ≤ 16 := by
  have hi := a_m_in hm
  refine ⟨List.all_eq_true.mp a_ms_ok1 _ hi, of_decide_eq_true (List.all_eq_true.mp a_ms_ok2 _ hi), of_decide_eq_true (List.all_eq_true.mp a_ms_ok3 _ hi), Nat.le_of_ble_eq_true (List.all_eq_true.mp a_ms_ok4 _ hi)⟩
section
variable {p : Program} {l : Launch} {e : Env} {R : Room} {s : State} {m : MethodId} {args : Array Value} {below : List Frame} {meth : Method} {c : Code} {Q : State → Prop} {D : va_G} {ca : Nat → ClassId} {ad : Nat → Nat} {A : Nat → Prop} {mid d : Nat} {h0 : aH}
/-- a receiver's cell -/
theorem a_recv (F : a_Fx p R s m args meth c D ca ad A mid d) {h : aH} {H : Heap} {locs : List Loc} (hI : a_Inv D ca ad A s h0 h H locs) {mid2 : Nat} (hlt : mid2 < a_ms.length) {v : Option Value} (hr : a_rcv mid2 v h = true) : ∃ b : Nat, v = some (.ref b) ∧ ∃ cellB : Cell, H[ad b]? = some cellB ∧ cellB.vm.isStatics = false ∧ s.vm.findClass (a_name mid2).cls = some cellB.cls := by
  obtain ⟨i1, i2, i3, i4, i5, i6, i7⟩ := id hI
  unfold a_rcv at hr
  split at hr
  · rename_i b
    refine ⟨b, rfl, ?_⟩
    rw [Bool.or_eq_true, Bool.and_eq_true] at hr
    rcases hr with hr | ⟨hr1, hr2⟩
    · have hk := of_decide_eq_true hr
      have hle := a_own_le mid2
      have hb : b < h.1 := aWF.lt i1 hk (by omega)
      have hk8 : a_own mid2 < 8 := by
        rcases i1.2.2 b hb with g | g | g | g | g | g | g <;> omega
      obtain ⟨q, hq⟩ : ∃ q, vwCl[a_own mid2]? = some q := ⟨_, List.getElem?_eq_getElem hk8⟩
      obtain ⟨C, T, N⟩ := q
      obtain ⟨g1, g2, g3, g4, g5, g6, g7, g8, g9⟩ := a_cls hq
      have h9 := va_recv (s := s) (D := D) (tys := a_tys ca) (q0 := b) F.2.2.2.2.2.1 i4 hq (by rw [a_W_get hb, a_ce_obj hk (by omega)])
      have hC : C = (a_name mid2).cls := by rw [g8, (a_own_eq hlt).1]
      rw [← hC]
      exact h9
    · have h1 := of_decide_eq_true hr1
      obtain ⟨j, hj, rfl, -⟩ := a_ck1 (of_decide_eq_true hr2)
      have hC : (a_name mid2).cls = RJ0 := by rw [← (a_own_eq hlt).1, h1]; rfl
      rw [hC]
      have hS : vk_S 3 a_lens a_bytes (fun i => ad (1000000 + i)) (fun i => ad (1000010 + i)) A s s.heap := F.2.2.2.2.2.2.1.1
      exact vk_recv (i := j) hS hj i6
  · cases hr
/-- where a callee starts -/
theorem a_pre (F : a_Fx p R s m args meth c D ca ad A mid d) {h : aH} {H : Heap} {locs : List Loc} (hI : a_Inv D ca ad A s h0 h H locs) (hsz : H.size = s.heap.size + (h.1 - h0.1)) {as : List Value} : ∀ U : State, U.heap = H → s.WarmedH U.vm → a_Pc D ca ad H.size as h (as.map (a_cv ad)).toArray U := by
  intro U hU hW
  obtain ⟨i1, i2, i3, i4, i5, i6, i7⟩ := id hI
  refine ⟨rfl, by rw [hU], i1, by rw [hU]; exact i4, va_K.moved hW.alike F.2.2.2.2.2.1, i5.weaken (fun _ _ _ _ => trivial), fun k h1 h2 => ?_, ?_⟩
  · rw [i7 k (Nat.le_trans i2 h1) h2, hsz]
    omega
  · rw [hU]
    exact F.2.2.2.2.2.2.1.to hW i6.2.1 (a_free hI F.2.2.2.2.2.2.2.1)
theorem x_call (F : a_Fx p R s m args meth c D ca ad A mid d) {pc : Nat} {ls st : List Value} {h h1 : aH} {mid2 : Nat} {args2 : List Value} {z : aS} {v1 : Option Value}
    (hs : a_step mid (pc, ls, st, h) = some (.inr (.inl (mid2, args2, z)))) (hm : h.1 ≤ h1.1 ∧ h.2.1 ≤ h1.2.1) (hB : h1.1 - h0.1 ≤ R.cells ∧ h1.2.1 - h0.2.1 ≤ R.slots)
    (hM : mid2 < a_ms.length → ∀ sz, Met l (a_name mid2) (a_ws mid2) (a_rm d (h1.1 - h.1) (h1.2.1 - h.2.1)) (a_Pc D ca ad sz args2 h) (a_Qc D ca ad h sz v1 h1) (h1.1 - h.1) (h1.2.1 - h.2.1) (va_A (a_W ca ad h) sz))
    (K : a_K p l e R s m args below meth c Q D ca ad A h0 (z.1, z.2.1, v1.toList ++ z.2.2.1, h1)) : a_K p l e R s m args below meth c Q D ca ad A h0 (pc, ls, st, h) := by
  obtain ⟨idx, n, hk2, rfl, rfl, hn, hsum, hcase⟩ := a_step_call hs
  intro H locs lsR hI hL T hT X
  have hI : a_Inv D ca ad A s h0 h H locs := hI
  have hsz := a_size hI hT X
  have hml := a_lsz F hL hk2
  have hfr := F.2.2.2.2.2.2.2.2.2.2.1
  have hlo := F.2.2.2.2.2.2.2.2.2.2.2
  obtain ⟨i1, i2, i3, i4, i5, i6, i7⟩ := id hI
  have e1c : h.1 - h0.1 + (h1.1 - h.1) = h1.1 - h0.1 := by have := hm.1; omega
  have e2c : h.2.1 - h0.2.1 + (h1.2.1 - h.2.1) = h1.2.1 - h0.2.1 := by have := hm.2; omega
  have hf : h.1 - h0.1 + (h1.1 - h.1) ≤ R.cells ∧ h.2.1 - h0.2.1 + (h1.2.1 - h.2.1) ≤ R.slots := by rw [e1c, e2c]; exact hB
  have hW : 2 * (F0 m pc lsR (st.map (a_cv ad))).monitorRoom + (((st.drop n).map (a_cv ad)).map fun v => v.category).sum ≤ 8 := lv_room (by rw [a_cat_map]; exact hsum)
  have hS : CallFix p m c (a_code mid) (a_maxL mid) s args (a_ws mid) (a_cname (a_own mid)) := ⟨F.1, F.2.1, F.2.2.1, F.own, F.2.2.2.2.1⟩
  have hstk : st.map (a_cv ad) = ((st.take n).map (a_cv ad)) ++ ((st.drop n).map (a_cv ad)) := by rw [← List.map_append, List.take_append_drop]
  have hrev : (((st.take n).reverse.map (a_cv ad))).reverse = (st.take n).map (a_cv ad) := by rw [← List.map_reverse, List.reverse_reverse]
  have hpre := a_pre F hI hsz (as := (st.take n).reverse)
  have kk : ∀ (H1 : Heap) (locs1 : List Loc), a_Inv D ca ad A s h0 h1 H1 locs1 → W p l e R s m args below meth c H1 locs1 (h.1 - h0.1 + (h1.1 - h.1)) (h.2.1 - h0.2.1 + (h1.2.1 - h.2.1)) Q (F0 m (pc + 3) lsR ((v1.map (a_cv ad)).toList ++ (st.drop n).map (a_cv ad))) := by
    intro H1 locs1 hI1
    rw [e1c, e2c]
    have h9 := K H1 locs1 lsR hI1 hL
    have h8 : (v1.map (a_cv ad)).toList ++ (st.drop n).map (a_cv ad) = (v1.toList ++ st.drop n).map (a_cv ad) := by cases v1 <;> simp
    rw [h8]
    exact h9
  rcases hcase with ⟨hd, hc, hna⟩ | ⟨hd, hc, hna, hrc⟩ | ⟨hd, hc, hna, hrc⟩
  · obtain ⟨p1, p2, p3, p4, hq⟩ := a_cal_in hc
    obtain ⟨⟨⟨w1, w2⟩, w3⟩, hlt⟩ := a_cchk_0 hq
    obtain ⟨-, a2, a3, a4⟩ := a_arity hlt
    have hG : GoodIn (a_ws mid) (va_wsS (a_cname (a_own mid)) idx (a_name mid2) (a_ws mid2)) := by
      intro w hw
      rcases List.mem_append.mp hw with hw | hw
      · simp only [List.mem_cons, List.not_mem_nil, or_false] at hw
        rcases hw with rfl | rfl | rfl
        · exact ⟨List.mem_cons_of_mem _ (a_at_in w1 rfl), Or.inl rfl⟩
        · exact ⟨List.mem_cons_of_mem _ (a_at_in w2 rfl), Or.inl rfl⟩
        · exact ⟨List.mem_cons_of_mem _ (a_at_in w3 rfl), Or.inl rfl⟩
      · exact a_good hlt w hw
    refine (a_after (va_runS (rest := (st.drop n).map (a_cv ad)) (As := (st.take n).reverse.map (a_cv ad)) (g := F0 m pc lsR (st.map (a_cv ad))) hS (hM hlt H.size) (va_cwS (a_nar mid2) F.2.2.2.2.1 hG rfl rfl rfl ⟨a2.1, a2.2, a3⟩ ⟨hfr, by show 8 + (a_maxL mid2 + 11) + 60 * d ≤ _; omega⟩) ⟨a_Pc_blind, hpre⟩ rfl (by rw [List.length_map, List.length_reverse, List.length_take]; omega) (hml.symm.trans F.2.2.1) (by rw [hrev]; exact hstk) hW hd hf) hI F.2.2.2.2.2.2.2.1 hm kk) T hT X
  · obtain ⟨p1, p2, p3, p4, hq⟩ := a_cal_in hc
    obtain ⟨⟨⟨⟨w1, w2⟩, w3⟩, w4⟩, hlt⟩ := a_cchk_1 hq
    obtain ⟨-, a2, a3, a4⟩ := a_arity hlt
    obtain ⟨b, hb, hcell⟩ := a_recv F hI hlt hrc
    have hG : GoodIn (a_ws mid) (wsV (a_cname (a_own mid)) idx (a_name mid2).cls (a_name mid2) (a_ws mid2)) := by
      intro w hw
      rcases List.mem_append.mp hw with hw | hw
      · simp only [List.mem_cons, List.not_mem_nil, or_false] at hw
        rcases hw with rfl | rfl | rfl | rfl
        · exact ⟨List.mem_cons_of_mem _ (a_at_in w1 rfl), Or.inl rfl⟩
        · exact ⟨List.mem_cons_of_mem _ (a_at_in w2 rfl), Or.inl rfl⟩
        · exact ⟨List.mem_cons_of_mem _ (a_at_in w3 rfl), Or.inl rfl⟩
        · exact ⟨List.mem_cons_of_mem _ (a_at_in w4 rfl), Or.inl rfl⟩
      · exact a_good hlt w hw
    have htk : st.take n = st.take (a_nar mid2) ++ [.ref b] := by rw [hna, List.take_add_one, hb]; rfl
    have hargs : (st.take n).reverse.map (a_cv ad) = .ref (ad b) :: (st.take (a_nar mid2)).reverse.map (a_cv ad) := by rw [htk]; simp [a_cv]
    rw [hargs] at hpre
    have hstk2 : st.map (a_cv ad) = ((st.take (a_nar mid2)).reverse.map (a_cv ad)).reverse ++ .ref (ad b) :: (st.drop n).map (a_cv ad) := by
      rw [hstk, htk, List.map_append, ← List.map_reverse, List.reverse_reverse, List.append_assoc]
      rfl
    refine (a_after (va_runV (rest := (st.drop n).map (a_cv ad)) (As := (st.take (a_nar mid2)).reverse.map (a_cv ad)) (b := ad b) (g := F0 m pc lsR (st.map (a_cv ad))) hS (hM hlt H.size) (cwV (a_nar mid2) F.2.2.2.2.1 hG rfl rfl rfl ⟨rfl, a2.1, a2.2, a3⟩ ⟨hfr, by show 8 + (a_maxL mid2 + 11) + 60 * d ≤ _; omega⟩) ⟨a_Pc_blind, hcell, hpre⟩ rfl (by rw [List.length_map, List.length_reverse, List.length_take]; omega) (hml.symm.trans F.2.2.1) hstk2 hW hd hf) hI F.2.2.2.2.2.2.2.1 hm kk) T hT X
  · have hlt : mid2 < a_ms.length := by
      rcases hc with hc | hc
      · obtain ⟨p1, p2, p3, p4, hq⟩ := a_cal_in hc
        exact (a_cchk_2 hq).2
      · obtain ⟨p1, p2, p3, p4, hq⟩ := a_cal_in hc
        exact (a_cchk_7 hq).2
    obtain ⟨-, a2, a3, a4⟩ := a_arity hlt
    obtain ⟨b, hb, hcell⟩ := a_recv F hI hlt hrc
    have htk : st.take n = st.take (a_nar mid2) ++ [.ref b] := by rw [hna, List.take_add_one, hb]; rfl
    have hargs : (st.take n).reverse.map (a_cv ad) = .ref (ad b) :: (st.take (a_nar mid2)).reverse.map (a_cv ad) := by rw [htk]; simp [a_cv]
    rw [hargs] at hpre
    have hstk2 : st.map (a_cv ad) = ((st.take (a_nar mid2)).reverse.map (a_cv ad)).reverse ++ .ref (ad b) :: (st.drop n).map (a_cv ad) := by
      rw [hstk, htk, List.map_append, ← List.map_reverse, List.reverse_reverse, List.append_assoc]
      rfl
    rcases hc with hc | hc
    · obtain ⟨p1, p2, p3, p4, hq⟩ := a_cal_in hc
      obtain ⟨⟨⟨⟨⟨w1, w2⟩, w3⟩, w4⟩, w5⟩, -⟩ := a_cchk_2 hq
      have hws : a_ws mid2 = Cond.code (a_name mid2) (a_code mid2) (a_maxL mid2) none :: a_tb := by unfold a_ws; rw [w5]
      refine (a_after (va_runI (rest := (st.drop n).map (a_cv ad)) (As := (st.take (a_nar mid2)).reverse.map (a_cv ad)) (b := ad b) (g := F0 m pc lsR (st.map (a_cv ad))) hS (hM hlt H.size) (cwI (a_nar mid2) F.2.2.2.2.1 (a_good hlt) hws rfl rfl (F.w (a_at_in w3 rfl)) (F.w (a_at_in w1 rfl)) (F.w (a_at_in w2 rfl)) w4 ⟨a2.1, a2.2, a3⟩ ⟨hfr, by show 8 + (a_maxL mid2 + 11) + 60 * d ≤ _; omega⟩) ⟨a_Pc_blind, hpre⟩ rfl (by rw [List.length_map, List.length_reverse, List.length_take]; omega) (hml.symm.trans F.2.2.1) hstk2 hW hd hf) hI F.2.2.2.2.2.2.2.1 hm kk) T hT X
    · obtain ⟨p1, p2, p3, p4, hq⟩ := a_cal_in hc
      obtain ⟨⟨⟨⟨⟨w1, w2⟩, w3⟩, w4⟩, w5⟩, -⟩ := a_cchk_7 hq
      have hws : a_ws mid2 = Cond.code (a_name mid2) (a_code mid2) (a_maxL mid2) none :: a_tb := by unfold a_ws; rw [w5]
      have hnst : (a_cname (a_own mid), idx, a_name mid2) ∈ a_nst := by
        unfold a_cal at hc
        cases hl : a_look a_cl (a_own mid) idx with
        | none => rw [hl] at hc; cases hc
        | some e9 =>
          rw [hl] at hc
          obtain ⟨e1, e2, e3⟩ := e9
          cases hc
          have h9 := of_decide_eq_true (List.all_eq_true.mp a_nst_ok _ (a_look_in hl))
          exact h9 rfl
      refine (a_after (va_runIN (rest := (st.drop n).map (a_cv ad)) (As := (st.take (a_nar mid2)).reverse.map (a_cv ad)) (b := ad b) (g := F0 m pc lsR (st.map (a_cv ad))) hS (hM hlt H.size) ⟨va_cnB (a_nar mid2) F.2.2.2.2.1 (a_good hlt) hws rfl rfl (F.2.2.2.2.2.2.1.2.2.2.2.2.1 _ hnst) (F.w (a_at_in w3 rfl)) ⟨a2.1, a2.2, a3⟩ ⟨hfr, by show 8 + (a_maxL mid2 + 11) + 60 * d ≤ _; omega⟩, w4, F.w (a_at_in w2 rfl)⟩ ⟨a_Pc_blind, hpre⟩ rfl (by rw [List.length_map, List.length_reverse, List.length_take]; omega) (hml.symm.trans F.2.2.1) hstk2 hW hd hf) hI F.2.2.2.2.2.2.2.1 hm kk) T hT X
theorem x_ret (F : a_Fx p R s m args meth c D ca ad A mid d) {free : Addr → Prop} (hrt : meth.sig.returnType = a_ret mid) (hlocks : meth.locks = false) {pc : Nat} {ls st : List Value} {h hr : aH} {v0 : Option Value} (hs : a_step mid (pc, ls, st, h) = some (.inr (.inr (v0, hr)))) (hfree : ∀ q, A q → free q) (hA2 : A = va_A (a_W ca ad h0) s.heap.size) :
    a_K p l e R s m args below meth c (MQ below (a_Qc D ca ad h0 s.heap.size v0 hr) args s (hr.1 - h0.1) (hr.2.1 - h0.2.1) free) D ca ad A h0 (pc, ls, st, h) := by
  obtain ⟨rfl, hcase⟩ := a_step_ret hs
  intro H locs lsR hI hL
  obtain ⟨i1, i2, i3, i4, i5, i6, i7⟩ := (show a_Inv D ca ad A s h0 hr H locs from hI)
  have hq : ∀ (t : State), t.heap = H → ∀ w, w = v0.map (a_cv ad) → a_Qc D ca ad h0 s.heap.size v0 hr args s (.returned w) t := by
    rintro t ht w rfl
    exact ⟨⟨rfl, i1, by rw [ht]; exact i4, by rw [← hA2]; exact i5⟩, by rw [← hA2]; exact i6.F ht⟩
  have hf : ∀ q ∈ locs, free q.base := fun q h => hfree _ (i6.2.2 q h)
  rcases hcase with ⟨v, rfl, rfl, hv, hd⟩ | ⟨x, rfl, rfl, hv, hd⟩ | ⟨v, rfl, rfl, hv, ho, hd⟩ | ⟨rfl, rfl, hv, hd⟩
  · unfold a_rets at hv
    split at hv
    · rename_i x hr2
      exact W.zret (v := x) (ty := .int) F.1 F.2.1 (hrt.trans hr2) rfl (fun t ht _ => hq t ht _ rfl) hf hd
    · rename_i x hr2
      have h2 := of_decide_eq_true hv
      exact W.zret (v := x) (ty := .boolean) F.1 F.2.1 (hrt.trans hr2) (by rcases h2 with rfl | rfl <;> rfl) (fun t ht _ => hq t ht _ rfl) hf hd
    · rename_i x hr2
      have h2 := of_decide_eq_true hv
      exact W.zret (v := x) (ty := .char) F.1 F.2.1 (hrt.trans hr2) (by rw [h2]; exact pk_nc x) (fun t ht _ => hq t ht _ rfl) hf hd
    · rename_i x hr2
      have h2 := of_decide_eq_true hv
      exact W.zret (v := x) (ty := .byte) F.1 F.2.1 (hrt.trans hr2) (by rw [h2]; exact pk_nb x) (fun t ht _ => hq t ht _ rfl) hf hd
    · cases hv
  · exact W.lret (v := x) F.1 F.2.1 (hrt.trans hv) (fun t ht _ => hq t ht _ rfl) hf hd
  · cases hr2 : a_ret mid with
    | none => rw [hr2] at ho; cases ho
    | some ty =>
      rw [hr2] at ho
      cases ty <;> first | (cases ho; done) | skip
      rename_i nm
      refine W.aret (v := a_cv ad v) F.1 F.2.1 (hrt.trans hr2) (Or.inl ⟨nm, rfl⟩) (by rcases hv with rfl | ⟨a, rfl⟩ <;> first | exact Or.inl rfl | exact Or.inr ⟨_, rfl⟩) (fun t ht _ => hq t ht _ rfl) hf hd
  · exact W.vret F.1 F.2.1 (hrt.trans hv) (fun t ht _ => hq t ht _ rfl) hf hd
theorem x_run (F : a_Fx p R s m args meth c D ca ad A mid d) {free : Addr → Prop} {v' : Option Value} {h' : aH} (hrt : meth.sig.returnType = a_ret mid) (hlocks : meth.locks = false) (hfree : ∀ q, A q → free q) (hA2 : A = va_A (a_W ca ad h0) s.heap.size)
    (hB : h'.1 - h0.1 ≤ R.cells ∧ h'.2.1 - h0.2.1 ≤ R.slots)
    (IH : ∀ (mid2 : Nat) (args2 : List Value) (h : aH) (v1 : Option Value) (h1 : aH), a_cl_ d mid2 args2 h v1 h1 → mid2 < a_ms.length → ∀ sz, Met l (a_name mid2) (a_ws mid2) (a_rm d (h1.1 - h.1) (h1.2.1 - h.2.1)) (a_Pc D ca ad sz args2 h) (a_Qc D ca ad h sz v1 h1) (h1.1 - h.1) (h1.2.1 - h.2.1) (va_A (a_W ca ad h) sz)) :
    ∀ (n : Nat) (z : aS), a_run (a_cl_ d) mid n z v' h' → a_K p l e R s m args below meth c (MQ below (a_Qc D ca ad h0 s.heap.size v' h') args s (h'.1 - h0.1) (h'.2.1 - h0.2.1) free) D ca ad A h0 z := by
  intro n
  induction n with
  | zero => intro z hz; exact hz.elim
  | succ n ih =>
    rintro ⟨pc, ls, st, h⟩ hz
    have hm0 := a_run_mono (a_cl_mono d) (n + 1) _ _ _ hz
    have hm0 : h.1 ≤ h'.1 ∧ h.2.1 ≤ h'.2.1 := hm0
    cases hs : a_step mid (pc, ls, st, h) with
    | none => simp only [a_run, hs] at hz
    | some r =>
      rcases r with z2 | ⟨mid2, args2, z2⟩ | ⟨v0, hr⟩
      · simp only [a_run, hs] at hz
        have hm := a_run_mono (a_cl_mono d) n _ _ _ hz
        refine x_step F (by omega) ?_ hs (ih z2 hz)
        omega
      · simp only [a_run, hs] at hz
        obtain ⟨v1, h1, hc, hz⟩ := hz
        have hm := a_run_mono (a_cl_mono d) n _ _ _ hz
        have hm : h1.1 ≤ h'.1 ∧ h1.2.1 ≤ h'.2.1 := hm
        obtain ⟨idx, n', -, -, hzz, -⟩ := a_step_call hs
        have hz4 : z2.2.2.2 = h := by rw [hzz]
        rw [hz4] at hc
        exact x_call F hs (a_cl_mono d _ _ _ _ _ hc) (by omega) (IH _ _ _ _ _ hc) (ih _ hz)
      · simp only [a_run, hs] at hz
        obtain ⟨rfl, rfl⟩ := hz
        exact x_ret F hrt hlocks hs hfree hA2
end
set_option maxHeartbeats 4000000 in
/-- EVERY METHOD: what the abstract machine says of a call, the machine does -/
theorem a_met (l : Launch) : ∀ (d mid : Nat) (args : List Value) (h : aH) (v : Option Value) (h' : aH), a_cl_ d mid args h v h' → mid < a_ms.length → ∀ (D : va_G) (ca : Nat → ClassId) (ad : Nat → Nat) (sz : Nat),
    Met l (a_name mid) (a_ws mid) (a_rm d (h'.1 - h.1) (h'.2.1 - h.2.1)) (a_Pc D ca ad sz args h) (a_Qc D ca ad h sz v h') (h'.1 - h.1) (h'.2.1 - h.2.1) (va_A (a_W ca ad h) sz) := by
  intro d
  induction d with
  | zero => intro mid args h v h' hc; exact hc.elim
  | succ d IH =>
    rintro mid args h v h' ⟨hlen, n, hrun⟩ hlt D ca ad sz
    refine Met.ofW (cc := a_code mid) (maxL := a_maxL mid) (ret := a_ret mid) (a_arity hlt).1 rfl ?_
    intro p e s m args' below meth c s₁ B hml hv
    obtain ⟨rfl, hsz, hwf, hP, hK, hD0, hAd, hCK⟩ := hv
    have hts := atoms_spec (ws := a_ws mid) B.pre
    have hown : s.vm.findClass (a_name mid).cls = some m.cls := findClass_of_methodNamed B.named
    subst hsz
    have hD := hD0.self (sz := s.heap.size)
    have F : a_Fx p (headSpec (a_ws mid) (a_rm (d + 1) (h'.1 - h.1) (h'.2.1 - h.2.1))).room s m (args.map (a_cv ad)).toArray meth c D ca ad (va_A (a_W ca ad h) s.heap.size) mid d :=
      ⟨B.exec, B.bytes, hml, hown, hts, hK, hCK, fun q hq => Or.inr hq, hlt, fun hi => (name_of_methodNamed B.named B.method).1.trans ((a_own_eq hlt).2 hi), Nat.le_refl _, Nat.le_refl _⟩
    rw [lg_entry_eq]
    have h9 := x_run (l := l) (e := e) (below := below) (h0 := h) F (free := va_A (a_W ca ad h) s.heap.size) B.returns B.notSynchronized (fun _ hq => hq) rfl ⟨Nat.le_refl _, Nat.le_refl _⟩ (fun mid2 args2 h v1 h1 hc hl sz => IH mid2 args2 h v1 h1 hc hl D ca ad sz) n (0, a_entry mid args, [], h) hrun
    have h8 := h9 s.heap [] _ ⟨hwf, Nat.le_refl _, Nat.le_refl _, hP, hD, va_S.rf, hAd⟩ (a_lo_entry ad hlen)
    dsimp only at h8
    rw [Nat.sub_self, Nat.sub_self] at h8
    exact h8
