/-! the law: two calls, their answers equal, and back to the loop's head -/
section
variable {p : Program} {l : Launch} {e : Env} {s : State} {m : MethodId} {below : List Frame} {meth : Method} {c : Code} {b : Nat} {G : va_G} {ca adK : Nat → Nat}
def lw_S (s : State) (G : va_G) (ca ad1 ad2 : Nat → Nat) (h1 h2 : aH) (H : Heap) (locs : List Loc) : Prop :=
  aWF h1 ∧ aWF h2 ∧ va_P G vwCl (a_W ca ad1 h1 ++ a_W ca ad2 h2) H ∧ va_D (fun q : Nat => s.heap.size ≤ q) (a_W ca ad1 h1 ++ a_W ca ad2 h2) ∧ va_S (fun q : Nat => s.heap.size ≤ q) s.heap H locs
/-- from the loop's head at i, the law comes to its end -/
def lw_G (p : Program) (l : Launch) (e : Env) (s : State) (m : MethodId) (b : Nat) (below : List Frame) (meth : Method) (c : Code) (G : va_G) (ca : Nat → Nat) (pc i : Nat) : Prop :=
  ∀ (Z : Nat → Nat) (D : Nat → Nat → Nat) (tx : Nat → Nat → List Nat) (tp so sz : Nat → Nat) (it : Nat → Nat → Int32) (ad1 ad2 : Nat → Nat) (h1 h2 : aH) (H : Heap) (locs : List Loc) (ls : Array Slot), RK lw_T1 Z D tx tp so sz it h1 → RMh lw_T2 Z D tx tp so sz it h2 → lw_S s G ca ad1 ad2 h1 h2 H locs →
    lv_has ls 4 [(0, .ref b), (1, .ref (ad1 0)), (2, .ref (ad2 0)), (3, .int (nI i))] → W p l e room_1 s m #[Value.ref b] below meth c H locs (h1.1 + h2.1) (h1.2.1 + h2.2.1) (lw_Z below #[Value.ref b] s) (F0 m pc ls [])
theorem lw_inc (F : lw_Fx p s m c b G ca adK) {i : Nat} (hG : lw_G p l e s m b below meth c G ca 18 (i + 6)) : lw_G p l e s m b below meth c G ca 974 i := by
  intro Z D tx tp so sz it ad1 ad2 h1 h2 H locs ls hk hm hS hl
  refine lv_iinc (v := nI (i + 6)) (lv' := [(3, .int (nI (i + 6))), (0, .ref b), (1, .ref (ad1 0)), (2, .ref (ad2 0))]) F.1 F.2.1 dL_law_974 hl (k := 3) rfl (nI_add i 6) (by decide) rfl (fun ls hl => ?_)
  refine lv_goto (tgt := 18) F.1 F.2.1 dL_law_977 (by decide) ?_
  exact hG Z D tx tp so sz it ad1 ad2 h1 h2 H locs ls hk hm hS (lv_sub hl [1, 2, 3, 0] rfl)
theorem lw_two (F : lw_Fx p s m c b G ca adK) {i mC mM pa pb ic im q1 q2 q3 q4 r1 r2 r3 r4 : Nat} {As : List Value} (hop : lw_op mC mM As) (hcC : lw_chk (ic, mC, q1, q2, q3, q4) = true) (hcM : lw_chk (im, mM, r1, r2, r3, r4) = true) (hoC : a_own mC = 6) (hoM : a_own mM = 7) (hnC : As.length = a_nar mC) (hnM : As.length = a_nar mM) (hA : ∀ f, As.map (a_cv f) = As)
    (hdC : decode code pa = .ok (.invokevirtual ic, 3)) (hdM : decode code pb = .ok (.invokevirtual im, 3)) {off : Int} (hde : decode code (pb + 3) = .ok (.if_icmp .eq off, 3)) (hto : ((pb + 3 : Nat) : Int) + off = ((974 : Nat) : Int)) (hfin : lw_G p l e s m b below meth c G ca 974 i)
    {Z : Nat → Nat} {D : Nat → Nat → Nat} {tx : Nat → Nat → List Nat} {tp so sz : Nat → Nat} {it : Nat → Nat → Int32} {ad1 ad2 : Nat → Nat} {h1 h2 : aH} {H : Heap} {locs : List Loc} {ls : Array Slot} (hk : RK lw_T1 Z D tx tp so sz it h1) (hm : RMh lw_T2 Z D tx tp so sz it h2) (hS : lw_S s G ca ad1 ad2 h1 h2 H locs)
    (hl : lv_has ls 4 [(0, .ref b), (1, .ref (ad1 0)), (2, .ref (ad2 0)), (3, .int (nI i))])
    (hmid : ∀ (r : Int32) (H : Heap) (locs : List Loc) (cells slots : Nat), va_S (fun q : Nat => s.heap.size ≤ q) s.heap H locs → W p l e room_1 s m #[Value.ref b] below meth c H locs cells slots (lw_Z below #[Value.ref b] s) (F0 m pb ls (As.reverse ++ .ref (ad2 0) :: [.int r])) → W p l e room_1 s m #[Value.ref b] below meth c H locs cells slots (lw_Z below #[Value.ref b] s) (F0 m (pa + 3) ls [.int r])) :
    W p l e room_1 s m #[Value.ref b] below meth c H locs (h1.1 + h2.1) (h1.2.1 + h2.2.1) (lw_Z below #[Value.ref b] s) (F0 m pa ls (As.reverse ++ .ref (ad1 0) :: [])) := by
  obtain ⟨r, Z', D', tx', tp', so', sz', it', ⟨v1, h1', hc1, hv1, hk'⟩, ⟨v2, h2', hc2, hv2, hm'⟩⟩ := hop Z D tx tp so sz it h1 h2 hk hm
  subst hv1; subst hv2
  obtain ⟨w1, w2, hP, hD, hSS⟩ := hS
  obtain ⟨ho, ⟨hn1, ht1, -⟩, hK1, hcl1, -⟩ := id hk
  obtain ⟨ho', ⟨hn1', ht1', -⟩, hK1', hcl1', -⟩ := id hk'
  obtain ⟨⟨hn2, ht2⟩, hK2, hcl2, -⟩ := id hm
  obtain ⟨⟨hn2', ht2'⟩, hK2', hcl2', -⟩ := id hm'
  have z1 : Z 1 ≤ 4 := ho.2.1.1
  have z1' : Z' 1 ≤ 4 := ho'.2.1.1
  have mo1 := a_cl_mono _ _ _ _ _ _ hc1
  have mo2 := a_cl_mono _ _ _ _ _ _ hc2
  have eT1 : lw_T1 = 8074 := rfl
  have eT2 : lw_T2 = 47312 := rfl
  have b1 : h1.1 + h2.1 + (h1'.1 - h1.1) = h1'.1 + h2.1 := by omega
  have b2 : h1.2.1 + h2.2.1 + (h1'.2.1 - h1.2.1) = h1'.2.1 + h2.2.1 := by omega
  refine lw_call F hdC hcC hl.1 hnC hA hc1 (by decide) (by rw [hn1]; exact hcl1) (by rw [hoC]; exact (cP0 hK1).1) (by omega) w1 hP hD hSS ⟨by rw [b1]; omega, by rw [b2]; omega⟩ (by decide) (fun ad' H1 locs1 e1 w1' hP1 hD1 hS1 => ?_)
  rw [b1, b2]
  refine hmid r H1 locs1 _ _ hS1 ?_
  have b3 : h1'.1 + h2.1 + (h2'.1 - h2.1) = h1'.1 + h2'.1 := by omega
  have b4 : h1'.2.1 + h2.2.1 + (h2'.2.1 - h2.2.1) = h1'.2.1 + h2'.2.1 := by omega
  refine lw_call F hdM hcM hl.1 hnM hA hc2 (by decide) (by rw [hn2]; exact hcl2) (by rw [hoM]; exact mm_0 hK2) (by omega) w2 hP1 hD1 hS1 ⟨by rw [b3]; omega, by rw [b4]; omega⟩ (by show 1 ≤ 8; decide) (fun ad2' H2 locs2 e2 w2' hP2 hD2 hS2 => ?_)
  rw [b3, b4]
  refine lv_icmp_eq (tgt := 974) F.1 F.2.1 hde hto (fun _ => ?_) (fun h => absurd rfl h)
  refine hfin Z' D' tx' tp' so' sz' it' ad' ad2' h1' h2' H2 locs2 ls hk' hm' ⟨w1', w2', hP2, hD2, hS2⟩ ?_
  rw [e1 0 (by omega), e2 0 (by omega)]
  exact hl
end
