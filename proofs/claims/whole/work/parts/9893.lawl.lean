/-! the law: its loop -/
section
variable {p : Program} {l : Launch} {e : Env} {s : State} {m : MethodId} {below : List Frame} {meth : Method} {c : Code} {b : Nat} {G : va_G} {ca adK : Nat → Nat} {L : Nat} {xs : Nat → Int32}
theorem lw_6 {i L : Nat} (hL : L ≤ 3072) (hi : i ≤ L + 6) : nI L - nI 6 < nI i ↔ L < i + 6 := by
  have a1 : (nI L).toInt = (L : Int) := nI_toInt (by omega)
  have a2 : (nI 6).toInt = (6 : Int) := nI_toInt (by omega)
  have a3 : (nI i).toInt = (i : Int) := nI_toInt (by omega)
  rw [Int32.lt_iff_toInt_lt, z_subI (by omega) (by omega), a1, a2, a3]
  omega
theorem lw_sw (F : lw_Fx p s m c b G ca adK) (hX : va_X b L xs s s.heap) (hbl : b < s.heap.size) (hL : L ≤ 3072) {i : Nat} (hi : i + 6 ≤ L) (hG : lw_G p l e s m b below meth c G ca 974 i)
    {Z : Nat → Nat} {D : Nat → Nat → Nat} {tx : Nat → Nat → List Nat} {tp so sz : Nat → Nat} {it : Nat → Nat → Int32} {ad1 ad2 : Nat → Nat} {h1 h2 : aH} {H : Heap} {locs : List Loc} {ls : Array Slot} (hk : RK lw_T1 Z D tx tp so sz it h1) (hm : RMh lw_T2 Z D tx tp so sz it h2) (hS : lw_S s G ca ad1 ad2 h1 h2 H locs)
    (hl : lv_has ls 4 [(0, .ref b), (1, .ref (ad1 0)), (2, .ref (ad2 0)), (3, .int (nI i))]) {x : Int32} :
    W p l e room_1 s m #[Value.ref b] below meth c H locs (h1.1 + h2.1) (h1.2.1 + h2.2.1) (lw_Z below #[Value.ref b] s) (F0 m 33 ls [.int x]) := by
  by_cases hx : x.toInt < 0 ∨ 27 < x.toInt
  · exact lv_tableOut (tgt := 974) F.1 F.2.1 dL_law_33 hx (by decide) (hG Z D tx tp so sz it ad1 ad2 h1 h2 H locs ls hk hm hS hl)
  · have hx1 : ¬ x.toInt < 0 := fun h => hx (Or.inl h)
    have hx2 : ¬ 27 < x.toInt := fun h => hx (Or.inr h)
    have hx3 : x.toInt = 0 ∨ x.toInt = 1 ∨ x.toInt = 2 ∨ x.toInt = 3 ∨ x.toInt = 4 ∨ x.toInt = 5 ∨ x.toInt = 6 ∨ x.toInt = 7 ∨ x.toInt = 8 ∨ x.toInt = 9 ∨ x.toInt = 10 ∨ x.toInt = 11 ∨ x.toInt = 12 ∨ x.toInt = 13 ∨ x.toInt = 14 ∨ x.toInt = 15 ∨ x.toInt = 16 ∨ x.toInt = 17 ∨ x.toInt = 18 ∨ x.toInt = 19 ∨ x.toInt = 20 ∨ x.toInt = 21 ∨ x.toInt = 22 ∨ x.toInt = 23 ∨ x.toInt = 24 ∨ x.toInt = 25 ∨ x.toInt = 26 ∨ x.toInt = 27 := by omega
    rcases hx3 with hx3 | hx3 | hx3 | hx3 | hx3 | hx3 | hx3 | hx3 | hx3 | hx3 | hx3 | hx3 | hx3 | hx3 | hx3 | hx3 | hx3 | hx3 | hx3 | hx3 | hx3 | hx3 | hx3 | hx3 | hx3 | hx3 | hx3 | hx3
    · exact lv_tableIn (off := 127) (tgt := 160) F.1 F.2.1 dL_law_33 hx1 hx2 (by rw [hx3]; rfl) (by decide) (lw_k0 F hX hbl hL hi hG Z D tx tp so sz it ad1 ad2 h1 h2 H locs ls hk hm hS hl)
    · exact lv_tableIn (off := 170) (tgt := 203) F.1 F.2.1 dL_law_33 hx1 hx2 (by rw [hx3]; rfl) (by decide) (lw_k1 F hX hbl hL hi hG Z D tx tp so sz it ad1 ad2 h1 h2 H locs ls hk hm hS hl)
    · exact lv_tableIn (off := 213) (tgt := 246) F.1 F.2.1 dL_law_33 hx1 hx2 (by rw [hx3]; rfl) (by decide) (lw_k2 F hX hbl hL hi hG Z D tx tp so sz it ad1 ad2 h1 h2 H locs ls hk hm hS hl)
    · exact lv_tableIn (off := 246) (tgt := 279) F.1 F.2.1 dL_law_33 hx1 hx2 (by rw [hx3]; rfl) (by decide) (lw_k3 F hX hbl hL hi hG Z D tx tp so sz it ad1 ad2 h1 h2 H locs ls hk hm hS hl)
    · exact lv_tableIn (off := 259) (tgt := 292) F.1 F.2.1 dL_law_33 hx1 hx2 (by rw [hx3]; rfl) (by decide) (lw_k4 F hX hbl hL hi hG Z D tx tp so sz it ad1 ad2 h1 h2 H locs ls hk hm hS hl)
    · exact lv_tableIn (off := 322) (tgt := 355) F.1 F.2.1 dL_law_33 hx1 hx2 (by rw [hx3]; rfl) (by decide) (lw_k5 F hX hbl hL hi hG Z D tx tp so sz it ad1 ad2 h1 h2 H locs ls hk hm hS hl)
    · exact lv_tableIn (off := 335) (tgt := 368) F.1 F.2.1 dL_law_33 hx1 hx2 (by rw [hx3]; rfl) (by decide) (lw_k6 F hX hbl hL hi hG Z D tx tp so sz it ad1 ad2 h1 h2 H locs ls hk hm hS hl)
    · exact lv_tableIn (off := 358) (tgt := 391) F.1 F.2.1 dL_law_33 hx1 hx2 (by rw [hx3]; rfl) (by decide) (lw_k7 F hX hbl hL hi hG Z D tx tp so sz it ad1 ad2 h1 h2 H locs ls hk hm hS hl)
    · exact lv_tableIn (off := 371) (tgt := 404) F.1 F.2.1 dL_law_33 hx1 hx2 (by rw [hx3]; rfl) (by decide) (lw_k8 F hX hbl hL hi hG Z D tx tp so sz it ad1 ad2 h1 h2 H locs ls hk hm hS hl)
    · exact lv_tableIn (off := 394) (tgt := 427) F.1 F.2.1 dL_law_33 hx1 hx2 (by rw [hx3]; rfl) (by decide) (lw_k9 F hX hbl hL hi hG Z D tx tp so sz it ad1 ad2 h1 h2 H locs ls hk hm hS hl)
    · exact lv_tableIn (off := 417) (tgt := 450) F.1 F.2.1 dL_law_33 hx1 hx2 (by rw [hx3]; rfl) (by decide) (lw_k10 F hX hbl hL hi hG Z D tx tp so sz it ad1 ad2 h1 h2 H locs ls hk hm hS hl)
    · exact lv_tableIn (off := 440) (tgt := 473) F.1 F.2.1 dL_law_33 hx1 hx2 (by rw [hx3]; rfl) (by decide) (lw_k11 F hX hbl hL hi hG Z D tx tp so sz it ad1 ad2 h1 h2 H locs ls hk hm hS hl)
    · exact lv_tableIn (off := 473) (tgt := 506) F.1 F.2.1 dL_law_33 hx1 hx2 (by rw [hx3]; rfl) (by decide) (lw_k12 F hX hbl hL hi hG Z D tx tp so sz it ad1 ad2 h1 h2 H locs ls hk hm hS hl)
    · exact lv_tableIn (off := 496) (tgt := 529) F.1 F.2.1 dL_law_33 hx1 hx2 (by rw [hx3]; rfl) (by decide) (lw_k13 F hX hbl hL hi hG Z D tx tp so sz it ad1 ad2 h1 h2 H locs ls hk hm hS hl)
    · exact lv_tableIn (off := 509) (tgt := 542) F.1 F.2.1 dL_law_33 hx1 hx2 (by rw [hx3]; rfl) (by decide) (lw_k14 F hX hbl hL hi hG Z D tx tp so sz it ad1 ad2 h1 h2 H locs ls hk hm hS hl)
    · exact lv_tableIn (off := 522) (tgt := 555) F.1 F.2.1 dL_law_33 hx1 hx2 (by rw [hx3]; rfl) (by decide) (lw_k15 F hX hbl hL hi hG Z D tx tp so sz it ad1 ad2 h1 h2 H locs ls hk hm hS hl)
    · exact lv_tableIn (off := 545) (tgt := 578) F.1 F.2.1 dL_law_33 hx1 hx2 (by rw [hx3]; rfl) (by decide) (lw_k16 F hX hbl hL hi hG Z D tx tp so sz it ad1 ad2 h1 h2 H locs ls hk hm hS hl)
    · exact lv_tableIn (off := 578) (tgt := 611) F.1 F.2.1 dL_law_33 hx1 hx2 (by rw [hx3]; rfl) (by decide) (lw_k17 F hX hbl hL hi hG Z D tx tp so sz it ad1 ad2 h1 h2 H locs ls hk hm hS hl)
    · exact lv_tableIn (off := 611) (tgt := 644) F.1 F.2.1 dL_law_33 hx1 hx2 (by rw [hx3]; rfl) (by decide) (lw_k18 F hX hbl hL hi hG Z D tx tp so sz it ad1 ad2 h1 h2 H locs ls hk hm hS hl)
    · exact lv_tableIn (off := 624) (tgt := 657) F.1 F.2.1 dL_law_33 hx1 hx2 (by rw [hx3]; rfl) (by decide) (lw_k19 F hX hbl hL hi hG Z D tx tp so sz it ad1 ad2 h1 h2 H locs ls hk hm hS hl)
    · exact lv_tableIn (off := 657) (tgt := 690) F.1 F.2.1 dL_law_33 hx1 hx2 (by rw [hx3]; rfl) (by decide) (lw_k20 F hX hbl hL hi hG Z D tx tp so sz it ad1 ad2 h1 h2 H locs ls hk hm hS hl)
    · exact lv_tableIn (off := 670) (tgt := 703) F.1 F.2.1 dL_law_33 hx1 hx2 (by rw [hx3]; rfl) (by decide) (lw_k21 F hX hbl hL hi hG Z D tx tp so sz it ad1 ad2 h1 h2 H locs ls hk hm hS hl)
    · exact lv_tableIn (off := 683) (tgt := 716) F.1 F.2.1 dL_law_33 hx1 hx2 (by rw [hx3]; rfl) (by decide) (lw_k22 F hX hbl hL hi hG Z D tx tp so sz it ad1 ad2 h1 h2 H locs ls hk hm hS hl)
    · exact lv_tableIn (off := 706) (tgt := 739) F.1 F.2.1 dL_law_33 hx1 hx2 (by rw [hx3]; rfl) (by decide) (lw_k23 F hX hbl hL hi hG Z D tx tp so sz it ad1 ad2 h1 h2 H locs ls hk hm hS hl)
    · exact lv_tableIn (off := 749) (tgt := 782) F.1 F.2.1 dL_law_33 hx1 hx2 (by rw [hx3]; rfl) (by decide) (lw_k24 F hX hbl hL hi hG Z D tx tp so sz it ad1 ad2 h1 h2 H locs ls hk hm hS hl)
    · exact lv_tableIn (off := 792) (tgt := 825) F.1 F.2.1 dL_law_33 hx1 hx2 (by rw [hx3]; rfl) (by decide) (lw_k25 F hX hbl hL hi hG Z D tx tp so sz it ad1 ad2 h1 h2 H locs ls hk hm hS hl)
    · exact lv_tableIn (off := 855) (tgt := 888) F.1 F.2.1 dL_law_33 hx1 hx2 (by rw [hx3]; rfl) (by decide) (lw_k26 F hX hbl hL hi hG Z D tx tp so sz it ad1 ad2 h1 h2 H locs ls hk hm hS hl)
    · exact lv_tableIn (off := 908) (tgt := 941) F.1 F.2.1 dL_law_33 hx1 hx2 (by rw [hx3]; rfl) (by decide) (lw_k27 F hX hbl hL hi hG Z D tx tp so sz it ad1 ad2 h1 h2 H locs ls hk hm hS hl)
theorem lw_loop (F : lw_Fx p s m c b G ca adK) (hr : meth.sig.returnType = ret) (hlocks : meth.locks = false) (hX : va_X b L xs s s.heap) (hbl : b < s.heap.size) (hL : L ≤ 3072) : ∀ (n i : Nat), i ≤ L + 6 → L < i + 6 * (n + 1) → lw_G p l e s m b below meth c G ca 18 i := by
  have hbA : ¬ (fun q : Nat => s.heap.size ≤ q) b := Nat.not_le.mpr hbl
  have hout : ∀ {i : Nat}, i ≤ L + 6 → ¬ i + 6 ≤ L → lw_G p l e s m b below meth c G ca 18 i := by
    intro i hi hn Z D tx tp so sz it ad1 ad2 h1 h2 H locs ls hk hm hS hl
    have hS5 := hS.2.2.2.2
    obtain ⟨ho, ⟨hn1, ht1, -⟩, -⟩ := id hk
    obtain ⟨⟨hn2, ht2⟩, -⟩ := id hm
    have z1 : Z 1 ≤ 4 := ho.2.1.1
    have eT1 : lw_T1 = 8074 := rfl
    have eT2 : lw_T2 = 47312 := rfl
    refine lv_iload_n F.1 F.2.1 dL_law_18 rfl (lv_at hl 3 rfl) ?_
    refine lv_aload_n F.1 F.2.1 dL_law_19 rfl (lv_at hl 0 rfl) ?_
    refine va_slen F.1 F.2.1 hX hbl hbA hS5 dL_law_20 ?_
    refine lv_bipush (v := nI 6) F.1 F.2.1 dL_law_21 (by decide) ?_
    refine lv_isub F.1 F.2.1 dL_law_23 ?_
    refine lv_icmp_gt (tgt := 980) F.1 F.2.1 dL_law_24 (by decide) (fun h => ?_) (fun h => absurd ((lw_6 hL hi).mpr (by omega)) h)
    refine lv_iconst (v := 1) F.1 F.2.1 dL_law_980 (by decide) ?_
    refine va_forget (fun q hq => hS5.2.2 q hq) ?_
    refine W.widen (k := 600000) (n := 7302250) (by omega) (by omega) ?_
    exact lw_ret F.1 F.2.1 hr hlocks dL_law_981
  intro n
  induction n with
  | zero => intro i hi hn; exact hout hi (by omega)
  | succ n ih =>
    intro i hi hn
    by_cases h6 : i + 6 ≤ L
    · intro Z D tx tp so sz it ad1 ad2 h1 h2 H locs ls hk hm hS hl
      have hS5 := hS.2.2.2.2
      refine lv_iload_n F.1 F.2.1 dL_law_18 rfl (lv_at hl 3 rfl) ?_
      refine lv_aload_n F.1 F.2.1 dL_law_19 rfl (lv_at hl 0 rfl) ?_
      refine va_slen F.1 F.2.1 hX hbl hbA hS5 dL_law_20 ?_
      refine lv_bipush (v := nI 6) F.1 F.2.1 dL_law_21 (by decide) ?_
      refine lv_isub F.1 F.2.1 dL_law_23 ?_
      refine lv_icmp_gt (tgt := 980) F.1 F.2.1 dL_law_24 (by decide) (fun h => absurd ((lw_6 hL hi).mp h) (by omega)) (fun h => ?_)
      refine lv_aload_n F.1 F.2.1 dL_law_27 rfl (lv_at hl 0 rfl) ?_
      refine lv_iload_n F.1 F.2.1 dL_law_28 rfl (lv_at hl 3 rfl) ?_
      refine va_sld F.1 F.2.1 hX hbl hbA hS5 (z_in (show i < L by omega) (by omega)) dL_law_29 ?_
      refine lv_bipush (v := 31) F.1 F.2.1 dL_law_30 (by decide) ?_
      refine lv_iand F.1 F.2.1 dL_law_32 ?_
      exact lw_sw F hX hbl hL h6 (lw_inc F (ih (i + 6) (by omega) (by omega))) hk hm hS hl
    · exact hout hi h6
end
