/-! what the E-rules are made of -/
theorem aE_br {call : Nat → List Value → aH → Option Value → aH → Prop} {m : Nat} {s : aS} {t n : Nat} {ls st : List Value} {h : aH} {b : Bool} {P : Prop} {Q : Option Value → aH → Prop} [Decidable P] (hs : a_step m s = some (.inl (if b = true then t else n, ls, st, h))) (hb : b = true ↔ P) : aE call m s Q ↔ if P then aE call m (t, ls, st, h) Q else aE call m (n, ls, st, h) Q := by
  rw [aE_step hs]
  by_cases hp : P
  · rw [if_pos hp, if_pos (hb.mpr hp)]
  · rw [if_neg hp, if_neg (fun g => hp (hb.mp g))]
theorem a_okc {ls : List Value} {j : Nat} {v : Value} (hc : v.category = 1) (hv : ls[j]? = some v := by rfl) : a_ok ls (j + 1) = true := by
  simp only [a_ok, hv, hc]
  rfl
theorem a_ltb {i n : Nat} (h : Nat.ble (i + 1) n = true) : i < n := Nat.le_of_ble_eq_true h
theorem g_set1 {ls : List Value} {i : Nat} {v : Value} (h1 : i < ls.length) (h2 : a_ok ls i = true) : a_set1 ls i v = some (ls.set i v) := if_pos ⟨h1, h2⟩
theorem g_set2 {ls : List Value} {i : Nat} {v : Value} (h1 : i + 1 < ls.length) (h2 : a_ok ls i = true) : a_set2 ls i v = some ((ls.set i v).set (i + 1) a_hole) := if_pos ⟨h1, h2⟩
theorem g_iinc {k pc len : Nat} {n : Int} {ls ls' st : List Value} {h : aH} {x : Int32} (hx : ls[k]? = some (.int x)) (hs : a_set1 ls k (.int (x + Int32.ofInt n)) = some ls') : a_iinc k n pc len ls st h = a_go pc len ls' st h := by
  unfold a_iinc
  rw [hx]
  simp only [hs]
theorem g_stI {k pc len : Nat} {ls ls' st : List Value} {h : aH} {x : Int32} (hs : a_set1 ls k (.int x) = some ls') : a_stI k pc len ls (.int x :: st) h = a_go pc len ls' st h := by
  simp only [a_stI, hs]
theorem g_stL {k pc len : Nat} {ls ls' st : List Value} {h : aH} {x : Int64} (hs : a_set2 ls k (.long x) = some ls') : a_stL k pc len ls (.long x :: st) h = a_go pc len ls' st h := by
  simp only [a_stL, hs]
theorem g_stA {k pc len : Nat} {ls ls' st : List Value} {h : aH} {x : Nat} (hs : a_set1 ls k (.ref x) = some ls') : a_stA k pc len ls (.ref x :: st) h = a_go pc len ls' st h := by
  simp only [a_stA, hs]
theorem g_stAn {k pc len : Nat} {ls ls' st : List Value} {h : aH} (hs : a_set1 ls k .null = some ls') : a_stA k pc len ls (.null :: st) h = a_go pc len ls' st h := by
  simp only [a_stA, hs]
theorem g_tswo {dflt lo hi : Int} {offs : Array Int} {pc : Nat} {ls st : List Value} {h : aH} {x : Int32} {r : aO} (hx : x.toInt < lo ∨ hi < x.toInt) (hr : a_jmp pc dflt ls st h = r) : a_tsw dflt lo hi offs pc ls (.int x :: st) h = r := (if_pos hx).trans hr
theorem g_lsw {dflt : Int} {ps : Array (Int × Int)} {pc : Nat} {ls st : List Value} {h : aH} {x : Int32} {o : Int} {r : aO} (hp : (ps.toList.zip (ps.toList.drop 1)).all (fun (a, next) => a.1 < next.1) = true) (ho : Op.lookupswitch.offset ps.toList dflt x.toInt = o) (hr : a_jmp pc o ls st h = r) : a_lsw dflt ps pc ls (.int x :: st) h = r := by
  unfold a_lsw
  simp only
  rw [if_pos hp, ho]
  exact hr
section
variable {n t : Nat} {sh : Nat → Nat × Nat} {I : Nat → Nat → Int32} {L : Nat → Nat → Int64} {R : Nat → Nat → Option Nat} {pc len m idx a : Nat} {ls st : List Value}
theorem g_al (hk : 100 ≤ (sh a).1 ∧ (sh a).1 < 118) : a_al pc len ls (.ref a :: st) (n, t, sh, I, L, R) = a_go pc len ls (.int (Int32.ofNat (sh a).2) :: st) (n, t, sh, I, L, R) := by
  simp only [a_al, a_alen, hk, and_self, if_true]
theorem g_alc (h0 : ¬ (100 ≤ (sh a).1 ∧ (sh a).1 < 118)) (hk : (a_ck a).1 = 2) : a_al pc len ls (.ref a :: st) (n, t, sh, I, L, R) = a_go pc len ls (.int (Int32.ofNat (a_bytes.getD (a_ck a).2 []).length) :: st) (n, t, sh, I, L, R) := by
  simp only [a_al, a_alen, h0, if_false, hk, if_true]
theorem g_gf {ci k : Nat} {v : Value} {h : aH} (hf : a_fld (a_own m) idx = some (ci, k)) (hk : (h.2.2.1 a).1 = ci) (hv : (match a_fty ci k with
      | 0 => Value.int (h.2.2.2.1 a k)
      | 1 => .int (h.2.2.2.1 a k)
      | 2 => .long (h.2.2.2.2.1 a k)
      | _ => a_ref (h.2.2.2.2.2 a k)) = v) : a_gf m idx pc len ls (.ref a :: st) h = a_go pc len ls (v :: st) h := by
  subst hv
  simp only [a_gf, a_getf, hf, hk, if_true]
  rfl
theorem g_gfi {ci k : Nat} (hf : a_fld (a_own m) idx = some (ci, k)) (ht : a_fty ci k = 0) (hk : (sh a).1 = ci) : a_gf m idx pc len ls (.ref a :: st) (n, t, sh, I, L, R) = a_go pc len ls (.int (I a k) :: st) (n, t, sh, I, L, R) := g_gf hf hk (by rw [ht]; rfl)
theorem g_gfb {ci k : Nat} (hf : a_fld (a_own m) idx = some (ci, k)) (ht : a_fty ci k = 1) (hk : (sh a).1 = ci) : a_gf m idx pc len ls (.ref a :: st) (n, t, sh, I, L, R) = a_go pc len ls (.int (I a k) :: st) (n, t, sh, I, L, R) := g_gf hf hk (by rw [ht]; rfl)
theorem g_gfl {ci k : Nat} (hf : a_fld (a_own m) idx = some (ci, k)) (ht : a_fty ci k = 2) (hk : (sh a).1 = ci) : a_gf m idx pc len ls (.ref a :: st) (n, t, sh, I, L, R) = a_go pc len ls (.long (L a k) :: st) (n, t, sh, I, L, R) := g_gf hf hk (by rw [ht]; rfl)
theorem g_gfr {ci k : Nat} (hf : a_fld (a_own m) idx = some (ci, k)) (ht : a_fty ci k = 3) (hk : (sh a).1 = ci) : a_gf m idx pc len ls (.ref a :: st) (n, t, sh, I, L, R) = a_go pc len ls (a_ref (R a k) :: st) (n, t, sh, I, L, R) := g_gf hf hk (by rw [ht]; rfl)
theorem g_gfs {k : Nat} {h : aH} (hf : a_fld (a_own m) idx = none) (hl : a_look a_sfl (a_own m) idx = some k) (hk : (a_ck a).1 = 1) : a_gf m idx pc len ls (.ref a :: st) h = a_go pc len ls ((if k = 0 then .ref (1000010 + (a_ck a).2) else .int 0) :: st) h := by
  simp only [a_gf, a_getf, hf, hl, hk, if_true]
theorem g_pfi {ci k : Nat} {x : Int32} (hf : a_fld (a_own m) idx = some (ci, k)) (ht : a_fty ci k = 0) (hk : (sh a).1 = ci) (hfin : a_fin ci k = false ∨ (a_ini m = true ∧ a_own m = ci)) : a_pf m idx pc len ls (.int x :: .ref a :: st) (n, t, sh, I, L, R) = a_go pc len ls st (n, t, sh, u2 I a k x, L, R) := by
  simp only [a_pf, a_putf, hf]
  rw [if_pos ⟨hk, hfin⟩, ht]
  rfl
theorem g_pfb {ci k : Nat} {x : Int32} (hf : a_fld (a_own m) idx = some (ci, k)) (ht : a_fty ci k = 1) (hk : (sh a).1 = ci) (hfin : a_fin ci k = false ∨ (a_ini m = true ∧ a_own m = ci)) (hx : x = 0 ∨ x = 1) : a_pf m idx pc len ls (.int x :: .ref a :: st) (n, t, sh, I, L, R) = a_go pc len ls st (n, t, sh, u2 I a k x, L, R) := by
  simp only [a_pf, a_putf, hf]
  rw [if_pos ⟨hk, hfin⟩, ht]
  simp only [hx, if_true]
theorem g_pfl {ci k : Nat} {x : Int64} (hf : a_fld (a_own m) idx = some (ci, k)) (ht : a_fty ci k = 2) (hk : (sh a).1 = ci) (hfin : a_fin ci k = false ∨ (a_ini m = true ∧ a_own m = ci)) : a_pf m idx pc len ls (.long x :: .ref a :: st) (n, t, sh, I, L, R) = a_go pc len ls st (n, t, sh, I, u2 L a k x, R) := by
  simp only [a_pf, a_putf, hf]
  rw [if_pos ⟨hk, hfin⟩, ht]
  rfl
theorem g_pfr {ci k x : Nat} (hf : a_fld (a_own m) idx = some (ci, k)) (ht : a_fty ci k = 3) (hk : (sh a).1 = ci) (hfin : a_fin ci k = false ∨ (a_ini m = true ∧ a_own m = ci)) (hx : x < 1000000) : a_pf m idx pc len ls (.ref x :: .ref a :: st) (n, t, sh, I, L, R) = a_go pc len ls st (n, t, sh, I, L, u2 R a k (some x)) := by
  simp only [a_pf, a_putf, hf]
  rw [if_pos ⟨hk, hfin⟩, ht]
  simp only [hx, if_true]
theorem g_new {ci pl : Nat} (hl : a_look a_nw (a_own m) idx = some (ci, pl)) (hn : n < 1000000) : a_nwo m idx pc len ls st (n, t, sh, I, L, R) = a_go pc len ls (.ref n :: st) (n + 1, t + a_nf ci, u1 sh n (ci, a_nf ci), I, L, R) := by
  simp only [a_nwo, hl, hn, if_true]
  rfl
theorem g_nwa {ty : ArrayType} {kd : Nat} {x : Int32} (hl : a_akind ty = some kd) (hn : n < 1000000) (hx : ¬ x < 0) (hx2 : x.toNatClampNeg ≤ 1000000) : a_nwa ty pc len ls (.int x :: st) (n, t, sh, I, L, R) = a_go pc len ls (.ref n :: st) (n + 1, t + x.toNatClampNeg, u1 sh n (kd, x.toNatClampNeg), I, L, R) := by
  simp only [a_nwa, hl]
  rw [if_pos ⟨hn, hx, hx2⟩]
  rfl
theorem g_nwr {ci pl : Nat} {x : Int32} (hl : a_look a_nw (a_own m) idx = some (ci, pl)) (hn : n < 1000000) (hx : ¬ x < 0) (hx2 : x.toNatClampNeg ≤ 1000000) (hc : ci = 0 ∨ ci = 4 ∨ ci = 5) : a_nwr m idx pc len ls (.int x :: st) (n, t, sh, I, L, R) = a_go pc len ls (.ref n :: st) (n + 1, t + x.toNatClampNeg, u1 sh n (110 + ci, x.toNatClampNeg), I, L, R) := by
  simp only [a_nwr, hl]
  rw [if_pos ⟨hn, hx, hx2, hc⟩]
  rfl
theorem g_iaload {x : Int32} (hk : (sh a).1 = 100) (hx : vp_in x (sh a).2) : a_ld .iaload pc len ls (.int x :: .ref a :: st) (n, t, sh, I, L, R) = a_go pc len ls (.int (I a x.toNatClampNeg) :: st) (n, t, sh, I, L, R) := by
  simp only [a_ld, a_aload]
  rw [if_pos hk, if_neg hx]
theorem g_laload {x : Int32} (hk : (sh a).1 = 101) (hx : vp_in x (sh a).2) : a_ld .laload pc len ls (.int x :: .ref a :: st) (n, t, sh, I, L, R) = a_go pc len ls (.long (L a x.toNatClampNeg) :: st) (n, t, sh, I, L, R) := by
  simp only [a_ld, a_aload]
  rw [if_pos hk, if_neg hx]
theorem g_caload {x : Int32} (hk : (sh a).1 = 102) (hx : vp_in x (sh a).2) : a_ld .caload pc len ls (.int x :: .ref a :: st) (n, t, sh, I, L, R) = a_go pc len ls (.int (I a x.toNatClampNeg) :: st) (n, t, sh, I, L, R) := by
  simp only [a_ld, a_aload]
  rw [if_pos hk, if_neg hx]
theorem g_above {x : Int32} (h0 : ¬ (sh 1000020).1 = 100) (hx : vp_in x 6) : a_ld .iaload pc len ls (.int x :: .ref 1000020 :: st) (n, t, sh, I, L, R) = a_go pc len ls (.int (a_above.getD x.toNatClampNeg 0) :: st) (n, t, sh, I, L, R) := by
  simp only [a_ld, a_aload]
  rw [if_neg h0, if_pos (by rfl), if_neg hx]
theorem g_aaload {x : Int32} (hk : 110 ≤ (sh a).1 ∧ (sh a).1 < 118) (hx : vp_in x (sh a).2) : a_ld .aaload pc len ls (.int x :: .ref a :: st) (n, t, sh, I, L, R) = a_go pc len ls (a_ref (R a x.toNatClampNeg) :: st) (n, t, sh, I, L, R) := by
  simp only [a_ld, a_aload]
  rw [if_pos hk, if_neg hx]
theorem g_baload {x : Int32} {h : aH} (hk : (a_ck a).1 = 2) (hx : vp_in x (a_bytes.getD (a_ck a).2 []).length) : a_ld .baload pc len ls (.int x :: .ref a :: st) h = a_go pc len ls (.int ((a_bytes.getD (a_ck a).2 []).getD x.toNatClampNeg 0) :: st) h := by
  simp only [a_ld, a_aload]
  rw [if_pos hk, if_neg hx]
theorem g_iastore {x y : Int32} (hk : (sh a).1 = 100) (hx : vp_in x (sh a).2) : a_sv .iastore pc len ls (.int y :: .int x :: .ref a :: st) (n, t, sh, I, L, R) = a_go pc len ls st (n, t, sh, u2 I a x.toNatClampNeg y, L, R) := by
  simp only [a_sv, a_astore]
  rw [if_pos ⟨hk, hx⟩]
theorem g_castore {x y : Int32} (hk : (sh a).1 = 102) (hx : vp_in x (sh a).2) : a_sv .castore pc len ls (.int y :: .int x :: .ref a :: st) (n, t, sh, I, L, R) = a_go pc len ls st (n, t, sh, u2 I a x.toNatClampNeg (vp_nar .char y), L, R) := by
  simp only [a_sv, a_astore]
  rw [if_pos ⟨hk, hx⟩]
theorem g_lastore {x : Int32} {y : Int64} (hk : (sh a).1 = 101) (hx : vp_in x (sh a).2) : a_sv .lastore pc len ls (.long y :: .int x :: .ref a :: st) (n, t, sh, I, L, R) = a_go pc len ls st (n, t, sh, I, u2 L a x.toNatClampNeg y, R) := by
  simp only [a_sv, a_astore]
  rw [if_pos ⟨hk, hx⟩]
theorem g_aastore {x : Int32} {b : Nat} (hk : 110 ≤ (sh a).1 ∧ (sh b).1 + 110 = (sh a).1 ∧ (sh a).1 < 118) (hx : vp_in x (sh a).2) : a_sv .aastore pc len ls (.ref b :: .int x :: .ref a :: st) (n, t, sh, I, L, R) = a_go pc len ls st (n, t, sh, I, L, u2 R a x.toNatClampNeg (some b)) := by
  simp only [a_sv, a_astore]
  rw [if_pos ⟨hk.1, hk.2.1, hk.2.2, hx⟩]
theorem g_mm4 {mid : Nat} {x y : Int32} {h : aH} (hl : a_lok2 m ls = true) (hc : a_cal (a_own m) idx = some (4, mid)) (hs : (st.map Value.category).sum ≤ 8) : a_stepI m pc ls (.int y :: .int x :: st) h (.invokestatic idx) 3 = a_go pc 3 ls (.int (if x < y then y else x) :: st) h := by
  show (if a_lok2 m ls = true then a_iS m idx pc ls (.int y :: .int x :: st) h else none) = _
  rw [if_pos hl]
  simp only [a_iS, hc]
  rw [if_pos hs]
theorem g_mm5 {mid : Nat} {x y : Int32} {h : aH} (hl : a_lok2 m ls = true) (hc : a_cal (a_own m) idx = some (5, mid)) (hs : (st.map Value.category).sum ≤ 8) : a_stepI m pc ls (.int y :: .int x :: st) h (.invokestatic idx) 3 = a_go pc 3 ls (.int (if y < x then y else x) :: st) h := by
  show (if a_lok2 m ls = true then a_iS m idx pc ls (.int y :: .int x :: st) h else none) = _
  rw [if_pos hl]
  simp only [a_iS, hc]
  rw [if_pos hs]
theorem g_oi {mid : Nat} {h : aH} (hl : a_lok2 m ls = true) (hc : a_cal (a_own m) idx = some (3, mid)) (hs : (st.map Value.category).sum ≤ 8) : a_stepI m pc ls (.ref a :: st) h (.invokespecial idx) 3 = a_go pc 3 ls st h := by
  show (if a_lok2 m ls = true then a_iI m idx pc ls (.ref a :: st) h else none) = _
  rw [if_pos hl]
  simp only [a_iI, hc]
  rw [if_pos hs]
theorem g_ac {mid b : Nat} {x y z : Int32} (hl : a_lok2 m ls = true) (hc : a_cal (a_own m) idx = some (6, mid)) (h1 : (sh a).1 = 100 ∧ (sh b).1 = 100 ∧ ¬ x < 0 ∧ ¬ y < 0 ∧ ¬ z < 0 ∧ x.toNatClampNeg + z.toNatClampNeg ≤ (sh a).2 ∧ y.toNatClampNeg + z.toNatClampNeg ≤ (sh b).2) :
    a_stepI m pc ls (.int z :: .int y :: .ref b :: .int x :: .ref a :: []) (n, t, sh, I, L, R) (.invokestatic idx) 3 = a_go pc 3 ls [] (n, t, sh, (fun o => if o = b then va_cpy (I a) (I b) x.toNatClampNeg y.toNatClampNeg z.toNatClampNeg else I o), L, R) := by
  show (if a_lok2 m ls = true then a_iS m idx pc ls (.int z :: .int y :: .ref b :: .int x :: .ref a :: []) (n, t, sh, I, L, R) else none) = _
  rw [if_pos hl]
  simp only [a_iS, hc]
  rw [if_pos ⟨h1.1, h1.2.1, h1.2.2.1, h1.2.2.2.1, h1.2.2.2.2.1, h1.2.2.2.2.2.1, h1.2.2.2.2.2.2, by decide⟩]
theorem g_iS {mid k : Nat} {h : aH} (hl : a_lok2 m ls = true) (hc : a_cal (a_own m) idx = some (0, mid)) (hn : a_nar mid = k) (h1 : k ≤ st.length) (h2 : ((st.drop k).map Value.category).sum ≤ 8) : a_stepI m pc ls st h (.invokestatic idx) 3 = some (.inr (.inl (mid, (st.take k).reverse, (pc + 3, ls, st.drop k, h)))) := by
  show (if a_lok2 m ls = true then a_iS m idx pc ls st h else none) = _
  rw [if_pos hl]
  simp only [a_iS, hc, a_call]
  rw [hn, if_pos ⟨h1, h2⟩]
theorem g_iV {mid k : Nat} {h : aH} {v : Value} (hl : a_lok2 m ls = true) (hc : a_cal (a_own m) idx = some (1, mid)) (hn : a_nar mid = k) (hv : st[k]? = some v) (hr : a_rcv mid (some v) h = true) (h1 : k + 1 ≤ st.length) (h2 : ((st.drop (k + 1)).map Value.category).sum ≤ 8) : a_stepI m pc ls st h (.invokevirtual idx) 3 = some (.inr (.inl (mid, (st.take (k + 1)).reverse, (pc + 3, ls, st.drop (k + 1), h)))) := by
  show (if a_lok2 m ls = true then a_iV m idx pc ls st h else none) = _
  rw [if_pos hl]
  simp only [a_iV, hc, a_call]
  rw [hn, hv, if_pos hr, if_pos ⟨h1, h2⟩]
theorem g_iI {mid k : Nat} {h : aH} {v : Value} (hl : a_lok2 m ls = true) (hc : a_cal (a_own m) idx = some (2, mid)) (hn : a_nar mid = k) (hv : st[k]? = some v) (hr : a_rcv mid (some v) h = true) (h1 : k + 1 ≤ st.length) (h2 : ((st.drop (k + 1)).map Value.category).sum ≤ 8) : a_stepI m pc ls st h (.invokespecial idx) 3 = some (.inr (.inl (mid, (st.take (k + 1)).reverse, (pc + 3, ls, st.drop (k + 1), h)))) := by
  show (if a_lok2 m ls = true then a_iI m idx pc ls st h else none) = _
  rw [if_pos hl]
  simp only [a_iI, hc, a_call]
  rw [hn, hv, if_pos hr, if_pos ⟨h1, h2⟩]
theorem g_iN {mid k : Nat} {h : aH} {v : Value} (hl : a_lok2 m ls = true) (hc : a_cal (a_own m) idx = some (7, mid)) (hn : a_nar mid = k) (hv : st[k]? = some v) (hr : a_rcv mid (some v) h = true) (h1 : k + 1 ≤ st.length) (h2 : ((st.drop (k + 1)).map Value.category).sum ≤ 8) : a_stepI m pc ls st h (.invokespecial idx) 3 = some (.inr (.inl (mid, (st.take (k + 1)).reverse, (pc + 3, ls, st.drop (k + 1), h)))) := by
  show (if a_lok2 m ls = true then a_iI m idx pc ls st h else none) = _
  rw [if_pos hl]
  simp only [a_iI, hc, a_call]
  rw [hn, hv, if_pos hr, if_pos ⟨h1, h2⟩]
theorem g_rc {mid b o : Nat} (ho : a_own mid = o) (hk : (sh b).1 = o) : a_rcv mid (some (.ref b)) (n, t, sh, I, L, R) = true := by
  simp only [a_rcv, ho, hk, decide_true, Bool.true_or]
theorem g_rcs {mid b : Nat} {h : aH} (ho : a_own mid = 9) (hk : (a_ck b).1 = 1) : a_rcv mid (some (.ref b)) h = true := by
  simp only [a_rcv, ho, hk, decide_true, Bool.true_and, Bool.or_true]
theorem g_reti {x : Int32} {h : aH} (hr : a_ret m = some .int) : a_rti m [.int x] h = some (.inr (.inr (some (.int x), h))) := by
  simp only [a_rti, a_rets, hr, if_true]
theorem g_retz {x : Int32} {h : aH} (hr : a_ret m = some .boolean) (hx : x = 0 ∨ x = 1) : a_rti m [.int x] h = some (.inr (.inr (some (.int x), h))) := by
  simp only [a_rti, a_rets, hr, hx, decide_true, if_true]
theorem g_retc {x : Int32} {h : aH} (hr : a_ret m = some .char) (hx : x = (x.toUInt32 % 65536).toInt32) : a_rti m [.int x] h = some (.inr (.inr (some (.int x), h))) := by
  simp only [a_rti, a_rets, hr]
  rw [if_pos (decide_eq_true hx)]
theorem g_retb {x : Int32} {h : aH} (hr : a_ret m = some .byte) (hx : x = x.toInt8.toInt32) : a_rti m [.int x] h = some (.inr (.inr (some (.int x), h))) := by
  simp only [a_rti, a_rets, hr]
  rw [if_pos (decide_eq_true hx)]
theorem g_retl {x : Int64} {h : aH} (hr : a_ret m = some .long) : a_rtl m [.long x] h = some (.inr (.inr (some (.long x), h))) := by
  simp only [a_rtl, hr, if_true]
theorem g_reta {x : Nat} {h : aH} (hr : a_isO (a_ret m) = true) : a_rta m [.ref x] h = some (.inr (.inr (some (.ref x), h))) := by
  simp only [a_rta, hr, if_true]
theorem g_retn {h : aH} (hr : a_isO (a_ret m) = true) : a_rta m [.null] h = some (.inr (.inr (some .null, h))) := by
  simp only [a_rta, hr, if_true]
theorem g_retv {h : aH} (hr : a_ret m = none) : a_rtv m [] h = some (.inr (.inr (none, h))) := by
  simp only [a_rtv, hr, if_true]
end
theorem ac_0 : a_code 0 = cX0_opensByKind := rfl
theorem ac_1 : a_code 1 = cX0_beyond := rfl
theorem ac_2 : a_code 2 = cX0_bit := rfl
theorem ac_3 : a_code 3 = cX0_init := rfl
theorem ac_4 : a_code 4 = cX0_opens := rfl
theorem ac_5 : a_code 5 = cX0_next := rfl
theorem ac_6 : a_code 6 = cX0_isOf := rfl
theorem ac_7 : a_code 7 = cX0_isUnder := rfl
theorem ac_8 : a_code 8 = cX1_init := rfl
theorem ac_9 : a_code 9 = cX1_obey := rfl
theorem ac_10 : a_code 10 = cX1_foresee := rfl
theorem ac_11 : a_code 11 = cX1_doorAt := rfl
theorem ac_12 : a_code 12 = cX1_openings := rfl
theorem ac_13 : a_code 13 = cX1_name := rfl
theorem ac_14 : a_code 14 = cX1_hasRoom := rfl
theorem ac_15 : a_code 15 = cX1_add := rfl
theorem ac_16 : a_code 16 = cX1_highestRoomOfDoors := rfl
theorem ac_17 : a_code 17 = cX1_opens := rfl
theorem ac_18 : a_code 18 = cX1_keyState := rfl
theorem ac_19 : a_code 19 = cX1_openDoors := rfl
theorem ac_20 : a_code 20 = cX1_behind := rfl
theorem ac_21 : a_code 21 = cX1_isWell := rfl
theorem ac_22 : a_code 22 = cX1_cost := rfl
theorem ac_23 : a_code 23 = cX1_turnInto := rfl
theorem ac_24 : a_code 24 = cX2_init := rfl
theorem ac_25 : a_code 25 = cX2_append := rfl
theorem ac_26 : a_code 26 = cX2_read := rfl
theorem ac_27 : a_code 27 = cX2_advance := rfl
theorem ac_28 : a_code 28 = cX2_byteAt := rfl
theorem ac_29 : a_code 29 = cX2_isLetter := rfl
theorem ac_30 : a_code 30 = cX2_readWord := rfl
theorem ac_31 : a_code 31 = cX2_wordNumber := rfl
theorem ac_32 : a_code 32 = cX2_isDigit := rfl
theorem ac_33 : a_code 33 = cX2_readNumber := rfl
theorem ac_34 : a_code 34 = cX2_isSign := rfl
theorem ac_35 : a_code 35 = cX2_readOr := rfl
theorem ac_36 : a_code 36 = cX2_readAnd := rfl
theorem ac_37 : a_code 37 = cX2_readNot := rfl
theorem ac_38 : a_code 38 = cX2_readComparison := rfl
theorem ac_39 : a_code 39 = cX2_readSum := rfl
theorem ac_40 : a_code 40 = cX2_readTerm := rfl
theorem ac_41 : a_code 41 = cX2_readOne := rfl
theorem ac_42 : a_code 42 = cX2_readNegative := rfl
theorem ac_43 : a_code 43 = cX2_readBraced := rfl
theorem ac_44 : a_code 44 = cX3_init := rfl
theorem ac_45 : a_code 45 = cX3_from := rfl
theorem ac_46 : a_code 46 = cX3_add := rfl
theorem ac_47 : a_code 47 = cX3_isMarked := rfl
theorem ac_48 : a_code 48 = cX3_mark := rfl
theorem ac_49 : a_code 49 = cX3_situationAt := rfl
theorem ac_50 : a_code 50 = cX3_rooms := rfl
theorem ac_51 : a_code 51 = cX3_farthest := rfl
theorem ac_52 : a_code 52 = cX3_doorsTo := rfl
theorem ac_53 : a_code 53 = cX3_placeAhead := rfl
theorem ac_54 : a_code 54 = cX3_lastOnes := rfl
theorem ac_55 : a_code 55 = cX3_placeOfRoom := rfl
theorem ac_56 : a_code 56 = cX3_doorOnTheWay := rfl
theorem ac_57 : a_code 57 = cX3_roomsCutOffFrom := rfl
theorem ac_58 : a_code 58 = cX3_leadsTo := rfl
theorem ac_59 : a_code 59 = cX3_placeOfWell := rfl
theorem ac_60 : a_code 60 = cX3_doorsAround := rfl
theorem ac_61 : a_code 61 = cX4_init := rfl
theorem ac_62 : a_code 62 = cX4_isMissing := rfl
theorem ac_63 : a_code 63 = cX4_item := rfl
theorem ac_64 : a_code 64 = cX4_has := rfl
theorem ac_65 : a_code 65 = cX4_begin := rfl
theorem ac_66 : a_code 66 = cX4_put := rfl
theorem ac_67 : a_code 67 = cX4_hasAll := rfl
theorem ac_68 : a_code 68 = cX6_init := rfl
theorem ac_69 : a_code 69 = cX6_clear := rfl
theorem ac_70 : a_code 70 = cX6_emit := rfl
theorem ac_71 : a_code 71 = cX6_endPart := rfl
theorem ac_72 : a_code 72 = cX6_answer := rfl
theorem ac_73 : a_code 73 = cX6_push := rfl
theorem ac_74 : a_code 74 = cX6_pop := rfl
theorem ac_75 : a_code 75 = cX6_ofTwo := rfl
theorem ac_76 : a_code 76 = cX7_init := rfl
theorem ac_77 : a_code 77 = cX7_readNextText := rfl
theorem ac_78 : a_code 78 = cX7_takeRule := rfl
theorem ac_79 : a_code 79 = cX7_door := rfl
theorem ac_80 : a_code 80 = cX7_set := rfl
theorem ac_81 : a_code 81 = cX7_setState := rfl
theorem ac_82 : a_code 82 = cX7_setTurn := rfl
theorem ac_83 : a_code 83 = cX7_setRoom := rfl
theorem ac_84 : a_code 84 = cX7_setRoomCount := rfl
theorem ac_85 : a_code 85 = cX7_told := rfl
theorem ac_86 : a_code 86 = cX7_open := rfl
theorem ac_87 : a_code 87 = cX7_feed := rfl
theorem ac_88 : a_code 88 = cX7_text := rfl
theorem ac_89 : a_code 89 = cX7_force := rfl
theorem ac_90 : a_code 90 = cX7_well := rfl
theorem ac_91 : a_code 91 = cX7_go := rfl
theorem ac_92 : a_code 92 = cX7_come := rfl
theorem ac_93 : a_code 93 = cX7_shortest := rfl
theorem ac_94 : a_code 94 = cX7_first := rfl
theorem ac_95 : a_code 95 = cX7_shutIn := rfl
theorem ac_96 : a_code 96 = cX7_wished := rfl
theorem ac_97 : a_code 97 = cX7_found := rfl
theorem ac_98 : a_code 98 = cX7_judge := rfl
theorem ac_99 : a_code 99 = cX7_sheetAt := rfl
theorem ac_100 : a_code 100 = cX7_row := rfl
theorem ac_101 : a_code 101 = cX7_heard := rfl
theorem ac_102 : a_code 102 = cX7_roomsOfBeginning := rfl
theorem ac_103 : a_code 103 = cX7_canGoAllOf := rfl
theorem ac_104 : a_code 104 = cX7_situationsOfBeginning := rfl
theorem ac_105 : a_code 105 = cX7_oil := rfl
theorem ac_106 : a_code 106 = cX7_roomsOnceOiled := rfl
theorem ac_107 : a_code 107 = cX7_thief := rfl
theorem ac_108 : a_code 108 = cX7_image := rfl
theorem ac_109 : a_code 109 = cX7_back := rfl
theorem ac_110 : a_code 110 = cX7_count := rfl
theorem ac_111 : a_code 111 = cX7_sheet := rfl
theorem ac_112 : a_code 112 = cX7_cell := rfl
theorem ac_113 : a_code 113 = cX7_copy := rfl
theorem ac_114 : a_code 114 = cX7_doors := rfl
theorem ac_115 : a_code 115 = cX7_taken := rfl
theorem ac_116 : a_code 116 = cX8_init := rfl
theorem ac_117 : a_code 117 = cX8_door := rfl
theorem ac_118 : a_code 118 = cX8_in := rfl
theorem ac_119 : a_code 119 = cX8_isRoom := rfl
theorem ac_120 : a_code 120 = cX8_set := rfl
theorem ac_121 : a_code 121 = cX8_isDoor := rfl
theorem ac_122 : a_code 122 = cX8_mayBeRooms := rfl
theorem ac_123 : a_code 123 = cX8_told := rfl
theorem ac_124 : a_code 124 = cX8_asIs := rfl
theorem ac_125 : a_code 125 = cX8_isOpen := rfl
theorem ac_126 : a_code 126 = cX8_opensByKind := rfl
theorem ac_127 : a_code 127 = cX8_keyState := rfl
theorem ac_128 : a_code 128 = cX8_work := rfl
theorem ac_129 : a_code 129 = cX8_sumOf := rfl
theorem ac_130 : a_code 130 = cX8_beyond := rfl
theorem ac_131 : a_code 131 = cX8_reckon := rfl
theorem ac_132 : a_code 132 = cX8_nextState := rfl
theorem ac_133 : a_code 133 = cX8_open := rfl
theorem ac_134 : a_code 134 = cX8_canGo := rfl
theorem ac_135 : a_code 135 = cX8_isHere := rfl
theorem ac_136 : a_code 136 = cX8_feed := rfl
theorem ac_137 : a_code 137 = cX8_text := rfl
theorem ac_138 : a_code 138 = cX8_next := rfl
theorem ac_139 : a_code 139 = cX8_byteAt := rfl
theorem ac_140 : a_code 140 = cX8_isLetter := rfl
theorem ac_141 : a_code 141 = cX8_wordOf := rfl
theorem ac_142 : a_code 142 = cX8_isDigit := rfl
theorem ac_143 : a_code 143 = cX8_isSignByte := rfl
theorem ac_144 : a_code 144 = cX8_isKey := rfl
theorem ac_145 : a_code 145 = cX8_wrong := rfl
theorem ac_146 : a_code 146 = cX8_either := rfl
theorem ac_147 : a_code 147 = cX8_both := rfl
theorem ac_148 : a_code 148 = cX8_not := rfl
theorem ac_149 : a_code 149 = cX8_opens := rfl
theorem ac_150 : a_code 150 = cX8_adds := rfl
theorem ac_151 : a_code 151 = cX8_sum := rfl
theorem ac_152 : a_code 152 = cX8_term := rfl
theorem ac_153 : a_code 153 = cX8_one := rfl
theorem ac_154 : a_code 154 = cX8_isSign := rfl
theorem ac_155 : a_code 155 = cX8_force := rfl
theorem ac_156 : a_code 156 = cX8_well := rfl
theorem ac_157 : a_code 157 = cX8_isWell := rfl
theorem ac_158 : a_code 158 = cX8_go := rfl
theorem ac_159 : a_code 159 = cX8_goes := rfl
theorem ac_160 : a_code 160 = cX8_come := rfl
theorem ac_161 : a_code 161 = cX8_findAll := rfl
theorem ac_162 : a_code 162 = cX8_code := rfl
theorem ac_163 : a_code 163 = cX8_takes := rfl
theorem ac_164 : a_code 164 = cX8_roomsCome := rfl
theorem ac_165 : a_code 165 = cX8_roomOf := rfl
theorem ac_166 : a_code 166 = cX8_isLast := rfl
theorem ac_167 : a_code 167 = cX8_shortest := rfl
theorem ac_168 : a_code 168 = cX8_shortestTo := rfl
theorem ac_169 : a_code 169 = cX8_first := rfl
theorem ac_170 : a_code 170 = cX8_findStill := rfl
theorem ac_171 : a_code 171 = cX8_shutIn := rfl
theorem ac_172 : a_code 172 = cX8_wished := rfl
theorem ac_173 : a_code 173 = cX8_found := rfl
theorem ac_174 : a_code 174 = cX8_judge := rfl
theorem ac_175 : a_code 175 = cX8_isSheet := rfl
theorem ac_176 : a_code 176 = cX8_goesRow := rfl
theorem ac_177 : a_code 177 = cX8_costOf := rfl
theorem ac_178 : a_code 178 = cX8_row := rfl
theorem ac_179 : a_code 179 = cX8_heard := rfl
theorem ac_180 : a_code 180 = cX8_heardRooms := rfl
theorem ac_181 : a_code 181 = cX8_heardMany := rfl
theorem ac_182 : a_code 182 = cX8_oil := rfl
theorem ac_183 : a_code 183 = cX8_bitsOf := rfl
theorem ac_184 : a_code 184 = cX8_thief := rfl
theorem ac_185 : a_code 185 = cX8_image := rfl
theorem ac_186 : a_code 186 = cX8_back := rfl
theorem ac_187 : a_code 187 = cX8_count := rfl
theorem ac_188 : a_code 188 = cX8_sheet := rfl
theorem ac_189 : a_code 189 = cX8_cell := rfl
theorem ac_190 : a_code 190 = cX8_copy := rfl
theorem ac_191 : a_code 191 = cX8_doors := rfl
theorem ac_192 : a_code 192 = cX8_taken := rfl
theorem ac_193 : a_code 193 = cX8_over := rfl
theorem ac_194 : a_code 194 = cX5_stateOf := rfl
theorem ac_195 : a_code 195 = cX5_withState := rfl
theorem ac_196 : a_code 196 = cX5_turnOf := rfl
theorem ac_197 : a_code 197 = cX5_withTurn := rfl
theorem ac_198 : a_code 198 = cX5_roomOf := rfl
theorem ac_199 : a_code 199 = cX5_withRoom := rfl
theorem ac_200 : a_code 200 = cX5_statesTogether := rfl
theorem ac_201 : a_code 201 = cX5_of := rfl
theorem ac_202 : a_code 202 = cJ0_length_8abf5 := rfl
theorem ac_203 : a_code 203 = cJ0_coder_7d493 := rfl
theorem ac_204 : a_code 204 = cJ0_charAt_5068e := rfl
theorem ac_205 : a_code 205 = cJ0_isLatin1_aae02 := rfl
theorem ac_206 : a_code 206 = cJ0_checkIndex_df160 := rfl
theorem ac_207 : a_code 207 = cJ0_indexOf_0f7a4 := rfl
theorem ac_208 : a_code 208 = cJ0_indexOf_7cf53 := rfl
theorem ac_209 : a_code 209 = cJ1_charAt_3b067 := rfl
theorem ac_210 : a_code 210 = cJ1_indexOf_4cfef := rfl
theorem ac_211 : a_code 211 = cJ1_canEncode_9a6ad := rfl
theorem ac_212 : a_code 212 = cJ1_indexOfChar_4cfef := rfl
theorem ac_213 : a_code 213 = cJ3_checkIndex_8e157 := rfl
theorem ac_214 : a_code 214 = cJ6_bitCount_0f7a4 := rfl
theorem ac_215 : a_code 215 = cJ7_fill_53178 := rfl
theorem ac_216 : a_code 216 = cJ7_fill_d0a16 := rfl
theorem af_0_7 : a_fld 0 7 = some (0, 5) := by decide +kernel
theorem af_0_13 : a_fld 0 13 = some (0, 6) := by decide +kernel
theorem af_0_16 : a_fld 0 16 = some (0, 4) := by decide +kernel
theorem af_0_20 : a_fld 0 20 = some (0, 0) := by decide +kernel
theorem af_0_23 : a_fld 0 23 = some (0, 1) := by decide +kernel
theorem af_0_26 : a_fld 0 26 = some (0, 2) := by decide +kernel
theorem af_0_29 : a_fld 0 29 = some (0, 3) := by decide +kernel
theorem af_1_9 : a_fld 1 9 = some (1, 0) := by decide +kernel
theorem af_1_15 : a_fld 1 15 = some (1, 1) := by decide +kernel
theorem af_1_20 : a_fld 1 20 = some (1, 2) := by decide +kernel
theorem af_1_26 : a_fld 1 26 = some (1, 3) := by decide +kernel
theorem af_1_31 : a_fld 1 31 = some (1, 4) := by decide +kernel
theorem af_1_39 : a_fld 1 39 = some (0, 0) := by decide +kernel
theorem af_1_42 : a_fld 1 42 = some (0, 1) := by decide +kernel
theorem af_1_55 : a_fld 1 55 = some (0, 4) := by decide +kernel
theorem af_1_62 : a_fld 1 62 = some (0, 5) := by decide +kernel
theorem af_1_66 : a_fld 1 66 = some (0, 6) := by decide +kernel
theorem af_1_89 : a_fld 1 89 = some (0, 2) := by decide +kernel
theorem af_2_7 : a_fld 2 7 = some (2, 0) := by decide +kernel
theorem af_2_13 : a_fld 2 13 = some (2, 1) := by decide +kernel
theorem af_2_17 : a_fld 2 17 = some (2, 2) := by decide +kernel
theorem af_2_20 : a_fld 2 20 = some (2, 3) := by decide +kernel
theorem af_2_23 : a_fld 2 23 = some (2, 4) := by decide +kernel
theorem af_2_26 : a_fld 2 26 = some (2, 5) := by decide +kernel
theorem af_3_11 : a_fld 3 11 = some (3, 0) := by decide +kernel
theorem af_3_17 : a_fld 3 17 = some (3, 1) := by decide +kernel
theorem af_3_21 : a_fld 3 21 = some (3, 2) := by decide +kernel
theorem af_3_39 : a_fld 3 39 = some (1, 1) := by decide +kernel
theorem af_4_9 : a_fld 4 9 = some (4, 0) := by decide +kernel
theorem af_4_13 : a_fld 4 13 = some (4, 1) := by decide +kernel
theorem af_4_16 : a_fld 4 16 = some (4, 2) := by decide +kernel
theorem af_5_9 : a_fld 5 9 = some (5, 0) := by decide +kernel
theorem af_5_15 : a_fld 5 15 = some (5, 1) := by decide +kernel
theorem af_5_18 : a_fld 5 18 = some (5, 2) := by decide +kernel
theorem af_5_21 : a_fld 5 21 = some (5, 3) := by decide +kernel
theorem af_5_25 : a_fld 5 25 = some (5, 4) := by decide +kernel
theorem af_6_10 : a_fld 6 10 = some (6, 0) := by decide +kernel
theorem af_6_19 : a_fld 6 19 = some (6, 1) := by decide +kernel
theorem af_6_26 : a_fld 6 26 = some (6, 2) := by decide +kernel
theorem af_6_32 : a_fld 6 32 = some (6, 3) := by decide +kernel
theorem af_6_38 : a_fld 6 38 = some (6, 4) := by decide +kernel
theorem af_6_42 : a_fld 6 42 = some (6, 5) := by decide +kernel
theorem af_6_46 : a_fld 6 46 = some (6, 6) := by decide +kernel
theorem af_6_49 : a_fld 6 49 = some (6, 7) := by decide +kernel
theorem af_6_52 : a_fld 6 52 = some (6, 8) := by decide +kernel
theorem af_6_56 : a_fld 6 56 = some (6, 9) := by decide +kernel
theorem af_6_59 : a_fld 6 59 = some (6, 10) := by decide +kernel
theorem af_6_62 : a_fld 6 62 = some (6, 11) := by decide +kernel
theorem af_6_95 : a_fld 6 95 = some (1, 1) := by decide +kernel
theorem af_6_123 : a_fld 6 123 = some (0, 4) := by decide +kernel
theorem af_6_126 : a_fld 6 126 = some (0, 0) := by decide +kernel
theorem af_6_129 : a_fld 6 129 = some (0, 1) := by decide +kernel
theorem af_6_132 : a_fld 6 132 = some (0, 2) := by decide +kernel
theorem af_6_150 : a_fld 6 150 = some (0, 3) := by decide +kernel
theorem af_6_156 : a_fld 6 156 = some (2, 0) := by decide +kernel
theorem af_6_175 : a_fld 6 175 = some (3, 0) := by decide +kernel
theorem af_6_211 : a_fld 6 211 = some (4, 1) := by decide +kernel
theorem af_6_237 : a_fld 6 237 = some (1, 0) := by decide +kernel
theorem af_6_256 : a_fld 6 256 = some (4, 0) := by decide +kernel
theorem af_6_262 : a_fld 6 262 = some (4, 2) := by decide +kernel
theorem af_7_9 : a_fld 7 9 = some (7, 4) := by decide +kernel
theorem af_7_13 : a_fld 7 13 = some (7, 5) := by decide +kernel
theorem af_7_16 : a_fld 7 16 = some (7, 6) := by decide +kernel
theorem af_7_19 : a_fld 7 19 = some (7, 7) := by decide +kernel
theorem af_7_22 : a_fld 7 22 = some (7, 8) := by decide +kernel
theorem af_7_25 : a_fld 7 25 = some (7, 9) := by decide +kernel
theorem af_7_28 : a_fld 7 28 = some (7, 10) := by decide +kernel
theorem af_7_31 : a_fld 7 31 = some (7, 11) := by decide +kernel
theorem af_7_34 : a_fld 7 34 = some (7, 14) := by decide +kernel
theorem af_7_37 : a_fld 7 37 = some (7, 18) := by decide +kernel
theorem af_7_40 : a_fld 7 40 = some (7, 19) := by decide +kernel
theorem af_7_43 : a_fld 7 43 = some (7, 20) := by decide +kernel
theorem af_7_46 : a_fld 7 46 = some (7, 29) := by decide +kernel
theorem af_7_50 : a_fld 7 50 = some (7, 30) := by decide +kernel
theorem af_7_53 : a_fld 7 53 = some (7, 31) := by decide +kernel
theorem af_7_56 : a_fld 7 56 = some (7, 32) := by decide +kernel
theorem af_7_59 : a_fld 7 59 = some (7, 34) := by decide +kernel
theorem af_7_62 : a_fld 7 62 = some (7, 35) := by decide +kernel
theorem af_7_65 : a_fld 7 65 = some (7, 36) := by decide +kernel
theorem af_7_68 : a_fld 7 68 = some (7, 43) := by decide +kernel
theorem af_7_71 : a_fld 7 71 = some (7, 44) := by decide +kernel
theorem af_7_74 : a_fld 7 74 = some (7, 45) := by decide +kernel
theorem af_7_77 : a_fld 7 77 = some (7, 46) := by decide +kernel
theorem af_7_80 : a_fld 7 80 = some (7, 47) := by decide +kernel
theorem af_7_83 : a_fld 7 83 = some (7, 16) := by decide +kernel
theorem af_7_87 : a_fld 7 87 = some (7, 0) := by decide +kernel
theorem af_7_90 : a_fld 7 90 = some (7, 1) := by decide +kernel
theorem af_7_109 : a_fld 7 109 = some (7, 3) := by decide +kernel
theorem af_7_115 : a_fld 7 115 = some (7, 2) := by decide +kernel
theorem af_7_121 : a_fld 7 121 = some (7, 12) := by decide +kernel
theorem af_7_124 : a_fld 7 124 = some (7, 13) := by decide +kernel
theorem af_7_160 : a_fld 7 160 = some (7, 15) := by decide +kernel
theorem af_7_165 : a_fld 7 165 = some (7, 22) := by decide +kernel
theorem af_7_168 : a_fld 7 168 = some (7, 23) := by decide +kernel
theorem af_7_182 : a_fld 7 182 = some (7, 24) := by decide +kernel
theorem af_7_192 : a_fld 7 192 = some (7, 25) := by decide +kernel
theorem af_7_201 : a_fld 7 201 = some (7, 27) := by decide +kernel
theorem af_7_205 : a_fld 7 205 = some (7, 28) := by decide +kernel
theorem af_7_208 : a_fld 7 208 = some (7, 21) := by decide +kernel
theorem af_7_211 : a_fld 7 211 = some (7, 26) := by decide +kernel
theorem af_7_252 : a_fld 7 252 = some (7, 17) := by decide +kernel
theorem af_7_271 : a_fld 7 271 = some (7, 33) := by decide +kernel
theorem af_7_295 : a_fld 7 295 = some (7, 37) := by decide +kernel
theorem af_7_316 : a_fld 7 316 = some (7, 38) := by decide +kernel
theorem af_7_319 : a_fld 7 319 = some (7, 39) := by decide +kernel
theorem af_7_322 : a_fld 7 322 = some (7, 40) := by decide +kernel
theorem af_7_325 : a_fld 7 325 = some (7, 41) := by decide +kernel
theorem af_7_328 : a_fld 7 328 = some (7, 42) := by decide +kernel
theorem ak_0_1 : a_cal 0 1 = some (3, 0) := by decide +kernel
theorem ak_0_36 : a_cal 0 36 = some (5, 0) := by decide +kernel
theorem ak_1_3 : a_cal 1 3 = some (3, 0) := by decide +kernel
theorem ak_1_30 : a_cal 1 30 = some (7, 68) := by decide +kernel
theorem ak_1_35 : a_cal 1 35 = some (1, 11) := by decide +kernel
theorem ak_1_45 : a_cal 1 45 = some (4, 0) := by decide +kernel
theorem ak_1_51 : a_cal 1 51 = some (1, 10) := by decide +kernel
theorem ak_1_58 : a_cal 1 58 = some (1, 12) := by decide +kernel
theorem ak_1_69 : a_cal 1 69 = some (1, 0) := by decide +kernel
theorem ak_1_73 : a_cal 1 73 = some (1, 1) := by decide +kernel
theorem ak_1_77 : a_cal 1 77 = some (1, 13) := by decide +kernel
theorem ak_1_81 : a_cal 1 81 = some (1, 72) := by decide +kernel
theorem ak_1_85 : a_cal 1 85 = some (0, 2) := by decide +kernel
theorem ak_1_92 : a_cal 1 92 = some (0, 194) := by decide +kernel
theorem ak_1_97 : a_cal 1 97 = some (0, 196) := by decide +kernel
theorem ak_1_100 : a_cal 1 100 = some (1, 18) := by decide +kernel
theorem ak_1_104 : a_cal 1 104 = some (0, 198) := by decide +kernel
theorem ak_1_107 : a_cal 1 107 = some (1, 4) := by decide +kernel
theorem ak_1_111 : a_cal 1 111 = some (1, 20) := by decide +kernel
theorem ak_1_114 : a_cal 1 114 = some (1, 6) := by decide +kernel
theorem ak_1_118 : a_cal 1 118 = some (1, 17) := by decide +kernel
theorem ak_1_119 : a_cal 1 119 = some (1, 5) := by decide +kernel
theorem ak_1_122 : a_cal 1 122 = some (0, 195) := by decide +kernel
theorem ak_1_125 : a_cal 1 125 = some (0, 197) := by decide +kernel
theorem ak_1_128 : a_cal 1 128 = some (0, 199) := by decide +kernel
theorem ak_1_131 : a_cal 1 131 = some (5, 0) := by decide +kernel
theorem ak_1_134 : a_cal 1 134 = some (0, 200) := by decide +kernel
theorem ak_2_1 : a_cal 2 1 = some (3, 0) := by decide +kernel
theorem ak_2_29 : a_cal 2 29 = some (1, 69) := by decide +kernel
theorem ak_2_34 : a_cal 2 34 = some (1, 27) := by decide +kernel
theorem ak_2_37 : a_cal 2 37 = some (1, 35) := by decide +kernel
theorem ak_2_41 : a_cal 2 41 = some (1, 71) := by decide +kernel
theorem ak_2_45 : a_cal 2 45 = some (1, 36) := by decide +kernel
theorem ak_2_48 : a_cal 2 48 = some (1, 70) := by decide +kernel
theorem ak_2_51 : a_cal 2 51 = some (1, 37) := by decide +kernel
theorem ak_2_54 : a_cal 2 54 = some (1, 38) := by decide +kernel
theorem ak_2_57 : a_cal 2 57 = some (1, 39) := by decide +kernel
theorem ak_2_60 : a_cal 2 60 = some (1, 40) := by decide +kernel
theorem ak_2_63 : a_cal 2 63 = some (1, 41) := by decide +kernel
theorem ak_2_66 : a_cal 2 66 = some (1, 42) := by decide +kernel
theorem ak_2_69 : a_cal 2 69 = some (1, 43) := by decide +kernel
theorem ak_2_72 : a_cal 2 72 = some (1, 28) := by decide +kernel
theorem ak_2_76 : a_cal 2 76 = some (0, 29) := by decide +kernel
theorem ak_2_80 : a_cal 2 80 = some (1, 30) := by decide +kernel
theorem ak_2_83 : a_cal 2 83 = some (0, 32) := by decide +kernel
theorem ak_2_86 : a_cal 2 86 = some (1, 33) := by decide +kernel
theorem ak_2_89 : a_cal 2 89 = some (0, 34) := by decide +kernel
theorem ak_2_92 : a_cal 2 92 = some (1, 31) := by decide +kernel
theorem ak_2_98 : a_cal 2 98 = some (1, 202) := by decide +kernel
theorem ak_2_104 : a_cal 2 104 = some (1, 204) := by decide +kernel
theorem ak_2_110 : a_cal 2 110 = some (1, 207) := by decide +kernel
theorem ak_3_5 : a_cal 3 5 = some (3, 0) := by decide +kernel
theorem ak_3_25 : a_cal 3 25 = some (0, 216) := by decide +kernel
theorem ak_3_31 : a_cal 3 31 = some (1, 46) := by decide +kernel
theorem ak_3_35 : a_cal 3 35 = some (1, 49) := by decide +kernel
theorem ak_3_44 : a_cal 3 44 = some (1, 20) := by decide +kernel
theorem ak_3_48 : a_cal 3 48 = some (1, 47) := by decide +kernel
theorem ak_3_52 : a_cal 3 52 = some (1, 48) := by decide +kernel
theorem ak_3_56 : a_cal 3 56 = some (0, 198) := by decide +kernel
theorem ak_3_59 : a_cal 3 59 = some (1, 52) := by decide +kernel
theorem ak_3_62 : a_cal 3 62 = some (1, 19) := by decide +kernel
theorem ak_3_65 : a_cal 3 65 = some (1, 21) := by decide +kernel
theorem ak_3_68 : a_cal 3 68 = some (1, 53) := by decide +kernel
theorem ak_3_71 : a_cal 3 71 = some (1, 58) := by decide +kernel
theorem ak_4_1 : a_cal 4 1 = some (3, 0) := by decide +kernel
theorem ak_4_20 : a_cal 4 20 = some (5, 0) := by decide +kernel
theorem ak_4_26 : a_cal 4 26 = some (4, 0) := by decide +kernel
theorem ak_4_29 : a_cal 4 29 = some (0, 215) := by decide +kernel
theorem ak_4_35 : a_cal 4 35 = some (1, 64) := by decide +kernel
theorem ak_5_1 : a_cal 5 1 = some (3, 0) := by decide +kernel
theorem ak_5_28 : a_cal 5 28 = some (0, 215) := by decide +kernel
theorem ak_5_34 : a_cal 5 34 = some (1, 73) := by decide +kernel
theorem ak_5_38 : a_cal 5 38 = some (1, 74) := by decide +kernel
theorem ak_5_42 : a_cal 5 42 = some (0, 75) := by decide +kernel
theorem ak_6_1 : a_cal 6 1 = some (3, 0) := by decide +kernel
theorem ak_6_9 : a_cal 6 9 = some (7, 8) := by decide +kernel
theorem ak_6_18 : a_cal 6 18 = some (7, 44) := by decide +kernel
theorem ak_6_25 : a_cal 6 25 = some (7, 24) := by decide +kernel
theorem ak_6_65 : a_cal 6 65 = some (7, 61) := by decide +kernel
theorem ak_6_66 : a_cal 6 66 = some (7, 68) := by decide +kernel
theorem ak_6_69 : a_cal 6 69 = some (1, 202) := by decide +kernel
theorem ak_6_75 : a_cal 6 75 = some (1, 204) := by decide +kernel
theorem ak_6_79 : a_cal 6 79 = some (1, 25) := by decide +kernel
theorem ak_6_83 : a_cal 6 83 = some (1, 77) := by decide +kernel
theorem ak_6_86 : a_cal 6 86 = some (1, 78) := by decide +kernel
theorem ak_6_91 : a_cal 6 91 = some (1, 14) := by decide +kernel
theorem ak_6_98 : a_cal 6 98 = some (2, 3) := by decide +kernel
theorem ak_6_101 : a_cal 6 101 = some (1, 15) := by decide +kernel
theorem ak_6_105 : a_cal 6 105 = some (1, 81) := by decide +kernel
theorem ak_6_109 : a_cal 6 109 = some (1, 82) := by decide +kernel
theorem ak_6_113 : a_cal 6 113 = some (1, 83) := by decide +kernel
theorem ak_6_116 : a_cal 6 116 = some (1, 84) := by decide +kernel
theorem ak_6_119 : a_cal 6 119 = some (1, 11) := by decide +kernel
theorem ak_6_135 : a_cal 6 135 = some (0, 194) := by decide +kernel
theorem ak_6_140 : a_cal 6 140 = some (0, 199) := by decide +kernel
theorem ak_6_143 : a_cal 6 143 = some (1, 17) := by decide +kernel
theorem ak_6_147 : a_cal 6 147 = some (1, 5) := by decide +kernel
theorem ak_6_153 : a_cal 6 153 = some (1, 19) := by decide +kernel
theorem ak_6_159 : a_cal 6 159 = some (1, 21) := by decide +kernel
theorem ak_6_162 : a_cal 6 162 = some (1, 20) := by decide +kernel
theorem ak_6_165 : a_cal 6 165 = some (0, 198) := by decide +kernel
theorem ak_6_168 : a_cal 6 168 = some (1, 45) := by decide +kernel
theorem ak_6_172 : a_cal 6 172 = some (1, 50) := by decide +kernel
theorem ak_6_176 : a_cal 6 176 = some (1, 51) := by decide +kernel
theorem ak_6_179 : a_cal 6 179 = some (1, 54) := by decide +kernel
theorem ak_6_183 : a_cal 6 183 = some (1, 55) := by decide +kernel
theorem ak_6_186 : a_cal 6 186 = some (1, 52) := by decide +kernel
theorem ak_6_189 : a_cal 6 189 = some (1, 56) := by decide +kernel
theorem ak_6_193 : a_cal 6 193 = some (1, 57) := by decide +kernel
theorem ak_6_197 : a_cal 6 197 = some (1, 59) := by decide +kernel
theorem ak_6_200 : a_cal 6 200 = some (1, 60) := by decide +kernel
theorem ak_6_203 : a_cal 6 203 = some (1, 99) := by decide +kernel
theorem ak_6_207 : a_cal 6 207 = some (1, 62) := by decide +kernel
theorem ak_6_212 : a_cal 6 212 = some (1, 63) := by decide +kernel
theorem ak_6_215 : a_cal 6 215 = some (1, 22) := by decide +kernel
theorem ak_6_218 : a_cal 6 218 = some (1, 102) := by decide +kernel
theorem ak_6_222 : a_cal 6 222 = some (1, 104) := by decide +kernel
theorem ak_6_225 : a_cal 6 225 = some (1, 106) := by decide +kernel
theorem ak_6_228 : a_cal 6 228 = some (0, 195) := by decide +kernel
theorem ak_6_232 : a_cal 6 232 = some (0, 214) := by decide +kernel
theorem ak_6_240 : a_cal 6 240 = some (0, 196) := by decide +kernel
theorem ak_6_243 : a_cal 6 243 = some (0, 200) := by decide +kernel
theorem ak_6_246 : a_cal 6 246 = some (1, 65) := by decide +kernel
theorem ak_6_250 : a_cal 6 250 = some (1, 64) := by decide +kernel
theorem ak_6_253 : a_cal 6 253 = some (1, 66) := by decide +kernel
theorem ak_6_259 : a_cal 6 259 = some (1, 67) := by decide +kernel
theorem ak_6_266 : a_cal 6 266 = some (6, 0) := by decide +kernel
theorem ak_6_272 : a_cal 6 272 = some (1, 79) := by decide +kernel
theorem ak_6_275 : a_cal 6 275 = some (0, 7) := by decide +kernel
theorem ak_6_278 : a_cal 6 278 = some (0, 197) := by decide +kernel
theorem ak_6_281 : a_cal 6 281 = some (1, 16) := by decide +kernel
theorem ak_6_284 : a_cal 6 284 = some (1, 26) := by decide +kernel
theorem ak_6_288 : a_cal 6 288 = some (1, 9) := by decide +kernel
theorem ak_6_292 : a_cal 6 292 = some (1, 23) := by decide +kernel
theorem ak_6_295 : a_cal 6 295 = some (1, 103) := by decide +kernel
theorem ak_6_299 : a_cal 6 299 = some (0, 201) := by decide +kernel
theorem ak_7_3 : a_cal 7 3 = some (3, 0) := by decide +kernel
theorem ak_7_93 : a_cal 7 93 = some (0, 118) := by decide +kernel
theorem ak_7_99 : a_cal 7 99 = some (1, 119) := by decide +kernel
theorem ak_7_112 : a_cal 7 112 = some (1, 121) := by decide +kernel
theorem ak_7_118 : a_cal 7 118 = some (1, 122) := by decide +kernel
theorem ak_7_127 : a_cal 7 127 = some (1, 127) := by decide +kernel
theorem ak_7_131 : a_cal 7 131 = some (1, 126) := by decide +kernel
theorem ak_7_134 : a_cal 7 134 = some (1, 128) := by decide +kernel
theorem ak_7_138 : a_cal 7 138 = some (1, 135) := by decide +kernel
theorem ak_7_141 : a_cal 7 141 = some (1, 125) := by decide +kernel
theorem ak_7_145 : a_cal 7 145 = some (1, 130) := by decide +kernel
theorem ak_7_149 : a_cal 7 149 = some (1, 132) := by decide +kernel
theorem ak_7_152 : a_cal 7 152 = some (1, 124) := by decide +kernel
theorem ak_7_155 : a_cal 7 155 = some (1, 134) := by decide +kernel
theorem ak_7_179 : a_cal 7 179 = some (1, 139) := by decide +kernel
theorem ak_7_185 : a_cal 7 185 = some (0, 140) := by decide +kernel
theorem ak_7_188 : a_cal 7 188 = some (1, 141) := by decide +kernel
theorem ak_7_195 : a_cal 7 195 = some (0, 142) := by decide +kernel
theorem ak_7_198 : a_cal 7 198 = some (0, 143) := by decide +kernel
theorem ak_7_214 : a_cal 7 214 = some (1, 145) := by decide +kernel
theorem ak_7_217 : a_cal 7 217 = some (1, 138) := by decide +kernel
theorem ak_7_220 : a_cal 7 220 = some (1, 150) := by decide +kernel
theorem ak_7_224 : a_cal 7 224 = some (1, 154) := by decide +kernel
theorem ak_7_227 : a_cal 7 227 = some (1, 149) := by decide +kernel
theorem ak_7_231 : a_cal 7 231 = some (1, 153) := by decide +kernel
theorem ak_7_234 : a_cal 7 234 = some (1, 146) := by decide +kernel
theorem ak_7_237 : a_cal 7 237 = some (1, 152) := by decide +kernel
theorem ak_7_240 : a_cal 7 240 = some (1, 144) := by decide +kernel
theorem ak_7_243 : a_cal 7 243 = some (1, 148) := by decide +kernel
theorem ak_7_246 : a_cal 7 246 = some (1, 151) := by decide +kernel
theorem ak_7_249 : a_cal 7 249 = some (1, 147) := by decide +kernel
theorem ak_7_255 : a_cal 7 255 = some (1, 129) := by decide +kernel
theorem ak_7_258 : a_cal 7 258 = some (0, 131) := by decide +kernel
theorem ak_7_261 : a_cal 7 261 = some (1, 157) := by decide +kernel
theorem ak_7_264 : a_cal 7 264 = some (1, 159) := by decide +kernel
theorem ak_7_268 : a_cal 7 268 = some (1, 162) := by decide +kernel
theorem ak_7_274 : a_cal 7 274 = some (1, 163) := by decide +kernel
theorem ak_7_277 : a_cal 7 277 = some (0, 165) := by decide +kernel
theorem ak_7_280 : a_cal 7 280 = some (1, 161) := by decide +kernel
theorem ak_7_283 : a_cal 7 283 = some (1, 164) := by decide +kernel
theorem ak_7_286 : a_cal 7 286 = some (1, 166) := by decide +kernel
theorem ak_7_289 : a_cal 7 289 = some (1, 168) := by decide +kernel
theorem ak_7_292 : a_cal 7 292 = some (1, 170) := by decide +kernel
theorem ak_7_298 : a_cal 7 298 = some (1, 177) := by decide +kernel
theorem ak_7_301 : a_cal 7 301 = some (0, 175) := by decide +kernel
theorem ak_7_304 : a_cal 7 304 = some (1, 176) := by decide +kernel
theorem ak_7_307 : a_cal 7 307 = some (1, 180) := by decide +kernel
theorem ak_7_310 : a_cal 7 310 = some (1, 181) := by decide +kernel
theorem ak_7_313 : a_cal 7 313 = some (0, 183) := by decide +kernel
theorem ak_7_337 : a_cal 7 337 = some (1, 117) := by decide +kernel
theorem ak_7_340 : a_cal 7 340 = some (0, 193) := by decide +kernel
theorem ak_8_9 : a_cal 8 9 = some (0, 194) := by decide +kernel
theorem ak_9_335 : a_cal 9 335 = some (1, 203) := by decide +kernel
theorem ak_9_492 : a_cal 9 492 = some (1, 205) := by decide +kernel
theorem ak_9_495 : a_cal 9 495 = some (0, 209) := by decide +kernel
theorem ak_9_505 : a_cal 9 505 = some (1, 202) := by decide +kernel
theorem ak_9_633 : a_cal 9 633 = some (1, 208) := by decide +kernel
theorem ak_9_637 : a_cal 9 637 = some (0, 210) := by decide +kernel
theorem ak_9_1059 : a_cal 9 1059 = some (0, 213) := by decide +kernel
theorem ak_10_9 : a_cal 10 9 = some (0, 206) := by decide +kernel
theorem ak_10_38 : a_cal 10 38 = some (5, 0) := by decide +kernel
theorem ak_10_88 : a_cal 10 88 = some (0, 211) := by decide +kernel
theorem ak_10_92 : a_cal 10 92 = some (4, 0) := by decide +kernel
theorem ak_10_95 : a_cal 10 95 = some (0, 212) := by decide +kernel
