/-! THE ABSTRACT MACHINE (am): what a method of the table does to a heap of its own, by a function. A heap: how many cells, how many slots in all, of each cell its sort and length, what int slots hold, what long slots hold, what reference slots hold. Sorts: below 100 an object of that class of vwCl; 100 ints, 101 longs, 102 chars, 110 + ci references to objects of class ci; 999 none. Addresses are places in the heap; from 1000000 on constants (three Strings, their bytes, the static row ABOVE, an opaque one). -/
abbrev aH : Type := Nat × Nat × (Nat → Nat × Nat) × (Nat → Nat → Int32) × (Nat → Nat → Int64) × (Nat → Nat → Option Nat)
abbrev aS : Type := Nat × List Value × List Value × aH
abbrev aO : Type := Option (aS ⊕ ((Nat × List Value × aS) ⊕ (Option Value × aH)))
def u2 {α : Type} (f : Nat → Nat → α) (o k : Nat) (v : α) : Nat → Nat → α := fun o' k' => if o' = o ∧ k' = k then v else f o' k'
def u1 {α : Type} (f : Nat → α) (o : Nat) (v : α) : Nat → α := fun o' => if o' = o then v else f o'
def a_go (pc len : Nat) (ls st : List Value) (h : aH) : aO := some (.inl (pc + len, ls, st, h))
def a_jmp (pc : Nat) (off : Int) (ls st : List Value) (h : aH) : aO := match (pc : Int) + off with
  | .ofNat t => some (.inl (t, ls, st, h))
  | _ => none
/-- the local ahead is no long, so storing here leaves it -/
def a_ok (ls : List Value) (i : Nat) : Bool := match i with
  | 0 => true
  | j + 1 => match ls[j]? with
    | some v => Nat.beq v.category 1
    | none => true
def a_set1 (ls : List Value) (i : Nat) (v : Value) : Option (List Value) := if i < ls.length ∧ a_ok ls i = true then some (ls.set i v) else none
def a_set2 (ls : List Value) (i : Nat) (v : Value) : Option (List Value) := if i + 1 < ls.length ∧ a_ok ls i = true then some ((ls.set i v).set (i + 1) a_hole) else none
def a_icmp (c : Jvm.ClassFile.Cond) (x y : Int32) : Bool := match c with
  | .eq => decide (x = y)
  | .ne => decide (¬ x = y)
  | .lt => decide (x < y)
  | .ge => decide (y ≤ x)
  | .gt => decide (y < x)
  | .le => decide (x ≤ y)
def a_lcmp (x y : Int64) : Int32 := lg_cmp x y
/-- int arithmetic of two that never throws -/
def a_bin (i : Instr) : Option (Int32 → Int32 → Int32) := match i with
  | .iadd => some (fun x y => x + y)
  | .isub => some (fun x y => x - y)
  | .imul => some (fun x y => x * y)
  | .iand => some (fun x y => x &&& y)
  | .ior => some (fun x y => x ||| y)
  | .ixor => some (fun x y => x ^^^ y)
  | .ishl => some (fun x y => x <<< (y &&& 31))
  | .ishr => some (fun x y => x >>> (y &&& 31))
  | .iushr => some (fun x y => (x.toUInt32 >>> (y.toUInt32 &&& Int32.toUInt32 31)).toInt32)
  | _ => none
def a_un (i : Instr) : Option (Int32 → Int32) := match i with
  | .ineg => some (fun x => -x)
  | .i2b => some (fun x => x.toInt8.toInt32)
  | .i2s => some (fun x => x.toInt16.toInt32)
  | .i2c => some (fun x => (x.toUInt32 % 65536).toInt32)
  | _ => none
def a_ref (r : Option Nat) : Value := match r with
  | none => .null
  | some b => .ref b
def a_sh (h : aH) (a : Nat) : Nat × Nat := h.2.2.1 a
def a_out (i : Int32) (n : Nat) : Prop := i < 0 ∨ n ≤ i.toNatClampNeg
/-- constants: bytes of the three Strings (addresses 1000010 ..), the row ABOVE (1000020) -/
def a_bytes : List (List Int32) := [
  [100, 111, 111, 114, 32, 115, 116, 97, 116, 101, 32, 116, 117, 114, 110, 32, 114, 111, 111, 109, 32, 107, 101, 121, 32, 111, 116, 104, 101, 114, 32, 115, 104, 117, 116, 32, 99, 111, 115, 116, 32, 119, 105, 115, 104, 32, 111, 114, 32, 97, 110, 100, 32, 110, 111, 116, 32],
  [40, 41, 59, 43, 45, 42, 60, 61],
  [115, 104, 117, 116, 32, 48, 32, 59, 32, 99, 111, 115, 116, 32, 49, 32, 43, 32, 115, 116, 97, 116, 101, 32, 59, 32, 119, 105, 115, 104, 32, 114, 111, 111, 109, 32, 61, 32, 50, 32, 59]]
def a_above : List Int32 := [-1, 0, 0, 0, 1, 2]
def a_cb : Nat := 1000000
/-- a constant's kind: 0 none, 1 a String, 2 its bytes, 3 the row ABOVE -/
def a_ck (a : Nat) : Nat × Nat := if a < 1000000 then (0, 0) else if a < 1000003 then (1, a - 1000000) else if a < 1000010 then (0, 0) else if a < 1000013 then (2, a - 1000010) else if a = 1000020 then (3, 0) else (0, 0)
/-- a link to a field of String: value (0), coder (1); a static: COMPACT_STRINGS (0), ABOVE (1), SIOOBE_FORMATTER (2) -/
def a_sfl : List (Nat × Nat × Nat) := [(9, 9, 0), (9, 15, 1)]
def a_gst : List (Nat × Nat × Nat) := [(9, 38, 0), (0, 32, 1), (9, 1053, 2)]
def a_gsv (k : Nat) : Value := match k with
  | 0 => .int 1
  | 1 => .ref 1000020
  | _ => .float 7
def a_getf (m idx : Nat) (a : Nat) (h : aH) : Option Value := match a_fld (a_own m) idx with
  | some (ci, k) => if (h.2.2.1 a).1 = ci then some (match a_fty ci k with
      | 0 => .int (h.2.2.2.1 a k)
      | 1 => .int (h.2.2.2.1 a k)
      | 2 => .long (h.2.2.2.2.1 a k)
      | _ => a_ref (h.2.2.2.2.2 a k)) else none
  | none => match a_look a_sfl (a_own m) idx with
    | some k => if (a_ck a).1 = 1 then some (if k = 0 then .ref (1000010 + (a_ck a).2) else .int 0) else none
    | none => none
def a_putf (m idx : Nat) (a : Nat) (v : Value) (h : aH) : Option aH := match a_fld (a_own m) idx with
  | some (ci, k) => if (h.2.2.1 a).1 = ci ∧ (a_fin ci k = false ∨ (a_ini m = true ∧ a_own m = ci)) then (match a_fty ci k, v with
      | 0, .int x => some (h.1, h.2.1, h.2.2.1, u2 h.2.2.2.1 a k x, h.2.2.2.2.1, h.2.2.2.2.2)
      | 1, .int x => if x = 0 ∨ x = 1 then some (h.1, h.2.1, h.2.2.1, u2 h.2.2.2.1 a k x, h.2.2.2.2.1, h.2.2.2.2.2) else none
      | 2, .long x => some (h.1, h.2.1, h.2.2.1, h.2.2.2.1, u2 h.2.2.2.2.1 a k x, h.2.2.2.2.2)
      | 3, .null => some (h.1, h.2.1, h.2.2.1, h.2.2.2.1, h.2.2.2.2.1, u2 h.2.2.2.2.2 a k none)
      | 3, .ref b => if b < 1000000 then some (h.1, h.2.1, h.2.2.1, h.2.2.2.1, h.2.2.2.2.1, u2 h.2.2.2.2.2 a k (some b)) else none
      | _, _ => none) else none
  | none => none
def a_aload (i : Instr) (x : Int32) (a : Nat) (h : aH) : Option Value := match i with
  | .iaload => if (h.2.2.1 a).1 = 100 then (if x < 0 ∨ (h.2.2.1 a).2 ≤ x.toNatClampNeg then none else some (.int (h.2.2.2.1 a x.toNatClampNeg)))
      else if (a_ck a).1 = 3 then (if x < 0 ∨ 6 ≤ x.toNatClampNeg then none else some (.int (a_above.getD x.toNatClampNeg 0))) else none
  | .laload => if (h.2.2.1 a).1 = 101 then (if x < 0 ∨ (h.2.2.1 a).2 ≤ x.toNatClampNeg then none else some (.long (h.2.2.2.2.1 a x.toNatClampNeg))) else none
  | .caload => if (h.2.2.1 a).1 = 102 then (if x < 0 ∨ (h.2.2.1 a).2 ≤ x.toNatClampNeg then none else some (.int (h.2.2.2.1 a x.toNatClampNeg))) else none
  | .aaload => if 110 ≤ (h.2.2.1 a).1 ∧ (h.2.2.1 a).1 < 118 then (if x < 0 ∨ (h.2.2.1 a).2 ≤ x.toNatClampNeg then none else some (a_ref (h.2.2.2.2.2 a x.toNatClampNeg))) else none
  | .baload => if (a_ck a).1 = 2 then (if x < 0 ∨ (a_bytes.getD (a_ck a).2 []).length ≤ x.toNatClampNeg then none else some (.int ((a_bytes.getD (a_ck a).2 []).getD x.toNatClampNeg 0))) else none
  | _ => none
def a_astore (i : Instr) (v : Value) (x : Int32) (a : Nat) (h : aH) : Option aH := match i, v with
  | .iastore, .int y => if (h.2.2.1 a).1 = 100 ∧ ¬ (x < 0 ∨ (h.2.2.1 a).2 ≤ x.toNatClampNeg) then some (h.1, h.2.1, h.2.2.1, u2 h.2.2.2.1 a x.toNatClampNeg y, h.2.2.2.2.1, h.2.2.2.2.2) else none
  | .castore, .int y => if (h.2.2.1 a).1 = 102 ∧ ¬ (x < 0 ∨ (h.2.2.1 a).2 ≤ x.toNatClampNeg) then some (h.1, h.2.1, h.2.2.1, u2 h.2.2.2.1 a x.toNatClampNeg (vp_nar .char y), h.2.2.2.2.1, h.2.2.2.2.2) else none
  | .lastore, .long y => if (h.2.2.1 a).1 = 101 ∧ ¬ (x < 0 ∨ (h.2.2.1 a).2 ≤ x.toNatClampNeg) then some (h.1, h.2.1, h.2.2.1, h.2.2.2.1, u2 h.2.2.2.2.1 a x.toNatClampNeg y, h.2.2.2.2.2) else none
  | .aastore, .ref b => if 110 ≤ (h.2.2.1 a).1 ∧ (h.2.2.1 b).1 + 110 = (h.2.2.1 a).1 ∧ (h.2.2.1 a).1 < 118 ∧ ¬ (x < 0 ∨ (h.2.2.1 a).2 ≤ x.toNatClampNeg) then some (h.1, h.2.1, h.2.2.1, h.2.2.2.1, h.2.2.2.2.1, u2 h.2.2.2.2.2 a x.toNatClampNeg (some b)) else none
  | _, _ => none
def a_alen (a : Nat) (h : aH) : Option Int32 := if 100 ≤ (h.2.2.1 a).1 ∧ (h.2.2.1 a).1 < 118 then some (Int32.ofNat (h.2.2.1 a).2) else if (a_ck a).1 = 2 then some (Int32.ofNat (a_bytes.getD (a_ck a).2 []).length) else none
/-- a new cell of a sort and a length -/
def a_new (kd len : Nat) (h : aH) : aH := (h.1 + 1, h.2.1 + len, u1 h.2.2.1 h.1 (kd, len), h.2.2.2)
def a_akind (t : ArrayType) : Option Nat := match t with
  | .int => some 100
  | .long => some 101
  | .char => some 102
  | _ => none
def a_rets (m : Nat) (v : Value) : Bool := match a_ret m, v with
  | some .int, .int _ => true
  | some .boolean, .int x => decide (x = 0 ∨ x = 1)
  | some .char, .int x => decide (x = (x.toUInt32 % 65536).toInt32)
  | some .byte, .int x => decide (x = x.toInt8.toInt32)
  | _, _ => false
def a_call (mid len pc : Nat) (n : Nat) (ls st : List Value) (h : aH) : aO :=
  if n ≤ st.length ∧ ((st.drop n).map Value.category).sum ≤ 8 then some (.inr (.inl (mid, (st.take n).reverse, (pc + len, ls, st.drop n, h)))) else none
/-- a receiver of the class of method mid: an object, or a String constant -/
def a_rcv (mid : Nat) (v : Option Value) (h : aH) : Bool := match v with
  | some (.ref b) => decide ((h.2.2.1 b).1 = a_own mid) || (decide (a_own mid = 9) && decide ((a_ck b).1 = 1))
  | _ => false
def a_ldI (v : Option Value) (pc len : Nat) (ls st : List Value) (h : aH) : aO := match v with
  | some (.int x) => a_go pc len ls (.int x :: st) h
  | _ => none
def a_ldL (v : Option Value) (pc len : Nat) (ls st : List Value) (h : aH) : aO := match v with
  | some (.long x) => a_go pc len ls (.long x :: st) h
  | _ => none
def a_ldA (v : Option Value) (pc len : Nat) (ls st : List Value) (h : aH) : aO := match v with
  | some (.ref x) => a_go pc len ls (.ref x :: st) h
  | some .null => a_go pc len ls (.null :: st) h
  | _ => none
def a_stI (k pc len : Nat) (ls st : List Value) (h : aH) : aO := match st with
  | .int x :: st' => (match a_set1 ls k (.int x) with | some ls' => a_go pc len ls' st' h | none => none)
  | _ => none
def a_stL (k pc len : Nat) (ls st : List Value) (h : aH) : aO := match st with
  | .long x :: st' => (match a_set2 ls k (.long x) with | some ls' => a_go pc len ls' st' h | none => none)
  | _ => none
def a_stA (k pc len : Nat) (ls st : List Value) (h : aH) : aO := match st with
  | .ref x :: st' => (match a_set1 ls k (.ref x) with | some ls' => a_go pc len ls' st' h | none => none)
  | .null :: st' => (match a_set1 ls k .null with | some ls' => a_go pc len ls' st' h | none => none)
  | _ => none
def a_iinc (k : Nat) (n : Int) (pc len : Nat) (ls st : List Value) (h : aH) : aO := match ls[k]? with
  | some (.int x) => (match a_set1 ls k (.int (x + Int32.ofInt n)) with | some ls' => a_go pc len ls' st h | none => none)
  | _ => none
def a_ldc (m idx pc len : Nat) (ls st : List Value) (h : aH) : aO := match a_look a_ci (a_own m) idx with
  | some e => a_go pc len ls (.int e.1 :: st) h
  | none => none
def a_ldcs (m idx pc len : Nat) (ls st : List Value) (h : aH) : aO := match a_look a_cs (a_own m) idx with
  | some k => a_go pc len ls (.ref (1000000 + k) :: st) h
  | none => none
def a_ldc2 (m idx pc len : Nat) (ls st : List Value) (h : aH) : aO := match a_look a_cj (a_own m) idx with
  | some e => a_go pc len ls (.long e.1 :: st) h
  | none => none
def a_idiv (pc len : Nat) (ls st : List Value) (h : aH) : aO := match st with
  | .int y :: .int x :: st' => if y = 0 then none else a_go pc len ls (.int (x / y) :: st') h
  | _ => none
def a_irem (pc len : Nat) (ls st : List Value) (h : aH) : aO := match st with
  | .int y :: .int x :: st' => if y = 0 then none else a_go pc len ls (.int (x - x / y * y) :: st') h
  | _ => none
/-- long arithmetic: of two longs, of a long and an int -/
def a_binL (i : Instr) : Option (Int64 → Int64 → Int64) := match i with
  | .land => some (fun x y => x &&& y)
  | .lor => some (fun x y => x ||| y)
  | _ => none
def a_binS (i : Instr) : Option (Int64 → Int32 → Int64) := match i with
  | .lshl => some (fun x y => x <<< (y.toInt64 &&& 63))
  | .lshr => some (fun x y => x >>> (y.toInt64 &&& 63))
  | _ => none
def a_ll (i : Instr) (pc len : Nat) (ls st : List Value) (h : aH) : aO := match st with
  | .long y :: .long x :: st' => (match a_binL i with | some f => a_go pc len ls (.long (f x y) :: st') h | none => none)
  | .int y :: .long x :: st' => (match a_binS i with | some f => a_go pc len ls (.long (f x y) :: st') h | none => none)
  | _ => none
def a_lc (pc len : Nat) (ls st : List Value) (h : aH) : aO := match st with
  | .long y :: .long x :: st' => a_go pc len ls (.int (lg_cmp x y) :: st') h
  | _ => none
def a_i2l (pc len : Nat) (ls st : List Value) (h : aH) : aO := match st with
  | .int x :: st' => a_go pc len ls (.long x.toInt64 :: st') h
  | _ => none
def a_l2i (pc len : Nat) (ls st : List Value) (h : aH) : aO := match st with
  | .long x :: st' => a_go pc len ls (.int x.toInt32 :: st') h
  | _ => none
/-- a branch, its target looked at -/
def a_br (b : Bool) (pc : Nat) (off : Int) (ls st : List Value) (h : aH) : aO := match (pc : Int) + off with
  | .ofNat t => some (.inl (if b = true then t else pc + 3, ls, st, h))
  | _ => none
def a_if2 (c : Jvm.ClassFile.Cond) (off : Int) (pc : Nat) (ls st : List Value) (h : aH) : aO := match st with
  | .int y :: .int x :: st' => a_br (a_icmp c x y) pc off ls st' h
  | _ => none
def a_if1 (c : Jvm.ClassFile.Cond) (off : Int) (pc : Nat) (ls st : List Value) (h : aH) : aO := match st with
  | .int x :: st' => a_br (a_icmp c x 0) pc off ls st' h
  | _ => none
def a_ifn (b : Bool) (off : Int) (pc : Nat) (ls st : List Value) (h : aH) : aO := match st with
  | .null :: st' => a_br b pc off ls st' h
  | .ref _ :: st' => a_br (!b) pc off ls st' h
  | _ => none
def a_tsw (dflt lo hi : Int) (offs : Array Int) (pc : Nat) (ls st : List Value) (h : aH) : aO := match st with
  | .int x :: st' => if x.toInt < lo ∨ hi < x.toInt then a_jmp pc dflt ls st' h else (match offs[(x.toInt - lo).toNat]? with
      | some off => a_jmp pc off ls st' h
      | none => none)
  | _ => none
def a_lsw (dflt : Int) (ps : Array (Int × Int)) (pc : Nat) (ls st : List Value) (h : aH) : aO := match st with
  | .int x :: st' => if (ps.toList.zip (ps.toList.drop 1)).all (fun (a, next) => a.1 < next.1) = true then a_jmp pc (Op.lookupswitch.offset ps.toList dflt x.toInt) ls st' h else none
  | _ => none
def a_al (pc len : Nat) (ls st : List Value) (h : aH) : aO := match st with
  | .ref a :: st' => (match a_alen a h with | some n => a_go pc len ls (.int n :: st') h | none => none)
  | _ => none
def a_gf (m idx pc len : Nat) (ls st : List Value) (h : aH) : aO := match st with
  | .ref a :: st' => (match a_getf m idx a h with | some v => a_go pc len ls (v :: st') h | none => none)
  | _ => none
def a_pf (m idx pc len : Nat) (ls st : List Value) (h : aH) : aO := match st with
  | v :: .ref a :: st' => (match a_putf m idx a v h with | some h' => a_go pc len ls st' h' | none => none)
  | _ => none
def a_gs (m idx pc len : Nat) (ls st : List Value) (h : aH) : aO := match a_look a_gst (a_own m) idx with
  | some k => a_go pc len ls (a_gsv k :: st) h
  | none => none
def a_nwo (m idx pc len : Nat) (ls st : List Value) (h : aH) : aO := match a_look a_nw (a_own m) idx with
  | some e => if h.1 < 1000000 then a_go pc len ls (.ref h.1 :: st) (a_new e.1 (a_nf e.1) h) else none
  | none => none
def a_nwa (t : ArrayType) (pc len : Nat) (ls st : List Value) (h : aH) : aO := match st with
  | .int n :: st' => (match a_akind t with
      | some k => if h.1 < 1000000 ∧ ¬ n < 0 ∧ n.toNatClampNeg ≤ 1000000 then a_go pc len ls (.ref h.1 :: st') (a_new k n.toNatClampNeg h) else none
      | none => none)
  | _ => none
def a_nwr (m idx pc len : Nat) (ls st : List Value) (h : aH) : aO := match st with
  | .int n :: st' => (match a_look a_nw (a_own m) idx with
      | some e => if h.1 < 1000000 ∧ ¬ n < 0 ∧ n.toNatClampNeg ≤ 1000000 ∧ (e.1 = 0 ∨ e.1 = 4 ∨ e.1 = 5) then a_go pc len ls (.ref h.1 :: st') (a_new (110 + e.1) n.toNatClampNeg h) else none
      | none => none)
  | _ => none
def a_dup (pc len : Nat) (ls st : List Value) (h : aH) : aO := match st with
  | v :: st' => if v.category = 1 then a_go pc len ls (v :: v :: st') h else none
  | _ => none
def a_dup2 (pc len : Nat) (ls st : List Value) (h : aH) : aO := match st with
  | v :: w :: st' => if v.category = 1 ∧ w.category = 1 then a_go pc len ls (v :: w :: v :: w :: st') h else none
  | _ => none
def a_pop (pc len : Nat) (ls st : List Value) (h : aH) : aO := match st with
  | v :: st' => if v.category = 1 then a_go pc len ls st' h else none
  | _ => none
/-- the locals are as many as the method has -/
def a_lok2 (m : Nat) (ls : List Value) : Bool := Nat.beq ls.length (a_maxL m)
def a_iS (m idx pc : Nat) (ls st : List Value) (h : aH) : aO := match a_cal (a_own m) idx with
  | some (0, mid) => a_call mid 3 pc (a_nar mid) ls st h
  | some (4, _) => (match st with
    | .int y :: .int x :: st' => if (st'.map Value.category).sum ≤ 8 then a_go pc 3 ls (.int (if x < y then y else x) :: st') h else none
    | _ => none)
  | some (5, _) => (match st with
    | .int y :: .int x :: st' => if (st'.map Value.category).sum ≤ 8 then a_go pc 3 ls (.int (if y < x then y else x) :: st') h else none
    | _ => none)
  | some (6, _) => (match st with
    | .int n :: .int dp :: .ref b :: .int sp :: .ref a :: st' => if (h.2.2.1 a).1 = 100 ∧ (h.2.2.1 b).1 = 100 ∧ ¬ sp < 0 ∧ ¬ dp < 0 ∧ ¬ n < 0 ∧ sp.toNatClampNeg + n.toNatClampNeg ≤ (h.2.2.1 a).2 ∧ dp.toNatClampNeg + n.toNatClampNeg ≤ (h.2.2.1 b).2 ∧ (st'.map Value.category).sum ≤ 8 then
        a_go pc 3 ls st' (h.1, h.2.1, h.2.2.1, (fun o => if o = b then va_cpy (h.2.2.2.1 a) (h.2.2.2.1 b) sp.toNatClampNeg dp.toNatClampNeg n.toNatClampNeg else h.2.2.2.1 o), h.2.2.2.2) else none
    | _ => none)
  | _ => none
def a_iV (m idx pc : Nat) (ls st : List Value) (h : aH) : aO := match a_cal (a_own m) idx with
  | some (1, mid) => if a_rcv mid st[a_nar mid]? h = true then a_call mid 3 pc (a_nar mid + 1) ls st h else none
  | _ => none
def a_iI (m idx pc : Nat) (ls st : List Value) (h : aH) : aO := match a_cal (a_own m) idx with
  | some (2, mid) => if a_rcv mid st[a_nar mid]? h = true then a_call mid 3 pc (a_nar mid + 1) ls st h else none
  | some (7, mid) => if a_rcv mid st[a_nar mid]? h = true then a_call mid 3 pc (a_nar mid + 1) ls st h else none
  | some (3, _) => (match st with
    | .ref _ :: st' => if (st'.map Value.category).sum ≤ 8 then a_go pc 3 ls st' h else none
    | _ => none)
  | _ => none
def a_rti (m : Nat) (st : List Value) (h : aH) : aO := match st with
  | [v] => if a_rets m v = true then some (.inr (.inr (some v, h))) else none
  | _ => none
def a_rtl (m : Nat) (st : List Value) (h : aH) : aO := match st with
  | [.long x] => if a_ret m = some .long then some (.inr (.inr (some (.long x), h))) else none
  | _ => none
def a_isO (r : Option FieldType) : Bool := match r with
  | some (.object _) => true
  | _ => false
def a_rta (m : Nat) (st : List Value) (h : aH) : aO := match st with
  | [.null] => if a_isO (a_ret m) = true then some (.inr (.inr (some .null, h))) else none
  | [.ref x] => if a_isO (a_ret m) = true then some (.inr (.inr (some (.ref x), h))) else none
  | _ => none
def a_rtv (m : Nat) (st : List Value) (h : aH) : aO := match st with
  | [] => if a_ret m = none then some (.inr (.inr (none, h))) else none
  | _ => none
def a_u1 (i : Instr) (pc len : Nat) (ls st : List Value) (h : aH) : aO := match st with
  | .int x :: st' => (match a_un i with | some f => a_go pc len ls (.int (f x) :: st') h | none => none)
  | _ => none
def a_b2 (i : Instr) (pc len : Nat) (ls st : List Value) (h : aH) : aO := match st with
  | .int y :: .int x :: st' => (match a_bin i with | some f => a_go pc len ls (.int (f x y) :: st') h | none => none)
  | _ => none
def a_ld (i : Instr) (pc len : Nat) (ls st : List Value) (h : aH) : aO := match st with
  | .int x :: .ref a :: st' => (match a_aload i x a h with | some v => a_go pc len ls (v :: st') h | none => none)
  | _ => none
def a_sv (i : Instr) (pc len : Nat) (ls st : List Value) (h : aH) : aO := match st with
  | v :: .int x :: .ref a :: st' => (match a_astore i v x a h with | some h' => a_go pc len ls st' h' | none => none)
  | _ => none
/-- one instruction -/
def a_stepI (m pc : Nat) (ls st : List Value) (h : aH) (i : Instr) (len : Nat) : aO := match i with
  | .iload k => a_ldI ls[k]? pc len ls st h
  | .iload_n k => a_ldI ls[k.val]? pc len ls st h
  | .lload k => a_ldL ls[k]? pc len ls st h
  | .lload_n k => a_ldL ls[k.val]? pc len ls st h
  | .aload k => a_ldA ls[k]? pc len ls st h
  | .aload_n k => a_ldA ls[k.val]? pc len ls st h
  | .istore k => a_stI k pc len ls st h
  | .istore_n k => a_stI k.val pc len ls st h
  | .lstore k => a_stL k pc len ls st h
  | .lstore_n k => a_stL k.val pc len ls st h
  | .astore k => a_stA k pc len ls st h
  | .astore_n k => a_stA k.val pc len ls st h
  | .iinc k n => a_iinc k n pc len ls st h
  | .iconst n => a_go pc len ls (.int (Int32.ofInt n) :: st) h
  | .bipush n => a_go pc len ls (.int (Int8.ofInt n).toInt32 :: st) h
  | .sipush n => a_go pc len ls (.int (Int16.ofInt n).toInt32 :: st) h
  | .lconst n => a_go pc len ls (.long (Int64.ofNat (n : Nat)) :: st) h
  | .aconst_null => a_go pc len ls (.null :: st) h
  | .ldc idx => if (a_look a_cs (a_own m) idx).isSome = true then a_ldcs m idx pc len ls st h else a_ldc m idx pc len ls st h
  | .ldc_w idx => a_ldc m idx pc len ls st h
  | .ldc2_w idx => a_ldc2 m idx pc len ls st h
  | .idiv => a_idiv pc len ls st h
  | .irem => a_irem pc len ls st h
  | .land => a_ll .land pc len ls st h
  | .lor => a_ll .lor pc len ls st h
  | .lshl => a_ll .lshl pc len ls st h
  | .lshr => a_ll .lshr pc len ls st h
  | .lcmp => a_lc pc len ls st h
  | .i2l => a_i2l pc len ls st h
  | .l2i => a_l2i pc len ls st h
  | .goto off => a_jmp pc off ls st h
  | .if_icmp c off => a_if2 c off pc ls st h
  | .ifCond c off => a_if1 c off pc ls st h
  | .ifnull off => a_ifn true off pc ls st h
  | .ifnonnull off => a_ifn false off pc ls st h
  | .tableswitch dflt lo hi offs => a_tsw dflt lo hi offs pc ls st h
  | .lookupswitch dflt ps => a_lsw dflt ps pc ls st h
  | .arraylength => a_al pc len ls st h
  | .getfield idx => a_gf m idx pc len ls st h
  | .putfield idx => a_pf m idx pc len ls st h
  | .getstatic idx => a_gs m idx pc len ls st h
  | .new idx => a_nwo m idx pc len ls st h
  | .newarray t => a_nwa t pc len ls st h
  | .anewarray idx => a_nwr m idx pc len ls st h
  | .dup => a_dup pc len ls st h
  | .dup2 => a_dup2 pc len ls st h
  | .pop => a_pop pc len ls st h
  | .invokestatic idx => if a_lok2 m ls = true then a_iS m idx pc ls st h else none
  | .invokevirtual idx => if a_lok2 m ls = true then a_iV m idx pc ls st h else none
  | .invokespecial idx => if a_lok2 m ls = true then a_iI m idx pc ls st h else none
  | .ireturn => a_rti m st h
  | .lreturn => a_rtl m st h
  | .areturn => a_rta m st h
  | .return_ => a_rtv m st h
  | .ineg => a_u1 .ineg pc len ls st h
  | .i2b => a_u1 .i2b pc len ls st h
  | .i2s => a_u1 .i2s pc len ls st h
  | .i2c => a_u1 .i2c pc len ls st h
  | .iadd => a_b2 .iadd pc len ls st h
  | .isub => a_b2 .isub pc len ls st h
  | .imul => a_b2 .imul pc len ls st h
  | .iand => a_b2 .iand pc len ls st h
  | .ior => a_b2 .ior pc len ls st h
  | .ixor => a_b2 .ixor pc len ls st h
  | .ishl => a_b2 .ishl pc len ls st h
  | .ishr => a_b2 .ishr pc len ls st h
  | .iushr => a_b2 .iushr pc len ls st h
  | .iaload => a_ld .iaload pc len ls st h
  | .laload => a_ld .laload pc len ls st h
  | .caload => a_ld .caload pc len ls st h
  | .aaload => a_ld .aaload pc len ls st h
  | .baload => a_ld .baload pc len ls st h
  | .iastore => a_sv .iastore pc len ls st h
  | .lastore => a_sv .lastore pc len ls st h
  | .castore => a_sv .castore pc len ls st h
  | .aastore => a_sv .aastore pc len ls st h
  | _ => none
/-- how long an instruction is (a switch: any) -/
def a_lok (i : Instr) (len : Nat) : Bool := match i with
  | .tableswitch _ _ _ _ => true
  | .lookupswitch _ _ => true
  | .iload _ => Nat.beq len 2
  | .lload _ => Nat.beq len 2
  | .aload _ => Nat.beq len 2
  | .istore _ => Nat.beq len 2
  | .lstore _ => Nat.beq len 2
  | .astore _ => Nat.beq len 2
  | .bipush _ => Nat.beq len 2
  | .ldc _ => Nat.beq len 2
  | .newarray _ => Nat.beq len 2
  | .iinc _ _ => Nat.beq len 3
  | .sipush _ => Nat.beq len 3
  | .ldc_w _ => Nat.beq len 3
  | .ldc2_w _ => Nat.beq len 3
  | .goto _ => Nat.beq len 3
  | .if_icmp _ _ => Nat.beq len 3
  | .ifCond _ _ => Nat.beq len 3
  | .ifnull _ => Nat.beq len 3
  | .ifnonnull _ => Nat.beq len 3
  | .getfield _ => Nat.beq len 3
  | .putfield _ => Nat.beq len 3
  | .getstatic _ => Nat.beq len 3
  | .new _ => Nat.beq len 3
  | .anewarray _ => Nat.beq len 3
  | .invokestatic _ => Nat.beq len 3
  | .invokevirtual _ => Nat.beq len 3
  | .invokespecial _ => Nat.beq len 3
  | _ => Nat.beq len 1
def a_step (m : Nat) (s : aS) : aO := match decode (a_code m) s.1 with
  | .ok (i, len) => if a_lok i len = true then a_stepI m s.1 s.2.1 s.2.2.1 s.2.2.2 i len else none
  | .error _ => none
/-- what a method's run from a state comes to, calls given -/
def a_run (call : Nat → List Value → aH → Option Value → aH → Prop) (m : Nat) : Nat → aS → Option Value → aH → Prop
  | 0, _, _, _ => False
  | n + 1, s, v, h' => match a_step m s with
    | none => False
    | some (.inl s') => a_run call m n s' v h'
    | some (.inr (.inl (mid, args, s'))) => ∃ (v1 : Option Value) (h1 : aH), call mid args s'.2.2.2 v1 h1 ∧ a_run call m n (s'.1, s'.2.1, v1.toList ++ s'.2.2.1, h1) v h'
    | some (.inr (.inr (v0, h0))) => v = v0 ∧ h' = h0
/-- arguments as locals: a long has a hole behind it -/
def a_args : List Value → List Value
  | [] => []
  | v :: vs => if v.category = 2 then v :: a_hole :: a_args vs else v :: a_args vs
def a_entry (m : Nat) (args : List Value) : List Value := a_args args ++ List.replicate (a_maxL m - (a_args args).length) a_hole
/-- a call of method m comes, at depth d, to an answer and a heap -/
def a_cl_ : Nat → Nat → List Value → aH → Option Value → aH → Prop
  | 0, _, _, _, _, _ => False
  | d + 1, m, args, h, v, h' => (a_args args).length ≤ a_maxL m ∧ ∃ n, a_run (a_cl_ d) m n (0, a_entry m args, [], h) v h'
