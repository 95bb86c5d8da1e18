/-! the law: each call's two answers, and the two states behind it -/
def lw_T1 : Nat := 12 + 8062
def lw_T2 : Nat := 48 + 47264
def lw_op (mC mM : Nat) (As : List Value) : Prop := ∀ (Z : Nat → Nat) (D : Nat → Nat → Nat) (tx : Nat → Nat → List Nat) (tp so sz : Nat → Nat) (it : Nat → Nat → Int32) (hC hM : aH), RK lw_T1 Z D tx tp so sz it hC → RMh lw_T2 Z D tx tp so sz it hM →
  ∃ (r : Int32) (Z' : Nat → Nat) (D' : Nat → Nat → Nat) (tx' : Nat → Nat → List Nat) (tp' so' sz' : Nat → Nat) (it' : Nat → Nat → Int32), aC 200 mC (.ref 0 :: As) hC (fun v h' => v = some (.int r) ∧ RK lw_T1 Z' D' tx' tp' so' sz' it' h') ∧ aC 200 mM (.ref 0 :: As) hM (fun v h' => v = some (.int r) ∧ RMh lw_T2 Z' D' tx' tp' so' sz' it' h')
theorem lw_o0 (x0 : Int32) (x1 : Int32) (x2 : Int32) : lw_op 79 117 [.int x0, .int x1, .int x2] := by
  rintro Z D tx tp so sz it ⟨n, t, sh, I, L, R⟩ ⟨n2, t2, sh2, I2, L2, R2⟩ hk hm
  exact ⟨_, _, _, _, _, _, _, _, k79 (by decide) hk (fun h' h => ⟨rfl, h⟩), k117 (by decide) ⟨hk.1, hm⟩ (fun h' h => ⟨rfl, h⟩)⟩
theorem lw_o1 (x0 : Int32) (x1 : Int32) (x2 : Int32) : lw_op 80 120 [.int x0, .int x1, .int x2] := by
  rintro Z D tx tp so sz it ⟨n, t, sh, I, L, R⟩ ⟨n2, t2, sh2, I2, L2, R2⟩ hk hm
  exact ⟨_, _, _, _, _, _, _, _, k80 (by decide) hk (fun h' h => ⟨rfl, h⟩), k120 (by decide) ⟨hk.1, hm⟩ (fun h' h => ⟨rfl, h⟩)⟩
theorem lw_o2 (x0 : Int32) (x1 : Int32) : lw_op 85 123 [.int x0, .int x1] := by
  rintro Z D tx tp so sz it ⟨n, t, sh, I, L, R⟩ ⟨n2, t2, sh2, I2, L2, R2⟩ hk hm
  exact ⟨_, _, _, _, _, _, _, _, (k85 (by decide) hk).mpr ⟨rfl, hk⟩, k123 (by decide) ⟨hk.1, hm⟩ (fun h' h => ⟨rfl, h.2⟩)⟩
theorem lw_o3  : lw_op 86 133 [] := by
  rintro Z D tx tp so sz it ⟨n, t, sh, I, L, R⟩ ⟨n2, t2, sh2, I2, L2, R2⟩ hk hm
  exact ⟨_, _, _, _, _, _, _, _, (k86 (by decide) hk).mpr ⟨rfl, hk⟩, k133 (by decide) ⟨hk.1, hm⟩ (fun h' h => ⟨rfl, h⟩)⟩
theorem lw_o4 (x0 : Int32) (x1 : Int64) : lw_op 87 136 [.int x0, .long x1] := by
  rintro Z D tx tp so sz it ⟨n, t, sh, I, L, R⟩ ⟨n2, t2, sh2, I2, L2, R2⟩ hk hm
  exact ⟨_, _, _, _, _, _, _, _, k87 (by decide) hk (fun h' h => ⟨rfl, h⟩), k136 (by decide) ⟨hk.1, hm⟩ (fun h' h => ⟨rfl, h⟩)⟩
theorem lw_o5  : lw_op 88 137 [] := by
  rintro Z D tx tp so sz it ⟨n, t, sh, I, L, R⟩ ⟨n2, t2, sh2, I2, L2, R2⟩ hk hm
  exact ⟨_, _, _, _, _, _, _, _, k88 (by decide) hk (fun h' h => ⟨rfl, h⟩), k137 (by decide) ⟨hk.1, hm⟩ (fun h' h => ⟨rfl, h⟩)⟩
theorem lw_o6 (x0 : Int32) : lw_op 89 155 [.int x0] := by
  rintro Z D tx tp so sz it ⟨n, t, sh, I, L, R⟩ ⟨n2, t2, sh2, I2, L2, R2⟩ hk hm
  exact ⟨_, _, _, _, _, _, _, _, k89 (by decide) hk (fun h' h => ⟨rfl, h⟩), k155 (by decide) ⟨hk.1, hm⟩ (fun h' h => ⟨rfl, h⟩)⟩
theorem lw_o7  : lw_op 90 156 [] := by
  rintro Z D tx tp so sz it ⟨n, t, sh, I, L, R⟩ ⟨n2, t2, sh2, I2, L2, R2⟩ hk hm
  exact ⟨_, _, _, _, _, _, _, _, k90 (by decide) hk (fun h' h => ⟨rfl, h⟩), k156 (by decide) ⟨hk.1, hm⟩ (fun h' h => ⟨rfl, h.2⟩)⟩
theorem lw_o8 (x0 : Int32) : lw_op 91 158 [.int x0] := by
  rintro Z D tx tp so sz it ⟨n, t, sh, I, L, R⟩ ⟨n2, t2, sh2, I2, L2, R2⟩ hk hm
  exact ⟨_, _, _, _, _, _, _, _, k91 (by decide) hk (fun h' h => ⟨rfl, h⟩), k158 (by decide) ⟨hk.1, hm⟩ (fun h' h => ⟨rfl, h⟩)⟩
theorem lw_o9 (x0 : Int32) : lw_op 92 160 [.int x0] := by
  rintro Z D tx tp so sz it ⟨n, t, sh, I, L, R⟩ ⟨n2, t2, sh2, I2, L2, R2⟩ hk hm
  exact ⟨_, _, _, _, _, _, _, _, k92 (by decide) hk (fun h' h => ⟨rfl, h⟩), k160 (by decide) ⟨hk.1, hm⟩ (fun h' h => ⟨rfl, h⟩)⟩
theorem lw_o10 (x0 : Int32) : lw_op 93 167 [.int x0] := by
  rintro Z D tx tp so sz it ⟨n, t, sh, I, L, R⟩ ⟨n2, t2, sh2, I2, L2, R2⟩ hk hm
  exact ⟨_, _, _, _, _, _, _, _, k93 (by decide) hk (fun h' h => ⟨rfl, h⟩), k167 (by decide) ⟨hk.1, hm⟩ (fun h' h => ⟨rfl, h⟩)⟩
theorem lw_o11 (x0 : Int32) (x1 : Int32) : lw_op 94 169 [.int x0, .int x1] := by
  rintro Z D tx tp so sz it ⟨n, t, sh, I, L, R⟩ ⟨n2, t2, sh2, I2, L2, R2⟩ hk hm
  exact ⟨_, _, _, _, _, _, _, _, k94 (by decide) hk (fun h' h => ⟨rfl, h⟩), k169 (by decide) ⟨hk.1, hm⟩ (fun h' h => ⟨rfl, h⟩)⟩
theorem lw_o12 (x0 : Int32) : lw_op 95 171 [.int x0] := by
  rintro Z D tx tp so sz it ⟨n, t, sh, I, L, R⟩ ⟨n2, t2, sh2, I2, L2, R2⟩ hk hm
  exact ⟨_, _, _, _, _, _, _, _, k95 (by decide) hk (fun h' h => ⟨rfl, h⟩), k171 (by decide) ⟨hk.1, hm⟩ (fun h' h => ⟨rfl, h⟩)⟩
theorem lw_o13  : lw_op 96 172 [] := by
  rintro Z D tx tp so sz it ⟨n, t, sh, I, L, R⟩ ⟨n2, t2, sh2, I2, L2, R2⟩ hk hm
  exact ⟨_, _, _, _, _, _, _, _, k96 (by decide) hk (fun h' h => ⟨rfl, h⟩), k172 (by decide) ⟨hk.1, hm⟩ (fun h' h => ⟨rfl, h⟩)⟩
theorem lw_o14  : lw_op 97 173 [] := by
  rintro Z D tx tp so sz it ⟨n, t, sh, I, L, R⟩ ⟨n2, t2, sh2, I2, L2, R2⟩ hk hm
  exact ⟨_, _, _, _, _, _, _, _, k97 (by decide) hk (fun h' h => ⟨rfl, h⟩), k173 (by decide) ⟨hk.1, hm⟩ (fun h' h => ⟨rfl, h⟩)⟩
theorem lw_o15 (x0 : Int32) : lw_op 98 174 [.int x0] := by
  rintro Z D tx tp so sz it ⟨n, t, sh, I, L, R⟩ ⟨n2, t2, sh2, I2, L2, R2⟩ hk hm
  exact ⟨_, _, _, _, _, _, _, _, (k98 (by decide) hk).mpr ⟨rfl, hk⟩, k174 (by decide) ⟨hk.1, hm⟩ (fun h' h => ⟨rfl, h⟩)⟩
theorem lw_o16 (x0 : Int32) (x1 : Int32) : lw_op 100 178 [.int x0, .int x1] := by
  rintro Z D tx tp so sz it ⟨n, t, sh, I, L, R⟩ ⟨n2, t2, sh2, I2, L2, R2⟩ hk hm
  exact ⟨_, _, _, _, _, _, _, _, k100 (by decide) hk (fun h' h => ⟨rfl, h⟩), k178 (by decide) ⟨hk.1, hm⟩ (fun h' h => ⟨rfl, h⟩)⟩
theorem lw_o17 (x0 : Int32) (x1 : Int32) : lw_op 101 179 [.int x0, .int x1] := by
  rintro Z D tx tp so sz it ⟨n, t, sh, I, L, R⟩ ⟨n2, t2, sh2, I2, L2, R2⟩ hk hm
  exact ⟨_, _, _, _, _, _, _, _, k101 (by decide) hk ⟨rfl, hk⟩, k179 (by decide) ⟨hk.1, hm⟩ (fun h' h => ⟨rfl, h⟩)⟩
theorem lw_o18  : lw_op 105 182 [] := by
  rintro Z D tx tp so sz it ⟨n, t, sh, I, L, R⟩ ⟨n2, t2, sh2, I2, L2, R2⟩ hk hm
  exact ⟨_, _, _, _, _, _, _, _, k105 (by decide) hk (fun h' h => ⟨rfl, h⟩), k182 (by decide) ⟨hk.1, hm⟩ (fun h' h => ⟨rfl, h⟩)⟩
theorem lw_o19 (x0 : Int32) (x1 : Int32) : lw_op 107 184 [.int x0, .int x1] := by
  rintro Z D tx tp so sz it ⟨n, t, sh, I, L, R⟩ ⟨n2, t2, sh2, I2, L2, R2⟩ hk hm
  exact ⟨_, _, _, _, _, _, _, _, k107 (by decide) hk (fun h' h => ⟨rfl, h⟩), k184 (by decide) ⟨hk.1, hm⟩ (fun h' h => ⟨rfl, h⟩)⟩
theorem lw_o20  : lw_op 108 185 [] := by
  rintro Z D tx tp so sz it ⟨n, t, sh, I, L, R⟩ ⟨n2, t2, sh2, I2, L2, R2⟩ hk hm
  exact ⟨_, _, _, _, _, _, _, _, k108 (by decide) hk (fun h' h => ⟨rfl, h⟩), k185 (by decide) ⟨hk.1, hm⟩ (fun h' h => ⟨rfl, h⟩)⟩
theorem lw_o21  : lw_op 109 186 [] := by
  rintro Z D tx tp so sz it ⟨n, t, sh, I, L, R⟩ ⟨n2, t2, sh2, I2, L2, R2⟩ hk hm
  exact ⟨_, _, _, _, _, _, _, _, k109 (by decide) hk (fun h' h => ⟨rfl, h⟩), k186 (by decide) ⟨hk.1, hm⟩ (fun h' h => ⟨rfl, h⟩)⟩
theorem lw_o22 (x0 : Int32) : lw_op 110 187 [.int x0] := by
  rintro Z D tx tp so sz it ⟨n, t, sh, I, L, R⟩ ⟨n2, t2, sh2, I2, L2, R2⟩ hk hm
  exact ⟨_, _, _, _, _, _, _, _, (k110 (by decide) hk).mpr ⟨rfl, hk⟩, k187 (by decide) ⟨hk.1, hm⟩ (fun h' h => ⟨rfl, h.2⟩)⟩
theorem lw_o23 (x0 : Int32) (x1 : Int32) (x2 : Int32) : lw_op 111 188 [.int x0, .int x1, .int x2] := by
  rintro Z D tx tp so sz it ⟨n, t, sh, I, L, R⟩ ⟨n2, t2, sh2, I2, L2, R2⟩ hk hm
  exact ⟨_, _, _, _, _, _, _, _, k111 (by decide) hk (fun h' h => ⟨rfl, h⟩), k188 (by decide) ⟨hk.1, hm⟩ (fun h' h => ⟨rfl, h⟩)⟩
theorem lw_o24 (x0 : Int32) (x1 : Int32) (x2 : Int32) : lw_op 112 189 [.int x0, .int x1, .int x2] := by
  rintro Z D tx tp so sz it ⟨n, t, sh, I, L, R⟩ ⟨n2, t2, sh2, I2, L2, R2⟩ hk hm
  exact ⟨_, _, _, _, _, _, _, _, k112 (by decide) hk (fun h' h => ⟨rfl, h⟩), k189 (by decide) ⟨hk.1, hm⟩ (fun h' h => ⟨rfl, h⟩)⟩
theorem lw_o25 (x0 : Int32) (x1 : Int32) (x2 : Int32) (x3 : Int32) (x4 : Int32) : lw_op 113 190 [.int x0, .int x1, .int x2, .int x3, .int x4] := by
  rintro Z D tx tp so sz it ⟨n, t, sh, I, L, R⟩ ⟨n2, t2, sh2, I2, L2, R2⟩ hk hm
  exact ⟨_, _, _, _, _, _, _, _, k113 (by decide) hk (fun h' h => ⟨rfl, h⟩), k190 (by decide) ⟨hk.1, hm⟩ (fun h' h => ⟨rfl, h⟩)⟩
theorem lw_o26 (x0 : Int32) (x1 : Int32) (x2 : Int32) (x3 : Int32) : lw_op 114 191 [.int x0, .int x1, .int x2, .int x3] := by
  rintro Z D tx tp so sz it ⟨n, t, sh, I, L, R⟩ ⟨n2, t2, sh2, I2, L2, R2⟩ hk hm
  exact ⟨_, _, _, _, _, _, _, _, k114 (by decide) hk (fun h' h => ⟨rfl, h⟩), k191 (by decide) ⟨hk.1, hm⟩ (fun h' h => ⟨rfl, h⟩)⟩
theorem lw_o27 (x0 : Int32) (x1 : Int32) : lw_op 115 192 [.int x0, .int x1] := by
  rintro Z D tx tp so sz it ⟨n, t, sh, I, L, R⟩ ⟨n2, t2, sh2, I2, L2, R2⟩ hk hm
  exact ⟨_, _, _, _, _, _, _, _, (k115 (by decide) hk).mpr ⟨rfl, hk⟩, k192 (by decide) ⟨hk.1, hm⟩ (fun h' h => ⟨rfl, h⟩)⟩
