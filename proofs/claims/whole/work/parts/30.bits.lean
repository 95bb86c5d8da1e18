/-! situations as numbers: states, turn, room; the class's words for them -/
def stt (s d : Nat) : Nat := s / 4 ^ d % 4
def tno (s : Nat) : Nat := s / 256 % 4
def rmo (s : Nat) : Nat := s / 1024
def wst (s d v : Nat) : Nat := s - stt s d * 4 ^ d + v * 4 ^ d
def wtn (s v : Nat) : Nat := s / 1024 * 1024 + v * 256 + s % 256
def wrm (s r : Nat) : Nat := s % 1024 + r * 1024
def ndL (k : Nat) (p : Nat → Bool) : Bool := (List.range k).all p
theorem ndL_at {k : Nat} {p : Nat → Bool} (h : ndL k p = true) {i : Nat} (hi : i < k) : p i = true := List.all_eq_true.mp h i (List.mem_range.mpr hi)
def bt_ws (s d v : Nat) : Bool := decide (((nI s &&& (3 <<< ((2 * nI d) &&& 31) ^^^ -1)) ||| nI v <<< ((2 * nI d) &&& 31)) = nI (wst s d v))
set_option maxRecDepth 100000 in
theorem bt_ws_ok : ndL 96 (fun a => ndL 64 (fun b => ndL 4 (fun d => ndL 4 (fun v => bt_ws (a * 64 + b) d v)))) = true := by decide +kernel
theorem ndL_6144 {p : Nat → Bool} (h : ndL 96 (fun a => ndL 64 (fun b => p (a * 64 + b))) = true) {s : Nat} (hs : s < 6144) : p s = true := by
  have h1 := ndL_at (ndL_at h (show s / 64 < 96 by omega)) (show s % 64 < 64 by omega)
  rw [show s / 64 * 64 + s % 64 = s by omega] at h1
  exact h1
theorem bt_wst {s d v : Nat} (hs : s < 6144) (hd : d < 4) (hv : v < 4) : ((nI s &&& (3 <<< ((2 * nI d) &&& 31) ^^^ -1)) ||| nI v <<< ((2 * nI d) &&& 31)) = nI (wst s d v) := of_decide_eq_true (ndL_at (ndL_at (ndL_6144 (p := fun s => ndL 4 (fun d => ndL 4 (fun v => bt_ws s d v))) bt_ws_ok hs) hd) hv)
set_option maxRecDepth 100000 in
theorem bt_st_ok : ndL 96 (fun a => ndL 64 (fun b => ndL 4 (fun d => decide (nI (a * 64 + b) >>> ((2 * nI d) &&& 31) &&& 3 = nI (stt (a * 64 + b) d))))) = true := by decide +kernel
theorem bt_stt {s d : Nat} (hs : s < 6144) (hd : d < 4) : nI s >>> ((2 * nI d) &&& 31) &&& 3 = nI (stt s d) := of_decide_eq_true (ndL_at (ndL_6144 (p := fun s => ndL 4 (fun d => decide (nI s >>> ((2 * nI d) &&& 31) &&& 3 = nI (stt s d)))) bt_st_ok hs) hd)
set_option maxRecDepth 100000 in
theorem bt_tn_ok : ndL 96 (fun a => ndL 64 (fun b => decide (nI (a * 64 + b) >>> (8 &&& 31) &&& 3 = nI (tno (a * 64 + b)) ∧ nI (a * 64 + b) >>> (10 &&& 31) = nI (rmo (a * 64 + b))))) = true := by decide +kernel
theorem bt_tno {s : Nat} (hs : s < 6144) : nI s >>> (8 &&& 31) &&& 3 = nI (tno s) := (of_decide_eq_true (ndL_6144 (p := fun s => decide (nI s >>> (8 &&& 31) &&& 3 = nI (tno s) ∧ nI s >>> (10 &&& 31) = nI (rmo s))) bt_tn_ok hs)).1
theorem bt_rmo {s : Nat} (hs : s < 6144) : nI s >>> (10 &&& 31) = nI (rmo s) := (of_decide_eq_true (ndL_6144 (p := fun s => decide (nI s >>> (8 &&& 31) &&& 3 = nI (tno s) ∧ nI s >>> (10 &&& 31) = nI (rmo s))) bt_tn_ok hs)).2
set_option maxRecDepth 100000 in
theorem bt_wr_ok : ndL 96 (fun a => ndL 64 (fun b => ndL 6 (fun r => decide ((nI (a * 64 + b) &&& (1023 : Int32)) ||| nI r <<< (10 &&& 31) = nI (wrm (a * 64 + b) r))))) = true := by decide +kernel
theorem bt_wrm {s r : Nat} (hs : s < 6144) (hr : r < 6) : (nI s &&& (1023 : Int32)) ||| nI r <<< (10 &&& 31) = nI (wrm s r) := of_decide_eq_true (ndL_at (ndL_6144 (p := fun s => ndL 6 (fun r => decide ((nI s &&& (1023 : Int32)) ||| nI r <<< (10 &&& 31) = nI (wrm s r)))) bt_wr_ok hs) hr)
set_option maxRecDepth 100000 in
theorem bt_wt_ok : ndL 96 (fun a => ndL 64 (fun b => ndL 4 (fun v => decide ((nI (a * 64 + b) &&& (-769 : Int32)) ||| nI v <<< (8 &&& 31) = nI (wtn (a * 64 + b) v))))) = true := by decide +kernel
theorem bt_wtn {s v : Nat} (hs : s < 6144) (hv : v < 4) : (nI s &&& (-769 : Int32)) ||| nI v <<< (8 &&& 31) = nI (wtn s v) := of_decide_eq_true (ndL_at (ndL_6144 (p := fun s => ndL 4 (fun v => decide ((nI s &&& (-769 : Int32)) ||| nI v <<< (8 &&& 31) = nI (wtn s v)))) bt_wt_ok hs) hv)
theorem bt_of_ok : ndL 6 (fun r => ndL 4 (fun t => ndL 256 (fun q => decide ((nI r <<< (10 &&& 31) ||| nI t <<< (8 &&& 31)) ||| nI q = nI (r * 1024 + t * 256 + q))))) = true := by decide +kernel
theorem bt_of {r t q : Nat} (hr : r < 6) (ht : t < 4) (hq : q < 256) : (nI r <<< (10 &&& 31) ||| nI t <<< (8 &&& 31)) ||| nI q = nI (r * 1024 + t * 256 + q) := of_decide_eq_true (ndL_at (ndL_at (ndL_at bt_of_ok hr) ht) hq)
