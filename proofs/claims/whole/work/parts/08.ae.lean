/-! runs by what they come to: aE from a state in a method, aC of a call -/
def aE (call : Nat → List Value → aH → Option Value → aH → Prop) (m : Nat) (s : aS) (Q : Option Value → aH → Prop) : Prop := ∃ (n : Nat) (v : Option Value) (h' : aH), a_run call m n s v h' ∧ Q v h'
def aC (d m : Nat) (args : List Value) (h : aH) (Q : Option Value → aH → Prop) : Prop := ∃ (v : Option Value) (h' : aH), a_cl_ d m args h v h' ∧ Q v h'
theorem aE_step {call : Nat → List Value → aH → Option Value → aH → Prop} {m : Nat} {s s' : aS} {Q : Option Value → aH → Prop} (hs : a_step m s = some (.inl s')) : aE call m s Q ↔ aE call m s' Q := by
  constructor
  · rintro ⟨n, v, h', hr, hq⟩
    cases n with
    | zero => exact hr.elim
    | succ n =>
      simp only [a_run, hs] at hr
      exact ⟨n, v, h', hr, hq⟩
  · rintro ⟨n, v, h', hr, hq⟩
    refine ⟨n + 1, v, h', ?_, hq⟩
    simp only [a_run, hs]
    exact hr
theorem aE_ret {call : Nat → List Value → aH → Option Value → aH → Prop} {m : Nat} {s : aS} {v0 : Option Value} {h0 : aH} {Q : Option Value → aH → Prop} (hs : a_step m s = some (.inr (.inr (v0, h0)))) : aE call m s Q ↔ Q v0 h0 := by
  constructor
  · rintro ⟨n, v, h', hr, hq⟩
    cases n with
    | zero => exact hr.elim
    | succ n =>
      simp only [a_run, hs] at hr
      obtain ⟨rfl, rfl⟩ := hr
      exact hq
  · intro hq
    refine ⟨1, v0, h0, ?_, hq⟩
    simp only [a_run, hs]
    exact ⟨trivial, trivial⟩
theorem aE_call {d m mid : Nat} {args : List Value} {s s' : aS} {Q : Option Value → aH → Prop} (hs : a_step m s = some (.inr (.inl (mid, args, s')))) :
    aE (a_cl_ d) m s Q ↔ aC d mid args s'.2.2.2 (fun v1 h1 => aE (a_cl_ d) m (s'.1, s'.2.1, v1.toList ++ s'.2.2.1, h1) Q) := by
  constructor
  · rintro ⟨n, v, h', hr, hq⟩
    cases n with
    | zero => exact hr.elim
    | succ n =>
      simp only [a_run, hs] at hr
      obtain ⟨v1, h1, hc, hr⟩ := hr
      exact ⟨v1, h1, hc, n, v, h', hr, hq⟩
  · rintro ⟨v1, h1, hc, n, v, h', hr, hq⟩
    refine ⟨n + 1, v, h', ?_, hq⟩
    simp only [a_run, hs]
    exact ⟨v1, h1, hc, hr⟩
theorem aC_succ {d m : Nat} {args : List Value} {h : aH} {Q : Option Value → aH → Prop} (hl : (a_args args).length ≤ a_maxL m) : aC (d + 1) m args h Q ↔ aE (a_cl_ d) m (0, a_entry m args, [], h) Q := by
  constructor
  · rintro ⟨v, h', ⟨_, n, hr⟩, hq⟩
    exact ⟨n, v, h', hr, hq⟩
  · rintro ⟨n, v, h', hr, hq⟩
    exact ⟨v, h', ⟨hl, n, hr⟩, hq⟩
theorem a_run_fun {call : Nat → List Value → aH → Option Value → aH → Prop} {m : Nat} (hc : ∀ mid args h v1 h1 v2 h2, call mid args h v1 h1 → call mid args h v2 h2 → v1 = v2 ∧ h1 = h2) :
    ∀ (n k : Nat) (s : aS) (v1 : Option Value) (h1 : aH) (v2 : Option Value) (h2 : aH), a_run call m n s v1 h1 → a_run call m k s v2 h2 → v1 = v2 ∧ h1 = h2 := by
  intro n
  induction n with
  | zero => intro k s v1 h1 v2 h2 h; exact h.elim
  | succ n ih =>
    intro k s v1 h1 v2 h2 ha hb
    cases k with
    | zero => exact hb.elim
    | succ k =>
      cases hs : a_step m s with
      | none => simp only [a_run, hs] at ha
      | some r =>
        rcases r with s' | ⟨mid, args, s'⟩ | ⟨v0, h0⟩
        · simp only [a_run, hs] at ha hb
          exact ih k s' v1 h1 v2 h2 ha hb
        · simp only [a_run, hs] at ha hb
          obtain ⟨w1, g1, c1, r1⟩ := ha
          obtain ⟨w2, g2, c2, r2⟩ := hb
          obtain ⟨rfl, rfl⟩ := hc _ _ _ _ _ _ _ c1 c2
          exact ih k _ v1 h1 v2 h2 r1 r2
        · simp only [a_run, hs] at ha hb
          obtain ⟨rfl, rfl⟩ := ha
          obtain ⟨rfl, rfl⟩ := hb
          exact ⟨rfl, rfl⟩
theorem a_cl_fun : ∀ (d m : Nat) (args : List Value) (h : aH) (v1 : Option Value) (h1 : aH) (v2 : Option Value) (h2 : aH), a_cl_ d m args h v1 h1 → a_cl_ d m args h v2 h2 → v1 = v2 ∧ h1 = h2 := by
  intro d
  induction d with
  | zero => intro m args h v1 h1 v2 h2 a; exact a.elim
  | succ d ih =>
    rintro m args h v1 h1 v2 h2 ⟨_, n, a⟩ ⟨_, k, b⟩
    exact a_run_fun (fun mid args h => ih mid args h) n k _ v1 h1 v2 h2 a b
theorem a_run_le {c1 c2 : Nat → List Value → aH → Option Value → aH → Prop} {m : Nat} (hc : ∀ mid args h v h', c1 mid args h v h' → c2 mid args h v h') :
    ∀ (n : Nat) (s : aS) (v : Option Value) (h' : aH), a_run c1 m n s v h' → a_run c2 m n s v h' := by
  intro n
  induction n with
  | zero => intro s v h' h; exact h.elim
  | succ n ih =>
    intro s v h' ha
    cases hs : a_step m s with
    | none => simp only [a_run, hs] at ha
    | some r =>
      rcases r with s' | ⟨mid, args, s'⟩ | ⟨v0, h0⟩
      · simp only [a_run, hs] at ha ⊢
        exact ih s' v h' ha
      · simp only [a_run, hs] at ha ⊢
        obtain ⟨w1, g1, k1, r1⟩ := ha
        exact ⟨w1, g1, hc _ _ _ _ _ k1, ih _ v h' r1⟩
      · simp only [a_run, hs] at ha ⊢
        exact ha
theorem a_cl_succ : ∀ (d m : Nat) (args : List Value) (h : aH) (v : Option Value) (h' : aH), a_cl_ d m args h v h' → a_cl_ (d + 1) m args h v h' := by
  intro d
  induction d with
  | zero => intro m args h v h' a; exact a.elim
  | succ d ih =>
    rintro m args h v h' ⟨hl, n, a⟩
    exact ⟨hl, n, a_run_le (fun mid args h v h' => ih mid args h v h') n _ v h' a⟩
theorem a_cl_le {d k m : Nat} {args : List Value} {h : aH} {v : Option Value} {h' : aH} (hd : d ≤ k) (a : a_cl_ d m args h v h') : a_cl_ k m args h v h' := by
  induction hd with
  | refl => exact a
  | step _ ih => exact a_cl_succ _ _ _ _ _ _ ih
/-- a call whose answer is known, at any depth that is enough -/
theorem aC_of {d k m : Nat} {args : List Value} {h : aH} {v0 : Option Value} {h0 : aH} {Q : Option Value → aH → Prop} (a : a_cl_ d m args h v0 h0) (hd : d ≤ k) : aC k m args h Q ↔ Q v0 h0 := by
  constructor
  · rintro ⟨v, h', a2, hq⟩
    obtain ⟨rfl, rfl⟩ := a_cl_fun k _ _ _ _ _ _ _ a2 (a_cl_le hd a)
    exact hq
  · intro hq
    exact ⟨v0, h0, a_cl_le hd a, hq⟩
/-- a contract out of a run: the answer and the heap as told -/
theorem a_cl_of {d m : Nat} {args : List Value} {h : aH} {v0 : Option Value} {h0 : aH} (hC : aC d m args h (fun v h' => v = v0 ∧ h' = h0)) : a_cl_ d m args h v0 h0 := by
  obtain ⟨v, h', a, rfl, rfl⟩ := hC
  exact a
theorem s_of {m pc len : Nat} {cc : ByteArray} {i : Instr} {ls st : List Value} {h : aH} {r : aO} (hc : a_code m = cc) (hd : decode cc pc = .ok (i, len)) (hl : a_lok i len = true) (hr : a_stepI m pc ls st h i len = r) : a_step m (pc, ls, st, h) = r := by
  unfold a_step
  simp only [hc, hd, hl, if_true]
  exact hr
