/-! the pure distances to a room -/
def rn (g : Nat → Nat → Option Nat) (nd r : Nat) : Nat → Nat → Prop
  | 0, s => rmo s = r
  | n + 1, s => ∃ d y, d < nd ∧ g s d = some y ∧ rn g nd r n y
theorem rn_rch {g : Nat → Nat → Option Nat} {nd r : Nat} : ∀ n s, rn g nd r n s → rch g nd r n s
  | 0, _, h => h
  | n + 1, s, ⟨d, y, h1, h2, h3⟩ => Or.inr ⟨d, y, h1, h2, rn_rch n y h3⟩
theorem rch_rn {g : Nat → Nat → Option Nat} {nd r : Nat} : ∀ n s, rch g nd r n s → ∃ m, rn g nd r m s
  | 0, _, h => ⟨0, h⟩
  | n + 1, s, h => by
    rcases h with h | ⟨d, y, h1, h2, h3⟩
    · exact ⟨0, h⟩
    · obtain ⟨m, hm⟩ := rch_rn n y h3
      exact ⟨m + 1, d, y, h1, h2, hm⟩
def stS (g : Nat → Nat → Option Nat) (nd r : Nat) (q : List (Nat × Nat)) (V : Nat → Nat) : Prop := ∀ k, k < q.length → V (qS q k) ≤ 1000000 ∧ (V (qS q k) = 1000000 ∨ rn g nd r (V (qS q k)) (qS q k)) ∧ (rmo (qS q k) = r → V (qS q k) = 0)
def stF (g : Nat → Nat → Option Nat) (nd : Nat) (q : List (Nat × Nat)) (V : Nat → Nat) : Prop := ∀ k d y, k < q.length → d < nd → g (qS q k) d = some y → V (qS q k) ≤ V y + 1
section
variable {g : Nat → Nat → Option Nat} {nd s0 r : Nat} {q : List (Nat × Nat)} {V : Nat → Nat}
theorem q_cl (hq : qI g nd s0 q q.length 0) {k d y : Nat} (hk : k < q.length) (hd : d < nd) (h : g (qS q k) d = some y) : ∃ j, j < q.length ∧ qS q j = y ∧ (j = 0 ∨ qP q j ≤ k) := hq.2.2.2.1 k d hk hd (Or.inl hk) y h
theorem st_le (hq : qI g nd s0 q q.length 0) (h1 : stS g nd r q V) (h2 : stF g nd q V) : ∀ n k, k < q.length → rn g nd r n (qS q k) → V (qS q k) ≤ n
  | 0, k, hk, h => by rw [(h1 k hk).2.2 h]; exact Nat.le_refl _
  | n + 1, k, hk, ⟨d, y, a, b, c⟩ => by
    obtain ⟨j, hj, e, _⟩ := q_cl hq hk a b
    have := h2 k d y hk a b
    have h3 := st_le hq h1 h2 n j hj (by rw [e]; exact c)
    rw [e] at h3
    omega
theorem sv_ls (hq : qI g nd s0 q q.length 0) (h1 : stS g nd r q V) (h2 : stF g nd q V) : ∀ v k, k < q.length → V (qS q k) = v → v < 1000000 → ∃ l : List Nat, l.length = v + 1 ∧ l.Nodup ∧ ∀ z ∈ l, z < 6144 ∧ V z ≤ v
  | 0, k, hk, hv, _ => ⟨[qS q k], rfl, by simp, fun z hz => by
      simp only [List.mem_singleton] at hz
      subst hz
      exact ⟨(qB_of hq).2.1 k hk, Nat.le_of_eq hv⟩⟩
  | v + 1, k, hk, hv, hlt => by
    have hr : rn g nd r (v + 1) (qS q k) := by
      have := (h1 k hk).2.1
      rw [hv] at this
      exact this.resolve_left (by omega)
    obtain ⟨d, y, a, b, c⟩ := hr
    obtain ⟨j, hj, e, _⟩ := q_cl hq hk a b
    have h3 := st_le hq h1 h2 v j hj (by rw [e]; exact c)
    have h4 := h2 k d y hk a b
    rw [e] at h3
    have h5 : V (qS q j) = v := by rw [e]; omega
    obtain ⟨l, l1, l2, l3⟩ := sv_ls hq h1 h2 v j hj h5 (by omega)
    refine ⟨qS q k :: l, by simp [l1], List.nodup_cons.mpr ⟨fun hm => ?_, l2⟩, fun z hz => ?_⟩
    · have := (l3 _ hm).2; omega
    · rcases List.mem_cons.mp hz with rfl | hz
      · exact ⟨(qB_of hq).2.1 k hk, by omega⟩
      · have := l3 z hz; exact ⟨this.1, by omega⟩
theorem st_lt (hq : qI g nd s0 q q.length 0) (h1 : stS g nd r q V) (h2 : stF g nd q V) {k : Nat} (hk : k < q.length) (hv : ¬ V (qS q k) = 1000000) : V (qS q k) < 6144 := by
  have := (h1 k hk).1
  obtain ⟨l, l1, l2, l3⟩ := sv_ls hq h1 h2 _ k hk rfl (by omega)
  have := nd_len 6144 l l2 (fun z hz => (l3 z hz).1)
  omega
theorem st_fin (hq : qI g nd s0 q q.length 0) (h1 : stS g nd r q V) (h2 : stF g nd q V) : ∀ n k, k < q.length → rn g nd r n (qS q k) → ¬ V (qS q k) = 1000000
  | 0, k, hk, h => by rw [(h1 k hk).2.2 h]; decide
  | n + 1, k, hk, ⟨d, y, a, b, c⟩ => by
    obtain ⟨j, hj, e, _⟩ := q_cl hq hk a b
    have h3 := st_fin hq h1 h2 n j hj (by rw [e]; exact c)
    have h4 := st_lt hq h1 h2 hj h3
    have h5 := h2 k d y hk a b
    rw [e] at h4
    omega
theorem st_rch (hq : qI g nd s0 q q.length 0) (h1 : stS g nd r q V) (h2 : stF g nd q V) {k : Nat} (hk : k < q.length) : (V (qS q k) < 1000000 ↔ ∃ m, rch g nd r m (qS q k)) := by
  constructor
  · intro h
    exact ⟨_, rn_rch _ _ ((h1 k hk).2.1.resolve_left (by omega))⟩
  · rintro ⟨m, hm⟩
    obtain ⟨n, hn⟩ := rch_rn m _ hm
    have := st_fin hq h1 h2 n k hk hn
    have := (h1 k hk).1
    omega
/-! the way of the tree is the greedy way -/
theorem anc_s : ∀ l k, anc q (l + 1) k = qP q (anc q l k)
  | 0, _ => rfl
  | l + 1, k => by
    show anc q (l + 1) (qP q k) = _
    rw [anc_s l (qP q k)]; rfl
theorem an_dep (hp : qPar q) : ∀ l k, k < q.length → l ≤ dep q k → anc q l k < q.length ∧ dep q (anc q l k) + l = dep q k
  | 0, k, hk, _ => ⟨hk, rfl⟩
  | l + 1, k, hk, h => by
    obtain ⟨a, b⟩ := an_dep hp l k hk (by omega)
    have h0 : 0 < anc q l k := by
      rcases Nat.eq_zero_or_pos (anc q l k) with h0 | h0
      · rw [h0] at b; have : dep q 0 = 0 := rfl; omega
      · exact h0
    have hs := dep_s hp h0 a
    have hlt := hp _ h0 a
    rw [anc_s]
    exact ⟨by omega, by omega⟩
theorem anc_pos (hp : qPar q) {l k : Nat} (hk : k < q.length) (h : l < dep q k) : 0 < anc q l k := by
  obtain ⟨a, b⟩ := an_dep hp l k hk (by omega)
  rcases Nat.eq_zero_or_pos (anc q l k) with h0 | h0
  · rw [h0] at b; have : dep q 0 = 0 := rfl; omega
  · exact h0
theorem anc_0 (hp : qPar q) {k : Nat} (hk : k < q.length) : anc q (dep q k) k = 0 := by
  obtain ⟨a, b⟩ := an_dep hp _ k hk (Nat.le_refl _)
  rcases Nat.eq_zero_or_pos (anc q (dep q k) k) with h0 | h0
  · exact h0
  · have := dep_s hp h0 a; omega
theorem tr_rn (hq : qI g nd s0 q q.length 0) {k : Nat} (hk : k < q.length) (hr : rmo (qS q k) = r) : ∀ l, l ≤ dep q k → rn g nd r l (qS q (anc q l k))
  | 0, _ => hr
  | l + 1, h => by
    have hp := qI_par hq
    obtain ⟨a, b⟩ := an_dep hp l k hk (by omega)
    have h0 := anc_pos hp hk (show l < dep q k by omega)
    obtain ⟨_, _, e, he, hg, _⟩ := hq.2.1 _ h0 a
    rw [anc_s]
    exact ⟨e, _, he, hg, tr_rn hq hk hr l (by omega)⟩
theorem up_rn (hq : qI g nd s0 q q.length 0) : ∀ F a n, a ≤ F → a < q.length → rn g nd r n (qS q a) → rn g nd r (dep q a + n) s0 := by
  intro F
  induction F with
  | zero =>
    intro a n ha hl h
    obtain rfl : a = 0 := by omega
    rw [hq.1.2.1] at h
    rw [show dep q 0 = 0 from rfl, Nat.zero_add]; exact h
  | succ F ih =>
    intro a n ha hl h
    by_cases h0 : a = 0
    · subst h0
      rw [hq.1.2.1] at h
      rw [show dep q 0 = 0 from rfl, Nat.zero_add]; exact h
    · obtain ⟨h1, _, e, he, hg, _⟩ := hq.2.1 a (by omega) hl
      have := ih (qP q a) (n + 1) (by omega) (by omega) ⟨e, _, he, hg, h⟩
      rw [dep_s (qI_par hq) (by omega) hl, show dep q (qP q a) + 1 + n = dep q (qP q a) + (n + 1) by omega]
      exact this
theorem dn_rn (hq : qI g nd s0 q q.length 0) : ∀ n a, a < q.length → rn g nd r n (qS q a) → ∃ j, j < q.length ∧ rmo (qS q j) = r ∧ dep q j ≤ dep q a + n
  | 0, a, ha, h => ⟨a, ha, h, by omega⟩
  | n + 1, a, ha, ⟨d, y, h1, h2, h3⟩ => by
    obtain ⟨j, hj, e, hc⟩ := q_cl hq ha h1 h2
    obtain ⟨i, hi, hr, hd⟩ := dn_rn hq n j hj (by rw [e]; exact h3)
    refine ⟨i, hi, hr, ?_⟩
    have hp := qI_par hq
    rcases Nat.eq_zero_or_pos j with h0 | h0
    · subst h0; have : dep q 0 = 0 := rfl; omega
    · have := dep_s hp h0 hj
      have hc' : qP q j ≤ a := hc.resolve_left (by omega)
      have := dep_mono hp hq.2.2.1 a (qP q j) hc' ha
      omega
theorem ahead (hq : qI g nd s0 q q.length 0) {k : Nat} (hk : k < q.length) : ∀ l j, l ≤ dep q k → j < anc q l k → rn g nd r l (qS q j) → ∃ i, i < k ∧ rmo (qS q i) = r
  | 0, j, _, hj, h => ⟨j, hj, h⟩
  | l + 1, j, hl, hj, ⟨d, y, h1, h2, h3⟩ => by
    have hp := qI_par hq
    obtain ⟨a, b⟩ := an_dep hp (l + 1) k hk hl
    obtain ⟨a2, b2⟩ := an_dep hp l k hk (by omega)
    have h0 := anc_pos hp hk (show l < dep q k by omega)
    obtain ⟨i, hi, e, hc⟩ := q_cl hq (show j < q.length by omega) h1 h2
    refine ahead hq hk l i (by omega) ?_ (by rw [e]; exact h3)
    rcases Nat.lt_or_ge i (anc q l k) with h | h
    · exact h
    · have hc' : qP q i ≤ j := hc.resolve_left (by omega)
      have := hq.2.2.1 (anc q l k) i h0 h hi
      rw [anc_s] at hj
      omega
/-- the distance left at a place of the tree's way -/
theorem st_way (hq : qI g nd s0 q q.length 0) (h1 : stS g nd r q V) (h2 : stF g nd q V) {k : Nat} (hf : firR q r = some k) (hk : k < q.length) (hr : rmo (qS q k) = r) (hfst : ∀ i, i < k → ¬ rmo (qS q i) = r) {l : Nat} (hl : l ≤ dep q k) : V (qS q (anc q l k)) = l := by
  have hp := qI_par hq
  obtain ⟨a, b⟩ := an_dep hp l k hk hl
  have u := st_le hq h1 h2 l _ a (tr_rn hq hk hr l hl)
  have hfin := st_fin hq h1 h2 l _ a (tr_rn hq hk hr l hl)
  have hrn := (h1 _ a).2.1.resolve_left hfin
  obtain ⟨j, hj, hjr, hjd⟩ := dn_rn hq _ _ a hrn
  have hkj : k ≤ j := by
    rcases Nat.lt_or_ge j k with h | h
    · exact absurd hjr (hfst j h)
    · exact h
  have := dep_mono hp hq.2.2.1 j k hkj hj
  omega
theorem wayD_e (hq : qI g nd s0 q q.length 0) {a : Nat} (h0 : 0 < a) (ha : a < q.length) : ∃ e, e < nd ∧ wayD g nd q a = some e ∧ g (qS q (qP q a)) e = some (qS q a) ∧ ∀ d', d' < e → ∀ y, g (qS q (qP q a)) d' = some y → ∃ i, i < a ∧ qS q i = y := by
  obtain ⟨_, _, e, he, hg, hmin⟩ := hq.2.1 a h0 ha
  have key : ∀ m, m ≤ e → ffi (fun d => decide (g (qS q (qP q a)) d = some (qS q a))) m = none := by
    intro m
    induction m with
    | zero => intro _; rfl
    | succ m ih =>
      intro hm
      have hne : ¬ g (qS q (qP q a)) m = some (qS q a) := fun h => by
        obtain ⟨i, hi, hie⟩ := hmin m (by omega) _ h
        have := q_inj hq.1.2.2.1 (show i < q.length by omega) ha hie
        omega
      simp only [ffi, ih (by omega), decide_eq_false hne, Bool.false_eq_true, if_false]
  exact ⟨e, he, ffi_up (key e (Nat.le_refl _)) (decide_eq_true hg) nd he, hg, hmin⟩
end
