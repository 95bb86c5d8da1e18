/-! what can be come to: one list, in the order of coming, each with the place it was come to from -/
def exD (g : Nat → Nat → Option Nat) (k s : Nat) : Nat → List (Nat × Nat) → List (Nat × Nat)
  | 0, q => q
  | d + 1, q => match g s d with
    | some y => if y ∈ (exD g k s d q).map Prod.fst then exD g k s d q else exD g k s d q ++ [(y, k)]
    | none => exD g k s d q
def bfsF (g : Nat → Nat → Option Nat) (nd : Nat) : Nat → Nat → List (Nat × Nat) → List (Nat × Nat)
  | 0, _, q => q
  | F + 1, k, q => if k < q.length then bfsF g nd F (k + 1) (exD g k (q.getD k (0, 0)).1 nd q) else q
def bfs (g : Nat → Nat → Option Nat) (nd s0 : Nat) : List (Nat × Nat) := bfsF g nd 6144 0 [(s0, 0)]
/-- the situation, the place ahead, of a place -/
def qS (q : List (Nat × Nat)) (k : Nat) : Nat := (q.getD k (0, 0)).1
def qP (q : List (Nat × Nat)) (k : Nat) : Nat := (q.getD k (0, 0)).2
theorem nd_len : ∀ (n : Nat) (l : List Nat), l.Nodup → (∀ x ∈ l, x < n) → l.length ≤ n
  | 0, l, _, h => by
    match l, h with
    | [], _ => exact Nat.le_refl 0
    | x :: l, h => exact absurd (h x (by simp)) (by omega)
  | n + 1, l, hn, h => by
    have h1 := nd_len n (l.erase n) (hn.erase n) (fun x hx => by
      have := (hn.mem_erase_iff).mp hx
      have := h x this.2
      omega)
    by_cases hm : n ∈ l
    · rw [List.length_erase_of_mem hm] at h1; omega
    · rw [List.erase_of_not_mem hm] at h1; omega
/-- the list is sound, up to the doors below d of place k -/
def qI (g : Nat → Nat → Option Nat) (nd s0 : Nat) (q : List (Nat × Nat)) (k d : Nat) : Prop :=
  (0 < q.length ∧ qS q 0 = s0 ∧ (q.map Prod.fst).Nodup ∧ (∀ x ∈ q.map Prod.fst, x < 6144)) ∧
  (∀ j, 0 < j → j < q.length → qP q j < j ∧ (qP q j < k ∨ qP q j = k ∧ 0 < d) ∧ ∃ e, e < nd ∧ g (qS q (qP q j)) e = some (qS q j) ∧ ∀ d', d' < e → ∀ y, g (qS q (qP q j)) d' = some y → ∃ i, i < j ∧ qS q i = y) ∧
  (∀ j j', 0 < j → j ≤ j' → j' < q.length → qP q j ≤ qP q j') ∧
  (∀ k' d', k' < q.length → d' < nd → (k' < k ∨ k' = k ∧ d' < d) → ∀ y, g (qS q k') d' = some y → ∃ j, j < q.length ∧ qS q j = y ∧ (j = 0 ∨ qP q j ≤ k')) ∧ qP q 0 = 0
theorem gD_get {α : Type} {l : List α} {k : Nat} {x : α} (h : k < l.length) : l.getD k x = l[k] := by
  rw [List.getD_eq_getElem?_getD, List.getElem?_eq_getElem h]; rfl
theorem gD_app {α : Type} {l l' : List α} {k : Nat} {x : α} (h : k < l.length) : (l ++ l').getD k x = l.getD k x := by
  rw [List.getD_eq_getElem?_getD, List.getD_eq_getElem?_getD, List.getElem?_append_left h]
theorem qS_app {q : List (Nat × Nat)} {x : Nat × Nat} {j : Nat} (h : j < q.length) : qS (q ++ [x]) j = qS q j := by
  unfold qS; rw [gD_app h]
theorem qP_app {q : List (Nat × Nat)} {x : Nat × Nat} {j : Nat} (h : j < q.length) : qP (q ++ [x]) j = qP q j := by
  unfold qP; rw [gD_app h]
theorem qS_last {q : List (Nat × Nat)} {x : Nat × Nat} : qS (q ++ [x]) q.length = x.1 := by simp [qS]
theorem qP_last {q : List (Nat × Nat)} {x : Nat × Nat} : qP (q ++ [x]) q.length = x.2 := by simp [qP]
theorem q_mem {q : List (Nat × Nat)} {y : Nat} : y ∈ q.map Prod.fst ↔ ∃ j, j < q.length ∧ qS q j = y := by
  constructor
  · intro h
    obtain ⟨p, hp, rfl⟩ := List.mem_map.mp h
    obtain ⟨j, hj, he⟩ := List.getElem_of_mem hp
    exact ⟨j, hj, by unfold qS; rw [gD_get hj, he]⟩
  · rintro ⟨j, hj, rfl⟩
    unfold qS
    rw [gD_get hj]
    exact List.mem_map.mpr ⟨_, List.getElem_mem hj, rfl⟩
theorem q_inj {q : List (Nat × Nat)} (h : (q.map Prod.fst).Nodup) {i j : Nat} (hi : i < q.length) (hj : j < q.length) (he : qS q i = qS q j) : i = j := by
  have hi' : i < (q.map Prod.fst).length := by rw [List.length_map]; exact hi
  have hj' : j < (q.map Prod.fst).length := by rw [List.length_map]; exact hj
  unfold qS at he
  rw [gD_get hi, gD_get hj] at he
  have he' : (q.map Prod.fst)[i] = (q.map Prod.fst)[j] := by rw [List.getElem_map, List.getElem_map]; exact he
  have hp := List.pairwise_iff_getElem.mp h
  rcases Nat.lt_trichotomy i j with hl | hl | hl
  · exact absurd he' (hp i j hi' hj' hl)
  · exact hl
  · exact absurd he'.symm (hp j i hj' hi' hl)
theorem q_len {g : Nat → Nat → Option Nat} {nd s0 : Nat} {q : List (Nat × Nat)} {k d : Nat} (h : qI g nd s0 q k d) : q.length ≤ 6144 := by
  have := nd_len 6144 _ h.1.2.2.1 h.1.2.2.2
  rwa [List.length_map] at this
/-- one door more is tried -/
theorem qI_step {g : Nat → Nat → Option Nat} {nd s0 : Nat} (hg : ∀ s d y, g s d = some y → y < 6144) {q : List (Nat × Nat)} {k d : Nat} (h : qI g nd s0 q k d) (hk : k < q.length) (hd : d < nd) :
    qI g nd s0 (match g (qS q k) d with
      | some y => if y ∈ q.map Prod.fst then q else q ++ [(y, k)]
      | none => q) k (d + 1) := by
  obtain ⟨⟨a1, a2, a3, a4⟩, b, c, e, z⟩ := h
  have keep : (∀ y, g (qS q k) d = some y → y ∈ q.map Prod.fst) → qI g nd s0 q k (d + 1) := by
    intro hy
    refine ⟨⟨a1, a2, a3, a4⟩, fun j h0 hj => ?_, c, fun k' d' hk' hd' hlt y hgy => ?_, z⟩
    · obtain ⟨b1, b2, b3⟩ := b j h0 hj
      exact ⟨b1, by omega, b3⟩
    · by_cases hn : k' < k ∨ k' = k ∧ d' < d
      · exact e k' d' hk' hd' hn y hgy
      · obtain rfl : k' = k := by omega
        obtain rfl : d' = d := by omega
        obtain ⟨j, hj, hs⟩ := q_mem.mp (hy y hgy)
        refine ⟨j, hj, hs, ?_⟩
        by_cases h0 : j = 0
        · exact Or.inl h0
        · have := (b j (by omega) hj).2.1
          right; omega
  cases hgk : g (qS q k) d with
  | none => exact keep (fun y hy => by rw [hgk] at hy; cases hy)
  | some y =>
    by_cases hm : y ∈ q.map Prod.fst
    · simp only [if_pos hm]
      exact keep (fun y' hy => by rw [hgk] at hy; cases hy; exact hm)
    · simp only [if_neg hm]
      have hl : (q ++ [(y, k)]).length = q.length + 1 := by simp
      refine ⟨⟨by omega, by rw [qS_app a1]; exact a2, ?_, ?_⟩, fun j h0 hj => ?_, fun j j' h0 hjj hj' => ?_, fun k' d' hk' hd' hlt y' hgy => ?_, by rw [qP_app a1]; exact z⟩
      · rw [List.map_append, List.nodup_append]
        refine ⟨a3, by simp, ?_⟩
        intro a ha b hb hab
        simp at hb
        subst hb; subst hab
        exact hm ha
      · intro x hx
        rw [List.map_append, List.mem_append] at hx
        rcases hx with hx | hx
        · exact a4 x hx
        · simp at hx; subst hx; exact hg _ _ _ hgk
      · rw [hl] at hj
        by_cases hjl : j < q.length
        · obtain ⟨b1, b2, e', b3, b4, b5⟩ := b j h0 hjl
          rw [qP_app hjl, qS_app hjl, qS_app (show qP q j < q.length by omega)]
          refine ⟨b1, by omega, e', b3, b4, fun d' hd' y' hy' => ?_⟩
          obtain ⟨i, hi, hs⟩ := b5 d' hd' y' hy'
          exact ⟨i, hi, by rw [qS_app (by omega)]; exact hs⟩
        · obtain rfl : j = q.length := by omega
          rw [qP_last, qS_last, qS_app hk]
          refine ⟨hk, Or.inr ⟨rfl, by omega⟩, d, hd, hgk, fun d' hd' y' hy' => ?_⟩
          obtain ⟨i, hi, hs, _⟩ := e k d' hk (by omega) (Or.inr ⟨rfl, hd'⟩) y' hy'
          exact ⟨i, hi, by rw [qS_app hi]; exact hs⟩
      · rw [hl] at hj'
        by_cases hjl : j' < q.length
        · rw [qP_app hjl, qP_app (show j < q.length by omega)]
          exact c j j' h0 hjj hjl
        · obtain rfl : j' = q.length := by omega
          rw [qP_last]
          by_cases hj2 : j < q.length
          · rw [qP_app hj2]
            have := (b j h0 hj2).2.1
            omega
          · obtain rfl : j = q.length := by omega
            rw [qP_last]; exact Nat.le_refl _
      · rw [hl] at hk'
        by_cases hkl : k' < q.length
        · rw [qS_app hkl] at hgy
          by_cases hn : k' < k ∨ k' = k ∧ d' < d
          · obtain ⟨j, hj, hs, hp⟩ := e k' d' hkl hd' hn y' hgy
            exact ⟨j, by omega, by rw [qS_app hj]; exact hs, by rw [qP_app hj]; exact hp⟩
          · obtain rfl : k' = k := by omega
            obtain rfl : d' = d := by omega
            rw [hgk] at hgy
            injection hgy with hgy
            exact ⟨q.length, by omega, by rw [qS_last]; exact hgy, Or.inr (by rw [qP_last]; exact Nat.le_refl _)⟩
        · omega
theorem exD_pre {g : Nat → Nat → Option Nat} {k s : Nat} : ∀ d q, ∃ r, exD g k s d q = q ++ r
  | 0, q => ⟨[], by simp [exD]⟩
  | d + 1, q => by
    obtain ⟨r, hr⟩ := exD_pre (g := g) (k := k) (s := s) d q
    simp only [exD]
    cases g s d with
    | none => exact ⟨r, hr⟩
    | some y =>
      simp only []
      split
      · exact ⟨r, hr⟩
      · exact ⟨r ++ [(y, k)], by rw [hr, List.append_assoc]⟩
theorem exD_qS {g : Nat → Nat → Option Nat} {k s d : Nat} {q : List (Nat × Nat)} {j : Nat} (h : j < q.length) : qS (exD g k s d q) j = qS q j := by
  obtain ⟨r, hr⟩ := exD_pre (g := g) (k := k) (s := s) d q
  rw [hr]; unfold qS; rw [gD_app h]
theorem exD_len {g : Nat → Nat → Option Nat} {k s d : Nat} {q : List (Nat × Nat)} : q.length ≤ (exD g k s d q).length := by
  obtain ⟨r, hr⟩ := exD_pre (g := g) (k := k) (s := s) d q
  rw [hr]; simp
theorem exD_I {g : Nat → Nat → Option Nat} {nd s0 : Nat} (hg : ∀ s d y, g s d = some y → y < 6144) {q : List (Nat × Nat)} {k : Nat} (h : qI g nd s0 q k 0) (hk : k < q.length) : ∀ d, d ≤ nd → qI g nd s0 (exD g k (qS q k) d q) k d
  | 0, _ => h
  | d + 1, hd => by
    have h1 := exD_I hg h hk d (by omega)
    have h2 := qI_step hg h1 (Nat.lt_of_lt_of_le hk exD_len) (show d < nd by omega)
    rw [exD_qS hk] at h2
    exact h2
theorem qI_next {g : Nat → Nat → Option Nat} {nd s0 : Nat} {q : List (Nat × Nat)} {k : Nat} (h : qI g nd s0 q k nd) : qI g nd s0 q (k + 1) 0 := by
  obtain ⟨a, b, c, e, z⟩ := h
  refine ⟨a, fun j h0 hj => ?_, c, fun k' d' hk' hd' hlt y hy => ?_, z⟩
  · obtain ⟨b1, b2, b3⟩ := b j h0 hj
    exact ⟨b1, by omega, b3⟩
  · exact e k' d' hk' hd' (by omega) y hy
theorem bfsF_I {g : Nat → Nat → Option Nat} {nd s0 : Nat} (hg : ∀ s d y, g s d = some y → y < 6144) : ∀ F k q, F + k = 6144 → k ≤ q.length → qI g nd s0 q k 0 → qI g nd s0 (bfsF g nd F k q) (bfsF g nd F k q).length 0
  | 0, k, q, hF, hk, h => by
    have := q_len h
    obtain rfl : k = q.length := by omega
    exact h
  | F + 1, k, q, hF, hk, h => by
    simp only [bfsF]
    by_cases hl : k < q.length
    · rw [if_pos hl]
      exact bfsF_I hg F (k + 1) _ (by omega) (Nat.le_trans hl exD_len) (qI_next (exD_I hg h hl nd (Nat.le_refl _)))
    · rw [if_neg hl]
      obtain rfl : k = q.length := by omega
      exact h
theorem bfs_I {g : Nat → Nat → Option Nat} {nd s0 : Nat} (hg : ∀ s d y, g s d = some y → y < 6144) (h0 : s0 < 6144) : qI g nd s0 (bfs g nd s0) (bfs g nd s0).length 0 := by
  refine bfsF_I hg 6144 0 _ rfl (by simp) ⟨⟨by simp, by simp [qS], by simp, by simp; exact h0⟩, fun j h1 h2 => ?_, fun j j' h1 h2 h3 => ?_, fun k' d' h1 h2 h3 => by omega, by simp [qP]⟩
  · simp at h2; omega
  · simp at h3; omega
/-- how many doors a place is away -/
def dpF (q : List (Nat × Nat)) : Nat → Nat → Nat
  | 0, _ => 0
  | F + 1, k => if k = 0 then 0 else dpF q F (qP q k) + 1
def dep (q : List (Nat × Nat)) (k : Nat) : Nat := dpF q k k
def qPar (q : List (Nat × Nat)) : Prop := ∀ j, 0 < j → j < q.length → qP q j < j
theorem qI_par {g : Nat → Nat → Option Nat} {nd s0 : Nat} {q : List (Nat × Nat)} {k d : Nat} (h : qI g nd s0 q k d) : qPar q := fun j h0 hj => (h.2.1 j h0 hj).1
theorem dpF_more {q : List (Nat × Nat)} (hp : qPar q) : ∀ F k, k ≤ F → k < q.length → dpF q F k = dep q k := by
  intro F
  induction F using Nat.strongRecOn with
  | ind F ih =>
    intro k hk hl
    unfold dep
    cases F with
    | zero => obtain rfl : k = 0 := by omega
              rfl
    | succ F =>
      cases k with
      | zero => simp [dpF]
      | succ k =>
        simp only [dpF, if_neg (show ¬ k + 1 = 0 by omega)]
        have h1 := hp (k + 1) (by omega) hl
        rw [ih F (by omega) _ (by omega) (by omega)]
        by_cases hkF : k = F
        · subst hkF
          rw [ih k (by omega) _ (by omega) (by omega)]
        · rw [ih k (by omega) _ (by omega) (by omega)]
theorem dep_0 {q : List (Nat × Nat)} : dep q 0 = 0 := rfl
theorem dep_s {q : List (Nat × Nat)} (hp : qPar q) {k : Nat} (h0 : 0 < k) (hk : k < q.length) : dep q k = dep q (qP q k) + 1 := by
  have h1 := hp k h0 hk
  obtain ⟨m, rfl⟩ : ∃ m, k = m + 1 := ⟨k - 1, by omega⟩
  have : dep q (m + 1) = dpF q m (qP q (m + 1)) + 1 := by simp [dep, dpF]
  rw [this, dpF_more hp m _ (by omega) (by omega)]
theorem dep_le {q : List (Nat × Nat)} (hp : qPar q) : ∀ k, k < q.length → dep q k ≤ k := by
  intro k
  induction k using Nat.strongRecOn with
  | ind k ih =>
    intro hk
    by_cases h0 : k = 0
    · subst h0; exact Nat.le_refl _
    · have h1 := hp k (by omega) hk
      rw [dep_s hp (by omega) hk]
      have := ih _ h1 (by omega)
      omega
theorem dep_mono {q : List (Nat × Nat)} (hp : qPar q) (hm : ∀ j j', 0 < j → j ≤ j' → j' < q.length → qP q j ≤ qP q j') : ∀ j' j, j ≤ j' → j' < q.length → dep q j ≤ dep q j' := by
  intro j'
  induction j' using Nat.strongRecOn with
  | ind j' ih =>
    intro j hj hl
    by_cases h0 : j = 0
    · subst h0; rw [dep_0]; exact Nat.zero_le _
    · have h1 := hp j' (by omega) hl
      rw [dep_s hp (by omega) hl, dep_s hp (show 0 < j by omega) (by omega)]
      have := ih _ h1 (qP q j) (hm j j' (by omega) hj hl) (by omega)
      omega
