/-! what a pure reading keeps -/
section
variable {tp : Nat → Nat} {s : Nat}
theorem opc_ne {lv t k : Nat} (h : opc lv t = some k) : ¬ t = 256 ∧ 10008 ≤ k ∧ k < 10015 := by
  unfold opc at h
  refine ⟨fun h1 => ?_, ?_⟩
  · subst h1; simp at h
  · repeat' split at h
    all_goals first | (cases h; done) | (cases h; omega)
theorem pr_b {f lv o p : Nat} {c : List Nat} {b : Bool} {p1 : Nat} {c1 : List Nat} (hlv : lv < 11) (h : pr tp s f lv o p c = some (b, p1, c1)) (hp : p ≤ s) :
    p1 ≤ s ∧ p ≤ p1 ∧ c1.length + p ≤ c.length + p1 ∧ (b = true → ¬ (lv % 2 = 1 ∧ lv < 8) → p < p1) := by
  have key := pr_ind (tp := tp) (s := s) (G := fun lv o p c b p1 c1 => p ≤ s → p1 ≤ s ∧ p ≤ p1 ∧ c1.length + p ≤ c.length + p1 ∧ (b = true → ¬ (lv % 2 = 1 ∧ lv < 8) → p < p1))
  have N : ∀ p, p ≤ s → ¬ tk tp s p = 256 → p < nx tp s p ∧ nx tp s p ≤ s := fun p h1 h2 => ⟨nx_gt (tk_ne h2), nx_le h1⟩
  have hit : ∀ lv, isBin lv → ¬ (itm lv % 2 = 1 ∧ itm lv < 8) := fun lv h => by rcases h with rfl | rfl | rfl | rfl <;> decide
  refine key ?_ ?_ ?_ ?_ ?_ ?_ ?_ ?_ ?_ ?_ ?_ ?_ ?_ ?_ ?_ ?_ ?_ ?_ ?_ ?_ ?_ f lv o p c b p1 c1 hlv h hp
  · intro lv o p c p1 c1 b p2 c2 hb g1 g2 hp
    obtain ⟨a1, a2, a3, a4⟩ := g1 hp
    obtain ⟨b1, b2, b3, _⟩ := g2 a1
    have := a4 rfl (hit lv hb)
    exact ⟨b1, by omega, by omega, fun _ _ => by omega⟩
  · intro lv o p c p1 c1 hb g1 hp
    obtain ⟨a1, a2, a3, a4⟩ := g1 hp
    exact ⟨a1, a2, a3, fun h => by cases h⟩
  · intro lv o p c hb ho hp
    exact ⟨hp, Nat.le_refl _, Nat.le_refl _, fun _ h => by unfold isBin at hb; omega⟩
  · intro lv o p c k p1 c1 b p2 c2 hb ho g1 g2 hp
    obtain ⟨n1, n2⟩ := N p hp (opc_ne ho).1
    obtain ⟨a1, a2, a3, a4⟩ := g1 n2
    obtain ⟨b1, b2, b3, _⟩ := g2 a1
    rw [List.length_append, List.length_singleton] at b3
    exact ⟨b1, by omega, by omega, fun _ _ => by omega⟩
  · intro lv o p c k p1 c1 hb ho g1 hp
    obtain ⟨n1, n2⟩ := N p hp (opc_ne ho).1
    obtain ⟨a1, a2, a3, a4⟩ := g1 n2
    exact ⟨a1, by omega, by omega, fun h => by cases h⟩
  · intro o p c t h5 hp
    exact ⟨hp, Nat.le_refl _, Nat.le_refl _, fun h => by cases h⟩
  · intro o p c p1 c1 t h5 g1 hp
    obtain ⟨n1, n2⟩ := N p hp (by omega)
    obtain ⟨a1, a2, a3, a4⟩ := g1 n2
    rw [List.length_append, List.length_singleton]
    exact ⟨a1, by omega, by omega, fun _ _ => by omega⟩
  · intro o p c p1 c1 t h5 g1 hp
    obtain ⟨n1, n2⟩ := N p hp (by omega)
    obtain ⟨a1, a2, a3, a4⟩ := g1 n2
    exact ⟨a1, by omega, by omega, fun h => by cases h⟩
  · intro o p c b p1 c1 t g1 hp
    obtain ⟨a1, a2, a3, a4⟩ := g1 hp
    exact ⟨a1, a2, a3, fun h _ => a4 h (by decide)⟩
  · intro o p c p1 c1 g1 hp
    obtain ⟨a1, a2, a3, a4⟩ := g1 hp
    exact ⟨a1, a2, a3, fun h => by cases h⟩
  · intro o p c p1 c1 g1 t hp
    obtain ⟨a1, a2, a3, a4⟩ := g1 hp
    exact ⟨a1, a2, a3, fun h _ => a4 h (by decide)⟩
  · intro o p c p1 c1 p2 c2 g1 t g2 hp
    obtain ⟨a1, a2, a3, a4⟩ := g1 hp
    obtain ⟨n1, n2⟩ := N p1 a1 (by omega)
    obtain ⟨b1, b2, b3, _⟩ := g2 n2
    rw [List.length_append, List.length_singleton]
    exact ⟨b1, by omega, by omega, fun _ _ => by omega⟩
  · intro o p c p1 c1 p2 c2 g1 t g2 hp
    obtain ⟨a1, a2, a3, a4⟩ := g1 hp
    obtain ⟨n1, n2⟩ := N p1 a1 (by omega)
    obtain ⟨b1, b2, b3, _⟩ := g2 n2
    exact ⟨b1, by omega, by omega, fun h => by cases h⟩
  · intro o p c t hp
    obtain ⟨n1, n2⟩ := N p hp (by omega)
    rw [List.length_append, List.length_singleton]
    exact ⟨n2, by omega, by omega, fun _ _ => by omega⟩
  · intro o p c i hi t hp
    obtain ⟨n1, n2⟩ := N p hp (by omega)
    rw [List.length_append, List.length_singleton]
    exact ⟨n2, by omega, by omega, fun _ _ => by omega⟩
  · intro o p c _ _ _ hp
    exact ⟨hp, Nat.le_refl _, Nat.le_refl _, fun h => by cases h⟩
  · intro o p c p1 c1 t h5 g1 hp
    obtain ⟨n1, n2⟩ := N p hp (by omega)
    obtain ⟨a1, a2, a3, a4⟩ := g1 n2
    rw [List.length_append, List.length_singleton]
    exact ⟨a1, by omega, by omega, fun _ _ => by omega⟩
  · intro o p c p1 c1 t h5 g1 hp
    obtain ⟨n1, n2⟩ := N p hp (by omega)
    obtain ⟨a1, a2, a3, a4⟩ := g1 n2
    exact ⟨a1, by omega, by omega, fun h => by cases h⟩
  · intro o p c p1 c1 t h5 g1 t1 hp
    obtain ⟨n1, n2⟩ := N p hp (by omega)
    obtain ⟨a1, a2, a3, a4⟩ := g1 n2
    obtain ⟨m1, m2⟩ := N p1 a1 (by omega)
    exact ⟨m2, by omega, by omega, fun _ _ => by omega⟩
  · intro o p c p1 c1 t h5 g1 t1 hp
    obtain ⟨n1, n2⟩ := N p hp (by omega)
    obtain ⟨a1, a2, a3, a4⟩ := g1 n2
    exact ⟨a1, by omega, by omega, fun h => by cases h⟩
  · intro o p c p1 c1 t h5 g1 hp
    obtain ⟨n1, n2⟩ := N p hp (by omega)
    obtain ⟨a1, a2, a3, a4⟩ := g1 n2
    exact ⟨a1, by omega, by omega, fun h => by cases h⟩
/-! with enough fuel it ends -/
def wT (lv : Nat) : Nat := if lv = 10 then 1 else if lv = 6 then 2 else if lv = 4 then 3 else if lv = 9 then 4 else if lv = 8 then 5 else if lv = 2 then 6 else if lv = 0 then 7 else 1
theorem prB_tot {x : Option (Bool × Nat × List Nat)} {k : Nat → List Nat → Option (Bool × Nat × List Nat)} (h : ∃ r, x = some r) (hk : ∀ p c, x = some (true, p, c) → ∃ r, k p c = some r) : ∃ r, prB x k = some r := by
  obtain ⟨⟨b, p, c⟩, rfl⟩ := h
  cases b with
  | true => exact hk p c rfl
  | false => exact ⟨_, rfl⟩
theorem pr_tot : ∀ f lv o p c, lv < 11 → p ≤ s → 10 * (s - p) + wT lv ≤ f → ∃ r, pr tp s f lv o p c = some r := by
  intro f
  induction f with
  | zero => intro lv o p c _ _ h; have : 1 ≤ wT lv := by { unfold wT; (repeat' split) <;> omega }
            omega
  | succ f ih =>
    intro lv o p c hlv hp hf
    have N : ∀ q, p ≤ q → q ≤ s → ¬ tk tp s q = 256 → p < nx tp s q ∧ nx tp s q ≤ s := fun q h1 h2 h3 => ⟨Nat.lt_of_le_of_lt h1 (nx_gt (tk_ne h3)), nx_le h2⟩
    have w7 : ∀ lv, wT lv ≤ 7 := fun lv => by unfold wT; (repeat' split) <;> omega
    have ihN : ∀ lv o q c, lv < 11 → p < q → q ≤ s → ∃ r, pr tp s f lv o q c = some r := fun lv o q c h1 h2 h3 => ih lv o q c h1 h3 (by have := w7 lv; omega)
    simp only [pr]
    by_cases l10 : lv = 10
    · rw [if_pos l10]
      by_cases t1 : tk tp s p = 258
      · rw [if_pos t1]; exact ⟨_, rfl⟩
      · rw [if_neg t1]
        by_cases t2 : 300 ≤ tk tp s p ∧ tk tp s p < 306
        · rw [if_pos t2]; exact ⟨_, rfl⟩
        · rw [if_neg t2]
          by_cases t3 : tk tp s p = 45 ∨ tk tp s p = 40
          · rw [if_pos t3]
            obtain ⟨n1, n2⟩ := N p (Nat.le_refl _) hp (by omega)
            split
            · exact ⟨_, rfl⟩
            · split
              · exact prB_tot (ihN _ _ _ _ (by decide) n1 n2) (fun _ _ _ => ⟨_, rfl⟩)
              · refine prB_tot (ihN _ _ _ _ (by decide) n1 n2) (fun p2 c2 _ => ?_)
                split
                · exact ⟨_, rfl⟩
                · exact ⟨_, rfl⟩
          · rw [if_neg t3]; exact ⟨_, rfl⟩
    · rw [if_neg l10]
      by_cases l9 : lv = 9
      · rw [if_pos l9]
        subst l9
        refine prB_tot (ih _ _ _ _ (by decide) hp (by have : wT 4 = 3 := rfl; have : wT 9 = 4 := rfl; omega)) (fun p2 c2 h2 => ?_)
        obtain ⟨b1, b2, b3, b4⟩ := pr_b (by decide) h2 hp
        split
        · obtain ⟨n1, n2⟩ := N p2 b2 b1 (by omega)
          exact prB_tot (ihN _ _ _ _ (by decide) n1 n2) (fun _ _ _ => ⟨_, rfl⟩)
        · exact ⟨_, rfl⟩
      · rw [if_neg l9]
        by_cases l8 : lv = 8
        · rw [if_pos l8]
          subst l8
          split
          · split
            · exact ⟨_, rfl⟩
            · obtain ⟨n1, n2⟩ := N p (Nat.le_refl _) hp (by omega)
              exact prB_tot (ihN _ _ _ _ (by decide) n1 n2) (fun _ _ _ => ⟨_, rfl⟩)
          · exact ih _ _ _ _ (by decide) hp (by have : wT 8 = 5 := rfl; have : wT 9 = 4 := rfl; omega)
        · rw [if_neg l8]
          by_cases l2 : lv % 2 = 0
          · rw [if_pos l2]
            have hb : lv = 0 ∨ lv = 2 ∨ lv = 4 ∨ lv = 6 := by omega
            have hw : wT (itm lv) < wT lv := by rcases hb with rfl | rfl | rfl | rfl <;> decide
            have hit : ¬ (itm lv % 2 = 1 ∧ itm lv < 8) := by rcases hb with rfl | rfl | rfl | rfl <;> decide
            refine prB_tot (ih _ _ _ _ (itm_lt _) hp (by omega)) (fun p2 c2 h2 => ?_)
            obtain ⟨b1, b2, b3, b4⟩ := pr_b (itm_lt _) h2 hp
            exact ihN _ _ _ _ (by omega) (b4 rfl hit) b1
          · rw [if_neg l2]
            cases ho : opc (lv - 1) (tk tp s p) with
            | none => exact ⟨_, rfl⟩
            | some k =>
              obtain ⟨n1, n2⟩ := N p (Nat.le_refl _) hp (opc_ne ho).1
              refine prB_tot (ihN _ _ _ _ (itm_lt _) n1 n2) (fun p2 c2 h2 => ?_)
              obtain ⟨b1, b2, b3, b4⟩ := pr_b (itm_lt _) h2 n2
              exact ihN _ _ _ _ hlv (by omega) b1
/-! a read code can be worked -/
theorem okc_app {a b : List Nat} {h h1 h2 : Nat} : okc a h h1 → okc b h1 h2 → okc (a ++ b) h h2 := by
  induction a generalizing h with
  | nil => intro e hb; simp only [okc] at e; subst e; exact hb
  | cons k a ih => rintro ⟨m, hm, ha⟩ hb; exact ⟨m, hm, ih ha hb⟩
theorem okc_1 {k h h1 : Nat} (e : ht1 k h = some h1) : okc [k] h h1 := ⟨h1, e, rfl⟩
def wH (lv : Nat) : Nat := if lv = 10 then 0 else if lv = 9 ∨ lv = 8 then 3 else if lv < 2 then 5 else if lv < 4 then 4 else if lv < 6 then 2 else 1
theorem nuF_lt : ∀ f p v k, nuF tp f p v < 10 ^ (run tp isD f p - p + k) ∨ ¬ v < 10 ^ k
  | 0, p, v, k => by
    simp only [nuF, run, Nat.sub_self, Nat.zero_add]; omega
  | f + 1, p, v, k => by
    by_cases hD : isD (tp p) = true
    · simp only [nuF, run, if_pos hD]
      have g := run_ge (tp := tp) (P := isD) f (p + 1)
      have hd : tp p - 48 < 10 := by simp only [isD, Bool.and_eq_true, decide_eq_true_eq] at hD; omega
      rcases nuF_lt f (p + 1) (10 * v + (tp p - 48)) (k + 1) with h | h
      · left
        rw [show run tp isD f (p + 1) - p + k = run tp isD f (p + 1) - (p + 1) + (k + 1) by omega]; exact h
      · right
        rw [Nat.pow_succ] at h
        omega
    · simp only [nuF, run, if_neg hD, Nat.sub_self, Nat.zero_add]; omega
theorem nv_lt {p : Nat} (h : tk tp s p = 258) : nv tp s p < 10000 := by
  have hlt := tk_ne (tp := tp) (s := s) (p := p) (by omega)
  unfold tk at h
  rw [if_pos hlt] at h
  by_cases hL : isL (tp p) = true
  · rw [if_pos hL] at h
    have := wdT_c (tp := tp) (s := s) (p := p); omega
  · rw [if_neg hL] at h
    by_cases hD : isD (tp p) = true
    · rw [if_pos hD] at h
      by_cases h4 : sk tp s isD p - p ≤ 4
      · have e := nuF_lt (tp := tp) (s - p) p 0 0
        have : 10 ^ (run tp isD (s - p) p - p + 0) ≤ 10 ^ 4 := Nat.pow_le_pow_right (by decide) (by unfold sk at h4; omega)
        unfold nv
        omega
      · rw [if_neg h4] at h; omega
    · rw [if_neg hD] at h
      split at h
      · have := isS_lt (by assumption); omega
      · omega
theorem wH_it {lv : Nat} (h : isBin lv) : wH (itm lv) + 1 ≤ wH lv ∧ wH (lv + 1) = wH lv ∧ ¬ (itm lv % 2 = 1 ∧ itm lv < 8) ∧ ((lv + 1) % 2 = 1 ∧ lv + 1 < 8) ∧ ¬ (lv % 2 = 1 ∧ lv < 8) := by
  rcases h with rfl | rfl | rfl | rfl <;> decide
theorem wH_c : wH 8 = 3 ∧ wH 9 = 3 ∧ wH 4 = 2 ∧ wH 10 = 0 ∧ wH 0 = 5 ∧ ¬ (8 % 2 = 1 ∧ 8 < 8) ∧ ¬ (9 % 2 = 1 ∧ 9 < 8) ∧ ¬ (4 % 2 = 1 ∧ 4 < 8) ∧ ¬ (10 % 2 = 1 ∧ 10 < 8) ∧ ¬ (0 % 2 = 1 ∧ 0 < 8) := by decide
theorem pr_h {f lv o p : Nat} {c : List Nat} {p1 : Nat} {c1 : List Nat} (hlv : lv < 11) (h : pr tp s f lv o p c = some (true, p1, c1)) (ho : o ≤ 5) :
    ∃ e, c1 = c ++ e ∧ ∀ h, h + 1 + 5 * (5 - o) + wH lv ≤ 40 → okc e (if lv % 2 = 1 ∧ lv < 8 then h + 1 else h) (h + 1) := by
  have key := pr_ind (tp := tp) (s := s) (G := fun lv o p c b p1 c1 => b = true → o ≤ 5 → ∃ e, c1 = c ++ e ∧ ∀ h, h + 1 + 5 * (5 - o) + wH lv ≤ 40 → okc e (if lv % 2 = 1 ∧ lv < 8 then h + 1 else h) (h + 1))
  obtain ⟨v8, v9, v4, v10, v0, w8, w9, w10, w11, w12⟩ := wH_c
  refine key ?_ ?_ ?_ ?_ ?_ ?_ ?_ ?_ ?_ ?_ ?_ ?_ ?_ ?_ ?_ ?_ ?_ ?_ ?_ ?_ ?_ f lv o p c true p1 c1 hlv h rfl ho
  · intro lv o p c p1 c1 b p2 c2 hb g1 g2 hbt ho
    obtain ⟨e1, rfl, k1⟩ := g1 rfl ho
    obtain ⟨e2, rfl, k2⟩ := g2 hbt ho
    refine ⟨e1 ++ e2, by rw [List.append_assoc], fun h hh => ?_⟩
    obtain ⟨w1, w2, w3, w4, w5⟩ := wH_it hb
    have q1 := k1 h (by omega)
    have q2 := k2 h (by omega)
    rw [if_neg w3] at q1
    rw [if_pos w4] at q2
    rw [if_neg w5]
    exact okc_app q1 q2
  · intros; contradiction
  · intro lv o p c hb ho _ _
    refine ⟨[], by simp, fun h hh => ?_⟩
    rw [if_pos (by unfold isBin at hb; omega)]
    exact rfl
  · intro lv o p c k p1 c1 b p2 c2 hb hop g1 g2 hbt ho
    obtain ⟨e1, rfl, k1⟩ := g1 rfl ho
    obtain ⟨e2, rfl, k2⟩ := g2 hbt ho
    obtain ⟨_, o2, o3⟩ := opc_ne hop
    refine ⟨e1 ++ ([k] ++ e2), by simp, fun h hh => ?_⟩
    obtain ⟨w1, w2, w3, w4, w5⟩ := wH_it hb
    have q1 := k1 (h + 1) (by omega)
    have q2 := k2 h (by omega)
    have q3 : okc [k] (h + 2) (h + 1) := okc_1 (by unfold ht1; rw [if_neg (by omega), if_neg (by omega), if_pos ⟨by omega, by omega⟩]; rfl)
    rw [if_neg w3] at q1
    rw [if_pos w4] at q2 ⊢
    exact okc_app q1 (okc_app q3 q2)
  · intros; contradiction
  · intros; contradiction
  · intro o p c p1 c1 t h5 g1 _ ho
    obtain ⟨e1, rfl, k1⟩ := g1 rfl (by omega)
    refine ⟨e1 ++ [10007], by simp, fun h hh => ?_⟩
    have q := k1 h (by omega)
    simp only [w8, w11, if_false] at q ⊢
    exact okc_app q (okc_1 (by unfold ht1; rw [if_neg (by omega), if_pos (by omega), if_pos (by omega)]))
  · intros; contradiction
  · intro o p c b p1 c1 t g1 hb ho
    exact g1 hb ho
  · intros; contradiction
  · intro o p c p1 c1 g1 t _ ho
    obtain ⟨e1, rfl, k1⟩ := g1 rfl ho
    refine ⟨e1, rfl, fun h hh => ?_⟩
    have q := k1 h (by omega)
    simp only [w8, w9, w10, w11, w12, if_false] at q ⊢
    exact q
  · intro o p c p1 c1 p2 c2 g1 t g2 _ ho
    obtain ⟨e1, rfl, k1⟩ := g1 rfl ho
    obtain ⟨e2, rfl, k2⟩ := g2 rfl ho
    refine ⟨e1 ++ (e2 ++ [if tk tp s p1 = 60 then 10010 else 10011]), by simp, fun h hh => ?_⟩
    have q1 := k1 h (by omega)
    have q2 := k2 (h + 1) (by omega)
    simp only [w9, w10, if_false] at q1 q2 ⊢
    refine okc_app q1 (okc_app q2 (okc_1 ?_))
    unfold ht1
    rw [if_neg (by split <;> omega), if_neg (by split <;> omega), if_pos ⟨by omega, by split <;> omega⟩]; rfl
  · intros; contradiction
  · intro o p c t _ _
    refine ⟨[nv tp s p], rfl, fun h hh => okc_1 ?_⟩
    have := nv_lt t
    unfold ht1
    rw [if_pos (by omega)]
    simp only [show ¬ (10 % 2 = 1 ∧ 10 < 8) by decide, if_false]
    rw [if_pos (by omega)]
  · intro o p c i hi t _ _
    refine ⟨[10000 + i], rfl, fun h hh => okc_1 ?_⟩
    unfold ht1
    rw [if_pos (by omega)]
    simp only [show ¬ (10 % 2 = 1 ∧ 10 < 8) by decide, if_false]
    rw [if_pos (by omega)]
  · intros; contradiction
  · intro o p c p1 c1 t h5 g1 _ ho
    obtain ⟨e1, rfl, k1⟩ := g1 rfl (by omega)
    refine ⟨e1 ++ [10006], by simp, fun h hh => ?_⟩
    have q := k1 h (by omega)
    simp only [w8, w11, if_false] at q ⊢
    exact okc_app q (okc_1 (by unfold ht1; rw [if_neg (by omega), if_pos (by omega), if_pos (by omega)]))
  · intros; contradiction
  · intro o p c p1 c1 t h5 g1 t1 _ ho
    obtain ⟨e1, rfl, k1⟩ := g1 rfl (by omega)
    refine ⟨e1, rfl, fun h hh => ?_⟩
    have q := k1 h (by omega)
    simp only [w8, w9, w10, w11, w12, if_false] at q ⊢
    exact q
  · intros; contradiction
  · intros; contradiction
end
