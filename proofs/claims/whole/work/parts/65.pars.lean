/-! the pure reading of a text -/
def prB (x : Option (Bool × Nat × List Nat)) (k : Nat → List Nat → Option (Bool × Nat × List Nat)) : Option (Bool × Nat × List Nat) := match x with
  | some (true, p, c) => k p c
  | y => y
theorem prB_some {x : Option (Bool × Nat × List Nat)} {k : Nat → List Nat → Option (Bool × Nat × List Nat)} {b : Bool} {p : Nat} {c : List Nat} (h : prB x k = some (b, p, c)) :
    (∃ p1 c1, x = some (true, p1, c1) ∧ k p1 c1 = some (b, p, c)) ∨ (x = some (false, p, c) ∧ b = false) := by
  match x, h with
  | some (true, p1, c1), h => exact Or.inl ⟨p1, c1, rfl, h⟩
  | some (false, p1, c1), h =>
    simp only [prB, Option.some.injEq, Prod.mk.injEq] at h
    obtain ⟨rfl, rfl, rfl⟩ := h
    exact Or.inr ⟨rfl, rfl⟩
  | none, h => simp [prB] at h
/-- what stands between two halves -/
def opc (lv t : Nat) : Option Nat := if lv = 0 then (if t = 309 then some 10008 else none) else if lv = 2 then (if t = 310 then some 10009 else none)
  else if lv = 4 then (if t = 43 then some 10012 else if t = 45 then some 10013 else none) else if t = 42 then some 10014 else none
def itm (lv : Nat) : Nat := if lv = 0 then 2 else if lv = 2 then 8 else if lv = 4 then 6 else 10
section
variable (tp : Nat → Nat) (s : Nat)
/-- levels: 0 or, 2 and, 4 sum, 6 term (one more: what follows the first half), 8 not, 9 comparison, 10 one -/
def pr : Nat → Nat → Nat → Nat → List Nat → Option (Bool × Nat × List Nat)
  | 0, _, _, _, _ => none
  | f + 1, lv, o, p, c =>
    if lv = 10 then
      (if tk tp s p = 258 then some (true, nx tp s p, c ++ [nv tp s p])
       else if 300 ≤ tk tp s p ∧ tk tp s p < 306 then some (true, nx tp s p, c ++ [10000 + (tk tp s p - 300)])
       else if tk tp s p = 45 ∨ tk tp s p = 40 then
         (if 5 ≤ o then some (false, p, c)
          else if tk tp s p = 45 then prB (pr f 10 (o + 1) (nx tp s p) c) (fun p c => some (true, p, c ++ [10006]))
          else prB (pr f 0 (o + 1) (nx tp s p) c) (fun p c => if tk tp s p = 41 then some (true, nx tp s p, c) else some (false, p, c)))
       else some (false, p, c))
    else if lv = 9 then prB (pr f 4 o p c) (fun p c => if tk tp s p = 60 ∨ tk tp s p = 61 then prB (pr f 4 o (nx tp s p) c) (fun p1 c1 => some (true, p1, c1 ++ [if tk tp s p = 60 then 10010 else 10011])) else some (true, p, c))
    else if lv = 8 then (if tk tp s p = 311 then (if 5 ≤ o then some (false, p, c) else prB (pr f 8 (o + 1) (nx tp s p) c) (fun p c => some (true, p, c ++ [10007]))) else pr f 9 o p c)
    else if lv % 2 = 0 then prB (pr f (itm lv) o p c) (fun p c => pr f (lv + 1) o p c)
    else match opc (lv - 1) (tk tp s p) with
      | some k => prB (pr f (itm (lv - 1)) o (nx tp s p) c) (fun p c => pr f lv o p (c ++ [k]))
      | none => some (true, p, c)
end
def isBin (lv : Nat) : Prop := lv = 0 ∨ lv = 2 ∨ lv = 4 ∨ lv = 6
def isLv (lv : Nat) : Prop := lv < 11
section
variable {tp : Nat → Nat} {s : Nat}
theorem itm_lt (lv : Nat) : itm lv < 11 := by unfold itm; (repeat' split) <;> omega
/-- the rule of induction over a reading -/
theorem pr_ind {G : Nat → Nat → Nat → List Nat → Bool → Nat → List Nat → Prop}
    (c1 : ∀ lv o p c p1 c1 b p2 c2, isBin lv → G (itm lv) o p c true p1 c1 → G (lv + 1) o p1 c1 b p2 c2 → G lv o p c b p2 c2)
    (c2 : ∀ lv o p c p1 c1, isBin lv → G (itm lv) o p c false p1 c1 → G lv o p c false p1 c1)
    (c3 : ∀ lv o p c, isBin lv → opc lv (tk tp s p) = none → G (lv + 1) o p c true p c)
    (c4 : ∀ lv o p c k p1 c1 b p2 c2, isBin lv → opc lv (tk tp s p) = some k → G (itm lv) o (nx tp s p) c true p1 c1 → G (lv + 1) o p1 (c1 ++ [k]) b p2 c2 → G (lv + 1) o p c b p2 c2)
    (c5 : ∀ lv o p c k p1 c1, isBin lv → opc lv (tk tp s p) = some k → G (itm lv) o (nx tp s p) c false p1 c1 → G (lv + 1) o p c false p1 c1)
    (c6 : ∀ o p c, tk tp s p = 311 → 5 ≤ o → G 8 o p c false p c)
    (c7 : ∀ o p c p1 c1, tk tp s p = 311 → ¬ 5 ≤ o → G 8 (o + 1) (nx tp s p) c true p1 c1 → G 8 o p c true p1 (c1 ++ [10007]))
    (c8 : ∀ o p c p1 c1, tk tp s p = 311 → ¬ 5 ≤ o → G 8 (o + 1) (nx tp s p) c false p1 c1 → G 8 o p c false p1 c1)
    (c9 : ∀ o p c b p1 c1, ¬ tk tp s p = 311 → G 9 o p c b p1 c1 → G 8 o p c b p1 c1)
    (c10 : ∀ o p c p1 c1, G 4 o p c false p1 c1 → G 9 o p c false p1 c1)
    (c11 : ∀ o p c p1 c1, G 4 o p c true p1 c1 → ¬ (tk tp s p1 = 60 ∨ tk tp s p1 = 61) → G 9 o p c true p1 c1)
    (c12 : ∀ o p c p1 c1 p2 c2, G 4 o p c true p1 c1 → (tk tp s p1 = 60 ∨ tk tp s p1 = 61) → G 4 o (nx tp s p1) c1 true p2 c2 → G 9 o p c true p2 (c2 ++ [if tk tp s p1 = 60 then 10010 else 10011]))
    (c13 : ∀ o p c p1 c1 p2 c2, G 4 o p c true p1 c1 → (tk tp s p1 = 60 ∨ tk tp s p1 = 61) → G 4 o (nx tp s p1) c1 false p2 c2 → G 9 o p c false p2 c2)
    (c14 : ∀ o p c, tk tp s p = 258 → G 10 o p c true (nx tp s p) (c ++ [nv tp s p]))
    (c15 : ∀ o p c i, i < 6 → tk tp s p = 300 + i → G 10 o p c true (nx tp s p) (c ++ [10000 + i]))
    (c16 : ∀ o p c, ¬ tk tp s p = 258 → ¬ (300 ≤ tk tp s p ∧ tk tp s p < 306) → ¬ (tk tp s p = 45 ∨ tk tp s p = 40) ∨ 5 ≤ o → G 10 o p c false p c)
    (c17 : ∀ o p c p1 c1, tk tp s p = 45 → ¬ 5 ≤ o → G 10 (o + 1) (nx tp s p) c true p1 c1 → G 10 o p c true p1 (c1 ++ [10006]))
    (c18 : ∀ o p c p1 c1, tk tp s p = 45 → ¬ 5 ≤ o → G 10 (o + 1) (nx tp s p) c false p1 c1 → G 10 o p c false p1 c1)
    (c19 : ∀ o p c p1 c1, tk tp s p = 40 → ¬ 5 ≤ o → G 0 (o + 1) (nx tp s p) c true p1 c1 → tk tp s p1 = 41 → G 10 o p c true (nx tp s p1) c1)
    (c20 : ∀ o p c p1 c1, tk tp s p = 40 → ¬ 5 ≤ o → G 0 (o + 1) (nx tp s p) c true p1 c1 → ¬ tk tp s p1 = 41 → G 10 o p c false p1 c1)
    (c21 : ∀ o p c p1 c1, tk tp s p = 40 → ¬ 5 ≤ o → G 0 (o + 1) (nx tp s p) c false p1 c1 → G 10 o p c false p1 c1) :
    ∀ f lv o p c b p1 c1, lv < 11 → pr tp s f lv o p c = some (b, p1, c1) → G lv o p c b p1 c1 := by
  intro f
  induction f with
  | zero => intro lv o p c b p1 c1 _ h; simp [pr] at h
  | succ f ih =>
    intro lv o p c b p1 cc hlv h
    simp only [pr] at h
    by_cases l10 : lv = 10
    · subst l10
      rw [if_pos rfl] at h
      by_cases t1 : tk tp s p = 258
      · rw [if_pos t1] at h
        simp only [Option.some.injEq, Prod.mk.injEq] at h
        obtain ⟨rfl, rfl, rfl⟩ := h
        exact c14 o p c t1
      · rw [if_neg t1] at h
        by_cases t2 : 300 ≤ tk tp s p ∧ tk tp s p < 306
        · rw [if_pos t2] at h
          simp only [Option.some.injEq, Prod.mk.injEq] at h
          obtain ⟨rfl, rfl, rfl⟩ := h
          exact c15 o p c _ (by omega) (by omega)
        · rw [if_neg t2] at h
          by_cases t3 : tk tp s p = 45 ∨ tk tp s p = 40
          · rw [if_pos t3] at h
            by_cases h5 : 5 ≤ o
            · rw [if_pos h5] at h
              simp only [Option.some.injEq, Prod.mk.injEq] at h
              obtain ⟨rfl, rfl, rfl⟩ := h
              exact c16 o p c t1 t2 (Or.inr h5)
            · rw [if_neg h5] at h
              by_cases t4 : tk tp s p = 45
              · rw [if_pos t4] at h
                rcases prB_some h with ⟨p2, c2', hx, hk⟩ | ⟨hx, rfl⟩
                · simp only [Option.some.injEq, Prod.mk.injEq] at hk
                  obtain ⟨rfl, rfl, rfl⟩ := hk
                  exact c17 o p c _ _ t4 h5 (ih _ _ _ _ _ _ _ (by decide) hx)
                · exact c18 o p c _ _ t4 h5 (ih _ _ _ _ _ _ _ (by decide) hx)
              · rw [if_neg t4] at h
                have t5 : tk tp s p = 40 := by omega
                rcases prB_some h with ⟨p2, c2', hx, hk⟩ | ⟨hx, rfl⟩
                · by_cases t6 : tk tp s p2 = 41
                  · simp only [if_pos t6, Option.some.injEq, Prod.mk.injEq] at hk
                    obtain ⟨rfl, rfl, rfl⟩ := hk
                    exact c19 o p c _ _ t5 h5 (ih _ _ _ _ _ _ _ (by decide) hx) t6
                  · simp only [if_neg t6, Option.some.injEq, Prod.mk.injEq] at hk
                    obtain ⟨rfl, rfl, rfl⟩ := hk
                    exact c20 o p c _ _ t5 h5 (ih _ _ _ _ _ _ _ (by decide) hx) t6
                · exact c21 o p c _ _ t5 h5 (ih _ _ _ _ _ _ _ (by decide) hx)
          · rw [if_neg t3] at h
            simp only [Option.some.injEq, Prod.mk.injEq] at h
            obtain ⟨rfl, rfl, rfl⟩ := h
            exact c16 o p c t1 t2 (Or.inl t3)
    · rw [if_neg l10] at h
      by_cases l9 : lv = 9
      · subst l9
        rw [if_pos rfl] at h
        rcases prB_some h with ⟨p2, c2', hx, hk⟩ | ⟨hx, rfl⟩
        · have g := ih _ _ _ _ _ _ _ (by decide) hx
          by_cases t1 : tk tp s p2 = 60 ∨ tk tp s p2 = 61
          · simp only [if_pos t1] at hk
            rcases prB_some hk with ⟨p3, c3', hy, hk2⟩ | ⟨hy, rfl⟩
            · simp only [Option.some.injEq, Prod.mk.injEq] at hk2
              obtain ⟨rfl, rfl, rfl⟩ := hk2
              exact c12 o p c _ _ _ _ g t1 (ih _ _ _ _ _ _ _ (by decide) hy)
            · exact c13 o p c _ _ _ _ g t1 (ih _ _ _ _ _ _ _ (by decide) hy)
          · simp only [if_neg t1, Option.some.injEq, Prod.mk.injEq] at hk
            obtain ⟨rfl, rfl, rfl⟩ := hk
            exact c11 o p c _ _ g t1
        · exact c10 o p c _ _ (ih _ _ _ _ _ _ _ (by decide) hx)
      · rw [if_neg l9] at h
        by_cases l8 : lv = 8
        · subst l8
          rw [if_pos rfl] at h
          by_cases t1 : tk tp s p = 311
          · rw [if_pos t1] at h
            by_cases h5 : 5 ≤ o
            · rw [if_pos h5] at h
              simp only [Option.some.injEq, Prod.mk.injEq] at h
              obtain ⟨rfl, rfl, rfl⟩ := h
              exact c6 o p c t1 h5
            · rw [if_neg h5] at h
              rcases prB_some h with ⟨p2, c2', hx, hk⟩ | ⟨hx, rfl⟩
              · simp only [Option.some.injEq, Prod.mk.injEq] at hk
                obtain ⟨rfl, rfl, rfl⟩ := hk
                exact c7 o p c _ _ t1 h5 (ih _ _ _ _ _ _ _ (by decide) hx)
              · exact c8 o p c _ _ t1 h5 (ih _ _ _ _ _ _ _ (by decide) hx)
          · rw [if_neg t1] at h
            exact c9 o p c _ _ _ t1 (ih _ _ _ _ _ _ _ (by decide) h)
        · rw [if_neg l8] at h
          by_cases l2 : lv % 2 = 0
          · rw [if_pos l2] at h
            have hb : isBin lv := by unfold isBin; omega
            rcases prB_some h with ⟨p2, c2', hx, hk⟩ | ⟨hx, rfl⟩
            · exact c1 lv o p c _ _ _ _ _ hb (ih _ _ _ _ _ _ _ (itm_lt _) hx) (ih _ _ _ _ _ _ _ (by omega) hk)
            · exact c2 lv o p c _ _ hb (ih _ _ _ _ _ _ _ (itm_lt _) hx)
          · rw [if_neg l2] at h
            obtain ⟨l, rfl⟩ : ∃ l, lv = l + 1 := ⟨lv - 1, by omega⟩
            have hb : isBin l := by unfold isBin; omega
            rw [Nat.add_sub_cancel] at h
            cases ho : opc l (tk tp s p) with
            | none =>
              rw [ho] at h
              simp only [Option.some.injEq, Prod.mk.injEq] at h
              obtain ⟨rfl, rfl, rfl⟩ := h
              exact c3 l o p c hb ho
            | some k =>
              rw [ho] at h
              rcases prB_some h with ⟨p2, c2', hx, hk⟩ | ⟨hx, rfl⟩
              · exact c4 l o p c k _ _ _ _ _ hb ho (ih _ _ _ _ _ _ _ (itm_lt _) hx) (ih _ _ _ _ _ _ _ hlv hk)
              · exact c5 l o p c k _ _ hb ho (ih _ _ _ _ _ _ _ (itm_lt _) hx)
end
