/-! the rule of induction with the bounds at hand -/
def Bd (s p : Nat) (c : List Nat) (p1 : Nat) (c1 : List Nat) : Prop := p ≤ s ∧ p1 ≤ s ∧ p ≤ p1 ∧ c1.length + p ≤ c.length + p1
section
variable {tp : Nat → Nat} {s : Nat}
theorem bd_of {f lv o p : Nat} {c : List Nat} {b : Bool} {p1 : Nat} {c1 : List Nat} (hlv : lv < 11) (hp : p ≤ s) (h : pr tp s f lv o p c = some (b, p1, c1)) : Bd s p c p1 c1 :=
  have g := pr_b hlv h hp
  ⟨hp, g.1, g.2.1, g.2.2.1⟩
/-- the same, with what pr_b says at hand -/
theorem pr_ind2 {G : Nat → Nat → Nat → List Nat → Bool → Nat → List Nat → Prop}
    (c1 : ∀ lv o p c p1 c1 b p2 c2, p ≤ s → isBin lv → Bd s p c p1 c1 ∧ G (itm lv) o p c true p1 c1 → Bd s p1 c1 p2 c2 ∧ G (lv + 1) o p1 c1 b p2 c2 → G lv o p c b p2 c2)
    (c2 : ∀ lv o p c p1 c1, p ≤ s → isBin lv → Bd s p c p1 c1 ∧ G (itm lv) o p c false p1 c1 → G lv o p c false p1 c1)
    (c3 : ∀ lv o p c, p ≤ s → isBin lv → opc lv (tk tp s p) = none → G (lv + 1) o p c true p c)
    (c4 : ∀ lv o p c k p1 c1 b p2 c2, p ≤ s → isBin lv → opc lv (tk tp s p) = some k → Bd s (nx tp s p) c p1 c1 ∧ G (itm lv) o (nx tp s p) c true p1 c1 → Bd s p1 (c1 ++ [k]) p2 c2 ∧ G (lv + 1) o p1 (c1 ++ [k]) b p2 c2 → G (lv + 1) o p c b p2 c2)
    (c5 : ∀ lv o p c k p1 c1, p ≤ s → isBin lv → opc lv (tk tp s p) = some k → Bd s (nx tp s p) c p1 c1 ∧ G (itm lv) o (nx tp s p) c false p1 c1 → G (lv + 1) o p c false p1 c1)
    (c6 : ∀ o p c, p ≤ s → tk tp s p = 311 → 5 ≤ o → G 8 o p c false p c)
    (c7 : ∀ o p c p1 c1, p ≤ s → tk tp s p = 311 → ¬ 5 ≤ o → Bd s (nx tp s p) c p1 c1 ∧ G 8 (o + 1) (nx tp s p) c true p1 c1 → G 8 o p c true p1 (c1 ++ [10007]))
    (c8 : ∀ o p c p1 c1, p ≤ s → tk tp s p = 311 → ¬ 5 ≤ o → Bd s (nx tp s p) c p1 c1 ∧ G 8 (o + 1) (nx tp s p) c false p1 c1 → G 8 o p c false p1 c1)
    (c9 : ∀ o p c b p1 c1, p ≤ s → ¬ tk tp s p = 311 → Bd s p c p1 c1 ∧ G 9 o p c b p1 c1 → G 8 o p c b p1 c1)
    (c10 : ∀ o p c p1 c1, p ≤ s → Bd s p c p1 c1 ∧ G 4 o p c false p1 c1 → G 9 o p c false p1 c1)
    (c11 : ∀ o p c p1 c1, p ≤ s → Bd s p c p1 c1 ∧ G 4 o p c true p1 c1 → ¬ (tk tp s p1 = 60 ∨ tk tp s p1 = 61) → G 9 o p c true p1 c1)
    (c12 : ∀ o p c p1 c1 p2 c2, p ≤ s → Bd s p c p1 c1 ∧ G 4 o p c true p1 c1 → (tk tp s p1 = 60 ∨ tk tp s p1 = 61) → Bd s (nx tp s p1) c1 p2 c2 ∧ G 4 o (nx tp s p1) c1 true p2 c2 → G 9 o p c true p2 (c2 ++ [if tk tp s p1 = 60 then 10010 else 10011]))
    (c13 : ∀ o p c p1 c1 p2 c2, p ≤ s → Bd s p c p1 c1 ∧ G 4 o p c true p1 c1 → (tk tp s p1 = 60 ∨ tk tp s p1 = 61) → Bd s (nx tp s p1) c1 p2 c2 ∧ G 4 o (nx tp s p1) c1 false p2 c2 → G 9 o p c false p2 c2)
    (c14 : ∀ o p c, p ≤ s → tk tp s p = 258 → G 10 o p c true (nx tp s p) (c ++ [nv tp s p]))
    (c15 : ∀ o p c i, p ≤ s → i < 6 → tk tp s p = 300 + i → G 10 o p c true (nx tp s p) (c ++ [10000 + i]))
    (c16 : ∀ o p c, p ≤ s → ¬ tk tp s p = 258 → ¬ (300 ≤ tk tp s p ∧ tk tp s p < 306) → ¬ (tk tp s p = 45 ∨ tk tp s p = 40) ∨ 5 ≤ o → G 10 o p c false p c)
    (c17 : ∀ o p c p1 c1, p ≤ s → tk tp s p = 45 → ¬ 5 ≤ o → Bd s (nx tp s p) c p1 c1 ∧ G 10 (o + 1) (nx tp s p) c true p1 c1 → G 10 o p c true p1 (c1 ++ [10006]))
    (c18 : ∀ o p c p1 c1, p ≤ s → tk tp s p = 45 → ¬ 5 ≤ o → Bd s (nx tp s p) c p1 c1 ∧ G 10 (o + 1) (nx tp s p) c false p1 c1 → G 10 o p c false p1 c1)
    (c19 : ∀ o p c p1 c1, p ≤ s → tk tp s p = 40 → ¬ 5 ≤ o → Bd s (nx tp s p) c p1 c1 ∧ G 0 (o + 1) (nx tp s p) c true p1 c1 → tk tp s p1 = 41 → G 10 o p c true (nx tp s p1) c1)
    (c20 : ∀ o p c p1 c1, p ≤ s → tk tp s p = 40 → ¬ 5 ≤ o → Bd s (nx tp s p) c p1 c1 ∧ G 0 (o + 1) (nx tp s p) c true p1 c1 → ¬ tk tp s p1 = 41 → G 10 o p c false p1 c1)
    (c21 : ∀ o p c p1 c1, p ≤ s → tk tp s p = 40 → ¬ 5 ≤ o → Bd s (nx tp s p) c p1 c1 ∧ G 0 (o + 1) (nx tp s p) c false p1 c1 → G 10 o p c false p1 c1) :
    ∀ f lv o p c b p1 c1, lv < 11 → p ≤ s → pr tp s f lv o p c = some (b, p1, c1) → G lv o p c b p1 c1 := by
  intro f
  induction f with
  | zero => intro lv o p c b p1 c1 _ _ h; simp [pr] at h
  | succ f ih =>
    intro lv o p c b p1 cc hlv hp h
    have J : ∀ lv o q c b p1 c1, lv < 11 → q ≤ s → pr tp s f lv o q c = some (b, p1, c1) → Bd s q c p1 c1 ∧ G lv o q c b p1 c1 := fun lv o q c b p1 c1 h1 h2 h3 => ⟨bd_of h1 h2 h3, ih _ _ _ _ _ _ _ h1 h2 h3⟩
    simp only [pr] at h
    by_cases l10 : lv = 10
    · subst l10
      rw [if_pos rfl] at h
      by_cases t1 : tk tp s p = 258
      · rw [if_pos t1] at h
        simp only [Option.some.injEq, Prod.mk.injEq] at h
        obtain ⟨rfl, rfl, rfl⟩ := h
        exact c14 o p c hp t1
      · rw [if_neg t1] at h
        by_cases t2 : 300 ≤ tk tp s p ∧ tk tp s p < 306
        · rw [if_pos t2] at h
          simp only [Option.some.injEq, Prod.mk.injEq] at h
          obtain ⟨rfl, rfl, rfl⟩ := h
          exact c15 o p c _ hp (by omega) (by omega)
        · rw [if_neg t2] at h
          by_cases t3 : tk tp s p = 45 ∨ tk tp s p = 40
          · rw [if_pos t3] at h
            by_cases h5 : 5 ≤ o
            · rw [if_pos h5] at h
              simp only [Option.some.injEq, Prod.mk.injEq] at h
              obtain ⟨rfl, rfl, rfl⟩ := h
              exact c16 o p c hp t1 t2 (Or.inr h5)
            · rw [if_neg h5] at h
              by_cases t4 : tk tp s p = 45
              · rw [if_pos t4] at h
                rcases prB_some h with ⟨p2, c2', hx, hk⟩ | ⟨hx, rfl⟩
                · simp only [Option.some.injEq, Prod.mk.injEq] at hk
                  obtain ⟨rfl, rfl, rfl⟩ := hk
                  exact c17 o p c _ _ hp t4 h5 (J _ _ _ _ _ _ _ (by decide) (by first | exact hp | exact nx_le hp | exact nx_le g.1.2.1 | exact (bd_of (itm_lt _) hp hx).2.1 | exact (bd_of (itm_lt _) (nx_le hp) hx).2.1) hx)
                · exact c18 o p c _ _ hp t4 h5 (J _ _ _ _ _ _ _ (by decide) (by first | exact hp | exact nx_le hp | exact nx_le g.1.2.1 | exact (bd_of (itm_lt _) hp hx).2.1 | exact (bd_of (itm_lt _) (nx_le hp) hx).2.1) hx)
              · rw [if_neg t4] at h
                have t5 : tk tp s p = 40 := by omega
                rcases prB_some h with ⟨p2, c2', hx, hk⟩ | ⟨hx, rfl⟩
                · by_cases t6 : tk tp s p2 = 41
                  · simp only [if_pos t6, Option.some.injEq, Prod.mk.injEq] at hk
                    obtain ⟨rfl, rfl, rfl⟩ := hk
                    exact c19 o p c _ _ hp t5 h5 (J _ _ _ _ _ _ _ (by decide) (by first | exact hp | exact nx_le hp | exact nx_le g.1.2.1 | exact (bd_of (itm_lt _) hp hx).2.1 | exact (bd_of (itm_lt _) (nx_le hp) hx).2.1) hx) t6
                  · simp only [if_neg t6, Option.some.injEq, Prod.mk.injEq] at hk
                    obtain ⟨rfl, rfl, rfl⟩ := hk
                    exact c20 o p c _ _ hp t5 h5 (J _ _ _ _ _ _ _ (by decide) (by first | exact hp | exact nx_le hp | exact nx_le g.1.2.1 | exact (bd_of (itm_lt _) hp hx).2.1 | exact (bd_of (itm_lt _) (nx_le hp) hx).2.1) hx) t6
                · exact c21 o p c _ _ hp t5 h5 (J _ _ _ _ _ _ _ (by decide) (by first | exact hp | exact nx_le hp | exact nx_le g.1.2.1 | exact (bd_of (itm_lt _) hp hx).2.1 | exact (bd_of (itm_lt _) (nx_le hp) hx).2.1) hx)
          · rw [if_neg t3] at h
            simp only [Option.some.injEq, Prod.mk.injEq] at h
            obtain ⟨rfl, rfl, rfl⟩ := h
            exact c16 o p c hp t1 t2 (Or.inl t3)
    · rw [if_neg l10] at h
      by_cases l9 : lv = 9
      · subst l9
        rw [if_pos rfl] at h
        rcases prB_some h with ⟨p2, c2', hx, hk⟩ | ⟨hx, rfl⟩
        · have g := J _ _ _ _ _ _ _ (by decide) (by first | exact hp | exact nx_le hp | exact nx_le g.1.2.1 | exact (bd_of (itm_lt _) hp hx).2.1 | exact (bd_of (itm_lt _) (nx_le hp) hx).2.1) hx
          by_cases t1 : tk tp s p2 = 60 ∨ tk tp s p2 = 61
          · simp only [if_pos t1] at hk
            rcases prB_some hk with ⟨p3, c3', hy, hk2⟩ | ⟨hy, rfl⟩
            · simp only [Option.some.injEq, Prod.mk.injEq] at hk2
              obtain ⟨rfl, rfl, rfl⟩ := hk2
              exact c12 o p c _ _ _ _ hp g t1 (J _ _ _ _ _ _ _ (by decide) (by first | exact hp | exact nx_le hp | exact nx_le g.1.2.1 | exact (bd_of (itm_lt _) hp hx).2.1 | exact (bd_of (itm_lt _) (nx_le hp) hx).2.1) hy)
            · exact c13 o p c _ _ _ _ hp g t1 (J _ _ _ _ _ _ _ (by decide) (by first | exact hp | exact nx_le hp | exact nx_le g.1.2.1 | exact (bd_of (itm_lt _) hp hx).2.1 | exact (bd_of (itm_lt _) (nx_le hp) hx).2.1) hy)
          · simp only [if_neg t1, Option.some.injEq, Prod.mk.injEq] at hk
            obtain ⟨rfl, rfl, rfl⟩ := hk
            exact c11 o p c _ _ hp g t1
        · exact c10 o p c _ _ hp (J _ _ _ _ _ _ _ (by decide) (by first | exact hp | exact nx_le hp | exact nx_le g.1.2.1 | exact (bd_of (itm_lt _) hp hx).2.1 | exact (bd_of (itm_lt _) (nx_le hp) hx).2.1) hx)
      · rw [if_neg l9] at h
        by_cases l8 : lv = 8
        · subst l8
          rw [if_pos rfl] at h
          by_cases t1 : tk tp s p = 311
          · rw [if_pos t1] at h
            by_cases h5 : 5 ≤ o
            · rw [if_pos h5] at h
              simp only [Option.some.injEq, Prod.mk.injEq] at h
              obtain ⟨rfl, rfl, rfl⟩ := h
              exact c6 o p c hp t1 h5
            · rw [if_neg h5] at h
              rcases prB_some h with ⟨p2, c2', hx, hk⟩ | ⟨hx, rfl⟩
              · simp only [Option.some.injEq, Prod.mk.injEq] at hk
                obtain ⟨rfl, rfl, rfl⟩ := hk
                exact c7 o p c _ _ hp t1 h5 (J _ _ _ _ _ _ _ (by decide) (by first | exact hp | exact nx_le hp | exact nx_le g.1.2.1 | exact (bd_of (itm_lt _) hp hx).2.1 | exact (bd_of (itm_lt _) (nx_le hp) hx).2.1) hx)
              · exact c8 o p c _ _ hp t1 h5 (J _ _ _ _ _ _ _ (by decide) (by first | exact hp | exact nx_le hp | exact nx_le g.1.2.1 | exact (bd_of (itm_lt _) hp hx).2.1 | exact (bd_of (itm_lt _) (nx_le hp) hx).2.1) hx)
          · rw [if_neg t1] at h
            exact c9 o p c _ _ _ hp t1 (J _ _ _ _ _ _ _ (by decide) (by first | exact hp | exact nx_le hp | exact nx_le g.1.2.1 | exact (bd_of (itm_lt _) hp hx).2.1 | exact (bd_of (itm_lt _) (nx_le hp) hx).2.1) h)
        · rw [if_neg l8] at h
          by_cases l2 : lv % 2 = 0
          · rw [if_pos l2] at h
            have hb : isBin lv := by unfold isBin; omega
            rcases prB_some h with ⟨p2, c2', hx, hk⟩ | ⟨hx, rfl⟩
            · exact c1 lv o p c _ _ _ _ _ hp hb (J _ _ _ _ _ _ _ (itm_lt _) (by first | exact hp | exact nx_le hp | exact nx_le g.1.2.1 | exact (bd_of (itm_lt _) hp hx).2.1 | exact (bd_of (itm_lt _) (nx_le hp) hx).2.1) hx) (J _ _ _ _ _ _ _ (by omega) (by first | exact hp | exact nx_le hp | exact nx_le g.1.2.1 | exact (bd_of (itm_lt _) hp hx).2.1 | exact (bd_of (itm_lt _) (nx_le hp) hx).2.1) hk)
            · exact c2 lv o p c _ _ hp hb (J _ _ _ _ _ _ _ (itm_lt _) (by first | exact hp | exact nx_le hp | exact nx_le g.1.2.1 | exact (bd_of (itm_lt _) hp hx).2.1 | exact (bd_of (itm_lt _) (nx_le hp) hx).2.1) hx)
          · rw [if_neg l2] at h
            obtain ⟨l, rfl⟩ : ∃ l, lv = l + 1 := ⟨lv - 1, by omega⟩
            have hb : isBin l := by unfold isBin; omega
            rw [Nat.add_sub_cancel] at h
            cases ho : opc l (tk tp s p) with
            | none =>
              rw [ho] at h
              simp only [Option.some.injEq, Prod.mk.injEq] at h
              obtain ⟨rfl, rfl, rfl⟩ := h
              exact c3 l o p c hp hb ho
            | some k =>
              rw [ho] at h
              rcases prB_some h with ⟨p2, c2', hx, hk⟩ | ⟨hx, rfl⟩
              · exact c4 l o p c k _ _ _ _ _ hp hb ho (J _ _ _ _ _ _ _ (itm_lt _) (by first | exact hp | exact nx_le hp | exact nx_le g.1.2.1 | exact (bd_of (itm_lt _) hp hx).2.1 | exact (bd_of (itm_lt _) (nx_le hp) hx).2.1) hx) (J _ _ _ _ _ _ _ hlv (by first | exact hp | exact nx_le hp | exact nx_le g.1.2.1 | exact (bd_of (itm_lt _) hp hx).2.1 | exact (bd_of (itm_lt _) (nx_le hp) hx).2.1) hk)
              · exact c5 l o p c k _ _ hp hb ho (J _ _ _ _ _ _ _ (itm_lt _) (by first | exact hp | exact nx_le hp | exact nx_le g.1.2.1 | exact (bd_of (itm_lt _) hp hx).2.1 | exact (bd_of (itm_lt _) (nx_le hp) hx).2.1) hx)
end
