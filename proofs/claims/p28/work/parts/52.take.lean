theorem shift_spec {f : Nat → Int32} {p : Nat} : ∀ {k : Nat}, p + 1 + k ≤ 7 → ∀ j, shiftF f p k j = if p ≤ j ∧ j < p + k then f (j + 1) else f j
  | 0, _, j => by rw [if_neg (by omega)]; rfl
  | k + 1, h, j => by
    have ih := fun j => shift_spec (f := f) (p := p) (k := k) (by omega) j
    rw [shiftF, show p + 1 + k = (p + k) + 1 by omega, nI_pred, setF_nI (by omega) (by decide), atF_nI (by omega) (by decide)]
    by_cases e : j = p + k
    · subst e
      rw [upd_self9, ih, if_neg (by omega), if_pos (by omega)]
    · rw [upd_ne9 e, ih]
      by_cases h1 : p ≤ j ∧ j < p + k
      · rw [if_pos h1, if_pos (by omega)]
      · rw [if_neg h1, if_neg (by omega)]
theorem pos_spec {f : Nat → Int32} {x : Int32} : ∀ {k i : Nat}, i + k ≤ 7 → (∃ p, i ≤ p ∧ p < i + k ∧ f p = x ∧ posF f x i k = nI p ∧ ∀ j, i ≤ j → j < p → f j ≠ x) ∨ (posF f x i k = -1 ∧ ∀ j, i ≤ j → j < i + k → f j ≠ x)
  | 0, i, _ => Or.inr ⟨rfl, fun j h1 h2 => absurd h2 (by omega)⟩
  | k + 1, i, h => by
    rw [posF, atF_nI (by omega) (by decide)]
    by_cases e : f i = x
    · rw [if_pos e]
      exact Or.inl ⟨i, Nat.le_refl _, by omega, e, rfl, fun j h1 h2 => absurd h2 (by omega)⟩
    · rw [if_neg e]
      rcases pos_spec (f := f) (x := x) (k := k) (i := i + 1) (by omega) with ⟨p, h1, h2, h3, h4, h5⟩ | ⟨h1, h2⟩
      · exact Or.inl ⟨p, by omega, by omega, h3, h4, fun j g1 g2 => by
          by_cases e2 : j = i
          · subst e2; exact e
          · exact h5 j (by omega) g2⟩
      · exact Or.inr ⟨h1, fun j g1 g2 => by
          by_cases e2 : j = i
          · subst e2; exact e
          · exact h2 j (by omega) (by omega)⟩
theorem cb_take {f : Nat → Int32} {q : Nat} (hq : f q = 98) : ∀ i, cb (upd f q 111) i = if i ≤ q then cb f i else cb f i - 1
  | 0 => by rw [if_pos (Nat.zero_le _)]; rfl
  | i + 1 => by
    have ih := cb_take hq i
    rw [cb, cb]
    by_cases e : i = q
    · subst e
      rw [upd_self9, if_neg (by decide), if_neg (by omega), if_pos hq, ih, if_pos (Nat.le_refl _)]
      omega
    · rw [upd_ne9 e]
      by_cases h1 : i ≤ q
      · rw [ih, if_pos h1, if_pos (show i + 1 ≤ q by omega)]
      · rw [ih, if_neg h1, if_neg (show ¬ i + 1 ≤ q by omega)]
        have hpos : 0 < cb f i := by
          have := cb_lt hq (show q < i by omega)
          omega
        split <;> omega
theorem lkA_take {f b : Nat → Int32} {q : Nat} (hq : f q = 98) : ∀ {i k : Nat}, k < cb (upd f q 111) i → lkA (upd f q 111) b i k = if k < cb f q then lkA f b i k else lkA f b i (k + 1)
  | 0, k, h => absurd h (Nat.not_lt_zero _)
  | i + 1, k, h => by
    by_cases hi : i + 1 ≤ q
    · rw [lkA_updge _ _ _ _ _ hi]
      rw [cb_updge _ _ _ _ hi] at h
      rw [if_pos (Nat.lt_of_lt_of_le h (cb_mono f hi))]
    · rw [lkA_s, lkA_s]
      by_cases e : i = q
      · subst e
        rw [upd_self9, if_neg (by decide), if_pos hq, lkA_updge _ _ _ _ _ (Nat.le_refl _)]
        have hk : k < cb f i := by
          rw [cb, upd_self9, if_neg (by decide), cb_updge _ _ _ _ (Nat.le_refl _)] at h
          exact h
        rw [if_pos hk, upd_ne9 (by omega)]
      · rw [upd_ne9 e]
        have hc := cb_take hq i
        rw [if_neg (by omega)] at hc
        have hpos := cb_lt hq (show q < i by omega)
        rw [cb, upd_ne9 e] at h
        by_cases e2 : f i = 98
        · rw [if_pos e2] at h ⊢
          rw [if_pos e2]
          by_cases e3 : k = cb (upd f q 111) i
          · rw [e3, upd_self9, hc, if_neg (by omega), show cb f i - 1 + 1 = cb f i by omega, upd_self9]
          · rw [upd_ne9 e3, lkA_take hq (show k < cb (upd f q 111) i by omega)]
            rw [hc] at h e3
            by_cases h4 : k < cb f q
            · rw [if_pos h4, if_pos h4, upd_ne9 (by omega)]
            · rw [if_neg h4, if_neg h4, upd_ne9 (by omega)]
        · rw [if_neg e2] at h ⊢
          rw [if_neg e2]
          exact lkA_take hq h
