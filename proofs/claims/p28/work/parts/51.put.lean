theorem upd_ne9 {f : Nat → Int32} {i j : Nat} {x : Int32} (h : j ≠ i) : upd f i x j = f j := by unfold upd; simp [h]
theorem cb_updge (f : Nat → Int32) (j : Nat) (x : Int32) : ∀ i, i ≤ j → cb (upd f j x) i = cb f i
  | 0, _ => rfl
  | i + 1, h => by rw [cb, cb, cb_updge f j x i (by omega), upd_ne9 (by omega)]
theorem lkA_updge (f b : Nat → Int32) (j : Nat) (x : Int32) : ∀ i, i ≤ j → lkA (upd f j x) b i = lkA f b i
  | 0, _ => rfl
  | i + 1, h => by rw [lkA_s, lkA_s, lkA_updge f b j x i (by omega), cb_updge f j x i (by omega), upd_ne9 (by omega)]
/-- what stands at a place of the basket: a number given out, whose state is 'b' -/
theorem lkA_at {f b : Nat → Int32} : ∀ {i k : Nat}, k < cb f i → ∃ q, q < i ∧ lkA f b i k = nI q ∧ f q = 98 ∧ cb f q = k
  | 0, k, h => absurd h (Nat.not_lt_zero _)
  | i + 1, k, h => by
    rw [lkA_s]
    rw [cb] at h
    split at h
    · rename_i e
      rw [if_pos e]
      by_cases e2 : k = cb f i
      · subst e2
        rw [upd_self9]
        exact ⟨i, by omega, rfl, e, rfl⟩
      · rw [upd_ne9 e2]
        obtain ⟨q, h1, h2, h3, h4⟩ := lkA_at (b := b) (show k < cb f i by omega)
        exact ⟨q, by omega, h2, h3, h4⟩
    · rename_i e
      rw [if_neg e]
      obtain ⟨q, h1, h2, h3, h4⟩ := lkA_at (b := b) h
      exact ⟨q, by omega, h2, h3, h4⟩
/-- one more item: the basket stays related -/
theorem relB_put {M M' : Nat → Nat → Int32} {a : Nat} {kind price : Int32} (h : relB M M' a) (hn : cb (M' 5) a < 7) (ha : a < 60) :
    relB (sM (sM (sM M 2 (setF 7 (M 2) (nI (cb (M' 5) a)) (nI a))) 3 (setF 7 (M 3) (nI (cb (M' 5) a)) kind)) 4 (setF 7 (M 4) (nI (cb (M' 5) a)) price))
      (sM (sM (sM (sM M' 14 (lkA (M' 5) (M' 14) a)) 1 (upd (M' 1) a kind)) 2 (upd (M' 2) a price)) 5 (upd (M' 5) a 98)) (a + 1) := by
  intro k hk
  show setF 7 (M 2) (nI (cb (M' 5) a)) (nI a) k = lkA (upd (M' 5) a 98) (lkA (M' 5) (M' 14) a) (a + 1) k ∧ setF 7 (M 3) (nI (cb (M' 5) a)) kind k = upd (M' 1) a kind (setF 7 (M 2) (nI (cb (M' 5) a)) (nI a) k).toNatClampNeg ∧ setF 7 (M 4) (nI (cb (M' 5) a)) price k = upd (M' 2) a price (setF 7 (M 2) (nI (cb (M' 5) a)) (nI a) k).toNatClampNeg
  have hk' : k < cb (M' 5) a + 1 := by
    have h1 : cb (upd (M' 5) a 98) (a + 1) = cb (M' 5) a + 1 := by rw [cb, if_pos (upd_self9 _ _ _), cb_updge _ _ _ _ (Nat.le_refl _)]
    rw [← h1]
    exact hk
  rw [setF_nI hn (by decide), setF_nI hn (by decide), setF_nI hn (by decide), lkA_s, if_pos (upd_self9 _ _ _), cb_updge _ _ _ _ (Nat.le_refl _), lkA_updge _ _ _ _ _ (Nat.le_refl _)]
  by_cases e : k = cb (M' 5) a
  · subst e
    simp only [upd_self9]
    rw [nI_clamp (by omega)]
    simp only [upd_self9]
    exact ⟨trivial, trivial, trivial⟩
  · have hlt : k < cb (M' 5) a := by omega
    rw [upd_ne9 e, upd_ne9 e, upd_ne9 e, upd_ne9 e]
    obtain ⟨h1, h2, h3⟩ := h k hlt
    obtain ⟨q, g1, g2, g3, g4⟩ := lkA_at (b := M' 14) hlt
    refine ⟨h1.trans (lkA_base hlt), ?_, ?_⟩
    · rw [h2, h1, g2, nI_clamp (by omega), upd_ne9 (by omega)]
    · rw [h3, h1, g2, nI_clamp (by omega), upd_ne9 (by omega)]
