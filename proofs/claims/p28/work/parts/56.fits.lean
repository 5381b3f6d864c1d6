theorem fiL_spec {M : Nat → Nat → Int32} {n j : Nat} {set : Int32} : ∀ {k i : Nat}, (fiL M n j set i k = 1 ∧ ∀ d, i ≤ d → d < i + k → cnM M set (nI d) n = wtM M j (nI d)) ∨ (fiL M n j set i k = 0 ∧ ∃ d, i ≤ d ∧ d < i + k ∧ cnM M set (nI d) n ≠ wtM M j (nI d))
  | 0, i => Or.inl ⟨rfl, fun d h1 h2 => absurd h2 (by omega)⟩
  | k + 1, i => by
    rw [fiL]
    by_cases e : cnM M set (nI i) n = wtM M j (nI i)
    · rw [if_pos e]
      rcases fiL_spec (M := M) (n := n) (j := j) (set := set) (k := k) (i := i + 1) with ⟨h1, h2⟩ | ⟨h1, d, h2, h3, h4⟩
      · exact Or.inl ⟨h1, fun d g1 g2 => by
          by_cases e2 : d = i
          · subst e2; exact e
          · exact h2 d (by omega) (by omega)⟩
      · exact Or.inr ⟨h1, d, by omega, by omega, h4⟩
    · rw [if_neg e]
      exact Or.inr ⟨rfl, i, Nat.le_refl _, by omega, e⟩
theorem kN_others {M' : Nat → Nat → Int32} {set : Int32} {n k : Nat} (h : ∀ i, i < n → ∃ k, k < 10 ∧ kdM M' i = nI k) (hk : k < 10) (he : kN M' set (nI k) n = bN set n) : ∀ d, d < 10 → d ≠ k → kN M' set (nI d) n = 0 := by
  intro d hd hne
  have hs := kN_sum (set := set) h
  rw [← he] at hs
  simp only [List.range, List.range.loop, List.foldr] at hs
  rcases (show k = 0 ∨ k = 1 ∨ k = 2 ∨ k = 3 ∨ k = 4 ∨ k = 5 ∨ k = 6 ∨ k = 7 ∨ k = 8 ∨ k = 9 by omega) with rfl | rfl | rfl | rfl | rfl | rfl | rfl | rfl | rfl | rfl <;>
    rcases (show d = 0 ∨ d = 1 ∨ d = 2 ∨ d = 3 ∨ d = 4 ∨ d = 5 ∨ d = 6 ∨ d = 7 ∨ d = 8 ∨ d = 9 by omega) with rfl | rfl | rfl | rfl | rfl | rfl | rfl | rfl | rfl | rfl <;> omega
/-- an offer that uses c items of one kind: a set of c items fits it exactly when c of them are of the kind -/
theorem fits_one {M' : Nat → Nat → Int32} {n j k c : Nat} {set : Int32} (h : ∀ i, i < n → ∃ k, k < 10 ∧ kdM M' i = nI k) (hn : n ≤ 7) (hk : k < 10) (hc : c < 10) (hbc : bcF set = nI (bN set n)) (hbn : bN set n < 2 ^ 31) (hsz : szM M' j = nI c) (hb : bcF set = nI c) (hw : ∀ d, d < 10 → wtM M' j (nI d) = if d = k then nI c else 0) :
    fiM M' n j set = if cnM M' set (nI k) n = nI c then 1 else 0 := by
  have e0 : bN set n = c := (nI_eq hbn (by omega)).mp (hbc.symm.trans hb)
  unfold fiM
  rw [if_pos (hb.trans hsz.symm)]
  rcases fiL_spec (M := M') (n := n) (j := j) (set := set) (k := 10) (i := 0) with ⟨h1, h2⟩ | ⟨h1, d, -, h3, h4⟩
  · rw [h1, if_pos]
    have := h2 k (Nat.zero_le _) (by omega)
    rw [this, hw k hk, if_pos rfl]
  · rw [h1, if_neg]
    intro e
    have hkn := kN_le M' set (nI k) n
    rw [cnM_kN] at e
    have e2 : kN M' set (nI k) n = c := (nI_eq (by omega) (by omega)).mp e
    refine h4 ?_
    rw [cnM_kN, hw d (by omega)]
    by_cases e3 : d = k
    · rw [if_pos e3, e3, e2]
    · rw [if_neg e3, kN_others h hk (e2.trans e0.symm) d (by omega) e3]
      rfl
