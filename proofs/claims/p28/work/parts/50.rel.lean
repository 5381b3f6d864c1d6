/-! THE RELATION of the class's state (V, M, offers os, o of them) and the model's (V', M', turnover t): the base of it, and first equalities. -/
theorem itr_congr {α : Type} {f g : Nat → α → α} : ∀ {n : Nat} {a : α}, (∀ i, i < n → ∀ s, f i s = g i s) → itr f n a = itr g n a
  | 0, _, _ => rfl
  | n + 1, a, h => by
    show f n (itr f n a) = g n (itr g n a)
    rw [itr_congr (fun i hi s => h i (by omega) s)]
    exact h n (by omega) _
theorem isIn_mask {n i : Nat} (hi : i < n) (hn : n ≤ 7) : isInV (maskF n) (nI i) = 1 :=
  (show ∀ n, n < 8 → ∀ i, i < n → isInV (maskF n) (nI i) = 1 by decide +kernel) n (by omega) i hi
theorem isIn_mask0 {n i : Nat} (hi : n ≤ i) (hn : i < 7) : isInV (maskF n) (nI i) = 0 :=
  (show ∀ n, n < 8 → ∀ i, i < 7 → n ≤ i → isInV (maskF n) (nI i) = 0 by decide +kernel) n (by omega) i hn hi
theorem lkA_base {f b b' : Nat → Int32} : ∀ {a k : Nat}, k < cb f a → lkA f b a k = lkA f b' a k
  | 0, k, h => absurd h (Nat.not_lt_zero _)
  | a + 1, k, h => by
    rw [lkA_s, lkA_s]
    rw [cb] at h
    split at h
    · rename_i e
      rw [if_pos e, if_pos e]
      by_cases e2 : k = cb f a
      · subst e2
        rw [upd_self9, upd_self9]
      · have h3 : ∀ g : Nat → Int32, upd g (cb f a) (nI a) k = g k := fun g => by unfold upd; simp [e2]
        rw [h3, h3]
        exact lkA_base (by omega)
    · rename_i e
      rw [if_neg e, if_neg e]
      exact lkA_base h
/-- an offer of the class and the model's row -/
def relO (x : ofr) (M' : Nat → Nat → Int32) (j : Nat) : Prop := M' 11 j = x.2 0 ∧ M' 12 j = x.2 1 ∧ withinV (x.2 0) 1 9 = 1 ∧ withinV (x.2 1) (-1) 3 = 1 ∧
  ((x.1 = 8 ∧ M' 6 j = 112 ∧ M' 7 j = x.2 2 ∧ M' 8 j = x.2 3 ∧ M' 9 j = -1 ∧ withinV (x.2 2) 0 9 = 1 ∧ withinV (x.2 3) 1 90 = 1) ∨
   (x.1 = 5 ∧ M' 6 j = 102 ∧ M' 7 j = x.2 2 ∧ M' 8 j = x.2 3 ∧ M' 9 j = -1 ∧ withinV (x.2 2) 0 9 = 1 ∧ withinV (x.2 3) 2 5 = 1) ∨
   (x.1 = 4 ∧ M' 6 j = 98 ∧ M' 7 j = x.2 2 ∧ M' 8 j = x.2 3 ∧ M' 9 j = x.2 4 ∧ M' 10 j = x.2 8 ∧ withinV (x.2 2) 0 9 = 1 ∧ withinV (x.2 3) 0 9 = 1 ∧ withinV (x.2 4) (-1) 9 = 1 ∧ withinV (x.2 8) 1 9999 = 1 ∧ x.2 5 = 1 + eqV (x.2 2) (x.2 3) + eqV (x.2 2) (x.2 4) ∧ x.2 6 = 1 + eqV (x.2 2) (x.2 3) + eqV (x.2 3) (x.2 4) ∧ x.2 7 = 1 + eqV (x.2 2) (x.2 4) + eqV (x.2 3) (x.2 4)) ∨
   (x.1 = 10 ∧ M' 6 j = 116 ∧ M' 7 j = x.2 2 ∧ M' 8 j = x.2 3 ∧ M' 9 j = -1 ∧ withinV (x.2 2) 1 9999 = 1 ∧ withinV (x.2 3) 1 9999 = 1))
/-- the basket: the class's k-th item is the model's k-th 'b' -/
def relB (M M' : Nat → Nat → Int32) (a : Nat) : Prop := ∀ k, k < cb (M' 5) a → M 2 k = lkA (M' 5) (M' 14) a k ∧ M 3 k = M' 1 (M 2 k).toNatClampNeg ∧ M 4 k = M' 2 (M 2 k).toNatClampNeg
/-- the prices' sum is told alike -/
theorem sum_eq {M M' : Nat → Nat → Int32} {a : Nat} (h : relB M M' a) (hn : cb (M' 5) a ≤ 7) : priceOfF (M 4) (maskF (cb (M' 5) a)) (cb (M' 5) a) = sumN M' a := by
  unfold priceOfF sumN sumB
  refine itr_congr fun i hi s => ?_
  rw [isIn_mask hi hn, if_neg (by decide), atF_nI (by omega) (by decide), (h i hi).2.2, (h i hi).1]
