theorem isIn_01 (m i : Int32) : isInV m i = 0 ∨ isInV m i = 1 := by
  unfold isInV
  split
  · exact Or.inl rfl
  · exact Or.inr rfl
/-- places that two sets share, one by the class's bits, one by the model's -/
def relS (mask set : Int32) (n : Nat) : Prop := ∀ i, i < n → isInV mask (nI i) = inB set i
theorem cnt_eq {M M' : Nat → Nat → Int32} {mask set kd : Int32} {n : Nat} (hb : relS mask set n) (hk : ∀ i, i < n → atF 7 (M 3) (nI i) = kdM M' i) : countOfF (M 3) mask kd n = cnM M' set kd n := by
  unfold countOfF cnM
  refine itr_congr fun i hi s => ?_
  rw [cnS, ← hb i hi, hk i hi]
  rcases isIn_01 mask (nI i) with e | e
  · rw [e, if_pos rfl, if_neg (by decide), Int32.add_zero]
  · rw [e, if_neg (by decide), if_pos rfl]
    by_cases e2 : kdM M' i = kd
    · rw [if_pos e2, if_pos e2]; rfl
    · rw [if_neg e2, if_neg e2, Int32.add_zero]
theorem price_eq {M M' : Nat → Nat → Int32} {mask set : Int32} {n : Nat} (hb : relS mask set n) (hp : ∀ i, i < n → atF 7 (M 4) (nI i) = prM M' i) : priceOfF (M 4) mask n = dsM M' set n := by
  unfold priceOfF dsM
  refine itr_congr fun i hi s => ?_
  rw [← hb i hi, hp i hi]
  rcases isIn_01 mask (nI i) with e | e
  · rw [e, if_pos rfl, if_neg (by decide)]
  · rw [e, if_neg (by decide), if_pos rfl]
theorem cheap_eq {M M' : Nat → Nat → Int32} {mask set : Int32} {n : Nat} (hb : relS mask set n) (hp : ∀ i, i < n → atF 7 (M 4) (nI i) = prM M' i) : cheapF (M 4) mask n = dcM M' set n := by
  unfold cheapF dcM
  refine itr_congr fun i hi s => ?_
  rw [← hb i hi, hp i hi]
  rcases isIn_01 mask (nI i) with e | e
  · rw [e, if_pos rfl, if_neg (by decide)]
  · rw [e, if_neg (by decide), if_pos rfl]
/-- the class's bits of a set (place 0 is bit 6) read as the model's (place 0 is bit 0) -/
def rv7 (m : Nat) : Nat := (m / 64 % 2) + 2 * (m / 32 % 2) + 4 * (m / 16 % 2) + 8 * (m / 8 % 2) + 16 * (m / 4 % 2) + 32 * (m / 2 % 2) + 64 * (m % 2)
theorem relS_rv {m n : Nat} (hm : m < 128) (hn : n ≤ 7) : relS (nI m) (nI (rv7 m)) n := fun i hi =>
  (show ∀ m, m < 128 → ∀ i, i < 7 → isInV (nI m) (nI i) = inB (nI (rv7 m)) i by decide +kernel) m hm i (by omega)
theorem bc_rv {m : Nat} (hm : m < 128) : bcF (nI (rv7 m)) = bcF (nI m) :=
  (show ∀ m, m < 128 → bcF (nI (rv7 m)) = bcF (nI m) by decide +kernel) m hm
theorem basket_at {M M' : Nat → Nat → Int32} {a : Nat} (h : relB M M' a) (hn : cb (M' 5) a ≤ 7) (h14 : ∀ k, k < cb (M' 5) a → M' 14 k = lkA (M' 5) (M' 14) a k) : (∀ i, i < cb (M' 5) a → atF 7 (M 3) (nI i) = kdM M' i) ∧ (∀ i, i < cb (M' 5) a → atF 7 (M 4) (nI i) = prM M' i) := by
  refine ⟨fun i hi => ?_, fun i hi => ?_⟩
  · rw [atF_nI (by omega) (by decide), (h i hi).2.1, (h i hi).1, ← h14 i hi]; rfl
  · rw [atF_nI (by omega) (by decide), (h i hi).2.2, (h i hi).1, ← h14 i hi]; rfl
