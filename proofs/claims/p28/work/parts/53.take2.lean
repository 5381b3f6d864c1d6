theorem ib_of {a q : Nat} {f : Nat → Int32} (hq : q < a) (ha : a ≤ 60) (h : f q = 98) : ibM a f (nI q) = 1 := by
  unfold ibM withinV
  rw [if_neg (nI_pos (by omega)), sub1 (by omega), if_neg (nI_nlt (by omega) (by omega)), if_neg (by decide), nI_clamp (by omega), if_pos h]
/-- an item's place in the class's basket, when it's there -/
theorem pos_eq {M M' : Nat → Nat → Int32} {a q : Nat} (h : relB M M' a) (hn : cb (M' 5) a ≤ 7) (ha : a ≤ 60) (hq : q < a) (h98 : M' 5 q = 98) : posF (M 2) (nI q) 0 (cb (M' 5) a) = nI (cb (M' 5) q) := by
  have hp := cb_lt h98 hq
  have hM : M 2 (cb (M' 5) q) = nI q := (h _ hp).1.trans (lkA_hit h98 hq)
  rcases pos_spec (f := M 2) (x := nI q) (k := cb (M' 5) a) (i := 0) (by omega) with ⟨p, -, h2, h3, h4, -⟩ | ⟨-, h2⟩
  · rw [h4]
    obtain ⟨q', g1, g2, g3, g4⟩ := lkA_at (b := M' 14) (show p < cb (M' 5) a by omega)
    have e : q' = q := (nI_eq (by omega) (by omega)).mp (g2.symm.trans ((h p (by omega)).1.symm.trans h3))
    rw [← g4, e]
  · exact absurd hM (h2 _ (Nat.zero_le _) (by omega))
theorem pos_none {M M' : Nat → Nat → Int32} {a : Nat} {x : Int32} (h : relB M M' a) (hn : cb (M' 5) a ≤ 7) (ha : a ≤ 60) (h0 : ibM a (M' 5) x = 0) : posF (M 2) x 0 (cb (M' 5) a) = -1 := by
  rcases pos_spec (f := M 2) (x := x) (k := cb (M' 5) a) (i := 0) (by omega) with ⟨p, -, h2, h3, h4, -⟩ | ⟨h1, -⟩
  · obtain ⟨q', g1, g2, g3, g4⟩ := lkA_at (b := M' 14) (show p < cb (M' 5) a by omega)
    have e : x = nI q' := h3.symm.trans ((h p (by omega)).1.trans g2)
    rw [e, ib_of g1 ha g3] at h0
    exact absurd h0 (by decide)
  · exact h1
/-- one item less: the basket stays related -/
theorem relB_take {M M' : Nat → Nat → Int32} {a q : Nat} (h : relB M M' a) (hn : cb (M' 5) a ≤ 7) (hq : q < a) (h98 : M' 5 q = 98) :
    relB (sM (sM (sM M 2 (shiftF (M 2) (cb (M' 5) q) (cb (M' 5) a - (cb (M' 5) q + 1)))) 3 (shiftF (M 3) (cb (M' 5) q) (cb (M' 5) a - (cb (M' 5) q + 1)))) 4 (shiftF (M 4) (cb (M' 5) q) (cb (M' 5) a - (cb (M' 5) q + 1))))
      (sM (sM M' 5 (upd (M' 5) q 111)) 14 (lkA (upd (M' 5) q 111) (M' 14) a)) a := by
  intro k hk
  have hp := cb_lt h98 hq
  show shiftF (M 2) (cb (M' 5) q) (cb (M' 5) a - (cb (M' 5) q + 1)) k = lkA (upd (M' 5) q 111) (lkA (upd (M' 5) q 111) (M' 14) a) a k ∧ shiftF (M 3) (cb (M' 5) q) (cb (M' 5) a - (cb (M' 5) q + 1)) k = M' 1 (shiftF (M 2) (cb (M' 5) q) (cb (M' 5) a - (cb (M' 5) q + 1)) k).toNatClampNeg ∧ shiftF (M 4) (cb (M' 5) q) (cb (M' 5) a - (cb (M' 5) q + 1)) k = M' 2 (shiftF (M 2) (cb (M' 5) q) (cb (M' 5) a - (cb (M' 5) q + 1)) k).toNatClampNeg
  have hk0 : k < cb (upd (M' 5) q 111) a := hk
  have hk1 := hk0
  rw [cb_take h98, if_neg (by omega)] at hk1
  rw [shift_spec (by omega), shift_spec (by omega), shift_spec (by omega), lkA_take h98 hk0]
  by_cases e : k < cb (M' 5) q
  · have hc : ¬ (cb (M' 5) q ≤ k ∧ k < cb (M' 5) q + (cb (M' 5) a - (cb (M' 5) q + 1))) := by omega
    rw [if_neg hc, if_neg hc, if_neg hc, if_pos e]
    obtain ⟨h1, h2, h3⟩ := h k (by omega)
    exact ⟨h1.trans (lkA_base (by omega)), h2, h3⟩
  · have hc : cb (M' 5) q ≤ k ∧ k < cb (M' 5) q + (cb (M' 5) a - (cb (M' 5) q + 1)) := by omega
    rw [if_pos hc, if_pos hc, if_pos hc, if_neg e]
    obtain ⟨h1, h2, h3⟩ := h (k + 1) (by omega)
    exact ⟨h1.trans (lkA_base (by omega)), h2, h3⟩
