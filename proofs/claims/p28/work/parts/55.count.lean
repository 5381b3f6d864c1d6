/-- how many places below n are in a set; how many of them of a kind -/
def bN (set : Int32) (n : Nat) : Nat := itr (fun i s => if inB set i = 1 then s + 1 else s) n 0
def kN (M' : Nat → Nat → Int32) (set kd : Int32) (n : Nat) : Nat := itr (fun i s => if inB set i = 1 then (if kdM M' i = kd then s + 1 else s) else s) n 0
theorem bc_bN {m n : Nat} (hm : m < 128) (hn : n ≤ 7) (h : rv7 m < 2 ^ n) : bcF (nI (rv7 m)) = nI (bN (nI (rv7 m)) n) :=
  (show ∀ n, n < 8 → ∀ m, m < 128 → rv7 m < 2 ^ n → bcF (nI (rv7 m)) = nI (bN (nI (rv7 m)) n) by decide +kernel) n (by omega) m hm h
theorem kN_le (M' : Nat → Nat → Int32) (set kd : Int32) : ∀ n, kN M' set kd n ≤ n
  | 0 => Nat.le_refl _
  | n + 1 => by
    have ih := kN_le M' set kd n
    show (if inB set n = 1 then (if kdM M' n = kd then kN M' set kd n + 1 else kN M' set kd n) else kN M' set kd n) ≤ n + 1
    split
    · split <;> omega
    · omega
theorem cnM_kN (M' : Nat → Nat → Int32) (set kd : Int32) : ∀ n, cnM M' set kd n = nI (kN M' set kd n)
  | 0 => rfl
  | n + 1 => by
    have ih := cnM_kN M' set kd n
    show cnS M' set kd n (cnM M' set kd n) = nI (if inB set n = 1 then (if kdM M' n = kd then kN M' set kd n + 1 else kN M' set kd n) else kN M' set kd n)
    rw [cnS, ih]
    by_cases e : inB set n = 1
    · rw [if_pos e, if_pos e]
      by_cases e2 : kdM M' n = kd
      · rw [if_pos e2, if_pos e2, nI_1]
      · rw [if_neg e2, if_neg e2, Int32.add_zero]
    · rw [if_neg e, if_neg e, Int32.add_zero]
/-- the ten kinds' counts make up the whole -/
theorem kN_sum {M' : Nat → Nat → Int32} {set : Int32} : ∀ {n : Nat}, (∀ i, i < n → ∃ k, k < 10 ∧ kdM M' i = nI k) → (List.range 10).foldr (fun k s => kN M' set (nI k) n + s) 0 = bN set n
  | 0, _ => by simp [kN, bN, itr, List.range, List.range.loop]
  | n + 1, h => by
    have ih := kN_sum (set := set) (n := n) (fun i hi => h i (by omega))
    obtain ⟨k, hk, e⟩ := h n (by omega)
    have hs : ∀ kd : Nat, kN M' set (nI kd) (n + 1) = (if inB set n = 1 then (if kdM M' n = nI kd then kN M' set (nI kd) n + 1 else kN M' set (nI kd) n) else kN M' set (nI kd) n) := fun _ => rfl
    have hb : bN set (n + 1) = (if inB set n = 1 then bN set n + 1 else bN set n) := rfl
    simp only [hs]
    rw [hb]
    by_cases e1 : inB set n = 1
    · simp only [if_pos e1, e]
      rw [← ih]
      simp only [List.range, List.range.loop, List.foldr]
      rcases (show k = 0 ∨ k = 1 ∨ k = 2 ∨ k = 3 ∨ k = 4 ∨ k = 5 ∨ k = 6 ∨ k = 7 ∨ k = 8 ∨ k = 9 by omega) with rfl | rfl | rfl | rfl | rfl | rfl | rfl | rfl | rfl | rfl <;> simp [nI_eq] <;> omega
    · simp only [if_neg e1]
      exact ih
