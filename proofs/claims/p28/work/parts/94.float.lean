/-! THE SHARE AND THE MEAN stand where the law asks. -/
theorem fl_ord0 {d : FP.Core.Datum} (hn : d ≠ .nan) (hs : FP.Core.sgn d = false) (q0 : Int) : FP.Core.order d (.fin false 0 q0) = some .eq ∨ FP.Core.order d (.fin false 0 q0) = some .gt := by
  cases d with
  | nan => exact absurd rfl hn
  | inf s =>
    have h : s = false := hs
    subst h
    exact Or.inr rfl
  | fin s c q =>
    have h : s = false := hs
    subst h
    have e0 : FP.Core.inUnits 0 q0 (min q q0) = 0 := Nat.zero_mul _
    show some (compare (FP.Core.signed false (FP.Core.inUnits c q (min q q0))) (FP.Core.signed false (FP.Core.inUnits 0 q0 (min q q0)))) = some .eq ∨ some (compare (FP.Core.signed false (FP.Core.inUnits c q (min q q0))) (FP.Core.signed false (FP.Core.inUnits 0 q0 (min q q0)))) = some .gt
    rw [e0]
    show some (compare ((FP.Core.inUnits c q (min q q0) : Nat) : Int) 0) = some .eq ∨ some (compare ((FP.Core.inUnits c q (min q q0) : Nat) : Int) 0) = some .gt
    generalize FP.Core.inUnits c q (min q q0) = m
    rw [FP.Core.compare_ite, if_neg (show ¬ ((m : Nat) : Int) < 0 by omega)]
    by_cases e : ((m : Nat) : Int) = 0
    · exact Or.inl (by rw [if_pos e])
    · exact Or.inr (by rw [if_neg e])
theorem fl_cmp {a b : Nat} (h : a ≤ b) : some (compare (FP.Core.signed false a) (FP.Core.signed false b)) = some .lt ∨ some (compare (FP.Core.signed false a) (FP.Core.signed false b)) = some .eq := by
  show some (compare (a : Int) (b : Int)) = some .lt ∨ some (compare (a : Int) (b : Int)) = some .eq
  rw [FP.Core.compare_ite]
  by_cases e : (a : Int) < b
  · exact Or.inl (by rw [if_pos e])
  · exact Or.inr (by rw [if_neg e, if_pos (by omega)])
theorem fl_log {x y : Nat} (hx : ¬ x = 0) (hxy : x ≤ y) : x.log2 ≤ y.log2 := (Nat.le_log2 (by omega)).mpr (Nat.le_trans (Nat.log2_self_le hx) hxy)
theorem fl_quant {x y : Nat} (hx : ¬ x = 0) (hxy : x ≤ y) : -149 ≤ FP.Core.quantum FP.Core.b32 x y 0 ∧ FP.Core.quantum FP.Core.b32 x y 0 ≤ -23 := by
  have h1 := fl_log hx hxy
  have h2 : FP.Core.leading x y ≤ 0 := by
    unfold FP.Core.leading
    show (if y * 2 ^ ((x.log2 : Int) - (y.log2 : Int)).toNat ≤ x * 2 ^ (-((x.log2 : Int) - (y.log2 : Int))).toNat then ((x.log2 : Int) - (y.log2 : Int)) else ((x.log2 : Int) - (y.log2 : Int)) - 1) ≤ 0
    split <;> omega
  have e : FP.Core.quantum FP.Core.b32 x y 0 = max (-149) (FP.Core.leading x y + 0 - 23) := rfl
  rw [e]
  omega
set_option maxRecDepth 100000 in
theorem fl_le1 {x y : Nat} (hy : 0 < y) (hxy : x ≤ y) : FP.Core.order (FP.Core.roundRatio FP.Core.b32 false x y 0) (.fin false 8388608 (-23)) = some .lt ∨ FP.Core.order (FP.Core.roundRatio FP.Core.b32 false x y 0) (.fin false 8388608 (-23)) = some .eq := by
  unfold FP.Core.roundRatio
  by_cases hx : x = 0
  · rw [if_pos hx]
    exact Or.inl (by decide +kernel)
  · rw [if_neg hx]
    obtain ⟨hq1, hq2⟩ := fl_quant hx hxy
    have hp := FP.Core.nearest_units_le (f := FP.Core.b32) (A := x) (B := y) (by omega) hy 0
    unfold FP.Core.roundAt
    generalize FP.Core.quantum FP.Core.b32 x y 0 = q at hq1 hq2 hp ⊢
    obtain ⟨k, hk⟩ : ∃ k : Nat, q = -23 - (k : Int) := ⟨(-23 - q).toNat, by omega⟩
    have hm : FP.Core.nearest (FP.Core.unitsNum x 0 q) (FP.Core.unitsDen y 0 q) ≤ 2 ^ (23 + k) := by
      refine FP.Core.nearest_le (FP.Core.unitsDen_pos hy ..) ?_
      unfold FP.Core.unitsNum FP.Core.unitsDen
      rw [show (0 - q).toNat = 23 + k by omega, show (q - 0).toNat = 0 by omega, Nat.pow_zero, Nat.mul_one, Nat.mul_comm]
      exact Nat.mul_le_mul_left _ hxy
    generalize FP.Core.nearest (FP.Core.unitsNum x 0 q) (FP.Core.unitsDen y 0 q) = m at hp hm ⊢
    have hp2 : m ≤ 16777216 := hp
    have e23 : (2 : Nat) ^ (23 + k) = 8388608 * 2 ^ k := by rw [Nat.pow_add]
    rw [e23] at hm
    unfold FP.Core.settle
    by_cases h1 : m < 2 ^ FP.Core.b32.p
    · rw [if_pos h1]
      unfold FP.Core.bound
      rw [show FP.Core.b32.qmax = (104 : Int) by decide, if_pos (show q ≤ 104 by omega)]
      have hmin : min q (-23) = q := by omega
      show some (compare (FP.Core.signed false (FP.Core.inUnits m q (min q (-23)))) (FP.Core.signed false (FP.Core.inUnits 8388608 (-23) (min q (-23))))) = some .lt ∨ some (compare (FP.Core.signed false (FP.Core.inUnits m q (min q (-23)))) (FP.Core.signed false (FP.Core.inUnits 8388608 (-23) (min q (-23))))) = some .eq
      refine fl_cmp ?_
      unfold FP.Core.inUnits
      rw [hmin, show (q - q).toNat = 0 by omega, show (-23 - q).toNat = k by omega, Nat.pow_zero, Nat.mul_one]
      exact hm
    · rw [if_neg h1]
      have h1' : ¬ m < 16777216 := h1
      have hk1 : 1 ≤ k := by
        by_cases e : k = 0
        · rw [e, Nat.pow_zero] at hm
          omega
        · omega
      unfold FP.Core.bound
      rw [show FP.Core.b32.qmax = (104 : Int) by decide, if_pos (show q + 1 ≤ 104 by omega)]
      have hmin : min (q + 1) (-23) = q + 1 := by omega
      show some (compare (FP.Core.signed false (FP.Core.inUnits 8388608 (q + 1) (min (q + 1) (-23)))) (FP.Core.signed false (FP.Core.inUnits 8388608 (-23) (min (q + 1) (-23))))) = some .lt ∨ some (compare (FP.Core.signed false (FP.Core.inUnits 8388608 (q + 1) (min (q + 1) (-23)))) (FP.Core.signed false (FP.Core.inUnits 8388608 (-23) (min (q + 1) (-23))))) = some .eq
      refine fl_cmp ?_
      unfold FP.Core.inUnits
      rw [hmin, show (q + 1 - (q + 1)).toNat = 0 by omega, Nat.pow_zero, Nat.mul_one]
      have := Nat.two_pow_pos (-23 - (q + 1)).toNat
      omega
theorem fl_i2f {a : Nat} (ha : a < 2 ^ 24) : ∃ c q, FP.Core.val32 (FP.i2f (nI a)) = .fin false c q ∧ c * 2 ^ q.toNat = a * 2 ^ (-q).toNat := by
  have e1 : FP.i2f (nI a) = FP.Core.l2f (nI a).toInt64 := FP.Core.i2f_l2f _
  obtain ⟨c, q, h⟩ := FP.Core.l2f_shape (nI a).toInt64
  have hi : (nI a).toInt = a := nI_toInt (by omega)
  rw [Int32.toInt_toInt64, hi, show decide ((a : Int) < 0) = false by simp] at h
  refine ⟨c, q, by rw [e1]; exact h, ?_⟩
  have h2 : FP.Core.Whole (nI a).toInt (FP.Core.val32 (FP.Core.i2f (nI a))) := FP.Core.i2f_int (by rw [hi]; omega)
  have e2 : FP.Core.i2f (nI a) = FP.Core.l2f (nI a).toInt64 := e1
  rw [e2, h, hi] at h2
  have h3 : ((c * 2 ^ q.toNat : Nat) : Int) = (a : Int) * ((2 ^ (-q).toNat : Nat) : Int) := h2
  exact_mod_cast h3
theorem fl_quot {a b : Nat} (ha : a < 2 ^ 24) (hb0 : 0 < b) (hb : b < 2 ^ 24) : FP.Core.val32 (FP.fdiv (FP.i2f (nI a)) (FP.i2f (nI b))) = FP.Core.roundRatio FP.Core.b32 false a b 0 := by
  obtain ⟨c, q, h1, h2⟩ := fl_i2f ha
  obtain ⟨d, r, h3, h4⟩ := fl_i2f hb
  have e : FP.Core.val32 (FP.fdiv (FP.i2f (nI a)) (FP.i2f (nI b))) = FP.Core.quotient FP.Core.b32 (FP.Core.val32 (FP.i2f (nI a))) (FP.Core.val32 (FP.i2f (nI b))) := FP.Core.val32_fdiv _ _
  have hd : ¬ d = 0 := fun e0 => by
    rw [e0, Nat.zero_mul] at h4
    have := Nat.mul_pos hb0 (Nat.two_pow_pos (-r).toNat)
    omega
  rw [e, h1, h3]
  show (if d = 0 then (if c = 0 then FP.Core.Datum.nan else .inf (false != false)) else FP.Core.roundRatio FP.Core.b32 (false != false) c d (q - r)) = _
  rw [if_neg hd]
  refine FP.Core.roundRatio_congr (by omega) hb0 ?_
  have hS : c * b * 2 ^ (q.toNat + (-r).toNat) = a * d * 2 ^ ((-q).toNat + r.toNat) := by
    have g1 : c * b * 2 ^ (q.toNat + (-r).toNat) = (c * 2 ^ q.toNat) * (b * 2 ^ (-r).toNat) := by rw [Nat.pow_add]; ac_rfl
    have g2 : a * d * 2 ^ ((-q).toNat + r.toNat) = (a * 2 ^ (-q).toNat) * (d * 2 ^ r.toNat) := by rw [Nat.pow_add]; ac_rfl
    rw [g1, g2, h2, h4]
  refine Nat.eq_of_mul_eq_mul_right (Nat.two_pow_pos ((-q).toNat + r.toNat)) ?_
  have hx : (q - r - 0).toNat + ((-q).toNat + r.toNat) = (q.toNat + (-r).toNat) + (0 - (q - r)).toNat := by omega
  have g1 : c * b * 2 ^ (q - r - 0).toNat * 2 ^ ((-q).toNat + r.toNat) = c * b * 2 ^ (q.toNat + (-r).toNat) * 2 ^ (0 - (q - r)).toNat := by
    rw [Nat.mul_assoc, ← Nat.pow_add, hx, Nat.pow_add, ← Nat.mul_assoc]
  rw [g1, hS]
  ac_rfl
theorem fl_share {p e : Nat} (hep : e ≤ p) (hp0 : 0 < p) (hp : p < 2 ^ 20) : ¬ Op.cmpValue (FP.fcmp (FP.fdiv (FP.i2f (nI p - nI e)) (FP.i2f (nI p))) FP.fconst0) .l < 0 ∧ ¬ 0 < Op.cmpValue (FP.fcmp (FP.fdiv (FP.i2f (nI p - nI e)) (FP.i2f (nI p))) FP.fconst1) .g := by
  rw [nI_sub hep]
  have hv := fl_quot (a := p - e) (b := p) (by omega) hp0 (by omega)
  generalize FP.fdiv (FP.i2f (nI (p - e))) (FP.i2f (nI p)) = r at hv ⊢
  have e0 : FP.Core.val32 FP.fconst0 = .fin false 0 (-149) := by decide +kernel
  have e1 : FP.Core.val32 FP.fconst1 = .fin false 8388608 (-23) := by decide +kernel
  have c0 : FP.fcmp r FP.fconst0 = FP.Core.order (FP.Core.val32 r) (FP.Core.val32 FP.fconst0) := rfl
  have c1 : FP.fcmp r FP.fconst1 = FP.Core.order (FP.Core.val32 r) (FP.Core.val32 FP.fconst1) := rfl
  have hs : FP.Core.sgn (FP.Core.val32 r) = false := by rw [hv]; exact FP.Core.sgn_roundRatio _ _ _ _ _
  have h1 := fl_le1 (x := p - e) (y := p) hp0 (by omega)
  have hn : FP.Core.val32 r ≠ .nan := fun en => by
    rw [← hv, en] at h1
    rcases h1 with h1 | h1 <;> cases h1
  have h0 := fl_ord0 hn hs (-149)
  rw [← hv] at h1
  rw [c0, c1, e0, e1]
  constructor
  · rcases h0 with h | h <;> rw [h] <;> decide
  · rcases h1 with h | h <;> rw [h] <;> decide
theorem fl_mean {a b : Int32} (ha : ¬ a.toInt < 0) (hb : 0 < b) : ¬ Op.cmpValue (FP.dcmp (FP.ddiv (FP.i2d a) (FP.i2d b)) FP.dconst0) .l < 0 := by
  have hn := (FP.Core.notNaN_iff _).mp (show FP.Core.dIsNaN (FP.ddiv (FP.i2d a) (FP.i2d b)) = false from ddiv_num (pos_ne hb))
  have e : FP.Core.val64 (FP.ddiv (FP.i2d a) (FP.i2d b)) = FP.Core.quotient FP.Core.b64 (FP.Core.val64 (FP.i2d a)) (FP.Core.val64 (FP.i2d b)) := FP.Core.val64_ddiv _ _
  have ea : FP.i2d a = FP.Core.l2d a.toInt64 := FP.Core.i2d_l2d _
  have eb : FP.i2d b = FP.Core.l2d b.toInt64 := FP.Core.i2d_l2d _
  obtain ⟨c, q, h1⟩ := FP.Core.l2d_shape a.toInt64
  obtain ⟨d, r, h2⟩ := FP.Core.l2d_shape b.toInt64
  have hb2 : 0 < b.toInt := by simpa using Int32.lt_iff_toInt_lt.mp hb
  rw [Int32.toInt_toInt64, show decide (a.toInt < 0) = false by simp; omega] at h1
  rw [Int32.toInt_toInt64, show decide (b.toInt < 0) = false by simp; omega] at h2
  rw [ea, eb, h1, h2] at e
  have hs : FP.Core.sgn (FP.Core.val64 (FP.ddiv (FP.i2d a) (FP.i2d b))) = false := by
    rw [ea, eb, e]
    show FP.Core.sgn (if d = 0 then (if c = 0 then FP.Core.Datum.nan else .inf (false != false)) else FP.Core.roundRatio FP.Core.b64 (false != false) c d (q - r)) = false
    split
    · split <;> rfl
    · exact FP.Core.sgn_roundRatio _ _ _ _ _
  have e0 : FP.Core.val64 FP.dconst0 = .fin false 0 (-1074) := by decide +kernel
  have c0 : FP.dcmp (FP.ddiv (FP.i2d a) (FP.i2d b)) FP.dconst0 = FP.Core.order (FP.Core.val64 (FP.ddiv (FP.i2d a) (FP.i2d b))) (FP.Core.val64 FP.dconst0) := rfl
  have h0 := fl_ord0 hn hs (-1074)
  rw [c0, e0]
  rcases h0 with h | h <;> rw [h] <;> decide
