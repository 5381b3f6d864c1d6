/-! WHAT THE BASE GIVES: all that both searches ask. -/
theorem lk_0 {f b : Nat → Int32} {a k : Nat} (hk : k < cb f a) : lkA f b a k = lkA f (fun _ => 0) a k := lkA_base hk
theorem BX14 (a : Nat) (M' : Nat → Nat → Int32) : BX a M' 14 = lkA (M' 5) (fun _ => 0) a := rfl
section BASE
variable {V : Nat → Int32} {M : Nat → Nat → Int32} {os : Nat → ofr} {V' : Nat → Int32} {M' : Nat → Nat → Int32} {t : Int64} {a o c : Nat}
theorem bs_item (h : RB V M os V' M' t a o c) {k : Nat} (hk : k < cb (M' 5) a) : ∃ z, z < a ∧ BX a M' 14 k = nI z ∧ M' 5 z = 98 ∧ cb (M' 5) z = k := by
  obtain ⟨z, h1, h2, h3, h4⟩ := lkA_at (b := fun _ => 0) hk
  exact ⟨z, h1, h2, h3, h4⟩
theorem bs_BK (h : RB V M os V' M' t a o c) : BK (BX a M') (cb (M' 5) a) := fun k hk => by
  obtain ⟨z, h1, h2, -, -⟩ := bs_item h hk
  obtain ⟨kd, pr, g1, g2, g3, g4, g5, -⟩ := h.2.2.2.2.2.2.2.2.2.1 z h1
  have ha := h.2.1.2.2
  refine ⟨kd, pr, g1, ?_, g3, g4, ?_⟩
  · show M' 1 (BX a M' 14 k).toNatClampNeg = nI kd
    rw [h2, nI_clamp (by omega)]
    exact g2
  · show M' 2 (BX a M' 14 k).toNatClampNeg = nI pr
    rw [h2, nI_clamp (by omega)]
    exact g5
theorem bs_relK (h : RB V M os V' M' t a o c) : relK M (BX a M') (cb (M' 5) a) := by
  have hn := h.2.2.1.2
  refine ⟨fun k hk => ?_, fun k hk => ?_⟩
  · obtain ⟨b1, b2, -⟩ := h.2.2.2.2.1 k hk
    rw [atF_nI (by omega) (by decide), b2, b1, lk_0 hk]
    rfl
  · obtain ⟨b1, -, b3⟩ := h.2.2.2.2.1 k hk
    rw [atF_nI (by omega) (by decide), b3, b1, lk_0 hk]
    rfl
theorem bs_relO (h : RB V M os V' M' t a o c) : ∀ j, j < o → relO (os j) (BX a M') j := fun j hj => relO_K (h.2.2.2.2.2.1 j hj) rfl rfl rfl rfl rfl rfl rfl
theorem bs_left (h : RB V M os V' M' t a o c) {j : Nat} (hj : j < o) : leftF os o (M 10) (nI c) j = nI (qL (qX (cb (M' 5) a) o c (BX a M')) j) ∧ lfM c (BX a M') j = nI (qL (qX (cb (M' 5) a) o c (BX a M')) j) ∧ qL (qX (cb (M' 5) a) o c (BX a M')) j ≤ 9 ∧ lfM c M' j = nI (qL (qX (cb (M' 5) a) o c (BX a M')) j) := by
  have hc := h.1.2.2
  have ho := h.2.2.2.1.2.2
  obtain ⟨z, u1, u2, u3, -⟩ := h.2.2.2.2.2.2.2.2.1 c hc j (by omega)
  obtain ⟨l, l1, l2, l3⟩ := u3 hj
  have e0 : lfM c M' j = nI (l - z) := by
    unfold lfM
    rw [l1, u2, nI_sub l2]
  have e1 : lfM c (BX a M') j = nI (l - z) := by
    unfold lfM
    rw [BX_c hc, u2]
    show M' 11 j - nI z = nI (l - z)
    rw [l1, nI_sub l2]
  have e2 : qL (qX (cb (M' 5) a) o c (BX a M')) j = l - z := by
    show (if j < o then (lfM c (BX a M') j).toNatClampNeg else 0) = l - z
    rw [if_pos hj, e1, nI_clamp (by omega)]
  rw [e2]
  refine ⟨?_, e1, by omega, e0⟩
  unfold leftF
  rw [if_pos hj, show (6 : Int32) = nI 6 from rfl, nI_mul, nI_add, Nat.mul_comm c 6, atF_nI (by omega) (by decide), u1, ← (h.2.2.2.2.2.1 j hj).1, l1, nI_sub l2]
theorem bs_T {n : Nat} {B : Nat → Nat → Int32} {j : Nat} (hj : j < o) : (B 6 j = 116 ↔ qT (qX n o c B) j = true) := by
  show _ ↔ decide (j < o ∧ B 6 j = 116) = true
  rw [decide_eq_true_eq]
  exact ⟨fun h => ⟨hj, h⟩, fun h => h.2⟩
theorem bs_T6 {n : Nat} {B : Nat → Nat → Int32} {j : Nat} (hj : o ≤ j) : qT (qX n o c B) j = false := decide_eq_false (fun h => by have := h.1; omega)
theorem bs_L6 {n : Nat} {B : Nat → Nat → Int32} {j : Nat} (hj : o ≤ j) : qL (qX n o c B) j = 0 := if_neg (by omega)
theorem bs_sz {n : Nat} {B : Nat → Nat → Int32} (hr : ∀ j, j < o → relO (os j) B j) : ∀ j, j < o → qT (qX n o c B) j = false → szM B j = nI (szX B j) ∧ 1 ≤ szX B j ∧ szX B j ≤ 5 := fun j hj hT => by
  have h116 : ¬ B 6 j = 116 := fun e => by rw [(bs_T (c := c) (n := n) hj).mp e] at hT; cases hT
  have key : ∃ s, 1 ≤ s ∧ s ≤ 5 ∧ szM B j = nI s := by
    obtain ⟨-, -, -, -, hr⟩ := hr j hj
    unfold szM
    rcases hr with ⟨-, h6, -⟩ | ⟨-, h6, -, h8, -, -, w3⟩ | ⟨-, h6, -, -, h9, -⟩ | ⟨-, h6, -⟩
    · rw [if_pos h6]; exact ⟨1, by decide, by decide, rfl⟩
    · obtain ⟨e, e2, e5, ee⟩ := wi_nat (lo := 2) (hi := 5) (by decide) (by decide) w3
      rw [h6, if_neg (show ¬ (102 : Int32) = 112 by decide), if_pos (show (102 : Int32) = 102 from rfl), h8, ee]
      exact ⟨e, by omega, e5, rfl⟩
    · rw [h6, if_neg (show ¬ (98 : Int32) = 112 by decide), if_neg (show ¬ (98 : Int32) = 102 by decide), if_neg (show ¬ (98 : Int32) = 116 by decide)]
      split
      · exact ⟨2, by decide, by decide, rfl⟩
      · exact ⟨3, by decide, by decide, rfl⟩
    · exact absurd h6 h116
  obtain ⟨s, s1, s5, e⟩ := key
  unfold szX
  rw [e, nI_clamp (by omega)]
  exact ⟨rfl, s1, s5⟩
theorem bs_of (h : RB V M os V' M' t a o c) : ofH (qX (cb (M' 5) a) o c (BX a M')) M := by
  have ho := h.2.2.2.1.2.2
  have hthr := h.2.2.2.2.2.2.2.1
  have hT10 : ∀ j, j < o → M' 6 j = 116 → (os j).1 = 10 ∧ ∃ p w, 1 ≤ p ∧ p ≤ 9999 ∧ (os j).2 2 = nI p ∧ M' 7 j = nI p ∧ 1 ≤ w ∧ w ≤ 9999 ∧ (os j).2 3 = nI w ∧ M' 8 j = nI w := fun j hj e => by
    obtain ⟨-, -, -, -, hr⟩ := h.2.2.2.2.2.1 j hj
    rcases hr with ⟨-, h6, -⟩ | ⟨-, h6, -⟩ | ⟨-, h6, -⟩ | ⟨t1, -, h7, h8, -, w2, w3⟩
    · rw [e] at h6; exact absurd h6 (by decide)
    · rw [e] at h6; exact absurd h6 (by decide)
    · rw [e] at h6; exact absurd h6 (by decide)
    · obtain ⟨p, p1, p2, ep⟩ := wi_nat (lo := 1) (hi := 9999) (by decide) (by decide) w2
      obtain ⟨w, w1, w2', ew⟩ := wi_nat (lo := 1) (hi := 9999) (by decide) (by decide) w3
      exact ⟨t1, p, w, p1, p2, ep, h7.trans ep, w1, w2', ew, h8.trans ew⟩
  have hTn : ∀ j, j < o → ¬ M' 6 j = 116 → ¬ (os j).1 = 10 := fun j hj e e2 => by
    obtain ⟨-, -, -, -, hr⟩ := h.2.2.2.2.2.1 j hj
    rcases hr with ⟨t1, -⟩ | ⟨t1, -⟩ | ⟨t1, -⟩ | ⟨-, h6, -⟩
    · rw [e2] at t1; cases t1
    · rw [e2] at t1; cases t1
    · rw [e2] at t1; cases t1
    · exact e h6
  have hqT : ∀ j, qT (qX (cb (M' 5) a) o c (BX a M')) j = true ↔ j < o ∧ M' 6 j = 116 := fun j => ⟨fun h => of_decide_eq_true (p := j < o ∧ M' 6 j = 116) h, fun h => decide_eq_true (p := j < o ∧ M' 6 j = 116) h⟩
  refine ⟨h.2.2.2.2.2.2.1, fun j hj hT => ?_, fun j hj hT => ?_, fun j hj => ?_⟩
  · obtain ⟨h1, h2⟩ := (hqT j).mp hT
    obtain ⟨t1, p, w, p1, p2, e1, e2, -⟩ := hT10 j h1 h2
    have eq : qth (qX (cb (M' 5) a) o c (BX a M')) j = p := by
      show (M' 7 j).toNatClampNeg = p
      rw [e2, nI_clamp (by omega)]
    rw [(hthr.1 j h1).1, eq]
    unfold threshO
    rw [t1]
    exact ⟨e1, by omega, by omega⟩
  · by_cases hjo : j < o
    · have h2 : ¬ M' 6 j = 116 := fun e => by rw [(hqT j).mpr ⟨hjo, e⟩] at hT; cases hT
      rw [(hthr.1 j hjo).1]
      unfold threshO
      have e : Nat.beq (os j).1 10 = false := by
        cases hb : Nat.beq (os j).1 10
        · rfl
        · exact absurd (Nat.eq_of_beq_eq_true hb) (hTn j hjo h2)
      rw [e]
      show (-1 : Int32) ≤ 0
      decide
    · rw [(hthr.2 j (by omega) hj).1]
      decide
  · have eqa : qam (qX (cb (M' 5) a) o c (BX a M')) j = if j < o ∧ M' 6 j = 116 then (M' 8 j).toNatClampNeg else 0 := rfl
    by_cases e : j < o ∧ M' 6 j = 116
    · obtain ⟨t1, p, w, -, -, -, -, w1, w2, e3, e4⟩ := hT10 j e.1 e.2
      rw [eqa, if_pos e, (hthr.1 j e.1).2, e4, nI_clamp (by omega)]
      unfold amountO
      rw [t1]
      exact ⟨e3, by omega, fun hT => by rw [(hqT j).mpr e] at hT; cases hT⟩
    · rw [eqa, if_neg e]
      refine ⟨?_, by decide, fun _ => rfl⟩
      by_cases hjo : j < o
      · rw [(hthr.1 j hjo).2]
        unfold amountO
        have e2 : Nat.beq (os j).1 10 = false := by
          cases hb : Nat.beq (os j).1 10
          · rfl
          · exact absurd (Nat.eq_of_beq_eq_true hb) (hTn j hjo (fun h => e ⟨hjo, h⟩))
        rw [e2]
        rfl
      · rw [(hthr.2 j (by omega) hj).2]
        rfl
theorem bs_sum (h : RB V M os V' M' t a o c) : priceOfF (M 4) (maskF (cb (M' 5) a)) (cb (M' 5) a) = nI (sm (prX (cb (M' 5) a) (BX a M')) 7) ∧ sumN M' a = nI (sm (prX (cb (M' 5) a) (BX a M')) 7) ∧ sm (prX (cb (M' 5) a) (BX a M')) 7 < 2 ^ 20 := by
  have hn := h.2.2.1.2
  have hB := bs_BK h
  have e1 := sum_eq h.2.2.2.2.1 hn
  have e2 : ∀ i, i ≤ cb (M' 5) a → sumB (M' 2) (lkA (M' 5) (M' 14) a) i = nI (sm (prX (cb (M' 5) a) (BX a M')) i) := by
    intro i
    induction i with
    | zero => intro _; rfl
    | succ i ih =>
      intro hi
      have es : sumB (M' 2) (lkA (M' 5) (M' 14) a) (i + 1) = sumB (M' 2) (lkA (M' 5) (M' 14) a) i + M' 2 (lkA (M' 5) (M' 14) a i).toNatClampNeg := rfl
      rw [es, ih (by omega), lk_0 (by omega), sm]
      have e3 : M' 2 (lkA (M' 5) (fun _ => 0) a i).toNatClampNeg = prM (BX a M') i := rfl
      rw [e3, (prN_of hB (by omega)).1, nI_add]
      congr 2
      exact (if_pos (by omega)).symm
  have e3 : sumN M' a = nI (sm (prX (cb (M' 5) a) (BX a M')) 7) := by
    unfold sumN
    have e4 : sm (prX (cb (M' 5) a) (BX a M')) 7 = sm (prX (cb (M' 5) a) (BX a M')) (cb (M' 5) a) := sm_up (fun i hi => by unfold prX; exact if_neg (by omega)) hn
    rw [e2 _ (Nat.le_refl _), e4]
  refine ⟨e1.trans e3, e3, ?_⟩
  have h1 : sm (prX (cb (M' 5) a) (BX a M')) 7 ≤ sm (fun _ => 9999) 7 := sm_le (fun k hk => by
    unfold prX
    by_cases e : k < cb (M' 5) a
    · rw [if_pos e]; exact (prN_of hB e).2.2
    · rw [if_neg e]; exact Nat.zero_le _)
  have h2 : sm (fun _ => 9999) 7 = 69993 := rfl
  omega
theorem bs_fiH (h : RB V M os V' M' t a o c) : fiH (qX (cb (M' 5) a) o c (BX a M')) (cb (M' 5) a) o (szX (BX a M')) (BX a M') os (nI c) M :=
  ⟨h.2.2.1.2, h.2.2.2.1.2.2, bs_relK h, bs_BK h, bs_relO h, fun j hj => (bs_left h hj).1, fun j hj => (bs_left h hj).2.2.1, fun j hj => bs_T hj, bs_sz (bs_relO h)⟩
theorem bs_us (h : RB V M os V' M' t a o c) : uOK (cb (M' 5) a) (usX (cb (M' 5) a) o c (BX a M')) ∧ (∀ p, p < cb (M' 5) a → ∀ u ∈ usX (cb (M' 5) a) o c (BX a M') p, qT (qX (cb (M' 5) a) o c (BX a M')) u.1 = false) ∧ ∀ p, p < cb (M' 5) a → ∀ u ∈ usX (cb (M' 5) a) o c (BX a M') p, u.1 < o ∧ u.2.2 < wN (prX (cb (M' 5) a) (BX a M')) u ∧ ∀ k, k < 7 → pk u k = true → k < cb (M' 5) a := by
  obtain ⟨h1, h2⟩ := us_OK (q := qX (cb (M' 5) a) o c (BX a M')) (sz := szX (BX a M')) h.2.2.1.2 h.2.2.2.1.2.2 (bs_BK h) (bs_relO h) (fun j hj => bs_T hj) (bs_sz (bs_relO h))
  refine ⟨h1, fun p hp u hu => (us_mem hu).2.1, fun p hp u hu => ?_⟩
  obtain ⟨m1, m2, m3, m4, m5, m6⟩ := us_mem hu
  obtain ⟨-, u2, u3, -, -, b3⟩ := h1 p hp u hu
  have hkn : ∀ k, k < 7 → pk u k = true → k < cb (M' 5) a := fun k hk e => by
    by_cases e2 : cb (M' 5) a ≤ k
    · have := b3 k e2 hk
      unfold pk at e
      rw [this] at e
      cases e
    · omega
  obtain ⟨p1, p2, p3⟩ := h2 p hp u hu
  have h116 : ¬ BX a M' 6 u.1 = 116 := fun e => by rw [(bs_T m1).mp e] at m2; cases m2
  exact ⟨m1, di_lt h.2.2.1.2 (bs_BK h) (bs_relO h u.1 m1) u2 hkn p2 (by rw [p1]; exact (bs_sz (bs_relO h) u.1 m1 m2).1) h116 m5 m6, hkn⟩
/-- the best set's own facts -/
theorem bs_L (h : RB V M os V' M' t a o c) : bst (qX (cb (M' 5) a) o c (BX a M')) (-1, []) (lvs (qX (cb (M' 5) a) o c (BX a M')) (usX (cb (M' 5) a) o c (BX a M')) (cb (M' 5) a) 0 []) = (((vl (qX (cb (M' 5) a) o c (BX a M')) (LX (cb (M' 5) a) o c (BX a M')) : Nat) : Int), LX (cb (M' 5) a) o c (BX a M')) ∧
    gdL (qX (cb (M' 5) a) o c (BX a M')) (usX (cb (M' 5) a) o c (BX a M')) (cb (M' 5) a) (cb (M' 5) a) (LX (cb (M' 5) a) o c (BX a M')) ∧ LX (cb (M' 5) a) o c (BX a M') ∈ lvs (qX (cb (M' 5) a) o c (BX a M')) (usX (cb (M' 5) a) o c (BX a M')) (cb (M' 5) a) 0 [] := by
  obtain ⟨L, hL, e⟩ := bst_LX (q := qX (cb (M' 5) a) o c (BX a M')) (us := usX (cb (M' 5) a) o c (BX a M')) (n := cb (M' 5) a)
  have eL : LX (cb (M' 5) a) o c (BX a M') = L := by
    unfold LX
    rw [e]
  obtain ⟨h1, h2, -⟩ := bs_us h
  rw [eL]
  exact ⟨e, lvs_gd h1 h2 (Nat.zero_add _) ⟨⟨Nat.le_refl _, ⟨fun u hu => (List.not_mem_nil hu).elim, fun j _ => Nat.zero_le _⟩⟩, trivial, fun u hu => (List.not_mem_nil hu).elim⟩ hL, hL⟩
end BASE
