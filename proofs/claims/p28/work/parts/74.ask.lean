/-! THE CALLS THAT ASK, over the relation. -/
theorem ne_beq {k i : Nat} (h : k ≠ i) : Nat.beq k i = false := by
  cases hb : Nat.beq k i
  · rfl
  · exact absurd (Nat.eq_of_beq_eq_true hb) h
theorem fkM_of {k : Nat} (h : k < 3 ∨ (4 ≤ k ∧ k < 14) ∨ 26 ≤ k) : fkM k := ⟨gk_of (by omega), ne_beq (by omega), ne_beq (by omega), ne_beq (by omega)⟩
theorem fkV_of {k : Nat} (h : k < 5) : fkV k := ⟨⟨ne_beq (by omega), ne_beq (by omega), ne_beq (by omega), ne_beq (by omega)⟩, ne_beq (by omega), ne_beq (by omega)⟩
section ASK
variable {V : Nat → Int32} {M : Nat → Nat → Int32} {os : Nat → ofr} {V' : Nat → Int32} {M' : Nat → Nat → Int32} {t : Int64} {a o c : Nat}
theorem RX_mJ (h : RX V M os V' M' t a o c) : mJ a o c V' M' := by
  obtain ⟨h, -⟩ := h
  refine ⟨h.2.1.2.1, h.2.1.2.2, h.2.2.1.2, h.2.2.2.1.2.1, h.2.2.2.1.2.2, h.1.2.1, h.1.2.2, fun j hj => ?_⟩
  rcases fm_g h hj with e | ⟨g, g4, e⟩
  · exact Or.inl e
  · rw [e]
    exact Or.inr (nI_in g4 (by decide))
theorem RX_okO (h : RX V M os V' M' t a o c) : ∀ j, j < o → okO (os j) := fun j hj => by
  obtain ⟨-, -, -, -, hr⟩ := h.1.2.2.2.2.2.1 j hj
  rcases hr with ⟨e, -⟩ | ⟨e, -⟩ | ⟨e, -⟩ | ⟨e, -⟩
  · exact Or.inl e
  · exact Or.inr (Or.inl e)
  · exact Or.inr (Or.inr (Or.inl e))
  · exact Or.inr (Or.inr (Or.inr e))
/-- both find, and stay related -/
theorem find_RX (h : RX V M os V' M' t a o c) : RX (findF os o (cb (M' 5) a) (V, M)).1 (findF os o (cb (M' 5) a) (V, M)).2 os (fdF a o c (V', M')).1 (fdF a o c (V', M')).2 t a o c ∧
    FD (cb (M' 5) a) o c (BX a M') (findF os o (cb (M' 5) a) (V, M)).1 (findF os o (cb (M' 5) a) (V, M)).2 (fdF a o c (V', M')).1 (fdF a o c (V', M')).2 ∧ (V' 7 = 0 → fdOK a o c (V', M')) ∧ (fdF a o c (V', M')).2 5 = M' 5 ∧ BX a (fdF a o c (V', M')).2 = BX a M' := by
  have hV := (fdF_VM (a := a) (o := o) (c := c) (V', M')).1
  have hM := (fdF_VM (a := a) (o := o) (c := c) (V', M')).2
  have e5 : (fdF a o c (V', M')).2 5 = M' 5 := fdF_5 (V', M')
  have eB : BX a (fdF a o c (V', M')).2 = BX a M' := BX_K (hM 1 (fkM_of (by omega))) (hM 2 (fkM_of (by omega))) (hM 6 (fkM_of (by omega))) (hM 7 (fkM_of (by omega))) (hM 8 (fkM_of (by omega))) (hM 9 (fkM_of (by omega))) (hM 10 (fkM_of (by omega))) (hM 11 (fkM_of (by omega))) (hM 12 (fkM_of (by omega))) (hM 26 (fkM_of (by omega))) (hM 27 (fkM_of (by omega))) (hM 28 (fkM_of (by omega))) (hM 29 (fkM_of (by omega))) (by rw [e5])
  rcases h.2 with ⟨h1, h7⟩ | ⟨h1, h7, hF⟩
  · obtain ⟨c1, c2, c3, c4, c5, c6, c7, c8, c9⟩ := find_c h.1 h1
    obtain ⟨m1, m2, m3, m4, m5⟩ := find_m h.1 h7
    have hFD : FD (cb (M' 5) a) o c (BX a M') (findF os o (cb (M' 5) a) (V, M)).1 (findF os o (cb (M' 5) a) (V, M)).2 (fdF a o c (V', M')).1 (fdF a o c (V', M')).2 := ⟨c1, c2, c3, c4, c5, Or.inl c6, c7, m1, m2⟩
    refine ⟨⟨RB_K h.1 ⟨findF_V _ _ _ _ rfl rfl rfl rfl rfl rfl, findF_V _ _ _ _ rfl rfl rfl rfl rfl rfl, findF_V _ _ _ _ rfl rfl rfl rfl rfl rfl, findF_V _ _ _ _ rfl rfl rfl rfl rfl rfl, findF_V _ _ _ _ rfl rfl rfl rfl rfl rfl, findF_V _ _ _ _ rfl rfl rfl rfl rfl rfl, findF_V _ _ _ _ rfl rfl rfl rfl rfl rfl, findF_V _ _ _ _ rfl rfl rfl rfl rfl rfl, findF_V _ _ _ _ rfl rfl rfl rfl rfl rfl⟩
      ⟨c9 2 rfl rfl rfl rfl rfl rfl rfl rfl rfl rfl rfl, c9 3 rfl rfl rfl rfl rfl rfl rfl rfl rfl rfl rfl, c9 4 rfl rfl rfl rfl rfl rfl rfl rfl rfl rfl rfl, c9 7 rfl rfl rfl rfl rfl rfl rfl rfl rfl rfl rfl, c9 8 rfl rfl rfl rfl rfl rfl rfl rfl rfl rfl rfl, c9 9 rfl rfl rfl rfl rfl rfl rfl rfl rfl rfl rfl, c9 10 rfl rfl rfl rfl rfl rfl rfl rfl rfl rfl rfl, c9 26 rfl rfl rfl rfl rfl rfl rfl rfl rfl rfl rfl, c9 27 rfl rfl rfl rfl rfl rfl rfl rfl rfl rfl rfl, c9 28 rfl rfl rfl rfl rfl rfl rfl rfl rfl rfl rfl, c9 29 rfl rfl rfl rfl rfl rfl rfl rfl rfl rfl rfl⟩
      ⟨hV 0 (fkV_of (by omega)), hV 1 (fkV_of (by omega)), hV 2 (fkV_of (by omega)), hV 3 (fkV_of (by omega))⟩
      ⟨hM 1 (fkM_of (by omega)), hM 2 (fkM_of (by omega)), hM 4 (fkM_of (by omega)), e5, hM 6 (fkM_of (by omega)), hM 7 (fkM_of (by omega)), hM 8 (fkM_of (by omega)), hM 9 (fkM_of (by omega)), hM 10 (fkM_of (by omega)), hM 11 (fkM_of (by omega)), hM 12 (fkM_of (by omega)), hM 26 (fkM_of (by omega)), hM 27 (fkM_of (by omega)), hM 28 (fkM_of (by omega)), hM 29 (fkM_of (by omega))⟩ m3, Or.inr ⟨c8, m4, ?_⟩⟩, hFD, fun _ => m5, e5, eB⟩
    rw [e5, eB]
    exact hFD
  · have e1 : findF os o (cb (M' 5) a) (V, M) = (V, M) := if_neg (show ¬ V 1 = 0 by rw [h1]; decide)
    have e2 : fdF a o c (V', M') = (V', M') := if_neg (show ¬ V' 7 = 0 by rw [h7]; decide)
    rw [e1, e2]
    exact ⟨⟨h.1, Or.inr ⟨h1, h7, hF⟩⟩, hF, fun h0 => by rw [h7] at h0; exact absurd h0 (by decide), rfl, rfl⟩
/-- the best discount is told alike -/
theorem FD_best {n : Nat} {B : Nat → Nat → Int32} (h : FD n o c B V M V' M') : V 6 = V' 8 := Int32.toInt_inj.mp (h.1.1.trans h.2.2.2.2.2.2.2.1.1.symm)
theorem tm_spec {j : Nat} (hj : j < 6) {p : Nat} : ∀ {acc : List us3}, p ≤ 7 → (∀ u ∈ acc, u.1 < 6) → chs M (M 21) p acc → acc.length ≤ p ∧ tmF M (nI j) p = nI (uC acc j) := by
  induction p with
  | zero =>
    intro acc _ _ h
    have e : acc = [] := h
    subst e
    exact ⟨Nat.le_refl _, rfl⟩
  | succ p ih =>
    intro acc hp hu h
    have es : tmF M (nI j) (p + 1) = if useV M (nI p) = -1 then tmF M (nI j) p else if atF 210 (M 13) (useV M (nI p)) = nI j then tmF M (nI j) p + Int32.ofInt 1 else tmF M (nI j) p := rfl
    have huse : useV M (nI p) = M 21 p := by
      unfold useV
      rw [if_neg (by rw [(show ∀ p, p < 7 → withinV (nI p) 0 6 = 1 by decide +kernel) p (by omega)]; decide), atF_nI (by omega) (by decide)]
    rw [es, huse]
    rcases h with ⟨h1, h2⟩ | ⟨i, u, r, a1, a2, a3, -, -, rfl, -, a7⟩
    · obtain ⟨g1, g2⟩ := ih (by omega) hu h2
      rw [h1, if_pos rfl]
      exact ⟨by omega, g2⟩
    · obtain ⟨g1, g2⟩ := ih (by omega) (fun v hv => hu v (List.mem_cons_of_mem _ hv)) a7
      have hu6 := hu u List.mem_cons_self
      rw [a2, if_neg (nI_neg1 (by omega)), atF_nI a1 (by decide), a3, g2, uC]
      refine ⟨Nat.succ_le_succ g1, ?_⟩
      by_cases e : u.1 = j
      · rw [if_pos (by rw [e]), if_pos e]
        exact nI_1 _
      · rw [if_neg (fun h => e ((nI_eq (by omega) (by omega)).mp h)), if_neg e, Nat.add_zero]
theorem FD_uses (h : RX V M os V' M' t a o c) (hF : FD (cb (M' 5) a) o c (BX a M') V M V' M') {j : Nat} (hj : j < o) : timesV V M (nI j) = usM M' j := by
  have ho := h.1.2.2.2.1.2.2
  have hLu := bs_Lu h.1
  obtain ⟨-, ⟨gA, -, -⟩, -⟩ := bs_L h.1
  obtain ⟨g1, -, -, -, -, -, -, g8, -⟩ := hF
  obtain ⟨⟨av, av64, e5, hbits⟩, hch⟩ := g1.2 (Int.natCast_nonneg _)
  obtain ⟨-, -, -, m22, -, m25⟩ := g8.2 (Int.natCast_nonneg _)
  have htm : tmF M (nI j) 7 = nI (uC (LX (cb (M' 5) a) o c (BX a M')) j) := (tm_spec (j := j) (by omega) (Nat.le_refl 7) (fun u hu => by have := (hLu u hu).1; omega) hch).2
  have m22' : ∀ j, j < o → M' 22 j = nI (uC (LX (cb (M' 5) a) o c (BX a M')) j) := m22
  have m25' : ∀ j, j < o → M' 25 j = if sel (qX (cb (M' 5) a) o c (BX a M')) (LX (cb (M' 5) a) o c (BX a M')) j = true then 1 else 0 := m25
  have e5' : V 5 = nI av := e5
  have hC := gA.2.2 j (by omega)
  have hL9 := (bs_left h.1 hj).2.2.1
  have hT := bs_T (n := cb (M' 5) a) (c := c) (B := BX a M') hj
  unfold timesV usM
  rw [htm, e5']
  by_cases eT : M' 6 j = 116
  · have hc0 : uC (LX (cb (M' 5) a) o c (BX a M')) j = 0 := gA.C j (by omega) (hT.mp eT)
    rw [if_pos eT, if_pos (by rw [hc0]; rfl), m25' j hj]
    have hno : ¬ uO (LX (cb (M' 5) a) o c (BX a M')) j = true := fun e => by
      have := gA.O j (by omega) e
      rw [hT.mp eT] at this
      cases this
    by_cases e : sel (qX (cb (M' 5) a) o c (BX a M')) (LX (cb (M' 5) a) o c (BX a M')) j = true
    · have hb := (hbits j (by omega)).mpr (Or.inr e)
      rw [if_neg (fun h => by rw [(bx_has av64 (by omega)).mp h] at hb; cases hb), if_pos e, if_neg (by decide)]
    · have hb : av.testBit j = false := by
        cases hb : av.testBit j
        · rfl
        · rcases (hbits j (by omega)).mp hb with e2 | e2
          · exact absurd e2 hno
          · exact absurd e2 e
      rw [if_pos ((bx_has av64 (by omega)).mpr hb), if_neg e, if_pos rfl, hc0]
      rfl
  · rw [if_neg eT, m22' j hj]
    by_cases e0 : uC (LX (cb (M' 5) a) o c (BX a M')) j = 0
    · have hno : ¬ uO (LX (cb (M' 5) a) o c (BX a M')) j = true := fun e => by
        have hpos : ∀ {acc : List us3}, uO acc j = true → 0 < uC acc j := by
          intro acc
          induction acc with
          | nil => intro h; cases h
          | cons u r ih =>
            intro h
            rw [uO, Bool.or_eq_true, decide_eq_true_eq] at h
            rw [uC]
            rcases h with h | h
            · rw [if_pos h]; omega
            · have := ih h; omega
        have := hpos e
        omega
      have hns : ¬ sel (qX (cb (M' 5) a) o c (BX a M')) (LX (cb (M' 5) a) o c (BX a M')) j = true := fun e => eT (hT.mpr (can_iff.mp (sel_iff.mp e).1).1)
      have hb : av.testBit j = false := by
        cases hb : av.testBit j
        · rfl
        · rcases (hbits j (by omega)).mp hb with e2 | e2
          · exact absurd e2 hno
          · exact absurd e2 hns
      rw [e0, if_pos (show nI 0 = 0 from rfl), if_pos ((bx_has av64 (by omega)).mpr hb)]
    · rw [if_neg (nI_ne0 (by omega) (by omega))]
/-- the offer on a place -/
def ofK : List us3 → Nat → Int32
  | [], _ => -1
  | u :: r, k => if pk u k = true then nI u.1 else ofK r k
theorem ofK_none {k : Nat} : ∀ {acc : List us3}, uK acc k = false → ofK acc k = -1
  | [], _ => rfl
  | u :: r, h => by
    rw [uK, Bool.or_eq_false_iff] at h
    rw [ofK, if_neg (by unfold pk; rw [h.1]; decide)]
    exact ofK_none h.2
theorem useV_nI (M : Nat → Nat → Int32) {p : Nat} (hp : p < 7) : useV M (nI p) = M 21 p := by
  unfold useV
  rw [if_neg (by rw [(show ∀ p, p < 7 → withinV (nI p) 0 6 = 1 by decide +kernel) p hp]; decide), atF_nI hp (by decide)]
theorem on_skip {k : Nat} (hk : k < 7) {p : Nat} : ∀ {acc : List us3}, p ≤ 7 → (∀ u ∈ acc, u.2.1 < 128) → chs M (M 21) p acc → uK acc k = false → onF M (nI k) 0 7 = onF M (nI k) p (7 - p) := by
  induction p with
  | zero => intro acc _ _ _ _; rfl
  | succ p ih =>
    intro acc hp hu h hk0
    have step : ∀ x : Int32, onF M (nI k) 0 7 = onF M (nI k) p (7 - p) → (useV M (nI p) = -1 ∨ isInV (atF 210 (M 14) (useV M (nI p))) (nI k) = 0) → onF M (nI k) 0 7 = onF M (nI k) (p + 1) (7 - (p + 1)) := fun _ e h => by
      rw [e, show 7 - p = (7 - (p + 1)) + 1 by omega, onF]
      by_cases e2 : useV M (nI p) = -1
      · rw [if_pos e2]
      · rw [if_neg e2, if_pos (h.resolve_left e2)]
    rcases h with ⟨h1, h2⟩ | ⟨i, u, r, a1, a2, a3, a4, -, rfl, -, a7⟩
    · exact step 0 (ih (by omega) hu h2 hk0) (Or.inl ((useV_nI M (by omega)).trans h1))
    · rw [uK, Bool.or_eq_false_iff] at hk0
      refine step 0 (ih (by omega) (fun v hv => hu v (List.mem_cons_of_mem _ hv)) a7 hk0.2) (Or.inr ?_)
      rw [useV_nI M (by omega), a2, atF_nI a1 (by decide), a4, bx_in (hu u List.mem_cons_self) hk, if_neg (by rw [hk0.1]; decide)]
theorem on_spec {k : Nat} (hk : k < 7) {p : Nat} : ∀ {acc : List us3}, p ≤ 7 → (∀ u ∈ acc, u.2.1 < 128) → dsj acc → chs M (M 21) p acc → uK acc k = true → onF M (nI k) 0 7 = ofK acc k := by
  induction p with
  | zero =>
    intro acc _ _ _ h hk1
    have e : acc = [] := h
    subst e
    cases hk1
  | succ p ih =>
    intro acc hp hu hd h hk1
    rcases h with ⟨h1, h2⟩ | ⟨i, u, r, a1, a2, a3, a4, -, rfl, -, a7⟩
    · exact ih (by omega) hu hd h2 hk1
    · by_cases e : pk u k = true
      · rw [on_skip hk (by omega) (fun v hv => hu v (List.mem_cons_of_mem _ hv)) a7 (hd.1 k hk e), show 7 - p = (7 - (p + 1)) + 1 by omega, onF, useV_nI M (by omega), a2, if_neg (nI_neg1 (by omega)), atF_nI a1 (by decide), a4, bx_in (hu u List.mem_cons_self) hk, if_pos (show u.2.1.testBit (6 - k) = true from e), if_neg (by decide), atF_nI a1 (by decide), a3, ofK, if_pos e]
      · rw [uK, Bool.or_eq_true] at hk1
        rw [ofK, if_neg e]
        exact ih (by omega) (fun v hv => hu v (List.mem_cons_of_mem _ hv)) hd.2 a7 (hk1.resolve_left e)
theorem of_uX {f g : Nat → Int32} {k : Nat} : ∀ {acc : List us3}, acc.length < 2 ^ 31 → lsR f g acc → (if uX acc k = -1 then (-1 : Int32) else f (uX acc k).toNatClampNeg) = ofK acc k
  | [], _, _ => rfl
  | u :: r, hl, h => by
    have hr : r.length < 2 ^ 31 := by rw [List.length_cons] at hl; omega
    rw [uX, ofK]
    by_cases e : pk u k = true
    · rw [if_pos (show u.2.1.testBit (6 - k) = true from e), if_pos e, if_neg (nI_neg1 hr), nI_clamp hr]
      exact h.1
    · rw [if_neg (show ¬ u.2.1.testBit (6 - k) = true from e), if_neg e]
      exact of_uX hr h.2.2
theorem FD_on (h : RX V M os V' M' t a o c) (hF : FD (cb (M' 5) a) o c (BX a M') V M V' M') {k : Nat} (hk : k < cb (M' 5) a) : onF M (nI k) 0 7 = (if M' 21 k = -1 then (-1 : Int32) else M' 23 (M' 21 k).toNatClampNeg) ∧ (M' 21 k = -1 ∨ vp_in (M' 21 k) 7) := by
  have hn := h.1.2.2.1.2
  have hLu := bs_Lu h.1
  obtain ⟨-, ⟨gA, gB, -⟩, -⟩ := bs_L h.1
  obtain ⟨g1, -, -, -, -, -, -, g8, -⟩ := hF
  obtain ⟨-, hch⟩ := g1.2 (Int.natCast_nonneg _)
  obtain ⟨-, -, m21, -, m2324, -⟩ := g8.2 (Int.natCast_nonneg _)
  have hlen := gA.1
  have m2324' : lsR (M' 23) (M' 24) (LX (cb (M' 5) a) o c (BX a M')) := m2324
  have e21 : M' 21 k = uX (LX (cb (M' 5) a) o c (BX a M')) k := m21 k hk
  rw [e21]
  refine ⟨?_, ?_⟩
  · rw [of_uX (by omega) m2324']
    have hu : ∀ u ∈ LX (cb (M' 5) a) o c (BX a M'), u.2.1 < 128 := fun u hu => (hLu u hu).2.1
    by_cases e : uK (LX (cb (M' 5) a) o c (BX a M')) k = true
    · exact on_spec (by omega) (Nat.le_refl 7) hu gB hch e
    · have e' : uK (LX (cb (M' 5) a) o c (BX a M')) k = false := by
        cases hb : uK (LX (cb (M' 5) a) o c (BX a M')) k
        · rfl
        · exact absurd hb e
      rw [on_skip (by omega) (Nat.le_refl 7) hu hch e', ofK_none e']
      rfl
  · rcases uX_lt (k := k) (acc := LX (cb (M' 5) a) o c (BX a M')) with e | ⟨i, h1, h2⟩
    · exact Or.inl e
    · rw [h2]
      exact Or.inr (nI_in (by omega) (by decide))
/-- what is to pay -/
theorem FD_pay (h : RX V M os V' M' t a o c) (hF : FD (cb (M' 5) a) o c (BX a M') V M V' M') (f14 : Nat → Int32) : mostSum (M 23) (maskF (cb (M' 5) a)) 7 = sumB (M' 3) (lkA (M' 5) f14 a) (cb (M' 5) a) := by
  have hn := h.1.2.2.1.2
  obtain ⟨-, -, -, -, -, -, g7, -, g9⟩ := hF
  obtain ⟨F, hF128, eF, hFb⟩ := mask_fn hn
  rw [eF, mostSum_g (x := fnl (cb (M' 5) a) (prX (cb (M' 5) a) (BX a M')) (qX (cb (M' 5) a) o c (BX a M')) (LX (cb (M' 5) a) o c (BX a M'))) hF128 (fun k hk e => g7 k (of_decide_eq_true ((hFb k hk).symm.trans e))) 7 (Nat.le_refl 7)]
  rw [sm_eq (g := fun k => if fnS (cb (M' 5) a) k = true then fnl (cb (M' 5) a) (prX (cb (M' 5) a) (BX a M')) (qX (cb (M' 5) a) o c (BX a M')) (LX (cb (M' 5) a) o c (BX a M')) k else 0) (fun k hk => by rw [hFb k hk]), fn_sum hn _ 7 hn]
  have key : ∀ i, i ≤ cb (M' 5) a → sumB (M' 3) (lkA (M' 5) f14 a) i = nI (sm (fnl (cb (M' 5) a) (prX (cb (M' 5) a) (BX a M')) (qX (cb (M' 5) a) o c (BX a M')) (LX (cb (M' 5) a) o c (BX a M'))) i) := by
    intro i
    induction i with
    | zero => intro _; rfl
    | succ i ih =>
      intro hi
      have es : sumB (M' 3) (lkA (M' 5) f14 a) (i + 1) = sumB (M' 3) (lkA (M' 5) f14 a) i + M' 3 (lkA (M' 5) f14 a i).toNatClampNeg := rfl
      have e9 : M' 3 (lkA (M' 5) (fun _ => 0) a i).toNatClampNeg = nI (fnl (cb (M' 5) a) (prX (cb (M' 5) a) (BX a M')) (qX (cb (M' 5) a) o c (BX a M')) (LX (cb (M' 5) a) o c (BX a M')) i) := g9 i (by omega)
      rw [es, ih (by omega), lk_0 (by omega), e9, nI_add, sm]
  exact (key _ (Nat.le_refl _)).symm
end ASK
