/-! BOTH SIDES FIND THE SAME. -/
theorem spreadM_M (M : Nat → Nat → Int32) (d m : Int32) {z : Nat} (h1 : Nat.beq z 23 = false) (h2 : Nat.beq z 24 = false) : spreadM M d m z = M z := by
  unfold spreadM
  split
  · exact (sM_ne h1).trans (sM_ne h2)
  · rfl
theorem writeM_M (V : Nat → Int32) (M : Nat → Nat → Int32) (n : Nat) {z : Nat} (h1 : Nat.beq z 23 = false) (h2 : Nat.beq z 24 = false) : writeM V M n z = M z := by
  unfold writeM
  refine (spreadM_M _ _ _ h1 h2).trans ?_
  have key : ∀ i, wrU M i z = M z := by
    intro i
    induction i with
    | zero => exact sM_ne h1
    | succ i ih =>
      show wrS i (wrU M i) z = M z
      unfold wrS
      split
      · exact ih
      · exact (spreadM_M _ _ _ h1 h2).trans ih
  exact key n
theorem srC_K2 {q : tq} {us : Nat → List us3} {n : Nat} {st : Nat → Nat} {V V' : Nat → Int32} {M M' : Nat → Nat → Int32} (h : srC q us n st V M) (e7 : M' 7 = M 7) (e8 : M' 8 = M 8) (e9 : M' 9 = M 9) (e18 : M' 18 = M 18) (e13 : M' 13 = M 13) (e14 : M' 14 = M 14) (e15 : M' 15 = M 15) (e19 : M' 19 = M 19) (hV : V' 8 = V 8) : srC q us n st V' M' := by
  obtain ⟨⟨h1, h2, h3, h4, h5, h6, od, h7, h8, h9⟩, g2, g3, g4, g5, sh, g6, g7⟩ := h
  exact ⟨⟨hV.trans h1, h2, by rw [e7]; exact h3, by rw [e8]; exact h4, by rw [e8]; exact h5, by rw [e9]; exact h6, od, by rw [e18]; exact h7, h8, h9⟩, g2, by rw [e13, e14, e15]; exact g3, g4, g5, sh, by rw [e19]; exact g6, g7⟩
section FIND
variable {V : Nat → Int32} {M : Nat → Nat → Int32} {os : Nat → ofr} {V' : Nat → Int32} {M' : Nat → Nat → Int32} {t : Int64} {a o c : Nat}
theorem bs_thr (h : RB V M os V' M' t a o c) (L : List us3) : thr (qX (cb (M' 5) a) o c (BX a M')) L < 2 ^ 19 := by
  have hO := bs_of h
  have : thr (qX (cb (M' 5) a) o c (BX a M')) L ≤ sm (fun _ => 65535) 6 := sm_le (fun j hj => by
    have := (hO.2.2.2 j hj).2.1
    split <;> omega)
  have e : sm (fun _ => 65535) 6 = 393210 := rfl
  omega
theorem bs_vl (h : RB V M os V' M' t a o c) : vl (qX (cb (M' 5) a) o c (BX a M')) (LX (cb (M' 5) a) o c (BX a M')) < 2 ^ 21 := by
  obtain ⟨-, ⟨h1, -, -⟩, -⟩ := bs_L h
  have h2 := h1.D h.2.2.1.2
  have h3 := bs_thr h (LX (cb (M' 5) a) o c (BX a M'))
  unfold vl
  omega
/-- the uses of the best set -/
theorem bs_Lu (h : RB V M os V' M' t a o c) : ∀ u ∈ LX (cb (M' 5) a) o c (BX a M'), u.1 < o ∧ u.2.1 < 128 ∧ u.2.2 ≤ 70000 ∧ qT (qX (cb (M' 5) a) o c (BX a M')) u.1 = false ∧ u.2.2 < wN (prX (cb (M' 5) a) (BX a M')) u ∧ ∀ k, k < 7 → pk u k = true → k < cb (M' 5) a := fun u hu => by
  obtain ⟨-, ⟨h1, -, h3⟩, -⟩ := bs_L h
  obtain ⟨-, g2, g3, g4⟩ := h1.2.1 u hu
  obtain ⟨p, hp, hup⟩ := h3 u hu
  obtain ⟨k1, k2, k3⟩ := (bs_us h).2.2 p hp u hup
  exact ⟨k1, g2, g3, g4, k2, k3⟩
theorem bs_pr (h : RB V M os V' M' t a o c) {k : Nat} (hk : k < cb (M' 5) a) : M 4 k = nI (prX (cb (M' 5) a) (BX a M') k) ∧ prM (BX a M') k = nI (prX (cb (M' 5) a) (BX a M') k) ∧ prX (cb (M' 5) a) (BX a M') k ≤ 9999 ∧ 0 < prX (cb (M' 5) a) (BX a M') k := by
  have hn := h.2.2.1.2
  obtain ⟨e1, e2, e3⟩ := prN_of (bs_BK h) hk
  have e4 := (bs_relK h).2 k hk
  rw [atF_nI (by omega) (by decide)] at e4
  have e5 : prX (cb (M' 5) a) (BX a M') k = prN (BX a M') k := if_pos hk
  rw [e5]
  exact ⟨e4.trans e1, e1, e3, e2⟩
/-- the class finds -/
theorem find_c (h : RB V M os V' M' t a o c) (h1 : V 1 = 0) :
    bC (qX (cb (M' 5) a) o c (BX a M')) (((vl (qX (cb (M' 5) a) o c (BX a M')) (LX (cb (M' 5) a) o c (BX a M')) : Nat) : Int), LX (cb (M' 5) a) o c (BX a M')) (findF os o (cb (M' 5) a) (V, M)) ∧
    srC (qX (cb (M' 5) a) o c (BX a M')) (usX (cb (M' 5) a) o c (BX a M')) (cb (M' 5) a) (stF (findF os o (cb (M' 5) a) (V, M)).2) (findF os o (cb (M' 5) a) (V, M)).1 (findF os o (cb (M' 5) a) (V, M)).2 ∧
    (∀ j, j < 6 → (findF os o (cb (M' 5) a) (V, M)).2 17 j = nI (qL (qX (cb (M' 5) a) o c (BX a M')) j)) ∧ HL (findF os o (cb (M' 5) a) (V, M)) (GL (qX (cb (M' 5) a) o c (BX a M')) (cb (M' 5) a) o (szX (BX a M')) (BX a M') (cb (M' 5) a)) ∧
    (∀ z, z ≤ 7 → (findF os o (cb (M' 5) a) (V, M)).2 16 z = nI (stF (findF os o (cb (M' 5) a) (V, M)).2 z) ∧ stF (findF os o (cb (M' 5) a) (V, M)).2 z ≤ 210) ∧ (findF os o (cb (M' 5) a) (V, M)).1 7 = -1 ∧
    (∀ k, k < cb (M' 5) a → (findF os o (cb (M' 5) a) (V, M)).2 23 k = nI (fnl (cb (M' 5) a) (prX (cb (M' 5) a) (BX a M')) (qX (cb (M' 5) a) o c (BX a M')) (LX (cb (M' 5) a) o c (BX a M')) k)) ∧ (findF os o (cb (M' 5) a) (V, M)).1 1 = 1 ∧
    (∀ z, Nat.beq z 13 = false → Nat.beq z 14 = false → Nat.beq z 15 = false → Nat.beq z 16 = false → Nat.beq z 17 = false → Nat.beq z 18 = false → Nat.beq z 19 = false → Nat.beq z 20 = false → Nat.beq z 21 = false → Nat.beq z 23 = false → Nat.beq z 24 = false → (findF os o (cb (M' 5) a) (V, M)).2 z = M z) := by
  have hn := h.2.2.1.2
  have hO := bs_of h
  obtain ⟨eb, ⟨gA, gB, -⟩, -⟩ := bs_L h
  have hrun := run_spec (qX_OK (cb (M' 5) a) o c (BX a M')) (s := (V, M)) (bs_fiH h) hO (fun j hj _ => bs_L6 hj) (fun j hj => bs_T6 hj) ⟨(bs_sum h).1, (bs_sum h).2.2⟩
  have ef : findF os o (cb (M' 5) a) (V, M) = (sV (runF os o (cb (M' 5) a) (nI c) (V, M)).1 1 1, writeM (runF os o (cb (M' 5) a) (nI c) (V, M)).1 (runF os o (cb (M' 5) a) (nI c) (V, M)).2 (cb (M' 5) a)) := by
    unfold findF
    rw [if_pos (show (V, M).1 1 = 0 from h1), show (V, M).1 0 = nI c from h.1.1]
  rw [ef]
  change bC _ (bst _ _ (lvs _ (usX (cb (M' 5) a) o c (BX a M')) _ _ _)) _ ∧ srC _ (usX (cb (M' 5) a) o c (BX a M')) _ _ _ _ ∧ _ at hrun
  rw [eb] at hrun
  generalize runF os o (cb (M' 5) a) (nI c) (V, M) = r at hrun
  obtain ⟨r1, r2, r3, r4, r5, r6, r7⟩ := hrun
  have wM : ∀ {z : Nat}, Nat.beq z 23 = false → Nat.beq z 24 = false → writeM r.1 r.2 (cb (M' 5) a) z = r.2 z := fun a b => writeM_M _ _ _ a b
  have est : stF (writeM r.1 r.2 (cb (M' 5) a)) = stF r.2 := stF_K (wM rfl rfl)
  refine ⟨bC_K r1 rfl rfl (wM rfl rfl) (wM rfl rfl) (wM rfl rfl) (wM rfl rfl), ?_, ?_, HL_K r4 rfl (wM rfl rfl) (wM rfl rfl) (wM rfl rfl), ?_, r6, ?_, rfl, fun z a1 a2 a3 a4 a5 a6 a7 a8 a9 a10 a11 => (wM a10 a11).trans (r7 z a1 a2 a3 a4 a5 a6 a7 a8 a9)⟩
  · show srC _ _ _ (stF (writeM r.1 r.2 (cb (M' 5) a))) _ _
    rw [est]
    exact srC_K2 r2 (wM rfl rfl) (wM rfl rfl) (wM rfl rfl) (wM rfl rfl) (wM rfl rfl) (wM rfl rfl) (wM rfl rfl) (wM rfl rfl) rfl
  · intro j hj
    show writeM r.1 r.2 (cb (M' 5) a) 17 j = _
    rw [wM rfl rfl]
    exact r3 j hj
  · intro z hz
    show writeM r.1 r.2 (cb (M' 5) a) 16 z = nI (stF (writeM r.1 r.2 (cb (M' 5) a)) z) ∧ stF (writeM r.1 r.2 (cb (M' 5) a)) z ≤ 210
    rw [est, wM rfl rfl]
    exact r5 z hz
  · obtain ⟨⟨av, av64, e5, hbits⟩, hch⟩ := r1.2 (Int.natCast_nonneg _)
    have hLu := bs_Lu h
    have hch2 := (chs_down (n := cb (M' 5) a) hn (Nat.le_refl 7) (fun u hu => (hLu u hu).2.2.2.2.2) hch).1
    have e4 : r.2 4 = M 4 := r7 4 rfl rfl rfl rfl rfl rfl rfl rfl rfl
    have e9 : r.2 9 = M 9 := r7 9 rfl rfl rfl rfl rfl rfl rfl rfl rfl
    refine write_spec hn (fun k hk => ?_) hch2 gB (fun u hu => ⟨(hLu u hu).2.1, (hLu u hu).2.2.1, (hLu u hu).2.2.2.2.1, (hLu u hu).2.2.2.2.2⟩) ?_ (by have := bs_thr h (LX (cb (M' 5) a) o c (BX a M')); omega)
    · obtain ⟨p1, -, p3, p4⟩ := bs_pr h hk
      rw [e4]
      exact ⟨p1, p3, p4⟩
    · rw [e9, e5]
      exact amt_spec0 hO.2.2.2 gA.O av64 hbits
theorem fm_cg (a o : Nat) (V' : Nat → Int32) (M' : Nat → Nat → Int32) : cgM (cb (M' 5) a) (BX a M') (fd2 a o (V', M')).2 := ⟨rfl, rfl, rfl, rfl, rfl, rfl, rfl, fun k hk => lk_0 hk⟩
theorem fm_bs (h : RB V M os V' M' t a o c) : bsH (qX (cb (M' 5) a) o c (BX a M')) (cb (M' 5) a) o c (szX (BX a M')) (fd2 a o (V', M')).2 os := by
  have hcg := fm_cg a o V' M'
  have hc := h.1.2.2
  refine ⟨h.2.2.1.2, h.2.2.2.1.2.2, fun k hk => ?_, fun j hj => ?_, fun j hj => ?_, fun j hj => (bs_left h hj).2.2.1, fun j hj => ?_, fun j hj hT => ?_⟩
  · obtain ⟨kd, pr, g1, g2, g3, g4, g5⟩ := bs_BK h k hk
    exact ⟨kd, pr, g1, (kdM_c hcg hk).trans g2, g3, g4, (prM_c hcg hk).trans g5⟩
  · exact relO_K (h.2.2.2.2.2.1 j hj) rfl rfl rfl rfl rfl rfl rfl
  · refine Eq.trans ?_ (bs_left h hj).2.2.2
    rcases (show c = 0 ∨ c = 1 ∨ c = 2 ∨ c = 3 by omega) with e | e | e | e <;> (subst e; rfl)
  · show M' 6 j = 116 ↔ _
    exact bs_T (n := cb (M' 5) a) (c := c) (B := BX a M') hj
  · rw [szM_c hcg]
    exact bs_sz (bs_relO h) j hj hT
theorem fm_th (h : RB V M os V' M' t a o c) {j : Nat} (hj : j < o) (hT : qT (qX (cb (M' 5) a) o c (BX a M')) j = true) : M' 7 j = nI (qth (qX (cb (M' 5) a) o c (BX a M')) j) ∧ M' 8 j = nI (qam (qX (cb (M' 5) a) o c (BX a M')) j) ∧ qth (qX (cb (M' 5) a) o c (BX a M')) j < 2 ^ 19 ∧ qam (qX (cb (M' 5) a) o c (BX a M')) j < 2 ^ 16 := by
  have e6 : M' 6 j = 116 := (bs_T (n := cb (M' 5) a) (c := c) (B := BX a M') hj).mpr hT
  obtain ⟨-, -, -, -, hr⟩ := h.2.2.2.2.2.1 j hj
  rcases hr with ⟨-, h6, -⟩ | ⟨-, h6, -⟩ | ⟨-, h6, -⟩ | ⟨t1, -, g7, g8, -, w2', w3'⟩
  · rw [e6] at h6; exact absurd h6 (by decide)
  · rw [e6] at h6; exact absurd h6 (by decide)
  · rw [e6] at h6; exact absurd h6 (by decide)
  · obtain ⟨p, p1, p2, ep⟩ := wi_nat (lo := 1) (hi := 9999) (by decide) (by decide) w2'
    obtain ⟨w, ww1, ww2, ew⟩ := wi_nat (lo := 1) (hi := 9999) (by decide) (by decide) w3'
    have ep' : M' 7 j = nI p := g7.trans ep
    have ew' : M' 8 j = nI w := g8.trans ew
    have eq1 : qth (qX (cb (M' 5) a) o c (BX a M')) j = p := by
      show (M' 7 j).toNatClampNeg = p
      rw [ep', nI_clamp (by omega)]
    have eq2 : qam (qX (cb (M' 5) a) o c (BX a M')) j = w := by
      show (if j < o ∧ M' 6 j = 116 then (M' 8 j).toNatClampNeg else 0) = w
      rw [if_pos ⟨hj, e6⟩, ew', nI_clamp (by omega)]
    rw [eq1, eq2]
    exact ⟨ep', ew', by omega, by omega⟩
theorem fm_g (h : RB V M os V' M' t a o c) {j : Nat} (hj : j < o) : M' 12 j = -1 ∨ ∃ g, g < 4 ∧ M' 12 j = nI g := by
  obtain ⟨-, g2, -, g4, -⟩ := h.2.2.2.2.2.1 j hj
  rcases wi_neg (hi := 3) (by decide) g4 with e | ⟨e, e3, ee⟩
  · exact Or.inl (g2.trans e)
  · exact Or.inr ⟨e, by omega, g2.trans ee⟩
theorem fm_rv {n o c : Nat} {B : Nat → Nat → Int32} (i j : Nat) : qrv (qX n o c B) i j = true ↔ i < o ∧ j < o ∧ i ≠ j ∧ B 12 i = B 12 j ∧ ¬ B 12 j = -1 := ⟨fun hh => of_decide_eq_true (p := i < o ∧ j < o ∧ i ≠ j ∧ B 12 i = B 12 j ∧ ¬ B 12 j = -1) hh, fun hh => decide_eq_true (p := i < o ∧ j < o ∧ i ≠ j ∧ B 12 i = B 12 j ∧ ¬ B 12 j = -1) hh⟩
theorem fm_4 (h : RB V M os V' M' t a o c) : mB (qX (cb (M' 5) a) o c (BX a M')) (cb (M' 5) a) o (((vl (qX (cb (M' 5) a) o c (BX a M')) (LX (cb (M' 5) a) o c (BX a M')) : Nat) : Int), LX (cb (M' 5) a) o c (BX a M')) (fd4 a o c (V', M')) ∧ (∀ k, k < cb (M' 5) a → (fd4 a o c (V', M')).2 14 k = BX a M' 14 k) ∧ (fd4 a o c (V', M')).2 2 = M' 2 ∧ (fd4 a o c (V', M')).2 3 = M' 3 := by
  obtain ⟨eb, -⟩ := bs_L h
  have e12 : (fd2 a o (V', M')).2 12 = M' 12 := rfl
  have e7 : (fd2 a o (V', M')).2 7 = M' 7 := rfl
  have e8 : (fd2 a o (V', M')).2 8 = M' 8 := rfl
  have eB : BX a M' 12 = M' 12 := rfl
  obtain ⟨m1, m2⟩ := fd4_spec (qX_OK (cb (M' 5) a) o c (BX a M')) (a := a) (n := cb (M' 5) a) (o := o) (c := c) (sz := szX (BX a M')) (s := (V', M')) (os := os) rfl (fm_bs h) (fun j hj => bs_T6 hj)
    (fun j hj hT => by rw [e7, e8]; exact fm_th h hj hT) (fun j hj => by rw [e12]; exact fm_g h hj) (fun i j => by rw [e12, fm_rv, eB]) ⟨(bs_sum h).2.1, (bs_sum h).2.2⟩ (fun j hj _ => bs_L6 hj)
  rw [usA_c (fm_cg a o V' M')] at m1
  change mB _ _ _ (bst _ _ (lvs _ (usX (cb (M' 5) a) o c (BX a M')) _ _ _)) _ at m1
  rw [eb] at m1
  refine ⟨m1, fun k hk => ?_, m2 2 (gk_of (by omega)), m2 3 (gk_of (by omega))⟩
  rw [m2 14 (gk_of (by omega))]
  exact lk_0 hk
/-- the model finds -/
theorem find_m (h : RB V M os V' M' t a o c) (h7 : V' 7 = 0) :
    mB (qX (cb (M' 5) a) o c (BX a M')) (cb (M' 5) a) o (((vl (qX (cb (M' 5) a) o c (BX a M')) (LX (cb (M' 5) a) o c (BX a M')) : Nat) : Int), LX (cb (M' 5) a) o c (BX a M')) (fdF a o c (V', M')) ∧
    (∀ k, k < cb (M' 5) a → (fdF a o c (V', M')).2 3 (BX a M' 14 k).toNatClampNeg = nI (fnl (cb (M' 5) a) (prX (cb (M' 5) a) (BX a M')) (qX (cb (M' 5) a) o c (BX a M')) (LX (cb (M' 5) a) o c (BX a M')) k)) ∧
    (∀ z, z < a → sdX M' z → (fdF a o c (V', M')).2 3 z = M' 3 z) ∧ (fdF a o c (V', M')).1 7 = 1 ∧ fdOK a o c (V', M') := by
  have hn := h.2.2.1.2
  have ha := h.2.1.2.2
  obtain ⟨-, ⟨gA, gB, -⟩, -⟩ := bs_L h
  have hLu := bs_Lu h
  have hvl := bs_vl h
  have hthr := bs_thr h (LX (cb (M' 5) a) o c (BX a M'))
  obtain ⟨m1, k14, k2, k3⟩ := fm_4 h
  have e5 : (V', M').2 5 = M' 5 := rfl
  have ef : fdF a o c (V', M') = spF (cb (M' 5) a) (fdB a o c (V', M')) (nI (sm (prX (cb (M' 5) a) (BX a M')) 7)) (sV (fd4 a o c (V', M')).1 7 1, (fd4 a o c (V', M')).2) := by
    unfold fdF
    rw [if_pos (show (V', M').1 7 = 0 from h7), e5, show sumN (V', M').2 a = nI (sm (prX (cb (M' 5) a) (BX a M')) 7) from (bs_sum h).2.1]
  have hfdB0 : fdB a o c (V', M') = ((fd4 a o c (V', M')).1 9).toNatClampNeg := rfl
  have hOK0 : fdOK a o c (V', M') ↔ ((fd4 a o c (V', M')).1 9 = nI (fdB a o c (V', M')) ∧ fdB a o c (V', M') ≤ 7 ∧ ∀ u, u < fdB a o c (V', M') → ∀ k, k < cb (M' 5) a → (fd4 a o c (V', M')).2 21 k = nI u → ¬ alF (fd4 a o c (V', M')).2 u (cb (M' 5) a) = 0) := Iff.rfl
  rw [hOK0]
  generalize fdB a o c (V', M') = bu at ef hfdB0 hOK0 ⊢
  rw [ef]
  generalize fd4 a o c (V', M') = r at m1 k14 k2 k3 hfdB0 ⊢
  have m1' := m1
  obtain ⟨n1, n2⟩ := m1
  obtain ⟨n10, n9, n21, n22, n2324, n25⟩ := n2 (Int.natCast_nonneg _)
  have hlen : (LX (cb (M' 5) a) o c (BX a M')).length ≤ 7 := by have := gA.1; omega
  have n9' : r.1 9 = nI (LX (cb (M' 5) a) o c (BX a M')).length := n9
  have ebu : bu = (LX (cb (M' 5) a) o c (BX a M')).length := by rw [hfdB0, n9', nI_clamp (by omega)]
  have e8 : r.1 8 = nI (vl (qX (cb (M' 5) a) o c (BX a M')) (LX (cb (M' 5) a) o c (BX a M'))) := Int32.toInt_inj.mp (by rw [n1, nI_toInt (by omega)])
  have hnM : nM r.2 (cb (M' 5) a) (fun k => (BX a M' 14 k).toNatClampNeg) := by
    refine ⟨fun k hk => by rw [k14 k hk], fun k k' hk hk' e => ?_⟩
    obtain ⟨z, z1, z2, -, z4⟩ := bs_item h hk
    obtain ⟨z', z1', z2', -, z4'⟩ := bs_item h hk'
    have e1 : (BX a M' 14 k).toNatClampNeg = (BX a M' 14 k').toNatClampNeg := e
    rw [z2, z2', nI_clamp (by omega), nI_clamp (by omega)] at e1
    rw [← z4, ← z4', e1]
  obtain ⟨s1, s2, s3⟩ := sp_spec (s := (sV r.1 7 1, r.2)) (n := cb (M' 5) a) (b := fun k => (BX a M' 14 k).toNatClampNeg) (pr := prX (cb (M' 5) a) (BX a M')) (q := qX (cb (M' 5) a) o c (BX a M')) (L := LX (cb (M' 5) a) o c (BX a M')) hn hnM (fun k hk => by
      obtain ⟨-, p2, p3, p4⟩ := bs_pr h hk
      refine ⟨?_, p3, p4⟩
      rw [← p2]
      show r.2 2 (r.2 14 k).toNatClampNeg = M' 2 (BX a M' 14 k).toNatClampNeg
      rw [k2, k14 k hk]) (fun k hk => if_neg (by omega)) hlen gB (fun u hu => ⟨(hLu u hu).2.2.1, (hLu u hu).2.2.2.2.1, (hLu u hu).2.2.2.2.2⟩) n21 n2324 e8 n10 (by omega)
  rw [ebu]
  refine ⟨mB_K m1' rfl rfl rfl rfl rfl rfl rfl rfl, s1, fun z hz hsd => ?_, rfl, n9', hlen, fun u hu k hk _ => ?_⟩
  · rw [s2 z (fun k hk => ?_)]
    · show r.2 3 z = M' 3 z
      rw [k3]
    · obtain ⟨z', z1, z2, z3, -⟩ := bs_item h hk
      intro e
      have e1 : z = (BX a M' 14 k).toNatClampNeg := e
      rw [z2, nI_clamp (by omega)] at e1
      rw [← e1] at z3
      rcases hsd with hs | hs <;> (rw [z3] at hs; exact absurd hs (by decide))
  · obtain ⟨W, W1, W2, eW⟩ := s3 u hu
    have eW' : alF r.2 u (cb (M' 5) a) = nI W := eW
    rw [eW']
    exact nI_ne0 W1 (by omega)
end FIND
