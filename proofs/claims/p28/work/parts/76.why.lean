/-! WHY AN OFFER ISN'T USED: both tell the same. -/
theorem uO_pos {j : Nat} : ∀ {acc : List us3}, (uO acc j = true ↔ 0 < uC acc j)
  | [] => ⟨fun h => absurd (show false = true from h) (by decide), fun h => absurd h (Nat.lt_irrefl _)⟩
  | u :: r => by
    have ih := uO_pos (j := j) (acc := r)
    rw [uO, uC, Bool.or_eq_true, decide_eq_true_eq]
    by_cases e : u.1 = j
    · rw [if_pos e]
      exact ⟨fun _ => by omega, fun _ => Or.inl e⟩
    · rw [if_neg e, Nat.add_zero]
      exact ⟨fun h => ih.mp (h.resolve_left e), fun h => Or.inr (ih.mpr h)⟩
theorem set_ml0 : (List.range 8).all (fun n => (List.range 128).all (fun X => !(decide (1 ≤ X) && decide (X < 2 ^ n)) || (List.range n).any (fun p => decide (rv7 X ∈ ml n p (pc X))))) = true := by decide +kernel
theorem set_ml {n X : Nat} (hn : n ≤ 7) (h1 : 1 ≤ X) (h2 : X < 2 ^ n) : ∃ p, p < n ∧ rv7 X ∈ ml n p (pc X) := by
  have hX : X < 128 := Nat.lt_of_lt_of_le h2 ((show ∀ n, n < 8 → 2 ^ n ≤ 128 by decide) n (by omega))
  have h := set_ml0
  simp only [List.all_eq_true, List.mem_range] at h
  have h0 := h n (by omega) X hX
  rw [decide_eq_true h1, decide_eq_true h2] at h0
  have h9 : (List.range n).any (fun p => decide (rv7 X ∈ ml n p (pc X))) = true := by simpa using h0
  obtain ⟨p, hp, hm⟩ := List.any_eq_true.mp h9
  exact ⟨p, List.mem_range.mp hp, of_decide_eq_true hm⟩
theorem rv_rv {X : Nat} (h : X < 128) : rv7 (rv7 X) = X := (show ∀ X, X < 128 → rv7 (rv7 X) = X by decide +kernel) X h
theorem rv_pos0 : (List.range 8).all (fun n => (List.range 7).all (fun p => (List.range 8).all (fun z => !decide (p < n) || (ml n p z).all (fun m => decide (1 ≤ rv7 m) && decide (rv7 m < 2 ^ n))))) = true := by decide +kernel
theorem rv_pos {n p z m : Nat} (hn : n ≤ 7) (hp : p < n) (hz : z ≤ 7) (h : m ∈ ml n p z) : 1 ≤ rv7 m ∧ rv7 m < 2 ^ n := by
  have h0 := rv_pos0
  simp only [List.all_eq_true, List.mem_range] at h0
  have h1 := h0 n (by omega) p (by omega) z (by omega)
  rw [decide_eq_true hp] at h1
  have h2 : (ml n p z).all (fun m => decide (1 ≤ rv7 m) && decide (rv7 m < 2 ^ n)) = true := by simpa using h1
  have h3 := List.all_eq_true.mp h2 m h
  simp only [Bool.and_eq_true, decide_eq_true_eq] at h3
  exact h3
theorem ip_spec {V : Nat → Int32} {M : Nat → Nat → Int32} {x : Int32} : ∀ {k i : Nat}, i + k ≤ 210 → ((∃ z, i ≤ z ∧ z < i + k ∧ M 13 z = x) ∧ ipF V M x i k = 1) ∨ ((∀ z, i ≤ z → z < i + k → ¬ M 13 z = x) ∧ ipF V M x i k = reachV (M 8) x (V 8))
  | 0, i, _ => Or.inr ⟨fun z h1 h2 => by omega, rfl⟩
  | k + 1, i, h => by
    rw [ipF, atF_nI (by omega) (by decide)]
    by_cases e : M 13 i = x
    · rw [if_pos e]
      exact Or.inl ⟨⟨i, Nat.le_refl i, by omega, e⟩, rfl⟩
    · rw [if_neg e]
      rcases ip_spec (V := V) (M := M) (x := x) (k := k) (i := i + 1) (by omega) with ⟨⟨z, z1, z2, z3⟩, g⟩ | ⟨g1, g2⟩
      · exact Or.inl ⟨⟨z, by omega, by omega, z3⟩, g⟩
      · refine Or.inr ⟨fun z h1 h2 => ?_, g2⟩
        by_cases e2 : z = i
        · rw [e2]; exact e
        · exact g1 z (by omega) (by omega)
theorem hi_spec {M : Nat → Nat → Int32} {n j : Nat} : ∀ i, (hiF M n j i = 0 ↔ ∀ z, z < i → goM M n j (nI (z + 1)) = 0)
  | 0 => ⟨fun _ z hz => absurd hz (Nat.not_lt_zero _), fun _ => rfl⟩
  | i + 1 => by
    have ih := hi_spec (M := M) (n := n) (j := j) i
    have es : hiF M n j (i + 1) = hiS M n j i (hiF M n j i) := rfl
    rw [es]
    unfold hiS
    by_cases e : hiF M n j i = 0
    · rw [if_pos e]
      refine ⟨fun h z hz => ?_, fun h => h i (Nat.lt_succ_self i)⟩
      by_cases e2 : z = i
      · rw [e2]; exact h
      · exact ih.mp e z (by omega)
    · rw [if_neg e]
      exact ⟨fun h => absurd h e, fun h => absurd (ih.mpr fun z hz => h z (by omega)) e⟩
theorem mrv_spec {M : Nat → Nat → Int32} {j : Nat} (hj : j < 2 ^ 31) : ∀ i, i < 2 ^ 31 → (mrvF M j i = 0 ↔ ∀ z, z < i → z ≠ j → ¬ M 12 j = -1 → M 12 z = M 12 j → usM M z ≤ 0)
  | 0, _ => ⟨fun _ z hz => absurd hz (Nat.not_lt_zero _), fun _ => rfl⟩
  | i + 1, hi => by
    have ih := mrv_spec (M := M) (j := j) hj i (by omega)
    have es : mrvF M j (i + 1) = mrvS M j i (mrvF M j i) := rfl
    rw [es]
    unfold mrvS
    by_cases e : mrvF M j i = 0
    · rw [if_pos e]
      have h0 := ih.mp e
      have good : (i ≠ j → ¬ M 12 j = -1 → M 12 i = M 12 j → usM M i ≤ 0) → ∀ z, z < i + 1 → z ≠ j → ¬ M 12 j = -1 → M 12 z = M 12 j → usM M z ≤ 0 := fun g z hz => by
        by_cases e2 : z = i
        · rw [e2]; exact g
        · exact h0 z (by omega)
      by_cases c1 : nI i = nI j
      · rw [if_pos c1]
        exact ⟨fun _ => good fun h => absurd ((nI_eq (by omega) hj).mp c1) h, fun _ => rfl⟩
      · have c1' : i ≠ j := fun h => c1 (by rw [h])
        rw [if_neg c1]
        by_cases c2 : M 12 j = -1
        · rw [if_pos c2]
          exact ⟨fun _ => good fun _ h => absurd c2 h, fun _ => rfl⟩
        · rw [if_neg c2]
          by_cases c3 : M 12 i = M 12 j
          · rw [if_pos c3]
            by_cases c4 : usM M i ≤ 0
            · rw [if_pos c4]
              exact ⟨fun _ => good fun _ _ _ => c4, fun _ => rfl⟩
            · rw [if_neg c4]
              exact ⟨fun h => absurd h (by decide), fun h => absurd (h i (Nat.lt_succ_self i) c1' c2 c3) c4⟩
          · rw [if_neg c3]
            exact ⟨fun _ => good fun _ _ h => absurd h c3, fun _ => rfl⟩
    · rw [if_neg e]
      exact ⟨fun h => absurd h (by decide), fun h => absurd (ih.mpr fun z hz => h z (by omega)) e⟩
section WHY
variable {V : Nat → Int32} {M : Nat → Nat → Int32} {os : Nat → ofr} {V' : Nat → Int32} {M' : Nat → Nat → Int32} {t : Int64} {a o c : Nat}
theorem FD_pos (h : RX V M os V' M' t a o c) (hF : FD (cb (M' 5) a) o c (BX a M') V M V' M') {j : Nat} (hj : j < o) : (¬ usM M' j ≤ 0) ↔ (uO (LX (cb (M' 5) a) o c (BX a M')) j = true ∨ sel (qX (cb (M' 5) a) o c (BX a M')) (LX (cb (M' 5) a) o c (BX a M')) j = true) := by
  have ho := h.1.2.2.2.1.2.2
  obtain ⟨-, ⟨gA, -, -⟩, -⟩ := bs_L h.1
  obtain ⟨-, -, -, m22, -, m25⟩ := hF.2.2.2.2.2.2.2.1.2 (Int.natCast_nonneg _)
  have m22' : M' 22 j = nI (uC (LX (cb (M' 5) a) o c (BX a M')) j) := m22 j hj
  have m25' : M' 25 j = if sel (qX (cb (M' 5) a) o c (BX a M')) (LX (cb (M' 5) a) o c (BX a M')) j = true then 1 else 0 := m25 j hj
  have hT := bs_T (n := cb (M' 5) a) (c := c) (B := BX a M') hj
  have hC := gA.2.2 j (by omega)
  have hL9 := (bs_left h.1 hj).2.2.1
  unfold usM
  by_cases eT : M' 6 j = 116
  · rw [if_pos eT, m25']
    have hno : ¬ uO (LX (cb (M' 5) a) o c (BX a M')) j = true := fun e => by
      have := gA.O j (by omega) e
      rw [hT.mp eT] at this
      cases this
    by_cases e : sel (qX (cb (M' 5) a) o c (BX a M')) (LX (cb (M' 5) a) o c (BX a M')) j = true
    · rw [if_pos e, if_neg (by decide)]
      exact ⟨fun _ => Or.inr e, fun _ => by decide⟩
    · rw [if_neg e, if_pos rfl]
      exact ⟨fun h => absurd (by decide) h, fun h => (h.elim (fun h => absurd h hno) (fun h => absurd h e))⟩
  · have hns : ¬ sel (qX (cb (M' 5) a) o c (BX a M')) (LX (cb (M' 5) a) o c (BX a M')) j = true := fun e => eT (hT.mpr (can_iff.mp (sel_iff.mp e).1).1)
    rw [if_neg eT, m22', uO_pos, nI_le0 (by omega)]
    exact ⟨fun h => Or.inl (by omega), fun h => by rcases h with h | h; omega; exact absurd h hns⟩
/-- whether there is a use of an offer that can still be used -/
theorem FD_has (h : RX V M os V' M' t a o c) (hF : FD (cb (M' 5) a) o c (BX a M') V M V' M') {j : Nat} (hj : j < o) (hL : ¬ qL (qX (cb (M' 5) a) o c (BX a M')) j = 0) {u9 : Nat} (hu9 : V 9 = nI u9) (hu : u9 ≤ 210) : ipF V M (nI j) 0 u9 = 0 ↔ hsM a M' j = 0 := by
  have hn := h.1.2.2.1.2
  have ho := h.1.2.2.2.1.2.2
  obtain ⟨-, g2, -, g4, -⟩ := hF
  have hlen := GL_len (q := qX (cb (M' 5) a) o c (BX a M')) (o := o) (sz := szX (BX a M')) (B := BX a M') hn ho (fun j hj hT => (bs_sz (bs_relO h.1) j hj hT).2.2) (Nat.le_refl (cb (M' 5) a))
  have e9 : u9 = (GL (qX (cb (M' 5) a) o c (BX a M')) (cb (M' 5) a) o (szX (BX a M')) (BX a M') (cb (M' 5) a)).length := (nI_eq (by omega) (by omega)).mp (hu9.symm.trans g4.1)
  have hT := bs_T (n := cb (M' 5) a) (c := c) (B := BX a M') hj
  have huse : (∃ z, 0 ≤ z ∧ z < 0 + u9 ∧ M 13 z = nI j) ↔ ∃ p, p < cb (M' 5) a ∧ ∃ u ∈ usX (cb (M' 5) a) o c (BX a M') p, u.1 = j := by
    constructor
    · rintro ⟨z, -, h2, h3⟩
      obtain ⟨u, hu⟩ : ∃ u, (GL (qX (cb (M' 5) a) o c (BX a M')) (cb (M' 5) a) o (szX (BX a M')) (BX a M') (cb (M' 5) a))[z]? = some u := ⟨_, List.getElem?_eq_getElem (by omega)⟩
      obtain ⟨p, hp, hup⟩ := List.mem_flatMap.mp (List.mem_of_getElem? hu)
      have hp' := List.mem_range.mp hp
      refine ⟨p, hp', u, hup, ?_⟩
      have h4 : M 13 z = nI u.1 := (g4.2 z u hu).1
      have h5 := ((bs_us h.1).2.2 p hp' u hup).1
      exact (nI_eq (by omega) (by omega)).mp (h4.symm.trans h3)
    · rintro ⟨p, hp, u, hup, hj'⟩
      have hm : u ∈ GL (qX (cb (M' 5) a) o c (BX a M')) (cb (M' 5) a) o (szX (BX a M')) (BX a M') (cb (M' 5) a) := List.mem_flatMap.mpr ⟨p, List.mem_range.mpr hp, hup⟩
      obtain ⟨z, hz⟩ := List.getElem?_of_mem hm
      have h4 : M 13 z = nI u.1 := (g4.2 z u hz).1
      exact ⟨z, Nat.zero_le z, by have := (List.getElem?_eq_some_iff.mp hz).1; omega, by rw [h4, hj']⟩
  have hth := g2.1
  unfold hsM
  by_cases eT : M' 6 j = 116
  · rw [if_pos eT]
    have hqT := hT.mp eT
    have hno : ¬ ∃ z, 0 ≤ z ∧ z < 0 + u9 ∧ M 13 z = nI j := fun hz => by
      obtain ⟨p, hp, u, hup, e⟩ := huse.mp hz
      have := (us_mem hup).2.1
      rw [e] at this
      rw [show qT (qX (cb (M' 5) a) o c (BX a M')) j = true from hqT] at this
      cases this
    rcases ip_spec (V := V) (M := M) (x := nI j) (k := u9) (i := 0) (by omega) with ⟨g, -⟩ | ⟨-, g⟩
    · exact absurd g hno
    · obtain ⟨e8, t0, t1⟩ := hth.2.2.2.1 j (by omega) hqT
      have hs := (bs_sum h.1)
      have e7 := (fm_th h.1 hj hqT).1
      have e8' : V 8 = nI (sm (prX (cb (M' 5) a) (BX a M')) 7) := hth.1
      rw [g, hs.2.1, e7]
      unfold reachV
      rw [atF_nI (by omega) (by decide), e8, if_neg (nI_nle t0 (by omega)), e8']
  · have hqT : qT (qX (cb (M' 5) a) o c (BX a M')) j = false := by
      cases hb : qT (qX (cb (M' 5) a) o c (BX a M')) j
      · rfl
      · exact absurd (hT.mpr hb) eT
    rw [if_neg eT, hi_spec]
    obtain ⟨hs0, hs1, hs5⟩ := bs_sz (bs_relO h.1) j hj hqT
    have hcg : cgM (cb (M' 5) a) (BX a M') (sM M' 14 (lkA (M' 5) (M' 14) a)) := ⟨rfl, rfl, rfl, rfl, rfl, rfl, rfl, fun k hk => lk_0 hk⟩
    have hpow : 1 ≤ 2 ^ cb (M' 5) a := Nat.one_le_two_pow
    have hiff : (∃ p, p < cb (M' 5) a ∧ ∃ u ∈ usX (cb (M' 5) a) o c (BX a M') p, u.1 = j) ↔ ¬ ∀ z, z < 2 ^ cb (M' 5) a - 1 → goM (sM M' 14 (lkA (M' 5) (M' 14) a)) (cb (M' 5) a) j (nI (z + 1)) = 0 := by
      constructor
      · rintro ⟨p, hp, u, hup, e⟩ hall
        obtain ⟨-, -, -, m4, m5, -⟩ := us_mem hup
        rw [e] at m4 m5
        obtain ⟨r1, r2⟩ := rv_pos hn hp (by omega) m4
        have h9 := hall (rv7 u.2.1 - 1) (by omega)
        rw [show rv7 u.2.1 - 1 + 1 = rv7 u.2.1 by omega, goM_c hcg] at h9
        exact m5 h9
      · intro hno
        have hex : ∃ z, z < 2 ^ cb (M' 5) a - 1 ∧ ¬ goM (sM M' 14 (lkA (M' 5) (M' 14) a)) (cb (M' 5) a) j (nI (z + 1)) = 0 := by
          refine Classical.byContradiction fun hc => hno fun z hz => ?_
          exact Classical.byContradiction fun h0 => hc ⟨z, hz, h0⟩
        obtain ⟨z, hz, hgo⟩ := hex
        rw [goM_c hcg] at hgo
        have hX : z + 1 < 128 := Nat.lt_of_lt_of_le (show z + 1 < 2 ^ cb (M' 5) a by omega) ((show ∀ n, n < 8 → 2 ^ n ≤ 128 by decide) _ (by omega))
        obtain ⟨p, hp, hm⟩ := set_ml hn (show 1 ≤ z + 1 by omega) (show z + 1 < 2 ^ cb (M' 5) a by omega)
        have hpc : pc (z + 1) = szX (BX a M') j := by
          unfold goM at hgo
          split at hgo
          · exact absurd rfl hgo
          · rename_i hfi
            unfold fiM at hfi
            split at hfi
            · rename_i hbc
              rw [bc_pc hX, hs0] at hbc
              have := pc_le (z + 1)
              exact (nI_eq (by omega) (by omega)).mp hbc
            · exact absurd rfl hfi
        rw [hpc] at hm
        refine ⟨p, hp, (j, rv7 (z + 1), (diM (BX a M') (cb (M' 5) a) j (nI (rv7 (rv7 (z + 1))))).toNatClampNeg), ?_, rfl⟩
        refine List.mem_flatMap.mpr ⟨j, List.mem_range.mpr hj, ?_⟩
        unfold usj
        rw [if_neg (by rw [hqT]; decide), if_neg hL]
        refine List.mem_filterMap.mpr ⟨rv7 (z + 1), hm, ?_⟩
        unfold mkU
        rw [if_neg (by rw [rv_rv hX]; exact hgo)]
    rcases ip_spec (V := V) (M := M) (x := nI j) (k := u9) (i := 0) (by omega) with ⟨g1, g⟩ | ⟨g1, g⟩
    · rw [g]
      exact ⟨fun h => absurd h (by decide), fun h => absurd h (hiff.mp (huse.mp g1))⟩
    · have hr : reachV (M 8) (nI j) (V 8) = 0 := by
        unfold reachV
        rw [atF_nI (by omega) (by decide), if_pos (hth.2.2.2.2.1 j (by omega) hqT)]
      rw [g, hr]
      refine ⟨fun _ => Classical.byContradiction fun h0 => ?_, fun _ => rfl⟩
      obtain ⟨z, z1, z2, z3⟩ := huse.mpr (hiff.mpr h0)
      exact g1 z z1 z2 z3
theorem FD_why (h : RX V M os V' M' t a o c) (hF : FD (cb (M' 5) a) o c (BX a M') V M V' M') {j : Nat} (hj : j < o) {u9 : Nat} (hu9 : V 9 = nI u9) (hu : u9 ≤ 210) : whyV os o (V, M) j u9 = (reaF a o c (V', M') j).1 ∧ RX V M os (reaF a o c (V', M') j).2.1 (reaF a o c (V', M') j).2.2 t a o c := by
  have ho := h.1.2.2.2.1.2.2
  have hL := bs_left h.1 hj
  have hRL : RX V M os (sV V' 5 (nI (cb (M' 5) a))) (sM M' 14 (lkA (M' 5) (M' 14) a)) t a o c := RX_L h _ (fun k _ h5 => by unfold sV; rw [ne_beq h5]; rfl)
  have e10 : leftF os o ((V, M).2 10) ((V, M).1 0) j = nI (qL (qX (cb (M' 5) a) o c (BX a M')) j) := by
    show leftF os o (M 10) (V 0) j = _
    rw [h.1.1.1]
    exact hL.1
  have elf : lfM c (V', M').2 j = nI (qL (qX (cb (M' 5) a) o c (BX a M')) j) := hL.2.2.2
  have eu : timesV (V, M).1 (V, M).2 (nI j) = usM (V', M').2 j := FD_uses h hF hj
  unfold whyV reaF
  rw [eu, e10, elf]
  by_cases c1 : usM (V', M').2 j ≤ 0
  · rw [if_pos c1, if_pos c1]
    by_cases c2 : qL (qX (cb (M' 5) a) o c (BX a M')) j = 0
    · rw [c2, if_neg (show ¬ (0 : Int32) < nI 0 by decide), if_pos (show nI 0 = 0 from rfl)]
      exact ⟨rfl, h⟩
    · have hpos : (0 : Int32) < nI (qL (qX (cb (M' 5) a) o c (BX a M')) j) := nI_lt (a := 0) (by omega) (by have := hL.2.2.1; omega)
      have hL9 := hL.2.2.1
      rw [if_pos hpos, if_neg (nI_ne0 (by omega) (by omega))]
      have hh := FD_has h hF hj c2 hu9 hu
      by_cases c3 : hsM a (V', M').2 j = 0
      · rw [if_pos (hh.mpr c3), if_pos c3]
        exact ⟨rfl, hRL⟩
      · rw [if_neg (fun h0 => c3 (hh.mp h0)), if_neg c3]
        obtain ⟨⟨av, av64, e5, hbits⟩, -⟩ := hF.1.2 (Int.natCast_nonneg _)
        obtain ⟨R, hR, e7, hRb⟩ := (bs_of h.1).1 j (by omega)
        have e7' : (V, M).2 7 = M 7 := rfl
        have e5' : (V, M).1 5 = nI av := e5
        have hg : (atF 6 ((V, M).2 7) (nI j) &&& (V, M).1 5 = 0) ↔ mrvF (V', M').2 j o = 0 := by
          rw [e7', atF_nI (by omega) (by decide), e7, e5', bx_and hR av64, mrv_spec (by omega) o (by omega)]
          constructor
          · intro hall z hz h1 h2 h3
            refine Classical.byContradiction fun h4 => ?_
            have h5 := (FD_pos h hF hz).mp h4
            have h6 := hall z (by omega) ((hbits z (by omega)).mpr h5)
            rw [hRb z (by omega)] at h6
            have h7 : qrv (qX (cb (M' 5) a) o c (BX a M')) z j = true := (fm_rv (n := cb (M' 5) a) (c := c) (B := BX a M') z j).mpr ⟨hz, hj, h1, h3, h2⟩
            rw [h7] at h6
            cases h6
          · intro hall i hi hb
            rw [hRb i hi]
            cases hq : qrv (qX (cb (M' 5) a) o c (BX a M')) i j
            · rfl
            · obtain ⟨q1, q2, q3, q4, q5⟩ := (fm_rv _ _).mp hq
              exact absurd (hall i q1 q3 q5 q4) ((FD_pos h hF q1).mpr ((hbits i hi).mp hb))
        by_cases c4 : mrvF (V', M').2 j o = 0
        · rw [if_pos (hg.mpr c4), if_pos c4]
          exact ⟨rfl, hRL⟩
        · rw [if_neg (fun h0 => c4 (hg.mp h0)), if_neg c4]
          exact ⟨rfl, hRL⟩
  · rw [if_neg c1, if_neg c1]
    exact ⟨rfl, h⟩
end WHY
