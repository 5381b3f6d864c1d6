/-! THE FOUR CALLS THAT ADD AN OFFER, over the relation. -/
section ADD
variable {V : Nat → Int32} {M : Nat → Nat → Int32} {os : Nat → ofr} {V' : Nat → Int32} {M' : Nat → Nat → Int32} {t : Int64} {a o c : Nat}
theorem rvA_spec {b : Nat → Int32} {P : Nat → Nat → Prop} (ho : o < 6) (hb : ∀ j, j < 6 → ∃ R, R < 64 ∧ b j = nI R ∧ ∀ i, i < 6 → (R.testBit i = true ↔ P i j)) :
    ∀ n, n ≤ o → ∀ j, j < 6 → ∃ R, R < 64 ∧ rvA os o b n j = nI R ∧ ∀ i, i < 6 → (R.testBit i = true ↔ P i j ∨ (j = o ∧ i < n ∧ ¬ rivalV (os o) (os i) = 0) ∨ (i = o ∧ j < n ∧ ¬ rivalV (os o) (os j) = 0))
  | 0, _, j, hj => by
    obtain ⟨R, h1, h2, h3⟩ := hb j hj
    refine ⟨R, h1, h2, fun i hi => (h3 i hi).trans ⟨Or.inl, fun h => ?_⟩⟩
    rcases h with h | ⟨-, h, -⟩ | ⟨-, h, -⟩
    · exact h
    · exact absurd h (Nat.not_lt_zero _)
    · exact absurd h (Nat.not_lt_zero _)
  | n + 1, hn, j, hj => by
    have ih := rvA_spec ho hb n (by omega)
    have es : rvA os o b (n + 1) = rvS os o n (rvA os o b n) := rfl
    rw [es]
    unfold rvS
    by_cases c : rivalV (os o) (os n) = 0
    · rw [if_pos c]
      obtain ⟨R, h1, h2, h3⟩ := ih j hj
      refine ⟨R, h1, h2, fun i hi => (h3 i hi).trans (or_congr_right (or_congr ⟨fun h => ⟨h.1, by omega, h.2.2⟩, fun h => ⟨h.1, ?_, h.2.2⟩⟩ ⟨fun h => ⟨h.1, by omega, h.2.2⟩, fun h => ⟨h.1, ?_, h.2.2⟩⟩))⟩
      · by_cases e : i = n
        · rw [e] at h; exact absurd c h.2.2
        · omega
      · by_cases e : j = n
        · rw [e] at h; exact absurd c h.2.2
        · omega
    · rw [if_neg c]
      obtain ⟨Ro, o1, o2, o3⟩ := ih o ho
      obtain ⟨Rn, n1, n2, n3⟩ := ih n (by omega)
      rw [atF_nI ho (by decide), o2, bx_or o1 (by omega), setF_nI ho (by decide), atF_nI (by omega) (by decide), upd_ne9 (show n ≠ o by omega), n2, bx_or n1 ho, setF_nI (by omega) (by decide)]
      by_cases ej : j = n
      · subst ej
        rw [upd_self9]
        refine ⟨Rn ||| 2 ^ o, bx_orlt n1 ho, rfl, fun i hi => ?_⟩
        rw [bx_orb, Bool.or_eq_true, decide_eq_true_eq, n3 i hi]
        constructor
        · rintro ((h | ⟨h1, h2, h3⟩ | ⟨h1, h2, h3⟩) | h)
          · exact Or.inl h
          · exact absurd h1 (by omega)
          · exact absurd h2 (by omega)
          · exact Or.inr (Or.inr ⟨h.symm, by omega, c⟩)
        · rintro (h | ⟨h1, h2, h3⟩ | ⟨h1, h2, h3⟩)
          · exact Or.inl (Or.inl h)
          · exact absurd h1 (by omega)
          · exact Or.inr h1.symm
      · rw [upd_ne9 ej]
        by_cases eo : j = o
        · subst eo
          rw [upd_self9]
          refine ⟨Ro ||| 2 ^ n, bx_orlt o1 (by omega), rfl, fun i hi => ?_⟩
          rw [bx_orb, Bool.or_eq_true, decide_eq_true_eq, o3 i hi]
          constructor
          · rintro ((h | ⟨h1, h2, h3⟩ | ⟨h1, h2, h3⟩) | h)
            · exact Or.inl h
            · exact Or.inr (Or.inl ⟨rfl, by omega, h3⟩)
            · exact absurd h2 (by omega)
            · exact Or.inr (Or.inl ⟨rfl, by omega, by rw [← h]; exact c⟩)
          · rintro (h | ⟨h1, h2, h3⟩ | ⟨h1, h2, h3⟩)
            · exact Or.inl (Or.inl h)
            · by_cases e : i = n
              · exact Or.inr e.symm
              · exact Or.inl (Or.inr (Or.inl ⟨rfl, by omega, h3⟩))
            · exact absurd h2 (by omega)
        · rw [upd_ne9 eo]
          obtain ⟨R, h1, h2, h3⟩ := ih j hj
          refine ⟨R, h1, h2, fun i hi => (h3 i hi).trans (or_congr_right (or_congr ⟨fun h => absurd h.1 eo, fun h => absurd h.1 eo⟩ ⟨fun h => ⟨h.1, by omega, h.2.2⟩, fun h => ⟨h.1, by omega, h.2.2⟩⟩))⟩
theorem add_RX (h : RX V M os V' M' t a o c) (ho : o < 6) (e : ofr) {W' : Nat → Int32} {N' : Nat → Nat → Int32} (hW : W' 0 = V' 0 ∧ W' 1 = V' 1 ∧ W' 2 = nI (o + 1) ∧ W' 3 = V' 3 ∧ W' 7 = 0)
    (hN : N' 1 = M' 1 ∧ N' 2 = M' 2 ∧ N' 3 = M' 3 ∧ N' 4 = M' 4 ∧ N' 5 = M' 5 ∧ N' 26 = M' 26 ∧ N' 27 = M' 27 ∧ N' 28 = M' 28 ∧ N' 29 = M' 29) (hj : ∀ j, j ≠ o → N' 6 j = M' 6 j ∧ N' 7 j = M' 7 j ∧ N' 8 j = M' 8 j ∧ N' 9 j = M' 9 j ∧ N' 10 j = M' 10 j ∧ N' 11 j = M' 11 j ∧ N' 12 j = M' 12 j) (he : relO e N' o) :
    RX (appF (osU os o e) o (sV V 1 0, M)).1 (appF (osU os o e) o (sV V 1 0, M)).2 (osU os o e) W' N' t a (o + 1) c := by
  obtain ⟨r1, r2, r3, r4, r5, r6, r7, r8, r9, r10, r11⟩ := h.1
  obtain ⟨w0, w1, w2, w3, w7⟩ := hW
  obtain ⟨p1, p2, p3, p4, p5, p26, p27, p28, p29⟩ := hN
  have eo : osU os o e o = e := if_pos rfl
  have ez : ∀ z, z ≠ o → osU os o e z = os z := fun z hz => if_neg hz
  have hrv : ∀ z, z < o → (¬ rivalV (osU os o e o) (osU os o e z) = 0 ↔ (N' 12 o = N' 12 z ∧ ¬ N' 12 o = -1)) := fun z hz => by
    rw [eo, ez z (by omega)]
    have e1 : N' 12 o = e.2 1 := he.2.1
    have e2 : N' 12 z = (os z).2 1 := (hj z (by omega)).2.2.2.2.2.2.trans (r6 z hz).2.1
    rw [e1, e2]
    unfold rivalV
    by_cases c1 : e.2 1 = -1
    · rw [if_pos c1]
      exact ⟨fun h => absurd rfl h, fun h => absurd c1 h.2⟩
    · rw [if_neg c1]
      by_cases c2 : e.2 1 = (os z).2 1
      · rw [if_pos c2]
        exact ⟨fun _ => ⟨c2, c1⟩, fun _ => by decide⟩
      · rw [if_neg c2]
        exact ⟨fun h => absurd rfl h, fun h => absurd h.1 c2⟩
  have hsd : ∀ z, sdX N' z = sdX M' z := fun z => by unfold sdX; rw [p5]
  have hsb : ∀ z, sdB N' z = sdB M' z := fun z => by unfold sdB; rw [p5]
  have en : nS N' a = nS M' a := sm_eq (fun z _ => by rw [hsb z])
  have ep : pS N' a = pS M' a := sm_eq (fun z _ => by rw [hsb z, p2])
  have ee : eS N' a = eS M' a := sm_eq (fun z _ => by rw [hsb z, p3])
  have eg : gS N' a = gS M' a := sm_eq (fun z _ => by rw [p5, p3])
  refine RX_0 ⟨⟨r1.1, by rw [w1]; exact r1.2.1, r1.2.2⟩, ⟨r2.1, by rw [w0]; exact r2.2.1, r2.2.2⟩, ⟨by rw [p5]; exact r3.1, by rw [p5]; exact r3.2⟩, ⟨?_, w2, ho⟩, ?_, fun j hjo => ?_, fun j hj6 => ?_, ⟨fun j hjo => ?_, fun j hjo hj6 => ?_⟩, fun c' hc' j hj6 => ?_, ?_, ?_, ?_, ?_, ?_, ?_, ?_, ?_⟩ rfl w7
  · show V 4 + 1 = nI (o + 1)
    rw [r4.1, nI_1]
  · intro k hk
    rw [p5] at hk ⊢
    obtain ⟨b1, b2, b3⟩ := r5 k hk
    rw [p1, p2]
    exact ⟨b1.trans (lkA_base hk), b2, b3⟩
  · by_cases e1 : j = o
    · rw [e1, eo]
      exact he
    · rw [ez j e1]
      obtain ⟨a6, a7, a8, a9, a10, a11, a12⟩ := hj j e1
      exact relO_K (r6 j (by omega)) a6 a7 a8 a9 a10 a11 a12
  · obtain ⟨R, h1, h2, h3⟩ := rvA_spec (os := osU os o e) (b := M 7) (P := fun i j => i < o ∧ j < o ∧ i ≠ j ∧ M' 12 i = M' 12 j ∧ ¬ M' 12 j = -1) ho (fun j hj6 => by
      obtain ⟨R, h1, h2, h3⟩ := r7 j hj6
      exact ⟨R, h1, h2, fun i hi => by rw [h3 i hi, decide_eq_true_eq]⟩) o (Nat.le_refl o) j hj6
    refine ⟨R, h1, h2, fun i hi => ?_⟩
    have hiff : (R.testBit i = true) ↔ (i < o + 1 ∧ j < o + 1 ∧ i ≠ j ∧ N' 12 i = N' 12 j ∧ ¬ N' 12 j = -1) := by
      rw [h3 i hi]
      constructor
      · rintro (⟨a1, a2, a3, a4, a5⟩ | ⟨a1, a2, a3⟩ | ⟨a1, a2, a3⟩)
        · rw [(hj i (by omega)).2.2.2.2.2.2, (hj j (by omega)).2.2.2.2.2.2]
          exact ⟨by omega, by omega, a3, a4, a5⟩
        · rw [a1]
          obtain ⟨b1, b2⟩ := (hrv i a2).mp a3
          exact ⟨by omega, by omega, by omega, b1.symm, b2⟩
        · rw [a1]
          obtain ⟨b1, b2⟩ := (hrv j a2).mp a3
          exact ⟨by omega, by omega, by omega, b1, by rw [← b1]; exact b2⟩
      · rintro ⟨a1, a2, a3, a4, a5⟩
        by_cases e1 : j = o
        · rw [e1] at a3 a4 a5
          exact Or.inr (Or.inl ⟨e1, by omega, (hrv i (by omega)).mpr ⟨a4.symm, a5⟩⟩)
        · by_cases e2 : i = o
          · rw [e2] at a4
            exact Or.inr (Or.inr ⟨e2, by omega, (hrv j (by omega)).mpr ⟨a4, by rw [a4]; exact a5⟩⟩)
          · rw [(hj i e2).2.2.2.2.2.2, (hj j e1).2.2.2.2.2.2] at a4
            rw [(hj j e1).2.2.2.2.2.2] at a5
            exact Or.inl ⟨by omega, by omega, a3, a4, a5⟩
    cases hb : R.testBit i
    · exact (decide_eq_false (fun hh => by rw [hiff.mpr hh] at hb; cases hb)).symm
    · exact (decide_eq_true (hiff.mp hb)).symm
  · show setF 6 (M 8) (nI o) (threshO (osU os o e o)) j = threshO (osU os o e j) ∧ setF 6 (M 9) (nI o) (amountO (osU os o e o)) j = amountO (osU os o e j)
    rw [setF_nI ho (by decide), setF_nI ho (by decide)]
    by_cases e1 : j = o
    · rw [e1, upd_self9, upd_self9]
      exact ⟨rfl, rfl⟩
    · rw [upd_ne9 e1, upd_ne9 e1, ez j e1]
      exact r8.1 j (by omega)
  · show setF 6 (M 8) (nI o) (threshO (osU os o e o)) j = 0 ∧ setF 6 (M 9) (nI o) (amountO (osU os o e o)) j = 0
    rw [setF_nI ho (by decide), setF_nI ho (by decide), upd_ne9 (by omega), upd_ne9 (by omega)]
    exact r8.2 j (by omega) hj6
  · obtain ⟨z, u1, u2, u3, u4⟩ := r9 c' hc' j hj6
    refine ⟨z, u1, ?_, fun hjo => ?_, fun hjo => u4 (by omega)⟩
    · rcases (show c' = 0 ∨ c' = 1 ∨ c' = 2 ∨ c' = 3 by omega) with e9 | e9 | e9 | e9 <;> subst e9
      · exact (congrFun p26 j).trans u2
      · exact (congrFun p27 j).trans u2
      · exact (congrFun p28 j).trans u2
      · exact (congrFun p29 j).trans u2
    · by_cases e1 : j = o
      · have hz := u4 (by omega)
        obtain ⟨l, l1, l2, l3⟩ := wi_nat (lo := 1) (hi := 9) (by decide) (by decide) he.2.2.1
        rw [e1]
        exact ⟨l, he.1.trans l3, by omega, l2⟩
      · rw [(hj j e1).2.2.2.2.2.1]
        exact u3 (by omega)
  · unfold itX
    rw [p1, p2, p5]
    exact r10
  · intro z hz
    rw [hsd z, p3, p4, p5]
    exact r11.1 z hz
  · rw [en]; exact r11.2.1
  · rw [ep]; exact r11.2.2.1
  · rw [ee]; exact r11.2.2.2.1
  · rw [eg]; exact r11.2.2.2.2.1
  · rw [w3]; exact r11.2.2.2.2.2.1
  · rw [ee, eg]; exact r11.2.2.2.2.2.2
/-- full or not, by both -/
theorem full_two (h : RX V M os V' M' t a o c) : (fullV V = 0 ∧ o < 6 ∧ ¬ nI o = 6) ∨ (¬ fullV V = 0 ∧ nI o = 6) := by
  obtain ⟨h4, -, ho⟩ := h.1.2.2.2.1
  unfold fullV
  rw [h4]
  by_cases e : nI o < 6
  · have := (nI_ltI (b := 6) (by omega) (by decide)).mp e
    rw [if_pos e]
    exact Or.inl ⟨rfl, this, fun h => by have := (nI_eq (b := 6) (by omega) (by decide)).mp h; omega⟩
  · have := mt (nI_ltI (a := o) (b := 6) (by omega) (by decide)).mpr e
    rw [if_neg e, show o = 6 by omega]
    exact Or.inr ⟨by decide, rfl⟩
/-- what the model answers when it adds -/
theorem madd_ok {sort fi se th good limit group : Int32} (h0 : maddT o good limit group = 0) : (madd o V' M' sort fi se th good limit group).1 = nI o ∧ (madd o V' M' sort fi se th good limit group).2 = (sV (sV (sV V' 4 0) 2 (nI (o + 1))) 7 0, sM (sM (sM (sM (sM (sM M' 6 (upd (M' 6) o (vp_nar .char sort))) 7 (upd (M' 7) o fi)) 8 (upd (M' 8) o se)) 9 (upd (M' 9) o th)) 11 (upd (M' 11) o limit)) 12 (upd (M' 12) o group)) := by
  have e : madd o V' M' sort fi se th good limit group = (nI o, (sV (sV (sV V' 4 0) 2 (nI (o + 1))) 7 0, sM (sM (sM (sM (sM (sM M' 6 (upd (M' 6) o (vp_nar .char sort))) 7 (upd (M' 7) o fi)) 8 (upd (M' 8) o se)) 9 (upd (M' 9) o th)) 11 (upd (M' 11) o limit)) 12 (upd (M' 12) o group))) := if_pos h0
  rw [e]
  exact ⟨rfl, rfl⟩
theorem madd_no {sort fi se th good limit group : Int32} (h0 : ¬ maddT o good limit group = 0) : madd o V' M' sort fi se th good limit group = (0, (sV V' 4 (maddT o good limit group), M')) := if_neg h0
/-- the terms and the room, one behind the other -/
theorem terms_two (h : RX V M os V' M' t a o c) {good l g : Int32} (hg : good = 0 ∨ good = 1) : let x : Option String := if good = 0 then some eIAE else if termsV l g = 0 then some eIAE else if fullV V = 0 then none else some eISE
    (x = some eIAE ∧ maddT o good l g = 1) ∨ (x = some eISE ∧ maddT o good l g = 2) ∨ (x = none ∧ maddT o good l g = 0 ∧ good = 1 ∧ withinV l 1 9 = 1 ∧ withinV g (-1) 3 = 1 ∧ o < 6) := by
  intro x
  show ((if good = 0 then some eIAE else if termsV l g = 0 then some eIAE else if fullV V = 0 then none else some eISE) = some eIAE ∧ _) ∨ ((if good = 0 then some eIAE else if termsV l g = 0 then some eIAE else if fullV V = 0 then none else some eISE) = some eISE ∧ _) ∨ ((if good = 0 then some eIAE else if termsV l g = 0 then some eIAE else if fullV V = 0 then none else some eISE) = none ∧ _)
  unfold maddT termsV
  rcases hg with hg | hg
  · rw [hg, if_pos rfl, if_pos rfl]
    exact Or.inl ⟨rfl, rfl⟩
  · rw [hg, if_neg (show ¬ (1 : Int32) = 0 by decide), if_neg (show ¬ (1 : Int32) = 0 by decide)]
    rcases wi_01 l 1 9 with e1 | e1
    · rw [e1, if_pos rfl, if_pos rfl]
      exact Or.inl ⟨rfl, rfl⟩
    · rw [e1, if_neg (show ¬ (1 : Int32) = 0 by decide), if_neg (show ¬ (1 : Int32) = 0 by decide)]
      rcases wi_01 g (-1) 3 with e2 | e2
      · rw [e2, if_pos rfl, if_pos rfl]
        exact Or.inl ⟨rfl, rfl⟩
      · rw [e2, if_neg (show ¬ (1 : Int32) = 0 by decide), if_neg (show ¬ (1 : Int32) = 0 by decide), if_neg (show ¬ (1 : Int32) = 0 by decide)]
        rcases full_two h with ⟨f1, f2, f3⟩ | ⟨f1, f3⟩
        · rw [if_pos f1, if_neg f3]
          exact Or.inr (Or.inr ⟨rfl, rfl, rfl, rfl, rfl, f2⟩)
        · rw [if_neg f1, if_pos f3]
          exact Or.inr (Or.inl ⟨rfl, rfl⟩)
theorem good2 {p q : Int32} (hp : p = 0 ∨ p = 1) (hq : q = 0 ∨ q = 1) {α : Type} (x y : α) : (if p = 0 then x else if q = 0 then x else y) = if (if p = 0 then (0 : Int32) else if q = 0 then 0 else 1) = 0 then x else y := by
  rcases hp with hp | hp <;> rcases hq with hq | hq <;> subst hp <;> subst hq <;> rfl
theorem g01 (p q : Int32) : (if p = 0 then (0 : Int32) else if q = 0 then 0 else 1) = 0 ∨ (if p = 0 then (0 : Int32) else if q = 0 then 0 else 1) = 1 := by
  split
  · exact Or.inl rfl
  · split
    · exact Or.inl rfl
    · exact Or.inr rfl
theorem g11 {p q : Int32} (hp : p = 0 ∨ p = 1) (hq : q = 0 ∨ q = 1) (h : (if p = 0 then (0 : Int32) else if q = 0 then 0 else 1) = 1) : p = 1 ∧ q = 1 := by
  rcases hp with hp | hp <;> rcases hq with hq | hq <;> subst hp <;> subst hq
  · exact absurd h (by decide)
  · exact absurd h (by decide)
  · exact absurd h (by decide)
  · exact ⟨rfl, rfl⟩
theorem nar_c : vp_nar .char 112 = 112 ∧ vp_nar .char 102 = 102 ∧ vp_nar .char 98 = 98 ∧ vp_nar .char 116 = 116 := ⟨rfl, rfl, rfl, rfl⟩
theorem cl_pct (h : RX V M os V' M' t a o c) (k e l g : Int32) :
    (xaddP V k e l g = none → (mpct o V' M' k e l g).2.1 4 = 0 ∧ nI o = (mpct o V' M' k e l g).1 ∧ RX (appF (osU os o (ofr4 8 l g k e)) o (sV V 1 0, M)).1 (appF (osU os o (ofr4 8 l g k e)) o (sV V 1 0, M)).2 (osU os o (ofr4 8 l g k e)) (mpct o V' M' k e l g).2.1 (mpct o V' M' k e l g).2.2 t a (o + 1) c) ∧
    ∀ E, xaddP V k e l g = some E → ((E = eIAE ∧ (mpct o V' M' k e l g).2.1 4 = 1) ∨ (E = eISE ∧ (mpct o V' M' k e l g).2.1 4 = 2)) ∧ RX V M os (mpct o V' M' k e l g).2.1 (mpct o V' M' k e l g).2.2 t a o c := by
  have hx : xaddP V k e l g = _ := good2 (wi_01 k 0 9) (wi_01 e 1 90) (some eIAE) (if termsV l g = 0 then some eIAE else if fullV V = 0 then none else some eISE)
  rw [hx]
  unfold mpct
  rcases terms_two h (good := if withinV k 0 9 = 0 then (0 : Int32) else if withinV e 1 90 = 0 then 0 else 1) (l := l) (g := g) (g01 _ _) with ⟨h1, h2⟩ | ⟨h1, h2⟩ | ⟨h1, h2, h3, h4, h5, ho⟩
  · rw [h1, madd_no (by rw [h2]; decide), h2]
    exact ⟨fun h0 => (nomatch h0), fun E hE => by cases hE; exact ⟨Or.inl ⟨rfl, rfl⟩, RX_V h 1⟩⟩
  · rw [h1, madd_no (by rw [h2]; decide), h2]
    exact ⟨fun h0 => (nomatch h0), fun E hE => by cases hE; exact ⟨Or.inr ⟨rfl, rfl⟩, RX_V h 2⟩⟩
  · obtain ⟨w1, w2⟩ := g11 (wi_01 k 0 9) (wi_01 e 1 90) h3
    obtain ⟨m1, m2⟩ := madd_ok (V' := V') (M' := M') (sort := 112) (fi := k) (se := e) (th := -1) h2
    rw [h1, m1, m2]
    refine ⟨fun _ => ⟨rfl, rfl, add_RX h ho _ ⟨rfl, rfl, rfl, rfl, rfl⟩ ⟨rfl, rfl, rfl, rfl, rfl, rfl, rfl, rfl, rfl⟩ (fun j hj => ⟨upd_ne9 hj, upd_ne9 hj, upd_ne9 hj, upd_ne9 hj, rfl, upd_ne9 hj, upd_ne9 hj⟩) ?_⟩, fun E hE => (nomatch hE)⟩
    exact ⟨upd_self9 _ _ _, upd_self9 _ _ _, h4, h5, Or.inl ⟨rfl, upd_self9 _ _ _, upd_self9 _ _ _, upd_self9 _ _ _, upd_self9 _ _ _, w1, w2⟩⟩
theorem cl_free (h : RX V M os V' M' t a o c) (k e l g : Int32) :
    (xaddF V k e l g = none → (mfree o V' M' k e l g).2.1 4 = 0 ∧ nI o = (mfree o V' M' k e l g).1 ∧ RX (appF (osU os o (ofr4 5 l g k e)) o (sV V 1 0, M)).1 (appF (osU os o (ofr4 5 l g k e)) o (sV V 1 0, M)).2 (osU os o (ofr4 5 l g k e)) (mfree o V' M' k e l g).2.1 (mfree o V' M' k e l g).2.2 t a (o + 1) c) ∧
    ∀ E, xaddF V k e l g = some E → ((E = eIAE ∧ (mfree o V' M' k e l g).2.1 4 = 1) ∨ (E = eISE ∧ (mfree o V' M' k e l g).2.1 4 = 2)) ∧ RX V M os (mfree o V' M' k e l g).2.1 (mfree o V' M' k e l g).2.2 t a o c := by
  have hx : xaddF V k e l g = _ := good2 (wi_01 k 0 9) (wi_01 e 2 5) (some eIAE) (if termsV l g = 0 then some eIAE else if fullV V = 0 then none else some eISE)
  rw [hx]
  unfold mfree
  rcases terms_two h (good := if withinV k 0 9 = 0 then (0 : Int32) else if withinV e 2 5 = 0 then 0 else 1) (l := l) (g := g) (g01 _ _) with ⟨h1, h2⟩ | ⟨h1, h2⟩ | ⟨h1, h2, h3, h4, h5, ho⟩
  · rw [h1, madd_no (by rw [h2]; decide), h2]
    exact ⟨fun h0 => (nomatch h0), fun E hE => by cases hE; exact ⟨Or.inl ⟨rfl, rfl⟩, RX_V h 1⟩⟩
  · rw [h1, madd_no (by rw [h2]; decide), h2]
    exact ⟨fun h0 => (nomatch h0), fun E hE => by cases hE; exact ⟨Or.inr ⟨rfl, rfl⟩, RX_V h 2⟩⟩
  · obtain ⟨w1, w2⟩ := g11 (wi_01 k 0 9) (wi_01 e 2 5) h3
    obtain ⟨m1, m2⟩ := madd_ok (V' := V') (M' := M') (sort := 102) (fi := k) (se := e) (th := -1) h2
    rw [h1, m1, m2]
    refine ⟨fun _ => ⟨rfl, rfl, add_RX h ho _ ⟨rfl, rfl, rfl, rfl, rfl⟩ ⟨rfl, rfl, rfl, rfl, rfl, rfl, rfl, rfl, rfl⟩ (fun j hj => ⟨upd_ne9 hj, upd_ne9 hj, upd_ne9 hj, upd_ne9 hj, rfl, upd_ne9 hj, upd_ne9 hj⟩) ?_⟩, fun E hE => (nomatch hE)⟩
    exact ⟨upd_self9 _ _ _, upd_self9 _ _ _, h4, h5, Or.inr (Or.inl ⟨rfl, upd_self9 _ _ _, upd_self9 _ _ _, upd_self9 _ _ _, upd_self9 _ _ _, w1, w2⟩)⟩
theorem cl_thr (h : RX V M os V' M' t a o c) (k e l g : Int32) :
    (xaddT V k e l g = none → (mthr o V' M' k e l g).2.1 4 = 0 ∧ nI o = (mthr o V' M' k e l g).1 ∧ RX (appF (osU os o (ofr4 10 l g k e)) o (sV V 1 0, M)).1 (appF (osU os o (ofr4 10 l g k e)) o (sV V 1 0, M)).2 (osU os o (ofr4 10 l g k e)) (mthr o V' M' k e l g).2.1 (mthr o V' M' k e l g).2.2 t a (o + 1) c) ∧
    ∀ E, xaddT V k e l g = some E → ((E = eIAE ∧ (mthr o V' M' k e l g).2.1 4 = 1) ∨ (E = eISE ∧ (mthr o V' M' k e l g).2.1 4 = 2)) ∧ RX V M os (mthr o V' M' k e l g).2.1 (mthr o V' M' k e l g).2.2 t a o c := by
  have hx : xaddT V k e l g = _ := good2 (wi_01 k 1 9999) (wi_01 e 1 9999) (some eIAE) (if termsV l g = 0 then some eIAE else if fullV V = 0 then none else some eISE)
  rw [hx]
  unfold mthr
  rcases terms_two h (good := if withinV k 1 9999 = 0 then (0 : Int32) else if withinV e 1 9999 = 0 then 0 else 1) (l := l) (g := g) (g01 _ _) with ⟨h1, h2⟩ | ⟨h1, h2⟩ | ⟨h1, h2, h3, h4, h5, ho⟩
  · rw [h1, madd_no (by rw [h2]; decide), h2]
    exact ⟨fun h0 => (nomatch h0), fun E hE => by cases hE; exact ⟨Or.inl ⟨rfl, rfl⟩, RX_V h 1⟩⟩
  · rw [h1, madd_no (by rw [h2]; decide), h2]
    exact ⟨fun h0 => (nomatch h0), fun E hE => by cases hE; exact ⟨Or.inr ⟨rfl, rfl⟩, RX_V h 2⟩⟩
  · obtain ⟨w1, w2⟩ := g11 (wi_01 k 1 9999) (wi_01 e 1 9999) h3
    obtain ⟨m1, m2⟩ := madd_ok (V' := V') (M' := M') (sort := 116) (fi := k) (se := e) (th := -1) h2
    rw [h1, m1, m2]
    refine ⟨fun _ => ⟨rfl, rfl, add_RX h ho _ ⟨rfl, rfl, rfl, rfl, rfl⟩ ⟨rfl, rfl, rfl, rfl, rfl, rfl, rfl, rfl, rfl⟩ (fun j hj => ⟨upd_ne9 hj, upd_ne9 hj, upd_ne9 hj, upd_ne9 hj, rfl, upd_ne9 hj, upd_ne9 hj⟩) ?_⟩, fun E hE => (nomatch hE)⟩
    exact ⟨upd_self9 _ _ _, upd_self9 _ _ _, h4, h5, Or.inr (Or.inr (Or.inr ⟨rfl, upd_self9 _ _ _, upd_self9 _ _ _, upd_self9 _ _ _, upd_self9 _ _ _, w1, w2⟩))⟩
theorem good4 {p q r s : Int32} (hp : p = 0 ∨ p = 1) (hq : q = 0 ∨ q = 1) (hr : r = 0 ∨ r = 1) (hs : s = 0 ∨ s = 1) {α : Type} (x y : α) : (if p = 0 then x else if q = 0 then x else if r = 0 then x else if s = 0 then x else y) = if (if p = 0 then (0 : Int32) else if q = 0 then 0 else if r = 0 then 0 else if s = 0 then 0 else 1) = 0 then x else y := by
  rcases hp with hp | hp <;> rcases hq with hq | hq <;> rcases hr with hr | hr <;> rcases hs with hs | hs <;> subst hp <;> subst hq <;> subst hr <;> subst hs <;> rfl
theorem gB01 (f s th p : Int32) : goodB f s th p = 0 ∨ goodB f s th p = 1 := by
  unfold goodB
  split
  · exact Or.inl rfl
  · split
    · exact Or.inl rfl
    · split
      · exact Or.inl rfl
      · split
        · exact Or.inl rfl
        · exact Or.inr rfl
theorem gB11 {f s th p : Int32} (h : goodB f s th p = 1) : withinV f 0 9 = 1 ∧ withinV s 0 9 = 1 ∧ withinV th (-1) 9 = 1 ∧ withinV p 1 9999 = 1 := by
  unfold goodB at h
  rcases wi_01 f 0 9 with e1 | e1
  · rw [if_pos e1] at h; exact absurd h (by decide)
  · rw [if_neg (by rw [e1]; decide)] at h
    rcases wi_01 s 0 9 with e2 | e2
    · rw [if_pos e2] at h; exact absurd h (by decide)
    · rw [if_neg (by rw [e2]; decide)] at h
      rcases wi_01 th (-1) 9 with e3 | e3
      · rw [if_pos e3] at h; exact absurd h (by decide)
      · rw [if_neg (by rw [e3]; decide)] at h
        rcases wi_01 p 1 9999 with e4 | e4
        · rw [if_pos e4] at h; exact absurd h (by decide)
        · exact ⟨e1, e2, e3, e4⟩
theorem cl_bun (h : RX V M os V' M' t a o c) (f s th p l g : Int32) :
    (xaddB V f s th p l g = none → (mbun o V' M' f s th p l g).2.1 4 = 0 ∧ nI o = (mbun o V' M' f s th p l g).1 ∧ RX (appF (osU os o (ofrB l g f s th p)) o (sV V 1 0, M)).1 (appF (osU os o (ofrB l g f s th p)) o (sV V 1 0, M)).2 (osU os o (ofrB l g f s th p)) (mbun o V' M' f s th p l g).2.1 (mbun o V' M' f s th p l g).2.2 t a (o + 1) c) ∧
    ∀ E, xaddB V f s th p l g = some E → ((E = eIAE ∧ (mbun o V' M' f s th p l g).2.1 4 = 1) ∨ (E = eISE ∧ (mbun o V' M' f s th p l g).2.1 4 = 2)) ∧ RX V M os (mbun o V' M' f s th p l g).2.1 (mbun o V' M' f s th p l g).2.2 t a o c := by
  have hx : xaddB V f s th p l g = _ := good4 (wi_01 f 0 9) (wi_01 s 0 9) (wi_01 th (-1) 9) (wi_01 p 1 9999) (some eIAE) (if termsV l g = 0 then some eIAE else if fullV V = 0 then none else some eISE)
  rw [hx]
  unfold mbun
  rcases terms_two h (good := goodB f s th p) (l := l) (g := g) (gB01 f s th p) with ⟨h1, h2⟩ | ⟨h1, h2⟩ | ⟨h1, h2, h3, h4, h5, ho⟩
  · have hm : maB (madd o V' M' 98 f s th (goodB f s th p) l g) p = (0, (sV V' 4 1, M')) := by
      rw [madd_no (by rw [h2]; decide), h2]
      exact if_neg (show ¬ (1 : Int32) = 0 by decide)
    rw [hm]
    exact ⟨fun h0 => (nomatch (h1.symm.trans h0)), fun E hE => by cases (h1.symm.trans hE); exact ⟨Or.inl ⟨rfl, rfl⟩, RX_V h 1⟩⟩
  · have hm : maB (madd o V' M' 98 f s th (goodB f s th p) l g) p = (0, (sV V' 4 2, M')) := by
      rw [madd_no (by rw [h2]; decide), h2]
      exact if_neg (show ¬ (2 : Int32) = 0 by decide)
    rw [hm]
    exact ⟨fun h0 => (nomatch (h1.symm.trans h0)), fun E hE => by cases (h1.symm.trans hE); exact ⟨Or.inr ⟨rfl, rfl⟩, RX_V h 2⟩⟩
  · obtain ⟨w1, w2, w3, w4⟩ := gB11 h3
    obtain ⟨m1, m2⟩ := madd_ok (V' := V') (M' := M') (sort := 98) (fi := f) (se := s) (th := th) h2
    have hm : maB (madd o V' M' 98 f s th (goodB f s th p) l g) p = (nI o, (sV (sV (sV V' 4 0) 2 (nI (o + 1))) 7 0, sM (sM (sM (sM (sM (sM (sM M' 6 (upd (M' 6) o (vp_nar .char 98))) 7 (upd (M' 7) o f)) 8 (upd (M' 8) o s)) 9 (upd (M' 9) o th)) 11 (upd (M' 11) o l)) 12 (upd (M' 12) o g)) 10 (upd (M' 10) o p))) := by
      have e0 : (madd o V' M' 98 f s th (goodB f s th p) l g).2.1 4 = 0 := by rw [m2]; rfl
      unfold maB
      rw [if_pos e0, m1, m2, nI_clamp (by omega)]
      rfl
    rw [hm]
    refine ⟨fun _ => ⟨rfl, rfl, add_RX h ho _ ⟨rfl, rfl, rfl, rfl, rfl⟩ ⟨rfl, rfl, rfl, rfl, rfl, rfl, rfl, rfl, rfl⟩ (fun j hj => ⟨upd_ne9 hj, upd_ne9 hj, upd_ne9 hj, upd_ne9 hj, upd_ne9 hj, upd_ne9 hj, upd_ne9 hj⟩) ?_⟩, fun E hE => (nomatch (h1.symm.trans hE))⟩
    exact ⟨upd_self9 _ _ _, upd_self9 _ _ _, h4, h5, Or.inr (Or.inr (Or.inl ⟨rfl, upd_self9 _ _ _, upd_self9 _ _ _, upd_self9 _ _ _, upd_self9 _ _ _, upd_self9 _ _ _, w1, w2, w3, w4, rfl, rfl, rfl⟩))⟩
end ADD
