/-! GIVEBACK, SOLDTO, THE SUMS, LEFT, and the calls that ask plainly. -/
section BOOK
variable {V : Nat → Int32} {M : Nat → Nat → Int32} {os : Nat → ofr} {V' : Nat → Int32} {M' : Nat → Nat → Int32} {t : Int64} {a o c : Nat}
theorem wa_spec {x : Int32} (ha : a ≤ 60) : (withinV x 0 (nI a - 1) = 0 ∧ ∀ z, z < a → ¬ x = nI z) ∨ (withinV x 0 (nI a - 1) = 1 ∧ ∃ z, z < a ∧ x = nI z) := by
  unfold withinV
  by_cases c1 : x < 0
  · rw [if_pos c1]
    exact Or.inl ⟨rfl, fun z hz e => by rw [e] at c1; exact absurd c1 (nI_pos (by omega))⟩
  · rw [if_neg c1]
    obtain ⟨z, hz, ez⟩ := nI_of c1
    subst ez
    by_cases c2 : nI a - 1 < nI z
    · rw [if_pos c2]
      refine Or.inl ⟨rfl, fun z' hz' e => ?_⟩
      have e2 : z = z' := (nI_eq hz (by omega)).mp e
      rw [show (1 : Int32) = nI 1 from rfl, nI_sub (by omega), nI_ltI (by omega) hz] at c2
      omega
    · rw [if_neg c2]
      refine Or.inr ⟨rfl, z, ?_, rfl⟩
      rcases Nat.eq_zero_or_pos a with e | e
      · subst e
        exfalso
        refine c2 ?_
        rw [Int32.lt_iff_toInt_lt, nI_toInt hz]
        have : (nI 0 - 1).toInt = -1 := by decide
        rw [this]
        omega
      · rw [show (1 : Int32) = nI 1 from rfl, nI_sub e, nI_ltI (by omega) hz] at c2
        omega
/-- an offer's number, by both sides -/
theorem off_two (h : RX V M os V' M' t a o c) (x : Int32) : (withinV x 0 (nI o - 1) = 0 ∧ xoff V x = some eIOB) ∨ (withinV x 0 (nI o - 1) = 1 ∧ xoff V x = none ∧ ∃ j, j < o ∧ x = nI j) := by
  obtain ⟨h4, -, ho⟩ := h.1.2.2.2.1
  rcases wa_spec (a := o) (x := x) (by omega) with ⟨h0, hn⟩ | ⟨h1, j, hj, e⟩
  · refine Or.inl ⟨h0, ?_⟩
    unfold xoff
    rw [h4]
    refine if_pos ?_
    by_cases c1 : x < 0
    · rw [if_pos c1]
    · rw [if_neg c1]
      obtain ⟨z, hz, ez⟩ := nI_of c1
      rw [if_pos]
      rw [ez, nI_leI (by omega) hz]
      by_cases c2 : o ≤ z
      · exact c2
      · exact absurd ez (hn z (by omega))
  · refine Or.inr ⟨h1, ?_, j, hj, e⟩
    unfold xoff
    rw [h4, e, if_neg (nI_pos (by omega)), if_neg (nI_ge hj (by omega)), if_neg (by decide)]
theorem cl_left (h : RX V M os V' M' t a o c) (x : Int32) :
    (xoff V x = none → (mleft o c V' M' x).2.1 4 = 0 ∧ leftF os o (M 10) (V 0) x.toNatClampNeg = (mleft o c V' M' x).1 ∧ RX V M os (mleft o c V' M' x).2.1 (mleft o c V' M' x).2.2 t a o c) ∧
    ∀ E, xoff V x = some E → (E = eIOB ∧ (mleft o c V' M' x).2.1 4 = 1) ∧ RX V M os (mleft o c V' M' x).2.1 (mleft o c V' M' x).2.2 t a o c := by
  rcases off_two h x with ⟨h0, hx⟩ | ⟨h1, hx, j, hj, e⟩
  · have em : mleft o c V' M' x = (0, (sV V' 4 1, M')) := if_pos h0
    rw [hx, em]
    exact ⟨fun h0 => (nomatch h0), fun E hE => by cases hE; exact ⟨⟨rfl, rfl⟩, RX_V h 1⟩⟩
  · have em : mleft o c V' M' x = (lfM c M' x.toNatClampNeg, (sV V' 4 0, M')) := if_neg (by rw [h1]; decide)
    have ho := h.1.2.2.2.1.2.2
    obtain ⟨l1, -, -, l4⟩ := bs_left h.1 hj
    rw [hx, em, e, nI_clamp (by omega), h.1.1.1]
    exact ⟨fun _ => ⟨rfl, l1.trans l4.symm, RX_V h 0⟩, fun E hE => (nomatch hE)⟩
/-- sold or not, by both sides -/
theorem sold_two (h : RX V M os V' M' t a o c) (x : Int32) : (sdM a (M' 5) x = 0 ∧ zAt (M 26) x = 0) ∨ (sdM a (M' 5) x = 1 ∧ zAt (M 26) x = 1 ∧ ∃ z, z < a ∧ x = nI z ∧ sdX M' z) := by
  have ha := h.1.2.1.2.2
  have hl := h.1.2.2.2.2.2.2.2.2.2.2.1
  unfold sdM zAt
  rcases wa_spec (a := a) (x := x) ha with ⟨h0, hn⟩ | ⟨h1, z, hz, e⟩
  · rw [h0, if_pos rfl]
    refine Or.inl ⟨rfl, ?_⟩
    by_cases c1 : x < 0
    · rw [if_pos c1]
    · rw [if_neg c1]
      obtain ⟨z, hz, ez⟩ := nI_of c1
      by_cases c2 : 60 ≤ x
      · rw [if_pos c2]
      · rw [if_neg c2, ez, nI_clamp hz]
        have hz60 : z < 60 := by
          rw [ez] at c2
          have := mt (nI_leI (a := 60) (b := z) (by decide) hz).mpr c2
          omega
        exact if_pos ((hl z hz60).1.mpr (fun hh => hn z hh.1 ez))
  · rw [h1, if_neg (by decide), e, nI_clamp (by omega), if_neg (nI_pos (by omega)), if_neg (show ¬ (60 : Int32) ≤ nI z from nI_ge (a := z) (b := 60) (by omega) (by decide))]
    by_cases c1 : sdX M' z
    · refine Or.inr ⟨?_, ?_, z, hz, rfl, c1⟩
      · rcases c1 with c1 | c1
        · rw [if_pos c1]
        · rw [if_neg (by rw [c1]; decide), if_pos c1]
      · rw [if_neg (fun hh => (hl z (by omega)).1.mp hh ⟨hz, c1⟩)]
    · refine Or.inl ⟨?_, ?_⟩
      · rw [if_neg (fun hh => c1 (Or.inl hh)), if_neg (fun hh => c1 (Or.inr hh))]
      · exact if_pos ((hl z (by omega)).1.mpr (fun hh => c1 hh.2))
theorem cl_soldTo (h : RX V M os V' M' t a o c) (x : Int32) :
    (xsold M x = none → (msto a V' M' x).2.1 4 = 0 ∧ atF 60 (M 28) x = (msto a V' M' x).1 ∧ RX V M os (msto a V' M' x).2.1 (msto a V' M' x).2.2 t a o c) ∧
    ∀ E, xsold M x = some E → (E = eNSE ∧ (msto a V' M' x).2.1 4 = 1) ∧ RX V M os (msto a V' M' x).2.1 (msto a V' M' x).2.2 t a o c := by
  unfold xsold
  rcases sold_two h x with ⟨h0, hz⟩ | ⟨h1, hz1, z, hz, e, hs⟩
  · have em : msto a V' M' x = (0, (sV V' 4 1, M')) := if_pos h0
    rw [if_pos hz, em]
    exact ⟨fun h0 => (nomatch h0), fun E hE => by cases hE; exact ⟨⟨rfl, rfl⟩, RX_V h 1⟩⟩
  · have ha := h.1.2.1.2.2
    have em : msto a V' M' x = (M' 4 x.toNatClampNeg, (sV V' 4 0, M')) := if_neg (by rw [h1]; decide)
    rw [if_neg (by rw [hz1]; decide), em, e, nI_clamp (by omega), atF_nI (by omega) (by decide)]
    exact ⟨fun _ => ⟨rfl, ((h.1.2.2.2.2.2.2.2.2.2.2.1 z (by omega)).2.2 hz hs).1, RX_V h 0⟩, fun E hE => (nomatch hE)⟩
theorem cb_same {f g : Nat → Int32} (h : ∀ y, f y = 98 ↔ g y = 98) : ∀ i, cb f i = cb g i
  | 0 => rfl
  | i + 1 => by
    rw [cb, cb, cb_same h i]
    by_cases e : g i = 98
    · rw [if_pos e, if_pos ((h i).mpr e)]
    · rw [if_neg e, if_neg (fun hh => e ((h i).mp hh))]
theorem lk_same {f g b : Nat → Int32} (h : ∀ y, f y = 98 ↔ g y = 98) : ∀ i, lkA f b i = lkA g b i
  | 0 => rfl
  | i + 1 => by
    rw [lkA_s, lkA_s, lk_same h i, cb_same h i]
    by_cases e : g i = 98
    · rw [if_pos e, if_pos ((h i).mpr e)]
    · rw [if_neg e, if_neg (fun hh => e ((h i).mp hh))]
theorem sm_upd1 {f g : Nat → Nat} {z : Nat} (h : ∀ y, y ≠ z → f y = g y) : ∀ n, z < n → sm f n + g z = sm g n + f z
  | 0, hz => absurd hz (Nat.not_lt_zero _)
  | n + 1, hz => by
    rw [sm, sm]
    by_cases e : z = n
    · have h1 : sm f n = sm g n := sm_eq (fun i hi => h i (by omega))
      rw [h1, e]
      omega
    · have ih := sm_upd1 h n (by omega)
      have h1 := h n (fun hh => e hh.symm)
      omega
theorem cl_back (h : RX V M os V' M' t a o c) (x : Int32) :
    (xback M x = none → (mgb a V' M' t x).2.1.1 4 = 0 ∧ atF 60 (M 29) x = (mgb a V' M' t x).1 ∧ RX (backF (V, M) x).1 (backF (V, M) x).2 os (mgb a V' M' t x).2.1.1 (mgb a V' M' t x).2.1.2 (mgb a V' M' t x).2.2 a o c) ∧
    ∀ E, xback M x = some E → ((E = eNSE ∧ (mgb a V' M' t x).2.1.1 4 = 1) ∨ (E = eISE ∧ (mgb a V' M' t x).2.1.1 4 = 2)) ∧ RX V M os (mgb a V' M' t x).2.1.1 (mgb a V' M' t x).2.1.2 (mgb a V' M' t x).2.2 a o c := by
  have ha := h.1.2.1.2.2
  unfold xback
  rcases sold_two h x with ⟨h0, hz⟩ | ⟨h1, hz1, z, hz, e, hs⟩
  · have e1 : mgbE a (M' 5) x = 1 := if_pos h0
    have em : mgb a V' M' t x = (0, (sV V' 4 1, M'), t) := by
      unfold mgb
      rw [e1]
      exact if_neg (by decide)
    rw [if_pos hz, em]
    exact ⟨fun h0 => (nomatch h0), fun E hE => by cases hE; exact ⟨Or.inl ⟨rfl, rfl⟩, RX_V h 1⟩⟩
  · obtain ⟨l1, l2, l3⟩ := h.1.2.2.2.2.2.2.2.2.2.2.1 z (by omega)
    rw [if_neg (by rw [hz1]; decide)]
    have hzAt : zAt (M 27) x = if M 27 z = 0 then 0 else 1 := by
      unfold zAt
      rw [e, if_neg (nI_pos (by omega)), if_neg (show ¬ (60 : Int32) ≤ nI z from nI_ge (a := z) (b := 60) (by omega) (by decide)), nI_clamp (by omega)]
    by_cases c1 : M' 5 z = 114
    · have e1 : mgbE a (M' 5) x = 2 := by
        unfold mgbE
        rw [h1, if_neg (by decide), e, nI_clamp (by omega), if_pos c1]
      have em : mgb a V' M' t x = (0, (sV V' 4 2, M'), t) := by
        unfold mgb
        rw [e1]
        exact if_neg (by decide)
      rw [hzAt, if_neg (fun hh => l2.mp hh ⟨hz, c1⟩), if_neg (by decide), em]
      exact ⟨fun h0 => (nomatch h0), fun E hE => by cases hE; exact ⟨Or.inr ⟨rfl, rfl⟩, RX_V h 2⟩⟩
    · have c115 : M' 5 z = 115 := hs.resolve_right c1
      have e1 : mgbE a (M' 5) x = 0 := by
        unfold mgbE
        rw [h1, if_neg (by decide), e, nI_clamp (by omega), if_neg c1]
      have em : mgb a V' M' t x = (M' 3 z, (sV V' 4 0, sM M' 5 (upd (M' 5) z 114)), t - (M' 3 z).toInt64) := by
        unfold mgb
        rw [e1, if_pos rfl, e, nI_clamp (by omega)]
      have eb : backF (V, M) x = (sV V 13 (V 13 + M 29 z), sM M 27 (upd (M 27) z 1)) := by
        unfold backF
        rw [e, if_neg (nI_pos (by omega)), if_neg (show ¬ (60 : Int32) ≤ nI z from nI_ge (a := z) (b := 60) (by omega) (by decide)), atF_nI (by omega) (by decide), nI_clamp (by omega)]
      obtain ⟨g1, g2, w, w1, w2⟩ := l3 hz hs
      rw [hzAt, if_pos (l2.mpr (fun hh => c1 hh.2)), if_pos rfl, em, eb, e, atF_nI (by omega) (by decide)]
      refine ⟨fun _ => ⟨rfl, g2, ?_⟩, fun E hE => (nomatch hE)⟩
      obtain ⟨⟨r1, r2, r3, r4, r5, r6, r7, r8, r9, r10, r11⟩, hf⟩ := h
      have h98 : ∀ y, upd (M' 5) z 114 y = 98 ↔ M' 5 y = 98 := fun y => by
        by_cases ey : y = z
        · rw [ey, upd_self9, c115]
          decide
        · rw [upd_ne9 ey]
      have ecb : cb (upd (M' 5) z 114) a = cb (M' 5) a := cb_same h98 a
      have elk : ∀ b, lkA (upd (M' 5) z 114) b a = lkA (M' 5) b a := fun b => lk_same h98 a
      have hsd : ∀ y, (upd (M' 5) z 114 y = 115 ∨ upd (M' 5) z 114 y = 114) ↔ sdX M' y := fun y => by
        by_cases ey : y = z
        · rw [ey, upd_self9]
          exact ⟨fun _ => hs, fun _ => Or.inr rfl⟩
        · rw [upd_ne9 ey]
          exact Iff.rfl
      have hsb : ∀ y, sdB (sM M' 5 (upd (M' 5) z 114)) y = sdB M' y := fun y => by
        by_cases e : sdB M' y = true
        · rw [e]; exact sdB_iff.mpr ((hsd y).mpr (sdB_iff.mp e))
        · cases hb : sdB (sM M' 5 (upd (M' 5) z 114)) y
          · cases hb2 : sdB M' y
            · rfl
            · exact absurd hb2 e
          · exact absurd (sdB_iff.mpr ((hsd y).mp (sdB_iff.mp hb))) e
      have eg : gS (sM M' 5 (upd (M' 5) z 114)) a = gS M' a + w := by
        have h9 := sm_upd1 (f := fun y => if upd (M' 5) z 114 y = 114 then (M' 3 y).toNatClampNeg else 0) (g := fun y => if M' 5 y = 114 then (M' 3 y).toNatClampNeg else 0) (z := z) (fun y hy => by
          show (if upd (M' 5) z 114 y = 114 then (M' 3 y).toNatClampNeg else 0) = if M' 5 y = 114 then (M' 3 y).toNatClampNeg else 0
          rw [upd_ne9 hy]) a hz
        have h10 : (if M' 5 z = 114 then (M' 3 z).toNatClampNeg else 0) = 0 := if_neg c1
        have h11 : (if upd (M' 5) z 114 z = 114 then (M' 3 z).toNatClampNeg else 0) = w := by
          rw [upd_self9, if_pos rfl, w2, nI_clamp (by omega)]
        rw [h10, h11, Nat.add_zero] at h9
        exact h9
      have ee : eS (sM M' 5 (upd (M' 5) z 114)) a = eS M' a := sm_eq (fun y _ => by rw [hsb y]; rfl)
      refine ⟨⟨r1, r2, ⟨?_, ?_⟩, r4, ?_, fun j hj => relO_K (r6 j hj) rfl rfl rfl rfl rfl rfl rfl, r7, r8, ?_, ?_, ?_, ?_, ?_, ?_, ?_, r11.2.2.2.2.2.1, ?_⟩, ?_⟩
      · show V 2 = nI (cb (upd (M' 5) z 114) a)
        rw [ecb]; exact r3.1
      · show cb (upd (M' 5) z 114) a ≤ 7
        rw [ecb]; exact r3.2
      · intro k hk
        have hk' : k < cb (M' 5) a := by rw [← ecb]; exact hk
        obtain ⟨b1, b2, b3⟩ := r5 k hk'
        refine ⟨b1.trans ?_, b2, b3⟩
        show lkA (M' 5) (M' 14) a k = lkA (upd (M' 5) z 114) (M' 14) a k
        rw [elk]
      · intro c' hc' j hj
        obtain ⟨w', u1, u2, u3, u4⟩ := r9 c' hc' j hj
        refine ⟨w', u1, ?_, u3, u4⟩
        rcases (show c' = 0 ∨ c' = 1 ∨ c' = 2 ∨ c' = 3 by omega) with e9 | e9 | e9 | e9 <;> (subst e9; exact u2)
      · intro y hy
        obtain ⟨k', p', q1, q2, q3, q4, q5, q6⟩ := r10 y hy
        refine ⟨k', p', q1, q2, q3, q4, q5, ?_⟩
        show upd (M' 5) z 114 y = 98 ∨ upd (M' 5) z 114 y = 111 ∨ upd (M' 5) z 114 y = 115 ∨ upd (M' 5) z 114 y = 114
        by_cases ey : y = z
        · rw [ey, upd_self9]
          exact Or.inr (Or.inr (Or.inr rfl))
        · rw [upd_ne9 ey]
          exact q6
      · intro y hy
        obtain ⟨b1, b2, b3⟩ := r11.1 y hy
        show (M 26 y = 0 ↔ ¬ (y < a ∧ (upd (M' 5) z 114 y = 115 ∨ upd (M' 5) z 114 y = 114))) ∧ (upd (M 27) z 1 y = 0 ↔ ¬ (y < a ∧ upd (M' 5) z 114 y = 114)) ∧ (y < a → (upd (M' 5) z 114 y = 115 ∨ upd (M' 5) z 114 y = 114) → M 28 y = M' 4 y ∧ M 29 y = M' 3 y ∧ ∃ w, w ≤ 9999 ∧ M' 3 y = nI w)
        rw [hsd y]
        refine ⟨b1, ?_, b3⟩
        by_cases ey : y = z
        · rw [ey, upd_self9, upd_self9]
          exact ⟨fun hh => absurd hh (by decide), fun hh => absurd ⟨hz, rfl⟩ hh⟩
        · rw [upd_ne9 ey, upd_ne9 ey]
          exact b2
      · show V 10 = _
        rw [r11.2.1]
        congr 1
        exact (sm_eq (fun y _ => by rw [hsb y])).symm
      · show V 11 = _
        rw [r11.2.2.1]
        congr 1
        exact (sm_eq (fun y _ => by rw [hsb y]; rfl)).symm
      · show V 12 = _
        rw [r11.2.2.2.1, ee]
      · show V 13 + M 29 z = _
        rw [r11.2.2.2.2.1, g2, w2, nI_add, eg]
      · rw [r11.2.2.2.2.2.2, ee, eg, w2, nI_l (by omega), ← lN_add]
        simp only [Int64.sub_eq_add_neg, Int64.neg_add, Int64.add_assoc]
      · rcases hf with ⟨f1, f7⟩ | ⟨f1, f7, hF⟩
        · exact Or.inl ⟨f1, f7⟩
        · refine Or.inr ⟨f1, f7, ?_⟩
          have eB : BX a (sM M' 5 (upd (M' 5) z 114)) = BX a M' := BX_K rfl rfl rfl rfl rfl rfl rfl rfl rfl rfl rfl rfl rfl (elk _)
          have e5 : sM M' 5 (upd (M' 5) z 114) 5 = upd (M' 5) z 114 := rfl
          show FD (cb (upd (M' 5) z 114) a) o c (BX a (sM M' 5 (upd (M' 5) z 114))) (sV V 13 (V 13 + M 29 z)) (sM M 27 (upd (M 27) z 1)) (sV V' 4 0) (sM M' 5 (upd (M' 5) z 114))
          rw [eB, ecb]
          obtain ⟨f1, f2, f3, f4, f5, f6, f7', f8, f9⟩ := hF
          exact ⟨bC_K f1 rfl rfl rfl rfl rfl rfl, srC_K2 f2 rfl rfl rfl rfl rfl rfl rfl rfl rfl, f3, HL_K f4 rfl rfl rfl rfl, f5, f6, f7', mB_K f8 rfl rfl rfl rfl rfl rfl rfl rfl, f9⟩
/-- the model's sums of sold items -/
theorem so_spec (h : RX V M os V' M' t a o c) : soF M' a 2 a = nI (nS M' a) ∧ soF M' a 0 a = nI (pS M' a) ∧ soF M' a 1 a = nI (eS M' a) ∧ nS M' a ≤ 60 ∧ pS M' a ≤ 599940 ∧ eS M' a ≤ 599940 ∧ gS M' a ≤ 599940 ∧ (nS M' a = 0 ↔ pS M' a = 0) := by
  have ha := h.1.2.1.2.2
  have hit := h.1.2.2.2.2.2.2.2.2.2.1
  have hl := h.1.2.2.2.2.2.2.2.2.2.2.1
  have hsd : ∀ k, k < a → sdM a (M' 5) (nI k) = if sdB M' k = true then 1 else 0 := fun k hk => by
    unfold sdM
    rcases wa_spec (a := a) (x := nI k) ha with ⟨-, hn⟩ | ⟨h1, -⟩
    · exact absurd rfl (hn k hk)
    · rw [h1, if_neg (by decide), nI_clamp (by omega)]
      by_cases e : sdB M' k = true
      · rw [if_pos e]
        rcases sdB_iff.mp e with e2 | e2
        · rw [if_pos e2]
        · rw [if_neg (by rw [e2]; decide), if_pos e2]
      · rw [if_neg e, if_neg (fun hh => e (sdB_iff.mpr (Or.inl hh))), if_neg (fun hh => e (sdB_iff.mpr (Or.inr hh)))]
  have h2 : ∀ k, k < a → M' 2 k = nI (M' 2 k).toNatClampNeg ∧ 1 ≤ (M' 2 k).toNatClampNeg ∧ (M' 2 k).toNatClampNeg ≤ 9999 := fun k hk => by
    obtain ⟨k', p', -, -, q3, q4, q5, -⟩ := hit k hk
    rw [q5, nI_clamp (by omega)]
    exact ⟨rfl, q3, q4⟩
  have h3 : ∀ k, k < a → sdX M' k → M' 3 k = nI (M' 3 k).toNatClampNeg ∧ (M' 3 k).toNatClampNeg ≤ 9999 := fun k hk hs => by
    obtain ⟨-, -, w, w1, w2⟩ := (hl k (by omega)).2.2 hk hs
    rw [w2, nI_clamp (by omega)]
    exact ⟨rfl, w1⟩
  have key : ∀ (what : Int32) (g : Nat → Nat), (∀ k, k < a → sdX M' k → (if what = 0 then M' 2 k else if what = 1 then M' 3 k else 1) = nI (g k)) → ∀ i, i ≤ a → soF M' a what i = nI (sm (fun z => if sdB M' z = true then g z else 0) i) := by
    intro what g hg i
    induction i with
    | zero => intro _; rfl
    | succ i ih =>
      intro hi
      have es : soF M' a what (i + 1) = soS M' a what i (soF M' a what i) := rfl
      rw [es, ih (by omega), sm]
      unfold soS
      rw [hsd i (by omega)]
      by_cases e : sdB M' i = true
      · rw [if_pos e, if_neg (by decide), if_pos e, hg i (by omega) (sdB_iff.mp e), nI_add]
      · rw [if_neg e, if_pos rfl, if_neg e, Int32.add_zero]
        rfl
  have b1 : nS M' a ≤ sm (fun _ => 1) a := sm_le (fun z _ => by split <;> omega)
  have b2 : pS M' a ≤ sm (fun _ => 9999) a := sm_le (fun z hz => by have := (h2 z hz).2.2; split <;> omega)
  have b3 : eS M' a ≤ sm (fun _ => 9999) a := sm_le (fun z hz => by
    by_cases e : sdB M' z = true
    · rw [if_pos e]; exact (h3 z hz (sdB_iff.mp e)).2
    · rw [if_neg e]; exact Nat.zero_le _)
  have b4 : gS M' a ≤ sm (fun _ => 9999) a := sm_le (fun z hz => by
    by_cases e : M' 5 z = 114
    · rw [if_pos e]; exact (h3 z hz (Or.inr e)).2
    · rw [if_neg e]; exact Nat.zero_le _)
  rw [sm_const] at b1 b2 b3 b4
  have b5 : 9999 * a ≤ 9999 * 60 := Nat.mul_le_mul_left _ ha
  have b6 : nS M' a ≤ pS M' a := sm_le (fun z hz => by
    have := (h2 z hz).2.1
    by_cases e : sdB M' z = true
    · rw [if_pos e, if_pos e]; omega
    · rw [if_neg e]; exact Nat.zero_le _)
  have b7 : pS M' a ≤ 9999 * nS M' a := by
    unfold nS
    rw [← sm_scale]
    exact sm_le (fun z hz => by
      have := (h2 z hz).2.2
      by_cases e : sdB M' z = true
      · rw [if_pos e, if_pos e]; omega
      · rw [if_neg e, if_neg e]; exact Nat.le_refl _)
  refine ⟨key 2 (fun _ => 1) (fun k _ _ => by rw [if_neg (by decide), if_neg (by decide)]; rfl) a (Nat.le_refl a), key 0 (fun k => (M' 2 k).toNatClampNeg) (fun k hk _ => by rw [if_pos rfl]; exact (h2 k hk).1) a (Nat.le_refl a), key 1 (fun k => (M' 3 k).toNatClampNeg) (fun k hk hs => by rw [if_neg (by decide), if_pos rfl]; exact (h3 k hk hs).1) a (Nat.le_refl a), by omega, by omega, by omega, by omega, ⟨fun e => by omega, fun e => by omega⟩⟩
theorem cl_share (h : RX V M os V' M' t a o c) :
    (xnone (V 11) = none → (mdsh a V' M').2.1 4 = 0 ∧ FP.fdiv (FP.i2f (V 11 - V 12)) (FP.i2f (V 11)) = (mdsh a V' M').1 ∧ RX V M os (mdsh a V' M').2.1 (mdsh a V' M').2.2 t a o c) ∧
    (∀ E, xnone (V 11) = some E → (E = eARE ∧ (mdsh a V' M').2.1 4 = 1) ∧ RX V M os (mdsh a V' M').2.1 (mdsh a V' M').2.2 t a o c) ∧ (¬ soF M' a 2 a = 0 → ¬ soF M' a 0 a = 0) := by
  obtain ⟨s2, s0, s1, b2, b0, b1, -, hz⟩ := so_spec h
  obtain ⟨-, v10, v11, v12, -⟩ := h.1.2.2.2.2.2.2.2.2.2.2
  unfold xnone
  rw [v11, v12]
  refine ⟨fun hx => ?_, fun E hE => ?_, ?_⟩
  · have hp : (0 : Int32) < nI (pS M' a) := by
      by_cases e : (0 : Int32) < nI (pS M' a)
      · exact e
      · rw [if_neg e] at hx; cases hx
    have hp' : 0 < pS M' a := (nI_ltI (a := 0) (by decide) (by omega)).mp hp
    have em : mdsh a V' M' = (FP.fdiv (FP.i2f (soF M' a 0 a - soF M' a 1 a)) (FP.i2f (soF M' a 0 a)), (sV V' 4 0, M')) := if_neg (by rw [s2]; exact nI_ne0 (by omega) (by omega))
    rw [em, s0, s1]
    exact ⟨rfl, rfl, RX_V h 0⟩
  · by_cases e : (0 : Int32) < nI (pS M' a)
    · rw [if_pos e] at hE; cases hE
    · rw [if_neg e] at hE
      cases hE
      have hp' : pS M' a = 0 := by
        have := mt (nI_ltI (a := 0) (b := pS M' a) (by decide) (by omega)).mpr e
        omega
      have em : mdsh a V' M' = (FP.fconst0, (sV V' 4 1, M')) := if_pos (by rw [s2, hz.mpr hp']; rfl)
      rw [em]
      exact ⟨⟨rfl, rfl⟩, RX_V h 1⟩
  · rw [s2, s0]
    intro h1 h2
    have e0 : pS M' a = 0 := (nI_eq (b := 0) (by omega) (by decide)).mp h2
    exact h1 (by rw [hz.mpr e0]; rfl)
theorem cl_mean (h : RX V M os V' M' t a o c) :
    (xnone (V 10) = none → (mmnp a V' M').2.1 4 = 0 ∧ FP.ddiv (FP.i2d (V 12)) (FP.i2d (V 10)) = (mmnp a V' M').1 ∧ RX V M os (mmnp a V' M').2.1 (mmnp a V' M').2.2 t a o c) ∧
    (∀ E, xnone (V 10) = some E → (E = eARE ∧ (mmnp a V' M').2.1 4 = 1) ∧ RX V M os (mmnp a V' M').2.1 (mmnp a V' M').2.2 t a o c) := by
  obtain ⟨s2, s0, s1, b2, b0, b1, -, hz⟩ := so_spec h
  obtain ⟨-, v10, v11, v12, -⟩ := h.1.2.2.2.2.2.2.2.2.2.2
  unfold xnone
  rw [v10, v12]
  refine ⟨fun hx => ?_, fun E hE => ?_⟩
  · have hp : (0 : Int32) < nI (nS M' a) := by
      by_cases e : (0 : Int32) < nI (nS M' a)
      · exact e
      · rw [if_neg e] at hx; cases hx
    have hp' : 0 < nS M' a := (nI_ltI (a := 0) (by decide) (by omega)).mp hp
    have em : mmnp a V' M' = (FP.ddiv (FP.i2d (soF M' a 1 a)) (FP.i2d (soF M' a 2 a)), (sV V' 4 0, M')) := if_neg (by rw [s2]; exact nI_ne0 (by omega) (by omega))
    rw [em, s2, s1]
    exact ⟨rfl, rfl, RX_V h 0⟩
  · by_cases e : (0 : Int32) < nI (nS M' a)
    · rw [if_pos e] at hE; cases hE
    · rw [if_neg e] at hE
      cases hE
      have hp' : nS M' a = 0 := by
        have := mt (nI_ltI (a := 0) (b := nS M' a) (by decide) (by omega)).mpr e
        omega
      have em : mmnp a V' M' = (FP.dconst0, (sV V' 4 1, M')) := if_pos (by rw [s2, hp']; rfl)
      rw [em]
      exact ⟨⟨rfl, rfl⟩, RX_V h 1⟩
theorem cl_turn (h : RX V M os V' M' t a o c) : (V 12).toInt64 - (V 13).toInt64 = t := by
  obtain ⟨-, -, -, -, -, b1, bg, -⟩ := so_spec h
  obtain ⟨-, -, -, v12, v13, -, ht⟩ := h.1.2.2.2.2.2.2.2.2.2.2
  rw [v12, v13, ht, nI_l (by omega), nI_l (by omega)]
theorem cl_items (h : RX V M os V' M' t a o c) : V 2 = nI (cb (M' 5) a) ∧ RX V M os (sV (sV V' 4 0) 5 (nI (cb (M' 5) a))) (sM M' 14 (lkA (M' 5) (M' 14) a)) t a o c :=
  ⟨h.1.2.2.1.1, RX_L h _ (fun k h4 h5 => by rw [sV_ne (ne_beq h5), sV_ne (ne_beq h4)])⟩
theorem cl_sum (h : RX V M os V' M' t a o c) : priceOfF (M 4) (maskF (cb (M' 5) a)) (cb (M' 5) a) = sumN M' a := (bs_sum h.1).1.trans (bs_sum h.1).2.1.symm
end BOOK
