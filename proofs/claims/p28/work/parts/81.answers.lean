/-! THE ANSWERS over the relation. -/
section ANS
variable {V : Nat → Int32} {M : Nat → Nat → Int32} {os : Nat → ofr} {V' : Nat → Int32} {M' : Nat → Nat → Int32} {t : Int64} {a o c : Nat}
/-- both find when asked; FD over what the model then holds -/
theorem ask_RX (h : RX V M os V' M' t a o c) : RX (findF os o (cb (M' 5) a) (V, M)).1 (findF os o (cb (M' 5) a) (V, M)).2 os (fdF a o c (sV V' 4 0, M')).1 (fdF a o c (sV V' 4 0, M')).2 t a o c ∧
    FD (cb ((fdF a o c (sV V' 4 0, M')).2 5) a) o c (BX a (fdF a o c (sV V' 4 0, M')).2) (findF os o (cb (M' 5) a) (V, M)).1 (findF os o (cb (M' 5) a) (V, M)).2 (fdF a o c (sV V' 4 0, M')).1 (fdF a o c (sV V' 4 0, M')).2 ∧ (V' 7 = 0 → fdOK a o c (sV V' 4 0, M')) ∧ (fdF a o c (sV V' 4 0, M')).2 5 = M' 5 ∧ (fdF a o c (sV V' 4 0, M')).1 4 = 0 := by
  obtain ⟨h1, h2, h3, h4, h5⟩ := find_RX (RX_V h 0)
  refine ⟨h1, ?_, h3, h4, (fdF_VM (a := a) (o := o) (c := c) (sV V' 4 0, M')).1 4 (fkV_of (by omega))⟩
  rw [h4, h5]
  exact h2
/-- as ask_RX, the model having looked before -/
theorem ask_RL (h : RX V M os V' M' t a o c) : RX (findF os o (cb (M' 5) a) (V, M)).1 (findF os o (cb (M' 5) a) (V, M)).2 os (fdF a o c (sV (sV V' 5 (nI (cb (M' 5) a))) 4 0, sM M' 14 (lkA (M' 5) (M' 14) a))).1 (fdF a o c (sV (sV V' 5 (nI (cb (M' 5) a))) 4 0, sM M' 14 (lkA (M' 5) (M' 14) a))).2 t a o c ∧
    FD (cb ((fdF a o c (sV (sV V' 5 (nI (cb (M' 5) a))) 4 0, sM M' 14 (lkA (M' 5) (M' 14) a))).2 5) a) o c (BX a (fdF a o c (sV (sV V' 5 (nI (cb (M' 5) a))) 4 0, sM M' 14 (lkA (M' 5) (M' 14) a))).2) (findF os o (cb (M' 5) a) (V, M)).1 (findF os o (cb (M' 5) a) (V, M)).2 (fdF a o c (sV (sV V' 5 (nI (cb (M' 5) a))) 4 0, sM M' 14 (lkA (M' 5) (M' 14) a))).1 (fdF a o c (sV (sV V' 5 (nI (cb (M' 5) a))) 4 0, sM M' 14 (lkA (M' 5) (M' 14) a))).2 ∧
    (V' 7 = 0 → fdOK a o c (sV (sV V' 5 (nI (cb (M' 5) a))) 4 0, sM M' 14 (lkA (M' 5) (M' 14) a))) ∧ (fdF a o c (sV (sV V' 5 (nI (cb (M' 5) a))) 4 0, sM M' 14 (lkA (M' 5) (M' 14) a))).2 5 = M' 5 ∧ (fdF a o c (sV (sV V' 5 (nI (cb (M' 5) a))) 4 0, sM M' 14 (lkA (M' 5) (M' 14) a))).1 4 = 0 := by
  have hL : RX V M os (sV (sV V' 5 (nI (cb (M' 5) a))) 4 0) (sM M' 14 (lkA (M' 5) (M' 14) a)) t a o c := RX_L h _ (fun k h4 h5 => by rw [sV_ne (ne_beq h4), sV_ne (ne_beq h5)])
  obtain ⟨h1, h2, h3, h4, h5⟩ := find_RX hL
  have e5 : (sM M' 14 (lkA (M' 5) (M' 14) a)) 5 = M' 5 := rfl
  rw [e5] at h1 h2 h4
  refine ⟨h1, ?_, h3, h4, (fdF_VM (a := a) (o := o) (c := c) (sV (sV V' 5 (nI (cb (M' 5) a))) 4 0, sM M' 14 (lkA (M' 5) (M' 14) a))).1 4 (fkV_of (by omega))⟩
  rw [h4, h5]
  exact h2
theorem cl_best (h : RX V M os V' M' t a o c) : (findF os o (cb (M' 5) a) (V, M)).1 6 = (fdF a o c (sV V' 4 0, M')).1 8 := FD_best (ask_RX h).2.1
theorem cl_uses (h : RX V M os V' M' t a o c) (x : Int32) :
    (xoff V x = none → (muses a o c V' M' x).2.1 4 = 0 ∧ timesV (findF os o (cb (M' 5) a) (V, M)).1 (findF os o (cb (M' 5) a) (V, M)).2 x = (muses a o c V' M' x).1 ∧ RX (findF os o (cb (M' 5) a) (V, M)).1 (findF os o (cb (M' 5) a) (V, M)).2 os (muses a o c V' M' x).2.1 (muses a o c V' M' x).2.2 t a o c) ∧
    ∀ E, xoff V x = some E → (E = eIOB ∧ (muses a o c V' M' x).2.1 4 = 1) ∧ RX V M os (muses a o c V' M' x).2.1 (muses a o c V' M' x).2.2 t a o c := by
  rcases off_two h x with ⟨h0, hx⟩ | ⟨h1, hx, j, hj, e⟩
  · have em : muses a o c V' M' x = (0, (sV V' 4 1, M')) := if_pos h0
    rw [hx, em]
    exact ⟨fun h0 => (nomatch h0), fun E hE => by cases hE; exact ⟨⟨rfl, rfl⟩, RX_V h 1⟩⟩
  · have em : muses a o c V' M' x = (usM (fdF a o c (sV V' 4 0, M')).2 x.toNatClampNeg, fdF a o c (sV V' 4 0, M')) := if_neg (by rw [h1]; decide)
    have ho := h.1.2.2.2.1.2.2
    obtain ⟨f1, f2, -, -, f6⟩ := ask_RX h
    rw [hx, em, e, nI_clamp (by omega)]
    exact ⟨fun _ => ⟨f6, FD_uses f1 f2 hj, f1⟩, fun E hE => (nomatch hE)⟩
theorem pl_at (h : RB V M os V' M' t a o c) {z : Nat} (hz : z < a) (h98 : M' 5 z = 98) (b : Nat → Int32) : plN (lkA (M' 5) b a) (nI z) 0 (cb (M' 5) a) = cb (M' 5) z := by
  have hlt := cb_lt h98 hz
  have ha := h.2.1.2.2
  obtain ⟨p1, -, p3⟩ := plN_lt (f := lkA (M' 5) b a) (x := nI z) (z := cb (M' 5) a) (i := 0) (n := cb (M' 5) a) (by omega) ⟨cb (M' 5) z, by omega, hlt, lkA_hit h98 hz⟩
  obtain ⟨q, hq, e', -, ec⟩ := lkA_at p1
  rw [p3] at e'
  have e2 : z = q := (nI_eq (by omega) (by omega)).mp e'
  rw [e2]
  rw [e2] at ec
  exact ec.symm
theorem cl_off (h : RX V M os V' M' t a o c) (x : Int32) :
    (xpos M x (cb (M' 5) a) = none → (moff a o c V' M' x).2.1 4 = 0 ∧ onF (findF os o (cb (M' 5) a) (V, M)).2 (posF (M 2) x 0 (cb (M' 5) a)) 0 7 = (moff a o c V' M' x).1 ∧ RX (findF os o (cb (M' 5) a) (V, M)).1 (findF os o (cb (M' 5) a) (V, M)).2 os (moff a o c V' M' x).2.1 (moff a o c V' M' x).2.2 t a o c) ∧
    (∀ E, xpos M x (cb (M' 5) a) = some E → (E = eNSE ∧ (moff a o c V' M' x).2.1 4 = 1) ∧ RX V M os (moff a o c V' M' x).2.1 (moff a o c V' M' x).2.2 t a o c) ∧
    (∀ k, k < cb ((fdL a o c (sV V' 4 0, M')).2 5) a → (fdL a o c (sV V' 4 0, M')).2 21 k = -1 ∨ vp_in ((fdL a o c (sV V' 4 0, M')).2 21 k) 7) := by
  obtain ⟨f1, f2, -, f4, f6⟩ := ask_RX h
  have hL : RX (findF os o (cb (M' 5) a) (V, M)).1 (findF os o (cb (M' 5) a) (V, M)).2 os (fdL a o c (sV V' 4 0, M')).1 (fdL a o c (sV V' 4 0, M')).2 t a o c := RX_L f1 _ (fun k _ h5 => sV_ne (ne_beq h5))
  have l21 : (fdL a o c (sV V' 4 0, M')).2 21 = (fdF a o c (sV V' 4 0, M')).2 21 := rfl
  have l23 : (fdL a o c (sV V' 4 0, M')).2 23 = (fdF a o c (sV V' 4 0, M')).2 23 := rfl
  have l5 : (fdL a o c (sV V' 4 0, M')).2 5 = (fdF a o c (sV V' 4 0, M')).2 5 := rfl
  have l14 : (fdL a o c (sV V' 4 0, M')).2 14 = lkA ((fdF a o c (sV V' 4 0, M')).2 5) ((fdF a o c (sV V' 4 0, M')).2 14) a := rfl
  have l4 : (fdL a o c (sV V' 4 0, M')).1 4 = (fdF a o c (sV V' 4 0, M')).1 4 := rfl
  refine ⟨?_, ?_, ?_⟩
  · intro hx
    rcases pos_two h x with ⟨-, hx'⟩ | ⟨h1, -, z, hz, e, h98, hp, hlt⟩
    · rw [hx'] at hx
      cases hx
    · have em : moff a o c V' M' x = if (fdL a o c (sV V' 4 0, M')).2 21 (offP a o c (sV V' 4 0, M') x) = -1 then (-1, fdL a o c (sV V' 4 0, M')) else ((fdL a o c (sV V' 4 0, M')).2 23 ((fdL a o c (sV V' 4 0, M')).2 21 (offP a o c (sV V' 4 0, M') x)).toNatClampNeg, fdL a o c (sV V' 4 0, M')) := if_neg (by rw [h1]; decide)
      have eP : offP a o c (sV V' 4 0, M') x = cb (M' 5) z := by
        unfold offP
        rw [l14, l5, f4, e]
        exact pl_at h.1 hz h98 _
      have g := (FD_on f1 f2 (k := cb (M' 5) z) (by rw [f4]; exact hlt)).1
      rw [em, eP, hp, g, l21, l23]
      by_cases c1 : (fdF a o c (sV V' 4 0, M')).2 21 (cb (M' 5) z) = -1
      · rw [if_pos c1, if_pos c1]
        exact ⟨l4.trans f6, rfl, hL⟩
      · rw [if_neg c1, if_neg c1]
        exact ⟨l4.trans f6, rfl, hL⟩
  · intro E hE
    rcases pos_two h x with ⟨h0, hx'⟩ | ⟨h1, hx', -⟩
    · have em : moff a o c V' M' x = (0, (sV V' 4 1, M')) := if_pos h0
      rw [hx'] at hE
      cases hE
      rw [em]
      exact ⟨⟨rfl, rfl⟩, RX_V h 1⟩
    · rw [hx'] at hE
      cases hE
  · intro k hk
    rw [l5] at hk
    rw [l21]
    exact (FD_on f1 f2 hk).2
theorem cl_why (h : RX V M os V' M' t a o c) (x : Int32) {u9 : Nat} (hu9 : (findF os o (cb (M' 5) a) (V, M)).1 9 = nI u9) (hu : u9 ≤ 210) :
    (xoff V x = none → (mrea a o c V' M' x).2.1 4 = 0 ∧ whyV os o (findF os o (cb (M' 5) a) (V, M)) x.toNatClampNeg u9 = (mrea a o c V' M' x).1 ∧ RX (findF os o (cb (M' 5) a) (V, M)).1 (findF os o (cb (M' 5) a) (V, M)).2 os (mrea a o c V' M' x).2.1 (mrea a o c V' M' x).2.2 t a o c) ∧
    (∀ E, xoff V x = some E → (E = eIOB ∧ (mrea a o c V' M' x).2.1 4 = 1) ∧ RX V M os (mrea a o c V' M' x).2.1 (mrea a o c V' M' x).2.2 t a o c) := by
  rcases off_two h x with ⟨h0, hx⟩ | ⟨h1, hx, j, hj, e⟩
  · have em : mrea a o c V' M' x = (97, (sV V' 4 1, M')) := if_pos h0
    rw [hx, em]
    exact ⟨fun h0 => (nomatch h0), fun E hE => by cases hE; exact ⟨⟨rfl, rfl⟩, RX_V h 1⟩⟩
  · have em : mrea a o c V' M' x = reaF a o c (fdF a o c (sV V' 4 0, M')) x.toNatClampNeg := if_neg (by rw [h1]; decide)
    have ho := h.1.2.2.2.1.2.2
    obtain ⟨f1, f2, -, -, f6⟩ := ask_RX h
    rw [hx, em, e, nI_clamp (by omega)]
    obtain ⟨g1, g2⟩ := FD_why f1 f2 hj hu9 hu
    refine ⟨fun _ => ⟨?_, g1, g2⟩, fun E hE => (nomatch hE)⟩
    refine Eq.trans ?_ f6
    unfold reaF
    split
    · split
      · rfl
      · split
        · rfl
        · split <;> rfl
    · rfl
/-- what the class knows of the list's length when it has found -/
theorem ask_u9 (h : RX V M os V' M' t a o c) : ∃ u9, (findF os o (cb (M' 5) a) (V, M)).1 9 = nI u9 ∧ u9 ≤ 210 := by
  obtain ⟨f1, f2, -⟩ := ask_RX h
  exact ⟨_, f2.2.2.2.1.1, GL_len f1.1.2.2.1.2 f1.1.2.2.2.1.2.2 (fun j hj hT => (bs_sz (bs_relO f1.1) j hj hT).2.2) (Nat.le_refl _)⟩
theorem ask_st (h : RX V M os V' M' t a o c) : ∀ q, q ≤ 7 → atF 8 ((findF os o (cb (M' 5) a) (V, M)).2 16) (nI q) = nI (stF (findF os o (cb (M' 5) a) (V, M)).2 q) ∧ stF (findF os o (cb (M' 5) a) (V, M)).2 q ≤ 210 := fun q hq => by
  obtain ⟨-, f2, -⟩ := ask_RX h
  have h5 := f2.2.2.2.2.1 q hq
  rw [atF_nI (by omega) (by decide)]
  exact h5
theorem cl_net (h : RX V M os V' M' t a o c) (x : Int32) :
    (xpos M x (cb (M' 5) a) = none → (mnet a o c V' M' x).2.1 4 = 0 ∧ atF 7 ((findF os o (cb (M' 5) a) (V, M)).2 23) (posF (M 2) x 0 (cb (M' 5) a)) = (mnet a o c V' M' x).1 ∧ RX (findF os o (cb (M' 5) a) (V, M)).1 (findF os o (cb (M' 5) a) (V, M)).2 os (mnet a o c V' M' x).2.1 (mnet a o c V' M' x).2.2 t a o c) ∧
    (∀ E, xpos M x (cb (M' 5) a) = some E → (E = eNSE ∧ (mnet a o c V' M' x).2.1 4 = 1) ∧ RX V M os (mnet a o c V' M' x).2.1 (mnet a o c V' M' x).2.2 t a o c) := by
  obtain ⟨f1, f2, -, f4, f6⟩ := ask_RX h
  have hn := h.1.2.2.1.2
  have ha := h.1.2.1.2.2
  refine ⟨?_, ?_⟩
  · intro hx
    rcases pos_two h x with ⟨-, hx'⟩ | ⟨h1, -, z, hz, e, h98, hp, hlt⟩
    · rw [hx'] at hx
      cases hx
    · have em : mnet a o c V' M' x = ((fdF a o c (sV V' 4 0, M')).2 3 x.toNatClampNeg, fdF a o c (sV V' 4 0, M')) := if_neg (by rw [h1]; decide)
      have g1 := f2.2.2.2.2.2.2.1 (cb (M' 5) z) (by rw [f4]; exact hlt)
      have g2 := f2.2.2.2.2.2.2.2.2 (cb (M' 5) z) (by rw [f4]; exact hlt)
      have eb : BX a (fdF a o c (sV V' 4 0, M')).2 14 (cb (M' 5) z) = nI z := by
        rw [BX14, f4]
        exact lkA_hit h98 hz
      rw [eb, nI_clamp (by omega)] at g2
      rw [em, hp, e, nI_clamp (by omega), atF_nI (by omega) (by decide)]
      exact ⟨f6, g1.trans g2.symm, f1⟩
  · intro E hE
    rcases pos_two h x with ⟨h0, hx'⟩ | ⟨h1, hx', -⟩
    · have em : mnet a o c V' M' x = (0, (sV V' 4 1, M')) := if_pos h0
      rw [hx'] at hE
      cases hE
      rw [em]
      exact ⟨⟨rfl, rfl⟩, RX_V h 1⟩
    · rw [hx'] at hE
      cases hE
theorem cl_pay (h : RX V M os V' M' t a o c) : mostSum ((findF os o (cb (M' 5) a) (V, M)).2 23) (maskF (cb (M' 5) a)) 7 = paysF a o c (sV V' 4 0, M') ∧ RX (findF os o (cb (M' 5) a) (V, M)).1 (findF os o (cb (M' 5) a) (V, M)).2 os (fdL a o c (sV V' 4 0, M')).1 (fdL a o c (sV V' 4 0, M')).2 t a o c := by
  obtain ⟨f1, f2, -, f4, f6⟩ := ask_RX h
  refine ⟨?_, RX_L f1 _ (fun k _ h5 => sV_ne (ne_beq h5))⟩
  have g := FD_pay f1 f2 ((fdF a o c (sV V' 4 0, M')).2 14)
  have e1 : mostSum ((findF os o (cb (M' 5) a) (V, M)).2 23) (maskF (cb (M' 5) a)) 7 = mostSum ((findF os o (cb (M' 5) a) (V, M)).2 23) (maskF (cb ((fdF a o c (sV V' 4 0, M')).2 5) a)) 7 := by rw [f4]
  exact e1.trans g
theorem findF_1 (os : Nat → ofr) (o n : Nat) (s : VM) : ¬ (findF os o n s).1 1 = 0 := by
  unfold findF
  split
  · exact (by decide : ¬ (1 : Int32) = 0)
  · rename_i h
    exact h
theorem cl_try (h : RX V M os V' M' t a o c) :
    (xtry V = none → (mtry a o c V' M').2.1 4 = 0 ∧ (tryF (stF (findF os o (cb (M' 5) a) (V, M)).2) (cb (M' 5) a) (findF os o (cb (M' 5) a) (V, M))).1 7 = (mtry a o c V' M').1 ∧ RX (tryF (stF (findF os o (cb (M' 5) a) (V, M)).2) (cb (M' 5) a) (findF os o (cb (M' 5) a) (V, M))).1 (tryF (stF (findF os o (cb (M' 5) a) (V, M)).2) (cb (M' 5) a) (findF os o (cb (M' 5) a) (V, M))).2 os (mtry a o c V' M').2.1 (mtry a o c V' M').2.2 t a o c) ∧
    (∀ E, xtry V = some E → (E = eUOE ∧ (mtry a o c V' M').2.1 4 = 1) ∧ RX V M os (mtry a o c V' M').2.1 (mtry a o c V' M').2.2 t a o c) := by
  obtain ⟨f1, f2, -, f4, f6⟩ := ask_RL h
  have hV2 := h.1.2.2.1.1
  unfold xtry
  rw [hV2]
  by_cases c1 : nI (cb (M' 5) a) ≤ 5
  · have em : mtry a o c V' M' = ((fdF a o c (sV (sV V' 5 (nI (cb (M' 5) a))) 4 0, sM M' 14 (lkA (M' 5) (M' 14) a))).1 8, fdF a o c (sV (sV V' 5 (nI (cb (M' 5) a))) 4 0, sM M' 14 (lkA (M' 5) (M' 14) a))) := if_pos c1
    rw [if_pos c1, em]
    refine ⟨fun _ => ⟨f6, ?_⟩, fun E hE => (nomatch hE)⟩
    have h1 : (findF os o (cb (M' 5) a) (V, M)).1 1 = 1 ∧ (fdF a o c (sV (sV V' 5 (nI (cb (M' 5) a))) 4 0, sM M' 14 (lkA (M' 5) (M' 14) a))).1 7 = 1 := by
      rcases f1.2 with ⟨q1, q7⟩ | ⟨q1, q7, -⟩
      · exfalso
        exact findF_1 _ _ _ _ q1
      · exact ⟨q1, q7⟩
    have g := FD_try f1 h1.1 h1.2 f2
    rw [f4] at g
    exact g
  · have em : mtry a o c V' M' = (0, (sV (sV V' 5 (nI (cb (M' 5) a))) 4 1, sM M' 14 (lkA (M' 5) (M' 14) a))) := if_neg c1
    rw [if_neg c1, em]
    exact ⟨fun h0 => (nomatch h0), fun E hE => by cases hE; exact ⟨⟨rfl, rfl⟩, RX_L h _ (fun k h4 h5 => (sV_ne (ne_beq h4)).trans (sV_ne (ne_beq h5)))⟩⟩
end ANS
