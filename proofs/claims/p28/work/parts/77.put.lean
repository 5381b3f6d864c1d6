/-! PUT, TAKEOUT, SETCUSTOMER over the relation. -/
def eIAE : String := "java/lang/IllegalArgumentException"
def eISE : String := "java/lang/IllegalStateException"
def eNSE : String := "java/util/NoSuchElementException"
def eIOB : String := "java/lang/IndexOutOfBoundsException"
def eUOE : String := "java/lang/UnsupportedOperationException"
def eARE : String := "java/lang/ArithmeticException"
section PUT
variable {V : Nat → Int32} {M : Nat → Nat → Int32} {os : Nat → ofr} {V' : Nat → Int32} {M' : Nat → Nat → Int32} {t : Int64} {a o c : Nat}
theorem wi_01 (x lo hi : Int32) : withinV x lo hi = 0 ∨ withinV x lo hi = 1 := by
  unfold withinV
  split
  · exact Or.inl rfl
  · split
    · exact Or.inl rfl
    · exact Or.inr rfl
/-- the base of a state in which nothing is known of the best set -/
theorem RX_0 (h : RB V M os V' M' t a o c) (h1 : V 1 = 0) (h7 : V' 7 = 0) : RX V M os V' M' t a o c := ⟨h, Or.inl ⟨h1, h7⟩⟩
theorem cl_put (h : RX V M os V' M' t a o c) (kind price : Int32) :
    (xput V kind price = none → (mput a V' M' kind price).2.1 4 = 0 ∧ V 3 = (mput a V' M' kind price).1 ∧ RX (sV (sV (sV V 1 0) 2 (V 2 + 1)) 3 (V 3 + 1)) (sM (sM (sM M 2 (setF 7 (M 2) (V 2) (V 3))) 3 (setF 7 (M 3) (V 2) kind)) 4 (setF 7 (M 4) (V 2) price)) os (mput a V' M' kind price).2.1 (mput a V' M' kind price).2.2 t (a + 1) o c) ∧
    ∀ E, xput V kind price = some E → ((E = eIAE ∧ (mput a V' M' kind price).2.1 4 = 1) ∨ (E = eISE ∧ (mput a V' M' kind price).2.1 4 = 2)) ∧ RX V M os (mput a V' M' kind price).2.1 (mput a V' M' kind price).2.2 t a o c := by
  obtain ⟨hV3, hV0', ha⟩ := h.1.2.1
  obtain ⟨hV2, hn⟩ := h.1.2.2.1
  -- what the model answers when it throws
  have hthrow : ∀ y : Int32, mputT a (cb (M' 5) a) kind price = y → ¬ y = 0 → (mput a V' M' kind price).2.1 4 = y ∧ RX V M os (mput a V' M' kind price).2.1 (mput a V' M' kind price).2.2 t a o c := fun y hy hy0 => by
    have e : mput a V' M' kind price = (0, (sV (sV V' 5 (nI (cb (M' 5) a))) 4 (mputT a (cb (M' 5) a) kind price), sM M' 14 (lkA (M' 5) (M' 14) a))) := if_neg (by rw [hy]; exact hy0)
    rw [e]
    exact ⟨hy, RX_L h _ (fun k h4 h5 => by show sV (sV V' 5 _) 4 _ k = V' k; rw [sV_ne (ne_beq h4), sV_ne (ne_beq h5)])⟩
  unfold xput
  rw [hV2, hV3]
  by_cases c1 : withinV kind 0 9 = 0
  · rw [if_pos c1]
    refine ⟨fun h0 => (nomatch h0), fun E hE => ?_⟩
    cases hE
    obtain ⟨g1, g2⟩ := hthrow 1 (if_pos c1) (by decide)
    exact ⟨Or.inl ⟨rfl, g1⟩, g2⟩
  · rw [if_neg c1]
    by_cases c2 : withinV price 1 9999 = 0
    · rw [if_pos c2]
      refine ⟨fun h0 => (nomatch h0), fun E hE => ?_⟩
      cases hE
      obtain ⟨g1, g2⟩ := hthrow 1 (by unfold mputT; rw [if_neg c1, if_pos c2]) (by decide)
      exact ⟨Or.inl ⟨rfl, g1⟩, g2⟩
    · rw [if_neg c2]
      by_cases c3 : hasRoomV (nI (cb (M' 5) a)) (nI a) = 0
      · rw [if_pos c3]
        refine ⟨fun h0 => (nomatch h0), fun E hE => ?_⟩
        cases hE
        obtain ⟨g1, g2⟩ := hthrow 2 (by
          unfold mputT
          rw [if_neg c1, if_neg c2]
          unfold hasRoomV at c3
          split at c3
          · rename_i h7
            have := (nI_leI (a := 7) (by decide) (by omega)).mp h7
            rw [if_pos (by rw [show cb (M' 5) a = 7 by omega]; rfl)]
          · split at c3
            · rename_i h60
              have := (nI_leI (a := 60) (by decide) (by omega)).mp h60
              rw [if_pos (show nI a = 60 by rw [show a = 60 by omega]; rfl)]
              split <;> rfl
            · exact absurd c3 (by decide)) (by decide)
        exact ⟨Or.inr ⟨rfl, g1⟩, g2⟩
      · rw [if_neg c3]
        refine ⟨fun _ => ?_, fun E hE => by cases hE⟩
        unfold hasRoomV at c3
        split at c3
        · exact absurd rfl c3
        · rename_i h7
          split at c3
          · exact absurd rfl c3
          · rename_i h60
            have n7 : cb (M' 5) a < 7 := by
              have := mt (nI_leI (a := 7) (b := cb (M' 5) a) (by decide) (by omega)).mpr h7
              omega
            have a60 : a < 60 := by
              have := mt (nI_leI (a := 60) (b := a) (by decide) (by omega)).mpr h60
              omega
            have e : mput a V' M' kind price = (nI a, (sV (sV (sV (sV V' 5 (nI (cb (M' 5) a))) 4 0) 0 (nI (a + 1))) 7 0, sM (sM (sM (sM M' 14 (lkA (M' 5) (M' 14) a)) 1 (upd (M' 1) a kind)) 2 (upd (M' 2) a price)) 5 (upd (M' 5) a 98))) := if_pos (by
              unfold mputT
              rw [if_neg c1, if_neg c2, if_neg (fun h => by have := (nI_eq (b := 7) (by omega) (by decide)).mp h; omega), if_neg (fun h => by have := (nI_eq (b := 60) (by omega) (by decide)).mp h; omega)])
            rw [e]
            refine ⟨rfl, rfl, RX_0 ?_ rfl rfl⟩
            obtain ⟨kd, kd1, kd2, ekd⟩ := wi_nat (lo := 0) (hi := 9) (by decide) (by decide) ((wi_01 kind 0 9).resolve_left c1)
            obtain ⟨pr, pr1, pr2, epr⟩ := wi_nat (lo := 1) (hi := 9999) (by decide) (by decide) ((wi_01 price 1 9999).resolve_left c2)
            obtain ⟨r1, r2, r3, r4, r5, r6, r7, r8, r9, r10, r11⟩ := h.1
            have ecb : cb (upd (M' 5) a 98) (a + 1) = cb (M' 5) a + 1 := by rw [cb, if_pos (upd_self9 _ _ _), cb_updge _ _ _ _ (Nat.le_refl _)]
            have h5 : ∀ z, z ≠ a → upd (M' 5) a 98 z = M' 5 z := fun z hz => upd_ne9 hz
            have sums : ∀ (f g : Nat → Nat), (∀ z, z < a → f z = g z) → f a = 0 → sm f (a + 1) = sm g a := fun f g hfg h0 => by rw [sm, h0, Nat.add_zero]; exact sm_eq hfg
            have hsda : sdB (sM (sM (sM (sM M' 14 (lkA (M' 5) (M' 14) a)) 1 (upd (M' 1) a kind)) 2 (upd (M' 2) a price)) 5 (upd (M' 5) a 98)) a = false := by
              show (decide (upd (M' 5) a 98 a = 115) || decide (upd (M' 5) a 98 a = 114)) = false
              rw [upd_self9]
              decide
            have hsdz : ∀ z, z < a → sdB (sM (sM (sM (sM M' 14 (lkA (M' 5) (M' 14) a)) 1 (upd (M' 1) a kind)) 2 (upd (M' 2) a price)) 5 (upd (M' 5) a 98)) z = sdB M' z := fun z hz => by
              show (decide (upd (M' 5) a 98 z = 115) || decide (upd (M' 5) a 98 z = 114)) = _
              rw [h5 z (by omega)]
              rfl
            refine ⟨⟨r1.1, r1.2.1, r1.2.2⟩, ⟨?_, rfl, a60⟩, ⟨?_, ?_⟩, ⟨r4.1, r4.2.1, r4.2.2⟩, ?_, fun j hj => relO_K (r6 j hj) rfl rfl rfl rfl rfl rfl rfl, r7, r8, ?_, ?_, ?_, ?_, ?_, ?_, ?_, r11.2.2.2.2.2.1, ?_⟩
            · show nI a + 1 = nI (a + 1)
              exact nI_1 a
            · show nI (cb (M' 5) a) + 1 = nI (cb (upd (M' 5) a 98) (a + 1))
              rw [nI_1, ecb]
            · show cb (upd (M' 5) a 98) (a + 1) ≤ 7
              rw [ecb]
              omega
            · exact relB_put r5 n7 a60
            · intro c' hc' j hj
              obtain ⟨z, u1, u2, u3, u4⟩ := r9 c' hc' j hj
              refine ⟨z, u1, ?_, u3, u4⟩
              rcases (show c' = 0 ∨ c' = 1 ∨ c' = 2 ∨ c' = 3 by omega) with e9 | e9 | e9 | e9 <;> (subst e9; exact u2)
            · intro z hz
              by_cases ez : z = a
              · rw [ez]
                refine ⟨kd, pr, by omega, ?_, pr1, pr2, ?_, Or.inl ?_⟩
                · show upd (M' 1) a kind a = nI kd
                  rw [upd_self9, ekd]
                · show upd (M' 2) a price a = nI pr
                  rw [upd_self9, epr]
                · show upd (M' 5) a 98 a = 98
                  rw [upd_self9]
              · obtain ⟨k', p', q1, q2, q3, q4, q5, q6⟩ := r10 z (by omega)
                refine ⟨k', p', q1, ?_, q3, q4, ?_, ?_⟩
                · show upd (M' 1) a kind z = nI k'
                  rw [upd_ne9 ez, q2]
                · show upd (M' 2) a price z = nI p'
                  rw [upd_ne9 ez, q5]
                · show upd (M' 5) a 98 z = 98 ∨ upd (M' 5) a 98 z = 111 ∨ upd (M' 5) a 98 z = 115 ∨ upd (M' 5) a 98 z = 114
                  rw [h5 z ez]
                  exact q6
            · intro z hz
              obtain ⟨b1, b2, b3⟩ := r11.1 z hz
              show (M 26 z = 0 ↔ ¬ (z < a + 1 ∧ (upd (M' 5) a 98 z = 115 ∨ upd (M' 5) a 98 z = 114))) ∧ (M 27 z = 0 ↔ ¬ (z < a + 1 ∧ upd (M' 5) a 98 z = 114)) ∧ (z < a + 1 → (upd (M' 5) a 98 z = 115 ∨ upd (M' 5) a 98 z = 114) → M 28 z = M' 4 z ∧ M 29 z = M' 3 z ∧ ∃ w, w ≤ 9999 ∧ M' 3 z = nI w)
              by_cases ez : z = a
              · rw [ez, upd_self9]
                have z1 : M 26 a = 0 := by rw [← ez]; exact b1.mpr (fun h => by omega)
                have z2 : M 27 a = 0 := by rw [← ez]; exact b2.mpr (fun h => by omega)
                exact ⟨⟨fun _ hh => hh.2.elim (fun h => absurd h (by decide)) (fun h => absurd h (by decide)), fun _ => z1⟩, ⟨fun _ hh => absurd hh.2 (by decide), fun _ => z2⟩, fun _ hh => hh.elim (fun h => absurd h (by decide)) (fun h => absurd h (by decide))⟩
              · rw [h5 z ez]
                refine ⟨b1.trans ⟨fun hh g => hh ⟨by omega, g.2⟩, fun hh g => hh ⟨by omega, g.2⟩⟩, b2.trans ⟨fun hh g => hh ⟨by omega, g.2⟩, fun hh g => hh ⟨by omega, g.2⟩⟩, fun hz1 hh => b3 (by omega) hh⟩
            · show V 10 = _
              rw [r11.2.1]
              congr 1
              exact (sums _ _ (fun z hz => by rw [hsdz z hz]) (by rw [hsda]; rfl)).symm
            · show V 11 = _
              rw [r11.2.2.1]
              congr 1
              refine (sums _ _ (fun z hz => ?_) (by rw [hsda]; rfl)).symm
              rw [hsdz z hz]
              show (if sdB M' z = true then (upd (M' 2) a price z).toNatClampNeg else 0) = _
              rw [upd_ne9 (by omega)]
            · show V 12 = _
              rw [r11.2.2.2.1]
              congr 1
              exact (sums _ _ (fun z hz => by rw [hsdz z hz]; rfl) (by rw [hsda]; rfl)).symm
            · show V 13 = _
              rw [r11.2.2.2.2.1]
              congr 1
              refine (sums _ _ (fun z hz => ?_) ?_).symm
              · show (if upd (M' 5) a 98 z = 114 then (M' 3 z).toNatClampNeg else 0) = _
                rw [h5 z (by omega)]
              · show (if upd (M' 5) a 98 a = 114 then (M' 3 a).toNatClampNeg else 0) = 0
                rw [upd_self9, if_neg (by decide)]
            · rw [r11.2.2.2.2.2.2]
              congr 2
              · exact (sums _ _ (fun z hz => by rw [hsdz z hz]; rfl) (by rw [hsda]; rfl)).symm
              · refine (sums _ _ (fun z hz => ?_) ?_).symm
                · show (if upd (M' 5) a 98 z = 114 then (M' 3 z).toNatClampNeg else 0) = _
                  rw [h5 z (by omega)]
                · show (if upd (M' 5) a 98 a = 114 then (M' 3 a).toNatClampNeg else 0) = 0
                  rw [upd_self9, if_neg (by decide)]
theorem ib_spec {f : Nat → Int32} {x : Int32} (ha : a ≤ 60) : (ibM a f x = 0 ∧ ∀ z, z < a → x = nI z → ¬ f z = 98) ∨ (ibM a f x = 1 ∧ ∃ z, z < a ∧ x = nI z ∧ f z = 98) := by
  unfold ibM withinV
  by_cases c1 : x < 0
  · rw [if_pos c1, if_pos rfl]
    exact Or.inl ⟨rfl, fun z hz e => by rw [e] at c1; exact absurd c1 (nI_pos (by omega))⟩
  · rw [if_neg c1]
    obtain ⟨z, hz, ez⟩ := nI_of c1
    subst ez
    by_cases c2 : nI a - 1 < nI z
    · rw [if_pos c2, if_pos rfl]
      refine Or.inl ⟨rfl, fun z' hz' e => ?_⟩
      have e2 : z = z' := (nI_eq hz (by omega)).mp e
      rw [show (1 : Int32) = nI 1 from rfl, nI_sub (by omega), nI_ltI (by omega) hz] at c2
      omega
    · rw [if_neg c2, if_neg (by decide), nI_clamp hz]
      have hza : z < a := by
        rcases Nat.eq_zero_or_pos a with e | e
        · subst e
          exfalso
          refine c2 ?_
          rw [Int32.lt_iff_toInt_lt, nI_toInt hz]
          have : (nI 0 - 1).toInt = -1 := by decide
          rw [this]
          omega
        · rw [show (1 : Int32) = nI 1 from rfl, nI_sub e, nI_ltI (by omega) hz] at c2
          omega
      by_cases c3 : f z = 98
      · rw [if_pos c3]
        exact Or.inr ⟨rfl, z, hza, rfl, c3⟩
      · rw [if_neg c3]
        exact Or.inl ⟨rfl, fun z' hz' e => by rw [← (nI_eq hz (by omega)).mp e]; exact c3⟩
/-- whether an item is in the basket, and its place, by both sides -/
theorem pos_two (h : RX V M os V' M' t a o c) (x : Int32) : (ibM a (M' 5) x = 0 ∧ xpos M x (cb (M' 5) a) = some eNSE) ∨ (ibM a (M' 5) x = 1 ∧ xpos M x (cb (M' 5) a) = none ∧ ∃ z, z < a ∧ x = nI z ∧ M' 5 z = 98 ∧ posF (M 2) x 0 (cb (M' 5) a) = nI (cb (M' 5) z) ∧ cb (M' 5) z < cb (M' 5) a) := by
  have hn := h.1.2.2.1.2
  have ha := h.1.2.1.2.2
  rcases ib_spec (a := a) (f := M' 5) (x := x) ha with ⟨h0, -⟩ | ⟨h1, z, hz, e, h98⟩
  · refine Or.inl ⟨h0, ?_⟩
    unfold xpos
    rw [if_pos (pos_none h.1.2.2.2.2.1 hn ha h0)]
    rfl
  · refine Or.inr ⟨h1, ?_, z, hz, e, h98, ?_, cb_lt h98 hz⟩
    · unfold xpos
      rw [e, pos_eq h.1.2.2.2.2.1 hn ha hz h98, if_neg (nI_neg1 (by have := cb_lt h98 hz; omega))]
    · rw [e]
      exact pos_eq h.1.2.2.2.2.1 hn ha hz h98
theorem cl_take (h : RX V M os V' M' t a o c) (x : Int32) :
    (xpos M x (cb (M' 5) a) = none → (mtake a V' M' x).2.1 4 = 0 ∧ V 2 - 1 = (mtake a V' M' x).1 ∧ RX (sV (sV V 1 0) 2 (V 2 - 1)) (sM (sM (sM M 2 (shiftF (M 2) (posF (M 2) x 0 (cb (M' 5) a)).toNatClampNeg (cb (M' 5) a - ((posF (M 2) x 0 (cb (M' 5) a)).toNatClampNeg + 1)))) 3 (shiftF (M 3) (posF (M 2) x 0 (cb (M' 5) a)).toNatClampNeg (cb (M' 5) a - ((posF (M 2) x 0 (cb (M' 5) a)).toNatClampNeg + 1)))) 4 (shiftF (M 4) (posF (M 2) x 0 (cb (M' 5) a)).toNatClampNeg (cb (M' 5) a - ((posF (M 2) x 0 (cb (M' 5) a)).toNatClampNeg + 1)))) os (mtake a V' M' x).2.1 (mtake a V' M' x).2.2 t a o c) ∧
    ∀ E, xpos M x (cb (M' 5) a) = some E → (E = eNSE ∧ (mtake a V' M' x).2.1 4 = 1) ∧ RX V M os (mtake a V' M' x).2.1 (mtake a V' M' x).2.2 t a o c := by
  obtain ⟨hV3, hV0', ha⟩ := h.1.2.1
  obtain ⟨hV2, hn⟩ := h.1.2.2.1
  rcases pos_two h x with ⟨h0, hx⟩ | ⟨h1, hx, z, hz, e, h98, hp, hlt⟩
  · rw [hx]
    refine ⟨fun h0 => (nomatch h0), fun E hE => ?_⟩
    cases hE
    have em : mtake a V' M' x = (0, (sV V' 4 1, M')) := if_pos h0
    rw [em]
    exact ⟨⟨rfl, rfl⟩, RX_V h 1⟩
  · rw [hx]
    refine ⟨fun _ => ?_, fun E hE => by cases hE⟩
    have em : mtake a V' M' x = (nI (cb (upd (M' 5) z 111) a), (sV (sV (sV V' 4 0) 7 0) 5 (nI (cb (upd (M' 5) z 111) a)), sM (sM M' 5 (upd (M' 5) z 111)) 14 (lkA (upd (M' 5) z 111) (M' 14) a))) := by
      unfold mtake
      rw [if_neg (by rw [h1]; decide), e, nI_clamp (by omega)]
    have ecb : cb (upd (M' 5) z 111) a = cb (M' 5) a - 1 := by rw [cb_take h98, if_neg (by omega)]
    have h5 : ∀ y, y ≠ z → upd (M' 5) z 111 y = M' 5 y := fun y hy => upd_ne9 hy
    rw [em, hp, nI_clamp (by omega), hV2, show (1 : Int32) = nI 1 from rfl, nI_sub (by omega), ecb]
    refine ⟨rfl, rfl, RX_0 ?_ rfl rfl⟩
    obtain ⟨r1, r2, r3, r4, r5, r6, r7, r8, r9, r10, r11⟩ := h.1
    have hsd : ∀ y, sdX (sM (sM M' 5 (upd (M' 5) z 111)) 14 (lkA (upd (M' 5) z 111) (M' 14) a)) y ↔ sdX M' y := fun y => by
      show (upd (M' 5) z 111 y = 115 ∨ upd (M' 5) z 111 y = 114) ↔ (M' 5 y = 115 ∨ M' 5 y = 114)
      by_cases ey : y = z
      · rw [ey, upd_self9, h98]
        decide
      · rw [h5 y ey]
    have hsb : ∀ y, sdB (sM (sM M' 5 (upd (M' 5) z 111)) 14 (lkA (upd (M' 5) z 111) (M' 14) a)) y = sdB M' y := fun y => by
      by_cases e : sdB M' y = true
      · rw [e]; exact sdB_iff.mpr ((hsd y).mpr (sdB_iff.mp e))
      · cases hb : sdB (sM (sM M' 5 (upd (M' 5) z 111)) 14 (lkA (upd (M' 5) z 111) (M' 14) a)) y
        · cases hb2 : sdB M' y
          · rfl
          · exact absurd hb2 e
        · exact absurd (sdB_iff.mpr ((hsd y).mp (sdB_iff.mp hb))) e
    have h114 : ∀ y, upd (M' 5) z 111 y = 114 ↔ M' 5 y = 114 := fun y => by
      by_cases ey : y = z
      · rw [ey, upd_self9, h98]
        decide
      · rw [h5 y ey]
    have eg : gS (sM (sM M' 5 (upd (M' 5) z 111)) 14 (lkA (upd (M' 5) z 111) (M' 14) a)) a = gS M' a := sm_eq (fun y _ => by
      show (if upd (M' 5) z 111 y = 114 then (M' 3 y).toNatClampNeg else 0) = _
      by_cases e : M' 5 y = 114
      · rw [if_pos ((h114 y).mpr e), if_pos e]
      · rw [if_neg (fun h => e ((h114 y).mp h)), if_neg e])
    have ee : eS (sM (sM M' 5 (upd (M' 5) z 111)) 14 (lkA (upd (M' 5) z 111) (M' 14) a)) a = eS M' a := sm_eq (fun y _ => by rw [hsb y]; rfl)
    refine ⟨⟨r1.1, r1.2.1, r1.2.2⟩, ⟨r2.1, r2.2.1, ha⟩, ⟨?_, ?_⟩, ⟨r4.1, r4.2.1, r4.2.2⟩, relB_take r5 hn hz h98, fun j hj => relO_K (r6 j hj) rfl rfl rfl rfl rfl rfl rfl, r7, r8, ?_, ?_, ?_, ?_, ?_, ?_, ?_, r11.2.2.2.2.2.1, ?_⟩
    · show nI (cb (M' 5) a - 1) = nI (cb (upd (M' 5) z 111) a)
      rw [ecb]
    · show cb (upd (M' 5) z 111) a ≤ 7
      rw [ecb]
      omega
    · intro c' hc' j hj
      obtain ⟨w, u1, u2, u3, u4⟩ := r9 c' hc' j hj
      refine ⟨w, u1, ?_, u3, u4⟩
      rcases (show c' = 0 ∨ c' = 1 ∨ c' = 2 ∨ c' = 3 by omega) with e9 | e9 | e9 | e9 <;> (subst e9; exact u2)
    · intro y hy
      obtain ⟨k', p', q1, q2, q3, q4, q5, q6⟩ := r10 y hy
      refine ⟨k', p', q1, q2, q3, q4, q5, ?_⟩
      show upd (M' 5) z 111 y = 98 ∨ upd (M' 5) z 111 y = 111 ∨ upd (M' 5) z 111 y = 115 ∨ upd (M' 5) z 111 y = 114
      by_cases ey : y = z
      · rw [ey, upd_self9]
        exact Or.inr (Or.inl rfl)
      · rw [h5 y ey]
        exact q6
    · intro y hy
      obtain ⟨b1, b2, b3⟩ := r11.1 y hy
      rw [hsd y]
      refine ⟨b1, ?_, b3⟩
      show M 27 y = 0 ↔ ¬ (y < a ∧ upd (M' 5) z 111 y = 114)
      rw [h114 y]
      exact b2
    · show V 10 = _
      rw [r11.2.1]
      congr 1
      exact (sm_eq (fun y _ => by rw [hsb y])).symm
    · show V 11 = _
      rw [r11.2.2.1]
      congr 1
      exact (sm_eq (fun y _ => by rw [hsb y]; rfl)).symm
    · show V 12 = _
      rw [r11.2.2.2.1, ee]
    · show V 13 = _
      rw [r11.2.2.2.2.1, eg]
    · rw [ee, eg]
      exact r11.2.2.2.2.2.2
theorem cl_cust (h : RX V M os V' M' t a o c) (x : Int32) :
    (xcust x = none → (mcust V' M' x).2.1 4 = 0 ∧ V 0 = (mcust V' M' x).1 ∧ ∃ c', RX (sV (sV V 1 0) 0 x) M os (mcust V' M' x).2.1 (mcust V' M' x).2.2 t a o c') ∧
    ∀ E, xcust x = some E → (E = eIAE ∧ (mcust V' M' x).2.1 4 = 1) ∧ RX V M os (mcust V' M' x).2.1 (mcust V' M' x).2.2 t a o c := by
  unfold xcust
  by_cases c1 : withinV x 0 3 = 0
  · have em : mcust V' M' x = (0, (sV V' 4 1, M')) := if_pos c1
    rw [if_pos c1, em]
    exact ⟨fun h0 => (nomatch h0), fun E hE => by cases hE; exact ⟨⟨rfl, rfl⟩, RX_V h 1⟩⟩
  · have em : mcust V' M' x = (V' 1, (sV (sV (sV V' 4 0) 1 x) 7 0, M')) := if_neg c1
    obtain ⟨c', -, hc', ex⟩ := wi_nat (lo := 0) (hi := 3) (by decide) (by decide) ((wi_01 x 0 3).resolve_left c1)
    rw [if_neg c1, em]
    refine ⟨fun _ => ⟨rfl, h.1.1.1.trans h.1.1.2.1.symm, c', RX_0 ?_ rfl rfl⟩, fun E hE => by cases hE⟩
    obtain ⟨r1, r2, r3, r4, r5, r6, r7, r8, r9, r10, r11⟩ := h.1
    exact ⟨⟨ex, ex, by omega⟩, r2, r3, r4, r5, r6, r7, r8, r9, r10, r11⟩
end PUT
