/-! THRESHOLDS, as the class lays them: bits, the order by amount, what is taken. -/
theorem bx_not {m F : Nat} (hm : m < 128) (hF : F < 128) : (nI m &&& (nI F ^^^ -1) = 0) ↔ ∀ k, k < 7 → m.testBit k = true → F.testBit k = true :=
  (show ∀ m, m < 128 → ∀ F, F < 128 → ((nI m &&& (nI F ^^^ -1) = 0) ↔ ∀ k, k < 7 → m.testBit k = true → F.testBit k = true) by decide +kernel) m hm F hF
theorem bx_cut {m F : Nat} (hm : m < 128) (hF : F < 128) : nI F &&& (nI m ^^^ -1) = nI (F &&& (m ^^^ 127)) :=
  (show ∀ m, m < 128 → ∀ F, F < 128 → nI F &&& (nI m ^^^ -1) = nI (F &&& (m ^^^ 127)) by decide +kernel) m hm F hF
theorem bx_cutb {m F k : Nat} (hm : m < 128) (hk : k < 7) : (F &&& (m ^^^ 127)).testBit k = (F.testBit k && !m.testBit k) := by
  rw [Nat.testBit_and, Nat.testBit_xor]
  have h : (127 : Nat).testBit k = true := (show ∀ k, k < 7 → (127 : Nat).testBit k = true by decide) k hk
  rw [h, Bool.xor_true]
theorem bx_bit {p : Nat} (hp : p < 7) : bitF (nI p) = nI (2 ^ (6 - p)) := (show ∀ p, p < 7 → bitF (nI p) = nI (2 ^ (6 - p)) by decide +kernel) p hp
theorem bx_in {m k : Nat} (hm : m < 128) (hk : k < 7) : isInV (nI m) (nI k) = if m.testBit (6 - k) = true then 1 else 0 :=
  (show ∀ m, m < 128 → ∀ k, k < 7 → isInV (nI m) (nI k) = if m.testBit (6 - k) = true then 1 else 0 by decide +kernel) m hm k hk
theorem bx_or {a j : Nat} (ha : a < 64) (hj : j < 6) : nI a ||| (1 <<< (nI j &&& 31)) = nI (a ||| 2 ^ j) :=
  (show ∀ a, a < 64 → ∀ j, j < 6 → nI a ||| (1 <<< (nI j &&& 31)) = nI (a ||| 2 ^ j) by decide +kernel) a ha j hj
theorem bx_orlt {a j : Nat} (ha : a < 64) (hj : j < 6) : a ||| 2 ^ j < 64 := (show ∀ a, a < 64 → ∀ j, j < 6 → a ||| 2 ^ j < 64 by decide +kernel) a ha j hj
theorem bx_orb (a j i : Nat) : (a ||| 2 ^ j).testBit i = (a.testBit i || decide (j = i)) := by
  rw [Nat.testBit_or, Nat.testBit_two_pow]
theorem bx_and {a b : Nat} (ha : a < 64) (hb : b < 64) : (nI a &&& nI b = 0) ↔ ∀ i, i < 6 → b.testBit i = true → a.testBit i = false :=
  (show ∀ a, a < 64 → ∀ b, b < 64 → ((nI a &&& nI b = 0) ↔ ∀ i, i < 6 → b.testBit i = true → a.testBit i = false) by decide +kernel) a ha b hb
theorem bx_has {a j : Nat} (ha : a < 64) (hj : j < 6) : (nI a &&& (1 <<< (nI j &&& 31)) = 0) ↔ a.testBit j = false :=
  (show ∀ a, a < 64 → ∀ j, j < 6 → ((nI a &&& (1 <<< (nI j &&& 31)) = 0) ↔ a.testBit j = false) by decide +kernel) a ha j hj
theorem nI_sublt {a b t : Nat} (ha : a < 2 ^ 20) (hb : b < 2 ^ 20) (ht : t < 2 ^ 20) : nI a - nI b < nI t ↔ a < t + b := by
  rw [Int32.lt_iff_toInt_lt, Int32.toInt_sub, nI_toInt (by omega), nI_toInt (by omega), nI_toInt (by omega), Int.bmod_eq_of_le (by omega) (by omega)]
  omega
theorem nI_le0 {a : Nat} (ha : a < 2 ^ 31) : nI a ≤ 0 ↔ a = 0 := by
  rw [← nI_0, nI_leI ha (by decide)]
  omega
theorem nI_sub {a b : Nat} (h : b ≤ a) : nI a - nI b = nI (a - b) := by
  have e : nI (a - b) + nI b = nI a := by rw [nI_add, Nat.sub_add_cancel h]
  rw [← e, Int32.add_sub_cancel]
/-- the class's arrays of offers, as q has them -/
def thC (q : tq) (V : Nat → Int32) (M : Nat → Nat → Int32) : Prop :=
  V 8 = nI (qsum q) ∧ qsum q < 2 ^ 20 ∧ (∀ j, j < 6 → ∃ R, R < 64 ∧ M 7 j = nI R ∧ ∀ i, i < 6 → R.testBit i = qrv q i j) ∧
  (∀ j, j < 6 → qT q j = true → M 8 j = nI (qth q j) ∧ 0 < qth q j ∧ qth q j < 2 ^ 19) ∧ (∀ j, j < 6 → qT q j = false → M 8 j ≤ 0) ∧
  (∀ j, j < 6 → M 9 j = nI (qam q j) ∧ qam q j < 2 ^ 16 ∧ (qT q j = false → qam q j = 0)) ∧
  ∃ od : Nat → Nat, (∀ i, i < 6 → od i < 6 ∧ M 18 i = nI (od i)) ∧ (∀ j, j < 6 → ∃ i, i < 6 ∧ od i = j) ∧ (∀ i k, i < k → k < 6 → bt q (od i) (od k) = true)
theorem allow_iff {q : tq} {V : Nat → Int32} {M : Nat → Nat → Int32} (h : thC q V M) {j T D l : Nat} (hj : j < 6) (hT : T < 64) (hD : D < 2 ^ 20) (hl : M 17 j = nI l) (hl2 : l < 2 ^ 20) (hl3 : qT q j = true → l = qL q j) :
    allowsV V M (nI j) (nI T) (nI D) = 0 ↔ ¬ (qT q j = true ∧ 0 < qL q j ∧ qth q j + D ≤ qsum q ∧ ∀ i, i < 6 → T.testBit i = true → qrv q i j = false) := by
  obtain ⟨h8, hs, h7, h8t, h8f, -, -⟩ := h
  obtain ⟨R, hR, e7, hRb⟩ := h7 j hj
  unfold allowsV reachV
  rw [atF_nI hj (by decide), atF_nI hj (by decide), atF_nI hj (by decide), hl, e7, h8]
  cases eT : qT q j
  · have := h8f j hj eT
    rw [if_pos this]
    constructor
    · intro _ ⟨h1, _⟩
      cases h1
    · intro _
      split
      · rfl
      · split <;> rfl
  · obtain ⟨e8, t0, t1⟩ := h8t j hj eT
    rw [e8, ← hl3 eT]
    by_cases e1 : nI l ≤ 0
    · rw [if_pos e1]
      have := (nI_le0 (by omega)).mp e1
      exact ⟨fun _ ⟨_, h2, _⟩ => by omega, fun _ => rfl⟩
    · rw [if_neg e1]
      have hl0 : 0 < l := by
        rcases Nat.eq_zero_or_pos l with e | e
        · exact absurd ((nI_le0 (by omega)).mpr e) e1
        · exact e
      by_cases e2 : nI R &&& nI T = 0
      · rw [if_pos e2, if_neg (nI_nle t0 (by omega))]
        have e2' := (bx_and hR hT).mp e2
        by_cases e3 : nI (qsum q) - nI D < nI (qth q j)
        · rw [if_pos e3, if_pos rfl]
          have := (nI_sublt hs hD (by omega)).mp e3
          exact ⟨fun _ ⟨_, _, h3, _⟩ => by omega, fun _ => rfl⟩
        · rw [if_neg e3, if_neg (by decide)]
          have e3' := mt (nI_sublt hs hD (by omega)).mpr e3
          exact ⟨fun h => absurd h (by decide), fun h => absurd ⟨rfl, hl0, by omega, fun i hi hb => (hRb i hi).symm.trans (e2' i hi hb)⟩ h⟩
      · rw [if_neg e2]
        refine ⟨fun _ ⟨_, _, _, h4⟩ => e2 ((bx_and hR hT).mpr fun i hi hb => (hRb i hi).trans (h4 i hi hb)), fun _ => rfl⟩
/-- a node's numbers of the class -/
def ndC (q : tq) (acc : List us3) (M : Nat → Nat → Int32) : Prop := (∀ j, j < 6 → uC acc j ≤ qL q j ∧ M 17 j = nI (qL q j - uC acc j)) ∧ (∀ j, j < 6 → qL q j ≤ 9) ∧ uD acc < 2 ^ 19 ∧ (∀ j, j < 6 → uO acc j = true → qT q j = false) ∧ (∀ j, j < 6 → qT q j = true → uC acc j = 0)
theorem with_spec {q : tq} (hq : qOK q) {V : Nat → Int32} {M : Nat → Nat → Int32} (h : thC q V M) {acc : List us3} (hn : ndC q acc M) {T : Nat} (hT : T < 64) (hTb : ∀ j, j < 6 → T.testBit j = uO acc j) :
    ∃ a, a < 64 ∧ withF V M (nI T) (nI (uD acc)) 6 = nI a ∧ ∀ j, j < 6 → (a.testBit j = true ↔ uO acc j = true ∨ sel q acc j = true) := by
  have h0 := h
  obtain ⟨-, -, -, -, -, -, od, hod, hsur, hsrt⟩ := h
  obtain ⟨n1, n2, n3, n4, n5⟩ := hn
  have hb0 : ∀ i, i < 6 → ∀ k, k < 6 → bt q (od i) (od k) = true → i < k := fun i hi k hk hb => by
    rcases Nat.lt_trichotomy i k with h1 | h1 | h1
    · exact h1
    · subst h1
      rw [bt_iff] at hb
      omega
    · have hb2 := hsrt k i h1 hi
      rw [bt_iff] at hb hb2
      omega
  have hinj : ∀ i, i < 6 → ∀ k, k < 6 → od i = od k → i = k := fun i hi k hk e => by
    rcases Nat.lt_trichotomy i k with h1 | h1 | h1
    · have hb := hsrt i k h1 hk
      rw [e, bt_iff] at hb
      omega
    · exact h1
    · have hb := hsrt k i h1 hi
      rw [e, bt_iff] at hb
      omega
  have key : ∀ k, k ≤ 6 → ∃ a, a < 64 ∧ withF V M (nI T) (nI (uD acc)) k = nI a ∧ ∀ j, j < 6 → (a.testBit j = true ↔ uO acc j = true ∨ (sel q acc j = true ∧ ∃ i, i < k ∧ od i = j)) := by
    intro k
    induction k with
    | zero =>
      intro _
      refine ⟨T, hT, rfl, fun j hj => ?_⟩
      rw [hTb j hj]
      exact ⟨Or.inl, fun h => h.elim id fun ⟨_, i, hi, _⟩ => absurd hi (Nat.not_lt_zero _)⟩
    | succ k ih =>
      intro hk
      obtain ⟨a, ha, ea, hab⟩ := ih (by omega)
      obtain ⟨ho6, e18⟩ := hod k (by omega)
      have es : withF V M (nI T) (nI (uD acc)) (k + 1) = withS V M (nI (uD acc)) k (withF V M (nI T) (nI (uD acc)) k) := rfl
      have hal := allow_iff h0 (j := od k) (T := a) (D := uD acc) (l := qL q (od k) - uC acc (od k)) ho6 ha (by omega) (n1 _ ho6).2 (by have := n2 _ ho6; omega) (fun e => by rw [n5 _ ho6 e, Nat.sub_zero])
      have hsel : (qT q (od k) = true ∧ 0 < qL q (od k) ∧ qth q (od k) + uD acc ≤ qsum q ∧ ∀ i, i < 6 → a.testBit i = true → qrv q i (od k) = false) ↔ sel q acc (od k) = true := by
        rw [sel_iff, can_iff]
        constructor
        · rintro ⟨h1, h2, h3, h4⟩
          have hc : can q acc (od k) = true := can_iff.mpr ⟨h1, h2, h3, fun i hi ho => h4 i hi ((hab i hi).mpr (Or.inl ho))⟩
          refine ⟨⟨h1, h2, h3, fun i hi ho => h4 i hi ((hab i hi).mpr (Or.inl ho))⟩, fun i hi hr hci => ?_⟩
          by_cases hb : bt q (od k) i = true
          · exact hb
          · exfalso
            have hne : i ≠ od k := fun e => by rw [e, hq.2.1] at hr; cases hr
            obtain ⟨i', hi', g1, g2, g3⟩ := champ hq (rnk q i) i (Nat.le_refl _) hi hci
            obtain ⟨z, hz, ez⟩ := hsur i' hi'
            have hr2 : i' = od k ∨ qrv q i' (od k) = true := by
              rcases g1 with rfl | g1
              · exact Or.inr hr
              · by_cases e3 : i' = od k
                · exact Or.inl e3
                · exact Or.inr (hq.2.2 i i' (od k) (hq.1 _ _ g1) hr e3)
            have hbi : bt q i (od k) = true := bt_total hne hb
            have hbe : bt q i' (od k) = true := by
              by_cases e3 : i' = i
              · rw [e3]; exact hbi
              · have hri : qrv q i' i = true := by
                  rcases g1 with e4 | g1
                  · exact absurd e4 e3
                  · exact g1
                have hb3 := (sel_iff.mp g2).2 i hi (hq.1 _ _ hri) hci
                rw [bt_iff] at hb3 hbi ⊢
                omega
            have hzk : z < k := hb0 z hz k (by omega) (by rw [ez]; exact hbe)
            have hne2 : i' ≠ od k := fun e => by rw [e, bt_iff] at hbe; omega
            have h5 := h4 i' hi' ((hab i' hi').mpr (Or.inr ⟨g2, z, hzk, ez⟩))
            rcases hr2 with e | e
            · exact hne2 e
            · rw [h5] at e; cases e
        · rintro ⟨⟨h1, h2, h3, h4⟩, h5⟩
          refine ⟨h1, h2, h3, fun i hi hb => ?_⟩
          rcases (hab i hi).mp hb with h6 | ⟨h6, -⟩
          · exact h4 i hi h6
          · cases e : qrv q i (od k)
            · rfl
            · exact (sel_apart hi ho6 hq h6 (sel_iff.mpr ⟨can_iff.mpr ⟨h1, h2, h3, h4⟩, h5⟩) e).elim
      rw [es, ea]
      unfold withS
      rw [atF_nI (by omega) (by decide), e18]
      by_cases e : allowsV V M (nI (od k)) (nI a) (nI (uD acc)) = 0
      · rw [if_pos e]
        have hns : ¬ sel q acc (od k) = true := fun hs => (hal.mp e) (hsel.mpr hs)
        refine ⟨a, ha, rfl, fun j hj => (hab j hj).trans ⟨fun h => h.elim Or.inl fun ⟨g1, i, g2, g3⟩ => Or.inr ⟨g1, i, by omega, g3⟩, fun h => h.elim Or.inl fun ⟨g1, i, g2, g3⟩ => Or.inr ⟨g1, i, ?_, g3⟩⟩⟩
        by_cases e4 : i = k
        · rw [← g3, e4] at g1
          exact absurd g1 hns
        · omega
      · rw [if_neg e, bx_or ha ho6]
        have hs : sel q acc (od k) = true := hsel.mp (Classical.not_not.mp fun hn => e (hal.mpr hn))
        refine ⟨a ||| 2 ^ od k, bx_orlt ha ho6, rfl, fun j hj => ?_⟩
        rw [bx_orb, Bool.or_eq_true, decide_eq_true_eq, hab j hj]
        constructor
        · rintro ((h | ⟨g1, i, g2, g3⟩) | h)
          · exact Or.inl h
          · exact Or.inr ⟨g1, i, by omega, g3⟩
          · exact Or.inr ⟨h ▸ hs, k, by omega, h⟩
        · rintro (h | ⟨g1, i, g2, g3⟩)
          · exact Or.inl (Or.inl h)
          · by_cases e4 : i = k
            · rw [e4] at g3
              exact Or.inr g3
            · exact Or.inl (Or.inr ⟨g1, i, by omega, g3⟩)
  obtain ⟨a, ha, ea, hab⟩ := key 6 (Nat.le_refl _)
  refine ⟨a, ha, ea, fun j hj => (hab j hj).trans ⟨fun h => h.elim Or.inl fun h => Or.inr h.1, fun h => h.elim Or.inl fun h => Or.inr ⟨h, hsur j hj⟩⟩⟩
theorem amt_spec0 {q : tq} {M : Nat → Nat → Int32} (h9 : ∀ j, j < 6 → M 9 j = nI (qam q j) ∧ qam q j < 2 ^ 16 ∧ (qT q j = false → qam q j = 0)) {acc : List us3} (hn : ∀ j, j < 6 → uO acc j = true → qT q j = false) {a : Nat} (ha : a < 64) (hb : ∀ j, j < 6 → (a.testBit j = true ↔ uO acc j = true ∨ sel q acc j = true)) :
    amtF (M 9) (nI a) 6 = nI (thr q acc) := by
  have key : ∀ k, k ≤ 6 → amtF (M 9) (nI a) k = nI (sm (fun j => if sel q acc j = true then qam q j else 0) k) := by
    intro k
    induction k with
    | zero => intro _; rfl
    | succ k ih =>
      intro hk
      have es : amtF (M 9) (nI a) (k + 1) = amtS (M 9) (nI a) k (amtF (M 9) (nI a) k) := rfl
      rw [es, ih (by omega), sm]
      unfold amtS
      obtain ⟨e9, -, e0⟩ := h9 k (by omega)
      rw [atF_nI (by omega) (by decide), e9]
      by_cases e : a.testBit k = true
      · have hne : ¬ nI a &&& (1 <<< (nI k &&& 31)) = 0 := fun h => by
          have := (bx_has ha (by omega)).mp h
          rw [e] at this; cases this
        rw [if_neg hne, nI_add]
        by_cases e2 : sel q acc k = true
        · rw [if_pos e2]
        · rw [if_neg e2]
          rcases (hb k (by omega)).mp e with h1 | h1
          · rw [e0 (hn k (by omega) h1)]
          · exact absurd h1 e2
      · have hz : nI a &&& (1 <<< (nI k &&& 31)) = 0 := (bx_has ha (by omega)).mpr (by cases h : a.testBit k; rfl; exact absurd h e)
        rw [if_pos hz, if_neg (fun h2 => e ((hb k (by omega)).mpr (Or.inr h2)))]
        rfl
  exact key 6 (Nat.le_refl _)
theorem amt_spec {q : tq} {V : Nat → Int32} {M : Nat → Nat → Int32} (h : thC q V M) {acc : List us3} (hn : ∀ j, j < 6 → uO acc j = true → qT q j = false) {a : Nat} (ha : a < 64) (hb : ∀ j, j < 6 → (a.testBit j = true ↔ uO acc j = true ∨ sel q acc j = true)) : amtF (M 9) (nI a) 6 = nI (thr q acc) := amt_spec0 h.2.2.2.2.2.1 hn ha hb
theorem thr_lt {q : tq} {V : Nat → Int32} {M : Nat → Nat → Int32} (h : thC q V M) (acc : List us3) : thr q acc < 2 ^ 19 := by
  obtain ⟨-, -, -, -, -, h9, -⟩ := h
  have : thr q acc ≤ sm (fun _ => 65535) 6 := sm_le (fun j hj => by
    have := (h9 j hj).2.1
    split <;> omega)
  have e : sm (fun _ => 65535) 6 = 393210 := rfl
  omega
