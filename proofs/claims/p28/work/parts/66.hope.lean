/-! THE MODEL'S HOPES, and its search from its start. -/
theorem fiL_20 (M : Nat → Nat → Int32) (h : Nat → Int32) (n j : Nat) (set : Int32) : ∀ k i, fiL (sM M 20 h) n j set i k = fiL M n j set i k
  | 0, _ => rfl
  | k + 1, i => by
    have e1 : cnM (sM M 20 h) set (nI i) n = cnM M set (nI i) n := itr_ext (fun _ _ => rfl) n 0
    have e2 : wtM (sM M 20 h) j (nI i) = wtM M j (nI i) := rfl
    rw [fiL, fiL, e1, e2, fiL_20 M h n j set k (i + 1)]
theorem diM_20 (M : Nat → Nat → Int32) (h : Nat → Int32) (n j : Nat) (set : Int32) : diM (sM M 20 h) n j set = diM M n j set := by
  have e1 : dsM (sM M 20 h) set n = dsM M set n := itr_ext (fun _ _ => rfl) n 0
  have e2 : dcM (sM M 20 h) set n = dcM M set n := itr_ext (fun _ _ => rfl) n 9999
  unfold diM
  rw [e1, e2]
  rfl
theorem goM_20 (M : Nat → Nat → Int32) (h : Nat → Int32) (n j : Nat) (set : Int32) : goM (sM M 20 h) n j set = goM M n j set := by
  have e1 : szM (sM M 20 h) j = szM M j := rfl
  unfold goM fiM
  rw [fiL_20, diM_20, e1]
  rfl
theorem usA_20 (q : tq) (n o : Nat) (sz : Nat → Nat) (M : Nat → Nat → Int32) (h : Nat → Int32) (p : Nat) : usA3 q n o sz (sM M 20 h) p = usA3 q n o sz M p := by
  have e : ∀ j, mkU (sM M 20 h) n j = mkU M n j := fun j => funext fun m => by
    unfold mkU
    rw [goM_20, diM_20]
  have e2 : usj q n sz (sM M 20 h) p = usj q n sz M p := funext fun j => by
    unfold usj
    rw [e j]
  unfold usA3
  rw [e2]
theorem set_nat {p r : Nat} (hp : p < 7) (hr : r < 2 ^ (6 - p)) : setM p r = nI (2 ^ p + r * 2 ^ (p + 1)) ∧ 2 ^ p + r * 2 ^ (p + 1) < 128 :=
  (show ∀ p, p < 7 → ∀ r, r < 2 ^ (6 - p) → setM p r = nI (2 ^ p + r * 2 ^ (p + 1)) ∧ 2 ^ p + r * 2 ^ (p + 1) < 128 by decide +kernel) p hp r hr
theorem set_of0 : chk3 (fun n p z => !decide (p < n) || (ml n p z).all (fun m => decide (rv7 m / 2 ^ (p + 1) < 2 ^ (n - (p + 1))) && decide (rv7 m = 2 ^ p + rv7 m / 2 ^ (p + 1) * 2 ^ (p + 1)))) = true := by decide +kernel
theorem set_of {n p sz m : Nat} (hn : n ≤ 7) (hp : p < n) (hs : sz ≤ 7) (h : m ∈ ml n p sz) : rv7 m / 2 ^ (p + 1) < 2 ^ (n - (p + 1)) ∧ rv7 m = 2 ^ p + rv7 m / 2 ^ (p + 1) * 2 ^ (p + 1) := by
  have h0 := chk3_of set_of0 (n := n) (p := p) (z := sz) (by omega) (by omega) (by omega)
  rw [decide_eq_true hp] at h0
  have h1 : (ml n p sz).all (fun m => decide (rv7 m / 2 ^ (p + 1) < 2 ^ (n - (p + 1))) && decide (rv7 m = 2 ^ p + rv7 m / 2 ^ (p + 1) * 2 ^ (p + 1))) = true := by simpa using h0
  have h2 := List.all_eq_true.mp h1 m h
  simp only [Bool.and_eq_true, decide_eq_true_eq] at h2
  exact h2
/-- what the two sides agree on before a search (the model's arrays: M0) -/
def bsH (q : tq) (n o c : Nat) (sz : Nat → Nat) (M0 : Nat → Nat → Int32) (os : Nat → ofr) : Prop :=
  n ≤ 7 ∧ o ≤ 6 ∧ BK M0 n ∧ (∀ j, j < o → relO (os j) M0 j) ∧ (∀ j, j < o → lfM c M0 j = nI (qL q j)) ∧ (∀ j, j < o → qL q j ≤ 9) ∧ (∀ j, j < o → (M0 6 j = 116 ↔ qT q j = true)) ∧ (∀ j, j < o → qT q j = false → szM M0 j = nI (sz j) ∧ 1 ≤ sz j ∧ sz j ≤ 5)
theorem mx_nat {a b : Nat} (ha : a < 2 ^ 31) (hb : b < 2 ^ 31) : mxF (nI a) (nI b) = nI (if a < b then b else a) := by
  unfold mxF
  by_cases e : a < b
  · rw [if_pos e, if_pos (nI_lt e hb)]
  · rw [if_neg e, if_neg (nI_nlt (by omega) ha)]
theorem msO_spec {q : tq} {n o c : Nat} {sz : Nat → Nat} {M0 : Nat → Nat → Int32} {os : Nat → ofr} (hH : bsH q n o c sz M0 os) (h : Nat → Int32) {X : Nat} (hX : X < 128) {a : Nat} (ha : a ≤ 70000) :
    ∀ j, j ≤ o → ∃ z, z ≤ 70000 ∧ a ≤ z ∧ msO c n (sM M0 20 h) (nI X) (nI a) j = nI z ∧ ∀ i, i < j → qT q i = false → ¬ qL q i = 0 → ¬ goM M0 n i (nI X) = 0 → (diM M0 n i (nI X)).toNatClampNeg ≤ z
  | 0, _ => ⟨a, ha, Nat.le_refl _, rfl, fun i hi => absurd hi (Nat.not_lt_zero _)⟩
  | j + 1, hj => by
    obtain ⟨z, z1, z2, z3, z4⟩ := msO_spec hH h hX ha j (by omega)
    obtain ⟨hn, ho, hb, hr, hL, hL9, hT, hsz⟩ := hH
    have hLj := hL9 j (by omega)
    have es : msO c n (sM M0 20 h) (nI X) (nI a) (j + 1) = msS c n (sM M0 20 h) (nI X) j (msO c n (sM M0 20 h) (nI X) (nI a) j) := rfl
    have e6 : (sM M0 20 h) 6 j = M0 6 j := rfl
    have el : lfM c (sM M0 20 h) j = lfM c M0 j := by
      unfold lfM
      rw [sM_ne (show Nat.beq 11 20 = false from rfl), sM_ne (show Nat.beq (c + 26) 20 = false from rfl)]
    rw [es, z3]
    unfold msS
    rw [e6, el, hL j (by omega), goM_20, diM_20]
    have keep : ∀ y, z ≤ y → (qT q j = false → ¬ qL q j = 0 → ¬ goM M0 n j (nI X) = 0 → (diM M0 n j (nI X)).toNatClampNeg ≤ y) → ∀ i, i < j + 1 → qT q i = false → ¬ qL q i = 0 → ¬ goM M0 n i (nI X) = 0 → (diM M0 n i (nI X)).toNatClampNeg ≤ y := fun y hy hg i hi a1 a2 a3 => by
      by_cases e : i = j
      · rw [e] at a1 a2 a3 ⊢
        exact hg a1 a2 a3
      · exact Nat.le_trans (z4 i (by omega) a1 a2 a3) hy
    by_cases e1 : M0 6 j = 116
    · rw [if_pos e1]
      exact ⟨z, z1, z2, rfl, keep z (Nat.le_refl _) fun h1 => by rw [(hT j (by omega)).mp e1] at h1; cases h1⟩
    · rw [if_neg e1]
      by_cases e2 : nI (qL q j) ≤ 0
      · rw [if_pos e2]
        exact ⟨z, z1, z2, rfl, keep z (Nat.le_refl _) fun _ h2 => absurd ((nI_le0 (by omega)).mp e2) h2⟩
      · rw [if_neg e2]
        by_cases e3 : goM M0 n j (nI X) = 0
        · rw [if_pos e3]
          exact ⟨z, z1, z2, rfl, keep z (Nat.le_refl _) fun _ _ h3 => absurd e3 h3⟩
        · rw [if_neg e3]
          obtain ⟨d, hd, ed⟩ := di_ge hn hb (hr j (by omega)) hX e1 e3
          rw [ed, mx_nat (by omega) (by omega)]
          refine ⟨if z < d then d else z, by split <;> omega, by split <;> omega, rfl, keep _ (by split <;> omega) fun _ _ _ => ?_⟩
          rw [ed, nI_clamp (by omega)]
          split <;> omega
theorem msP_spec {q : tq} {n o c : Nat} {sz : Nat → Nat} {M0 : Nat → Nat → Int32} {os : Nat → ofr} (hH : bsH q n o c sz M0 os) (h : Nat → Int32) {p : Nat} (hp : p < n) :
    ∀ r, r ≤ 2 ^ (n - (p + 1)) → ∃ z, z ≤ 70000 ∧ msP c n o (sM M0 20 h) p r = nI z ∧ ∀ r', r' < r → ∀ i, i < o → qT q i = false → ¬ qL q i = 0 → ¬ goM M0 n i (setM p r') = 0 → (diM M0 n i (setM p r')).toNatClampNeg ≤ z
  | 0, _ => ⟨0, Nat.zero_le _, rfl, fun r' hr => absurd hr (Nat.not_lt_zero _)⟩
  | r + 1, hr => by
    obtain ⟨z, z1, z3, z4⟩ := msP_spec hH h hp r (by omega)
    have hn := hH.1
    have hle : 2 ^ (n - (p + 1)) ≤ 2 ^ (6 - p) := Nat.pow_le_pow_right (by decide) (by omega)
    obtain ⟨eset, hX⟩ := set_nat (p := p) (r := r) (by omega) (by omega)
    have es : msP c n o (sM M0 20 h) p (r + 1) = msO c n (sM M0 20 h) (setM p r) (msP c n o (sM M0 20 h) p r) o := rfl
    rw [es, z3, eset]
    obtain ⟨y, y1, y2, y3, y4⟩ := msO_spec hH h hX z1 o (Nat.le_refl _)
    refine ⟨y, y1, y3, fun r' hr' i hi a1 a2 a3 => ?_⟩
    by_cases e : r' = r
    · rw [e, eset] at a3 ⊢
      exact y4 i hi a1 a2 a3
    · exact Nat.le_trans (z4 r' (by omega) i hi a1 a2 a3) y2
theorem hope_spec {q : tq} {n o c : Nat} {sz : Nat → Nat} {M0 : Nat → Nat → Int32} {os : Nat → ofr} (hH : bsH q n o c sz M0 os) :
    ∀ i, i ≤ n → ∃ hp : Nat → Nat, (∀ p, n - i ≤ p → p ≤ n → hpA c n o M0 i p = nI (hp p) ∧ hp p ≤ 70000 * (n - p)) ∧ (∀ p, n - i ≤ p → p < n → ∀ u ∈ usA3 q n o sz M0 p, u.2.2 + hp (p + 1) ≤ hp p) ∧ ∀ p, n - i ≤ p → p < n → hp (p + 1) ≤ hp p
  | 0, _ => ⟨fun _ => 0, fun p h1 h2 => ⟨by rw [show p = n by omega]; exact upd_self9 _ _ _, Nat.zero_le _⟩, fun p h1 h2 => absurd h2 (by omega), fun p h1 h2 => absurd h2 (by omega)⟩
  | i + 1, hi => by
    obtain ⟨hp, h1, h2, h3⟩ := hope_spec hH i (by omega)
    have hn := hH.1
    have es : hpA c n o M0 (i + 1) = upd (hpA c n o M0 i) (n - i - 1) (hpA c n o M0 i (n - i - 1 + 1) + msP c n o (sM M0 20 (hpA c n o M0 i)) (n - i - 1) (2 ^ i)) := rfl
    obtain ⟨z, z1, z3, z4⟩ := msP_spec hH (hpA c n o M0 i) (p := n - i - 1) (by omega) (2 ^ i) (by rw [show n - (n - i - 1 + 1) = i by omega]; exact Nat.le_refl _)
    obtain ⟨g1, g2⟩ := h1 (n - i - 1 + 1) (by omega) (by omega)
    rw [es, z3, g1, nI_add]
    refine ⟨fun p => if p = n - i - 1 then hp (n - i - 1 + 1) + z else hp p, fun p a1 a2 => ?_, fun p a1 a2 u hu => ?_, fun p a1 a2 => ?_⟩
    · show _ = nI (if p = n - i - 1 then hp (n - i - 1 + 1) + z else hp p) ∧ (if p = n - i - 1 then hp (n - i - 1 + 1) + z else hp p) ≤ 70000 * (n - p)
      by_cases e : p = n - i - 1
      · rw [if_pos e, e, upd_self9]
        refine ⟨rfl, ?_⟩
        rw [show n - (n - i - 1) = (n - (n - i - 1 + 1)) + 1 by omega, Nat.mul_succ]
        omega
      · rw [if_neg e, upd_ne9 e]
        exact h1 p (by omega) a2
    · show u.2.2 + (if p + 1 = n - i - 1 then hp (n - i - 1 + 1) + z else hp (p + 1)) ≤ (if p = n - i - 1 then hp (n - i - 1 + 1) + z else hp p)
      rw [if_neg (by omega)]
      by_cases e : p = n - i - 1
      · rw [if_pos e]
        obtain ⟨b1, b2, b3, b4, b5, b6⟩ := us_mem hu
        obtain ⟨-, s1, s5⟩ := hH.2.2.2.2.2.2.2 u.1 b1 b2
        obtain ⟨c1, c2⟩ := set_of hn (by omega) (by omega) b4
        have hle : 2 ^ (n - (p + 1)) ≤ 2 ^ (6 - p) := Nat.pow_le_pow_right (by decide) (by omega)
        have c3 := (set_nat (p := p) (r := rv7 u.2.1 / 2 ^ (p + 1)) (by omega) (by omega)).1
        rw [← c2] at c3
        have c4 := z4 (rv7 u.2.1 / 2 ^ (p + 1)) (by rw [show i = n - (p + 1) by omega]; exact c1) u.1 b1 b2 b3
        rw [← e, c3] at c4
        have c5 := c4 b5
        rw [e]
        omega
      · rw [if_neg e]
        exact h2 p (by omega) a2 u hu
    · show (if p + 1 = n - i - 1 then hp (n - i - 1 + 1) + z else hp (p + 1)) ≤ (if p = n - i - 1 then hp (n - i - 1 + 1) + z else hp p)
      rw [if_neg (by omega)]
      by_cases e : p = n - i - 1
      · rw [if_pos e, e]
        omega
      · rw [if_neg e]
        exact h3 p (by omega) a2
theorem zeA_spec {b : Nat → Int32} : ∀ {i k : Nat}, k < i → zeA b i k = 0
  | 0, _, h => absurd h (Nat.not_lt_zero _)
  | i + 1, k, h => by
    show upd (zeA b i) i 0 k = 0
    by_cases e : k = i
    · rw [e, upd_self9]
    · rw [upd_ne9 e, zeA_spec (by omega)]
theorem ngA_spec {b : Nat → Int32} : ∀ {i k : Nat}, k < i → ngA b i k = -1
  | 0, _, h => absurd h (Nat.not_lt_zero _)
  | i + 1, k, h => by
    show upd (ngA b i) i (-1) k = -1
    by_cases e : k = i
    · rw [e, upd_self9]
    · rw [upd_ne9 e, ngA_spec (by omega)]
/-- the model's search from its start -/
theorem fd4_spec {q : tq} (hq : qOK q) {a n o c : Nat} {sz : Nat → Nat} {s : VM} {os : Nat → ofr} (hn : n = cb (s.2 5) a) (hH : bsH q n o c sz (fd2 a o s).2 os) (hT6 : ∀ j, o ≤ j → qT q j = false)
    (hth : ∀ j, j < o → qT q j = true → (fd2 a o s).2 7 j = nI (qth q j) ∧ (fd2 a o s).2 8 j = nI (qam q j) ∧ qth q j < 2 ^ 19 ∧ qam q j < 2 ^ 16) (hg : ∀ j, j < o → (fd2 a o s).2 12 j = -1 ∨ ∃ g, g < 4 ∧ (fd2 a o s).2 12 j = nI g)
    (hrv : ∀ i j, qrv q i j = true ↔ i < o ∧ j < o ∧ i ≠ j ∧ (fd2 a o s).2 12 i = (fd2 a o s).2 12 j ∧ ¬ (fd2 a o s).2 12 j = -1) (hsum : sumN s.2 a = nI (qsum q) ∧ qsum q < 2 ^ 20) (hL6 : ∀ j, o ≤ j → j < 6 → qL q j = 0) :
    mB q n o (bst q (-1, []) (lvs q (usA3 q n o sz (fd2 a o s).2) n 0 [])) (fd4 a o c s) ∧ KB (fd3 a o c s).2 (fd4 a o c s) := by
  have hH0 := hH
  obtain ⟨hn7, ho, hb, hr, hL, hL9, hT, hsz⟩ := hH
  obtain ⟨hp, h1, h2, h3⟩ := hope_spec hH0 n (Nat.le_refl _)
  obtain ⟨huOK, -⟩ := us_OK (q := q) hn7 ho hb hr hT hsz
  have e3 : fd3 a o c s = ((fd2 a o s).1, sM (fd2 a o s).2 20 (hpA c n o (fd2 a o s).2 n)) := by
    unfold fd3
    rw [← hn]
  have hus : ∀ p, usA3 q n o sz (fd3 a o c s).2 p = usA3 q n o sz (fd2 a o s).2 p := fun p => by rw [e3]; exact usA_20 _ _ _ _ _ _ _
  have hS : srM q n o c sz hp (fd3 a o c s).2 := by
    refine ⟨hn7, ho, ?_, fun j hj => ?_, hT6, ?_, ?_, ?_, ?_, ?_, hsum.2, ?_, ?_, ?_, ?_, fun p hp' => h3 p (by omega) hp'⟩
    · intro p hp' u hu
      rw [hus] at hu
      exact huOK p hp' u hu
    · by_cases e : j < o
      · exact hL9 j e
      · rw [hL6 j (by omega) hj]; omega
    · intro j hj
      rw [← hL j hj, e3]
      unfold lfM
      dsimp only
      rw [sM_ne (show Nat.beq 11 20 = false from rfl), sM_ne (show Nat.beq (c + 26) 20 = false from rfl)]
    · rw [e3]; exact hT
    · rw [e3]; exact hth
    · rw [e3]; exact hg
    · rw [e3]; exact hrv
    · rw [e3]; exact hsz
    · intro j hj hjT X hX hgo
      rw [e3] at hgo ⊢
      rw [goM_20] at hgo
      rw [diM_20]
      exact di_ge hn7 hb (hr j hj) hX (fun h => by rw [(hT j hj).mp h] at hjT; cases hjT) hgo
    · intro p hp'
      rw [e3]
      obtain ⟨g1, g2⟩ := h1 p (by omega) hp'
      have : 70000 * (n - p) ≤ 70000 * 7 := Nat.mul_le_mul_left _ (by omega)
      refine ⟨?_, by omega⟩
      show sM (fd2 a o s).2 20 (hpA c n o (fd2 a o s).2 n) 20 p = nI (hp p)
      rw [sM_at]
      exact g1
    · intro p hp' u hu
      rw [hus] at hu
      exact h2 p (by omega) hp' u hu
  have hK : KB (fd3 a o c s).2 (fd3 a o c s) := fun k _ => rfl
  have hN : mN q n o 0 [] 0 (fd3 a o c s).2 (fd3 a o c s) := by
    refine ⟨⟨by decide, fun k _ => Nat.zero_testBit k⟩, rfl, fun j hj => ?_, fun g hg4 => Or.inl ⟨?_, fun u hu => (List.not_mem_nil hu).elim⟩, fun k _ hk => (hk.elim (fun h => absurd h (Nat.not_lt_zero _)) (fun h => by cases h)), trivial, fun u hu => (List.not_mem_nil hu).elim, fun i i' hi => by cases hi⟩
    · exact zeA_spec hj
    · exact ngA_spec hg4
  have hB0 : mB q n o (-1, []) (fd3 a o c s) := ⟨by show (-1 : Int32).toInt = -1; decide, fun h => absurd h (by decide)⟩
  have hmain := goF_spec hq hS n 0 (by omega) [] 0 (-1, []) (fd3 a o c s) hK ⟨Nat.le_refl _, ⟨fun u hu => (List.not_mem_nil hu).elim, fun j _ => Nat.zero_le _⟩⟩ hN hB0
  have e4 : fd4 a o c s = goF n o c (nI (qsum q)) n 0 ([] : List us3).length (nI 0) (nI (uD [])) (fd3 a o c s) := by
    unfold fd4
    rw [← hn, hsum.1]
    rfl
  have hfun : usA3 q n o sz (fd3 a o c s).2 = usA3 q n o sz (fd2 a o s).2 := funext hus
  rw [e4, ← hfun]
  exact ⟨hmain.2, KB_K hK (goF_K n o c (nI (qsum q)) n 0 0 (nI 0) (nI (uD [])) (fd3 a o c s) rfl)⟩
