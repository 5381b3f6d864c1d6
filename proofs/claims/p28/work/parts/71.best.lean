/-! THE BEST SET: what is known of it. -/
theorem lvs_ne {q : tq} {us : Nat → List us3} : ∀ {f p : Nat} {acc : List us3}, ∃ L, L ∈ lvs q us f p acc
  | 0, _, acc => ⟨acc, List.mem_singleton.mpr rfl⟩
  | f + 1, p, acc => by
    obtain ⟨L, hL⟩ := lvs_ne (q := q) (us := us) (f := f) (p := p + 1) (acc := acc)
    refine ⟨L, ?_⟩
    rw [lvs]
    split
    · exact hL
    · exact List.mem_append_right _ hL
def gdL (q : tq) (us : Nat → List us3) (n p : Nat) (acc : List us3) : Prop := accOK q p acc ∧ dsj acc ∧ ∀ u ∈ acc, ∃ p', p' < n ∧ u ∈ us p'
theorem lvs_gd {q : tq} {us : Nat → List us3} {n : Nat} (hu : uOK n us) (hT : ∀ p, p < n → ∀ u ∈ us p, qT q u.1 = false) : ∀ {f p : Nat} {acc L : List us3}, p + f = n → gdL q us n p acc → L ∈ lvs q us f p acc → gdL q us n n L := by
  intro f
  induction f with
  | zero =>
    intro p acc L hp hg h
    have e : p = n := by omega
    rw [List.mem_singleton.mp h]
    rw [e] at hg
    exact hg
  | succ f ih =>
    intro p acc L hp hg h
    have hup : gdL q us n (p + 1) acc := ⟨hg.1.up, hg.2⟩
    rw [lvs] at h
    split at h
    · exact ih (by omega) hup h
    · rcases List.mem_append.mp h with h | h
      · obtain ⟨u, hup2, h2⟩ := List.mem_flatMap.mp h
        split at h2
        · rename_i hok
          obtain ⟨u1, u2, u3, -⟩ := hu p (by omega) u hup2
          refine ih (by omega) ⟨hg.1.cons ⟨u1, u2, u3, hT p (by omega) u hup2⟩ hok, ⟨(okB_iff.mp hok).2.1, hg.2.1⟩, fun v hv => ?_⟩ h2
          rcases List.mem_cons.mp hv with rfl | hv
          · exact ⟨p, by omega, hup2⟩
          · exact hg.2.2 v hv
        · exact nomatch h2
      · exact ih (by omega) hup h
theorem bst_LX {q : tq} {us : Nat → List us3} {n : Nat} : ∃ L, L ∈ lvs q us n 0 [] ∧ bst q (-1, []) (lvs q us n 0 []) = ((vl q L : Int), L) := by
  rcases bst_mem (q := q) (B := (-1, [])) (Ls := lvs q us n 0 []) with h | ⟨L, h1, h2⟩
  · exfalso
    obtain ⟨L, hL⟩ := lvs_ne (q := q) (us := us) (f := n) (p := 0) (acc := [])
    have := bst_all (q := q) (B := (-1, [])) hL
    rw [h] at this
    have h9 : (vl q L : Int) ≤ -1 := this
    omega
  · exact ⟨L, h1, h2⟩
theorem dc_low {B : Nat → Nat → Int32} {X : Nat} (hX : X < 128) : ∀ {n : Nat}, n ≤ 7 → BK B n → ∃ d, 1 ≤ d ∧ d ≤ 9999 ∧ dcM B (nI X) n = nI d ∧ ∀ i, i < n → X.testBit i = true → d ≤ prN B i
  | 0, _, _ => ⟨9999, by decide, Nat.le_refl _, rfl, fun i hi => absurd hi (Nat.not_lt_zero _)⟩
  | n + 1, hn, h => by
    obtain ⟨d, d1, d2, e, hl⟩ := dc_low (B := B) hX (n := n) (by omega) (fun i hi => h i (by omega))
    obtain ⟨e1, h1, h2⟩ := prN_of h (Nat.lt_succ_self n)
    have es : dcM B (nI X) (n + 1) = (if inB (nI X) n = 1 then (if prM B n < dcM B (nI X) n then prM B n else dcM B (nI X) n) else dcM B (nI X) n) := rfl
    rw [es, by_in hX (by omega), e, e1]
    by_cases c1 : X.testBit n = true
    · rw [if_pos c1, if_pos rfl]
      by_cases c2 : prN B n < d
      · rw [if_pos (nI_lt c2 (by omega))]
        refine ⟨prN B n, h1, h2, rfl, fun i hi hb => ?_⟩
        by_cases c3 : i = n
        · rw [c3]; exact Nat.le_refl _
        · have := hl i (by omega) hb; omega
      · rw [if_neg (nI_nlt (by omega) (by omega))]
        refine ⟨d, d1, d2, rfl, fun i hi hb => ?_⟩
        by_cases c3 : i = n
        · rw [c3]; omega
        · exact hl i (by omega) hb
    · rw [if_neg c1, if_neg (by decide)]
      refine ⟨d, d1, d2, rfl, fun i hi hb => ?_⟩
      by_cases c3 : i = n
      · rw [c3] at hb; exact absurd hb c1
      · exact hl i (by omega) hb
/-- what a use's places cost, by both ways of counting -/
theorem wN_ps {B : Nat → Nat → Int32} {n : Nat} {u : us3} (hn : n ≤ 7) (hm : u.2.1 < 128) : wN (prX n B) u = psN B (rv7 u.2.1) n := by
  unfold wN psN
  rw [sm_up (o := n) (n := 7) (fun i hi => by
    by_cases e : pk u i = true
    · rw [if_pos e]; exact if_neg (by omega)
    · rw [if_neg e]) hn]
  refine sm_eq (fun k hk => ?_)
  rw [rv_bit hm (by omega)]
  by_cases e : u.2.1.testBit (6 - k) = true
  · rw [if_pos e, if_pos (show pk u k = true from e)]
    exact if_pos hk
  · rw [if_neg e, if_neg (show ¬ pk u k = true from e)]
theorem wN_low {B : Nat → Nat → Int32} {n d : Nat} {u : us3} (hm : u.2.1 < 128) (hl : ∀ k, k < 7 → pk u k = true → d ≤ prX n B k) : d * pc u.2.1 ≤ wN (prX n B) u := by
  rw [← pc_sm hm, ← sm_scale]
  refine sm_le (fun k hk => ?_)
  by_cases e : pk u k = true
  · rw [if_pos (show u.2.1.testBit (6 - k) = true from e), if_pos e]
    exact hl k hk e
  · rw [if_neg (show ¬ u.2.1.testBit (6 - k) = true from e)]
    exact Nat.zero_le _
theorem di_lt {B : Nat → Nat → Int32} {n j : Nat} {x : ofr} {u : us3} (hn : n ≤ 7) (h : BK B n) (hr : relO x B j) (hm : u.2.1 < 128) (hkn : ∀ k, k < 7 → pk u k = true → k < n) (hp1 : 1 ≤ pc u.2.1) (hsz : szM B j = nI (pc u.2.1)) (hT : ¬ B 6 j = 116) (hg : ¬ goM B n j (nI (rv7 u.2.1)) = 0) (hd : u.2.2 = (diM B n j (nI (rv7 u.2.1))).toNatClampNeg) : u.2.2 < wN (prX n B) u := by
  have hps := psN_le (X := rv7 u.2.1) h
  have hX := rv_lt hm
  have hp7 := pc_le u.2.1
  have hW := wN_ps (B := B) (n := n) hn hm
  have hone : 1 * pc u.2.1 ≤ wN (prX n B) u := wN_low hm (fun k hk e => by
    unfold prX
    rw [if_pos (hkn k hk e)]
    exact (prN_of h (hkn k hk e)).2.1)
  obtain ⟨-, -, -, -, hr⟩ := hr
  unfold diM at hd
  rcases hr with ⟨-, h6, -, h8, -, -, w3⟩ | ⟨-, h6, -, h8, -, -, w3⟩ | ⟨-, h6, -, -, -, h10, -, -, -, w8, -⟩ | ⟨-, h6, -⟩
  · obtain ⟨e, e1, e2, e3⟩ := wi_nat (lo := 1) (hi := 90) (by decide) (by decide) w3
    have hb : psN B (rv7 u.2.1) n * e ≤ 69993 * 90 := Nat.mul_le_mul (by omega) e2
    rw [if_pos h6, ds_eq hX hn h, h8, e3, nI_mul, show (100 : Int32) = nI 100 from rfl, nI_div (by omega) (by decide) (by decide), nI_clamp (by omega)] at hd
    have hb2 : psN B (rv7 u.2.1) n * e ≤ psN B (rv7 u.2.1) n * 90 := Nat.mul_le_mul_left _ e2
    omega
  · rw [h6, if_neg (show ¬ (102 : Int32) = 112 by decide), if_pos (show (102 : Int32) = 102 from rfl)] at hd
    obtain ⟨d, d1, d2, ed, dl⟩ := dc_low (B := B) hX hn h
    rw [ed, nI_clamp (by omega)] at hd
    obtain ⟨cc, c2, c5, ec⟩ := wi_nat (lo := 2) (hi := 5) (by decide) (by decide) w3
    have e1 : pc u.2.1 = cc := by
      have : szM B j = nI cc := by unfold szM; rw [h6, if_neg (show ¬ (102 : Int32) = 112 by decide), if_pos (show (102 : Int32) = 102 from rfl), h8, ec]
      exact (nI_eq (by omega) (by omega)).mp (hsz.symm.trans this)
    have hlow : d * pc u.2.1 ≤ wN (prX n B) u := wN_low hm (fun k hk e => by
      unfold prX
      rw [if_pos (hkn k hk e)]
      exact dl k (hkn k hk e) ((rv_bit hm hk).trans e))
    have h2 : d * 2 ≤ d * pc u.2.1 := Nat.mul_le_mul_left _ (by omega)
    omega
  · obtain ⟨e, e1, e2, e3⟩ := wi_nat (lo := 1) (hi := 9999) (by decide) (by decide) w8
    unfold goM at hg
    split at hg
    · exact absurd rfl hg
    · split at hg
      · exact absurd rfl hg
      · rename_i hle
        unfold diM at hle
        rw [h6, if_neg (show ¬ (98 : Int32) = 112 by decide), if_neg (show ¬ (98 : Int32) = 102 by decide), ds_eq hX hn h, h10, e3, nI_suble0 (by omega) (by omega)] at hle
        rw [h6, if_neg (show ¬ (98 : Int32) = 112 by decide), if_neg (show ¬ (98 : Int32) = 102 by decide), ds_eq hX hn h, h10, e3, nI_sub (by omega), nI_clamp (by omega)] at hd
        omega
  · exact absurd h6 hT
/-- the class's row of chosen uses ends with the basket -/
theorem chs_down {M : Nat → Nat → Int32} {f : Nat → Int32} {n : Nat} : ∀ {p : Nat} {acc : List us3}, n ≤ p → p ≤ 7 → (∀ u ∈ acc, ∀ k, k < 7 → pk u k = true → k < n) → chs M f p acc → chs M f n acc ∧ ∀ k, n ≤ k → k < p → f k = -1
  | 0, acc, hn, _, _, h => by
    rw [show n = 0 by omega]
    exact ⟨h, fun k _ hk => absurd hk (Nat.not_lt_zero _)⟩
  | p + 1, acc, hn, hp, hu, h => by
    by_cases e : n = p + 1
    · rw [e]
      exact ⟨h, fun k h1 h2 => by omega⟩
    · rcases h with ⟨h1, h2⟩ | ⟨i, u, r, -, -, -, -, -, rfl, a8, -⟩
      · obtain ⟨g1, g2⟩ := chs_down (n := n) (by omega) (by omega) hu h2
        exact ⟨g1, fun k b1 b2 => by
          by_cases e2 : k = p
          · rw [e2]; exact h1
          · exact g2 k b1 (by omega)⟩
      · have := hu u List.mem_cons_self p (by omega) a8
        omega
