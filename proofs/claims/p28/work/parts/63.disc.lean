/-! ONE USE: the class's discount on a mask is the model's on the set, and it is no use for both alike. -/
theorem nI_mul (a b : Nat) : nI a * nI b = nI (a * b) := (Int32.ofNat_mul a b).symm
theorem nI_suble0 {a b : Nat} (ha : a < 2 ^ 20) (hb : b < 2 ^ 20) : nI a - nI b ≤ 0 ↔ a ≤ b := by
  rw [Int32.le_iff_toInt_le, Int32.toInt_sub, nI_toInt (by omega), nI_toInt (by omega), Int.bmod_eq_of_le (by omega) (by omega)]
  have h0 : (0 : Int32).toInt = 0 := by decide
  rw [h0]
  omega
theorem nI_neg1 {a : Nat} (h : a < 2 ^ 31) : ¬ nI a = -1 := fun e => by
  have h7 := congrArg Int32.toInt e
  rw [nI_toInt h] at h7
  have h8 : (-1 : Int32).toInt = -1 := by decide
  omega
theorem wi_nat {x : Int32} {lo hi : Nat} (hl : lo < 2 ^ 31) (hh : hi < 2 ^ 31) (h : withinV x (nI lo) (nI hi) = 1) : ∃ e, lo ≤ e ∧ e ≤ hi ∧ x = nI e := by
  unfold withinV at h
  split at h
  · exact absurd h (by decide)
  · rename_i h1
    split at h
    · exact absurd h (by decide)
    · rename_i h2
      have h3 : ¬ x < 0 := fun hx => h1 (by
        rw [Int32.lt_iff_toInt_lt, nI_toInt hl]
        rw [Int32.lt_iff_toInt_lt] at hx
        have h0 : (0 : Int32).toInt = 0 := by decide
        rw [h0] at hx
        omega)
      obtain ⟨e, he, ex⟩ := nI_of h3
      refine ⟨e, ?_, ?_, ex⟩
      · rw [ex, nI_ltI he hl] at h1
        omega
      · rw [ex, nI_ltI hh he] at h2
        omega
theorem wi_neg {x : Int32} {hi : Nat} (hh : hi < 2 ^ 31) (h : withinV x (-1) (nI hi) = 1) : x = -1 ∨ ∃ e, e ≤ hi ∧ x = nI e := by
  by_cases e : x = -1
  · exact Or.inl e
  · right
    unfold withinV at h
    split at h
    · exact absurd h (by decide)
    · rename_i h1
      split at h
      · exact absurd h (by decide)
      · rename_i h2
        have h3 : ¬ x < 0 := fun hx => by
          have h8 : (-1 : Int32).toInt = -1 := by decide
          have h0 : (0 : Int32).toInt = 0 := by decide
          have h4 : x.toInt ≠ -1 := fun h5 => e (Int32.toInt_inj.mp (by rw [h5, h8]))
          rw [Int32.lt_iff_toInt_lt] at h1 hx
          rw [h8] at h1
          rw [h0] at hx
          omega
        obtain ⟨e', he, ex⟩ := nI_of h3
        refine ⟨e', ?_, ex⟩
        rw [ex, nI_ltI hh he] at h2
        omega
theorem sm_ind {a c : Nat} : ∀ n, sm (fun d => if a = d then c else 0) n = if a < n then c else 0
  | 0 => by rw [if_neg (Nat.not_lt_zero _)]; rfl
  | n + 1 => by
    rw [sm, sm_ind n]
    by_cases e : a = n
    · rw [if_pos e, if_neg (by omega), if_pos (by omega)]
      omega
    · rw [if_neg e]
      by_cases e2 : a < n
      · rw [if_pos e2, if_pos (by omega), Nat.add_zero]
      · rw [if_neg e2, if_neg (by omega)]
theorem sm_tight {f g : Nat → Nat} {n : Nat} (h : ∀ i, i < n → f i ≤ g i) (e : sm f n = sm g n) : ∀ i, i < n → f i = g i := fun i hi => by
  by_cases h2 : f i = g i
  · exact h2
  · have := sm_lt h hi (by have := h i hi; omega)
    omega
/-- the basket's items, as both have them -/
def BK (B : Nat → Nat → Int32) (n : Nat) : Prop := ∀ i, i < n → ∃ k pr, k < 10 ∧ kdM B i = nI k ∧ 1 ≤ pr ∧ pr ≤ 9999 ∧ prM B i = nI pr
def prN (B : Nat → Nat → Int32) (i : Nat) : Nat := (prM B i).toNatClampNeg
theorem prN_of {B : Nat → Nat → Int32} {n i : Nat} (h : BK B n) (hi : i < n) : prM B i = nI (prN B i) ∧ 1 ≤ prN B i ∧ prN B i ≤ 9999 := by
  obtain ⟨k, pr, -, -, h1, h2, h3⟩ := h i hi
  unfold prN
  rw [h3, nI_clamp (by omega)]
  exact ⟨rfl, h1, h2⟩
def psN (B : Nat → Nat → Int32) (X n : Nat) : Nat := sm (fun i => if X.testBit i = true then prN B i else 0) n
theorem psN_le {B : Nat → Nat → Int32} {X n : Nat} (h : BK B n) : psN B X n ≤ 9999 * n := by
  have h1 : psN B X n ≤ sm (fun _ => 9999) n := sm_le (fun i hi => by
    have := (prN_of h hi).2.2
    split <;> omega)
  have h2 : ∀ n, sm (fun _ => 9999) n = 9999 * n := by
    intro n
    induction n with
    | zero => rfl
    | succ n ih => rw [sm, ih]; omega
  rw [h2] at h1
  exact h1
theorem ds_eq {B : Nat → Nat → Int32} {X : Nat} (hX : X < 128) : ∀ {n : Nat}, n ≤ 7 → BK B n → dsM B (nI X) n = nI (psN B X n)
  | 0, _, _ => rfl
  | n + 1, hn, h => by
    have ih := ds_eq (B := B) hX (n := n) (by omega) (fun i hi => h i (by omega))
    show (if inB (nI X) n = 1 then dsM B (nI X) n + prM B n else dsM B (nI X) n) = nI (sm (fun i => if X.testBit i = true then prN B i else 0) n + (if X.testBit n = true then prN B n else 0))
    rw [ih, by_in hX (by omega), (prN_of h (Nat.lt_succ_self n)).1]
    by_cases e : X.testBit n = true
    · rw [if_pos e, if_pos rfl, if_pos e, nI_add]
      rfl
    · rw [if_neg e, if_neg (by decide), if_neg e]
      rfl
theorem dc_eq {B : Nat → Nat → Int32} {X : Nat} : ∀ {n : Nat}, BK B n → ∃ d, d ≤ 9999 ∧ dcM B (nI X) n = nI d
  | 0, _ => ⟨9999, Nat.le_refl _, rfl⟩
  | n + 1, h => by
    obtain ⟨d, hd, e⟩ := dc_eq (B := B) (X := X) (n := n) (fun i hi => h i (by omega))
    obtain ⟨e1, -, h2⟩ := prN_of h (Nat.lt_succ_self n)
    have es : dcM B (nI X) (n + 1) = (if inB (nI X) n = 1 then (if prM B n < dcM B (nI X) n then prM B n else dcM B (nI X) n) else dcM B (nI X) n) := rfl
    rw [es]
    split
    · split
      · exact ⟨_, h2, e1⟩
      · exact ⟨d, hd, e⟩
    · exact ⟨d, hd, e⟩
theorem di_ge {B : Nat → Nat → Int32} {n j X : Nat} {x : ofr} (hn : n ≤ 7) (h : BK B n) (hr : relO x B j) (hX : X < 128) (hT : ¬ B 6 j = 116) (hg : ¬ goM B n j (nI X) = 0) : ∃ d, d ≤ 70000 ∧ diM B n j (nI X) = nI d := by
  have hps := psN_le (X := X) h
  have hps2 : psN B X n ≤ 69993 := by omega
  obtain ⟨-, -, -, -, hr⟩ := hr
  unfold diM
  rcases hr with ⟨-, h6, -, h8, -, -, w3⟩ | ⟨-, h6, -, -, -, -, -⟩ | ⟨-, h6, -, -, -, h10, -, -, -, w8, -⟩ | ⟨-, h6, -⟩
  · obtain ⟨e, e1, e2, e3⟩ := wi_nat (lo := 1) (hi := 90) (by decide) (by decide) w3
    rw [if_pos h6, ds_eq hX hn h, h8, e3, nI_mul, show (100 : Int32) = nI 100 from rfl]
    have hb : psN B X n * e ≤ 69993 * 90 := Nat.mul_le_mul hps2 e2
    rw [nI_div (by omega) (by decide) (by decide)]
    exact ⟨psN B X n * e / 100, by omega, rfl⟩
  · rw [h6, if_neg (by decide), if_pos rfl]
    obtain ⟨d, hd, e⟩ := dc_eq (X := X) h
    exact ⟨d, by omega, e⟩
  · obtain ⟨e, e1, e2, e3⟩ := wi_nat (lo := 1) (hi := 9999) (by decide) (by decide) w8
    unfold goM at hg
    split at hg
    · exact absurd rfl hg
    · split at hg
      · exact absurd rfl hg
      · rename_i hle
        unfold diM at hle
        rw [h6, if_neg (by decide), if_neg (by decide), ds_eq hX hn h, h10, e3] at hle ⊢
        rw [nI_suble0 (by omega) (by omega)] at hle
        rw [nI_sub (by omega)]
        exact ⟨psN B X n - e, by omega, rfl⟩
  · exact absurd h6 hT
theorem kN_sm {B : Nat → Nat → Int32} {set : Int32} {n : Nat} (h : ∀ i, i < n → ∃ k, k < 10 ∧ kdM B i = nI k) : sm (fun d => kN B set (nI d) n) 10 = bN set n := by
  have hs := kN_sum (set := set) h
  simp only [List.range, List.range.loop, List.foldr] at hs
  simp only [sm]
  omega
theorem bN_le (set : Int32) : ∀ n, bN set n ≤ n
  | 0 => Nat.le_refl _
  | n + 1 => by
    have ih := bN_le set n
    show (if inB set n = 1 then bN set n + 1 else bN set n) ≤ n + 1
    split <;> omega
/-- a set fits when of each kind that is wanted there are as many as are wanted -/
theorem fi_eq {B : Nat → Nat → Int32} {n j sz : Nat} {set : Int32} {W : Nat → Nat} (h : ∀ i, i < n → ∃ k, k < 10 ∧ kdM B i = nI k) (hn : n ≤ 7) (hbc : bcF set = nI sz) (hbn : bN set n = sz) (hsz : szM B j = nI sz) (hW : ∀ d, d < 10 → wtM B j (nI d) = nI (W d)) (hWs : sm W 10 = sz) :
    fiM B n j set = 0 ↔ ¬ ∀ d, d < 10 → 0 < W d → kN B set (nI d) n = W d := by
  have hle := bN_le set n
  have hWl : ∀ d, d < 10 → W d ≤ 7 := fun d hd => by
    have := sm_get (f := W) hd
    omega
  unfold fiM
  rw [if_pos (hbc.trans hsz.symm)]
  rcases fiL_spec (M := B) (n := n) (j := j) (set := set) (k := 10) (i := 0) with ⟨h1, h2⟩ | ⟨h1, d, -, h3, h4⟩
  · rw [h1]
    refine ⟨fun h => absurd h (by decide), fun hno => absurd (fun d hd _ => ?_) hno⟩
    have h5 := h2 d (Nat.zero_le _) (by omega)
    have h6 := kN_le B set (nI d) n
    have h7 := hWl d hd
    rw [cnM_kN, hW d hd] at h5
    exact (nI_eq (by omega) (by omega)).mp h5
  · rw [h1]
    refine ⟨fun _ hall => h4 ?_, fun _ => rfl⟩
    have h5 : ∀ i, i < 10 → W i ≤ kN B set (nI i) n := fun i hi => by
      rcases Nat.eq_zero_or_pos (W i) with e | e
      · omega
      · rw [hall i hi e]
        exact Nat.le_refl _
    have h6 := sm_tight h5 (by rw [hWs, kN_sm h, hbn]) d (by omega)
    rw [cnM_kN, hW d (by omega), ← h6]
theorem eqV_nI {a b : Nat} (ha : a < 2 ^ 31) (hb : b < 2 ^ 31) : eqV (nI a) (nI b) = nI (if a = b then 1 else 0) := by
  unfold eqV
  by_cases e : a = b
  · rw [if_pos e, if_pos (by rw [e])]
    rfl
  · rw [if_neg e, if_neg (fun h => e ((nI_eq ha hb).mp h))]
    rfl
theorem eqV_n1 {a : Nat} (ha : a < 2 ^ 31) : eqV (nI a) (-1) = nI 0 := if_neg (nI_neg1 ha)
theorem eqV_1n {a : Nat} (ha : a < 2 ^ 31) : eqV (-1) (nI a) = nI 0 := if_neg (fun h => nI_neg1 ha h.symm)
theorem ml_iff {n p sz m : Nat} (h : m ∈ ml n p sz) : m % 2 ^ (7 - n) = 0 ∧ pc m = sz := by
  unfold ml at h
  have := (List.mem_filter.mp h).2
  simp only [Bool.and_eq_true, decide_eq_true_eq] at this
  exact this
theorem rv_small {n m : Nat} (hn : n ≤ 7) (hm : m < 128) (h : m % 2 ^ (7 - n) = 0) : rv7 m < 2 ^ n := (show ∀ n, n < 8 → ∀ m, m < 128 → m % 2 ^ (7 - n) = 0 → rv7 m < 2 ^ n by decide +kernel) n (by omega) m hm h
theorem pc_rv {m : Nat} (hm : m < 128) : pc (rv7 m) = pc m := (show ∀ m, m < 128 → pc (rv7 m) = pc m by decide +kernel) m hm
theorem bN_pc {n m : Nat} (hn : n ≤ 7) (hm : m < 128) (h : m % 2 ^ (7 - n) = 0) : bN (nI (rv7 m)) n = pc m := by
  have h1 := bc_bN hm hn (rv_small hn hm h)
  rw [bc_pc (rv_lt hm), pc_rv hm] at h1
  have h2 := bN_le (nI (rv7 m)) n
  have h3 := pc_le m
  exact ((nI_eq (by omega) (by omega)).mp h1).symm
/-- the class's kinds and prices, place by place, are the model's -/
def relK (M B : Nat → Nat → Int32) (n : Nat) : Prop := (∀ i, i < n → atF 7 (M 3) (nI i) = kdM B i) ∧ ∀ i, i < n → atF 7 (M 4) (nI i) = prM B i
theorem disc_eq {M B : Nat → Nat → Int32} {n j m : Nat} {x : ofr} (hn : n ≤ 7) (hb : BK B n) (hk : relK M B n) (hr : relO x B j) (hm : m < 128) (hmod : m % 2 ^ (7 - n) = 0) (hT : ¬ B 6 j = 116) (hsz : szM B j = nI (pc m)) :
    discO x M (nI m) n = if goM B n j (nI (rv7 m)) = 0 then -1 else diM B n j (nI (rv7 m)) := by
  have hrel := relS_rv hm hn
  have hK : ∀ i, i < n → ∃ k, k < 10 ∧ kdM B i = nI k := fun i hi => by
    obtain ⟨k, -, h1, h2, -⟩ := hb i hi
    exact ⟨k, h1, h2⟩
  have hc : ∀ d : Nat, countOfF (M 3) (nI m) (nI d) n = nI (kN B (nI (rv7 m)) (nI d) n) := fun d => (cnt_eq hrel hk.1).trans (cnM_kN _ _ _ _)
  have hp := price_eq (M := M) (M' := B) hrel hk.2
  have hch := cheap_eq (M := M) (M' := B) hrel hk.2
  have hbc : bcF (nI (rv7 m)) = nI (pc m) := by rw [bc_pc (rv_lt hm), pc_rv hm]
  have hbn := bN_pc hn hm hmod
  have hp7 := pc_le m
  have hkl := fun d : Nat => kN_le B (nI (rv7 m)) (nI d) n
  have hr0 := hr
  obtain ⟨-, -, -, -, hr⟩ := hr
  rcases hr with ⟨t1, h6, h7, h8, h9, w2, w3⟩ | ⟨t1, h6, h7, h8, h9, w2, w3⟩ | ⟨t1, h6, h7, h8, h9, h10, w2, w3, w4, w8, o5, o6, o7⟩ | ⟨-, h6, -⟩
  · obtain ⟨k, -, k9, ek⟩ := wi_nat (lo := 0) (hi := 9) (by decide) (by decide) w2
    have e1 : pc m = 1 := by
      have : szM B j = nI 1 := by unfold szM; rw [if_pos h6]; rfl
      exact (nI_eq (by omega) (by omega)).mp (hsz.symm.trans this)
    have hfi := fi_eq (W := fun d => if k = d then 1 else 0) hK hn hbc hbn hsz (fun d hd => by
      unfold wtM
      rw [h6, if_neg (by decide), if_neg (by decide), h7, ek, hsz, e1]
      by_cases e : k = d
      · rw [if_pos e, if_pos (by rw [e])]
      · rw [if_neg e, if_neg (fun h => e ((nI_eq (by omega) (by omega)).mp h))]
        rfl) (by rw [sm_ind, if_pos (by omega), e1])
    have hgo : goM B n j (nI (rv7 m)) = 0 ↔ ¬ kN B (nI (rv7 m)) (nI k) n = 1 := by
      unfold goM
      rw [h6, if_neg (show ¬ (112 : Int32) = 98 by decide)]
      constructor
      · intro h
        split at h
        · rename_i h0
          intro h2
          refine (hfi.mp h0) fun d hd hw => ?_
          by_cases e : k = d
          · rw [if_pos e, ← e, h2]
          · rw [if_neg e] at hw
            exact absurd hw (Nat.lt_irrefl _)
        · exact absurd h (by decide)
      · intro h
        rw [if_pos (hfi.mpr fun h2 => h (by
          have h3 := h2 k (by omega) (by rw [if_pos rfl]; decide)
          rw [if_pos rfl] at h3
          exact h3))]
    unfold discO dPc diM
    rw [t1, ek, hc k, hp, if_pos h6, h8]
    show (if nI (kN B (nI (rv7 m)) (nI k) n) = 1 then _ else _) = _
    have hk1 := hkl k
    by_cases e : kN B (nI (rv7 m)) (nI k) n = 1
    · rw [if_pos (by rw [e]; rfl), if_neg (fun h => (hgo.mp h) e)]
    · rw [if_neg (show ¬ nI (kN B (nI (rv7 m)) (nI k) n) = 1 from fun h => e ((nI_eq (b := 1) (by omega) (by decide)).mp h)), if_pos (hgo.mpr e)]
  · obtain ⟨k, -, k9, ek⟩ := wi_nat (lo := 0) (hi := 9) (by decide) (by decide) w2
    obtain ⟨cc, c2, c5, ec⟩ := wi_nat (lo := 2) (hi := 5) (by decide) (by decide) w3
    have e1 : pc m = cc := by
      have : szM B j = nI cc := by unfold szM; rw [h6, if_neg (by decide), if_pos rfl, h8, ec]
      exact (nI_eq (by omega) (by omega)).mp (hsz.symm.trans this)
    have hfi := fi_eq (W := fun d => if k = d then cc else 0) hK hn hbc hbn hsz (fun d hd => by
      unfold wtM
      rw [h6, if_neg (by decide), if_neg (by decide), h7, ek, hsz, e1]
      by_cases e : k = d
      · rw [if_pos e, if_pos (by rw [e])]
      · rw [if_neg e, if_neg (fun h => e ((nI_eq (by omega) (by omega)).mp h))]
        rfl) (by rw [sm_ind, if_pos (by omega), e1])
    have hgo : goM B n j (nI (rv7 m)) = 0 ↔ ¬ kN B (nI (rv7 m)) (nI k) n = cc := by
      unfold goM
      rw [h6, if_neg (show ¬ (102 : Int32) = 98 by decide)]
      constructor
      · intro h
        split at h
        · rename_i h0
          intro h2
          refine (hfi.mp h0) fun d hd hw => ?_
          by_cases e : k = d
          · rw [if_pos e, ← e, h2]
          · rw [if_neg e] at hw
            exact absurd hw (Nat.lt_irrefl _)
        · exact absurd h (by decide)
      · intro h
        rw [if_pos (hfi.mpr fun h2 => h (by
          have h3 := h2 k (by omega) (by rw [if_pos rfl]; omega)
          rw [if_pos rfl] at h3
          exact h3))]
    unfold discO dFr diM
    rw [t1, ek, hc k, hch, ec, h6, if_neg (show ¬ (102 : Int32) = 112 by decide), if_pos (show (102 : Int32) = 102 from rfl)]
    show (if nI (kN B (nI (rv7 m)) (nI k) n) = nI cc then _ else _) = _
    have hk1 := hkl k
    by_cases e : kN B (nI (rv7 m)) (nI k) n = cc
    · rw [if_pos (by rw [e]), if_neg (fun h => (hgo.mp h) e)]
    · rw [if_neg (fun h => e ((nI_eq (by omega) (by omega)).mp h)), if_pos (hgo.mpr e)]
  · obtain ⟨f, -, f9, ef⟩ := wi_nat (lo := 0) (hi := 9) (by decide) (by decide) w2
    obtain ⟨g, -, g9, eg⟩ := wi_nat (lo := 0) (hi := 9) (by decide) (by decide) w3
    obtain ⟨t, ht, et⟩ : ∃ t : Nat, t ≤ 10 ∧ ((t = 10 ∧ x.2 4 = -1) ∨ (t < 10 ∧ x.2 4 = nI t)) := by
      rcases wi_neg (hi := 9) (by decide) w4 with e | ⟨e, e9, ee⟩
      · exact ⟨10, Nat.le_refl _, Or.inl ⟨rfl, e⟩⟩
      · exact ⟨e, by omega, Or.inr ⟨by omega, ee⟩⟩
    have et1 : ∀ d, d < 10 → eqV (x.2 4) (nI d) = nI (if t = d then 1 else 0) := fun d hd => by
      rcases et with ⟨e1, e2⟩ | ⟨e1, e2⟩
      · rw [e2, eqV_1n (by omega), if_neg (by omega)]
      · rw [e2, eqV_nI (by omega) (by omega)]
    have et2 : ∀ d, d < 10 → eqV (nI d) (x.2 4) = nI (if t = d then 1 else 0) := fun d hd => by
      rcases et with ⟨e1, e2⟩ | ⟨e1, e2⟩
      · rw [e2, eqV_n1 (by omega), if_neg (by omega)]
      · rw [e2, eqV_nI (by omega) (by omega)]
        congr 1
        by_cases e : t = d
        · rw [if_pos e, if_pos e.symm]
        · rw [if_neg e, if_neg (fun h => e h.symm)]
    have hW : ∀ d, d < 10 → wtM B j (nI d) = nI ((if f = d then 1 else 0) + (if g = d then 1 else 0) + (if t = d then 1 else 0)) := fun d hd => by
      unfold wtM
      rw [if_pos h6, h7, h8, h9, ef, eg, et1 d hd, eqV_nI (by omega) (by omega), eqV_nI (by omega) (by omega), nI_add, nI_add]
    have hszN : pc m = (if t < 10 then 3 else 2) := by
      have : szM B j = nI (if t < 10 then 3 else 2) := by
        unfold szM
        rw [h6, if_neg (by decide), if_neg (by decide), if_neg (by decide), h9]
        rcases et with ⟨e1, e2⟩ | ⟨e1, e2⟩
        · rw [if_pos e2, if_neg (by omega)]
          rfl
        · rw [e2, if_neg (nI_neg1 (by omega)), if_pos e1]
          rfl
      exact (nI_eq (by omega) (by split <;> decide)).mp (hsz.symm.trans this)
    have hWs : sm (fun d => (if f = d then 1 else 0) + (if g = d then 1 else 0) + (if t = d then 1 else 0)) 10 = pc m := by
      rw [sm_add (fun d => (if f = d then 1 else 0) + (if g = d then 1 else 0)), sm_add (fun d => if f = d then 1 else 0), sm_ind, sm_ind, sm_ind, hszN, if_pos (by omega), if_pos (by omega)]
      split <;> rfl
    have hfi := fi_eq (W := fun d => (if f = d then 1 else 0) + (if g = d then 1 else 0) + (if t = d then 1 else 0)) hK hn hbc hbn hsz hW hWs
    have o5' : x.2 5 = nI ((if f = f then 1 else 0) + (if g = f then 1 else 0) + (if t = f then 1 else 0)) := by
      rw [o5, ef, eg, et2 f (by omega), eqV_nI (by omega) (by omega), show (1 : Int32) = nI 1 from rfl, nI_add, nI_add, if_pos rfl]
      congr 2
      by_cases e : f = g
      · rw [if_pos e, if_pos e.symm]
      · rw [if_neg e, if_neg (fun h => e h.symm)]
    have o6' : x.2 6 = nI ((if f = g then 1 else 0) + (if g = g then 1 else 0) + (if t = g then 1 else 0)) := by
      rw [o6, ef, eg, et2 g (by omega), eqV_nI (by omega) (by omega), show (1 : Int32) = nI 1 from rfl, nI_add, nI_add, if_pos (rfl : g = g)]
      congr 2
      omega
    have o7' : t < 10 → x.2 7 = nI ((if f = t then 1 else 0) + (if g = t then 1 else 0) + (if t = t then 1 else 0)) := fun h => by
      rcases et with ⟨e1, e2⟩ | ⟨e1, e2⟩
      · omega
      · rw [o7, ef, eg, e2, eqV_nI (by omega) (by omega), eqV_nI (by omega) (by omega), show (1 : Int32) = nI 1 from rfl, nI_add, nI_add, if_pos (rfl : t = t)]
        congr 1
        omega
    have hsmall : ∀ a b c : Nat, ((if a = c then 1 else 0) + (if b = c then 1 else 0) + (if t = c then 1 else 0)) < 2 ^ 31 := fun a b c => by
      split <;> split <;> split <;> decide
    have hchk : (countOfF (M 3) (nI m) (x.2 2) n = x.2 5 ∧ countOfF (M 3) (nI m) (x.2 3) n = x.2 6 ∧ (¬ x.2 4 = -1 → countOfF (M 3) (nI m) (x.2 4) n = x.2 7)) ↔ ¬ fiM B n j (nI (rv7 m)) = 0 := by
      rw [not_congr hfi, Classical.not_not, ef, eg, hc, hc, o5', o6']
      have k1 := hkl f
      have k2 := hkl g
      have k3 := hkl t
      constructor
      · rintro ⟨a1, a2, a3⟩ d hd hw
        have b1 := (nI_eq (by omega) (hsmall f g f)).mp a1
        have b2 := (nI_eq (by omega) (hsmall f g g)).mp a2
        by_cases c1 : f = d
        · rw [← c1]; exact b1
        · by_cases c2 : g = d
          · rw [← c2]; exact b2
          · by_cases c3 : t = d
            · subst c3
              rcases et with ⟨e1, e2⟩ | ⟨e1, e2⟩
              · omega
              · have a4 := a3 (by rw [e2]; exact nI_neg1 (by omega))
                rw [e2, hc, o7' e1] at a4
                exact (nI_eq (by omega) (hsmall f g t)).mp a4
            · rw [if_neg c1, if_neg c2, if_neg c3] at hw
              exact absurd hw (by decide)
      · intro h
        refine ⟨by rw [h f (by omega) (by rw [if_pos rfl]; omega)], by rw [h g (by omega) (by rw [if_pos (rfl : g = g)]; omega)], fun hne => ?_⟩
        rcases et with ⟨e1, e2⟩ | ⟨e1, e2⟩
        · exact absurd e2 hne
        · rw [e2, hc, o7' e1, h t e1 (by rw [if_pos (rfl : t = t)]; omega)]
    have hdx : dBx x M (nI m) n = if diM B n j (nI (rv7 m)) ≤ 0 then -1 else diM B n j (nI (rv7 m)) := by
      unfold dBx diM
      rw [hp, h6, if_neg (show ¬ (98 : Int32) = 112 by decide), if_neg (show ¬ (98 : Int32) = 102 by decide), h10]
    have hgo : goM B n j (nI (rv7 m)) = if fiM B n j (nI (rv7 m)) = 0 then 0 else (if diM B n j (nI (rv7 m)) ≤ 0 then 0 else 1) := by
      unfold goM
      rw [if_pos h6]
    have hdO : discO x M (nI m) n = dBu x M (nI m) n := by unfold discO; rw [t1]; rfl
    rw [hdO, hgo]
    unfold dBu
    by_cases e0 : fiM B n j (nI (rv7 m)) = 0
    · rw [if_pos e0, if_pos rfl]
      have hno := fun h => (hchk.mp h) e0
      by_cases a1 : countOfF (M 3) (nI m) (x.2 2) n = x.2 5
      · rw [if_pos a1]
        by_cases a2 : countOfF (M 3) (nI m) (x.2 3) n = x.2 6
        · rw [if_pos a2]
          by_cases a3 : x.2 4 = -1
          · exact absurd ⟨a1, a2, fun h => absurd a3 h⟩ hno
          · rw [if_neg a3]
            by_cases a4 : countOfF (M 3) (nI m) (x.2 4) n = x.2 7
            · exact absurd ⟨a1, a2, fun _ => a4⟩ hno
            · rw [if_neg a4]
        · rw [if_neg a2]
      · rw [if_neg a1]
    · obtain ⟨a1, a2, a3⟩ := hchk.mpr e0
      rw [if_neg e0, if_pos a1, if_pos a2]
      have hfin : dBx x M (nI m) n = if (if diM B n j (nI (rv7 m)) ≤ 0 then (0 : Int32) else 1) = 0 then -1 else diM B n j (nI (rv7 m)) := by
        rw [hdx]
        by_cases e : diM B n j (nI (rv7 m)) ≤ 0
        · rw [if_pos e, if_pos e, if_pos rfl]
        · rw [if_neg e, if_neg e, if_neg (by decide)]
      by_cases a4 : x.2 4 = -1
      · rw [if_pos a4]
        exact hfin
      · rw [if_neg a4, if_pos (a3 a4)]
        exact hfin
  · exact absurd h6 hT
