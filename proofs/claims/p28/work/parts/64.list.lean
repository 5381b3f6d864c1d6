/-! THE CLASS'S LIST OF USES is the tree's, place by place. -/
def HL (s : VM) (l : List us3) : Prop := s.1 9 = nI l.length ∧ ∀ (i : Nat) (u : us3), l[i]? = some u → s.2 13 i = nI u.1 ∧ s.2 14 i = nI u.2.1 ∧ s.2 15 i = nI u.2.2
theorem HL_add {s : VM} {l : List us3} (h : HL s l) (hl : l.length < 210) (j m d : Nat) (hd : d < 2 ^ 31) : HL (addUseF s (nI j) (nI m) (nI d)) (l ++ [(j, m, d)]) := by
  obtain ⟨h9, hs⟩ := h
  unfold addUseF
  rw [if_neg (nI_neg1 hd), h9, if_pos (show nI l.length < 210 from nI_lt (b := 210) hl (by decide))]
  refine ⟨?_, fun i u hi => ?_⟩
  · show nI l.length + 1 = nI (l ++ [(j, m, d)]).length
    rw [nI_1, List.length_append]
    rfl
  · show setF 210 (s.2 13) (nI l.length) (nI j) i = nI u.1 ∧ setF 210 (s.2 14) (nI l.length) (nI m) i = nI u.2.1 ∧ setF 210 (s.2 15) (nI l.length) (nI d) i = nI u.2.2
    rw [setF_nI hl (by decide), setF_nI hl (by decide), setF_nI hl (by decide)]
    by_cases e : i < l.length
    · rw [List.getElem?_append_left e] at hi
      rw [upd_ne9 (by omega), upd_ne9 (by omega), upd_ne9 (by omega)]
      exact hs i u hi
    · rw [List.getElem?_append_right (by omega)] at hi
      have e2 : i - l.length = 0 := by
        rcases Nat.eq_zero_or_pos (i - l.length) with e2 | e2
        · exact e2
        · rw [List.getElem?_eq_none (by simp; omega)] at hi
          cases hi
      rw [e2] at hi
      cases hi
      have e3 : i = l.length := by omega
      rw [e3, upd_self9, upd_self9, upd_self9]
      exact ⟨rfl, rfl, rfl⟩
theorem bx_bas {n m : Nat} (hn : n ≤ 7) (hm : m < 128) : (nI m &&& (maskF n ^^^ -1) = 0) ↔ m % 2 ^ (7 - n) = 0 :=
  (show ∀ n, n < 8 → ∀ m, m < 128 → ((nI m &&& (maskF n ^^^ -1) = 0) ↔ m % 2 ^ (7 - n) = 0) by decide +kernel) n (by omega) m hm
theorem mp_lt {p i : Nat} (hp : p < 7) (hi : i < 2 ^ (6 - p)) : 2 * 2 ^ (6 - p) - 1 - i < 128 ∧ 2 ^ (6 - p) ≤ 2 * 2 ^ (6 - p) - 1 - i := by
  have h : 2 ^ (6 - p) ≤ 64 := (show ∀ p, p < 7 → 2 ^ (6 - p) ≤ 64 by decide) p hp
  omega
theorem pc_pos {p m : Nat} (hp : p < 7) (h1 : m < 128) (h2 : 2 ^ (6 - p) ≤ m) : 1 ≤ pc m :=
  (show ∀ p, p < 7 → ∀ m, m < 128 → 2 ^ (6 - p) ≤ m → 1 ≤ pc m by decide +kernel) p hp m h1 h2
/-- what is asked of the two sides' offers and items -/
def fiH (q : tq) (n o : Nat) (sz : Nat → Nat) (B : Nat → Nat → Int32) (os : Nat → ofr) (cI : Int32) (M : Nat → Nat → Int32) : Prop :=
  n ≤ 7 ∧ o ≤ 6 ∧ relK M B n ∧ BK B n ∧ (∀ j, j < o → relO (os j) B j) ∧ (∀ j, j < o → leftF os o (M 10) cI j = nI (qL q j)) ∧ (∀ j, j < o → qL q j ≤ 9) ∧ (∀ j, j < o → (B 6 j = 116 ↔ qT q j = true)) ∧ (∀ j, j < o → qT q j = false → szM B j = nI (sz j) ∧ 1 ≤ sz j ∧ sz j ≤ 5)
theorem fiH_K {q : tq} {n o : Nat} {sz : Nat → Nat} {B : Nat → Nat → Int32} {os : Nat → ofr} {cI : Int32} {M M' : Nat → Nat → Int32} (h : fiH q n o sz B os cI M) (h3 : M' 3 = M 3) (h4 : M' 4 = M 4) (h10 : M' 10 = M 10) : fiH q n o sz B os cI M' := by
  obtain ⟨a1, a2, a3, a4, a5, a6, a7⟩ := h
  refine ⟨a1, a2, ?_, a4, a5, ?_, a7⟩
  · unfold relK
    rw [h3, h4]
    exact a3
  · rw [h10]
    exact a6
theorem taken_eq {x : ofr} {B : Nat → Nat → Int32} {j : Nat} (hr : relO x B j) : takenO x = szM B j := by
  obtain ⟨-, -, -, -, hr⟩ := hr
  unfold takenO szM
  rcases hr with ⟨t1, h6, -⟩ | ⟨t1, h6, -, h8, -⟩ | ⟨t1, h6, -, -, h9, -⟩ | ⟨t1, h6, -⟩
  · rw [t1, if_pos h6]; rfl
  · rw [t1, h6, if_neg (show ¬ (102 : Int32) = 112 by decide), if_pos (show (102 : Int32) = 102 from rfl), h8]; rfl
  · rw [t1, h6, if_neg (show ¬ (98 : Int32) = 112 by decide), if_neg (show ¬ (98 : Int32) = 102 by decide), if_neg (show ¬ (98 : Int32) = 116 by decide), h9]; rfl
  · rw [t1, h6, if_neg (show ¬ (116 : Int32) = 112 by decide), if_neg (show ¬ (116 : Int32) = 102 by decide), if_pos (show (116 : Int32) = 116 from rfl)]; rfl
theorem taken_T {x : ofr} {B : Nat → Nat → Int32} {j : Nat} (hr : relO x B j) (h : B 6 j = 116) : takenO x = 0 := by
  rw [taken_eq hr]
  unfold szM
  rw [h, if_neg (by decide), if_neg (by decide), if_pos rfl]
def pfx (n p sz i : Nat) : List Nat := ((List.range i).map (fun z => 2 * 2 ^ (6 - p) - 1 - z)).filter (fun m => decide (m % 2 ^ (7 - n) = 0) && decide (pc m = sz))
theorem pfx_s (n p sz i : Nat) : pfx n p sz (i + 1) = pfx n p sz i ++ (if (decide ((2 * 2 ^ (6 - p) - 1 - i) % 2 ^ (7 - n) = 0) && decide (pc (2 * 2 ^ (6 - p) - 1 - i) = sz)) = true then [2 * 2 ^ (6 - p) - 1 - i] else []) := by
  unfold pfx
  rw [List.range_succ, List.map_append, List.filter_append, List.map_cons, List.map_nil, List.filter_cons, List.filter_nil]
theorem pfx_le {g : Nat → Option us3} (n p sz : Nat) : ∀ {k i : Nat}, ((pfx n p sz i).filterMap g).length ≤ ((pfx n p sz (i + k)).filterMap g).length
  | 0, _ => Nat.le_refl _
  | k + 1, i => by
    refine Nat.le_trans (pfx_le n p sz (k := k)) ?_
    rw [← Nat.add_assoc, pfx_s, List.filterMap_append, List.length_append]
    omega
/-- one offer's uses at a place -/
theorem au_spec {q : tq} {n o : Nat} {sz : Nat → Nat} {B : Nat → Nat → Int32} {os : Nat → ofr} {cI : Int32} {s : VM} (hH : fiH q n o sz B os cI s.2) {p j : Nat} (hp : p < n) (hj : j < o) {l : List us3} (hl : HL s l) (hlen : l.length + (usj q n sz B p j).length ≤ 210) :
    HL (fiS os o n cI p j s) (l ++ usj q n sz B p j) := by
  have hH0 := hH
  obtain ⟨hn, ho, hk, hb, hr, hL, hL9, hT, hsz⟩ := hH
  have hLj := hL9 j hj
  unfold fiS usj
  unfold usj at hlen
  rw [hL j hj]
  by_cases e0 : nI (qL q j) ≤ 0
  · have e0' := (nI_le0 (by omega)).mp e0
    rw [if_pos e0]
    by_cases eT : qT q j = true
    · rw [if_pos eT, List.append_nil]
      exact hl
    · rw [if_neg eT, if_pos e0', List.append_nil]
      exact hl
  · have e0' : ¬ qL q j = 0 := fun h => e0 ((nI_le0 (by omega)).mpr h)
    rw [if_neg e0]
    by_cases eT : qT q j = true
    · rw [if_pos eT, List.append_nil]
      have hnone : ∀ i, i ≤ 2 ^ (6 - p) → itr (auS os n j p) i s = s := by
        intro i
        induction i with
        | zero => intro _; rfl
        | succ i ih =>
          intro hi
          show auS os n j p i (itr (auS os n j p) i s) = s
          rw [ih (by omega)]
          obtain ⟨m1, m2⟩ := mp_lt (i := i) (show p < 7 by omega) (by omega)
          have hpp := pc_pos (by omega) m1 m2
          have hp7 := pc_le (2 * 2 ^ (6 - p) - 1 - i)
          unfold auS
          rw [taken_T (hr j hj) ((hT j hj).mpr eT), bc_pc m1, if_neg (show ¬ nI (pc (2 * 2 ^ (6 - p) - 1 - i)) = 0 from nI_ne0 hpp (by omega))]
          split <;> rfl
      show HL (itr (auS os n j p) (2 ^ (6 - p)) s) l
      rw [hnone _ (Nat.le_refl _)]
      exact hl
    · have eT' : qT q j = false := by
        cases h : qT q j
        · rfl
        · exact absurd h eT
      rw [if_neg eT, if_neg e0'] at hlen ⊢
      obtain ⟨hs0, hs1, hs5⟩ := hsz j hj eT'
      have h116 : ¬ B 6 j = 116 := fun h => eT ((hT j hj).mp h)
      have hml : ml n p (sz j) = pfx n p (sz j) (2 ^ (6 - p)) := rfl
      rw [hml] at hlen ⊢
      have key : ∀ i, i ≤ 2 ^ (6 - p) → HL (itr (auS os n j p) i s) (l ++ (pfx n p (sz j) i).filterMap (mkU B n j)) := by
        intro i
        induction i with
        | zero =>
          intro _
          have e : (pfx n p (sz j) 0).filterMap (mkU B n j) = [] := rfl
          rw [e, List.append_nil]
          exact hl
        | succ i ih =>
          intro hi
          have h1 := ih (by omega)
          have hM : ∀ {k : Nat}, Nat.beq k 13 = false → Nat.beq k 14 = false → Nat.beq k 15 = false → (itr (auS os n j p) i s).2 k = s.2 k := fun a b c => auF_M os n j p s i a b c
          have e3 := hM (k := 3) rfl rfl rfl
          have e4 := hM (k := 4) rfl rfl rfl
          show HL (auS os n j p i (itr (auS os n j p) i s)) _
          generalize itr (auS os n j p) i s = si at h1 e3 e4
          obtain ⟨m1, m2⟩ := mp_lt (i := i) (show p < 7 by omega) (by omega)
          have hpl := pfx_le (g := mkU B n j) n p (sz j) (k := 2 ^ (6 - p) - (i + 1)) (i := i + 1)
          rw [show i + 1 + (2 ^ (6 - p) - (i + 1)) = 2 ^ (6 - p) by omega] at hpl
          rw [pfx_s, List.filterMap_append] at hpl ⊢
          generalize hmm : 2 * 2 ^ (6 - p) - 1 - i = m at m1 m2 hpl
          have hp7 := pc_le m
          unfold auS
          rw [hmm, taken_eq (hr j hj), hs0, bc_pc m1]
          by_cases c1 : m % 2 ^ (7 - n) = 0
          · rw [if_pos ((bx_bas hn m1).mpr c1)]
            by_cases c2 : pc m = sz j
            · have hc : (decide (m % 2 ^ (7 - n) = 0) && decide (pc m = sz j)) = true := by rw [decide_eq_true c1, decide_eq_true c2]; rfl
              rw [if_pos hc] at hpl ⊢
              rw [if_pos (show nI (pc m) = nI (sz j) by rw [c2])]
              have hrk : relK si.2 B n := by
                unfold relK
                rw [e3, e4]
                exact hk
              rw [disc_eq hn hb hrk (hr j hj) m1 c1 h116 (by rw [c2]; exact hs0)]
              by_cases c3 : goM B n j (nI (rv7 m)) = 0
              · have e6 : mkU B n j m = none := if_pos c3
                rw [if_pos c3, List.filterMap_cons_none e6, List.filterMap_nil, List.append_nil]
                have e7 : addUseF si (nI j) (nI m) (-1) = si := if_pos rfl
                rw [e7]
                exact h1
              · obtain ⟨d, hd7, hd⟩ := di_ge hn hb (hr j hj) (rv_lt m1) h116 c3
                have e6 : mkU B n j m = some (j, m, d) := by
                  unfold mkU
                  rw [if_neg c3, hd, nI_clamp (by omega)]
                rw [List.filterMap_cons_some e6, List.filterMap_nil] at hpl ⊢
                rw [if_neg c3, hd, ← List.append_assoc]
                rw [List.length_append, List.length_singleton] at hpl
                refine HL_add h1 ?_ j m d (by omega)
                rw [List.length_append]
                omega
            · have hc : ¬ (decide (m % 2 ^ (7 - n) = 0) && decide (pc m = sz j)) = true := by rw [decide_eq_false c2, Bool.and_false]; decide
              rw [if_neg (fun h => c2 ((nI_eq (by omega) (by omega)).mp h)), if_neg hc, List.filterMap_nil, List.append_nil]
              exact h1
          · have hc : ¬ (decide (m % 2 ^ (7 - n) = 0) && decide (pc m = sz j)) = true := by rw [decide_eq_false c1, Bool.false_and]; decide
            rw [if_neg (fun h => c1 ((bx_bas hn m1).mp h)), if_neg hc, List.filterMap_nil, List.append_nil]
            exact h1
      exact key _ (Nat.le_refl _)
def GL (q : tq) (n o : Nat) (sz : Nat → Nat) (B : Nat → Nat → Int32) (k : Nat) : List us3 := (List.range k).flatMap (usA3 q n o sz B)
theorem len_fm {f : Nat → List us3} : ∀ n, ((List.range n).flatMap f).length = sm (fun i => (f i).length) n
  | 0 => rfl
  | n + 1 => by rw [List.range_succ, List.flatMap_append, List.length_append, len_fm n, sm, List.flatMap_cons, List.flatMap_nil, List.append_nil]
theorem sm_mono {f : Nat → Nat} {a : Nat} : ∀ {b : Nat}, a ≤ b → sm f a ≤ sm f b
  | 0, h => by rw [show a = 0 by omega]; exact Nat.le_refl _
  | b + 1, h => by
    by_cases e : a = b + 1
    · rw [e]; exact Nat.le_refl _
    · have := sm_mono (f := f) (a := a) (b := b) (by omega)
      rw [sm]
      omega
theorem sm_const (c : Nat) : ∀ n, sm (fun _ => c) n = c * n
  | 0 => rfl
  | n + 1 => by rw [sm, sm_const c n, Nat.mul_succ]
theorem GL_len {q : tq} {n o : Nat} {sz : Nat → Nat} {B : Nat → Nat → Int32} (hn : n ≤ 7) (ho : o ≤ 6) (hsz : ∀ j, j < o → qT q j = false → sz j ≤ 5) {k : Nat} (hk : k ≤ n) : (GL q n o sz B k).length ≤ 210 := by
  have h35 : ∀ z, z ≤ 5 → sm (fun p => (ml n p z).length) n ≤ 35 := fun z hz => (show ∀ n, n < 8 → ∀ z, z < 6 → sm (fun p => (ml n p z).length) n ≤ 35 by decide +kernel) n (by omega) z (by omega)
  unfold GL
  rw [len_fm]
  refine Nat.le_trans (sm_mono hk) ?_
  have e1 : sm (fun p => (usA3 q n o sz B p).length) n = sm (fun p => sm (fun j => (usj q n sz B p j).length) o) n := sm_eq (fun p _ => len_fm o)
  rw [e1, sm_swap]
  have e2 : sm (fun j => sm (fun p => (usj q n sz B p j).length) n) o ≤ sm (fun _ => 35) o := sm_le (fun j hj => by
    by_cases eT : qT q j = true
    · have : sm (fun p => (usj q n sz B p j).length) n = sm (fun _ => 0) n := sm_eq (fun p _ => by unfold usj; rw [if_pos eT]; rfl)
      rw [this, sm_0]
      omega
    · have eT' : qT q j = false := by
        cases h : qT q j
        · rfl
        · exact absurd h eT
      refine Nat.le_trans (sm_le (fun p _ => ?_)) (h35 (sz j) (hsz j hj eT'))
      unfold usj
      rw [if_neg eT]
      split
      · exact Nat.zero_le _
      · exact List.length_filterMap_le _ _)
  rw [sm_const] at e2
  omega
theorem fi_M (os : Nat → ofr) (o n : Nat) (cI : Int32) (p j : Nat) (s : VM) {k : Nat} (h1 : Nat.beq k 13 = false) (h2 : Nat.beq k 14 = false) (h3 : Nat.beq k 15 = false) : (fiS os o n cI p j s).2 k = s.2 k := by
  unfold fiS
  split
  · rfl
  · exact auF_M _ _ _ _ _ _ h1 h2 h3
theorem fiF_spec {q : tq} {n o : Nat} {sz : Nat → Nat} {B : Nat → Nat → Int32} {os : Nat → ofr} {cI : Int32} {s : VM} (hH : fiH q n o sz B os cI s.2) {p : Nat} (hp : p < n) {l : List us3} (hl : HL s l) (hlen : l.length + (usA3 q n o sz B p).length ≤ 210) :
    HL (fiF os o n cI p s o) (l ++ usA3 q n o sz B p) := by
  have key : ∀ k, k ≤ o → HL (fiF os o n cI p s k) (l ++ (List.range k).flatMap (usj q n sz B p)) := by
    intro k
    induction k with
    | zero =>
      intro _
      have e : (List.range 0).flatMap (usj q n sz B p) = [] := rfl
      rw [e, List.append_nil]
      exact hl
    | succ k ih =>
      intro hk
      have h1 := ih (by omega)
      have hM : ∀ {z : Nat}, Nat.beq z 13 = false → Nat.beq z 14 = false → Nat.beq z 15 = false → (fiF os o n cI p s k).2 z = s.2 z := fun a b c => fiF_M os o n cI p s k a b c
      show HL (fiS os o n cI p k (fiF os o n cI p s k)) _
      rw [List.range_succ, List.flatMap_append, List.flatMap_cons, List.flatMap_nil, List.append_nil, ← List.append_assoc]
      refine au_spec (fiH_K hH (hM rfl rfl rfl) (hM rfl rfl rfl) (hM rfl rfl rfl)) hp (by omega) h1 ?_
      have h2 : ((List.range (k + 1)).flatMap (usj q n sz B p)).length ≤ (usA3 q n o sz B p).length := by
        unfold usA3
        rw [len_fm, len_fm]
        exact sm_mono (by omega)
      rw [List.range_succ, List.flatMap_append, List.flatMap_cons, List.flatMap_nil, List.append_nil, List.length_append] at h2
      rw [List.length_append]
      omega
  exact key o (Nat.le_refl _)
theorem GL_s (q : tq) (n o : Nat) (sz : Nat → Nat) (B : Nat → Nat → Int32) (k : Nat) : GL q n o sz B (k + 1) = GL q n o sz B k ++ usA3 q n o sz B k := by
  unfold GL
  rw [List.range_succ, List.flatMap_append, List.flatMap_cons, List.flatMap_nil, List.append_nil]
theorem GL_mono (q : tq) (n o : Nat) (sz : Nat → Nat) (B : Nat → Nat → Int32) {a b : Nat} (h : a ≤ b) : (GL q n o sz B a).length ≤ (GL q n o sz B b).length := by
  unfold GL
  rw [len_fm, len_fm]
  exact sm_mono h
theorem HL_K {s s' : VM} {l : List us3} (h : HL s l) (h9 : s'.1 9 = s.1 9) (h13 : s'.2 13 = s.2 13) (h14 : s'.2 14 = s.2 14) (h15 : s'.2 15 = s.2 15) : HL s' l := by
  unfold HL
  rw [h9, h13, h14, h15]
  exact h
theorem fill_spec {q : tq} {n o : Nat} {sz : Nat → Nat} {B : Nat → Nat → Int32} {os : Nat → ofr} {cI : Int32} {s : VM} (hH : fiH q n o sz B os cI s.2) :
    HL (fillF os o n cI s) (GL q n o sz B n) ∧ ∀ z, z ≤ 7 → stF (fillF os o n cI s).2 z = (GL q n o sz B (if z ≤ n then z else n)).length := by
  have hH0 := hH
  obtain ⟨hn, ho, -, -, -, -, -, -, hsz⟩ := hH
  have hlen : ∀ {k : Nat}, k ≤ n → (GL q n o sz B k).length ≤ 210 := fun hk => GL_len hn ho (fun j hj hT => (hsz j hj hT).2.2) hk
  have key : ∀ k, k ≤ n → HL (foF os o n cI (sV s.1 9 0, s.2) k) (GL q n o sz B k) ∧ (∀ z, z < k → (foF os o n cI (sV s.1 9 0, s.2) k).2 16 z = nI (GL q n o sz B z).length) ∧ ∀ z, Nat.beq z 13 = false → Nat.beq z 14 = false → Nat.beq z 15 = false → Nat.beq z 16 = false → (foF os o n cI (sV s.1 9 0, s.2) k).2 z = s.2 z := by
    intro k
    induction k with
    | zero => intro _; exact ⟨⟨rfl, fun i u h => by cases h⟩, fun z hz => absurd hz (Nat.not_lt_zero _), fun _ _ _ _ _ => rfl⟩
    | succ k ih =>
      intro hk
      obtain ⟨h1, h2, h3⟩ := ih (by omega)
      have es : foF os o n cI (sV s.1 9 0, s.2) (k + 1) = foS os o n cI k (foF os o n cI (sV s.1 9 0, s.2) k) := rfl
      rw [es]
      generalize foF os o n cI (sV s.1 9 0, s.2) k = t at h1 h2 h3
      have hl1 : HL ((t.1, sM t.2 16 (setF 8 (t.2 16) (nI k) (t.1 9))) : VM) (GL q n o sz B k) := HL_K h1 rfl rfl rfl rfl
      have hle := hlen (k := k + 1) hk
      rw [GL_s, List.length_append] at hle
      have h4 := fiF_spec (s := (t.1, sM t.2 16 (setF 8 (t.2 16) (nI k) (t.1 9)))) (fiH_K hH0 (h3 3 rfl rfl rfl rfl) (h3 4 rfl rfl rfl rfl) (h3 10 rfl rfl rfl rfl)) (p := k) (by omega) hl1 hle
      refine ⟨?_, fun z hz => ?_, fun z a b c d => ?_⟩
      · rw [GL_s]
        exact h4
      · show (fiF os o n cI k (t.1, sM t.2 16 (setF 8 (t.2 16) (nI k) (t.1 9))) o).2 16 z = _
        rw [fiF_M os o n cI k _ o rfl rfl rfl]
        show setF 8 (t.2 16) (nI k) (t.1 9) z = _
        rw [setF_nI (by omega) (by decide)]
        by_cases e : z = k
        · rw [e, upd_self9, h1.1]
        · rw [upd_ne9 e]
          exact h2 z (by omega)
      · show (fiF os o n cI k (t.1, sM t.2 16 (setF 8 (t.2 16) (nI k) (t.1 9))) o).2 z = _
        rw [fiF_M os o n cI k _ o a b c]
        exact (sM_ne d).trans (h3 z a b c d)
  obtain ⟨h1, h2, -⟩ := key n (Nat.le_refl _)
  unfold fillF
  generalize foF os o n cI (sV s.1 9 0, s.2) n = t at h1 h2
  have key2 : ∀ i, n + i ≤ 8 → HL (ftF n t i) (GL q n o sz B n) ∧ ∀ z, z < n + i → (ftF n t i).2 16 z = nI (GL q n o sz B (if z ≤ n then z else n)).length := by
    intro i
    induction i with
    | zero =>
      intro _
      exact ⟨h1, fun z hz => by rw [if_pos (by omega)]; exact h2 z (by omega)⟩
    | succ i ih =>
      intro hi
      obtain ⟨g1, g2⟩ := ih (by omega)
      have es : ftF n t (i + 1) = ftS n i (ftF n t i) := rfl
      rw [es]
      generalize ftF n t i = r at g1 g2
      refine ⟨HL_K g1 rfl rfl rfl rfl, fun z hz => ?_⟩
      show setF 8 (r.2 16) (nI (n + i)) (r.1 9) z = _
      rw [setF_nI (by omega) (by decide)]
      by_cases e : z = n + i
      · rw [e, upd_self9, g1.1]
        by_cases e2 : n + i ≤ n
        · rw [if_pos e2, show n + i = n by omega]
        · rw [if_neg e2]
      · rw [upd_ne9 e]
        exact g2 z (by omega)
  obtain ⟨g1, g2⟩ := key2 (8 - n) (by omega)
  refine ⟨g1, fun z hz => ?_⟩
  unfold stF
  rw [g2 z (by omega), nI_clamp]
  have := hlen (k := if z ≤ n then z else n) (by split <;> omega)
  omega
