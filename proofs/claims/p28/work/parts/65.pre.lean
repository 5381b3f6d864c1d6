/-! BEFORE THE CLASS'S SEARCH: the order by amount, the shares; the search from its start. -/
theorem stF_K {M N : Nat → Nat → Int32} (h : N 16 = M 16) : stF N = stF M := funext fun z => by unfold stF; rw [h]
theorem sM_at (M : Nat → Nat → Int32) (k : Nat) (f : Nat → Int32) : sM M k f k = f := by
  unfold sM
  rw [Nat.beq_refl]
  rfl
theorem bt_tr {q : tq} {i j k : Nat} (h1 : bt q i j = true) (h2 : bt q j k = true) : bt q i k = true := by
  rw [bt_iff] at h1 h2 ⊢
  omega
theorem ins_spec {q : tq} {g : Nat → Int32} (hg : ∀ j, j < 6 → g j = nI (qam q j) ∧ qam q j < 2 ^ 16) {off : Nat} (hoff : off < 6) {w : Nat → Nat} : ∀ (k : Nat) (b : Nat → Int32), k ≤ 5 → (∀ x, x < k → b x = nI (w x) ∧ w x < off) → (∀ x y, x < y → y < k → bt q (w x) (w y) = true) →
    ∃ t, t ≤ k ∧ (∀ x, x < t → insB g (nI off) k b x = b x ∧ bt q (w x) off = true) ∧ insB g (nI off) k b t = nI off ∧ (∀ x, t ≤ x → x < k → insB g (nI off) k b (x + 1) = b x ∧ bt q off (w x) = true) ∧ ∀ y, k < y → insB g (nI off) k b y = b y := by
  intro k
  induction k with
  | zero =>
    intro b _ _ _
    refine ⟨0, Nat.le_refl _, fun x hx => absurd hx (Nat.not_lt_zero _), ?_, fun x _ hx => absurd hx (Nat.not_lt_zero _), fun y hy => ?_⟩
    · show setF 6 b (nI 0) (nI off) 0 = nI off
      rw [setF_nI (by decide) (by decide), upd_self9]
    · show setF 6 b (nI 0) (nI off) y = b y
      rw [setF_nI (by decide) (by decide), upd_ne9 (by omega)]
  | succ k ih =>
    intro b hk hb hs
    obtain ⟨e1, e2⟩ := hb k (Nat.lt_succ_self k)
    have es : insB g (nI off) (k + 1) b = if atF 6 g (nI off) ≤ atF 6 g (atF 6 b (nI k)) then setF 6 b (nI (k + 1)) (nI off) else insB g (nI off) k (setF 6 b (nI (k + 1)) (atF 6 b (nI k))) := rfl
    rw [es, atF_nI (f := b) (by omega) (by decide), e1, atF_nI hoff (by decide), atF_nI (by omega) (by decide), (hg off hoff).1, (hg (w k) (by omega)).1, setF_nI (by omega) (by decide), setF_nI (by omega) (by decide)]
    have l1 := (hg off hoff).2
    have l2 := (hg (w k) (by omega)).2
    by_cases e : nI (qam q off) ≤ nI (qam q (w k))
    · rw [if_pos e]
      have e' := (nI_leI (by omega) (by omega)).mp e
      have hbk : bt q (w k) off = true := bt_iff.mpr (by omega)
      refine ⟨k + 1, Nat.le_refl _, fun x hx => ⟨upd_ne9 (by omega), ?_⟩, upd_self9 _ _ _, fun x h1 h2 => absurd h2 (by omega), fun y hy => upd_ne9 (by omega)⟩
      by_cases e3 : x = k
      · rw [e3]; exact hbk
      · exact bt_tr (hs x k (by omega) (Nat.lt_succ_self k)) hbk
    · rw [if_neg e]
      have e' := mt (nI_leI (by omega) (by omega)).mpr e
      obtain ⟨t, t1, t2, t3, t4, t5⟩ := ih (upd b (k + 1) (nI (w k))) (by omega) (fun x hx => by rw [upd_ne9 (by omega)]; exact hb x (by omega)) (fun x y h1 h2 => hs x y h1 (by omega))
      refine ⟨t, by omega, fun x hx => ⟨(t2 x hx).1.trans (upd_ne9 (by omega)), (t2 x hx).2⟩, t3, fun x h1 h2 => ?_, fun y hy => (t5 y (by omega)).trans (upd_ne9 (by omega))⟩
      by_cases e3 : x = k
      · rw [e3]
        refine ⟨(t5 (k + 1) (by omega)).trans ((upd_self9 _ _ _).trans e1.symm), bt_iff.mpr (Or.inl (by omega))⟩
      · exact ⟨(t4 x h1 (by omega)).1.trans (upd_ne9 (by omega)), (t4 x h1 (by omega)).2⟩
theorem sort_spec {q : tq} {g b : Nat → Int32} (hg : ∀ j, j < 6 → g j = nI (qam q j) ∧ qam q j < 2 ^ 16) : ∀ i, i ≤ 6 → ∃ w : Nat → Nat, (∀ x, x < i → sortA g b i x = nI (w x) ∧ w x < i) ∧ (∀ j, j < i → ∃ x, x < i ∧ w x = j) ∧ ∀ x y, x < y → y < i → bt q (w x) (w y) = true
  | 0, _ => ⟨fun _ => 0, fun x hx => absurd hx (Nat.not_lt_zero _), fun x hx => absurd hx (Nat.not_lt_zero _), fun x y _ hy => absurd hy (Nat.not_lt_zero _)⟩
  | i + 1, hi => by
    obtain ⟨w, h1, h2, h3⟩ := sort_spec (b := b) hg i (by omega)
    have es : sortA g b (i + 1) = insB g (nI i) i (sortA g b i) := rfl
    obtain ⟨t, t1, t2, t3, t4, -⟩ := ins_spec hg (off := i) (by omega) i (sortA g b i) (by omega) h1 h3
    rw [es]
    refine ⟨fun x => if x < t then w x else if x = t then i else w (x - 1), fun x hx => ?_, fun j hj => ?_, fun x y hxy hy => ?_⟩
    · show _ = nI (if x < t then w x else if x = t then i else w (x - 1)) ∧ (if x < t then w x else if x = t then i else w (x - 1)) < i + 1
      by_cases c1 : x < t
      · rw [if_pos c1, (t2 x c1).1, (h1 x (by omega)).1]
        exact ⟨rfl, by have := (h1 x (by omega)).2; omega⟩
      · rw [if_neg c1]
        by_cases c2 : x = t
        · rw [if_pos c2, c2, t3]
          exact ⟨rfl, Nat.lt_succ_self _⟩
        · rw [if_neg c2]
          have h9 := (t4 (x - 1) (by omega) (by omega)).1
          rw [show x - 1 + 1 = x by omega] at h9
          rw [h9, (h1 (x - 1) (by omega)).1]
          exact ⟨rfl, by have := (h1 (x - 1) (by omega)).2; omega⟩
    · by_cases c : j = i
      · exact ⟨t, by omega, by show (if t < t then w t else if t = t then i else w (t - 1)) = j; rw [if_neg (Nat.lt_irrefl _), if_pos rfl, c]⟩
      · obtain ⟨x, hx, ex⟩ := h2 j (by omega)
        by_cases c1 : x < t
        · exact ⟨x, by omega, by show (if x < t then w x else if x = t then i else w (x - 1)) = j; rw [if_pos c1, ex]⟩
        · exact ⟨x + 1, by omega, by show (if x + 1 < t then w (x + 1) else if x + 1 = t then i else w (x + 1 - 1)) = j; rw [if_neg (by omega), if_neg (by omega), Nat.add_sub_cancel, ex]⟩
    · show bt q (if x < t then w x else if x = t then i else w (x - 1)) (if y < t then w y else if y = t then i else w (y - 1)) = true
      by_cases c1 : y < t
      · rw [if_pos c1, if_pos (show x < t by omega)]
        exact h3 x y hxy (by omega)
      · rw [if_neg c1]
        by_cases c2 : y = t
        · rw [if_pos c2, if_pos (show x < t by omega)]
          exact (t2 x (by omega)).2
        · rw [if_neg c2]
          by_cases c3 : x < t
          · rw [if_pos c3]
            exact bt_tr (t2 x c3).2 (t4 (y - 1) (by omega) (by omega)).2
          · rw [if_neg c3]
            by_cases c4 : x = t
            · rw [if_pos c4]
              exact (t4 (y - 1) (by omega) (by omega)).2
            · rw [if_neg c4]
              exact h3 (x - 1) (y - 1) (by omega) (by omega)
/-- a share, at least each use's even part -/
theorem share_eq {M : Nat → Nat → Int32} {i m d : Nat} (hi : i < 210) (h14 : M 14 i = nI m) (h15 : M 15 i = nI d) (hm : m < 128) (hd : d ≤ 70000) (hp : 1 ≤ pc m) : shareF M i = nI (d * 60 / pc m) := by
  have hp7 := pc_le m
  unfold shareF
  rw [atF_nI hi (by decide), atF_nI hi (by decide), h14, h15, bc_pc hm, if_neg (nI_nle hp (by omega)), show (60 : Int32) = nI 60 from rfl, nI_mul, nI_div (by omega) (by omega) (by omega)]
theorem shU_spec {M : Nat → Nat → Int32} {i m d : Nat} (hi : i < 210) (h14 : M 14 i = nI m) (h15 : M 15 i = nI d) (hm : m < 128) (hd : d ≤ 70000) (hp : 1 ≤ pc m) {b : Nat → Int32} {sh : Nat → Nat} (hb : ∀ k, k < 7 → b k = nI (sh k) ∧ sh k ≤ 4200000) :
    ∀ z, z ≤ 7 → ∃ sh' : Nat → Nat, (∀ k, k < 7 → shU M i b z k = nI (sh' k) ∧ sh' k ≤ 4200000 ∧ sh k ≤ sh' k) ∧ ∀ k, k < z → m.testBit (6 - k) = true → d * 60 / pc m ≤ sh' k
  | 0, _ => ⟨sh, fun k hk => ⟨(hb k hk).1, (hb k hk).2, Nat.le_refl _⟩, fun k hk => absurd hk (Nat.not_lt_zero _)⟩
  | z + 1, hz => by
    obtain ⟨sh1, h1, h2⟩ := shU_spec hi h14 h15 hm hd hp hb z (by omega)
    have es : shU M i b (z + 1) = shI M i z (shU M i b z) := rfl
    rw [es]
    have hdiv : d * 60 / pc m ≤ 4200000 := Nat.le_trans (Nat.div_le_self _ _) (by omega)
    obtain ⟨g1, g2, g3⟩ := h1 z (by omega)
    unfold shI
    rw [atF_nI hi (by decide), h14, bx_in hm (by omega), share_eq hi h14 h15 hm hd hp, atF_nI (by omega) (by decide), g1, setF_nI (by omega) (by decide)]
    by_cases e : m.testBit (6 - z) = true
    · rw [if_pos e, if_neg (by decide)]
      have emx : (if nI (d * 60 / pc m) < nI (sh1 z) then nI (sh1 z) else nI (d * 60 / pc m)) = nI (if d * 60 / pc m < sh1 z then sh1 z else d * 60 / pc m) := by
        by_cases e2 : d * 60 / pc m < sh1 z
        · rw [if_pos e2, if_pos (nI_lt e2 (by omega))]
        · rw [if_neg e2, if_neg (nI_nlt (by omega) (by omega))]
      rw [emx]
      refine ⟨fun k => if k = z then (if d * 60 / pc m < sh1 z then sh1 z else d * 60 / pc m) else sh1 k, fun k hk => ?_, fun k hk hbk => ?_⟩
      · show _ = nI (if k = z then _ else sh1 k) ∧ (if k = z then _ else sh1 k) ≤ 4200000 ∧ sh k ≤ (if k = z then _ else sh1 k)
        by_cases e3 : k = z
        · subst e3
          rw [upd_self9, if_pos rfl]
          refine ⟨rfl, ?_, ?_⟩ <;> split <;> omega
        · rw [upd_ne9 e3, if_neg e3]
          exact h1 k hk
      · show d * 60 / pc m ≤ (if k = z then _ else sh1 k)
        by_cases e3 : k = z
        · rw [if_pos e3]
          split <;> omega
        · rw [if_neg e3]
          exact h2 k (by omega) hbk
    · rw [if_neg e, if_pos rfl]
      refine ⟨sh1, h1, fun k hk hbk => ?_⟩
      by_cases e3 : k = z
      · rw [e3] at hbk
        exact absurd hbk e
      · exact h2 k (by omega) hbk
theorem shA_spec {M : Nat → Nat → Int32} {l : List us3} (hl : ∀ (i : Nat) (u : us3), l[i]? = some u → i < 210 ∧ M 14 i = nI u.2.1 ∧ M 15 i = nI u.2.2 ∧ u.2.1 < 128 ∧ u.2.2 ≤ 70000 ∧ 1 ≤ pc u.2.1) {b : Nat → Int32} (hb : ∀ k, k < 7 → b k = 0) :
    ∀ z, z ≤ l.length → ∃ sh : Nat → Nat, (∀ k, k < 7 → shA M b z k = nI (sh k) ∧ sh k ≤ 4200000) ∧ ∀ (i : Nat) (u : us3), i < z → l[i]? = some u → ∀ k, k < 7 → u.2.1.testBit (6 - k) = true → u.2.2 * 60 / pc u.2.1 ≤ sh k
  | 0, _ => ⟨fun _ => 0, fun k hk => ⟨hb k hk, Nat.zero_le _⟩, fun i u hi => absurd hi (Nat.not_lt_zero _)⟩
  | z + 1, hz => by
    obtain ⟨sh, h1, h2⟩ := shA_spec hl hb z (by omega)
    obtain ⟨u, hu⟩ : ∃ u, l[z]? = some u := ⟨_, List.getElem?_eq_getElem (by omega)⟩
    obtain ⟨a1, a2, a3, a4, a5, a6⟩ := hl z u hu
    obtain ⟨sh', g1, g2⟩ := shU_spec a1 a2 a3 a4 a5 a6 h1 7 (Nat.le_refl _)
    refine ⟨sh', fun k hk => ⟨(g1 k hk).1, (g1 k hk).2.1⟩, fun i v hi hv k hk hbk => ?_⟩
    by_cases e : i = z
    · rw [e, hu] at hv
      cases hv
      exact g2 k hk hbk
    · exact Nat.le_trans (h2 i v (by omega) hv k hk hbk) (g1 k hk).2.2
theorem shZ_spec {b : Nat → Int32} : ∀ {n k : Nat}, n ≤ 7 → k < n → shZ b n k = 0
  | 0, _, _, h => absurd h (Nat.not_lt_zero _)
  | n + 1, k, hn, h => by
    show setF 7 (shZ b n) (nI n) 0 k = 0
    rw [setF_nI (by omega) (by decide)]
    by_cases e : k = n
    · rw [e, upd_self9]
    · rw [upd_ne9 e, shZ_spec (by omega) (by omega)]
theorem sm_scale {P : Nat → Bool} {x : Nat} : ∀ n, sm (fun k => if P k = true then x else 0) n = x * sm (fun k => if P k = true then 1 else 0) n
  | 0 => rfl
  | n + 1 => by
    rw [sm, sm, sm_scale n, Nat.mul_add]
    split
    · rw [Nat.mul_one]
    · rfl
theorem pc_sm {m : Nat} (hm : m < 128) : sm (fun k => if m.testBit (6 - k) = true then 1 else 0) 7 = pc m := (show ∀ m, m < 128 → sm (fun k => if m.testBit (6 - k) = true then 1 else 0) 7 = pc m by decide +kernel) m hm
theorem div60 {d c : Nat} (h1 : 1 ≤ c) (h5 : c ≤ 5) : d * 60 / c * c = 60 * d := by
  rcases (show c = 1 ∨ c = 2 ∨ c = 3 ∨ c = 4 ∨ c = 5 by omega) with rfl | rfl | rfl | rfl | rfl <;> omega
theorem us_mem {q : tq} {n o : Nat} {sz : Nat → Nat} {B : Nat → Nat → Int32} {p : Nat} {u : us3} (h : u ∈ usA3 q n o sz B p) : u.1 < o ∧ qT q u.1 = false ∧ ¬ qL q u.1 = 0 ∧ u.2.1 ∈ ml n p (sz u.1) ∧ ¬ goM B n u.1 (nI (rv7 u.2.1)) = 0 ∧ u.2.2 = (diM B n u.1 (nI (rv7 u.2.1))).toNatClampNeg := by
  obtain ⟨j, hj, hu⟩ := List.mem_flatMap.mp h
  unfold usj at hu
  split at hu
  · exact nomatch hu
  · rename_i hT
    split at hu
    · exact nomatch hu
    · rename_i hL
      obtain ⟨m, hm, e⟩ := List.mem_filterMap.mp hu
      unfold mkU at e
      split at e
      · cases e
      · rename_i hg
        cases e
        exact ⟨List.mem_range.mp hj, by cases h : qT q j; rfl; exact absurd h hT, hL, hm, hg, rfl⟩
/-- what holds of the uses of the tree, out of what is asked of offers and items -/
theorem us_OK {q : tq} {n o : Nat} {sz : Nat → Nat} {B : Nat → Nat → Int32} (hn : n ≤ 7) (ho : o ≤ 6) (hb : BK B n) {os : Nat → ofr} (hr : ∀ j, j < o → relO (os j) B j) (hT : ∀ j, j < o → (B 6 j = 116 ↔ qT q j = true)) (hsz : ∀ j, j < o → qT q j = false → szM B j = nI (sz j) ∧ 1 ≤ sz j ∧ sz j ≤ 5) : uOK n (usA3 q n o sz B) ∧ ∀ p, p < n → ∀ u ∈ usA3 q n o sz B p, pc u.2.1 = sz u.1 ∧ 1 ≤ pc u.2.1 ∧ pc u.2.1 ≤ 5 := by
  have h0 : ∀ p, p < n → ∀ u ∈ usA3 q n o sz B p, mlB n p u.2.1 = true ∧ pc u.2.1 = sz u.1 ∧ u.2.2 ≤ 70000 ∧ 1 ≤ sz u.1 ∧ sz u.1 ≤ 5 ∧ u.1 < o := fun p hp u hu => by
    obtain ⟨h1, h2, -, h4, h5, h6⟩ := us_mem hu
    obtain ⟨-, s1, s5⟩ := hsz u.1 h1 h2
    obtain ⟨g1, g2⟩ := ml_B hn hp (by omega) h4
    obtain ⟨d, hd, ed⟩ := di_ge hn hb (hr u.1 h1) (rv_lt (mlB_iff.mp g1).1) (fun h => by rw [(hT u.1 h1).mp h] at h2; cases h2) h5
    rw [ed, nI_clamp (by omega)] at h6
    exact ⟨g1, g2, by omega, s1, s5, h1⟩
  refine ⟨fun p hp u hu => ?_, fun p hp u hu => ?_⟩
  · obtain ⟨g1, g2, g3, -, -, g6⟩ := h0 p hp u hu
    obtain ⟨m1, m2, m3⟩ := mlB_iff.mp g1
    exact ⟨by omega, m1, g3, m2, fun k hk => m3 k (by omega) (Or.inl hk), fun k h1 h2 => m3 k h2 (Or.inr h1)⟩
  · obtain ⟨g1, g2, g3, g4, g5, g6⟩ := h0 p hp u hu
    rw [g2]
    exact ⟨rfl, g4, g5⟩
theorem lfA_spec {os : Nat → ofr} {o : Nat} {f b : Nat → Int32} {cI : Int32} : ∀ {n j : Nat}, n ≤ 6 → j < n → lfA os o f cI b n j = leftF os o f cI j
  | 0, _, _, h => absurd h (Nat.not_lt_zero _)
  | n + 1, j, hn, h => by
    show setF 6 (lfA os o f cI b n) (nI n) (leftF os o f cI n) j = leftF os o f cI j
    rw [setF_nI (by omega) (by decide)]
    by_cases e : j = n
    · rw [e, upd_self9]
    · rw [upd_ne9 e, lfA_spec (by omega) (by omega)]
/-- the class's offers' arrays outside the search -/
def ofH (q : tq) (M : Nat → Nat → Int32) : Prop := (∀ j, j < 6 → ∃ R, R < 64 ∧ M 7 j = nI R ∧ ∀ i, i < 6 → R.testBit i = qrv q i j) ∧ (∀ j, j < 6 → qT q j = true → M 8 j = nI (qth q j) ∧ 0 < qth q j ∧ qth q j < 2 ^ 19) ∧ (∀ j, j < 6 → qT q j = false → M 8 j ≤ 0) ∧ ∀ j, j < 6 → M 9 j = nI (qam q j) ∧ qam q j < 2 ^ 16 ∧ (qT q j = false → qam q j = 0)
theorem mask_nat {n : Nat} (hn : n ≤ 7) : ∃ F, F < 128 ∧ maskF n = nI F ∧ ∀ k, k < 7 → F.testBit (6 - k) = fre n 0 [] k :=
  (show ∀ n, n < 8 → ∃ F, F < 128 ∧ maskF n = nI F ∧ ∀ k, k < 7 → F.testBit (6 - k) = fre n 0 [] k by decide +kernel) n (by omega)
/-- what the whole search leaves alone besides: the arrays of basket and offers -/
theorem fill_M (os : Nat → ofr) (o n : Nat) (cI : Int32) (s : VM) {k : Nat} (h1 : Nat.beq k 13 = false) (h2 : Nat.beq k 14 = false) (h3 : Nat.beq k 15 = false) (h4 : Nat.beq k 16 = false) : (fillF os o n cI s).2 k = s.2 k := by
  have hfo : ∀ (s : VM) z, (foF os o n cI s z).2 k = s.2 k := fun s z => itr_M (fun i s => by
    show (fiF os o n cI i (s.1, sM s.2 16 (setF 8 (s.2 16) (nI i) (s.1 9))) o).2 k = s.2 k
    rw [fiF_M os o n cI i _ o h1 h2 h3]
    exact sM_ne h4) s z
  have hft : ∀ (s : VM) z, (ftF n s z).2 k = s.2 k := fun s z => itr_M (fun i s => sM_ne h4) s z
  unfold fillF
  rw [hft, hfo]
set_option maxHeartbeats 1000000 in
/-- the class's search from its start -/
theorem run_spec {q : tq} (hq : qOK q) {n o : Nat} {sz : Nat → Nat} {B : Nat → Nat → Int32} {os : Nat → ofr} {cI : Int32} {s : VM} (hH : fiH q n o sz B os cI s.2) (hO : ofH q s.2) (hL6 : ∀ j, o ≤ j → j < 6 → qL q j = 0) (hT6 : ∀ j, o ≤ j → qT q j = false) (hsum : priceOfF (s.2 4) (maskF n) n = nI (qsum q) ∧ qsum q < 2 ^ 20) :
    bC q (bst q (-1, []) (lvs q (usA3 q n o sz B) n 0 [])) (runF os o n cI s) ∧ srC q (usA3 q n o sz B) n (stF (runF os o n cI s).2) (runF os o n cI s).1 (runF os o n cI s).2 ∧ (∀ j, j < 6 → (runF os o n cI s).2 17 j = nI (qL q j)) ∧ HL (runF os o n cI s) (GL q n o sz B n) ∧ (∀ z, z ≤ 7 → (runF os o n cI s).2 16 z = nI (stF (runF os o n cI s).2 z) ∧ stF (runF os o n cI s).2 z ≤ 210) ∧ (runF os o n cI s).1 7 = -1 ∧
      (∀ z, Nat.beq z 13 = false → Nat.beq z 14 = false → Nat.beq z 15 = false → Nat.beq z 16 = false → Nat.beq z 17 = false → Nat.beq z 18 = false → Nat.beq z 19 = false → Nat.beq z 20 = false → Nat.beq z 21 = false → (runF os o n cI s).2 z = s.2 z) := by
  have hH0 := hH
  obtain ⟨hn, ho, hk, hb, hr, hL, hL9, hT, hsz⟩ := hH
  obtain ⟨huOK, hpc⟩ := us_OK (q := q) hn ho hb hr hT hsz
  obtain ⟨f1, f2⟩ := fill_spec hH0
  have hlen := GL_len (q := q) (B := B) hn ho (fun j hj hT => (hsz j hj hT).2.2) (Nat.le_refl n)
  have hfM : ∀ {z : Nat}, Nat.beq z 13 = false → Nat.beq z 14 = false → Nat.beq z 15 = false → Nat.beq z 16 = false → (fillF os o n cI s).2 z = s.2 z := fun a b c d => fill_M os o n cI s a b c d
  have e4 := hfM (z := 4) rfl rfl rfl rfl
  have e7 := hfM (z := 7) rfl rfl rfl rfl
  have e8 := hfM (z := 8) rfl rfl rfl rfl
  have e9 := hfM (z := 9) rfl rfl rfl rfl
  have e10 := hfM (z := 10) rfl rfl rfl rfl
  have f3 := stF_ok (fillF_st os o n hn cI s)
  unfold runF
  generalize fillF os o n cI s = t at f1 f2 f3 e4 e7 e8 e9 e10 hfM
  have hgl : ∀ p, p < n → ∀ (i : Nat) (u : us3), (usA3 q n o sz B p)[i]? = some u → (GL q n o sz B n)[(GL q n o sz B p).length + i]? = some u := fun p hp i u hi => by
    have hsplit : ∀ d, (GL q n o sz B (p + 1 + d))[(GL q n o sz B p).length + i]? = some u := by
      intro d
      have hil : i < (usA3 q n o sz B p).length := (List.getElem?_eq_some_iff.mp hi).1
      induction d with
      | zero =>
        show (GL q n o sz B (p + 1))[(GL q n o sz B p).length + i]? = some u
        rw [GL_s, List.getElem?_append_right (by omega), Nat.add_sub_cancel_left]
        exact hi
      | succ d ih =>
        show (GL q n o sz B (p + 1 + d + 1))[(GL q n o sz B p).length + i]? = some u
        rw [GL_s, List.getElem?_append_left (List.getElem?_eq_some_iff.mp ih).1]
        exact ih
    have := hsplit (n - (p + 1))
    rw [show p + 1 + (n - (p + 1)) = n by omega] at this
    exact this
  have hu9 : unF t.1 = (GL q n o sz B n).length := by
    unfold unF
    rw [f1.1, nI_clamp (by omega)]
  have hmem : ∀ (i : Nat) (u : us3), (GL q n o sz B n)[i]? = some u → ∃ p, p < n ∧ u ∈ usA3 q n o sz B p := fun i u hi => by
    obtain ⟨p, hp, h⟩ := List.mem_flatMap.mp (List.mem_of_getElem? hi)
    exact ⟨p, List.mem_range.mp hp, h⟩
  obtain ⟨w, w1, w2, w3⟩ := sort_spec (q := q) (g := t.2 9) (b := t.2 18) (fun j hj => by rw [e9]; exact ⟨(hO.2.2.2 j hj).1, (hO.2.2.2 j hj).2.1⟩) 6 (Nat.le_refl _)
  obtain ⟨sh, sh1, sh2⟩ := shA_spec (M := (sM (sM t.2 17 (lfA os o (t.2 10) cI (t.2 17) 6)) 18 (sortA (t.2 9) (t.2 18) 6))) (l := GL q n o sz B n) (b := shZ (t.2 19) 7) (fun i u hi => by
    obtain ⟨p, hp, hu⟩ := hmem i u hi
    obtain ⟨-, u2, u3, -⟩ := huOK p hp u hu
    have h1 := f1.2 i u hi
    have h2 := (List.getElem?_eq_some_iff.mp hi).1
    exact ⟨by omega, h1.2.1, h1.2.2, u2, u3, (hpc p hp u hu).2.1⟩) (fun k hk => shZ_spec (Nat.le_refl _) hk) (GL q n o sz B n).length (Nat.le_refl _)
  have hsr : srC q (usA3 q n o sz B) n (stF t.2) (preF os o n cI t).1 (preF os o n cI t).2 := by
    have e18 : (preF os o n cI t).2 18 = sortA (t.2 9) (t.2 18) 6 := by
      unfold preF
      dsimp only
      rw [sM_ne (show Nat.beq 18 19 = false from rfl), sM_at]
    refine ⟨⟨?_, hsum.2, ?_, ?_, ?_, ?_, w, ?_, w2, w3⟩, huOK, fun p hp => ?_, fun p hp u hu => (us_mem hu).2.1, fun j hj => ?_, sh, ?_, fun p hp u hu => ?_⟩
    · show priceOfF (t.2 4) (maskF n) n = nI (qsum q)
      rw [e4]
      exact hsum.1
    · show ∀ j, j < 6 → ∃ R, R < 64 ∧ t.2 7 j = nI R ∧ ∀ i, i < 6 → R.testBit i = qrv q i j
      rw [e7]
      exact hO.1
    · show ∀ j, j < 6 → qT q j = true → t.2 8 j = nI (qth q j) ∧ 0 < qth q j ∧ qth q j < 2 ^ 19
      rw [e8]
      exact hO.2.1
    · show ∀ j, j < 6 → qT q j = false → t.2 8 j ≤ 0
      rw [e8]
      exact hO.2.2.1
    · show ∀ j, j < 6 → t.2 9 j = nI (qam q j) ∧ qam q j < 2 ^ 16 ∧ (qT q j = false → qam q j = 0)
      rw [e9]
      exact hO.2.2.2
    · rw [e18]
      exact fun i hi => ⟨(w1 i hi).2, (w1 i hi).1⟩
    · have hmono : ∀ {a b : Nat}, a ≤ b → (GL q n o sz B a).length ≤ (GL q n o sz B b).length := fun h => GL_mono q n o sz B h
      have g1 := f2 p (by omega)
      have g2 := f2 (p + 1) (by omega)
      rw [if_pos (by omega)] at g1 g2
      refine ⟨?_, fun i u hi => ?_⟩
      · rw [g1, g2, GL_s, List.length_append]
        omega
      · have h3 := hgl p hp i u hi
        have h4 := (List.getElem?_eq_some_iff.mp h3).1
        rw [g1]
        exact ⟨by omega, f1.2 _ u h3⟩
    · by_cases e : j < o
      · exact hL9 j e
      · rw [hL6 j (by omega) hj]
        omega
    · show ∀ k, k < 7 → sharesF (sM (sM t.2 17 (lfA os o (t.2 10) cI (t.2 17) 6)) 18 (sortA (t.2 9) (t.2 18) 6)) (unF t.1) k = nI (sh k) ∧ sh k ≤ 4200000
      rw [hu9]
      exact sh1
    · obtain ⟨i, hi⟩ := List.getElem?_of_mem hu
      have h3 := hgl p hp i u hi
      have h4 := (List.getElem?_eq_some_iff.mp h3).1
      have h5 := sh2 _ u h4 h3
      obtain ⟨-, u2, u3, -⟩ := huOK p hp u hu
      obtain ⟨-, p1, p5⟩ := hpc p hp u hu
      have h6 : sm (fun k => if u.2.1.testBit (6 - k) = true then u.2.2 * 60 / pc u.2.1 else 0) 7 ≤ sm (fun k => if u.2.1.testBit (6 - k) = true then sh k else 0) 7 := sm_le (fun k hk => by
        by_cases e : u.2.1.testBit (6 - k) = true
        · rw [if_pos e, if_pos e]
          exact h5 k hk e
        · rw [if_neg e]
          exact Nat.zero_le _)
      rw [sm_scale, pc_sm u2, div60 p1 p5] at h6
      exact h6
  obtain ⟨F, hF, eF, hFb⟩ := mask_nat hn
  have h17 : ∀ j, j < 6 → (preF os o n cI t).2 17 j = nI (qL q j) := fun j hj => by
    show lfA os o (t.2 10) cI (t.2 17) 6 j = nI (qL q j)
    rw [lfA_spec (Nat.le_refl _) hj, e10]
    by_cases e : j < o
    · exact hL j e
    · unfold leftF
      rw [if_neg e, hL6 j (by omega) hj]
      rfl
  have hnode : nC q n 0 [] F 0 (preF os o n cI t).2 := ⟨⟨hF, hFb⟩, ⟨by decide, fun j _ => Nat.zero_testBit j⟩, fun j hj => by rw [show uC [] j = 0 from rfl, Nat.sub_zero]; exact h17 j hj, rfl⟩
  have hB0 : bC q (-1, []) (preF os o n cI t) := ⟨by show (-1 : Int32).toInt = -1; decide, fun h => absurd h (by decide)⟩
  have hmain := decF_spec hq hn 7 0 rfl [] F 0 (-1, []) (preF os o n cI t) hsr ⟨Nat.le_refl _, ⟨fun u hu => (List.not_mem_nil hu).elim, fun j _ => Nat.zero_le _⟩⟩ hnode hB0
  have dM : ∀ z, decK z → (decF (stF t.2) (7 + 1) 0 (nI F) (nI (uD [])) (nI 0) (preF os o n cI t)).2 z = (preF os o n cI t).2 z := fun z hz => decF_M _ hz _ _ _ _ _ _
  have dV : ∀ {z : Nat}, Nat.beq z 5 = false → Nat.beq z 6 = false → (decF (stF t.2) (7 + 1) 0 (nI F) (nI (uD [])) (nI 0) (preF os o n cI t)).1 z = (preF os o n cI t).1 z := fun a b => decF_V _ a b _ _ _ _ _ _
  rw [eF]
  show bC q _ (decF (stF t.2) (7 + 1) 0 (nI F) (nI (uD [])) (nI 0) (preF os o n cI t)) ∧ _
  have e16 : (decF (stF t.2) (7 + 1) 0 (nI F) (nI (uD [])) (nI 0) (preF os o n cI t)).2 16 = t.2 16 := dM 16 ⟨rfl, rfl, rfl⟩
  have est : stF (decF (stF t.2) (7 + 1) 0 (nI F) (nI (uD [])) (nI 0) (preF os o n cI t)).2 = stF t.2 := stF_K e16
  refine ⟨hmain.2.2, ?_, fun j hj => (hmain.1 j hj).trans (h17 j hj), HL_K f1 (dV rfl rfl) (dM 13 ⟨rfl, rfl, rfl⟩) (dM 14 ⟨rfl, rfl, rfl⟩) (dM 15 ⟨rfl, rfl, rfl⟩), fun z hz => ?_, dV rfl rfl, fun z h13 h14 h15 h16 h17' h18 h19 h20 h21 => ?_⟩
  · show srC q _ n (stF (decF (stF t.2) (7 + 1) 0 (nI F) (nI (uD [])) (nI 0) (preF os o n cI t)).2) _ _
    rw [est]
    exact srC_K hsr dM (dV rfl rfl)
  · show (decF (stF t.2) (7 + 1) 0 (nI F) (nI (uD [])) (nI 0) (preF os o n cI t)).2 16 z = nI (stF (decF (stF t.2) (7 + 1) 0 (nI F) (nI (uD [])) (nI 0) (preF os o n cI t)).2 z) ∧ stF (decF (stF t.2) (7 + 1) 0 (nI F) (nI (uD [])) (nI 0) (preF os o n cI t)).2 z ≤ 210
    rw [est, e16]
    have := f3 z hz
    rw [atF_nI (by omega) (by decide)] at this
    exact this
  · refine (dM z ⟨h17', h20, h21⟩).trans ?_
    refine Eq.trans ?_ (hfM (z := z) h13 h14 h15 h16)
    unfold preF
    dsimp only
    rw [sM_ne h19, sM_ne h18, sM_ne h17']
