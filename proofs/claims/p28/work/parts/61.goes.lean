/-! THE MODEL'S SEARCH finds the first best set of the same tree. -/
def KB (B : Nat → Nat → Int32) (s : VM) : Prop := ∀ k, gkM k → s.2 k = B k
theorem gk_of {k : Nat} (h : k < 15 ∨ k = 20 ∨ 26 ≤ k) : gkM k := by
  unfold gkM
  have e : ∀ i : Nat, k ≠ i → Nat.beq k i = false := fun i h => by
    cases hb : Nat.beq k i
    · rfl
    · exact absurd (Nat.eq_of_beq_eq_true hb) h
  exact ⟨e _ (by omega), e _ (by omega), e _ (by omega), e _ (by omega), e _ (by omega), e _ (by omega), e _ (by omega), e _ (by omega), e _ (by omega), e _ (by omega)⟩
theorem itr_ext {α : Type} {f g : Nat → α → α} (h : ∀ i s, f i s = g i s) (n : Nat) (a : α) : itr f n a = itr g n a := itr_congr (fun i _ s => h i s)
theorem szM_B {B : Nat → Nat → Int32} {s : VM} (h : KB B s) (j : Nat) : szM s.2 j = szM B j := by
  unfold szM
  rw [h 6 (gk_of (by omega)), h 8 (gk_of (by omega)), h 9 (gk_of (by omega))]
theorem lfM_B {B : Nat → Nat → Int32} {s : VM} (h : KB B s) (c j : Nat) : lfM c s.2 j = lfM c B j := by
  unfold lfM
  rw [h 11 (gk_of (by omega)), h (c + 26) (gk_of (by omega))]
theorem prM_B {B : Nat → Nat → Int32} {s : VM} (h : KB B s) (k : Nat) : prM s.2 k = prM B k := by
  unfold prM
  rw [h 2 (gk_of (by omega)), h 14 (gk_of (by omega))]
theorem kdM_B {B : Nat → Nat → Int32} {s : VM} (h : KB B s) (k : Nat) : kdM s.2 k = kdM B k := by
  unfold kdM
  rw [h 1 (gk_of (by omega)), h 14 (gk_of (by omega))]
theorem wtM_B {B : Nat → Nat → Int32} {s : VM} (h : KB B s) (j : Nat) (kd : Int32) : wtM s.2 j kd = wtM B j kd := by
  unfold wtM
  rw [szM_B h, h 6 (gk_of (by omega)), h 7 (gk_of (by omega)), h 8 (gk_of (by omega)), h 9 (gk_of (by omega))]
theorem cnM_B {B : Nat → Nat → Int32} {s : VM} (h : KB B s) (set kd : Int32) (n : Nat) : cnM s.2 set kd n = cnM B set kd n := by
  unfold cnM
  refine itr_ext (fun i m => ?_) n 0
  unfold cnS
  rw [kdM_B h]
theorem fiL_B {B : Nat → Nat → Int32} {s : VM} (h : KB B s) (n j : Nat) (set : Int32) : ∀ k i, fiL s.2 n j set i k = fiL B n j set i k
  | 0, _ => rfl
  | k + 1, i => by rw [fiL, fiL, cnM_B h, wtM_B h, fiL_B h n j set k (i + 1)]
theorem dsM_B {B : Nat → Nat → Int32} {s : VM} (h : KB B s) (set : Int32) (n : Nat) : dsM s.2 set n = dsM B set n := by
  unfold dsM
  exact itr_ext (fun i m => by rw [prM_B h]) n 0
theorem dcM_B {B : Nat → Nat → Int32} {s : VM} (h : KB B s) (set : Int32) (n : Nat) : dcM s.2 set n = dcM B set n := by
  unfold dcM
  exact itr_ext (fun i m => by rw [prM_B h]) n 9999
theorem diM_B {B : Nat → Nat → Int32} {s : VM} (h : KB B s) (n j : Nat) (set : Int32) : diM s.2 n j set = diM B n j set := by
  unfold diM
  rw [dsM_B h, dcM_B h, h 6 (gk_of (by omega)), h 8 (gk_of (by omega)), h 10 (gk_of (by omega))]
theorem goM_B {B : Nat → Nat → Int32} {s : VM} (h : KB B s) (n j : Nat) (set : Int32) : goM s.2 n j set = goM B n j set := by
  unfold goM fiM
  rw [szM_B h, fiL_B h, diM_B h, h 6 (gk_of (by omega))]
def mkU (B : Nat → Nat → Int32) (n j m : Nat) : Option us3 := if goM B n j (nI (rv7 m)) = 0 then none else some (j, m, (diM B n j (nI (rv7 m))).toNatClampNeg)
def usj (q : tq) (n : Nat) (sz : Nat → Nat) (B : Nat → Nat → Int32) (p j : Nat) : List us3 := if qT q j = true then [] else if qL q j = 0 then [] else (ml n p (sz j)).filterMap (mkU B n j)
def usA3 (q : tq) (n o : Nat) (sz : Nat → Nat) (B : Nat → Nat → Int32) (p : Nat) : List us3 := (List.range o).flatMap (usj q n sz B p)
/-- what is known of the model's arrays in a search -/
def srM (q : tq) (n o c : Nat) (sz hp : Nat → Nat) (B : Nat → Nat → Int32) : Prop :=
  n ≤ 7 ∧ o ≤ 6 ∧ uOK n (usA3 q n o sz B) ∧ (∀ j, j < 6 → qL q j ≤ 9) ∧ (∀ j, o ≤ j → qT q j = false) ∧ (∀ j, j < o → lfM c B j = nI (qL q j)) ∧ (∀ j, j < o → (B 6 j = 116 ↔ qT q j = true)) ∧
  (∀ j, j < o → qT q j = true → B 7 j = nI (qth q j) ∧ B 8 j = nI (qam q j) ∧ qth q j < 2 ^ 19 ∧ qam q j < 2 ^ 16) ∧ (∀ j, j < o → B 12 j = -1 ∨ ∃ g, g < 4 ∧ B 12 j = nI g) ∧
  (∀ i j, qrv q i j = true ↔ i < o ∧ j < o ∧ i ≠ j ∧ B 12 i = B 12 j ∧ ¬ B 12 j = -1) ∧ qsum q < 2 ^ 20 ∧ (∀ j, j < o → qT q j = false → szM B j = nI (sz j) ∧ 1 ≤ sz j ∧ sz j ≤ 5) ∧
  (∀ j, j < o → qT q j = false → ∀ X, X < 128 → ¬ goM B n j (nI X) = 0 → ∃ d, d ≤ 70000 ∧ diM B n j (nI X) = nI d) ∧
  (∀ p, p ≤ n → B 20 p = nI (hp p) ∧ hp p ≤ 490000) ∧ (∀ p, p < n → ∀ u ∈ usA3 q n o sz B p, u.2.2 + hp (p + 1) ≤ hp p) ∧ (∀ p, p < n → hp (p + 1) ≤ hp p)
def uX : List us3 → Nat → Int32
  | [], _ => -1
  | u :: r, k => if u.2.1.testBit (6 - k) = true then nI r.length else uX r k
def lsR (f g : Nat → Int32) : List us3 → Prop
  | [] => True
  | u :: r => f r.length = nI u.1 ∧ g r.length = nI u.2.2 ∧ lsR f g r
theorem lsR_K {f f' g g' : Nat → Int32} : ∀ {acc : List us3}, (∀ i, i < acc.length → f' i = f i ∧ g' i = g i) → lsR f g acc → lsR f' g' acc
  | [], _, _ => trivial
  | u :: r, h, ⟨h1, h2, h3⟩ => ⟨(h r.length (Nat.lt_succ_self _)).1.trans h1, (h r.length (Nat.lt_succ_self _)).2.trans h2, lsR_K (fun i hi => h i (Nat.lt_succ_of_lt hi)) h3⟩
/-- who has a group -/
def owR (B : Nat → Nat → Int32) (f : Nat → Int32) (acc : List us3) : Prop := ∀ g, g < 4 → (f g = -1 ∧ ∀ u ∈ acc, ¬ B 12 u.1 = nI g) ∨ ∃ u ∈ acc, B 12 u.1 = nI g ∧ f g = nI u.1
/-- a node of the model's search -/
def mN (q : tq) (n o p : Nat) (acc : List us3) (Tk : Nat) (B : Nat → Nat → Int32) (s : VM) : Prop :=
  (Tk < 128 ∧ ∀ k, k < 7 → Tk.testBit k = uK acc k) ∧ s.1 6 = nI acc.length ∧ (∀ j, j < o → s.2 16 j = nI (uC acc j)) ∧ owR B (s.2 17) acc ∧ (∀ k, k < n → (k < p ∨ uK acc k = true) → s.2 15 k = uX acc k) ∧ lsR (s.2 18) (s.2 19) acc ∧ (∀ u ∈ acc, u.1 < o) ∧ ∀ i i', uO acc i = true → uO acc i' = true → qrv q i i' = false
def mB (q : tq) (n o : Nat) (B : Int × List us3) (s : VM) : Prop := (s.1 8).toInt = B.1 ∧ (0 ≤ B.1 → s.1 10 = nI (uD B.2) ∧ s.1 9 = nI B.2.length ∧ (∀ k, k < n → s.2 21 k = uX B.2 k) ∧ (∀ j, j < o → s.2 22 j = nI (uC B.2 j)) ∧ lsR (s.2 23) (s.2 24) B.2 ∧ ∀ j, j < o → s.2 25 j = if sel q B.2 j = true then 1 else 0)
theorem mB_K {q : tq} {n o : Nat} {B : Int × List us3} {s s' : VM} (h : mB q n o B s) (h8 : s'.1 8 = s.1 8) (h9 : s'.1 9 = s.1 9) (h10 : s'.1 10 = s.1 10) (h21 : s'.2 21 = s.2 21) (h22 : s'.2 22 = s.2 22) (h23 : s'.2 23 = s.2 23) (h24 : s'.2 24 = s.2 24) (h25 : s'.2 25 = s.2 25) : mB q n o B s' := by
  unfold mB
  rw [h8, h9, h10, h21, h22, h23, h24, h25]
  exact h
theorem uO_of {acc : List us3} {u : us3} (h : u ∈ acc) : uO acc u.1 = true := by
  induction acc with
  | nil => exact nomatch h
  | cons v r ih =>
    rw [uO, Bool.or_eq_true, decide_eq_true_eq]
    rcases List.mem_cons.mp h with rfl | h
    · exact Or.inl rfl
    · exact Or.inr (ih h)
/-- no offer in use is of j's group: as the owners tell it -/
theorem own_none {q : tq} {n o c : Nat} {sz hp : Nat → Nat} {B : Nat → Nat → Int32} (hS : srM q n o c sz hp B) {f : Nat → Int32} {acc : List us3} (hO : owR B f acc) (ha : ∀ u ∈ acc, u.1 < o) {j : Nat} (hj : j < o) (hne : ∀ u ∈ acc, u.1 ≠ j) : (B 12 j = -1 ∨ f (B 12 j).toNatClampNeg = -1) ↔ ∀ i, i < 6 → uO acc i = true → qrv q i j = false := by
  obtain ⟨hn, ho, -, -, -, -, -, -, hg, hr, -⟩ := hS
  constructor
  · intro h i hi hu
    obtain ⟨u, hu1, hu2⟩ := uO_mem hu
    cases e : qrv q i j
    · rfl
    · obtain ⟨-, -, -, e1, e2⟩ := (hr i j).mp e
      exfalso
      rcases h with h | h
      · exact e2 h
      · rcases hg j hj with h3 | ⟨g, hg4, h3⟩
        · exact e2 h3
        · rw [h3, nI_clamp (by omega)] at h
          rcases hO g hg4 with ⟨-, h5⟩ | ⟨v, hv, h5, h6⟩
          · exact h5 u hu1 (by rw [hu2, e1, h3])
          · rw [h] at h6
            have hv1 := ha v hv
            have h7 := congrArg Int32.toInt h6
            rw [nI_toInt (by omega)] at h7
            have h8 : (-1 : Int32).toInt = -1 := by decide
            omega
  · intro h
    by_cases e : B 12 j = -1
    · exact Or.inl e
    · right
      rcases hg j hj with h3 | ⟨g, hg4, h3⟩
      · exact absurd h3 e
      · rw [h3, nI_clamp (by omega)]
        rcases hO g hg4 with ⟨h4, -⟩ | ⟨v, hv, h5, -⟩
        · exact h4
        · have := h v.1 (by have := ha v hv; omega) (uO_of hv)
          rw [(hr v.1 j).mpr ⟨ha v hv, hj, hne v hv, by rw [h5, h3], e⟩] at this
          cases this
theorem ca_spec {q : tq} {n o c : Nat} {sz hp : Nat → Nat} {B : Nat → Nat → Int32} (hS : srM q n o c sz hp B) {s : VM} (hK : KB B s) {acc : List us3} (hO : owR B (s.2 17) acc) (ha : ∀ u ∈ acc, u.1 < o ∧ qT q u.1 = false) (hD : uD acc < 2 ^ 19) {j : Nat} (hj : j < o) : caM c s.2 j (nI (uD acc)) (nI (qsum q)) = if can q acc j = true then 1 else 0 := by
  have hS0 := hS
  obtain ⟨hn, ho, -, hL9, -, hlf, h6, h7, hg, hr, hsum, -⟩ := hS
  have e12 : s.2 12 = B 12 := hK 12 (gk_of (by omega))
  unfold caM
  rw [lfM_B hK, hK 6 (gk_of (by omega)), hK 7 (gk_of (by omega)), e12, hlf j hj]
  have hL := hL9 j (by omega)
  by_cases eT : qT q j = true
  · rw [if_pos ((h6 j hj).mpr eT)]
    obtain ⟨e7, -, t1, -⟩ := h7 j hj eT
    rw [e7]
    have hown := own_none hS0 hO (fun u hu => (ha u hu).1) hj (fun u hu e => by have := (ha u hu).2; rw [e, eT] at this; cases this)
    by_cases e1 : nI (qL q j) ≤ 0
    · have h0 := (nI_le0 (by omega)).mp e1
      rw [if_pos e1, if_neg (fun h => by have := (can_iff.mp h).2.1; omega)]
    · rw [if_neg e1]
      have hL0 : 0 < qL q j := by
        rcases Nat.eq_zero_or_pos (qL q j) with e | e
        · exact absurd ((nI_le0 (by omega)).mpr e) e1
        · exact e
      by_cases e2 : nI (qsum q) - nI (uD acc) < nI (qth q j)
      · have h0 := (nI_sublt hsum (by omega) (by omega)).mp e2
        rw [if_pos e2, if_neg (fun h => by have := (can_iff.mp h).2.2.1; omega)]
      · have h0 := mt (nI_sublt hsum (by omega) (by omega)).mpr e2
        rw [if_neg e2]
        by_cases e3 : can q acc j = true
        · rw [if_pos e3]
          have h4 := hown.mpr (can_iff.mp e3).2.2.2
          by_cases e5 : B 12 j = -1
          · rw [if_pos e5]
          · rw [if_neg e5]
            rcases h4 with h4 | h4
            · exact absurd h4 e5
            · rw [if_pos h4]
        · rw [if_neg e3]
          have h4 : ¬ (B 12 j = -1 ∨ s.2 17 (B 12 j).toNatClampNeg = -1) := fun h => e3 (can_iff.mpr ⟨eT, hL0, by omega, hown.mp h⟩)
          rw [if_neg (fun h => h4 (Or.inl h)), if_neg (fun h => h4 (Or.inr h))]
  · rw [if_neg (fun h => eT ((h6 j hj).mp h)), if_neg (fun h => eT (can_iff.mp h).1)]
theorem ma_spec {q : tq} {n o c : Nat} {sz hp : Nat → Nat} {B : Nat → Nat → Int32} (hS : srM q n o c sz hp B) {s : VM} (hK : KB B s) {p : Nat} {acc : List us3} {Tk : Nat} (hN : mN q n o p acc Tk B s) (ha : accOK q p acc) {j : Nat} (hj : j < o) : maM c s.2 j = 0 ↔ ¬ (qT q j = false ∧ uC acc j < qL q j ∧ ∀ i, i < 6 → uO acc i = true → qrv q i j = false) := by
  have hS0 := hS
  obtain ⟨hn, ho, -, hL9, -, hlf, h6, h7, hg, hr, hsum, -⟩ := hS
  obtain ⟨-, -, h16, hO, -, -, hao, hpair⟩ := hN
  have e12 : s.2 12 = B 12 := hK 12 (gk_of (by omega))
  unfold maM
  rw [lfM_B hK, hK 6 (gk_of (by omega)), e12, hlf j hj, h16 j hj]
  have hL := hL9 j (by omega)
  have hC := ha.2.2 j (by omega)
  by_cases eT : qT q j = true
  · rw [if_pos ((h6 j hj).mpr eT)]
    exact ⟨fun _ ⟨h, _⟩ => absurd (eT.symm.trans h) (by decide), fun _ => rfl⟩
  · have eT' : qT q j = false := by
      cases h : qT q j
      · rfl
      · exact absurd h eT
    rw [if_neg (fun h => eT ((h6 j hj).mp h))]
    by_cases e1 : nI (qL q j) ≤ nI (uC acc j)
    · rw [if_pos e1]
      have := (nI_leI (by omega) (by omega)).mp e1
      exact ⟨fun _ ⟨_, h, _⟩ => by omega, fun _ => rfl⟩
    · rw [if_neg e1]
      have hlt : uC acc j < qL q j := by
        by_cases e : uC acc j < qL q j
        · exact e
        · exact absurd ((nI_leI (by omega) (by omega)).mpr (by omega)) e1
      by_cases e2 : B 12 j = -1
      · rw [if_pos e2]
        refine ⟨fun h => absurd h (by decide), fun h => absurd ⟨eT', hlt, fun i hi ho => ?_⟩ h⟩
        cases e : qrv q i j
        · rfl
        · exact absurd e2 ((hr i j).mp e).2.2.2.2
      · rw [if_neg e2]
        rcases hg j hj with h3 | ⟨g, hg4, h3⟩
        · exact absurd h3 e2
        · rw [h3, nI_clamp (by omega)]
          rcases hO g hg4 with ⟨h4, h5⟩ | ⟨v, hv, h5, h6'⟩
          · rw [if_pos h4]
            refine ⟨fun h => absurd h (by decide), fun h => absurd ⟨eT', hlt, fun i hi ho => ?_⟩ h⟩
            obtain ⟨w, hw, ew⟩ := uO_mem ho
            cases e : qrv q i j
            · rfl
            · obtain ⟨-, -, -, e5, -⟩ := (hr i j).mp e
              exact absurd (by rw [ew, e5, h3]) (h5 w hw)
          · have hvo := hao v hv
            have hne1 : ¬ nI v.1 = -1 := fun h => by
              have h7 := congrArg Int32.toInt h
              rw [nI_toInt (by omega)] at h7
              have h8 : (-1 : Int32).toInt = -1 := by decide
              omega
            rw [h6', if_neg hne1]
            by_cases e4 : nI v.1 = nI j
            · rw [if_pos e4]
              have e5 : v.1 = j := (nI_eq (by omega) (by omega)).mp e4
              refine ⟨fun h => absurd h (by decide), fun h => absurd ⟨eT', hlt, fun i hi ho => ?_⟩ h⟩
              rw [← e5]
              exact hpair i v.1 ho (uO_of hv)
            · rw [if_neg e4]
              refine ⟨fun _ ⟨_, _, h⟩ => ?_, fun _ => rfl⟩
              have h9 := h v.1 (by omega) (uO_of hv)
              rw [(hr v.1 j).mpr ⟨hvo, hj, fun e => e4 (by rw [e]), by rw [h5, h3], e2⟩] at h9
              cases h9
theorem is_spec {q : tq} {n o c : Nat} {sz hp : Nat → Nat} {B : Nat → Nat → Int32} (hS : srM q n o c sz hp B) {s : VM} (hK : KB B s) {acc : List us3} (hO : owR B (s.2 17) acc) (ha : ∀ u ∈ acc, u.1 < o ∧ qT q u.1 = false) (hD : uD acc < 2 ^ 19) {j : Nat} (hj : j < o) : isF c s.2 (nI (uD acc)) (nI (qsum q)) j o = if sel q acc j = true then 1 else 0 := by
  have hS0 := hS
  obtain ⟨hn, ho, -, hL9, -, hlf, h6, h7, hg, hr, hsum, -⟩ := hS
  have e12 : s.2 12 = B 12 := hK 12 (gk_of (by omega))
  have e8 : s.2 8 = B 8 := hK 8 (gk_of (by omega))
  have key : ∀ i, i ≤ o → (isF c s.2 (nI (uD acc)) (nI (qsum q)) j i = 1 ∧ can q acc j = true ∧ ∀ z, z < i → qrv q z j = true → can q acc z = true → bt q j z = true) ∨ (isF c s.2 (nI (uD acc)) (nI (qsum q)) j i = 0 ∧ ¬ (can q acc j = true ∧ ∀ z, z < i → qrv q z j = true → can q acc z = true → bt q j z = true)) := by
    intro i
    induction i with
    | zero =>
      intro _
      have e : isF c s.2 (nI (uD acc)) (nI (qsum q)) j 0 = caM c s.2 j (nI (uD acc)) (nI (qsum q)) := rfl
      rw [e, ca_spec hS0 hK hO ha hD hj]
      by_cases h : can q acc j = true
      · rw [if_pos h]
        exact Or.inl ⟨rfl, h, fun z hz => absurd hz (Nat.not_lt_zero _)⟩
      · rw [if_neg h]
        exact Or.inr ⟨rfl, fun h2 => h h2.1⟩
    | succ i ih =>
      intro hi
      have es : isF c s.2 (nI (uD acc)) (nI (qsum q)) j (i + 1) = isS c s.2 (nI (uD acc)) (nI (qsum q)) j i (isF c s.2 (nI (uD acc)) (nI (qsum q)) j i) := rfl
      rcases ih (by omega) with ⟨h1, h2, h3⟩ | ⟨h1, h2⟩
      · rw [es, h1]
        unfold isS
        rw [if_neg (by decide), e12, e8, ca_spec hS0 hK hO ha hD (show i < o by omega)]
        have good : (qrv q i j = true → can q acc i = true → bt q j i = true) → ∀ z, z < i + 1 → qrv q z j = true → can q acc z = true → bt q j z = true := fun h z hz => by
          by_cases e : z = i
          · rw [e]; exact h
          · exact h3 z (by omega)
        by_cases e1 : nI i = nI j
        · have e1' : i = j := (nI_eq (by omega) (by omega)).mp e1
          rw [if_pos e1]
          exact Or.inl ⟨rfl, h2, good fun h => absurd e1' ((hr i j).mp h).2.2.1⟩
        · have e1' : i ≠ j := fun h => e1 (by rw [h])
          rw [if_neg e1]
          by_cases e2 : B 12 j = -1
          · rw [if_pos e2]
            exact Or.inl ⟨rfl, h2, good fun h => absurd e2 ((hr i j).mp h).2.2.2.2⟩
          · rw [if_neg e2]
            by_cases e3 : B 12 i = B 12 j
            · rw [if_pos e3]
              have hrv : qrv q i j = true := (hr i j).mpr ⟨by omega, hj, e1', e3, e2⟩
              by_cases e4 : can q acc i = true
              · rw [if_pos e4, if_neg (by decide)]
                obtain ⟨-, b1, -, a1⟩ := h7 i (by omega) (can_iff.mp e4).1
                obtain ⟨-, b2, -, a2⟩ := h7 j hj (can_iff.mp h2).1
                rw [b1, b2]
                by_cases e5 : nI (qam q i) < nI (qam q j)
                · have h5 := (nI_ltI (by omega) (by omega)).mp e5
                  rw [if_pos e5]
                  exact Or.inl ⟨rfl, h2, good fun _ _ => bt_iff.mpr (Or.inl h5)⟩
                · have h5 := mt (nI_ltI (by omega) (by omega)).mpr e5
                  rw [if_neg e5]
                  by_cases e6 : nI (qam q j) = nI (qam q i)
                  · have h6' := (nI_eq (by omega) (by omega)).mp e6
                    rw [if_pos e6]
                    by_cases e7 : nI i ≤ nI j
                    · have h7' := (nI_leI (by omega) (by omega)).mp e7
                      rw [if_pos e7]
                      exact Or.inr ⟨rfl, fun h => by
                        have := bt_iff.mp (h.2 i (Nat.lt_succ_self _) hrv e4)
                        omega⟩
                    · have h7' := mt (nI_leI (by omega) (by omega)).mpr e7
                      rw [if_neg e7]
                      exact Or.inl ⟨rfl, h2, good fun _ _ => bt_iff.mpr (Or.inr ⟨h6', by omega⟩)⟩
                  · have h6' : qam q j ≠ qam q i := fun h => e6 (by rw [h])
                    rw [if_neg e6]
                    exact Or.inr ⟨rfl, fun h => by
                      have := bt_iff.mp (h.2 i (Nat.lt_succ_self _) hrv e4)
                      omega⟩
              · rw [if_neg e4, if_pos rfl]
                exact Or.inl ⟨rfl, h2, good fun _ h => absurd h e4⟩
            · rw [if_neg e3]
              exact Or.inl ⟨rfl, h2, good fun h => absurd ((hr i j).mp h).2.2.2.1 e3⟩
      · rw [es, h1]
        exact Or.inr ⟨if_pos rfl, fun h => h2 ⟨h.1, fun z hz => h.2 z (by omega)⟩⟩
  rcases key o (Nat.le_refl _) with ⟨h1, h2, h3⟩ | ⟨h1, h2⟩
  · rw [h1, if_pos (sel_iff.mpr ⟨h2, fun i _ hrv => h3 i ((hr i j).mp hrv).1 hrv⟩)]
  · rw [h1, if_neg (fun h => h2 ⟨(sel_iff.mp h).1, fun z hz hrv => (sel_iff.mp h).2 z (by omega) hrv⟩)]
theorem sm_up {f : Nat → Nat} {o : Nat} (h0 : ∀ i, o ≤ i → f i = 0) : ∀ {n : Nat}, o ≤ n → sm f n = sm f o
  | 0, h => by rw [show o = 0 by omega]
  | n + 1, h => by
    by_cases e : o = n + 1
    · rw [e]
    · rw [sm, h0 n (by omega), sm_up h0 (by omega), Nat.add_zero]
theorem th_spec {q : tq} {n o c : Nat} {sz hp : Nat → Nat} {B : Nat → Nat → Int32} (hS : srM q n o c sz hp B) {s : VM} (hK : KB B s) {acc : List us3} (hO : owR B (s.2 17) acc) (ha : ∀ u ∈ acc, u.1 < o ∧ qT q u.1 = false) (hD : uD acc < 2 ^ 19) : thM c o s.2 (nI (uD acc)) (nI (qsum q)) o = nI (thr q acc) := by
  have key : ∀ i, i ≤ o → thM c o s.2 (nI (uD acc)) (nI (qsum q)) i = nI (sm (fun j => if sel q acc j = true then qam q j else 0) i) := by
    intro i
    induction i with
    | zero => intro _; rfl
    | succ i ih =>
      intro hi
      have es : thM c o s.2 (nI (uD acc)) (nI (qsum q)) (i + 1) = thS c o s.2 (nI (uD acc)) (nI (qsum q)) i (thM c o s.2 (nI (uD acc)) (nI (qsum q)) i) := rfl
      rw [es, ih (by omega), sm]
      unfold thS
      rw [is_spec hS hK hO ha hD (show i < o by omega), hK 8 (gk_of (by omega))]
      by_cases e : sel q acc i = true
      · rw [if_pos e, if_neg (by decide), if_pos e, (hS.2.2.2.2.2.2.2.1 i (by omega) (can_iff.mp (sel_iff.mp e).1).1).2.1, nI_add]
      · rw [if_neg e, if_pos rfl, if_neg e, Int32.add_zero]
        rfl
  rw [key o (Nat.le_refl _)]
  unfold thr
  rw [sm_up (o := o) (n := 6) (fun i hi => if_neg (fun h => by
    have h1 := (can_iff.mp (sel_iff.mp h).1).1
    rw [hS.2.2.2.2.1 i hi] at h1
    cases h1)) hS.2.1]
/-- what could be had of thresholds at most -/
def hpT (q : tq) (o : Nat) (acc : List us3) : Nat := sm (fun j => if can q acc j = true then qam q j else 0) o
theorem ho_spec {q : tq} {n o c : Nat} {sz hp : Nat → Nat} {B : Nat → Nat → Int32} (hS : srM q n o c sz hp B) {s : VM} (hK : KB B s) {acc : List us3} (hO : owR B (s.2 17) acc) (ha : ∀ u ∈ acc, u.1 < o ∧ qT q u.1 = false) (hD : uD acc < 2 ^ 19) : hoM c s.2 (nI (uD acc)) (nI (qsum q)) o = nI (hpT q o acc) := by
  have key : ∀ i, i ≤ o → hoM c s.2 (nI (uD acc)) (nI (qsum q)) i = nI (sm (fun j => if can q acc j = true then qam q j else 0) i) := by
    intro i
    induction i with
    | zero => intro _; rfl
    | succ i ih =>
      intro hi
      have es : hoM c s.2 (nI (uD acc)) (nI (qsum q)) (i + 1) = hoS c s.2 (nI (uD acc)) (nI (qsum q)) i (hoM c s.2 (nI (uD acc)) (nI (qsum q)) i) := rfl
      rw [es, ih (by omega), sm]
      unfold hoS
      rw [ca_spec hS hK hO ha hD (show i < o by omega), hK 8 (gk_of (by omega))]
      by_cases e : can q acc i = true
      · rw [if_pos e, if_neg (by decide), if_pos e, (hS.2.2.2.2.2.2.2.1 i (by omega) (can_iff.mp e).1).2.1, nI_add]
      · rw [if_neg e, if_pos rfl, if_neg e, Int32.add_zero]
        rfl
  exact key o (Nat.le_refl _)
theorem hpT_ge {q : tq} {n o c : Nat} {sz hp : Nat → Nat} {B : Nat → Nat → Int32} (hS : srM q n o c sz hp B) {acc L : List us3} (h : ext acc L) : thr q L ≤ hpT q o acc := by
  unfold thr
  rw [sm_up (o := o) (n := 6) (fun i hi => if_neg (fun h => by
    have h1 := (can_iff.mp (sel_iff.mp h).1).1
    rw [hS.2.2.2.2.1 i hi] at h1
    cases h1)) hS.2.1]
  refine sm_le (fun i hi => ?_)
  by_cases e : sel q L i = true
  · rw [if_pos e, if_pos (can_ext h (sel_iff.mp e).1)]
    exact Nat.le_refl _
  · rw [if_neg e]
    exact Nat.zero_le _
theorem hpT_lt {q : tq} {n o c : Nat} {sz hp : Nat → Nat} {B : Nat → Nat → Int32} (hS : srM q n o c sz hp B) (acc : List us3) : hpT q o acc < 2 ^ 19 := by
  have h1 : hpT q o acc ≤ sm (fun _ => 65535) o := sm_le (fun j hj => by
    by_cases e : can q acc j = true
    · have h2 := (hS.2.2.2.2.2.2.2.1 j hj (can_iff.mp e).1).2.2.2
      rw [if_pos e]
      omega
    · rw [if_neg e]
      exact Nat.zero_le _)
  have h2 : sm (fun _ => 65535) o ≤ sm (fun _ => 65535) 6 := by
    rcases (show o = 0 ∨ o = 1 ∨ o = 2 ∨ o = 3 ∨ o = 4 ∨ o = 5 ∨ o = 6 by have := hS.2.1; omega) with e | e | e | e | e | e | e <;> subst e <;> decide
  have h3 : sm (fun _ => 65535) 6 = 393210 := rfl
  omega
theorem cpA_spec {f b : Nat → Int32} : ∀ {i k : Nat}, k < i → cpA f b i k = f k
  | 0, _, h => absurd h (Nat.not_lt_zero _)
  | i + 1, k, h => by
    show upd (cpA f b i) i (f i) k = f k
    by_cases e : k = i
    · rw [e, upd_self9]
    · rw [upd_ne9 e, cpA_spec (by omega)]
theorem isA_spec {c o : Nat} {M : Nat → Nat → Int32} {off sum : Int32} {b : Nat → Int32} : ∀ {i k : Nat}, k < i → isA c o M off sum b i k = vp_nar .boolean (isF c M off sum k o)
  | 0, _, h => absurd h (Nat.not_lt_zero _)
  | i + 1, k, h => by
    show upd (isA c o M off sum b i) i (vp_nar .boolean (isF c M off sum i o)) k = vp_nar .boolean (isF c M off sum k o)
    by_cases e : k = i
    · rw [e, upd_self9]
    · rw [upd_ne9 e, isA_spec (by omega)]
theorem uoA_spec {set : Int32} {u : Nat} {f : Nat → Int32} : ∀ {i k : Nat}, uoA set u f i k = if k < i ∧ inB set k = 1 then nI u else f k
  | 0, k => by rw [if_neg (fun h => absurd h.1 (Nat.not_lt_zero _))]; rfl
  | i + 1, k => by
    show upd (uoA set u f i) i (if inB set i = 1 then nI u else uoA set u f i i) k = _
    by_cases e : k = i
    · subst e
      rw [upd_self9, uoA_spec, if_neg (fun h : k < k ∧ _ => absurd h.1 (Nat.lt_irrefl _))]
      by_cases e2 : inB set k = 1
      · rw [if_pos e2, if_pos ⟨Nat.lt_succ_self _, e2⟩]
      · rw [if_neg e2, if_neg (fun h => e2 h.2)]
    · rw [upd_ne9 e, uoA_spec]
      by_cases e2 : k < i ∧ inB set k = 1
      · rw [if_pos e2, if_pos ⟨by omega, e2.2⟩]
      · rw [if_neg e2, if_neg (fun h => e2 ⟨by omega, h.2⟩)]
