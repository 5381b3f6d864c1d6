/-! THE CLASS'S SEARCH finds the first best set of the tree. -/
theorem nI_div {a b : Nat} (ha : a < 2 ^ 31) (hb0 : 0 < b) (hb : b < 2 ^ 31) : nI a / nI b = nI (a / b) := by
  have hd : a / b ≤ a := Nat.div_le_self a b
  refine Int32.toInt_inj.mp ?_
  rw [Int32.toInt_div, nI_toInt ha, nI_toInt hb, nI_toInt (by omega), show ((a : Int).tdiv (b : Int)) = ((a / b : Nat) : Int) from (Int.ofNat_tdiv a b).symm]
  generalize a / b = r at hd ⊢
  exact Int.bmod_eq_of_le (by omega) (by omega)
theorem lt_nI {x : Int32} {v : Nat} (hv : v < 2 ^ 31) : x < nI v ↔ x.toInt < (v : Int) := by
  rw [Int32.lt_iff_toInt_lt, nI_toInt hv]
/-- what is known of the arrays of the search -/
def srC (q : tq) (us : Nat → List us3) (n : Nat) (st : Nat → Nat) (V : Nat → Int32) (M : Nat → Nat → Int32) : Prop :=
  thC q V M ∧ uOK n us ∧ (∀ p, p < n → st (p + 1) - st p = (us p).length ∧ ∀ (i : Nat) (u : us3), (us p)[i]? = some u → st p + i < 210 ∧ M 13 (st p + i) = nI u.1 ∧ M 14 (st p + i) = nI u.2.1 ∧ M 15 (st p + i) = nI u.2.2) ∧
  (∀ p, p < n → ∀ u ∈ us p, qT q u.1 = false) ∧ (∀ j, j < 6 → qL q j ≤ 9) ∧
  ∃ sh : Nat → Nat, (∀ k, k < 7 → M 19 k = nI (sh k) ∧ sh k ≤ 4200000) ∧ ∀ p, p < n → ∀ u ∈ us p, 60 * u.2.2 ≤ sm (fun k => if u.2.1.testBit (6 - k) = true then sh k else 0) 7
theorem thC_K {q : tq} {V V' : Nat → Int32} {M M' : Nat → Nat → Int32} (h : thC q V M) (hM : ∀ k, decK k → M' k = M k) (hV : V' 8 = V 8) : thC q V' M' := by
  obtain ⟨h1, h2, h3, h4, h5, h6, od, h7, h8, h9⟩ := h
  have e7 := hM 7 ⟨rfl, rfl, rfl⟩
  have e8 := hM 8 ⟨rfl, rfl, rfl⟩
  have e9 := hM 9 ⟨rfl, rfl, rfl⟩
  have e18 := hM 18 ⟨rfl, rfl, rfl⟩
  exact ⟨hV.trans h1, h2, by rw [e7]; exact h3, by rw [e8]; exact h4, by rw [e8]; exact h5, by rw [e9]; exact h6, od, by rw [e18]; exact h7, h8, h9⟩
theorem srC_K {q : tq} {us : Nat → List us3} {n : Nat} {st : Nat → Nat} {V V' : Nat → Int32} {M M' : Nat → Nat → Int32} (h : srC q us n st V M) (hM : ∀ k, decK k → M' k = M k) (hV : V' 8 = V 8) : srC q us n st V' M' := by
  obtain ⟨h1, h2, h3, h4, h5, sh, h6, h7⟩ := h
  have e13 := hM 13 ⟨rfl, rfl, rfl⟩
  have e14 := hM 14 ⟨rfl, rfl, rfl⟩
  have e15 := hM 15 ⟨rfl, rfl, rfl⟩
  have e19 := hM 19 ⟨rfl, rfl, rfl⟩
  exact ⟨thC_K h1 hM hV, h2, by rw [e13, e14, e15]; exact h3, h4, h5, sh, by rw [e19]; exact h6, h7⟩
/-- what stands in a row of chosen uses, by place -/
def chs (M : Nat → Nat → Int32) (f : Nat → Int32) : Nat → List us3 → Prop
  | 0, acc => acc = []
  | p + 1, acc => (f p = -1 ∧ chs M f p acc) ∨ ∃ (i : Nat) (u : us3) (r : List us3), i < 210 ∧ f p = nI i ∧ M 13 i = nI u.1 ∧ M 14 i = nI u.2.1 ∧ M 15 i = nI u.2.2 ∧ acc = u :: r ∧ u.2.1.testBit (6 - p) = true ∧ chs M f p r
theorem chs_K {M M' : Nat → Nat → Int32} {f f' : Nat → Int32} (h13 : M' 13 = M 13) (h14 : M' 14 = M 14) (h15 : M' 15 = M 15) : ∀ {p : Nat} {acc : List us3}, (∀ k, k < p → f' k = f k) → chs M f p acc → chs M' f' p acc
  | 0, _, _, h => h
  | p + 1, acc, hf, h => by
    rcases h with ⟨h1, h2⟩ | ⟨i, u, r, a1, a2, a3, a4, a5, a6, a8, a7⟩
    · exact Or.inl ⟨(hf p (by omega)).trans h1, chs_K h13 h14 h15 (fun k hk => hf k (by omega)) h2⟩
    · exact Or.inr ⟨i, u, r, a1, (hf p (by omega)).trans a2, by rw [h13]; exact a3, by rw [h14]; exact a4, by rw [h15]; exact a5, a6, a8, chs_K h13 h14 h15 (fun k hk => hf k (by omega)) a7⟩
def accOK (q : tq) (p : Nat) (acc : List us3) : Prop := acc.length ≤ p ∧ (∀ u ∈ acc, u.1 < 6 ∧ u.2.1 < 128 ∧ u.2.2 ≤ 70000 ∧ qT q u.1 = false) ∧ ∀ j, j < 6 → uC acc j ≤ qL q j
theorem uD_le {acc : List us3} (h : ∀ u ∈ acc, u.2.2 ≤ 70000) : uD acc ≤ 70000 * acc.length := by
  induction acc with
  | nil => exact Nat.le_refl _
  | cons u r ih =>
    have h1 := ih (fun v hv => h v (List.mem_cons_of_mem _ hv))
    have h2 := h u List.mem_cons_self
    rw [uD, List.length_cons]
    omega
theorem uO_mem {acc : List us3} {j : Nat} (h : uO acc j = true) : ∃ u ∈ acc, u.1 = j := by
  induction acc with
  | nil => cases h
  | cons u r ih =>
    rw [uO, Bool.or_eq_true, decide_eq_true_eq] at h
    rcases h with h | h
    · exact ⟨u, List.mem_cons_self, h⟩
    · obtain ⟨v, h1, h2⟩ := ih h
      exact ⟨v, List.mem_cons_of_mem _ h1, h2⟩
theorem uC_0 {acc : List us3} {j : Nat} (h : ∀ u ∈ acc, u.1 ≠ j) : uC acc j = 0 := by
  induction acc with
  | nil => rfl
  | cons u r ih => rw [uC, ih (fun v hv => h v (List.mem_cons_of_mem _ hv)), if_neg (h u List.mem_cons_self)]
theorem accOK.O {q : tq} {p : Nat} {acc : List us3} (h : accOK q p acc) : ∀ j, j < 6 → uO acc j = true → qT q j = false := fun j _ ho => by
  obtain ⟨u, h1, h2⟩ := uO_mem ho
  rw [← h2]
  exact (h.2.1 u h1).2.2.2
theorem accOK.C {q : tq} {p : Nat} {acc : List us3} (h : accOK q p acc) : ∀ j, j < 6 → qT q j = true → uC acc j = 0 := fun j _ ht => uC_0 fun u hu e => by
  have := (h.2.1 u hu).2.2.2
  rw [e, ht] at this
  cases this
theorem accOK.D {q : tq} {p : Nat} {acc : List us3} (h : accOK q p acc) (hp : p ≤ 7) : uD acc ≤ 490000 := by
  have h1 := uD_le (fun u hu => (h.2.1 u hu).2.2.1)
  have h2 := h.1
  have : 70000 * acc.length ≤ 70000 * 7 := Nat.mul_le_mul_left _ (by omega)
  omega
theorem accOK.up {q : tq} {p : Nat} {acc : List us3} (h : accOK q p acc) : accOK q (p + 1) acc := ⟨Nat.le_succ_of_le h.1, h.2⟩
theorem accOK.cons {q : tq} {p : Nat} {acc : List us3} (h : accOK q p acc) {u : us3} (hu : u.1 < 6 ∧ u.2.1 < 128 ∧ u.2.2 ≤ 70000 ∧ qT q u.1 = false) (hk : okB q acc u = true) : accOK q (p + 1) (u :: acc) := by
  refine ⟨Nat.succ_le_succ h.1, fun v hv => ?_, fun j hj => ?_⟩
  · rcases List.mem_cons.mp hv with rfl | hv
    · exact hu
    · exact h.2.1 v hv
  · rw [uC]
    have h1 := h.2.2 j hj
    by_cases e : u.1 = j
    · rw [if_pos e]
      have := (okB_iff.mp hk).1
      rw [e] at this
      exact this
    · rw [if_neg e]
      exact h1
/-- a node of the class's search -/
def nC (q : tq) (n p : Nat) (acc : List us3) (F T : Nat) (M : Nat → Nat → Int32) : Prop :=
  (F < 128 ∧ ∀ k, k < 7 → F.testBit (6 - k) = fre n p acc k) ∧ (T < 64 ∧ ∀ j, j < 6 → T.testBit j = uO acc j) ∧ (∀ j, j < 6 → M 17 j = nI (qL q j - uC acc j)) ∧ chs M (M 20) p acc
/-- the best so far, as the class keeps it -/
def bC (q : tq) (B : Int × List us3) (s : VM) : Prop := (s.1 6).toInt = B.1 ∧ (0 ≤ B.1 → (∃ a, a < 64 ∧ s.1 5 = nI a ∧ ∀ j, j < 6 → (a.testBit j = true ↔ uO B.2 j = true ∨ sel q B.2 j = true)) ∧ chs s.2 (s.2 21) 7 B.2)
theorem bC_K {q : tq} {B : Int × List us3} {s s' : VM} (h : bC q B s) (h5 : s'.1 5 = s.1 5) (h6 : s'.1 6 = s.1 6) (h21 : s'.2 21 = s.2 21) (h13 : s'.2 13 = s.2 13) (h14 : s'.2 14 = s.2 14) (h15 : s'.2 15 = s.2 15) : bC q B s' := by
  refine ⟨by rw [h6]; exact h.1, fun hB => ?_⟩
  obtain ⟨⟨a, h1, h2, h3⟩, h4⟩ := h.2 hB
  exact ⟨⟨a, h1, h5.trans h2, h3⟩, chs_K h13 h14 h15 (fun k _ => by rw [h21]) h4⟩
theorem mostSum_spec {sh : Nat → Nat} {f : Nat → Int32} {n p : Nat} {acc : List us3} {F : Nat} (hF : F < 128) (hFb : ∀ k, k < 7 → F.testBit (6 - k) = fre n p acc k) (hf : ∀ k, k < 7 → f k = nI (sh k)) : mostSum f (nI F) 7 = nI (sm (fun k => if fre n p acc k = true then sh k else 0) 7) := by
  have key : ∀ i, i ≤ 7 → mostSum f (nI F) i = nI (sm (fun k => if fre n p acc k = true then sh k else 0) i) := by
    intro i
    induction i with
    | zero => intro _; rfl
    | succ i ih =>
      intro hi
      have es : mostSum f (nI F) (i + 1) = if isInV (nI F) (nI i) = 0 then mostSum f (nI F) i else mostSum f (nI F) i + atF 7 f (nI i) := rfl
      rw [es, ih (by omega), bx_in hF (by omega), atF_nI (by omega) (by decide), hf i (by omega), hFb i (by omega), sm]
      by_cases e : fre n p acc i = true
      · rw [if_pos e, if_neg (by decide), if_pos e, nI_add]
      · rw [if_neg e, if_pos rfl, if_neg e]
        rfl
  exact key 7 (Nat.le_refl _)
theorem keepA_spec {f b : Nat → Int32} : ∀ {n k : Nat}, n ≤ 7 → k < n → keepA f b n k = f k
  | 0, _, _, h => absurd h (Nat.not_lt_zero _)
  | n + 1, k, hn, h => by
    show setF 7 (keepA f b n) (nI n) (atF 7 f (nI n)) k = f k
    rw [setF_nI (by omega) (by decide), atF_nI (by omega) (by decide)]
    by_cases e : k = n
    · rw [e, upd_self9]
    · rw [upd_ne9 e, keepA_spec (by omega) (by omega)]
theorem lvs_vl {q : tq} (hq : qOK q) {us : Nat → List us3} {n p : Nat} (hn : n ≤ 7) (hu : uOK n us) {sh : Nat → Nat} (hs : ∀ p, p < n → ∀ u ∈ us p, 60 * u.2.2 ≤ sm (fun k => if u.2.1.testBit (6 - k) = true then sh k else 0) 7) {acc L : List us3} (h : L ∈ lvs q us (n - p) p acc) :
    vl q L ≤ uD acc + thr q acc + sm (fun k => if fre n p acc k = true then sh k else 0) 7 / 60 := by
  by_cases e : p ≤ n
  · have h1 := lvs_share hn hu hs (by omega) h
    have h2 := thr_ext hq (lvs_ext h)
    unfold vl
    omega
  · rw [show n - p = 0 by omega] at h
    rw [List.mem_singleton.mp h]
    unfold vl
    omega
theorem fits_spec {q : tq} {us : Nat → List us3} {n p : Nat} {st : Nat → Nat} {V : Nat → Int32} {M : Nat → Nat → Int32} (hs : srC q us n st V M) (hn : n ≤ 7) (hp : p < n) {acc : List us3} (ha : accOK q p acc) {F T : Nat} (hF : F < 128 ∧ ∀ k, k < 7 → F.testBit (6 - k) = fre n p acc k) (hT : T < 64 ∧ ∀ j, j < 6 → T.testBit j = uO acc j) (h17 : ∀ j, j < 6 → M 17 j = nI (qL q j - uC acc j)) {i : Nat} {u : us3} (hi : (us p)[i]? = some u) :
    fitsV M (nI (st p + i)) (nI F) (nI T) = 0 ↔ ¬ okB q acc u = true := by
  obtain ⟨hth, hu, hl, -, hL9, -⟩ := hs
  obtain ⟨-, hli⟩ := hl p hp
  obtain ⟨hx, e13, e14, -⟩ := hli i u hi
  obtain ⟨u1, u2, -, b1, b2, b3⟩ := hu p hp u (List.mem_of_getElem? hi)
  obtain ⟨R, hR, e7, hRb⟩ := hth.2.2.1 u.1 u1
  unfold fitsV
  rw [atF_nI hx (by decide), atF_nI hx (by decide), e13, e14, atF_nI u1 (by decide), atF_nI u1 (by decide), h17 _ u1, e7, okB_iff]
  have hc : (nI u.2.1 &&& (nI F ^^^ -1) = 0) ↔ ∀ k, k < 7 → u.2.1.testBit (6 - k) = true → uK acc k = false := by
    rw [bx_not u2 hF.1]
    constructor
    · intro h k hk hb
      have := h (6 - k) (by omega) hb
      rw [hF.2 k hk] at this
      exact (fre_iff.mp this).2.2
    · intro h k hk hb
      have hb' : u.2.1.testBit (6 - (6 - k)) = true := by rw [show 6 - (6 - k) = k by omega]; exact hb
      have h1 := h (6 - k) (by omega) hb'
      have h2 := hF.2 (6 - k) (by omega)
      rw [show 6 - (6 - k) = k by omega] at h2
      rw [h2, fre_iff]
      refine ⟨?_, ?_, h1⟩
      · by_cases e : 6 - k < p
        · rw [b2 _ e] at hb'; cases hb'
        · omega
      · by_cases e : n ≤ 6 - k
        · rw [b3 _ e (by omega)] at hb'; cases hb'
        · omega
  have hL := hL9 u.1 u1
  by_cases e1 : nI u.2.1 &&& (nI F ^^^ -1) = 0
  · rw [if_pos e1]
    by_cases e2 : nI (qL q u.1 - uC acc u.1) ≤ 0
    · rw [if_pos e2]
      have := (nI_le0 (by omega)).mp e2
      exact ⟨fun _ ⟨h, _⟩ => by omega, fun _ => rfl⟩
    · rw [if_neg e2]
      have hlt : uC acc u.1 < qL q u.1 := by
        by_cases e3 : uC acc u.1 < qL q u.1
        · exact e3
        · exact absurd ((nI_le0 (by omega)).mpr (by omega)) e2
      by_cases e3 : nI R &&& nI T = 0
      · rw [if_pos e3]
        have h3 := (bx_and hR hT.1).mp e3
        exact ⟨fun h => absurd h (by decide), fun h => absurd ⟨hlt, hc.mp e1, fun i hi ho => (hRb i hi).symm.trans (h3 i hi ((hT.2 i hi).trans ho))⟩ h⟩
      · rw [if_neg e3]
        exact ⟨fun _ ⟨_, _, h⟩ => e3 ((bx_and hR hT.1).mpr fun i hi hb => (hRb i hi).trans (h i hi ((hT.2 i hi).symm.trans hb))), fun _ => rfl⟩
  · rw [if_neg e1]
    exact ⟨fun _ ⟨_, h, _⟩ => e1 (hc.mpr h), fun _ => rfl⟩
/-- one use, laid and taken back -/
theorem decS_eq (rec : Nat → Int32 → Int32 → Int32 → VM → VM) (st : Nat → Nat) (p : Nat) (free disc taken : Int32) (i : Nat) (s : VM) (h : ¬ fitsV s.2 (nI (st p + i)) free taken = 0) : decS rec st p free disc taken i s =
    ((rec (p + 1) (free &&& (atF 210 (s.2 14) (nI (st p + i)) ^^^ -1)) (disc + atF 210 (s.2 15) (nI (st p + i))) (taken ||| (1 <<< (atF 210 (s.2 13) (nI (st p + i)) &&& 31))) (s.1, chM (sM s.2 20 (setF 7 (s.2 20) (nI p) (nI (st p + i)))) (nI (st p + i)) (-1))).1,
     chM (rec (p + 1) (free &&& (atF 210 (s.2 14) (nI (st p + i)) ^^^ -1)) (disc + atF 210 (s.2 15) (nI (st p + i))) (taken ||| (1 <<< (atF 210 (s.2 13) (nI (st p + i)) &&& 31))) (s.1, chM (sM s.2 20 (setF 7 (s.2 20) (nI p) (nI (st p + i)))) (nI (st p + i)) (-1))).2 (nI (st p + i)) 1) := if_neg h
/-- what the search gives: 17 and 20 as they were, and the first best -/
def dR (q : tq) (us : Nat → List us3) (n p : Nat) (acc : List us3) (B : Int × List us3) (s s' : VM) : Prop :=
  (∀ j, j < 6 → s'.2 17 j = s.2 17 j) ∧ (∀ i, i < p → s'.2 20 i = s.2 20 i) ∧ bC q (bst q B (lvs q us (n - p) p acc)) s'
set_option maxHeartbeats 1000000 in
theorem decF_spec {q : tq} (hq : qOK q) {us : Nat → List us3} {n : Nat} (hn : n ≤ 7) {st : Nat → Nat} : ∀ (k p : Nat), p + k = 7 → ∀ (acc : List us3) (F T : Nat) (B : Int × List us3) (s : VM), srC q us n st s.1 s.2 → accOK q p acc → nC q n p acc F T s.2 → bC q B s → dR q us n p acc B s (decF st (k + 1) p (nI F) (nI (uD acc)) (nI T) s) := by
  intro k
  induction k with
  | zero =>
    intro p hp acc F T B s hs ha hN hB
    have hp7 : p = 7 := by omega
    subst hp7
    have hs0 := hs
    obtain ⟨hth, hu, hl, hT0, hL9, sh, hsh, hs60⟩ := hs
    obtain ⟨hF, hT, h17, hch⟩ := hN
    have hnd : ndC q acc s.2 := ⟨fun j hj => ⟨ha.2.2 j hj, h17 j hj⟩, hL9, by have := ha.D (Nat.le_refl _); omega, ha.O, ha.C⟩
    obtain ⟨a, ha64, ea, hab⟩ := with_spec hq hth hnd hT.1 hT.2
    have eam := amt_spec hth ha.O ha64 hab
    have hms : sm (fun k => if fre n 7 acc k = true then sh k else 0) 7 = 0 := by
      rw [sm_eq (g := fun _ => 0) (fun i hi => if_neg (fun h => by have := (fre_iff.mp h).1; omega)), sm_0]
    have emo : mostOnF s.2 (nI F) = 0 := by
      unfold mostOnF
      rw [mostSum_spec hF.1 hF.2 (fun k hk => (hsh k hk).1), hms]
      decide
    have elv : lvs q us (n - 7) 7 acc = [acc] := by rw [show n - 7 = 0 by omega]; rfl
    have hvl : nI (uD acc) + nI (thr q acc) + 0 = nI (vl q acc) := by rw [Int32.add_zero, nI_add]; rfl
    have hv31 : vl q acc < 2 ^ 31 := by
      have h1 := ha.D (Nat.le_refl _)
      have h2 := thr_lt hth acc
      unfold vl
      omega
    unfold dR
    rw [decF, ea, eam, emo, hvl, elv]
    by_cases e : s.1 6 < nI (vl q acc)
    · rw [if_pos e, if_neg (by decide)]
      have e2 := (lt_nI hv31).mp e
      rw [hB.1] at e2
      refine ⟨fun j _ => rfl, fun i _ => rfl, ?_⟩
      show bC q (if B.1 < (vl q acc : Int) then ((vl q acc : Int), acc) else B) _
      rw [if_pos e2]
      refine ⟨?_, fun _ => ⟨⟨a, ha64, rfl, hab⟩, ?_⟩⟩
      · show (nI (uD acc) + nI (thr q acc)).toInt = (vl q acc : Int)
        rw [nI_add]
        exact nI_toInt hv31
      · exact chs_K (M := s.2) (f := s.2 20) (M' := sM s.2 21 (keepA (s.2 20) (s.2 21) 7)) (f' := keepA (s.2 20) (s.2 21) 7) rfl rfl rfl (fun k hk => keepA_spec (Nat.le_refl _) hk) hch
    · rw [if_neg e]
      have e2 : ¬ B.1 < (vl q acc : Int) := fun h => e ((lt_nI hv31).mpr (by rw [hB.1]; exact h))
      refine ⟨fun j _ => rfl, fun i _ => rfl, ?_⟩
      show bC q (if B.1 < (vl q acc : Int) then ((vl q acc : Int), acc) else B) _
      rw [if_neg e2]
      exact hB
  | succ k ih =>
    intro p hp acc F T B s hs ha hN hB
    have hs0 := hs
    have hN0 := hN
    obtain ⟨hth, hu, hl, hT0, hL9, sh, hsh, hs60⟩ := hs
    obtain ⟨hF, hT, h17, hch⟩ := hN
    have hD := ha.D (by omega)
    have hnd : ndC q acc s.2 := ⟨fun j hj => ⟨ha.2.2 j hj, h17 j hj⟩, hL9, by omega, ha.O, ha.C⟩
    obtain ⟨a, ha64, ea, hab⟩ := with_spec hq hth hnd hT.1 hT.2
    have eam := amt_spec hth ha.O ha64 hab
    have hmsl : sm (fun k => if fre n p acc k = true then sh k else 0) 7 ≤ 29400000 := by
      have h1 : sm (fun k => if fre n p acc k = true then sh k else 0) 7 ≤ sm (fun _ => 4200000) 7 := sm_le (fun i hi => by
        have := (hsh i hi).2
        split <;> omega)
      have h2 : sm (fun _ => 4200000) 7 = 29400000 := rfl
      omega
    have emo : mostOnF s.2 (nI F) = nI (sm (fun k => if fre n p acc k = true then sh k else 0) 7 / 60) := by
      unfold mostOnF
      rw [mostSum_spec hF.1 hF.2 (fun k hk => (hsh k hk).1), show (60 : Int32) = nI 60 from rfl, nI_div (by omega) (by decide) (by decide)]
    have hthl := thr_lt hth acc
    -- the step without a use, from any state that is like s
    have hE : ∀ (B1 : Int × List us3) (s1 : VM), srC q us n st s1.1 s1.2 → (∀ j, j < 6 → s1.2 17 j = s.2 17 j) → (∀ i, i < p → s1.2 20 i = s.2 20 i) → s1.2 13 = s.2 13 → s1.2 14 = s.2 14 → s1.2 15 = s.2 15 → bC q B1 s1 → (∀ j, j < 6 → (decE (decF st (k + 1)) p (nI F) (nI (uD acc)) (nI T) s1).2 17 j = s.2 17 j) ∧ (∀ i, i < p → (decE (decF st (k + 1)) p (nI F) (nI (uD acc)) (nI T) s1).2 20 i = s.2 20 i) ∧ bC q (bst q B1 (lvs q us (n - (p + 1)) (p + 1) acc)) (decE (decF st (k + 1)) p (nI F) (nI (uD acc)) (nI T) s1) := by
      intro B1 s1 hs1 g17 g20 g13 g14 g15 hB1
      have hpow : 2 ^ (6 - p) < 128 := (show ∀ p, p < 7 → 2 ^ (6 - p) < 128 by decide) p (by omega)
      have hFl : F &&& (2 ^ (6 - p) ^^^ 127) < 128 := Nat.lt_of_le_of_lt Nat.and_le_left hF.1
      have hnode : nC q n (p + 1) acc (F &&& (2 ^ (6 - p) ^^^ 127)) T (sM s1.2 20 (setF 7 (s1.2 20) (nI p) (-1))) := by
        refine ⟨⟨hFl, fun k7 hk7 => ?_⟩, hT, fun j hj => (g17 j hj).trans (h17 j hj), ?_⟩
        · rw [bx_cutb hpow (by omega), hF.2 k7 hk7, Nat.testBit_two_pow]
          unfold fre
          by_cases e : k7 = p
          · have e3 : decide (p + 1 ≤ k7) = false := decide_eq_false (by omega)
            have e4 : decide (6 - p = 6 - k7) = true := decide_eq_true (by omega)
            rw [e3, e4]
            simp
          · have e1 : decide (6 - p = 6 - k7) = false := decide_eq_false (by omega)
            have e2 : decide (p + 1 ≤ k7) = decide (p ≤ k7) := by
              by_cases h : p ≤ k7
              · rw [decide_eq_true h, decide_eq_true (by omega)]
              · rw [decide_eq_false h, decide_eq_false (by omega)]
            rw [e1, e2]
            simp
        · refine Or.inl ⟨?_, ?_⟩
          · show setF 7 (s1.2 20) (nI p) (-1) p = -1
            rw [setF_nI (by omega) (by decide), upd_self9]
          · refine chs_K (M := s.2) (f := s.2 20) (M' := sM s1.2 20 (setF 7 (s1.2 20) (nI p) (-1))) (f' := setF 7 (s1.2 20) (nI p) (-1)) g13 g14 g15 (fun i hi => ?_) hch
            show setF 7 (s1.2 20) (nI p) (-1) i = s.2 20 i
            rw [setF_nI (by omega) (by decide), upd_ne9 (by omega)]
            exact g20 i hi
      have hr := ih (p + 1) (by omega) acc (F &&& (2 ^ (6 - p) ^^^ 127)) T B1 (s1.1, sM s1.2 20 (setF 7 (s1.2 20) (nI p) (-1))) (srC_K hs1 (fun k hk => sM_ne hk.2.1) rfl) ha.up hnode (bC_K hB1 rfl rfl rfl rfl rfl rfl)
      have he : decE (decF st (k + 1)) p (nI F) (nI (uD acc)) (nI T) s1 = decF st (k + 1) (p + 1) (nI (F &&& (2 ^ (6 - p) ^^^ 127))) (nI (uD acc)) (nI T) (s1.1, sM s1.2 20 (setF 7 (s1.2 20) (nI p) (-1))) := by
        unfold decE
        rw [bx_bit (by omega), bx_cut hpow hF.1]
      rw [he]
      refine ⟨fun j hj => (hr.1 j hj).trans (g17 j hj), fun i hi => (hr.2.1 i (by omega)).trans ?_, hr.2.2⟩
      show setF 7 (s1.2 20) (nI p) (-1) i = s.2 20 i
      rw [setF_nI (by omega) (by decide), upd_ne9 (by omega)]
      exact g20 i hi
    unfold dR
    rw [decF, ea, eam, emo, nI_add, nI_add]
    by_cases e : s.1 6 < nI (uD acc + thr q acc + sm (fun k => if fre n p acc k = true then sh k else 0) 7 / 60)
    · rw [if_pos e, if_pos (show nI p < 7 from nI_lt (b := 7) (by omega) (by decide))]
      rw [bx_in hF.1 (by omega), hF.2 p (by omega)]
      by_cases e2 : fre n p acc p = true
      · rw [if_pos e2, if_neg (by decide)]
        obtain ⟨-, hpn, huk⟩ := fre_iff.mp e2
        have elv : lvs q us (n - p) p acc = (us p).flatMap (fun u => if okB q acc u = true then lvs q us (n - (p + 1)) (p + 1) (u :: acc) else []) ++ lvs q us (n - (p + 1)) (p + 1) acc := by
          rw [show n - p = (n - (p + 1)) + 1 by omega, lvs, if_neg (by rw [huk]; decide)]
        rw [elv, bst_app]
        obtain ⟨hlen, hli⟩ := hl p hpn
        rw [hlen]
        have hloop : ∀ i, i ≤ (us p).length → srC q us n st (itr (decS (decF st (k + 1)) st p (nI F) (nI (uD acc)) (nI T)) i s).1 (itr (decS (decF st (k + 1)) st p (nI F) (nI (uD acc)) (nI T)) i s).2 ∧ (∀ j, j < 6 → (itr (decS (decF st (k + 1)) st p (nI F) (nI (uD acc)) (nI T)) i s).2 17 j = s.2 17 j) ∧ (∀ z, z < p → (itr (decS (decF st (k + 1)) st p (nI F) (nI (uD acc)) (nI T)) i s).2 20 z = s.2 20 z) ∧ bC q (bst q B (((us p).take i).flatMap (fun u => if okB q acc u = true then lvs q us (n - (p + 1)) (p + 1) (u :: acc) else []))) (itr (decS (decF st (k + 1)) st p (nI F) (nI (uD acc)) (nI T)) i s) := by
          intro i
          induction i with
          | zero => intro _; exact ⟨hs0, fun _ _ => rfl, fun _ _ => rfl, hB⟩
          | succ i ihi =>
            intro hi
            obtain ⟨c1, c2, c3, c4⟩ := ihi (by omega)
            generalize hsi : itr (decS (decF st (k + 1)) st p (nI F) (nI (uD acc)) (nI T)) i s = si at c1 c2 c3 c4
            have es : itr (decS (decF st (k + 1)) st p (nI F) (nI (uD acc)) (nI T)) (i + 1) s = decS (decF st (k + 1)) st p (nI F) (nI (uD acc)) (nI T) i si := by rw [← hsi]; rfl
            rw [es]
            obtain ⟨u, hiu⟩ : ∃ u, (us p)[i]? = some u := ⟨_, List.getElem?_eq_getElem (by omega)⟩
            have etk : (us p).take (i + 1) = (us p).take i ++ [u] := by rw [List.take_add_one, hiu]; rfl
            rw [etk, List.flatMap_append, bst_app]
            have efm : [u].flatMap (fun u => if okB q acc u = true then lvs q us (n - (p + 1)) (p + 1) (u :: acc) else []) = (if okB q acc u = true then lvs q us (n - (p + 1)) (p + 1) (u :: acc) else []) := by rw [List.flatMap_cons, List.flatMap_nil, List.append_nil]
            rw [efm]
            have hfit := fits_spec c1 hn hpn ha hF hT (fun j hj => (c2 j hj).trans (h17 j hj)) hiu
            by_cases e3 : fitsV si.2 (nI (st p + i)) (nI F) (nI T) = 0
            · have e4 : decS (decF st (k + 1)) st p (nI F) (nI (uD acc)) (nI T) i si = si := if_pos e3
              rw [e4, if_neg (hfit.mp e3)]
              exact ⟨c1, c2, c3, c4⟩
            · have hok : okB q acc u = true := Classical.not_not.mp fun h => e3 (hfit.mpr h)
              have hum := List.mem_of_getElem? hiu
              obtain ⟨u1, u2, u3, b1, b2, b3⟩ := hu p hpn u hum
              obtain ⟨hx, e13, e14, e15⟩ := (c1.2.2.1 p hpn).2 i u hiu
              rw [if_pos hok, decS_eq _ _ _ _ _ _ _ _ e3, atF_nI hx (by decide), atF_nI hx (by decide), atF_nI hx (by decide), e13, e14, e15, bx_cut u2 hF.1, nI_add, bx_or hT.1 u1]
              have ech : ∀ (N : Nat → Nat → Int32) (t : Int32), N 13 = si.2 13 → chM N (nI (st p + i)) t = sM N 17 (upd (N 17) u.1 (N 17 u.1 + t)) := by
                intro N t h13
                unfold chM
                rw [h13, atF_nI hx (by decide), e13, atF_nI u1 (by decide), setF_nI u1 (by decide)]
              rw [ech (sM si.2 20 (setF 7 (si.2 20) (nI p) (nI (st p + i)))) (-1) rfl]
              generalize hs1 : ((si.1, sM (sM si.2 20 (setF 7 (si.2 20) (nI p) (nI (st p + i)))) 17 (upd ((sM si.2 20 (setF 7 (si.2 20) (nI p) (nI (st p + i)))) 17) u.1 ((sM si.2 20 (setF 7 (si.2 20) (nI p) (nI (st p + i)))) 17 u.1 + -1))) : VM) = s1
              have g17 : s1.2 17 = upd (si.2 17) u.1 (si.2 17 u.1 + -1) := by rw [← hs1]; rfl
              have g20 : s1.2 20 = setF 7 (si.2 20) (nI p) (nI (st p + i)) := by rw [← hs1]; rfl
              have gK : ∀ k, decK k → s1.2 k = si.2 k := fun k hk => by rw [← hs1]; exact (sM_ne hk.1).trans (sM_ne hk.2.1)
              have gV : s1.1 = si.1 := by rw [← hs1]
              have g21 : s1.2 21 = si.2 21 := by rw [← hs1]; rfl
              have hlt := (okB_iff.mp hok).1
              have hFl : F &&& (u.2.1 ^^^ 127) < 128 := Nat.lt_of_le_of_lt Nat.and_le_left hF.1
              have hnode : nC q n (p + 1) (u :: acc) (F &&& (u.2.1 ^^^ 127)) (T ||| 2 ^ u.1) s1.2 := by
                refine ⟨⟨hFl, fun k7 hk7 => ?_⟩, ⟨bx_orlt hT.1 u1, fun j hj => ?_⟩, fun j hj => ?_, ?_⟩
                · rw [bx_cutb u2 (by omega), hF.2 k7 hk7]
                  unfold fre
                  rw [uK]
                  by_cases e5 : k7 = p
                  · have e7 : decide (p + 1 ≤ k7) = false := decide_eq_false (by omega)
                    rw [e7, e5, b1]
                    simp
                  · have e6 : decide (p + 1 ≤ k7) = decide (p ≤ k7) := by
                      by_cases h : p ≤ k7
                      · rw [decide_eq_true h, decide_eq_true (by omega)]
                      · rw [decide_eq_false h, decide_eq_false (by omega)]
                    rw [e6]
                    cases u.2.1.testBit (6 - k7) <;> simp
                · rw [bx_orb, hT.2 j hj, uO, Bool.or_comm]
                · rw [g17, uC]
                  by_cases e5 : j = u.1
                  · subst e5
                    rw [upd_self9, if_pos rfl, c2 _ u1, h17 _ u1, show qL q u.1 - uC acc u.1 = (qL q u.1 - (uC acc u.1 + 1)) + 1 by omega, pk_m1]
                  · rw [upd_ne9 e5, if_neg (fun h => e5 h.symm), c2 _ hj, h17 _ hj, Nat.add_zero]
                · refine Or.inr ⟨st p + i, u, acc, hx, ?_, ?_, ?_, ?_, rfl, b1, ?_⟩
                  · rw [g20, setF_nI (by omega) (by decide), upd_self9]
                  · rw [gK 13 ⟨rfl, rfl, rfl⟩]; exact e13
                  · rw [gK 14 ⟨rfl, rfl, rfl⟩]; exact e14
                  · rw [gK 15 ⟨rfl, rfl, rfl⟩]; exact e15
                  · have k13 : si.2 13 = s.2 13 := by rw [← hsi]; exact decI_M _ _ _ _ _ _ _ _ ⟨rfl, rfl, rfl⟩
                    have k14 : si.2 14 = s.2 14 := by rw [← hsi]; exact decI_M _ _ _ _ _ _ _ _ ⟨rfl, rfl, rfl⟩
                    have k15 : si.2 15 = s.2 15 := by rw [← hsi]; exact decI_M _ _ _ _ _ _ _ _ ⟨rfl, rfl, rfl⟩
                    refine chs_K (M := s.2) (f := s.2 20) ((gK 13 ⟨rfl, rfl, rfl⟩).trans k13) ((gK 14 ⟨rfl, rfl, rfl⟩).trans k14) ((gK 15 ⟨rfl, rfl, rfl⟩).trans k15) (fun z hz => ?_) hch
                    rw [g20, setF_nI (by omega) (by decide), upd_ne9 (by omega)]
                    exact c3 z hz
              have hr := ih (p + 1) (by omega) (u :: acc) (F &&& (u.2.1 ^^^ 127)) (T ||| 2 ^ u.1) (bst q B (((us p).take i).flatMap (fun u => if okB q acc u = true then lvs q us (n - (p + 1)) (p + 1) (u :: acc) else []))) s1 (srC_K c1 gK (by rw [gV])) (ha.cons ⟨u1, u2, u3, hT0 p hpn u hum⟩ hok) hnode (bC_K c4 (by rw [gV]) (by rw [gV]) g21 (gK 13 ⟨rfl, rfl, rfl⟩) (gK 14 ⟨rfl, rfl, rfl⟩) (gK 15 ⟨rfl, rfl, rfl⟩))
              have eD : uD (u :: acc) = uD acc + u.2.2 := rfl
              rw [eD] at hr
              have rK : ∀ k', decK k' → (decF st (k + 1) (p + 1) (nI (F &&& (u.2.1 ^^^ 127))) (nI (uD acc + u.2.2)) (nI (T ||| 2 ^ u.1)) s1).2 k' = si.2 k' := fun k' hk => (decF_M st hk _ _ _ _ _ _).trans (gK k' hk)
              have rV : (decF st (k + 1) (p + 1) (nI (F &&& (u.2.1 ^^^ 127))) (nI (uD acc + u.2.2)) (nI (T ||| 2 ^ u.1)) s1).1 8 = si.1 8 := (decF_V st rfl rfl _ _ _ _ _ _).trans (by rw [gV])
              generalize decF st (k + 1) (p + 1) (nI (F &&& (u.2.1 ^^^ 127))) (nI (uD acc + u.2.2)) (nI (T ||| 2 ^ u.1)) s1 = r at hr rK rV
              obtain ⟨r1, r2, r3⟩ := hr
              rw [ech r.2 1 (rK 13 ⟨rfl, rfl, rfl⟩)]
              refine ⟨srC_K c1 (fun k' hk => (sM_ne hk.1).trans (rK k' hk)) rV, fun j hj => ?_, fun z hz => ?_, ?_⟩
              · show upd (r.2 17) u.1 (r.2 17 u.1 + 1) j = s.2 17 j
                by_cases e5 : j = u.1
                · subst e5
                  rw [upd_self9, r1 _ u1, g17, upd_self9, c2 _ u1, h17 _ u1, show qL q u.1 - uC acc u.1 = (qL q u.1 - (uC acc u.1 + 1)) + 1 by omega, pk_m1, nI_1]
                · rw [upd_ne9 e5, r1 _ hj, g17, upd_ne9 e5]
                  exact c2 j hj
              · show r.2 20 z = s.2 20 z
                rw [r2 z (by omega), g20, setF_nI (by omega) (by decide), upd_ne9 (by omega)]
                exact c3 z hz
              · exact bC_K r3 rfl rfl rfl rfl rfl rfl
        obtain ⟨c1, c2, c3, c4⟩ := hloop _ (Nat.le_refl _)
        rw [List.take_length] at c4
        exact hE _ _ c1 c2 c3 (decI_M _ _ _ _ _ _ _ _ ⟨rfl, rfl, rfl⟩) (decI_M _ _ _ _ _ _ _ _ ⟨rfl, rfl, rfl⟩) (decI_M _ _ _ _ _ _ _ _ ⟨rfl, rfl, rfl⟩) c4
      · rw [if_neg e2, if_pos rfl]
        have elv : lvs q us (n - p) p acc = lvs q us (n - (p + 1)) (p + 1) acc := by
          by_cases hpn : p < n
          · have huk : uK acc p = true := by
              cases h : uK acc p
              · exact absurd (fre_iff.mpr ⟨Nat.le_refl _, hpn, h⟩) e2
              · rfl
            rw [show n - p = (n - (p + 1)) + 1 by omega, lvs, if_pos huk]
          · rw [show n - p = 0 by omega, show n - (p + 1) = 0 by omega]
            rfl
        rw [elv]
        exact hE B s hs0 (fun _ _ => rfl) (fun _ _ => rfl) rfl rfl rfl hB
    · rw [if_neg e]
      refine ⟨fun _ _ => rfl, fun _ _ => rfl, ?_⟩
      rw [bst_cut]
      · exact hB
      · intro L hL
        have h1 := lvs_vl hq hn hu hs60 hL
        have h2 : ¬ B.1 < ((uD acc + thr q acc + sm (fun k => if fre n p acc k = true then sh k else 0) 7 / 60 : Nat) : Int) := fun h => e ((lt_nI (by omega)).mpr (by rw [hB.1]; exact h))
        omega
