/-! THE TREE OF SETS OF USES, without any machine: a use is (offer, the places as the class's bits, discount); q: what is known of offers. -/
def sm (f : Nat → Nat) : Nat → Nat
  | 0 => 0
  | n + 1 => sm f n + f n
theorem sm_le {f g : Nat → Nat} : ∀ {n : Nat}, (∀ i, i < n → f i ≤ g i) → sm f n ≤ sm g n
  | 0, _ => Nat.le_refl _
  | n + 1, h => Nat.add_le_add (sm_le (fun i hi => h i (by omega))) (h n (by omega))
theorem sm_eq {f g : Nat → Nat} : ∀ {n : Nat}, (∀ i, i < n → f i = g i) → sm f n = sm g n
  | 0, _ => rfl
  | n + 1, h => by rw [sm, sm, sm_eq (fun i hi => h i (by omega)), h n (by omega)]
theorem sm_add (f g : Nat → Nat) : ∀ n, sm (fun i => f i + g i) n = sm f n + sm g n
  | 0 => rfl
  | n + 1 => by
    have ih := sm_add f g n
    rw [sm, sm, sm, ih]
    omega
theorem sm_0 : ∀ n, sm (fun _ => 0) n = 0
  | 0 => rfl
  | n + 1 => by rw [sm, sm_0 n]
theorem sm_swap (a : Nat → Nat → Nat) (m : Nat) : ∀ n, sm (fun i => sm (a i) m) n = sm (fun j => sm (fun i => a i j) n) m
  | 0 => (sm_0 m).symm
  | n + 1 => by
    rw [sm, sm_swap a m n, ← sm_add]
    rfl
theorem sm_get {f : Nat → Nat} : ∀ {n i : Nat}, i < n → f i ≤ sm f n
  | 0, _, h => absurd h (Nat.not_lt_zero _)
  | n + 1, i, h => by
    rw [sm]
    by_cases e : i = n
    · rw [e]; omega
    · have := sm_get (f := f) (n := n) (i := i) (by omega)
      omega
theorem sm_lt {f g : Nat → Nat} : ∀ {n i : Nat}, (∀ i, i < n → f i ≤ g i) → i < n → f i < g i → sm f n < sm g n
  | 0, _, _, h, _ => absurd h (Nat.not_lt_zero _)
  | n + 1, i, h, hi, hl => by
    rw [sm, sm]
    by_cases e : i = n
    · rw [e] at hl
      have := sm_le (n := n) (fun i hi => h i (by omega))
      omega
    · have h1 := sm_lt (n := n) (i := i) (fun i hi => h i (by omega)) (by omega) hl
      have h2 := h n (by omega)
      omega
theorem sm_one {P : Nat → Bool} {b : Nat} : ∀ {n : Nat}, (∀ i j, i < n → j < n → P i = true → P j = true → i = j) → sm (fun i => if P i = true then b else 0) n ≤ b
  | 0, _ => Nat.zero_le _
  | n + 1, h => by
    rw [sm]
    by_cases e : P n = true
    · rw [if_pos e]
      have h0 : sm (fun i => if P i = true then b else 0) n = sm (fun _ => 0) n := sm_eq (fun i hi => if_neg (fun e2 => by have := h i n (by omega) (by omega) e2 e; omega))
      rw [h0, sm_0]
      omega
    · rw [if_neg e]
      exact sm_one (fun i j hi hj => h i j (by omega) (by omega))
/-- sums over a matching: each i with m i goes to a place of its own that is worth as much -/
theorem sm_match {a b : Nat → Nat} {m : Nat → Nat → Bool} {n : Nat} (h1 : ∀ i, i < n → 0 < a i → ∃ j, j < n ∧ m i j = true ∧ a i ≤ b j) (h2 : ∀ j, j < n → ∀ i i', i < n → i' < n → m i j = true → m i' j = true → i = i') : sm a n ≤ sm b n := by
  have e1 : sm a n ≤ sm (fun i => sm (fun j => if m i j = true then b j else 0) n) n := sm_le (fun i hi => by
    by_cases e : 0 < a i
    · obtain ⟨j, hj, hm, hb⟩ := h1 i hi e
      refine Nat.le_trans ?_ (sm_get (f := fun j => if m i j = true then b j else 0) hj)
      show a i ≤ if m i j = true then b j else 0
      rw [if_pos hm]
      exact hb
    · omega)
  rw [sm_swap] at e1
  exact Nat.le_trans e1 (sm_le (fun j hj => sm_one (P := fun i => m i j) (fun i i' hi hi' => h2 j hj i i' hi hi')))

abbrev us3 : Type := Nat × Nat × Nat
abbrev tq : Type := (Nat → Nat) × (Nat → Nat) × (Nat → Nat) × Nat × (Nat → Nat → Bool) × (Nat → Bool)
def qL (q : tq) : Nat → Nat := q.1
def qth (q : tq) : Nat → Nat := q.2.1
def qam (q : tq) : Nat → Nat := q.2.2.1
def qsum (q : tq) : Nat := q.2.2.2.1
def qrv (q : tq) : Nat → Nat → Bool := q.2.2.2.2.1
def qT (q : tq) : Nat → Bool := q.2.2.2.2.2
def qOK (q : tq) : Prop := (∀ i j, qrv q i j = true → qrv q j i = true) ∧ (∀ i, qrv q i i = false) ∧ (∀ i j k, qrv q i j = true → qrv q i k = true → j ≠ k → qrv q j k = true)
def uC : List us3 → Nat → Nat
  | [], _ => 0
  | u :: r, j => uC r j + (if u.1 = j then 1 else 0)
def uD : List us3 → Nat
  | [] => 0
  | u :: r => uD r + u.2.2
def uK : List us3 → Nat → Bool
  | [], _ => false
  | u :: r, k => u.2.1.testBit (6 - k) || uK r k
def uO : List us3 → Nat → Bool
  | [], _ => false
  | u :: r, j => decide (u.1 = j) || uO r j
def okB (q : tq) (acc : List us3) (u : us3) : Bool := decide (uC acc u.1 < qL q u.1) && ((List.range 7).all (fun k => !(u.2.1.testBit (6 - k) && uK acc k)) && (List.range 6).all (fun i => !(uO acc i && qrv q i u.1)))
theorem okB_iff {q : tq} {acc : List us3} {u : us3} : okB q acc u = true ↔ uC acc u.1 < qL q u.1 ∧ (∀ k, k < 7 → u.2.1.testBit (6 - k) = true → uK acc k = false) ∧ (∀ i, i < 6 → uO acc i = true → qrv q i u.1 = false) := by
  unfold okB
  simp only [Bool.and_eq_true, decide_eq_true_eq, List.all_eq_true, List.mem_range, Bool.not_eq_true', Bool.and_eq_false_iff]
  refine and_congr_right fun _ => and_congr ⟨fun h k hk hb => ?_, fun h k hk => ?_⟩ ⟨fun h i hi ho => ?_, fun h i hi => ?_⟩
  · rcases h k hk with e | e
    · rw [hb] at e; cases e
    · exact e
  · cases e : u.2.1.testBit (6 - k)
    · exact Or.inl rfl
    · exact Or.inr (h k hk e)
  · rcases h i hi with e | e
    · rw [ho] at e; cases e
    · exact e
  · cases e : uO acc i
    · exact Or.inl rfl
    · exact Or.inr (h i hi e)
def can (q : tq) (acc : List us3) (j : Nat) : Bool := qT q j && (decide (0 < qL q j) && (decide (qth q j + uD acc ≤ qsum q) && (List.range 6).all (fun i => !(uO acc i && qrv q i j))))
theorem can_iff {q : tq} {acc : List us3} {j : Nat} : can q acc j = true ↔ qT q j = true ∧ 0 < qL q j ∧ qth q j + uD acc ≤ qsum q ∧ ∀ i, i < 6 → uO acc i = true → qrv q i j = false := by
  unfold can
  simp only [Bool.and_eq_true, decide_eq_true_eq, List.all_eq_true, List.mem_range, Bool.not_eq_true', Bool.and_eq_false_iff]
  refine and_congr_right fun _ => and_congr_right fun _ => and_congr_right fun _ => ⟨fun h i hi ho => ?_, fun h i hi => ?_⟩
  · rcases h i hi with e | e
    · rw [ho] at e; cases e
    · exact e
  · cases e : uO acc i
    · exact Or.inl rfl
    · exact Or.inr (h i hi e)
/-- i stands before j: a greater amount, or the same and a lower number -/
def bt (q : tq) (i j : Nat) : Bool := decide (qam q j < qam q i) || (decide (qam q i = qam q j) && decide (i < j))
theorem bt_iff {q : tq} {i j : Nat} : bt q i j = true ↔ qam q j < qam q i ∨ (qam q i = qam q j ∧ i < j) := by
  unfold bt
  simp only [Bool.or_eq_true, Bool.and_eq_true, decide_eq_true_eq]
theorem bt_total {q : tq} {i j : Nat} (h : i ≠ j) (hn : ¬ bt q j i = true) : bt q i j = true := by
  rw [bt_iff] at hn ⊢
  omega
def sel (q : tq) (acc : List us3) (j : Nat) : Bool := can q acc j && (List.range 6).all (fun i => !(qrv q i j && can q acc i) || bt q j i)
theorem sel_iff {q : tq} {acc : List us3} {j : Nat} : sel q acc j = true ↔ can q acc j = true ∧ ∀ i, i < 6 → qrv q i j = true → can q acc i = true → bt q j i = true := by
  unfold sel
  simp only [Bool.and_eq_true, List.all_eq_true, List.mem_range, Bool.or_eq_true, Bool.not_eq_true', Bool.and_eq_false_iff]
  refine and_congr_right fun _ => ⟨fun h i hi h1 h2 => ?_, fun h i hi => ?_⟩
  · rcases h i hi with (e | e) | e
    · rw [h1] at e; cases e
    · rw [h2] at e; cases e
    · exact e
  · cases e1 : qrv q i j
    · exact Or.inl (Or.inl rfl)
    · cases e2 : can q acc i
      · exact Or.inl (Or.inr rfl)
      · exact Or.inr (h i hi e1 e2)
def thr (q : tq) (acc : List us3) : Nat := sm (fun j => if sel q acc j = true then qam q j else 0) 6
def vl (q : tq) (acc : List us3) : Nat := uD acc + thr q acc
def rnk (q : tq) (j : Nat) : Nat := sm (fun i => if bt q i j = true then 1 else 0) 6
theorem rnk_lt {q : tq} {i j : Nat} (hi : i < 6) (h : bt q i j = true) : rnk q i < rnk q j := by
  refine sm_lt (i := i) (fun k hk => ?_) hi ?_
  · by_cases e : bt q k i = true
    · have e2 : bt q k j = true := by
        rw [bt_iff] at e h ⊢
        omega
      rw [if_pos e, if_pos e2]
      omega
    · rw [if_neg e]
      exact Nat.zero_le _
  · have e : ¬ bt q i i = true := by
      rw [bt_iff]
      omega
    rw [if_neg e, if_pos h]
    omega
/-- of those of a group that can be used, one is taken, and it makes as much as each of them -/
theorem champ {q : tq} (hq : qOK q) {acc : List us3} : ∀ (r j : Nat), rnk q j ≤ r → j < 6 → can q acc j = true → ∃ i, i < 6 ∧ (i = j ∨ qrv q i j = true) ∧ sel q acc i = true ∧ qam q j ≤ qam q i := by
  intro r
  induction r with
  | zero =>
    intro j hr hj hc
    by_cases e : sel q acc j = true
    · exact ⟨j, hj, Or.inl rfl, e, Nat.le_refl _⟩
    · exfalso
      have e2 : ¬ ∀ i, i < 6 → qrv q i j = true → can q acc i = true → bt q j i = true := fun h => e (sel_iff.mpr ⟨hc, h⟩)
      refine e2 fun i hi h1 h2 => ?_
      by_cases e3 : bt q j i = true
      · exact e3
      · have hne : i ≠ j := fun h => by rw [h, hq.2.1 j] at h1; cases h1
        have := rnk_lt hi (bt_total hne e3)
        omega
  | succ r ih =>
    intro j hr hj hc
    by_cases e : sel q acc j = true
    · exact ⟨j, hj, Or.inl rfl, e, Nat.le_refl _⟩
    · by_cases e2 : ∃ i, i < 6 ∧ qrv q i j = true ∧ can q acc i = true ∧ ¬ bt q j i = true
      · obtain ⟨i, hi, h1, h2, h3⟩ := e2
        have hne : i ≠ j := fun h => by rw [h, hq.2.1 j] at h1; cases h1
        have hb := bt_total hne h3
        obtain ⟨k, hk, g1, g2, g3⟩ := ih i (by have := rnk_lt hi hb; omega) hi h2
        refine ⟨k, hk, ?_, g2, ?_⟩
        · rcases g1 with rfl | g1
          · exact Or.inr h1
          · by_cases e3 : k = j
            · exact Or.inl e3
            · exact Or.inr (hq.2.2 i k j (hq.1 _ _ g1) h1 e3)
        · rw [bt_iff] at hb
          omega
      · exact absurd (sel_iff.mpr ⟨hc, fun i hi h1 h2 => by
          by_cases e3 : bt q j i = true
          · exact e3
          · exact absurd ⟨i, hi, h1, h2, e3⟩ e2⟩) e
theorem sel_apart {q : tq} {acc : List us3} {i j : Nat} (hi : i < 6) (hj : j < 6) (hq : qOK q) (h1 : sel q acc i = true) (h2 : sel q acc j = true) (h : qrv q i j = true) : False := by
  have a := (sel_iff.mp h2).2 i hi h (sel_iff.mp h1).1
  have b := (sel_iff.mp h1).2 j hj (hq.1 _ _ h) (sel_iff.mp h2).1
  rw [bt_iff] at a b
  omega
/-- what no two of a group are of makes no more than what is taken -/
theorem thr_most {q : tq} (hq : qOK q) {acc : List us3} {P : Nat → Bool} (h1 : ∀ j, j < 6 → P j = true → can q acc j = true) (h2 : ∀ i j, i < 6 → j < 6 → P i = true → P j = true → qrv q i j = false) : sm (fun j => if P j = true then qam q j else 0) 6 ≤ thr q acc := by
  refine sm_match (m := fun j i => P j && (sel q acc i && (decide (i = j) || qrv q i j))) (fun j hj h0 => ?_) (fun i hi j j' hj hj' hm hm' => ?_)
  · by_cases e : P j = true
    · obtain ⟨i, hi, g1, g2, g3⟩ := champ hq (rnk q j) j (Nat.le_refl _) hj (h1 j hj e)
      refine ⟨i, hi, ?_, ?_⟩
      · simp only [Bool.and_eq_true, Bool.or_eq_true, decide_eq_true_eq]
        exact ⟨e, g2, g1⟩
      · show (if P j = true then qam q j else 0) ≤ if sel q acc i = true then qam q i else 0
        rw [if_pos e, if_pos g2]
        exact g3
    · rw [if_neg e] at h0
      exact absurd h0 (Nat.lt_irrefl _)
  · simp only [Bool.and_eq_true, Bool.or_eq_true, decide_eq_true_eq] at hm hm'
    obtain ⟨a1, -, a3⟩ := hm
    obtain ⟨b1, -, b3⟩ := hm'
    by_cases e : j = j'
    · exact e
    · exfalso
      have hr : qrv q j j' = true := by
        rcases a3 with rfl | a3
        · rcases b3 with rfl | b3
          · exact absurd rfl e
          · exact b3
        · rcases b3 with rfl | b3
          · exact hq.1 _ _ a3
          · exact hq.2.2 i j j' a3 b3 e
      rw [h2 j j' hj hj' a1 b1] at hr
      cases hr
/-- acc goes on as L -/
def ext (acc L : List us3) : Prop := uD acc ≤ uD L ∧ ∀ i, uO acc i = true → uO L i = true
theorem can_ext {q : tq} {acc L : List us3} {j : Nat} (h : ext acc L) (hc : can q L j = true) : can q acc j = true := by
  rw [can_iff] at hc ⊢
  exact ⟨hc.1, hc.2.1, Nat.le_trans (Nat.add_le_add_left h.1 _) hc.2.2.1, fun i hi ho => hc.2.2.2 i hi (h.2 i ho)⟩
theorem thr_ext {q : tq} (hq : qOK q) {acc L : List us3} (h : ext acc L) : thr q L ≤ thr q acc :=
  thr_most (P := sel q L) hq (fun j _ e => can_ext h (sel_iff.mp e).1) (fun i j hi hj e1 e2 => by
    cases e : qrv q i j
    · rfl
    · exact (sel_apart hi hj hq e1 e2 e).elim)
theorem ext_cons (u : us3) (acc : List us3) : ext acc (u :: acc) := ⟨Nat.le_add_right _ _, fun i h => by rw [uO, h, Bool.or_true]⟩
theorem ext_tr {a b c : List us3} (h : ext a b) (h2 : ext b c) : ext a c := ⟨Nat.le_trans h.1 h2.1, fun i hi => h2.2 i (h.2 i hi)⟩

/-- all sets of uses behind place p (f places are left), in their order: uses first, none last -/
def lvs (q : tq) (us : Nat → List us3) : Nat → Nat → List us3 → List (List us3)
  | 0, _, acc => [acc]
  | f + 1, p, acc => if uK acc p = true then lvs q us f (p + 1) acc else (us p).flatMap (fun u => if okB q acc u = true then lvs q us f (p + 1) (u :: acc) else []) ++ lvs q us f (p + 1) acc
/-- the first of the best -/
def bst (q : tq) (B : Int × List us3) (Ls : List (List us3)) : Int × List us3 := Ls.foldl (fun B L => if B.1 < (vl q L : Int) then ((vl q L : Int), L) else B) B
theorem bst_app (q : tq) (B : Int × List us3) (a b : List (List us3)) : bst q B (a ++ b) = bst q (bst q B a) b := List.foldl_append
theorem bst_cut {q : tq} {B : Int × List us3} : ∀ {Ls : List (List us3)}, (∀ L ∈ Ls, (vl q L : Int) ≤ B.1) → bst q B Ls = B
  | [], _ => rfl
  | L :: r, h => by
    have h0 := h L List.mem_cons_self
    show bst q (if B.1 < (vl q L : Int) then ((vl q L : Int), L) else B) r = B
    rw [if_neg (by omega)]
    exact bst_cut (fun L' hL => h L' (List.mem_cons_of_mem _ hL))
theorem bst_ge (q : tq) : ∀ (B : Int × List us3) (Ls : List (List us3)), B.1 ≤ (bst q B Ls).1
  | _, [] => Int.le_refl _
  | B, L :: r => by
    have ih := bst_ge q (if B.1 < (vl q L : Int) then ((vl q L : Int), L) else B) r
    refine Int.le_trans ?_ ih
    split
    · show B.1 ≤ (vl q L : Int)
      omega
    · exact Int.le_refl _
theorem bst_all {q : tq} : ∀ {B : Int × List us3} {Ls : List (List us3)} {L : List us3}, L ∈ Ls → (vl q L : Int) ≤ (bst q B Ls).1
  | _, [], _, h => nomatch h
  | B, L0 :: r, L, h => by
    rcases List.mem_cons.mp h with rfl | h
    · refine Int.le_trans ?_ (bst_ge q (if B.1 < (vl q L : Int) then ((vl q L : Int), L) else B) r)
      split
      · exact Int.le_refl _
      · omega
    · exact bst_all (B := if B.1 < (vl q L0 : Int) then ((vl q L0 : Int), L0) else B) (Ls := r) h
theorem bst_mem {q : tq} : ∀ {B : Int × List us3} {Ls : List (List us3)}, bst q B Ls = B ∨ ∃ L ∈ Ls, bst q B Ls = ((vl q L : Int), L)
  | _, [] => Or.inl rfl
  | B, L :: r => by
    show bst q (if B.1 < (vl q L : Int) then ((vl q L : Int), L) else B) r = B ∨ ∃ L' ∈ L :: r, bst q (if B.1 < (vl q L : Int) then ((vl q L : Int), L) else B) r = ((vl q L' : Int), L')
    by_cases e : B.1 < (vl q L : Int)
    · rw [if_pos e]
      rcases bst_mem (q := q) (B := ((vl q L : Int), L)) (Ls := r) with h | ⟨L', h1, h2⟩
      · exact Or.inr ⟨L, List.mem_cons_self, h⟩
      · exact Or.inr ⟨L', List.mem_cons_of_mem _ h1, h2⟩
    · rw [if_neg e]
      rcases bst_mem (q := q) (B := B) (Ls := r) with h | ⟨L', h1, h2⟩
      · exact Or.inl h
      · exact Or.inr ⟨L', List.mem_cons_of_mem _ h1, h2⟩
/-- what holds of uses: their lowest place is p, and they are in the basket of n -/
def uOK (n : Nat) (us : Nat → List us3) : Prop := ∀ p, p < n → ∀ u ∈ us p, u.1 < 6 ∧ u.2.1 < 128 ∧ u.2.2 ≤ 70000 ∧ u.2.1.testBit (6 - p) = true ∧ (∀ k, k < p → u.2.1.testBit (6 - k) = false) ∧ (∀ k, n ≤ k → k < 7 → u.2.1.testBit (6 - k) = false)
def fre (n p : Nat) (acc : List us3) (k : Nat) : Bool := decide (p ≤ k) && (decide (k < n) && !uK acc k)
theorem fre_iff {n p k : Nat} {acc : List us3} : fre n p acc k = true ↔ p ≤ k ∧ k < n ∧ uK acc k = false := by
  unfold fre
  simp only [Bool.and_eq_true, decide_eq_true_eq, Bool.not_eq_true']
theorem lvs_ext {q : tq} {us : Nat → List us3} : ∀ {f p : Nat} {acc L : List us3}, L ∈ lvs q us f p acc → ext acc L
  | 0, p, acc, L, h => by
    rw [List.mem_singleton.mp h]
    exact ⟨Nat.le_refl _, fun _ h => h⟩
  | f + 1, p, acc, L, h => by
    rw [lvs] at h
    split at h
    · exact lvs_ext h
    · rcases List.mem_append.mp h with h | h
      · obtain ⟨u, hu, h2⟩ := List.mem_flatMap.mp h
        split at h2
        · exact ext_tr (ext_cons u acc) (lvs_ext h2)
        · exact nomatch h2
      · exact lvs_ext h
/-- the class's bound: each free place has at most its share -/
theorem lvs_share {q : tq} {us : Nat → List us3} {n : Nat} (hn : n ≤ 7) (hu : uOK n us) {sh : Nat → Nat} (hs : ∀ p, p < n → ∀ u ∈ us p, 60 * u.2.2 ≤ sm (fun k => if u.2.1.testBit (6 - k) = true then sh k else 0) 7) :
    ∀ {f p : Nat} {acc L : List us3}, p + f = n → L ∈ lvs q us f p acc → 60 * uD L ≤ 60 * uD acc + sm (fun k => if fre n p acc k = true then sh k else 0) 7 := by
  intro f
  induction f with
  | zero =>
    intro p acc L hp h
    rw [List.mem_singleton.mp h]
    omega
  | succ f ih =>
    intro p acc L hp h
    have hsub : sm (fun k => if fre n (p + 1) acc k = true then sh k else 0) 7 ≤ sm (fun k => if fre n p acc k = true then sh k else 0) 7 := sm_le (fun k hk => by
      by_cases e : fre n (p + 1) acc k = true
      · have e1 := fre_iff.mp e
        rw [if_pos e, if_pos (fre_iff.mpr ⟨by omega, e1.2.1, e1.2.2⟩)]
        exact Nat.le_refl _
      · rw [if_neg e]; exact Nat.zero_le _)
    rw [lvs] at h
    split at h
    · have := ih (by omega) h
      omega
    · rename_i hk
      rcases List.mem_append.mp h with h | h
      · obtain ⟨u, hup, h2⟩ := List.mem_flatMap.mp h
        split at h2
        · rename_i hok
          have h3 := ih (by omega) h2
          have h4 := hs p (by omega) u hup
          obtain ⟨-, -, -, b1, b2, b3⟩ := hu p (by omega) u hup
          have hD : uD (u :: acc) = uD acc + u.2.2 := rfl
          have h5 : sm (fun k => if fre n (p + 1) (u :: acc) k = true then sh k else 0) 7 + sm (fun k => if u.2.1.testBit (6 - k) = true then sh k else 0) 7 ≤ sm (fun k => if fre n p acc k = true then sh k else 0) 7 := by
            rw [← sm_add]
            refine sm_le (fun k hk7 => ?_)
            by_cases e : u.2.1.testBit (6 - k) = true
            · have e1 : ¬ fre n (p + 1) (u :: acc) k = true := fun h => by
                have := (fre_iff.mp h).2.2
                rw [uK, e, Bool.true_or] at this
                cases this
              have e2 : fre n p acc k = true := fre_iff.mpr ⟨by
                  by_cases hkp : k < p
                  · rw [b2 k hkp] at e; cases e
                  · omega, by
                  by_cases hkn : n ≤ k
                  · rw [b3 k hkn hk7] at e; cases e
                  · omega, (okB_iff.mp hok).2.1 k hk7 e⟩
              rw [if_neg e1, if_pos e, if_pos e2]
              omega
            · rw [if_neg e]
              by_cases e1 : fre n (p + 1) (u :: acc) k = true
              · have e2 := fre_iff.mp e1
                have e3 : fre n p acc k = true := fre_iff.mpr ⟨by omega, e2.2.1, by
                  have h9 := e2.2.2
                  rw [uK] at h9
                  exact (Bool.or_eq_false_iff.mp h9).2⟩
                rw [if_pos e1, if_pos e3]
                omega
              · rw [if_neg e1]
                exact Nat.zero_le _
          omega
        · exact nomatch h2
      · have := ih (by omega) h
        omega
/-- the model's bound: each place has at most its best use -/
theorem lvs_hope {q : tq} {us : Nat → List us3} {n : Nat} {hp : Nat → Nat} (h1 : ∀ p, p < n → ∀ u ∈ us p, u.2.2 + hp (p + 1) ≤ hp p) (h2 : ∀ p, p < n → hp (p + 1) ≤ hp p) : ∀ {f p : Nat} {acc L : List us3}, p + f = n → L ∈ lvs q us f p acc → uD L ≤ uD acc + hp p := by
  intro f
  induction f with
  | zero =>
    intro p acc L hp h
    rw [List.mem_singleton.mp h]
    omega
  | succ f ih =>
    intro p acc L hp h
    have hm := h2 p (by omega)
    rw [lvs] at h
    split at h
    · have := ih (by omega) h
      omega
    · rcases List.mem_append.mp h with h | h
      · obtain ⟨u, hup, g2⟩ := List.mem_flatMap.mp h
        split at g2
        · have h3 := ih (by omega) g2
          have h4 := h1 p (by omega) u hup
          have hD : uD (u :: acc) = uD acc + u.2.2 := rfl
          omega
        · exact nomatch g2
      · have := ih (by omega) h
        omega
