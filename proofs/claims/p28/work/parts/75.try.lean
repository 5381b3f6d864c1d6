/-! FOUND BY TRYING: the same greatest value. -/
/-- thresholds from j on that can be used together, behind those of T -/
def vld (q : tq) (D T j : Nat) (P : Nat → Bool) : Prop := ∀ i, j ≤ i → i < 6 → P i = true → (qT q i = true ∧ 0 < qL q i ∧ qth q i + D ≤ qsum q ∧ ∀ z, z < 6 → T.testBit z = true → qrv q z i = false) ∧ ∀ i', j ≤ i' → i' < 6 → P i' = true → qrv q i i' = false
def wrt (q : tq) (j : Nat) (P : Nat → Bool) : Nat := sm (fun i => if decide (j ≤ i) && P i then qam q i else 0) 6
theorem wrt_s {q : tq} {j : Nat} {P : Nat → Bool} (hj : j < 6) : wrt q j P = (if P j = true then qam q j else 0) + wrt q (j + 1) P := by
  have h1 : ∀ n, sm (fun i => if decide (j ≤ i) && P i then qam q i else 0) n = (if j < n then (if P j = true then qam q j else 0) else 0) + sm (fun i => if decide (j + 1 ≤ i) && P i then qam q i else 0) n := by
    intro n
    induction n with
    | zero => rfl
    | succ n ih =>
      rw [sm, sm, ih]
      by_cases e : j = n
      · subst e
        rw [if_neg (Nat.lt_irrefl j), if_pos (Nat.lt_succ_self j), decide_eq_true (Nat.le_refl j), decide_eq_false (show ¬ j + 1 ≤ j by omega)]
        simp only [Bool.true_and, Bool.false_and]
        rw [if_neg (show ¬ false = true by decide)]
        omega
      · by_cases e2 : j < n
        · rw [if_pos e2, if_pos (show j < n + 1 by omega), decide_eq_true (show j ≤ n by omega), decide_eq_true (show j + 1 ≤ n by omega)]
          omega
        · rw [if_neg e2, if_neg (show ¬ j < n + 1 by omega), decide_eq_false (show ¬ j ≤ n by omega), decide_eq_false (show ¬ j + 1 ≤ n by omega)]
          simp only [Bool.false_and]
          rw [if_neg (show ¬ false = true by decide)]
          omega
  unfold wrt
  rw [h1 6, if_pos hj]
theorem wrt_6 (q : tq) (P : Nat → Bool) : wrt q 6 P = 0 := by
  have h : wrt q 6 P = sm (fun _ => 0) 6 := sm_eq (fun i hi => by rw [decide_eq_false (show ¬ 6 ≤ i by omega), Bool.false_and]; rfl)
  rw [h, sm_0]
theorem wrt_lt {q : tq} (h : ∀ j, j < 6 → qam q j < 2 ^ 16) (j : Nat) (P : Nat → Bool) : wrt q j P ≤ 393210 := by
  have h1 : wrt q j P ≤ sm (fun _ => 65535) 6 := sm_le (fun i hi => by
    have := h i hi
    split <;> omega)
  have e : sm (fun _ => 65535) 6 = 393210 := rfl
  omega
theorem wrt_c {q : tq} {j : Nat} {P P' : Nat → Bool} (h : ∀ i, j ≤ i → P' i = P i) : wrt q j P' = wrt q j P := sm_eq (fun i _ => by
  by_cases e : j ≤ i
  · rw [h i e]
  · rw [decide_eq_false e, Bool.false_and, Bool.false_and])
theorem vld_c {q : tq} {D T j : Nat} {P P' : Nat → Bool} (h : ∀ i, j ≤ i → P' i = P i) (hv : vld q D T j P) : vld q D T j P' := fun i h1 h2 h3 => by
  rw [h i h1] at h3
  obtain ⟨a, b⟩ := hv i h1 h2 h3
  exact ⟨a, fun i' g1 g2 g3 => b i' g1 g2 (by rw [← h i' g1]; exact g3)⟩
theorem mot_spec {q : tq} (hq : qOK q) {V : Nat → Int32} {M : Nat → Nat → Int32} (h : thC q V M) {D : Nat} (hD : D < 2 ^ 20) (h17 : ∀ j, j < 6 → ∃ l, M 17 j = nI l ∧ l < 2 ^ 20 ∧ (qT q j = true → l = qL q j)) :
    ∀ (k j : Nat), j + k = 6 → ∀ T, T < 64 → ∃ m, motF V M (k + 1) j (nI T) (nI D) = nI m ∧ (∀ P, vld q D T j P → wrt q j P ≤ m) ∧ ∃ P, vld q D T j P ∧ wrt q j P = m := by
  have ham : ∀ j, j < 6 → qam q j < 2 ^ 16 := fun j hj => (h.2.2.2.2.2.1 j hj).2.1
  intro k
  induction k with
  | zero =>
    intro j hj T hT
    have e : j = 6 := by omega
    subst e
    refine ⟨0, ?_, fun P _ => by rw [wrt_6]; exact Nat.le_refl _, fun _ => false, fun i h1 h2 => by omega, wrt_6 q _⟩
    rw [motF, if_neg (by decide)]
    rfl
  | succ k ih =>
    intro j hj T hT
    have hj6 : j < 6 := by omega
    obtain ⟨l, l1, l2, l3⟩ := h17 j hj6
    have hal := allow_iff h hj6 hT hD l1 l2 l3
    obtain ⟨m1, e1, u1, P1, v1, w1⟩ := ih (j + 1) (by omega) T hT
    obtain ⟨m2, e2, u2, P2, v2, w2⟩ := ih (j + 1) (by omega) (T ||| 2 ^ j) (bx_orlt hT hj6)
    have hm1 : m1 ≤ 393210 := by rw [← w1]; exact wrt_lt ham _ _
    have hm2 : m2 ≤ 393210 := by rw [← w2]; exact wrt_lt ham _ _
    have hamj := ham j hj6
    have up : ∀ P, vld q D T j P → vld q D T (j + 1) P := fun P hv i h1 h2 h3 => ⟨(hv i (by omega) h2 h3).1, fun i' g1 g2 g3 => (hv i (by omega) h2 h3).2 i' (by omega) g2 g3⟩
    -- a choice from j + 1 on, without j
    have low : ∀ P, vld q D T (j + 1) P → vld q D T j (fun i => !decide (i = j) && P i) ∧ wrt q j (fun i => !decide (i = j) && P i) = wrt q (j + 1) P := fun P hv => by
      have hc : ∀ i, j + 1 ≤ i → (!decide (i = j) && P i) = P i := fun i hi => by rw [decide_eq_false (by omega)]; rfl
      refine ⟨fun i h1 h2 h3 => ?_, ?_⟩
      · have hij : i ≠ j := fun e => by simp [e] at h3
        have h3' : P i = true := by rw [← hc i (by omega)]; exact h3
        refine ⟨(hv i (by omega) h2 h3').1, fun i' g1 g2 g3 => ?_⟩
        have hij' : i' ≠ j := fun e => by simp [e] at g3
        exact (hv i (by omega) h2 h3').2 i' (by omega) g2 (by rw [← hc i' (by omega)]; exact g3)
      · rw [wrt_s hj6, wrt_c (j := j + 1) hc]
        show (if (!decide (j = j) && P j) = true then qam q j else 0) + wrt q (j + 1) P = wrt q (j + 1) P
        rw [decide_eq_true rfl]
        simp
    rw [motF, if_pos (show nI j < 6 from nI_lt (b := 6) hj6 (by decide))]
    by_cases ea : allowsV V M (nI j) (nI T) (nI D) = 0
    · rw [if_pos ea]
      refine ⟨m1, e1, fun P hv => ?_, fun i => !decide (i = j) && P1 i, (low P1 v1).1, (low P1 v1).2.trans w1⟩
      have hPj : ¬ P j = true := fun hp => (hal.mp ea) (hv j (Nat.le_refl j) hj6 hp).1
      rw [wrt_s hj6, if_neg hPj, Nat.zero_add]
      exact u1 P (up P hv)
    · rw [if_neg ea, atF_nI hj6 (by decide), (h.2.2.2.2.2.1 j hj6).1, e1, bx_or hT hj6, e2, nI_add, mx_nat (by omega) (by omega)]
      have hcan := Classical.not_not.mp fun hn => ea (hal.mpr hn)
      refine ⟨if m1 < qam q j + m2 then qam q j + m2 else m1, rfl, fun P hv => ?_, ?_⟩
      · rw [wrt_s hj6]
        by_cases hPj : P j = true
        · rw [if_pos hPj]
          have hv2 : vld q D (T ||| 2 ^ j) (j + 1) P := fun i h1 h2 h3 => by
            obtain ⟨⟨a1, a2, a3, a4⟩, b⟩ := hv i (by omega) h2 h3
            refine ⟨⟨a1, a2, a3, fun z hz hb => ?_⟩, fun i' g1 g2 g3 => b i' (by omega) g2 g3⟩
            rw [bx_orb, Bool.or_eq_true, decide_eq_true_eq] at hb
            rcases hb with hb | hb
            · exact a4 z hz hb
            · rw [← hb]
              exact (hv j (Nat.le_refl j) hj6 hPj).2 i (by omega) h2 h3
          have := u2 P hv2
          split <;> omega
        · rw [if_neg hPj, Nat.zero_add]
          have := u1 P (up P hv)
          split <;> omega
      · by_cases c : m1 < qam q j + m2
        · rw [if_pos c]
          have hc : ∀ i, j + 1 ≤ i → (decide (i = j) || P2 i) = P2 i := fun i hi => by rw [decide_eq_false (by omega)]; rfl
          refine ⟨fun i => decide (i = j) || P2 i, fun i h1 h2 h3 => ?_, ?_⟩
          · by_cases e : i = j
            · subst e
              refine ⟨hcan, fun i' g1 g2 g3 => ?_⟩
              by_cases e' : i' = i
              · rw [e']; exact hq.2.1 i
              · have g3' : P2 i' = true := by rw [← hc i' (by omega)]; exact g3
                have := (v2 i' (by omega) g2 g3').1.2.2.2 i hj6 (by rw [bx_orb, decide_eq_true rfl, Bool.or_true])
                exact this
            · have h3' : P2 i = true := by rw [← hc i (by omega)]; exact h3
              obtain ⟨⟨a1, a2, a3, a4⟩, b⟩ := v2 i (by omega) h2 h3'
              refine ⟨⟨a1, a2, a3, fun z hz hb => a4 z hz (by rw [bx_orb, hb, Bool.true_or])⟩, fun i' g1 g2 g3 => ?_⟩
              by_cases e' : i' = j
              · subst e'
                have h9 := a4 i' hj6 (by rw [bx_orb, decide_eq_true rfl, Bool.or_true])
                cases hb : qrv q i i'
                · rfl
                · rw [hq.1 _ _ hb] at h9; cases h9
              · exact b i' (by omega) g2 (by rw [← hc i' (by omega)]; exact g3)
          · rw [wrt_s hj6, wrt_c (j := j + 1) hc, w2]
            show (if (decide (j = j) || P2 j) = true then qam q j else 0) + m2 = qam q j + m2
            rw [decide_eq_true rfl]
            rfl
        · rw [if_neg c]
          exact ⟨fun i => !decide (i = j) && P1 i, (low P1 v1).1, (low P1 v1).2.trans w1⟩
/-- what thresholds make at most is what is laid -/
theorem mot_thr {q : tq} (hq : qOK q) {V : Nat → Int32} {M : Nat → Nat → Int32} (h : thC q V M) {acc : List us3} (hn : ndC q acc M) {T : Nat} (hT : T < 64) (hTb : ∀ j, j < 6 → T.testBit j = uO acc j) : motF V M 7 0 (nI T) (nI (uD acc)) = nI (thr q acc) := by
  obtain ⟨n1, n2, n3, n4, n5⟩ := hn
  obtain ⟨m, e, u, P, v, w⟩ := mot_spec hq h (D := uD acc) (by omega) (fun j hj => ⟨qL q j - uC acc j, (n1 j hj).2, by have := n2 j hj; omega, fun ht => by rw [n5 j hj ht, Nat.sub_zero]⟩) 6 0 rfl T hT
  rw [e]
  congr 1
  have e0 : ∀ P, wrt q 0 P = sm (fun i => if P i = true then qam q i else 0) 6 := fun P => sm_eq (fun i _ => by rw [decide_eq_true (Nat.zero_le i), Bool.true_and])
  refine Nat.le_antisymm ?_ ?_
  · rw [← w, e0]
    refine thr_most hq (fun j hj hp => ?_) (fun i j hi hj h1 h2 => (v i (Nat.zero_le _) hi h1).2 j (Nat.zero_le _) hj h2)
    obtain ⟨a1, a2, a3, a4⟩ := (v j (Nat.zero_le _) hj hp).1
    exact can_iff.mpr ⟨a1, a2, a3, fun i hi ho => a4 i hi ((hTb i hi).trans ho)⟩
  · have h1 := u (sel q acc) (fun i _ hi hs => by
      obtain ⟨a1, a2, a3, a4⟩ := can_iff.mp (sel_iff.mp hs).1
      refine ⟨⟨a1, a2, a3, fun z hz hb => a4 z hz ((hTb z hz).symm.trans hb)⟩, fun i' _ hi' hs' => ?_⟩
      cases hb : qrv q i i'
      · rfl
      · exact (sel_apart hi hi' hq hs hs' hb).elim)
    rw [e0] at h1
    exact h1
def isM (q : tq) (Ls : List (List us3)) (m : Nat) : Prop := (∀ L ∈ Ls, vl q L ≤ m) ∧ ∃ L ∈ Ls, vl q L = m
/-- what trying gives back -/
def tR (q : tq) (Ls : List (List us3)) (s : VM) (r : Int32 × VM) : Prop := (∃ m, r.1 = nI m ∧ m < 2 ^ 21 ∧ isM q Ls m) ∧ (∀ z, r.2.1 z = s.1 z) ∧ (∀ z, Nat.beq z 17 = false → r.2.2 z = s.2 z) ∧ ∀ j, j < 6 → r.2.2 17 j = s.2 17 j
def nB (q : tq) (n p : Nat) (acc : List us3) (F T : Nat) (M : Nat → Nat → Int32) : Prop :=
  (F < 128 ∧ ∀ k, k < 7 → F.testBit (6 - k) = fre n p acc k) ∧ (T < 64 ∧ ∀ j, j < 6 → T.testBit j = uO acc j) ∧ (∀ j, j < 6 → M 17 j = nI (qL q j - uC acc j))
theorem mbS_eq (rec : Nat → Int32 → Int32 → Int32 → VM → Int32 × VM) (st : Nat → Nat) (p : Nat) (free disc taken : Int32) (i : Nat) (r : Int32 × VM) (h : ¬ fitsV r.2.2 (nI (st p + i)) free taken = 0) : mbS rec st p free disc taken i r =
    (mxF r.1 (rec (p + 1) (free &&& (atF 210 (r.2.2 14) (nI (st p + i)) ^^^ -1)) (disc + atF 210 (r.2.2 15) (nI (st p + i))) (taken ||| (1 <<< (atF 210 (r.2.2 13) (nI (st p + i)) &&& 31))) (r.2.1, chM r.2.2 (nI (st p + i)) (-1))).1,
     ((rec (p + 1) (free &&& (atF 210 (r.2.2 14) (nI (st p + i)) ^^^ -1)) (disc + atF 210 (r.2.2 15) (nI (st p + i))) (taken ||| (1 <<< (atF 210 (r.2.2 13) (nI (st p + i)) &&& 31))) (r.2.1, chM r.2.2 (nI (st p + i)) (-1))).2.1,
      chM (rec (p + 1) (free &&& (atF 210 (r.2.2 14) (nI (st p + i)) ^^^ -1)) (disc + atF 210 (r.2.2 15) (nI (st p + i))) (taken ||| (1 <<< (atF 210 (r.2.2 13) (nI (st p + i)) &&& 31))) (r.2.1, chM r.2.2 (nI (st p + i)) (-1))).2.2 (nI (st p + i)) 1)) := if_neg h
theorem isM_app {q : tq} {a b : List (List us3)} {x y : Nat} (h1 : isM q a x) (h2 : isM q b y) : isM q (a ++ b) (if x < y then y else x) := by
  refine ⟨fun L hL => ?_, ?_⟩
  · rcases List.mem_append.mp hL with hL | hL
    · have := h1.1 L hL; split <;> omega
    · have := h2.1 L hL; split <;> omega
  · by_cases e : x < y
    · rw [if_pos e]
      obtain ⟨L, g1, g2⟩ := h2.2
      exact ⟨L, List.mem_append_right _ g1, g2⟩
    · rw [if_neg e]
      obtain ⟨L, g1, g2⟩ := h1.2
      exact ⟨L, List.mem_append_left _ g1, g2⟩
theorem isM_mem {q : tq} {a b : List (List us3)} {x : Nat} (h : ∀ L, L ∈ a ↔ L ∈ b) (h1 : isM q a x) : isM q b x := ⟨fun L hL => h1.1 L ((h L).mpr hL), by obtain ⟨L, g1, g2⟩ := h1.2; exact ⟨L, (h L).mp g1, g2⟩⟩
set_option maxHeartbeats 1000000 in
theorem mbF_spec {q : tq} (hq : qOK q) {us : Nat → List us3} {n : Nat} (hn : n ≤ 7) {st : Nat → Nat} : ∀ (k p : Nat), p + k = 7 → ∀ (acc : List us3) (F T : Nat) (s : VM), srC q us n st s.1 s.2 → accOK q p acc → nB q n p acc F T s.2 → tR q (lvs q us (n - p) p acc) s (mbF st (k + 1) p (nI F) (nI (uD acc)) (nI T) s) := by
  intro k
  induction k with
  | zero =>
    intro p hp acc F T s hs ha hN
    have hp7 : p = 7 := by omega
    subst hp7
    obtain ⟨hth, hu, hl, hT0, hL9, -⟩ := hs
    obtain ⟨hF, hT, h17⟩ := hN
    have hD := ha.D (Nat.le_refl _)
    have hnd : ndC q acc s.2 := ⟨fun j hj => ⟨ha.2.2 j hj, h17 j hj⟩, hL9, by omega, ha.O, ha.C⟩
    have elv : lvs q us (n - 7) 7 acc = [acc] := by rw [show n - 7 = 0 by omega]; rfl
    have hv := thr_lt hth acc
    rw [mbF, if_neg (by decide), mot_thr hq hth hnd hT.1 hT.2, nI_add, elv]
    exact ⟨⟨vl q acc, rfl, by unfold vl; omega, fun L hL => by rw [List.mem_singleton.mp hL]; exact Nat.le_refl _, acc, List.mem_singleton.mpr rfl, rfl⟩, fun _ => rfl, fun _ _ => rfl, fun _ _ => rfl⟩
  | succ k ih =>
    intro p hp acc F T s hs ha hN
    have hs0 := hs
    obtain ⟨hth, hu, hl, hT0, hL9, -⟩ := hs
    obtain ⟨hF, hT, h17⟩ := hN
    have hpow : 2 ^ (6 - p) < 128 := (show ∀ p, p < 7 → 2 ^ (6 - p) < 128 by decide) p (by omega)
    have hFl : F &&& (2 ^ (6 - p) ^^^ 127) < 128 := Nat.lt_of_le_of_lt Nat.and_le_left hF.1
    have hnode : nB q n (p + 1) acc (F &&& (2 ^ (6 - p) ^^^ 127)) T s.2 := by
      refine ⟨⟨hFl, fun k7 hk7 => ?_⟩, hT, h17⟩
      rw [bx_cutb hpow (by omega), hF.2 k7 hk7, Nat.testBit_two_pow]
      unfold fre
      by_cases e : k7 = p
      · have e3 : decide (p + 1 ≤ k7) = false := decide_eq_false (by omega)
        have e4 : decide (6 - p = 6 - k7) = true := decide_eq_true (by omega)
        rw [e3, e4]
        simp
      · have e1 : decide (6 - p = 6 - k7) = false := decide_eq_false (by omega)
        have e2 : decide (p + 1 ≤ k7) = decide (p ≤ k7) := by
          by_cases h : p ≤ k7
          · rw [decide_eq_true h, decide_eq_true (by omega)]
          · rw [decide_eq_false h, decide_eq_false (by omega)]
        rw [e1, e2]
        simp
    have hE := ih (p + 1) (by omega) acc (F &&& (2 ^ (6 - p) ^^^ 127)) T s hs0 ha.up hnode
    rw [mbF, if_pos (show nI p < 7 from nI_lt (b := 7) (by omega) (by decide)), bx_in hF.1 (by omega), hF.2 p (by omega), bx_bit (by omega), bx_cut hpow hF.1]
    by_cases e2 : fre n p acc p = true
    · rw [if_pos e2, if_neg (by decide)]
      obtain ⟨-, hpn, huk⟩ := fre_iff.mp e2
      have elv : lvs q us (n - p) p acc = (us p).flatMap (fun u => if okB q acc u = true then lvs q us (n - (p + 1)) (p + 1) (u :: acc) else []) ++ lvs q us (n - (p + 1)) (p + 1) acc := by
        rw [show n - p = (n - (p + 1)) + 1 by omega, lvs, if_neg (by rw [huk]; decide)]
      obtain ⟨hlen, hli⟩ := hl p hpn
      rw [hlen]
      generalize hr0 : mbF st (k + 1) (p + 1) (nI (F &&& (2 ^ (6 - p) ^^^ 127))) (nI (uD acc)) (nI T) s = r0 at hE
      have hloop : ∀ i, i ≤ (us p).length → tR q (lvs q us (n - (p + 1)) (p + 1) acc ++ ((us p).take i).flatMap (fun u => if okB q acc u = true then lvs q us (n - (p + 1)) (p + 1) (u :: acc) else [])) s (itr (mbS (mbF st (k + 1)) st p (nI F) (nI (uD acc)) (nI T)) i r0) := by
        intro i
        induction i with
        | zero =>
          intro _
          have e : ((us p).take 0).flatMap (fun u => if okB q acc u = true then lvs q us (n - (p + 1)) (p + 1) (u :: acc) else []) = [] := rfl
          rw [e, List.append_nil]
          exact hE
        | succ i ihi =>
          intro hi
          have c := ihi (by omega)
          have es : itr (mbS (mbF st (k + 1)) st p (nI F) (nI (uD acc)) (nI T)) (i + 1) r0 = mbS (mbF st (k + 1)) st p (nI F) (nI (uD acc)) (nI T) i (itr (mbS (mbF st (k + 1)) st p (nI F) (nI (uD acc)) (nI T)) i r0) := rfl
          rw [es]
          generalize itr (mbS (mbF st (k + 1)) st p (nI F) (nI (uD acc)) (nI T)) i r0 = r at c
          obtain ⟨⟨m, c1, c1', c1''⟩, c2, c3, c4⟩ := c
          obtain ⟨u, hiu⟩ : ∃ u, (us p)[i]? = some u := ⟨_, List.getElem?_eq_getElem (by omega)⟩
          have etk : (us p).take (i + 1) = (us p).take i ++ [u] := by rw [List.take_add_one, hiu]; rfl
          rw [etk, List.flatMap_append, ← List.append_assoc]
          have efm : [u].flatMap (fun u => if okB q acc u = true then lvs q us (n - (p + 1)) (p + 1) (u :: acc) else []) = (if okB q acc u = true then lvs q us (n - (p + 1)) (p + 1) (u :: acc) else []) := by rw [List.flatMap_cons, List.flatMap_nil, List.append_nil]
          rw [efm]
          have hsr : srC q us n st r.2.1 r.2.2 := srC_K2 hs0 (c3 7 rfl) (c3 8 rfl) (c3 9 rfl) (c3 18 rfl) (c3 13 rfl) (c3 14 rfl) (c3 15 rfl) (c3 19 rfl) (c2 8)
          have h17r : ∀ j, j < 6 → r.2.2 17 j = nI (qL q j - uC acc j) := fun j hj => (c4 j hj).trans (h17 j hj)
          have hfit := fits_spec hsr hn hpn ha hF hT h17r hiu
          by_cases e3 : fitsV r.2.2 (nI (st p + i)) (nI F) (nI T) = 0
          · have e4 : mbS (mbF st (k + 1)) st p (nI F) (nI (uD acc)) (nI T) i r = r := if_pos e3
            rw [e4, if_neg (hfit.mp e3), List.append_nil]
            exact ⟨⟨m, c1, c1', c1''⟩, c2, c3, c4⟩
          · have hok : okB q acc u = true := Classical.not_not.mp fun h => e3 (hfit.mpr h)
            have hum := List.mem_of_getElem? hiu
            obtain ⟨u1, u2, u3, b1, b2, b3⟩ := hu p hpn u hum
            obtain ⟨hx, e13, e14, e15⟩ := (hsr.2.2.1 p hpn).2 i u hiu
            rw [if_pos hok, mbS_eq _ _ _ _ _ _ _ _ e3, atF_nI hx (by decide), atF_nI hx (by decide), atF_nI hx (by decide), e13, e14, e15, bx_cut u2 hF.1, nI_add, bx_or hT.1 u1]
            have ech : ∀ (N : Nat → Nat → Int32) (t : Int32), N 13 = r.2.2 13 → chM N (nI (st p + i)) t = sM N 17 (upd (N 17) u.1 (N 17 u.1 + t)) := by
              intro N t h13
              unfold chM
              rw [h13, atF_nI hx (by decide), e13, atF_nI u1 (by decide), setF_nI u1 (by decide)]
            rw [ech r.2.2 (-1) rfl]
            have hlt := (okB_iff.mp hok).1
            have hFl2 : F &&& (u.2.1 ^^^ 127) < 128 := Nat.lt_of_le_of_lt Nat.and_le_left hF.1
            have hnode2 : nB q n (p + 1) (u :: acc) (F &&& (u.2.1 ^^^ 127)) (T ||| 2 ^ u.1) (sM r.2.2 17 (upd (r.2.2 17) u.1 (r.2.2 17 u.1 + -1))) := by
              refine ⟨⟨hFl2, fun k7 hk7 => ?_⟩, ⟨bx_orlt hT.1 u1, fun j hj => ?_⟩, fun j hj => ?_⟩
              · rw [bx_cutb u2 (by omega), hF.2 k7 hk7]
                unfold fre
                rw [uK]
                by_cases e5 : k7 = p
                · have e7 : decide (p + 1 ≤ k7) = false := decide_eq_false (by omega)
                  rw [e7, e5, b1]
                  simp
                · have e6 : decide (p + 1 ≤ k7) = decide (p ≤ k7) := by
                    by_cases h : p ≤ k7
                    · rw [decide_eq_true h, decide_eq_true (by omega)]
                    · rw [decide_eq_false h, decide_eq_false (by omega)]
                  rw [e6]
                  cases u.2.1.testBit (6 - k7) <;> simp
              · rw [bx_orb, hT.2 j hj, uO, Bool.or_comm]
              · show upd (r.2.2 17) u.1 (r.2.2 17 u.1 + -1) j = nI (qL q j - uC (u :: acc) j)
                rw [uC]
                by_cases e5 : j = u.1
                · subst e5
                  rw [upd_self9, if_pos rfl, h17r _ u1, show qL q u.1 - uC acc u.1 = (qL q u.1 - (uC acc u.1 + 1)) + 1 by omega, pk_m1]
                · rw [upd_ne9 e5, if_neg (fun h => e5 h.symm), h17r _ hj, Nat.add_zero]
            have hr := ih (p + 1) (by omega) (u :: acc) (F &&& (u.2.1 ^^^ 127)) (T ||| 2 ^ u.1) (r.2.1, sM r.2.2 17 (upd (r.2.2 17) u.1 (r.2.2 17 u.1 + -1))) (srC_K2 hsr rfl rfl rfl rfl rfl rfl rfl rfl rfl) (ha.cons ⟨u1, u2, u3, hT0 p hpn u hum⟩ hok) hnode2
            have eD : uD (u :: acc) = uD acc + u.2.2 := rfl
            rw [eD] at hr
            generalize mbF st (k + 1) (p + 1) (nI (F &&& (u.2.1 ^^^ 127))) (nI (uD acc + u.2.2)) (nI (T ||| 2 ^ u.1)) (r.2.1, sM r.2.2 17 (upd (r.2.2 17) u.1 (r.2.2 17 u.1 + -1))) = y at hr
            obtain ⟨⟨m', d1, d1', d1''⟩, d2, d3, d4⟩ := hr
            rw [ech y.2.2 1 (d3 13 rfl), c1, d1, mx_nat (by omega) (by omega)]
            refine ⟨⟨if m < m' then m' else m, rfl, by split <;> omega, isM_app c1'' d1''⟩, fun z => (d2 z).trans (c2 z), fun z hz => ?_, fun j hj => ?_⟩
            · show sM y.2.2 17 _ z = s.2 z
              rw [sM_ne hz]
              exact (d3 z hz).trans ((sM_ne hz).trans (c3 z hz))
            · show upd (y.2.2 17) u.1 (y.2.2 17 u.1 + 1) j = s.2 17 j
              have d17 : ∀ j, j < 6 → y.2.2 17 j = upd (r.2.2 17) u.1 (r.2.2 17 u.1 + -1) j := fun j hj => d4 j hj
              by_cases e5 : j = u.1
              · subst e5
                rw [upd_self9, d17 _ u1, upd_self9, h17r _ u1, h17 _ u1, show qL q u.1 - uC acc u.1 = (qL q u.1 - (uC acc u.1 + 1)) + 1 by omega, pk_m1, nI_1]
              · rw [upd_ne9 e5, d17 _ hj, upd_ne9 e5]
                exact c4 j hj
      obtain ⟨⟨m, c1, c1', c1''⟩, c2, c3, c4⟩ := hloop _ (Nat.le_refl _)
      rw [List.take_length] at c1''
      rw [elv]
      exact ⟨⟨m, c1, c1', isM_mem (fun L => by rw [List.mem_append, List.mem_append, or_comm]) c1''⟩, c2, c3, c4⟩
    · rw [if_neg e2, if_pos rfl]
      have elv : lvs q us (n - p) p acc = lvs q us (n - (p + 1)) (p + 1) acc := by
        by_cases hpn : p < n
        · have huk : uK acc p = true := by
            cases h : uK acc p
            · exact absurd (fre_iff.mpr ⟨Nat.le_refl _, hpn, h⟩) e2
            · rfl
          rw [show n - p = (n - (p + 1)) + 1 by omega, lvs, if_pos huk]
        · rw [show n - p = 0 by omega, show n - (p + 1) = 0 by omega]
          rfl
      rw [elv]
      exact hE
section TRY
variable {V : Nat → Int32} {M : Nat → Nat → Int32} {os : Nat → ofr} {V' : Nat → Int32} {M' : Nat → Nat → Int32} {t : Int64} {a o c : Nat}
/-- trying tells the best discount, and both stay related -/
theorem FD_try (h : RX V M os V' M' t a o c) (h1 : V 1 = 1) (h7 : V' 7 = 1) (hF : FD (cb (M' 5) a) o c (BX a M') V M V' M') : (tryF (stF M) (cb (M' 5) a) (V, M)).1 7 = V' 8 ∧ RX (tryF (stF M) (cb (M' 5) a) (V, M)).1 (tryF (stF M) (cb (M' 5) a) (V, M)).2 os V' M' t a o c := by
  have hn := h.1.2.2.1.2
  have hvl := bs_vl h.1
  obtain ⟨g1, g2, g3, g4, g5, g6, g7, g8, g9⟩ := hF
  have e8 : V' 8 = nI (vl (qX (cb (M' 5) a) o c (BX a M')) (LX (cb (M' 5) a) o c (BX a M'))) := Int32.toInt_inj.mp (g8.1.trans (nI_toInt (by omega)).symm)
  unfold tryF
  by_cases e : V 7 = -1
  · rw [if_pos (show (V, M).1 7 = -1 from e)]
    obtain ⟨F, hF128, eF, hFb⟩ := mask_nat hn
    have hm := mbF_spec (qX_OK (cb (M' 5) a) o c (BX a M')) hn 7 0 rfl [] F 0 (V, M) g2 ⟨Nat.le_refl _, ⟨fun u hu => (List.not_mem_nil hu).elim, fun j _ => Nat.zero_le _⟩⟩ ⟨⟨hF128, hFb⟩, ⟨by decide, fun j _ => Nat.zero_testBit j⟩, fun j hj => by rw [show uC [] j = 0 from rfl, Nat.sub_zero]; exact g3 j hj⟩
    rw [eF]
    change tR _ _ _ (mbF (stF M) 8 0 (nI F) 0 0 (V, M)) at hm
    generalize mbF (stF M) 8 0 (nI F) 0 0 (V, M) = r at hm
    obtain ⟨⟨m, r1, -, rM⟩, r2, r3, r4⟩ := hm
    obtain ⟨eb, -, hmem⟩ := bs_L h.1
    have em : m = vl (qX (cb (M' 5) a) o c (BX a M')) (LX (cb (M' 5) a) o c (BX a M')) := by
      refine Nat.le_antisymm ?_ (rM.1 _ hmem)
      obtain ⟨L, hL, eL⟩ := rM.2
      have h9 := bst_all (q := qX (cb (M' 5) a) o c (BX a M')) (B := (-1, [])) hL
      rw [show cb (M' 5) a - 0 = cb (M' 5) a from rfl] at h9
      rw [eb] at h9
      have h10 : ((vl (qX (cb (M' 5) a) o c (BX a M')) L : Nat) : Int) ≤ ((vl (qX (cb (M' 5) a) o c (BX a M')) (LX (cb (M' 5) a) o c (BX a M')) : Nat) : Int) := h9
      omega
    refine ⟨?_, RB_K h.1 ⟨r2 0, r2 2, r2 3, r2 4, r2 10, r2 11, r2 12, r2 13, r2 14⟩ ⟨r3 2 rfl, r3 3 rfl, r3 4 rfl, r3 7 rfl, r3 8 rfl, r3 9 rfl, r3 10 rfl, r3 26 rfl, r3 27 rfl, r3 28 rfl, r3 29 rfl⟩ ⟨rfl, rfl, rfl, rfl⟩ ⟨rfl, rfl, rfl, rfl, rfl, rfl, rfl, rfl, rfl, rfl, rfl, rfl, rfl, rfl, rfl⟩ (fun _ _ _ => rfl), Or.inr ⟨(r2 1).trans h1, h7, ?_⟩⟩
    · show r.1 = V' 8
      rw [r1, em, e8]
    · have est : stF r.2.2 = stF M := stF_K (r3 16 rfl)
      refine ⟨bC_K g1 (r2 5) (r2 6) (r3 21 rfl) (r3 13 rfl) (r3 14 rfl) (r3 15 rfl), ?_, fun j hj => (r4 j hj).trans (g3 j hj), HL_K g4 (r2 9) (r3 13 rfl) (r3 14 rfl) (r3 15 rfl), fun z hz => ?_, Or.inr ?_, fun k hk => ?_, g8, g9⟩
      · show srC _ _ _ (stF r.2.2) _ _
        rw [est]
        exact srC_K2 g2 (r3 7 rfl) (r3 8 rfl) (r3 9 rfl) (r3 18 rfl) (r3 13 rfl) (r3 14 rfl) (r3 15 rfl) (r3 19 rfl) (r2 8)
      · show r.2.2 16 z = nI (stF r.2.2 z) ∧ stF r.2.2 z ≤ 210
        rw [est, r3 16 rfl]
        exact g5 z hz
      · show r.1 = _
        rw [r1, em]
      · show r.2.2 23 k = _
        rw [r3 23 rfl]
        exact g7 k hk
  · rw [if_neg (show ¬ (V, M).1 7 = -1 from e)]
    exact ⟨(g6.resolve_left e).trans e8.symm, h.1, Or.inr ⟨h1, h7, g1, g2, g3, g4, g5, g6, g7, g8, g9⟩⟩
end TRY
