/-! THE MODEL'S SEARCH, whole. -/
theorem uX_none {k : Nat} : ∀ {acc : List us3}, uK acc k = false → uX acc k = -1
  | [], _ => rfl
  | u :: r, h => by
    rw [uK, Bool.or_eq_false_iff] at h
    rw [uX, if_neg (by rw [h.1]; decide)]
    exact uX_none h.2
theorem mN_down {q : tq} {n o p : Nat} {acc : List us3} {Tk : Nat} {B : Nat → Nat → Int32} {s : VM} (h : mN q n o (p + 1) acc Tk B s) : mN q n o p acc Tk B s :=
  ⟨h.1, h.2.1, h.2.2.1, h.2.2.2.1, fun k hk ho => h.2.2.2.2.1 k hk (ho.elim (fun h => Or.inl (by omega)) Or.inr), h.2.2.2.2.2⟩
theorem KB_K {B : Nat → Nat → Int32} {s s' : VM} (h : KB B s) (hk : Kept s s') : KB B s' := fun k hg => (hk.2.1 k hg).trans (h k hg)
theorem tk1_c (n j u : Nat) (set : Int32) (s : VM) : (tk1 n j u set s).2 15 = uoA set u (s.2 15) n ∧ (tk1 n j u set s).2 18 = upd (s.2 18) u (nI j) ∧ (tk1 n j u set s).2 19 = upd (s.2 19) u (diM s.2 n j set) ∧ (tk1 n j u set s).2 16 = upd (s.2 16) j (s.2 16 j + 1) ∧
    (tk1 n j u set s).2 17 = (if s.2 12 j = -1 then s.2 17 else upd (s.2 17) (s.2 12 j).toNatClampNeg (nI j)) ∧ (tk1 n j u set s).1 8 = s.1 8 ∧ (tk1 n j u set s).1 9 = s.1 9 ∧ (tk1 n j u set s).1 10 = s.1 10 ∧
    (tk1 n j u set s).2 21 = s.2 21 ∧ (tk1 n j u set s).2 22 = s.2 22 ∧ (tk1 n j u set s).2 23 = s.2 23 ∧ (tk1 n j u set s).2 24 = s.2 24 ∧ (tk1 n j u set s).2 25 = s.2 25 := by
  unfold tk1
  split <;> exact ⟨rfl, rfl, rfl, rfl, rfl, rfl, rfl, rfl, rfl, rfl, rfl, rfl, rfl⟩
theorem tk3_c (j u : Nat) (s r : VM) : (tk3 j u s r).2 15 = r.2 15 ∧ (tk3 j u s r).2 18 = r.2 18 ∧ (tk3 j u s r).2 19 = r.2 19 ∧ (tk3 j u s r).2 16 = upd (r.2 16) j (r.2 16 j - 1) ∧
    (tk3 j u s r).2 17 = (if s.2 12 j = -1 then r.2 17 else upd (r.2 17) (s.2 12 j).toNatClampNeg (s.2 17 (s.2 12 j).toNatClampNeg)) ∧ (tk3 j u s r).1 8 = r.1 8 ∧ (tk3 j u s r).1 9 = r.1 9 ∧ (tk3 j u s r).1 10 = r.1 10 ∧
    (tk3 j u s r).2 21 = r.2 21 ∧ (tk3 j u s r).2 22 = r.2 22 ∧ (tk3 j u s r).2 23 = r.2 23 ∧ (tk3 j u s r).2 24 = r.2 24 ∧ (tk3 j u s r).2 25 = r.2 25 := by
  unfold tk3
  split <;> exact ⟨rfl, rfl, rfl, rfl, rfl, rfl, rfl, rfl, rfl, rfl, rfl, rfl, rfl⟩
theorem nI_subone (a : Nat) : nI (a + 1) - 1 = nI a := nI_pred a
/-- one use: laid, gone on from, taken back -/
theorem tk_step {q : tq} (hq : qOK q) {n o c : Nat} {sz hp : Nat → Nat} {B : Nat → Nat → Int32} (hS : srM q n o c sz hp B) {k p : Nat} (hpk : p + (k + 1) = n) {G : Nat → Int32 → Int32 → VM → VM} (hGK : ∀ u taken off s, s.1 6 = nI u → Kept s (G u taken off s))
    (hG : ∀ (acc : List us3) (Tk : Nat) (Bst : Int × List us3) (s : VM), KB B s → accOK q (p + 1) acc → mN q n o (p + 1) acc Tk B s → mB q n o Bst s → mN q n o (p + 1) acc Tk B (G acc.length (nI Tk) (nI (uD acc)) s) ∧ mB q n o (bst q Bst (lvs q (usA3 q n o sz B) k (p + 1) acc)) (G acc.length (nI Tk) (nI (uD acc)) s))
    {acc : List us3} {Tk : Nat} {B1 : Int × List us3} {s : VM} (hK : KB B s) (ha : accOK q p acc) (hN : mN q n o p acc Tk B s) (hB : mB q n o B1 s) {j m d : Nat} (hj : j < o) (hjT : qT q j = false) (hok : okB q acc (j, m, d) = true) (hm : mlB n p m = true) (hd : diM B n j (nI (rv7 m)) = nI d) (hd3 : d ≤ 70000) :
    KB B (tkF G n j acc.length (nI Tk) (nI (uD acc)) (nI (rv7 m)) s) ∧ mN q n o p acc Tk B (tkF G n j acc.length (nI Tk) (nI (uD acc)) (nI (rv7 m)) s) ∧ mB q n o (bst q B1 (lvs q (usA3 q n o sz B) k (p + 1) ((j, m, d) :: acc))) (tkF G n j acc.length (nI Tk) (nI (uD acc)) (nI (rv7 m)) s) := by
  have hn := hS.1
  have ho := hS.2.1
  have hr := hS.2.2.2.2.2.2.2.2.2.1
  have hg := hS.2.2.2.2.2.2.2.2.1
  obtain ⟨m1, m2, m3⟩ := mlB_iff.mp hm
  obtain ⟨⟨hTk, hTb⟩, h6, h16, hO, h15, hls, hao, hpair⟩ := hN
  obtain ⟨okC, okD, okR⟩ := okB_iff.mp hok
  have hKept : Kept s (tkF G n j acc.length (nI Tk) (nI (uD acc)) (nI (rv7 m)) s) := tkF_K hGK h6
  refine ⟨KB_K hK hKept, ?_⟩
  unfold tkF
  rw [by_or2 hTk (rv_lt m1), diM_B hK, hd, nI_add]
  have hrv := rv_lt m1
  obtain ⟨a15, a18, a19, a16, a17, a8, a9, a10, a21, a22, a23, a24, a25⟩ := tk1_c n j acc.length (nI (rv7 m)) s
  have aK := (tk1_K n j acc.length (nI (rv7 m)) s).2
  have a6 := tk1_6 n j acc.length (nI (rv7 m)) s
  generalize tk1 n j acc.length (nI (rv7 m)) s = s1 at a15 a18 a19 a16 a17 a8 a9 a10 a21 a22 a23 a24 a25 aK a6
  have hK1 : KB B s1 := fun k hk => (aK k hk).trans (hK k hk)
  have e12 : s.2 12 = B 12 := hK 12 (gk_of (by omega))
  have hN1 : mN q n o (p + 1) ((j, m, d) :: acc) (Tk ||| rv7 m) B s1 := by
    refine ⟨⟨by_orlt hTk hrv, fun k7 hk7 => ?_⟩, a6, fun i hi => ?_, fun g hg4 => ?_, fun k7 hk7 hor => ?_, ⟨?_, ?_, ?_⟩, fun v hv => ?_, fun i i' hi hi' => ?_⟩
    · rw [Nat.testBit_or, hTb k7 hk7, rv_bit m1 hk7, uK, Bool.or_comm]
    · rw [a16, uC]
      by_cases e : i = j
      · subst e
        rw [upd_self9, h16 _ hj, if_pos rfl, nI_1]
      · rw [upd_ne9 e, h16 _ hi, if_neg (fun h => e h.symm), Nat.add_zero]
    · rw [a17, e12]
      by_cases e : B 12 j = nI g
      · right
        refine ⟨(j, m, d), List.mem_cons_self, e, ?_⟩
        have hne : ¬ B 12 j = -1 := fun h => by
          have h7 := congrArg Int32.toInt (e.symm.trans h)
          rw [nI_toInt (by omega)] at h7
          have h8 : (-1 : Int32).toInt = -1 := by decide
          omega
        rw [if_neg hne, e, nI_clamp (by omega), upd_self9]
      · have hsame : (if B 12 j = -1 then s.2 17 else upd (s.2 17) (B 12 j).toNatClampNeg (nI j)) g = s.2 17 g := by
          by_cases e2 : B 12 j = -1
          · rw [if_pos e2]
          · rw [if_neg e2]
            rcases hg j hj with h3 | ⟨g', hg', h3⟩
            · exact absurd h3 e2
            · rw [h3, nI_clamp (by omega), upd_ne9 (fun h => e (by rw [h3, h]))]
        rw [hsame]
        rcases hO g hg4 with ⟨h1, h2⟩ | ⟨v, hv, h1, h2⟩
        · left
          refine ⟨h1, fun v hv => ?_⟩
          rcases List.mem_cons.mp hv with rfl | hv
          · exact e
          · exact h2 v hv
        · exact Or.inr ⟨v, List.mem_cons_of_mem _ hv, h1, h2⟩
    · rw [a15, uoA_spec, uX, by_in hrv (by omega), rv_bit m1 (by omega)]
      by_cases e : m.testBit (6 - k7) = true
      · rw [if_pos e, if_pos ⟨hk7, rfl⟩, if_pos e]
      · rw [if_neg e, if_neg (fun h => absurd h.2 (by decide)), if_neg e]
        refine h15 k7 hk7 ?_
        rcases hor with h | h
        · by_cases e2 : k7 = p
          · rw [e2] at e
            exact absurd m2 e
          · exact Or.inl (by omega)
        · rw [uK, Bool.or_eq_true] at h
          rcases h with h | h
          · exact absurd h e
          · exact Or.inr h
    · rw [a18, upd_self9]
    · rw [a19, upd_self9, diM_B hK, hd]
    · rw [a18, a19]
      exact lsR_K (fun i hi => ⟨upd_ne9 (by omega), upd_ne9 (by omega)⟩) hls
    · rcases List.mem_cons.mp hv with rfl | hv
      · exact hj
      · exact hao v hv
    · rw [uO, Bool.or_eq_true, decide_eq_true_eq] at hi hi'
      have six : ∀ z, uO acc z = true → z < 6 := fun z hz => by
        obtain ⟨w, hw, ew⟩ := uO_mem hz
        have := hao w hw
        omega
      rcases hi with hi | hi <;> rcases hi' with hi' | hi'
      · rw [← hi, ← hi']
        exact hq.2.1 _
      · rw [← hi]
        cases e : qrv q j i'
        · rfl
        · have := okR i' (six i' hi') hi'
          rw [hq.1 _ _ e] at this
          cases this
      · rw [← hi']
        exact okR i (six i hi) hi
      · exact hpair i i' hi hi'
  have hB1 : mB q n o B1 s1 := mB_K hB a8 a9 a10 a21 a22 a23 a24 a25
  have hr1 := hG ((j, m, d) :: acc) (Tk ||| rv7 m) B1 s1 hK1 (ha.cons ⟨by show j < 6; omega, m1, hd3, hjT⟩ hok) hN1 hB1
  have eD : uD ((j, m, d) :: acc) = uD acc + d := rfl
  have eL : ((j, m, d) :: acc).length = acc.length + 1 := rfl
  rw [eD, eL] at hr1
  generalize G (acc.length + 1) (nI (Tk ||| rv7 m)) (nI (uD acc + d)) s1 = r at hr1
  obtain ⟨⟨-, -, r16, rO, r15, rls, -, -⟩, rB⟩ := hr1
  obtain ⟨b15, b18, b19, b16, b17, b8, b9, b10, b21, b22, b23, b24, b25⟩ := tk3_c j acc.length s r
  refine ⟨⟨⟨hTk, hTb⟩, (tk3_K j acc.length s r).2.2, fun i hi => ?_, fun g hg4 => ?_, fun k7 hk7 hor => ?_, ?_, hao, hpair⟩, mB_K rB b8 b9 b10 b21 b22 b23 b24 b25⟩
  · rw [b16]
    by_cases e : i = j
    · subst e
      rw [upd_self9, r16 _ hj, uC, if_pos rfl, nI_subone]
    · rw [upd_ne9 e, r16 _ hi, uC, if_neg (fun h => e h.symm), Nat.add_zero]
  · rw [b17, e12]
    by_cases e : B 12 j = nI g
    · have hne : ¬ B 12 j = -1 := fun h => by
        have h7 := congrArg Int32.toInt (e.symm.trans h)
        rw [nI_toInt (by omega)] at h7
        have h8 : (-1 : Int32).toInt = -1 := by decide
        omega
      rw [if_neg hne, e, nI_clamp (by omega), upd_self9]
      exact hO g hg4
    · have hsame : (if B 12 j = -1 then r.2 17 else upd (r.2 17) (B 12 j).toNatClampNeg (s.2 17 (B 12 j).toNatClampNeg)) g = r.2 17 g := by
        by_cases e2 : B 12 j = -1
        · rw [if_pos e2]
        · rw [if_neg e2]
          rcases hg j hj with h3 | ⟨g', hg', h3⟩
          · exact absurd h3 e2
          · rw [h3, nI_clamp (by omega), upd_ne9 (fun h => e (by rw [h3, h]))]
      rw [hsame]
      rcases rO g hg4 with ⟨h1, h2⟩ | ⟨v, hv, h1, h2⟩
      · exact Or.inl ⟨h1, fun v hv => h2 v (List.mem_cons_of_mem _ hv)⟩
      · rcases List.mem_cons.mp hv with rfl | hv
        · exact absurd h1 e
        · exact Or.inr ⟨v, hv, h1, h2⟩
  · have hb : m.testBit (6 - k7) = false := by
      rcases hor with h | h
      · exact m3 k7 (by omega) (Or.inl h)
      · cases e : m.testBit (6 - k7)
        · rfl
        · have := okD k7 (by omega) e
          rw [h] at this
          cases this
    rw [b15, r15 k7 hk7 (hor.elim (fun h => Or.inl (by omega)) (fun h => Or.inr (by rw [uK, h, Bool.or_true]))), uX, if_neg (by rw [hb]; decide)]
  · rw [b18, b19]
    exact rls.2.2
theorem leF_spec {q : tq} {n o c : Nat} {sz hp : Nat → Nat} {B : Nat → Nat → Int32} (hS : srM q n o c sz hp B) {acc : List us3} {Tk : Nat} {Bst : Int × List us3} {s : VM} (hK : KB B s) (ha : accOK q n acc) (hN : mN q n o n acc Tk B s) (hB : mB q n o Bst s) :
    mN q n o n acc Tk B (leF n o c acc.length (nI (qsum q)) (nI (uD acc)) s) ∧ mB q n o (bst q Bst [acc]) (leF n o c acc.length (nI (qsum q)) (nI (uD acc)) s) := by
  have hn := hS.1
  have hD := ha.D hn
  have hN0 := hN
  obtain ⟨hT, h6, h16, hO, h15, hls, hao, hpair⟩ := hN
  have hat : ∀ u ∈ acc, u.1 < o ∧ qT q u.1 = false := fun u hu => ⟨hao u hu, (ha.2.1 u hu).2.2.2⟩
  have hth := th_spec hS hK hO hat (by omega)
  have hthl : thr q acc < 2 ^ 19 := Nat.lt_of_le_of_lt (hpT_ge hS (acc := acc) ⟨Nat.le_refl _, fun _ h => h⟩) (hpT_lt hS acc)
  have hv31 : vl q acc < 2 ^ 31 := by
    unfold vl
    omega
  have ev : nI (uD acc) + nI (thr q acc) = nI (vl q acc) := nI_add _ _
  unfold leF
  rw [hth, ev]
  show _ ∧ mB q n o (if Bst.1 < (vl q acc : Int) then ((vl q acc : Int), acc) else Bst) _
  by_cases e : nI (vl q acc) ≤ s.1 8
  · rw [if_pos e]
    have h1 : ¬ Bst.1 < (vl q acc : Int) := by
      rw [Int32.le_iff_toInt_le, nI_toInt hv31, hB.1] at e
      omega
    rw [if_neg h1]
    exact ⟨hN0, hB⟩
  · rw [if_neg e]
    have h1 : Bst.1 < (vl q acc : Int) := by
      rw [Int32.le_iff_toInt_le, nI_toInt hv31, hB.1] at e
      omega
    rw [if_pos h1]
    refine ⟨⟨hT, h6, h16, hO, h15, hls, hao, hpair⟩, nI_toInt hv31, fun _ => ⟨rfl, rfl, fun k hk => ?_, fun j hj => ?_, ?_, fun j hj => ?_⟩⟩
    · show cpA (s.2 15) (s.2 21) n k = uX acc k
      rw [cpA_spec hk]
      exact h15 k hk (Or.inl hk)
    · show cpA (s.2 16) (s.2 22) o j = nI (uC acc j)
      rw [cpA_spec hj]
      exact h16 j hj
    · show lsR (cpA (s.2 18) (s.2 23) acc.length) (cpA (s.2 19) (s.2 24) acc.length) acc
      exact lsR_K (fun i hi => ⟨cpA_spec hi, cpA_spec hi⟩) hls
    · show isA c o s.2 (nI (uD acc)) (nI (qsum q)) (s.2 25) o j = if sel q acc j = true then 1 else 0
      rw [isA_spec hj, is_spec hS hK hO hat (by omega) hj]
      split <;> rfl
set_option maxHeartbeats 1000000 in
theorem goF_spec {q : tq} (hq : qOK q) {n o c : Nat} {sz hp : Nat → Nat} {B : Nat → Nat → Int32} (hS : srM q n o c sz hp B) : ∀ (k p : Nat), p + k = n → ∀ (acc : List us3) (Tk : Nat) (Bst : Int × List us3) (s : VM), KB B s → accOK q p acc → mN q n o p acc Tk B s → mB q n o Bst s →
    mN q n o p acc Tk B (goF n o c (nI (qsum q)) k p acc.length (nI Tk) (nI (uD acc)) s) ∧ mB q n o (bst q Bst (lvs q (usA3 q n o sz B) k p acc)) (goF n o c (nI (qsum q)) k p acc.length (nI Tk) (nI (uD acc)) s) := by
  intro k
  induction k with
  | zero =>
    intro p hp0 acc Tk Bst s hK ha hN hB
    have e : p = n := by omega
    subst e
    exact leF_spec hS hK ha hN hB
  | succ k ih =>
    intro p hpk acc Tk Bst s hK ha hN hB
    have hn := hS.1
    have hN0 := hN
    obtain ⟨⟨hTk, hTb⟩, h6, h16, hO, h15, hls, hao, hpair⟩ := hN
    have hD := ha.D (by omega)
    have hat : ∀ u ∈ acc, u.1 < o ∧ qT q u.1 = false := fun u hu => ⟨hao u hu, (ha.2.1 u hu).2.2.2⟩
    have hGK : ∀ u taken off s, s.1 6 = nI u → Kept s (goF n o c (nI (qsum q)) k (p + 1) u taken off s) := fun u taken off s h => goF_K n o c (nI (qsum q)) k (p + 1) u taken off s h
    rw [goF, by_in hTk (by omega), hTb p (by omega), lvs]
    by_cases e1 : uK acc p = true
    · rw [if_pos e1, if_pos rfl, if_pos e1]
      have hN1 : mN q n o (p + 1) acc Tk B s := ⟨⟨hTk, hTb⟩, h6, h16, hO, fun k7 hk7 hor => by
        by_cases e : k7 = p
        · exact h15 k7 hk7 (Or.inr (by rw [e]; exact e1))
        · exact h15 k7 hk7 (hor.elim (fun h => Or.inl (by omega)) Or.inr), hls, hao, hpair⟩
      have hr := ih (p + 1) (by omega) acc Tk Bst s hK ha.up hN1 hB
      exact ⟨mN_down hr.1, hr.2⟩
    · have e1' : uK acc p = false := by
        cases h : uK acc p
        · rfl
        · exact absurd h e1
      rw [if_neg e1, if_neg (by decide), if_neg e1]
      obtain ⟨h20, hhp⟩ := hS.2.2.2.2.2.2.2.2.2.2.2.2.2.1 p (by omega)
      have hTl := hpT_lt hS acc
      rw [hK 20 (gk_of (by omega)), h20, ho_spec hS hK hO hat (by omega), nI_add, nI_add]
      by_cases e2 : s.1 8 < nI (uD acc + hp p + hpT q o acc)
      · rw [if_pos e2, bst_app]
        -- all offers, one behind another
        have hloop : ∀ j, j ≤ o → KB B (itr (goS c (goF n o c (nI (qsum q)) k (p + 1)) n k p acc.length (nI Tk) (nI (uD acc))) j s) ∧ mN q n o p acc Tk B (itr (goS c (goF n o c (nI (qsum q)) k (p + 1)) n k p acc.length (nI Tk) (nI (uD acc))) j s) ∧ mB q n o (bst q Bst (((List.range j).flatMap (usj q n sz B p)).flatMap (fun u => if okB q acc u = true then lvs q (usA3 q n o sz B) k (p + 1) (u :: acc) else []))) (itr (goS c (goF n o c (nI (qsum q)) k (p + 1)) n k p acc.length (nI Tk) (nI (uD acc))) j s) := by
          intro j
          induction j with
          | zero => intro _; exact ⟨hK, hN0, hB⟩
          | succ j ihj =>
            intro hj
            obtain ⟨c1, c2, c3⟩ := ihj (by omega)
            generalize hsj : itr (goS c (goF n o c (nI (qsum q)) k (p + 1)) n k p acc.length (nI Tk) (nI (uD acc))) j s = sj at c1 c2 c3
            have es : itr (goS c (goF n o c (nI (qsum q)) k (p + 1)) n k p acc.length (nI Tk) (nI (uD acc))) (j + 1) s = goS c (goF n o c (nI (qsum q)) k (p + 1)) n k p acc.length (nI Tk) (nI (uD acc)) j sj := by rw [← hsj]; rfl
            rw [es, List.range_succ, List.flatMap_append, List.flatMap_append, bst_app, List.flatMap_cons, List.flatMap_nil, List.append_nil]
            generalize bst q Bst (((List.range j).flatMap (usj q n sz B p)).flatMap (fun u => if okB q acc u = true then lvs q (usA3 q n o sz B) k (p + 1) (u :: acc) else [])) = B1 at c3
            have hjo : j < o := by omega
            have hma := ma_spec hS c1 c2 ha hjo
            unfold goS
            by_cases e3 : maM c sj.2 j = 0
            · rw [if_pos e3]
              have hno : (usj q n sz B p j).flatMap (fun u => if okB q acc u = true then lvs q (usA3 q n o sz B) k (p + 1) (u :: acc) else []) = [] := by
                rw [List.flatMap_eq_nil_iff]
                intro u hu
                refine if_neg (fun hok => (hma.mp e3) ?_)
                unfold usj at hu
                split at hu
                · exact nomatch hu
                · rename_i hT0
                  split at hu
                  · exact nomatch hu
                  · obtain ⟨m, hm, hmu⟩ := List.mem_filterMap.mp hu
                    have hu1 : u.1 = j := by
                      unfold mkU at hmu
                      split at hmu
                      · cases hmu
                      · cases hmu
                        rfl
                    obtain ⟨o1, -, o3⟩ := okB_iff.mp hok
                    rw [hu1] at o1 o3
                    exact ⟨by cases h : qT q j; rfl; exact absurd h hT0, o1, o3⟩
              rw [hno]
              exact ⟨c1, c2, c3⟩
            · rw [if_neg e3]
              obtain ⟨hjT, hjC, hjR⟩ := Classical.not_not.mp fun h => e3 (hma.mpr h)
              obtain ⟨hsz0, hsz1, hsz5⟩ := hS.2.2.2.2.2.2.2.2.2.2.2.1 j hjo hjT
              have hdi := hS.2.2.2.2.2.2.2.2.2.2.2.2.1 j hjo hjT
              have huj : usj q n sz B p j = (ml n p (sz j)).filterMap (mkU B n j) := by
                unfold usj
                rw [if_neg (by rw [hjT]; decide), if_neg (by omega)]
              have hk : k = n - (p + 1) := by omega
              have hfold := ch0_fold (T := tkG (goF n o c (nI (qsum q)) k (p + 1)) n acc.length (nI Tk) (nI (uD acc)) j) (n := n) (j := j) (sz := sz j) (tak := Tk) (p := p) (g := fun X => decide (¬ goM B n j (nI X) = 0)) (I := fun s => KB B s ∧ s.1 6 = nI acc.length) hn (by omega) hTk hsz1 hsz5
                (fun s hs => ⟨(szM_B hs.1 j).trans hsz0, fun X _ => by rw [goM_B hs.1, decide_eq_false_iff_not, Classical.not_not]⟩)
                (fun X s _ hs => ⟨KB_K hs.1 (tkF_K hGK hs.2), (tkF_K hGK hs.2).2.2.trans hs.2⟩)
                (by rw [hTb p (by omega)]; exact e1') (s := sj) ⟨c1, c2.2.1⟩
              rw [← hk] at hfold
              rw [hfold, huj]
              have hml : ∀ m ∈ ml n p (sz j), mlB n p m = true := fun m hm => (ml_B hn (by omega) (by omega) hm).1
              clear hfold e3 hma es hsj
              generalize ml n p (sz j) = ms at hml
              induction ms generalizing sj B1 with
              | nil => exact ⟨c1, c2, c3⟩
              | cons m ms ihm =>
                have hm := hml m List.mem_cons_self
                have m1 := (mlB_iff.mp hm).1
                rw [List.map_cons, List.foldl_cons]
                by_cases e4 : goM B n j (nI (rv7 m)) = 0
                · have e5 : stp (fun X => decide (¬ goM B n j (nI X) = 0)) (tkG (goF n o c (nI (qsum q)) k (p + 1)) n acc.length (nI Tk) (nI (uD acc)) j) Tk sj (rv7 m) = sj := by
                    unfold stp
                    split
                    · exact if_neg (fun h => (decide_eq_true_eq.mp h) e4)
                    · rfl
                  have e6 : mkU B n j m = none := if_pos e4
                  rw [e5, List.filterMap_cons_none e6]
                  exact ihm sj c1 c2 B1 c3 (fun m hm => hml m (List.mem_cons_of_mem _ hm))
                · obtain ⟨d, hd3, hd⟩ := hdi (rv7 m) (rv_lt m1) e4
                  have e6 : mkU B n j m = some (j, m, d) := by
                    unfold mkU
                    rw [if_neg e4, hd, nI_clamp (by omega)]
                  rw [List.filterMap_cons_some e6, List.flatMap_cons, bst_app]
                  have hdj : dj Tk (rv7 m) = true ↔ okB q acc (j, m, d) = true := by
                    rw [dj_iff, okB_iff]
                    constructor
                    · intro h
                      exact ⟨hjC, fun k7 hk7 hb => (hTb k7 hk7).symm.trans (h k7 hk7 ((rv_bit m1 hk7).trans hb)), hjR⟩
                    · rintro ⟨-, h, -⟩ k7 hk7 hb
                      exact (hTb k7 hk7).trans (h k7 hk7 ((rv_bit m1 hk7).symm.trans hb))
                  by_cases e7 : dj Tk (rv7 m) = true
                  · have e5 : stp (fun X => decide (¬ goM B n j (nI X) = 0)) (tkG (goF n o c (nI (qsum q)) k (p + 1)) n acc.length (nI Tk) (nI (uD acc)) j) Tk sj (rv7 m) = tkF (goF n o c (nI (qsum q)) k (p + 1)) n j acc.length (nI Tk) (nI (uD acc)) (nI (rv7 m)) sj := by
                      unfold stp
                      rw [if_pos e7, if_pos (decide_eq_true e4)]
                      rfl
                    obtain ⟨d1, d2, d3⟩ := tk_step hq hS hpk hGK (fun acc Tk Bst s => ih (p + 1) (by omega) acc Tk Bst s) c1 ha c2 c3 hjo hjT (hdj.mp e7) hm hd hd3
                    rw [e5, if_pos (hdj.mp e7)]
                    exact ihm _ d1 d2 _ d3 (fun m hm => hml m (List.mem_cons_of_mem _ hm))
                  · have e5 : stp (fun X => decide (¬ goM B n j (nI X) = 0)) (tkG (goF n o c (nI (qsum q)) k (p + 1)) n acc.length (nI Tk) (nI (uD acc)) j) Tk sj (rv7 m) = sj := if_neg e7
                    rw [e5, if_neg (fun h => e7 (hdj.mpr h))]
                    exact ihm sj c1 c2 B1 c3 (fun m hm => hml m (List.mem_cons_of_mem _ hm))
        obtain ⟨d1, d2, d3⟩ := hloop o (Nat.le_refl _)
        generalize itr (goS c (goF n o c (nI (qsum q)) k (p + 1)) n k p acc.length (nI Tk) (nI (uD acc))) o s = so at d1 d2 d3
        unfold goE
        have hN1 : mN q n o (p + 1) acc Tk B (so.1, sM so.2 15 (upd (so.2 15) p (-1))) := by
          obtain ⟨f1, f2, f3, f4, f5, f6, f7, f8⟩ := d2
          refine ⟨f1, f2, f3, f4, fun k7 hk7 hor => ?_, f6, f7, f8⟩
          show upd (so.2 15) p (-1) k7 = uX acc k7
          by_cases e : k7 = p
          · rw [e, upd_self9, uX_none e1']
          · rw [upd_ne9 e]
            exact f5 k7 hk7 (hor.elim (fun h => Or.inl (by omega)) Or.inr)
        have hr := ih (p + 1) (by omega) acc Tk _ (so.1, sM so.2 15 (upd (so.2 15) p (-1))) (fun z hz => (sM_ne hz.1).trans (d1 z hz)) ha.up hN1 (mB_K d3 rfl rfl rfl rfl rfl rfl rfl rfl)
        exact ⟨mN_down hr.1, hr.2⟩
      · rw [if_neg e2]
        refine ⟨hN0, ?_⟩
        rw [bst_cut]
        · exact hB
        · intro L hL
          have hL' : L ∈ lvs q (usA3 q n o sz B) (k + 1) p acc := by
            rw [lvs, if_neg e1]
            exact hL
          have h1 := lvs_hope (hp := hp) hS.2.2.2.2.2.2.2.2.2.2.2.2.2.2.1 hS.2.2.2.2.2.2.2.2.2.2.2.2.2.2.2 hpk hL'
          have h2 := hpT_ge hS (lvs_ext hL')
          have h3 : ¬ Bst.1 < ((uD acc + hp p + hpT q o acc : Nat) : Int) := fun h => e2 ((lt_nI (by omega)).mpr (by rw [hB.1]; exact h))
          unfold vl
          omega
