/-! ONE MORE OFFER never makes the best discount less: each set that could be used before can be used still, and makes no less. -/
def sub0 (o : Nat) (q q' : tq) : Prop := (∀ j, j < o → qL q' j = qL q j ∧ qth q' j = qth q j ∧ qam q' j = qam q j ∧ qT q' j = qT q j) ∧ qsum q' = qsum q ∧ ∀ i j, i < o → j < o → qrv q' i j = qrv q i j
def lowO (o : Nat) (acc : List us3) : Prop := ∀ u ∈ acc, u.1 < o
theorem lowO_nil (o : Nat) : lowO o [] := fun u hu => by cases hu
theorem uO_low {o : Nat} {acc : List us3} (h : lowO o acc) {i : Nat} (hi : uO acc i = true) : i < o := by
  obtain ⟨u, hu, e⟩ := uO_mem hi
  rw [← e]
  exact h u hu
theorem okB_up {o : Nat} {q q' : tq} (hs : sub0 o q q') {acc : List us3} {u : us3} (ha : lowO o acc) (hu : u.1 < o) (h : okB q acc u = true) : okB q' acc u = true := by
  obtain ⟨h1, h2, h3⟩ := okB_iff.mp h
  exact okB_iff.mpr ⟨by rw [(hs.1 _ hu).1]; exact h1, h2, fun i hi ho => by rw [hs.2.2 i u.1 (uO_low ha ho) hu]; exact h3 i hi ho⟩
theorem lvs_up {o : Nat} {q q' : tq} (hs : sub0 o q q') {us us' : Nat → List us3} {n : Nat} (hus : ∀ p, p < n → ∀ u ∈ us p, u ∈ us' p ∧ u.1 < o) : ∀ {f p : Nat} {acc L : List us3}, p + f = n → lowO o acc → L ∈ lvs q us f p acc → L ∈ lvs q' us' f p acc ∧ lowO o L := by
  intro f
  induction f with
  | zero =>
    intro p acc L hp ha h
    have e := List.mem_singleton.mp h
    rw [e]
    exact ⟨List.mem_singleton.mpr rfl, ha⟩
  | succ f ih =>
    intro p acc L hp ha h
    rw [lvs] at h ⊢
    by_cases hk : uK acc p = true
    · rw [if_pos hk] at h ⊢
      exact ih (by omega) ha h
    · rw [if_neg hk] at h ⊢
      rcases List.mem_append.mp h with h | h
      · obtain ⟨u, hup, h2⟩ := List.mem_flatMap.mp h
        split at h2
        · rename_i hok
          obtain ⟨k1, k2⟩ := hus p (by omega) u hup
          obtain ⟨g1, g2⟩ := ih (by omega) (fun v hv => by
            rcases List.mem_cons.mp hv with e | hv
            · rw [e]; exact k2
            · exact ha v hv) h2
          refine ⟨List.mem_append_left _ (List.mem_flatMap.mpr ⟨u, k1, ?_⟩), g2⟩
          show L ∈ (if okB q' acc u = true then lvs q' us' f (p + 1) (u :: acc) else [])
          rw [if_pos (okB_up hs ha k2 hok)]
          exact g1
        · exact nomatch h2
      · obtain ⟨g1, g2⟩ := ih (by omega) ha h
        exact ⟨List.mem_append_right _ g1, g2⟩
theorem can_up {o : Nat} {q q' : tq} (hs : sub0 o q q') {acc : List us3} (ha : lowO o acc) {j : Nat} (hj : j < o) (h : can q acc j = true) : can q' acc j = true := by
  obtain ⟨h1, h2, h3, h4⟩ := can_iff.mp h
  obtain ⟨a1, a2, a3, a4⟩ := hs.1 j hj
  exact can_iff.mpr ⟨by rw [a4]; exact h1, by rw [a1]; exact h2, by rw [a2, hs.2.1]; exact h3, fun i hi ho => by rw [hs.2.2 i j (uO_low ha ho) hj]; exact h4 i hi ho⟩
theorem thr_up {o : Nat} {q q' : tq} (hs : sub0 o q q') (hq : qOK q) (hq' : qOK q') (hT : ∀ j, o ≤ j → qT q j = false) {acc : List us3} (ha : lowO o acc) : thr q acc ≤ thr q' acc := by
  have hlow : ∀ j, sel q acc j = true → j < o := fun j h => by
    by_cases e : j < o
    · exact e
    · have h1 := (can_iff.mp (sel_iff.mp h).1).1
      rw [hT j (by omega)] at h1
      cases h1
  have e : thr q acc = sm (fun j => if sel q acc j = true then qam q' j else 0) 6 := by
    unfold thr
    exact sm_eq (fun j _ => by
      by_cases e : sel q acc j = true
      · rw [if_pos e, if_pos e, (hs.1 j (hlow j e)).2.2.1]
      · rw [if_neg e, if_neg e])
  rw [e]
  refine thr_most (P := sel q acc) hq' (fun j _ h => can_up hs ha (hlow j h) (sel_iff.mp h).1) (fun i j hi hj h1 h2 => ?_)
  rw [hs.2.2 i j (hlow i h1) (hlow j h2)]
  cases e2 : qrv q i j
  · rfl
  · exact (sel_apart hi hj hq h1 h2 e2).elim
/-- one offer's uses depend on its own row alone -/
def cgJ (n j : Nat) (M N : Nat → Nat → Int32) : Prop := N 1 = M 1 ∧ N 2 = M 2 ∧ (N 6 j = M 6 j ∧ N 7 j = M 7 j ∧ N 8 j = M 8 j ∧ N 9 j = M 9 j ∧ N 10 j = M 10 j) ∧ ∀ k, k < n → N 14 k = M 14 k
section CGJ
variable {n j : Nat} {M N : Nat → Nat → Int32}
theorem szM_j (h : cgJ n j M N) : szM N j = szM M j := by
  obtain ⟨h1, h2, ⟨h6, h7, h8, h9, h10⟩, h14⟩ := h
  unfold szM
  rw [h6, h8, h9]
theorem prM_j (h : cgJ n j M N) {k : Nat} (hk : k < n) : prM N k = prM M k := by
  unfold prM
  rw [h.2.1, h.2.2.2 k hk]
theorem kdM_j (h : cgJ n j M N) {k : Nat} (hk : k < n) : kdM N k = kdM M k := by
  unfold kdM
  rw [h.1, h.2.2.2 k hk]
theorem diM_j (h : cgJ n j M N) (set : Int32) : diM N n j set = diM M n j set := by
  have e1 : dsM N set n = dsM M set n := itr_congr (fun i hi s => by rw [prM_j h hi])
  have e2 : dcM N set n = dcM M set n := itr_congr (fun i hi s => by rw [prM_j h hi])
  unfold diM
  rw [e1, e2, h.2.2.1.1, h.2.2.1.2.2.1, h.2.2.1.2.2.2.2]
theorem fiL_j (h : cgJ n j M N) (set : Int32) : ∀ k i, fiL N n j set i k = fiL M n j set i k
  | 0, _ => rfl
  | k + 1, i => by
    have e1 : cnM N set (nI i) n = cnM M set (nI i) n := itr_congr (fun z hz s => by unfold cnS; rw [kdM_j h hz])
    have e2 : wtM N j (nI i) = wtM M j (nI i) := by
      unfold wtM
      rw [szM_j h, h.2.2.1.1, h.2.2.1.2.1, h.2.2.1.2.2.1, h.2.2.1.2.2.2.1]
    rw [fiL, fiL, e1, e2, fiL_j h set k (i + 1)]
theorem goM_j (h : cgJ n j M N) (set : Int32) : goM N n j set = goM M n j set := by
  unfold goM fiM
  rw [fiL_j h, diM_j h, szM_j h, h.2.2.1.1]
theorem mkU_j (h : cgJ n j M N) : mkU N n j = mkU M n j := funext fun m => by
  unfold mkU
  rw [goM_j h, diM_j h]
theorem usj_j (h : cgJ n j M N) {q q' : tq} {sz sz' : Nat → Nat} {p : Nat} (h1 : qT q' j = qT q j) (h2 : qL q' j = qL q j) (h3 : sz' j = sz j) : usj q' n sz' N p j = usj q n sz M p j := by
  unfold usj
  rw [h1, h2, h3, mkU_j h]
end CGJ
section MORE
variable {V : Nat → Int32} {M : Nat → Nat → Int32} {os : Nat → ofr} {V' : Nat → Int32} {M' : Nat → Nat → Int32} {t : Int64} {a o c : Nat}
variable {W : Nat → Int32} {N : Nat → Nat → Int32} {os2 : Nat → ofr} {W' : Nat → Int32} {N' : Nat → Nat → Int32} {t2 : Int64}
/-- the other side's arrays when an offer is added: all rows of old offers stay -/
def addN (o : Nat) (M' N' : Nat → Nat → Int32) : Prop := (N' 1 = M' 1 ∧ N' 2 = M' 2 ∧ N' 5 = M' 5 ∧ N' 26 = M' 26 ∧ N' 27 = M' 27 ∧ N' 28 = M' 28 ∧ N' 29 = M' 29) ∧ ∀ j, j < o → N' 6 j = M' 6 j ∧ N' 7 j = M' 7 j ∧ N' 8 j = M' 8 j ∧ N' 9 j = M' 9 j ∧ N' 10 j = M' 10 j ∧ N' 11 j = M' 11 j ∧ N' 12 j = M' 12 j
set_option maxHeartbeats 1000000 in
theorem more_vl (h : RX V M os V' M' t a o c) (h2 : RX W N os2 W' N' t2 a (o + 1) c) (hA : addN o M' N') : vl (qX (cb (M' 5) a) o c (BX a M')) (LX (cb (M' 5) a) o c (BX a M')) ≤ vl (qX (cb (M' 5) a) (o + 1) c (BX a N')) (LX (cb (M' 5) a) (o + 1) c (BX a N')) := by
  obtain ⟨⟨n1, n2, n5, n26, n27, n28, n29⟩, hj⟩ := hA
  have hc := h.1.1.2.2
  have nc : N' (c + 26) = M' (c + 26) := by
    rcases (show c = 0 ∨ c = 1 ∨ c = 2 ∨ c = 3 by omega) with rfl | rfl | rfl | rfl
    · exact n26
    · exact n27
    · exact n28
    · exact n29
  have e14 : BX a N' 14 = BX a M' 14 := by rw [BX14, BX14, n5]
  have b2 : BX a N' 2 = BX a M' 2 := n2
  have b6 : ∀ j, j < o → BX a N' 6 j = BX a M' 6 j := fun j hj' => (hj j hj').1
  have b7 : ∀ j, j < o → BX a N' 7 j = BX a M' 7 j := fun j hj' => (hj j hj').2.1
  have b8 : ∀ j, j < o → BX a N' 8 j = BX a M' 8 j := fun j hj' => (hj j hj').2.2.1
  have b11 : ∀ j, j < o → BX a N' 11 j = BX a M' 11 j := fun j hj' => (hj j hj').2.2.2.2.2.1
  have b12 : ∀ j, j < o → BX a N' 12 j = BX a M' 12 j := fun j hj' => (hj j hj').2.2.2.2.2.2
  have hcg : ∀ j, j < o → cgJ (cb (M' 5) a) j (BX a M') (BX a N') := fun j hj' => ⟨n1, n2, ⟨b6 j hj', b7 j hj', b8 j hj', (hj j hj').2.2.2.1, (hj j hj').2.2.2.2.1⟩, fun k _ => congrFun e14 k⟩
  have hlf : ∀ j, j < o → lfM c (BX a N') j = lfM c (BX a M') j := fun j hj' => by
    unfold lfM
    rw [BX_c hc, BX_c hc, nc, b11 j hj']
  have hpr : ∀ k, prX (cb (M' 5) a) (BX a N') k = prX (cb (M' 5) a) (BX a M') k := fun k => by
    have e : prM (BX a N') k = prM (BX a M') k := by
      unfold prM
      rw [e14, b2]
    unfold prX prN
    rw [e]
  have hs : sub0 o (qX (cb (M' 5) a) o c (BX a M')) (qX (cb (M' 5) a) (o + 1) c (BX a N')) := by
    refine ⟨fun j hj' => ⟨?_, ?_, ?_, ?_⟩, ?_, fun i j hi hj' => ?_⟩
    · show (if j < o + 1 then (lfM c (BX a N') j).toNatClampNeg else 0) = (if j < o then (lfM c (BX a M') j).toNatClampNeg else 0)
      rw [if_pos (by omega), if_pos hj', hlf j hj']
    · show (BX a N' 7 j).toNatClampNeg = (BX a M' 7 j).toNatClampNeg
      rw [b7 j hj']
    · show (if j < o + 1 ∧ BX a N' 6 j = 116 then (BX a N' 8 j).toNatClampNeg else 0) = (if j < o ∧ BX a M' 6 j = 116 then (BX a M' 8 j).toNatClampNeg else 0)
      rw [b6 j hj', b8 j hj']
      by_cases e : BX a M' 6 j = 116
      · rw [if_pos ⟨by omega, e⟩, if_pos ⟨hj', e⟩]
      · rw [if_neg (fun z => e z.2), if_neg (fun z => e z.2)]
    · show decide (j < o + 1 ∧ BX a N' 6 j = 116) = decide (j < o ∧ BX a M' 6 j = 116)
      rw [b6 j hj']
      exact decide_eq_decide.mpr ⟨fun z => ⟨hj', z.2⟩, fun z => ⟨by omega, z.2⟩⟩
    · show sm (prX (cb (M' 5) a) (BX a N')) 7 = sm (prX (cb (M' 5) a) (BX a M')) 7
      exact sm_eq (fun k _ => hpr k)
    · show decide (i < o + 1 ∧ j < o + 1 ∧ i ≠ j ∧ BX a N' 12 i = BX a N' 12 j ∧ ¬ BX a N' 12 j = -1) = decide (i < o ∧ j < o ∧ i ≠ j ∧ BX a M' 12 i = BX a M' 12 j ∧ ¬ BX a M' 12 j = -1)
      rw [b12 i hi, b12 j hj']
      exact decide_eq_decide.mpr ⟨fun z => ⟨hi, hj', z.2.2⟩, fun z => ⟨by omega, by omega, z.2.2⟩⟩
  have hus : ∀ p, p < (cb (M' 5) a) → ∀ u ∈ usX (cb (M' 5) a) o c (BX a M') p, u ∈ usX (cb (M' 5) a) (o + 1) c (BX a N') p ∧ u.1 < o := fun p hp u hu => by
    refine ⟨?_, ((bs_us h.1).2.2 p hp u hu).1⟩
    obtain ⟨j, hjr, hu2⟩ := List.mem_flatMap.mp (show u ∈ (List.range o).flatMap (usj (qX (cb (M' 5) a) o c (BX a M')) (cb (M' 5) a) (szX (BX a M')) (BX a M') p) from hu)
    have hj' := List.mem_range.mp hjr
    show u ∈ (List.range (o + 1)).flatMap (usj (qX (cb (M' 5) a) (o + 1) c (BX a N')) (cb (M' 5) a) (szX (BX a N')) (BX a N') p)
    refine List.mem_flatMap.mpr ⟨j, List.mem_range.mpr (by omega), ?_⟩
    have ez : szX (BX a N') j = szX (BX a M') j := by
      unfold szX
      rw [szM_j (hcg j hj')]
    rw [usj_j (hcg j hj') (hs.1 j hj').2.2.2 (hs.1 j hj').1 ez]
    exact hu2
  obtain ⟨-, -, hm⟩ := bs_L h.1
  obtain ⟨g1, g2⟩ := lvs_up hs hus (Nat.zero_add _) (lowO_nil o) hm
  have h3 := thr_up hs (qX_OK _ _ _ _) (qX_OK _ _ _ _) (fun j hj => bs_T6 hj) g2
  have h4 := bst_all (q := qX (cb (M' 5) a) (o + 1) c (BX a N')) (B := (-1, [])) g1
  have h5 := (bs_L h2.1).1
  rw [n5] at h5
  rw [h5] at h4
  have h6 : ((vl (qX (cb (M' 5) a) (o + 1) c (BX a N')) (LX (cb (M' 5) a) o c (BX a M')) : Nat) : Int) ≤ ((vl (qX (cb (M' 5) a) (o + 1) c (BX a N')) (LX (cb (M' 5) a) (o + 1) c (BX a N')) : Nat) : Int) := h4
  unfold vl at h6 ⊢
  omega
/-- the class tells no less -/
theorem st_more (h : ST V M os V' M' t a o c) (h2 : RX W N os2 W' N' t2 a (o + 1) c) (hA : addN o M' N') : V 6 ≤ (findF os2 (o + 1) (cb (M' 5) a) (W, N)).1 6 := by
  have n5 := hA.1.2.2.1
  obtain ⟨g1, g2, g3⟩ := st_find h2
  obtain ⟨e1, b1⟩ := st_best h
  obtain ⟨e2, b2⟩ := st_best g1
  rw [g2, g3, n5] at e2 b2
  rw [e1, e2]
  exact nI_le (more_vl h.1 h2 hA) (by omega)
/-- what the other side holds when it has added -/
theorem addN_madd {sort fi se th good l g : Int32} (h4 : (madd o V' M' sort fi se th good l g).2.1 4 = 0) : addN o M' (madd o V' M' sort fi se th good l g).2.2 := by
  by_cases h0 : maddT o good l g = 0
  · rw [(madd_ok h0).2]
    exact ⟨⟨rfl, rfl, rfl, rfl, rfl, rfl, rfl⟩, fun j hj => ⟨upd_ne9 (by omega), upd_ne9 (by omega), upd_ne9 (by omega), upd_ne9 (by omega), rfl, upd_ne9 (by omega), upd_ne9 (by omega)⟩⟩
  · rw [madd_no h0] at h4
    exact absurd h4 h0
theorem addN_mbun {f s th p l g : Int32} (ho : o < 6) (h4 : (mbun o V' M' f s th p l g).2.1 4 = 0) : addN o M' (mbun o V' M' f s th p l g).2.2 := by
  by_cases h0 : maddT o (goodB f s th p) l g = 0
  · have e := madd_ok (o := o) (V' := V') (M' := M') (sort := 98) (fi := f) (se := s) (th := th) h0
    have e4 : (madd o V' M' 98 f s th (goodB f s th p) l g).2.1 4 = 0 := by rw [e.2]; rfl
    have e9 : mbun o V' M' f s th p l g = ((madd o V' M' 98 f s th (goodB f s th p) l g).1, ((madd o V' M' 98 f s th (goodB f s th p) l g).2.1, sM (madd o V' M' 98 f s th (goodB f s th p) l g).2.2 10 (upd ((madd o V' M' 98 f s th (goodB f s th p) l g).2.2 10) (madd o V' M' 98 f s th (goodB f s th p) l g).1.toNatClampNeg p))) := if_pos e4
    rw [e9, e.1, e.2, nI_clamp (by omega)]
    exact ⟨⟨rfl, rfl, rfl, rfl, rfl, rfl, rfl⟩, fun j hj => ⟨upd_ne9 (by omega), upd_ne9 (by omega), upd_ne9 (by omega), upd_ne9 (by omega), upd_ne9 (by omega), upd_ne9 (by omega), upd_ne9 (by omega)⟩⟩
  · have e := madd_no (o := o) (V' := V') (M' := M') (sort := 98) (fi := f) (se := s) (th := th) h0
    have e4 : ¬ (madd o V' M' 98 f s th (goodB f s th p) l g).2.1 4 = 0 := by rw [e]; exact h0
    have e9 : mbun o V' M' f s th p l g = madd o V' M' 98 f s th (goodB f s th p) l g := if_neg e4
    rw [e9] at h4
    exact absurd h4 e4
end MORE
