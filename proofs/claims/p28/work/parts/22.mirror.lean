/-! THE MIRRORS of the reference's searches, as pure functions (out of the rows of the whole claim): no machine stands behind them here. -/
/-! THE MODEL'S WORLD: its object at ad 0, its arrays at ad 1 .. ad 25, the four rows of used at ad 26 .. ad 29; V: numbers in fields (0 all, 1 customer, 2 offers, 3 usesInAll, 4 thrown, 5 items, 6 uses, 7 isFound, 8 best, 9 bestUses, 10 bestOff); M: arrays by place (1 kinds, 2 prices, 3 nets, 4 buyers, 5 states, 6 sorts, 7 firsts, 8 seconds, 9 thirds, 10 bundles, 11 limits, 12 groups, 13 used, 14 basket, 15 useOf, 16 counts, 17 owners, 18 useOffers, 19 useDiscounts, 20 hopes, 21 bestUseOf, 22 bestCounts, 23 bestOffers, 24 bestDiscounts, 25 isIn); t: the turnover. -/
/-- what the model's indices keep to: n items, o offers, customer c -/
def mI (n o c : Nat) (V : Nat → Int32) (M : Nat → Nat → Int32) : Prop := V 5 = nI n ∧ n ≤ 7 ∧ V 2 = nI o ∧ o ≤ 6 ∧ V 1 = nI c ∧ c < 4 ∧ (∀ k, k < n → vp_in (M 14 k) 60) ∧ (∀ j, j < o → M 12 j = -1 ∨ vp_in (M 12 j) 4)
theorem rdc {f : Nat → Int32} {i : Nat} (h : i < 2 ^ 31) : f (nI i).toNatClampNeg = f i := by rw [nI_clamp h]
def cb (f : Nat → Int32) : Nat → Nat
  | 0 => 0
  | i + 1 => if f i = 98 then cb f i + 1 else cb f i
theorem cb_mono (f : Nat → Int32) {i j : Nat} (h : i ≤ j) : cb f i ≤ cb f j := by
  induction j with
  | zero => rw [show i = 0 by omega]; exact Nat.le_refl _
  | succ j ih =>
    by_cases e : i = j + 1
    · rw [e]; exact Nat.le_refl _
    · have h1 := ih (by omega)
      rw [cb]
      split
      · omega
      · exact h1
theorem cb_lt {f : Nat → Int32} {i a : Nat} (h : f i = 98) (hi : i < a) : cb f i < cb f a := by
  have h1 := cb_mono f (show i + 1 ≤ a by omega)
  rw [cb, if_pos h] at h1
  omega
theorem cb_le (f : Nat → Int32) : ∀ i, cb f i ≤ i
  | 0 => Nat.le_refl _
  | i + 1 => by
    have := cb_le f i
    rw [cb]
    split <;> omega
theorem cb_upd (f : Nat → Int32) {j : Nat} {x : Int32} (hx : ¬ x = 98) : ∀ a, cb (upd f j x) a ≤ cb f a
  | 0 => Nat.le_refl _
  | a + 1 => by
    have h1 := cb_upd f (j := j) hx a
    rw [cb, cb]
    by_cases e : a = j
    · rw [e] at h1 ⊢
      rw [if_neg (by unfold upd; simpa using hx)]
      split <;> omega
    · rw [show upd f j x a = f a by unfold upd; simp [e]]
      split <;> omega
def lkA (f b : Nat → Int32) (i : Nat) : Nat → Int32 := itr (fun i b => if f i = 98 then upd b (cb f i) (nI i) else b) i b
theorem lkA_s (f b : Nat → Int32) (i : Nat) : lkA f b (i + 1) = if f i = 98 then upd (lkA f b i) (cb f i) (nI i) else lkA f b i := rfl
theorem lkA_in {f b : Nat → Int32} : ∀ {i k : Nat}, i ≤ 60 → k < cb f i → vp_in (lkA f b i k) 60
  | 0, k, _, h => absurd h (Nat.not_lt_zero _)
  | i + 1, k, hi, h => by
    rw [lkA_s]
    rw [cb] at h
    split at h
    · rename_i e
      rw [if_pos e]
      unfold upd
      by_cases e2 : k = cb f i
      · rw [if_pos (by first | exact e2 | exact beq_iff_eq.mpr e2)]
        exact nI_in (by omega) (by decide)
      · rw [if_neg (by first | exact e2 | exact fun z => e2 (beq_iff_eq.mp z))]
        exact lkA_in (by omega) (by omega)
    · rename_i e
      rw [if_neg e]
      exact lkA_in (by omega) h
def ibM (a : Nat) (f : Nat → Int32) (x : Int32) : Int32 := if withinV x 0 (nI a - 1) = 0 then 0 else if f x.toNatClampNeg = 98 then 1 else 0
theorem sub1 {a : Nat} (h : 0 < a) : nI a - 1 = nI (a - 1) := by
  obtain ⟨b, rfl⟩ := Nat.exists_eq_add_of_le h
  rw [Nat.add_comm, Nat.succ_eq_add_one, Nat.zero_add, nI_pred, Nat.add_sub_cancel]
theorem within_nat {a : Nat} {x : Int32} (ha : a ≤ 60) (h : ¬ withinV x 0 (nI a - 1) = 0) : ∃ j, j < a ∧ x = nI j := by
  unfold withinV at h
  by_cases h1 : x < 0
  · rw [if_pos h1] at h; exact absurd rfl h
  · rw [if_neg h1] at h
    by_cases h2 : nI a - 1 < x
    · rw [if_pos h2] at h; exact absurd rfl h
    · obtain ⟨j, hj, rfl⟩ := nI_of h1
      by_cases h0 : a = 0
      · subst h0
        exact absurd (show nI 0 - 1 < nI j from Int32.lt_iff_toInt_lt.mpr (by rw [nI_toInt hj, show (nI 0 - 1 : Int32).toInt = -1 by decide +kernel]; omega)) h2
      · rw [sub1 (by omega), nI_ltI (by omega) hj] at h2
        exact ⟨j, by omega, rfl⟩
theorem within_in {a : Nat} {x : Int32} (ha : a ≤ 60) (h : ¬ withinV x 0 (nI a - 1) = 0) : vp_in x 60 := by
  obtain ⟨j, hj, rfl⟩ := within_nat ha h
  exact nI_in (by omega) (by decide)
theorem ib_in {a : Nat} {f : Nat → Int32} {x : Int32} (ha : a ≤ 60) (h : ¬ ibM a f x = 0) : vp_in x 60 := by
  refine within_in ha fun e => h ?_
  unfold ibM
  rw [if_pos e]
def sumB (pr b : Nat → Int32) (i : Nat) : Int32 := itr (fun k s => s + pr (b k).toNatClampNeg) i 0
def sumN (M : Nat → Nat → Int32) (a : Nat) : Int32 := sumB (M 2) (lkA (M 5) (M 14) a) (cb (M 5) a)
def mputT (a n : Nat) (kind price : Int32) : Int32 := if withinV kind 0 9 = 0 then 1 else if withinV price 1 9999 = 0 then 1 else if nI n = 7 then 2 else if nI a = 60 then 2 else 0
def mput (a : Nat) (V : Nat → Int32) (M : Nat → Nat → Int32) (kind price : Int32) : Int32 × VM :=
  if mputT a (cb (M 5) a) kind price = 0 then (nI a, (sV (sV (sV (sV V 5 (nI (cb (M 5) a))) 4 0) 0 (nI (a + 1))) 7 0, sM (sM (sM (sM M 14 (lkA (M 5) (M 14) a)) 1 (upd (M 1) a kind)) 2 (upd (M 2) a price)) 5 (upd (M 5) a 98)))
  else (0, (sV (sV V 5 (nI (cb (M 5) a))) 4 (mputT a (cb (M 5) a) kind price), sM M 14 (lkA (M 5) (M 14) a)))
theorem a60 {a : Nat} (ha : a ≤ 60) (h : ¬ nI a = 60) : a < 60 := by
  rcases (show a < 60 ∨ a = 60 by omega) with h1 | h1
  · exact h1
  · subst h1; exact absurd (by decide +kernel) h
theorem o6 {a : Nat} (ha : a ≤ 6) (h : ¬ nI a = 6) : a < 6 := by
  rcases (show a < 6 ∨ a = 6 by omega) with h1 | h1
  · exact h1
  · subst h1; exact absurd (by decide +kernel) h
def mtake (a : Nat) (V : Nat → Int32) (M : Nat → Nat → Int32) (x : Int32) : Int32 × VM :=
  if ibM a (M 5) x = 0 then (0, (sV V 4 1, M)) else
    (nI (cb (upd (M 5) x.toNatClampNeg 111) a), (sV (sV (sV V 4 0) 7 0) 5 (nI (cb (upd (M 5) x.toNatClampNeg 111) a)), sM (sM M 5 (upd (M 5) x.toNatClampNeg 111)) 14 (lkA (upd (M 5) x.toNatClampNeg 111) (M 14) a)))
def mcust (V : Nat → Int32) (M : Nat → Nat → Int32) (x : Int32) : Int32 × VM := if withinV x 0 3 = 0 then (0, (sV V 4 1, M)) else (V 1, (sV (sV (sV V 4 0) 1 x) 7 0, M))
def maddT (o : Nat) (good limit group : Int32) : Int32 := if good = 0 then 1 else if withinV limit 1 9 = 0 then 1 else if withinV group (-1) 3 = 0 then 1 else if nI o = 6 then 2 else 0
def madd (o : Nat) (V : Nat → Int32) (M : Nat → Nat → Int32) (sort fi se th good limit group : Int32) : Int32 × VM :=
  if maddT o good limit group = 0 then (nI o, (sV (sV (sV V 4 0) 2 (nI (o + 1))) 7 0, sM (sM (sM (sM (sM (sM M 6 (upd (M 6) o (vp_nar .char sort))) 7 (upd (M 7) o fi)) 8 (upd (M 8) o se)) 9 (upd (M 9) o th)) 11 (upd (M 11) o limit)) 12 (upd (M 12) o group)))
  else (0, (sV V 4 (maddT o good limit group), M))
theorem maddT_lt {o : Nat} {good limit group : Int32} (ho : o ≤ 6) (h : maddT o good limit group = 0) : o < 6 := by
  unfold maddT at h
  by_cases h1 : good = 0
  · rw [if_pos h1] at h; exact absurd h (by decide)
  · rw [if_neg h1] at h
    by_cases h2 : withinV limit 1 9 = 0
    · rw [if_pos h2] at h; exact absurd h (by decide)
    · rw [if_neg h2] at h
      by_cases h3 : withinV group (-1) 3 = 0
      · rw [if_pos h3] at h; exact absurd h (by decide)
      · rw [if_neg h3] at h
        by_cases h4 : nI o = 6
        · rw [if_pos h4] at h; exact absurd h (by decide)
        · exact o6 ho h4
def mpct (o : Nat) (V : Nat → Int32) (M : Nat → Nat → Int32) (kind x limit group : Int32) : Int32 × VM := madd o V M 112 kind x (-1) (if withinV kind 0 9 = 0 then 0 else if withinV x 1 90 = 0 then 0 else 1) limit group
def mfree (o : Nat) (V : Nat → Int32) (M : Nat → Nat → Int32) (kind x limit group : Int32) : Int32 × VM := madd o V M 102 kind x (-1) (if withinV kind 0 9 = 0 then 0 else if withinV x 2 5 = 0 then 0 else 1) limit group
def mthr (o : Nat) (V : Nat → Int32) (M : Nat → Nat → Int32) (kind x limit group : Int32) : Int32 × VM := madd o V M 116 kind x (-1) (if withinV kind 1 9999 = 0 then 0 else if withinV x 1 9999 = 0 then 0 else 1) limit group
def goodB (f s th p : Int32) : Int32 := if withinV f 0 9 = 0 then 0 else if withinV s 0 9 = 0 then 0 else if withinV th (-1) 9 = 0 then 0 else if withinV p 1 9999 = 0 then 0 else 1
def maB (r : Int32 × VM) (p : Int32) : Int32 × VM := if r.2.1 4 = 0 then (r.1, (r.2.1, sM r.2.2 10 (upd (r.2.2 10) r.1.toNatClampNeg p))) else r
def mbun (o : Nat) (V : Nat → Int32) (M : Nat → Nat → Int32) (f s th p limit group : Int32) : Int32 × VM := maB (madd o V M 98 f s th (goodB f s th p) limit group) p
theorem madd_in {o : Nat} {V : Nat → Int32} {M : Nat → Nat → Int32} {sort fi se th good limit group : Int32} (ho : o ≤ 6) (h : (madd o V M sort fi se th good limit group).2.1 4 = 0) : vp_in (madd o V M sort fi se th good limit group).1 6 := by
  unfold madd at h ⊢
  by_cases e : maddT o good limit group = 0
  · rw [if_pos e]
    exact nI_in (maddT_lt ho e) (by decide)
  · rw [if_neg e] at h
    exact absurd h e
def lfM (c : Nat) (M : Nat → Nat → Int32) (j : Nat) : Int32 := M 11 j - M (c + 26) j
theorem within_eq {a : Nat} {x : Int32} (ha : a ≤ 60) (h : ¬ withinV x 0 (nI a - 1) = 0) : x = nI x.toNatClampNeg ∧ x.toNatClampNeg < a := by
  obtain ⟨j, hj, rfl⟩ := within_nat ha h
  rw [nI_clamp (by omega)]
  exact ⟨rfl, hj⟩
def mleft (o c : Nat) (V : Nat → Int32) (M : Nat → Nat → Int32) (x : Int32) : Int32 × VM := if withinV x 0 (nI o - 1) = 0 then (0, (sV V 4 1, M)) else (lfM c M x.toNatClampNeg, (sV V 4 0, M))
def prM (M : Nat → Nat → Int32) (p : Nat) : Int32 := M 2 (M 14 p).toNatClampNeg
def kdM (M : Nat → Nat → Int32) (p : Nat) : Int32 := M 1 (M 14 p).toNatClampNeg
def szM (M : Nat → Nat → Int32) (j : Nat) : Int32 := if M 6 j = 112 then 1 else if M 6 j = 102 then M 8 j else if M 6 j = 116 then 0 else if M 9 j = -1 then 2 else 3
def wtM (M : Nat → Nat → Int32) (j : Nat) (kd : Int32) : Int32 := if M 6 j = 98 then eqV (M 7 j) kd + eqV (M 8 j) kd + eqV (M 9 j) kd else if M 6 j = 116 then 0 else if M 7 j = kd then szM M j else 0
def inB (set : Int32) (k : Nat) : Int32 := (set >>> (nI k &&& 31)) &&& 1
def cnS (M : Nat → Nat → Int32) (set kd : Int32) (k : Nat) (m : Int32) : Int32 := m + (if inB set k = 1 then (if kdM M k = kd then 1 else 0) else 0)
def cnM (M : Nat → Nat → Int32) (set kd : Int32) (n : Nat) : Int32 := itr (cnS M set kd) n 0
def fiL (M : Nat → Nat → Int32) (n j : Nat) (set : Int32) : Nat → Nat → Int32
  | _, 0 => 1
  | i, k + 1 => if cnM M set (nI i) n = wtM M j (nI i) then fiL M n j set (i + 1) k else 0
def fiM (M : Nat → Nat → Int32) (n j : Nat) (set : Int32) : Int32 := if bcF set = szM M j then fiL M n j set 0 10 else 0
def dsM (M : Nat → Nat → Int32) (set : Int32) (n : Nat) : Int32 := itr (fun k s => if inB set k = 1 then s + prM M k else s) n 0
def dcM (M : Nat → Nat → Int32) (set : Int32) (n : Nat) : Int32 := itr (fun k s => if inB set k = 1 then (if prM M k < s then prM M k else s) else s) n 9999
def diM (M : Nat → Nat → Int32) (n j : Nat) (set : Int32) : Int32 := if M 6 j = 112 then dsM M set n * M 8 j / 100 else if M 6 j = 102 then dcM M set n else dsM M set n - M 10 j
def goM (M : Nat → Nat → Int32) (n j : Nat) (set : Int32) : Int32 := if fiM M n j set = 0 then 0 else if M 6 j = 98 then (if diM M n j set ≤ 0 then 0 else 1) else 1
def caM (c : Nat) (M : Nat → Nat → Int32) (j : Nat) (off sum : Int32) : Int32 := if M 6 j = 116 then (if lfM c M j ≤ 0 then 0 else if sum - off < M 7 j then 0 else if M 12 j = -1 then 1 else if M 17 (M 12 j).toNatClampNeg = -1 then 1 else 0) else 0
def hoS (c : Nat) (M : Nat → Nat → Int32) (off sum : Int32) (j : Nat) (a : Int32) : Int32 := a + (if caM c M j off sum = 0 then 0 else M 8 j)
def hoM (c : Nat) (M : Nat → Nat → Int32) (off sum : Int32) (o : Nat) : Int32 := itr (hoS c M off sum) o 0
def maM (c : Nat) (M : Nat → Nat → Int32) (j : Nat) : Int32 := if M 6 j = 116 then 0 else if lfM c M j ≤ M 16 j then 0 else if M 12 j = -1 then 1 else if M 17 (M 12 j).toNatClampNeg = -1 then 1 else if M 17 (M 12 j).toNatClampNeg = nI j then 1 else 0
/-- the thresholds laid greedily: whether one is, all of them, the marks -/
def isS (c : Nat) (M : Nat → Nat → Int32) (off sum : Int32) (j i : Nat) (x : Int32) : Int32 := if x = 0 then 0 else if nI i = nI j then 1 else if M 12 j = -1 then 1 else if M 12 i = M 12 j then (if caM c M i off sum = 0 then 1 else if M 8 i < M 8 j then 1 else if M 8 j = M 8 i then (if nI i ≤ nI j then 0 else 1) else 0) else 1
def isF (c : Nat) (M : Nat → Nat → Int32) (off sum : Int32) (j i : Nat) : Int32 := itr (isS c M off sum j) i (caM c M j off sum)
def thS (c o : Nat) (M : Nat → Nat → Int32) (off sum : Int32) (j : Nat) (a : Int32) : Int32 := a + (if isF c M off sum j o = 0 then 0 else M 8 j)
def thM (c o : Nat) (M : Nat → Nat → Int32) (off sum : Int32) (i : Nat) : Int32 := itr (thS c o M off sum) i 0
def isA (c o : Nat) (M : Nat → Nat → Int32) (off sum : Int32) (b : Nat → Int32) (i : Nat) : Nat → Int32 := itr (fun j b => upd b j (vp_nar .boolean (isF c M off sum j o))) i b
theorem isF_s (c : Nat) (M : Nat → Nat → Int32) (off sum : Int32) (j i : Nat) : isF c M off sum j (i + 1) = isS c M off sum j i (isF c M off sum j i) := rfl
theorem is0 {c : Nat} {M : Nat → Nat → Int32} {off sum : Int32} {j i : Nat} (h : isF c M off sum j i = 0) : ∀ {k : Nat}, isF c M off sum j (i + k) = 0
  | 0 => h
  | k + 1 => by
    rw [← Nat.add_assoc, isF_s, isS, if_pos (is0 h)]
def cpA (f b : Nat → Int32) (i : Nat) : Nat → Int32 := itr (fun k b => upd b k (f k)) i b
def leF (n o c u : Nat) (sum off : Int32) (s : VM) : VM := if off + thM c o s.2 off sum o ≤ s.1 8 then s else
  (sV (sV (sV s.1 8 (off + thM c o s.2 off sum o)) 10 off) 9 (nI u), sM (sM (sM (sM (sM s.2 21 (cpA (s.2 15) (s.2 21) n)) 22 (cpA (s.2 16) (s.2 22) o)) 23 (cpA (s.2 18) (s.2 23) u)) 24 (cpA (s.2 19) (s.2 24) u)) 25 (isA c o s.2 off sum (s.2 25) o))
/-- what a search leaves alone -/
def gkV (k : Nat) : Prop := Nat.beq k 6 = false ∧ Nat.beq k 8 = false ∧ Nat.beq k 9 = false ∧ Nat.beq k 10 = false
def gkM (k : Nat) : Prop := Nat.beq k 15 = false ∧ Nat.beq k 16 = false ∧ Nat.beq k 17 = false ∧ Nat.beq k 18 = false ∧ Nat.beq k 19 = false ∧ Nat.beq k 21 = false ∧ Nat.beq k 22 = false ∧ Nat.beq k 23 = false ∧ Nat.beq k 24 = false ∧ Nat.beq k 25 = false
def Kept (s0 s : VM) : Prop := (∀ k, gkV k → s.1 k = s0.1 k) ∧ (∀ k, gkM k → s.2 k = s0.2 k) ∧ s.1 6 = s0.1 6
theorem Kept.rf (s : VM) : Kept s s := ⟨fun _ _ => rfl, fun _ _ => rfl, rfl⟩
theorem Kept.tr {a b c : VM} (h : Kept a b) (h2 : Kept b c) : Kept a c := ⟨fun k hk => (h2.1 k hk).trans (h.1 k hk), fun k hk => (h2.2.1 k hk).trans (h.2.1 k hk), h2.2.2.trans h.2.2⟩
theorem Kept.mI {n o c : Nat} {s0 s : VM} (h : Kept s0 s) (hI : mI n o c s0.1 s0.2) : mI n o c s.1 s.2 := by
  obtain ⟨h1, h2, h3, h4, h5, h6, h7, h8⟩ := hI
  refine ⟨(h.1 5 ⟨rfl, rfl, rfl, rfl⟩).trans h1, h2, (h.1 2 ⟨rfl, rfl, rfl, rfl⟩).trans h3, h4, (h.1 1 ⟨rfl, rfl, rfl, rfl⟩).trans h5, h6, fun k hk => ?_, fun j hj => ?_⟩
  · rw [h.2.1 14 ⟨rfl, rfl, rfl, rfl, rfl, rfl, rfl, rfl, rfl, rfl⟩]; exact h7 k hk
  · rw [h.2.1 12 ⟨rfl, rfl, rfl, rfl, rfl, rfl, rfl, rfl, rfl, rfl⟩]; exact h8 j hj
theorem Kept.le (n o c u : Nat) (sum off : Int32) (s : VM) : Kept s (leF n o c u sum off s) := by
  unfold leF
  split
  · exact Kept.rf s
  · refine ⟨fun k hk => ?_, fun k hk => ?_, rfl⟩
    · obtain ⟨h1, h2, h3, h4⟩ := hk
      exact (sV_ne h3).trans ((sV_ne h4).trans (sV_ne h2))
    · obtain ⟨h1, h2, h3, h4, h5, h6, h7, h8, h9, h10⟩ := hk
      exact (sM_ne h10).trans ((sM_ne h9).trans ((sM_ne h8).trans ((sM_ne h7).trans (sM_ne h6))))
def uoA (set : Int32) (u : Nat) (f : Nat → Int32) (i : Nat) : Nat → Int32 := itr (fun k f => upd f k (if inB set k = 1 then nI u else f k)) i f
def tk1 (n j u : Nat) (set : Int32) (s : VM) : VM :=
  if s.2 12 j = -1 then (sV s.1 6 (nI (u + 1)), sM (sM (sM (sM s.2 15 (uoA set u (s.2 15) n)) 18 (upd (s.2 18) u (nI j))) 19 (upd (s.2 19) u (diM s.2 n j set))) 16 (upd (s.2 16) j (s.2 16 j + 1)))
  else (sV s.1 6 (nI (u + 1)), sM (sM (sM (sM (sM s.2 15 (uoA set u (s.2 15) n)) 18 (upd (s.2 18) u (nI j))) 19 (upd (s.2 19) u (diM s.2 n j set))) 16 (upd (s.2 16) j (s.2 16 j + 1))) 17 (upd (s.2 17) (s.2 12 j).toNatClampNeg (nI j)))
def tk3 (j u : Nat) (s r : VM) : VM :=
  if s.2 12 j = -1 then (sV r.1 6 (nI u), sM r.2 16 (upd (r.2 16) j (r.2 16 j - 1)))
  else (sV r.1 6 (nI u), sM (sM r.2 16 (upd (r.2 16) j (r.2 16 j - 1))) 17 (upd (r.2 17) (s.2 12 j).toNatClampNeg (s.2 17 (s.2 12 j).toNatClampNeg)))
def tkF (R : Nat → Int32 → Int32 → VM → VM) (n j u : Nat) (taken off set : Int32) (s : VM) : VM := tk3 j u s (R (u + 1) (taken ||| set) (off + diM s.2 n j set) (tk1 n j u set s))
theorem tk1_6 (n j u : Nat) (set : Int32) (s : VM) : (tk1 n j u set s).1 6 = nI (u + 1) := by unfold tk1; split <;> rfl
theorem tk1_K (n j u : Nat) (set : Int32) (s : VM) : (∀ k, gkV k → (tk1 n j u set s).1 k = s.1 k) ∧ (∀ k, gkM k → (tk1 n j u set s).2 k = s.2 k) := by
  unfold tk1
  split
  · exact ⟨fun k hk => sV_ne hk.1, fun k ⟨h1, h2, h3, h4, h5, _⟩ => (sM_ne h2).trans ((sM_ne h5).trans ((sM_ne h4).trans (sM_ne h1)))⟩
  · exact ⟨fun k hk => sV_ne hk.1, fun k ⟨h1, h2, h3, h4, h5, _⟩ => (sM_ne h3).trans ((sM_ne h2).trans ((sM_ne h5).trans ((sM_ne h4).trans (sM_ne h1))))⟩
theorem tk3_K (j u : Nat) (s r : VM) : (∀ k, gkV k → (tk3 j u s r).1 k = r.1 k) ∧ (∀ k, gkM k → (tk3 j u s r).2 k = r.2 k) ∧ (tk3 j u s r).1 6 = nI u := by
  unfold tk3
  split
  · exact ⟨fun k hk => sV_ne hk.1, fun k ⟨h1, h2, h3, h4, h5, _⟩ => sM_ne h2, rfl⟩
  · exact ⟨fun k hk => sV_ne hk.1, fun k ⟨h1, h2, h3, h4, h5, _⟩ => (sM_ne h3).trans (sM_ne h2), rfl⟩
theorem tkF_K {R : Nat → Int32 → Int32 → VM → VM} {n j u : Nat} {taken off set : Int32} (hR : ∀ u taken off s, s.1 6 = nI u → Kept s (R u taken off s)) {s : VM} (hu : s.1 6 = nI u) : Kept s (tkF R n j u taken off set s) := by
  have h1 := tk1_K n j u set s
  have h2 := hR (u + 1) (taken ||| set) (off + diM s.2 n j set) _ (tk1_6 n j u set s)
  have h3 := tk3_K j u s (R (u + 1) (taken ||| set) (off + diM s.2 n j set) (tk1 n j u set s))
  exact ⟨fun k hk => (h3.1 k hk).trans ((h2.1 k hk).trans (h1.1 k hk)), fun k hk => (h3.2.1 k hk).trans ((h2.2.1 k hk).trans (h1.2 k hk)), h3.2.2.trans hu.symm⟩
theorem mI_K {n o c : Nat} {V V' : Nat → Int32} {M M' : Nat → Nat → Int32} (hI : mI n o c V M) (h1 : ∀ k, gkV k → V' k = V k) (h2 : ∀ k, gkM k → M' k = M k) : mI n o c V' M' := by
  obtain ⟨a1, a2, a3, a4, a5, a6, a7, a8⟩ := hI
  refine ⟨(h1 5 ⟨rfl, rfl, rfl, rfl⟩).trans a1, a2, (h1 2 ⟨rfl, rfl, rfl, rfl⟩).trans a3, a4, (h1 1 ⟨rfl, rfl, rfl, rfl⟩).trans a5, a6, fun k hk => ?_, fun j hj => ?_⟩
  · rw [h2 14 ⟨rfl, rfl, rfl, rfl, rfl, rfl, rfl, rfl, rfl, rfl⟩]; exact a7 k hk
  · rw [h2 12 ⟨rfl, rfl, rfl, rfl, rfl, rfl, rfl, rfl, rfl, rfl⟩]; exact a8 j hj
theorem tk1_I {n o c : Nat} {V : Nat → Int32} {M : Nat → Nat → Int32} (n' j u : Nat) (set : Int32) (hI : mI n o c V M) : mI n o c (tk1 n' j u set (V, M)).1 (tk1 n' j u set (V, M)).2 := mI_K hI (tk1_K n' j u set (V, M)).1 (tk1_K n' j u set (V, M)).2
/-- more items for a use: from place k on, f places are left -/
def chC (L T : Int32 → VM → VM) (n j : Nat) (set : Int32) (s : VM) : VM := if bcF set = szM s.2 j then (if goM s.2 n j set = 0 then s else T set s) else L set s
def chF (T : Int32 → VM → VM) (n j : Nat) (taken : Int32) : Nat → Nat → Int32 → VM → VM
  | 0, _, _, s => s
  | f + 1, k, set, s => chF T n j taken f (k + 1) set (if inB taken k = 0 then chC (chF T n j taken f (k + 1)) T n j (set ||| (1 <<< (nI k &&& 31))) s else s)
theorem chC_K {L T : Int32 → VM → VM} {n j : Nat} {set : Int32} {x : Int32} (hL : ∀ set s, s.1 6 = x → Kept s (L set s)) (hT : ∀ set s, s.1 6 = x → Kept s (T set s)) {s : VM} (h : s.1 6 = x) : Kept s (chC L T n j set s) := by
  unfold chC
  split
  · split
    · exact Kept.rf s
    · exact hT _ _ h
  · exact hL _ _ h
theorem chF_K {T : Int32 → VM → VM} {n j : Nat} {taken x : Int32} (hT : ∀ set s, s.1 6 = x → Kept s (T set s)) : ∀ (f k : Nat) (set : Int32) (s : VM), s.1 6 = x → Kept s (chF T n j taken f k set s)
  | 0, _, _, s, _ => Kept.rf s
  | f + 1, k, set, s, h => by
    rw [chF]
    split
    · have h1 := chC_K (L := chF T n j taken f (k + 1)) (j := j) (n := n) (set := set ||| (1 <<< (nI k &&& 31))) (fun set s h => chF_K hT f (k + 1) set s h) hT h
      exact h1.tr (chF_K hT f (k + 1) set _ (h1.2.2.trans h))
    · exact chF_K hT f (k + 1) set s h
/-- the whole search: k places from p on -/
def tkG (G : Nat → Int32 → Int32 → VM → VM) (n u : Nat) (taken off : Int32) (j : Nat) (set : Int32) (s : VM) : VM := tkF G n j u taken off set s
def goS (c : Nat) (G : Nat → Int32 → Int32 → VM → VM) (n k p u : Nat) (taken off : Int32) (j : Nat) (s : VM) : VM := if maM c s.2 j = 0 then s else chC (chF (tkG G n u taken off j) n j taken k (p + 1)) (tkG G n u taken off j) n j (1 <<< (nI p &&& 31)) s
def goE (G : Nat → Int32 → Int32 → VM → VM) (p u : Nat) (taken off : Int32) (s : VM) : VM := G u taken off (s.1, sM s.2 15 (upd (s.2 15) p (-1)))
def goF (n o c : Nat) (sum : Int32) : Nat → Nat → Nat → Int32 → Int32 → VM → VM
  | 0, _, u, _, off, s => leF n o c u sum off s
  | k + 1, p, u, taken, off, s =>
    if inB taken p = 1 then goF n o c sum k (p + 1) u taken off s
    else if s.1 8 < off + s.2 20 p + hoM c s.2 off sum o then
      goE (goF n o c sum k (p + 1)) p u taken off (itr (goS c (goF n o c sum k (p + 1)) n k p u taken off) o s)
    else s
theorem itr_K {f : Nat → VM → VM} {x : Int32} (h : ∀ i s, s.1 6 = x → Kept s (f i s)) {s : VM} (h0 : s.1 6 = x) : ∀ i, Kept s (itr f i s)
  | 0 => Kept.rf s
  | i + 1 => (itr_K h h0 i).tr (h i _ ((itr_K h h0 i).2.2.trans h0))
theorem goS_K {c n k p u : Nat} {G : Nat → Int32 → Int32 → VM → VM} {taken off : Int32} (hG : ∀ u taken off s, s.1 6 = nI u → Kept s (G u taken off s)) (j : Nat) (s : VM) (h : s.1 6 = nI u) : Kept s (goS c G n k p u taken off j s) := by
  unfold goS
  split
  · exact Kept.rf s
  · exact chC_K (fun set s h => chF_K (fun set s h => tkF_K hG h) k (p + 1) set s h) (fun set s h => tkF_K hG h) h
theorem goE_K {p u : Nat} {G : Nat → Int32 → Int32 → VM → VM} {taken off : Int32} (hG : ∀ u taken off s, s.1 6 = nI u → Kept s (G u taken off s)) (s : VM) (h : s.1 6 = nI u) : Kept s (goE G p u taken off s) := by
  have h1 := hG u taken off (s.1, sM s.2 15 (upd (s.2 15) p (-1))) h
  exact ⟨h1.1, fun k hk => (h1.2.1 k hk).trans (sM_ne hk.1), h1.2.2⟩
theorem goF_K (n o c : Nat) (sum : Int32) : ∀ (k p u : Nat) (taken off : Int32) (s : VM), s.1 6 = nI u → Kept s (goF n o c sum k p u taken off s)
  | 0, _, u, _, off, s, _ => Kept.le n o c u sum off s
  | k + 1, p, u, taken, off, s, h => by
    have hG : ∀ u taken off s, s.1 6 = nI u → Kept s (goF n o c sum k (p + 1) u taken off s) := fun u taken off s h => goF_K n o c sum k (p + 1) u taken off s h
    rw [goF]
    split
    · exact hG _ _ _ _ h
    · split
      · have h1 := itr_K (goS_K (c := c) (n := n) (k := k) (p := p) (taken := taken) (off := off) hG) h o
        exact h1.tr (goE_K hG _ (h1.2.2.trans h))
      · exact Kept.rf s
theorem mI_15 {n o c : Nat} {V : Nat → Int32} {M : Nat → Nat → Int32} {f : Nat → Int32} (h : mI n o c V M) : mI n o c V (sM M 15 f) := h
def setM (p r : Nat) : Int32 := (1 <<< (nI p &&& 31)) ||| (nI r <<< (nI (p + 1) &&& 31))
def msS (c n : Nat) (M : Nat → Nat → Int32) (set : Int32) (j : Nat) (a : Int32) : Int32 := if M 6 j = 116 then a else if lfM c M j ≤ 0 then a else if goM M n j set = 0 then a else mxF a (diM M n j set)
def msO (c n : Nat) (M : Nat → Nat → Int32) (set : Int32) (a : Int32) (j : Nat) : Int32 := itr (msS c n M set) j a
def msR (c n o : Nat) (M : Nat → Nat → Int32) (p r : Nat) (a : Int32) : Int32 := msO c n M (setM p r) a o
def msP (c n o : Nat) (M : Nat → Nat → Int32) (p r : Nat) : Int32 := itr (msR c n o M p) r 0
def hpS (c n o : Nat) (M : Nat → Nat → Int32) (i : Nat) (h : Nat → Int32) : Nat → Int32 := upd h (n - i - 1) (h (n - i - 1 + 1) + msP c n o (sM M 20 h) (n - i - 1) (2 ^ i))
def hpA (c n o : Nat) (M : Nat → Nat → Int32) (i : Nat) : Nat → Int32 := itr (hpS c n o M) i (upd (M 20) n 0)
theorem addm1 (x : Int32) : x + Int32.ofInt (-1) = x - 1 := by rw [Int32.sub_eq_add_neg]; rfl
theorem hp_sh {n i : Nat} (hi : i < n) (hn : n ≤ 7) : (1 : Int32) <<< ((nI n - nI (n - i - 1) - 1) &&& 31) = nI (2 ^ i) :=
  (show ∀ n, n < 8 → ∀ i, i < n → (1 : Int32) <<< ((nI n - nI (n - i - 1) - 1) &&& 31) = nI (2 ^ i) by decide +kernel) n (by omega) i hi
theorem pow64 {n i : Nat} (hi : i < n) (hn : n ≤ 7) : 2 ^ i ≤ 64 := Nat.le_trans (Nat.pow_le_pow_right (by decide) (show i ≤ 6 by omega)) (by decide)
theorem mI_20 {n o c : Nat} {V : Nat → Int32} {M : Nat → Nat → Int32} {f : Nat → Int32} (h : mI n o c V M) : mI n o c V (sM M 20 f) := h
/-- net prices: first the prices, then each use's discount spread, then what the thresholds make -/
def np1 (M : Nat → Nat → Int32) (i : Nat) : Nat → Int32 := itr (fun k f => upd f (M 14 k).toNatClampNeg (prM M k)) i (M 3)
def alF (M : Nat → Nat → Int32) (u k : Nat) : Int32 := itr (fun k s => s + (if M 21 k = nI u then prM M k else 0)) k 0
def gtF (M : Nat → Nat → Int32) (u : Nat) (al : Int32) (k : Nat) : Int32 := if M 21 k = nI u then M 24 u * prM M k / al else 0
def s2F (M : Nat → Nat → Int32) (u : Nat) (al : Int32) (f : Nat → Int32) (k : Nat) : Nat → Int32 := itr (fun k f => upd f (M 14 k).toNatClampNeg (f (M 14 k).toNatClampNeg - gtF M u al k)) k f
def s2L (M : Nat → Nat → Int32) (u : Nat) (al : Int32) (k : Nat) : Int32 := itr (fun k l => l - gtF M u al k) k (M 24 u)
abbrev FL : Type := (Nat → Int32) × Int32
def s3S (M : Nat → Nat → Int32) (u k : Nat) (s : FL) : FL := if s.2 ≤ 0 then s else if M 21 k = nI u then (upd s.1 (M 14 k).toNatClampNeg (s.1 (M 14 k).toNatClampNeg - 1), s.2 - 1) else s
def s3F (M : Nat → Nat → Int32) (u : Nat) (s : FL) (k : Nat) : FL := itr (s3S M u) k s
def spS (M : Nat → Nat → Int32) (n u : Nat) (f : Nat → Int32) : Nat → Int32 := (s3F M u (s2F M u (alF M u n) f n, s2L M u (alF M u n) n) n).1
def spU (M : Nat → Nat → Int32) (n : Nat) (u : Nat) : Nat → Int32 := itr (spS M n) u (np1 M n)
def s4X (M : Nat → Nat → Int32) (f : Nat → Int32) (more rest : Int32) (k : Nat) : Int32 := if rest = 0 then 0 else more * f (M 14 k).toNatClampNeg / rest
def s4G (M : Nat → Nat → Int32) (f : Nat → Int32) (more rest : Int32) (k : Nat) : Nat → Int32 := itr (fun k g => upd g k (s4X M f more rest k)) k (M 15)
def s4L (M : Nat → Nat → Int32) (f : Nat → Int32) (more rest : Int32) (k : Nat) : Int32 := itr (fun k l => l - s4X M f more rest k) k more
def s5S (M : Nat → Nat → Int32) (g : Nat → Int32) (k : Nat) (s : FL) : FL := if s.2 ≤ 0 then (upd s.1 (M 14 k).toNatClampNeg (s.1 (M 14 k).toNatClampNeg - (g k + 0)), s.2 - 0) else if s.1 (M 14 k).toNatClampNeg ≤ 0 then (upd s.1 (M 14 k).toNatClampNeg (s.1 (M 14 k).toNatClampNeg - (g k + 0)), s.2 - 0) else (upd s.1 (M 14 k).toNatClampNeg (s.1 (M 14 k).toNatClampNeg - (g k + 1)), s.2 - 1)
def s5F (M : Nat → Nat → Int32) (g : Nat → Int32) (s : FL) (k : Nat) : FL := itr (s5S M g) k s
def mnM (x y : Int32) : Int32 := if y < x then y else x
def spMore (V : Nat → Int32) (sum : Int32) : Int32 := mnM (V 8 - V 10) (sum - V 10)
def spF (n bu : Nat) (sum : Int32) (s : VM) : VM := (s.1, sM (sM s.2 3 (s5F s.2 (s4G s.2 (spU s.2 n bu) (spMore s.1 sum) (sum - s.1 10) n) (spU s.2 n bu, s4L s.2 (spU s.2 n bu) (spMore s.1 sum) (sum - s.1 10) n) n).1) 15 (s4G s.2 (spU s.2 n bu) (spMore s.1 sum) (sum - s.1 10) n))
theorem s3_stop {M : Nat → Nat → Int32} {u : Nat} {s : FL} {i : Nat} (h : (s3F M u s i).2 ≤ 0) : ∀ {k : Nat}, s3F M u s (i + k) = s3F M u s i
  | 0 => rfl
  | k + 1 => by
    have h1 := s3_stop h (k := k)
    rw [← Nat.add_assoc]
    show s3S M u (i + k) (s3F M u s (i + k)) = _
    rw [h1, s3S, if_pos h]
theorem upd_self9 (f : Nat → Int32) (i : Nat) (x : Int32) : upd f i x i = x := by unfold upd; simp
theorem sM_eq (M : Nat → Nat → Int32) (k : Nat) : sM M k (M k) = M := by
  funext j
  unfold sM
  cases h : Nat.beq j k
  · rfl
  · have e : j = k := Nat.eq_of_beq_eq_true h
    subst e
    rfl
/-- what calls of the model keep to: a items in all, at most seven in the basket, o offers, customer c -/
def mJ (a o c : Nat) (V : Nat → Int32) (M : Nat → Nat → Int32) : Prop := V 0 = nI a ∧ a ≤ 60 ∧ cb (M 5) a ≤ 7 ∧ V 2 = nI o ∧ o ≤ 6 ∧ V 1 = nI c ∧ c < 4 ∧ (∀ j, j < o → M 12 j = -1 ∨ vp_in (M 12 j) 4)
def zeA (b : Nat → Int32) (i : Nat) : Nat → Int32 := itr (fun k b => upd b k 0) i b
def ngA (b : Nat → Int32) (i : Nat) : Nat → Int32 := itr (fun k b => upd b k (-1)) i b
def fd2 (a o : Nat) (s : VM) : VM := (sV (sV (sV s.1 5 (nI (cb (s.2 5) a))) 6 0) 8 (-1), sM (sM (sM s.2 14 (lkA (s.2 5) (s.2 14) a)) 16 (zeA (s.2 16) o)) 17 (ngA (s.2 17) 4))
def fd3 (a o c : Nat) (s : VM) : VM := ((fd2 a o s).1, sM (fd2 a o s).2 20 (hpA c (cb (s.2 5) a) o (fd2 a o s).2 (cb (s.2 5) a)))
def fd4 (a o c : Nat) (s : VM) : VM := goF (cb (s.2 5) a) o c (sumN s.2 a) (cb (s.2 5) a) 0 0 0 0 (fd3 a o c s)
def fdB (a o c : Nat) (s : VM) : Nat := ((fd4 a o c s).1 9).toNatClampNeg
def fdF (a o c : Nat) (s : VM) : VM := if s.1 7 = 0 then spF (cb (s.2 5) a) (fdB a o c s) (sumN s.2 a) (sV (fd4 a o c s).1 7 1, (fd4 a o c s).2) else s
def fdOK (a o c : Nat) (s : VM) : Prop := (fd4 a o c s).1 9 = nI (fdB a o c s) ∧ fdB a o c s ≤ 7 ∧ ∀ u, u < fdB a o c s → ∀ k, k < cb (s.2 5) a → (fd4 a o c s).2 21 k = nI u → ¬ alF (fd4 a o c s).2 u (cb (s.2 5) a) = 0
theorem fd2_I {a o c : Nat} {V : Nat → Int32} {M : Nat → Nat → Int32} (h : mJ a o c V M) : mI (cb (M 5) a) o c (fd2 a o (V, M)).1 (fd2 a o (V, M)).2 := by
  obtain ⟨ha, ha6, hcb, ho2, ho, hc1, hc, hG4⟩ := h
  exact ⟨rfl, hcb, ho2, ho, hc1, hc, fun k hk => lkA_in ha6 hk, hG4⟩
theorem fd3_I {a o c : Nat} {V : Nat → Int32} {M : Nat → Nat → Int32} (h : mJ a o c V M) : mI (cb (M 5) a) o c (fd3 a o c (V, M)).1 (fd3 a o c (V, M)).2 := mI_20 (fd2_I h)
theorem fd4_K {a o c : Nat} (s : VM) : Kept (fd3 a o c s) (fd4 a o c s) := goF_K _ _ _ _ _ _ _ _ _ _ nI_0.symm
theorem fd4_I {a o c : Nat} {V : Nat → Int32} {M : Nat → Nat → Int32} (h : mJ a o c V M) : mI (cb (M 5) a) o c (fd4 a o c (V, M)).1 (fd4 a o c (V, M)).2 := (fd4_K (V, M)).mI (fd3_I h)
def fkV (k : Nat) : Prop := gkV k ∧ Nat.beq k 5 = false ∧ Nat.beq k 7 = false
def fkM (k : Nat) : Prop := gkM k ∧ Nat.beq k 3 = false ∧ Nat.beq k 14 = false ∧ Nat.beq k 20 = false
theorem fd4_VM {a o c : Nat} (s : VM) : (∀ k, gkV k → Nat.beq k 5 = false → (fd4 a o c s).1 k = s.1 k) ∧ (∀ k, gkM k → Nat.beq k 14 = false → Nat.beq k 20 = false → (fd4 a o c s).2 k = s.2 k) := by
  have h := fd4_K (a := a) (o := o) (c := c) s
  refine ⟨fun k hk h5 => (h.1 k hk).trans ((sV_ne hk.2.1).trans ((sV_ne hk.1).trans (sV_ne h5))), fun k hk h14 h20 => (h.2.1 k hk).trans ((sM_ne h20).trans ((sM_ne hk.2.2.1).trans ((sM_ne hk.2.1).trans (sM_ne h14))))⟩
theorem fdF_VM {a o c : Nat} (s : VM) : (∀ k, fkV k → (fdF a o c s).1 k = s.1 k) ∧ (∀ k, fkM k → (fdF a o c s).2 k = s.2 k) := by
  unfold fdF
  split
  · have h := fd4_VM (a := a) (o := o) (c := c) s
    exact ⟨fun k hk => (sV_ne hk.2.2).trans (h.1 k hk.1 hk.2.1), fun k hk => (sM_ne hk.1.1).trans ((sM_ne hk.2.1).trans (h.2 k hk.1 hk.2.2.1 hk.2.2.2))⟩
  · exact ⟨fun _ _ => rfl, fun _ _ => rfl⟩
theorem fdF_J {a o c : Nat} {V : Nat → Int32} {M : Nat → Nat → Int32} (h : mJ a o c V M) : mJ a o c (fdF a o c (V, M)).1 (fdF a o c (V, M)).2 := by
  obtain ⟨ha, ha6, hcb, ho2, ho, hc1, hc, hG4⟩ := h
  have hk := fdF_VM (a := a) (o := o) (c := c) (V, M)
  have e5 : (fdF a o c (V, M)).2 5 = M 5 := hk.2 5 (by unfold fkM gkM; decide)
  have e12 : (fdF a o c (V, M)).2 12 = M 12 := hk.2 12 (by unfold fkM gkM; decide)
  exact ⟨(hk.1 0 (by unfold fkV gkV; decide)).trans ha, ha6, by rw [e5]; exact hcb, (hk.1 2 (by unfold fkV gkV; decide)).trans ho2, ho, (hk.1 1 (by unfold fkV gkV; decide)).trans hc1, hc, fun j hj => by rw [e12]; exact hG4 j hj⟩
def mtry (a o c : Nat) (V : Nat → Int32) (M : Nat → Nat → Int32) : Int32 × VM := if nI (cb (M 5) a) ≤ 5 then ((fdF a o c (sV (sV V 5 (nI (cb (M 5) a))) 4 0, sM M 14 (lkA (M 5) (M 14) a))).1 8, fdF a o c (sV (sV V 5 (nI (cb (M 5) a))) 4 0, sM M 14 (lkA (M 5) (M 14) a))) else (0, (sV (sV V 5 (nI (cb (M 5) a))) 4 1, sM M 14 (lkA (M 5) (M 14) a)))
def plN (f : Nat → Int32) (x : Int32) : Nat → Nat → Nat
  | i, 0 => i
  | i, k + 1 => if f i = x then i else plN f x (i + 1) k
theorem plN_lt {f : Nat → Int32} {x : Int32} : ∀ {z i n : Nat}, i + z = n → (∃ k, i ≤ k ∧ k < n ∧ f k = x) → plN f x i z < n ∧ i ≤ plN f x i z ∧ f (plN f x i z) = x
  | 0, i, n, h, ⟨k, h1, h2, _⟩ => absurd h2 (by omega)
  | z + 1, i, n, h, ⟨k, h1, h2, h3⟩ => by
    rw [plN]
    by_cases e : f i = x
    · rw [if_pos e]
      exact ⟨by omega, Nat.le_refl _, e⟩
    · rw [if_neg e]
      have hk : i ≠ k := fun q => e (q ▸ h3)
      have := plN_lt (f := f) (x := x) (z := z) (i := i + 1) (n := n) (by omega) ⟨k, by omega, h2, h3⟩
      exact ⟨this.1, by omega, this.2.2⟩
theorem lkA_hit {f b : Nat → Int32} {q : Nat} (hq : f q = 98) : ∀ {a : Nat}, q < a → lkA f b a (cb f q) = nI q
  | 0, h => absurd h (Nat.not_lt_zero _)
  | a + 1, h => by
    rw [lkA_s]
    by_cases e : q = a
    · subst e
      rw [if_pos hq]
      exact upd_self9 _ _ _
    · have ih := lkA_hit (b := b) hq (a := a) (by omega)
      by_cases e2 : f a = 98
      · rw [if_pos e2]
        have hlt := cb_lt hq (show q < a by omega)
        unfold upd
        rw [if_neg (by first | exact (by omega : ¬ cb f q = cb f a) | exact fun z => absurd (beq_iff_eq.mp z) (by omega))]
        exact ih
      · rw [if_neg e2]
        exact ih
theorem ib_nat {a : Nat} {f : Nat → Int32} {x : Int32} (ha : a ≤ 60) (h : ¬ ibM a f x = 0) : ∃ q, q < a ∧ x = nI q ∧ f q = 98 := by
  unfold ibM at h
  by_cases h1 : withinV x 0 (nI a - 1) = 0
  · rw [if_pos h1] at h; exact absurd rfl h
  · rw [if_neg h1] at h
    obtain ⟨q, hq, rfl⟩ := within_nat ha h1
    rw [nI_clamp (by omega)] at h
    by_cases h2 : f q = 98
    · exact ⟨q, hq, rfl, h2⟩
    · rw [if_neg h2] at h; exact absurd rfl h
theorem ib_ex {a : Nat} {f b : Nat → Int32} {x : Int32} (ha : a ≤ 60) (h : ¬ ibM a f x = 0) : ∃ k, k < cb f a ∧ lkA f b a k = x := by
  obtain ⟨q, hq, rfl, h2⟩ := ib_nat ha h
  exact ⟨cb f q, cb_lt h2 hq, lkA_hit h2 hq⟩
/-- behind the search and a look: the state -/
def fdL (a o c : Nat) (s : VM) : VM := (sV (fdF a o c s).1 5 (nI (cb ((fdF a o c s).2 5) a)), sM (fdF a o c s).2 14 (lkA ((fdF a o c s).2 5) ((fdF a o c s).2 14) a))
def offP (a o c : Nat) (s : VM) (x : Int32) : Nat := plN ((fdL a o c s).2 14) x 0 (cb ((fdL a o c s).2 5) a)
def moff (a o c : Nat) (V : Nat → Int32) (M : Nat → Nat → Int32) (x : Int32) : Int32 × VM :=
  if ibM a (M 5) x = 0 then (0, (sV V 4 1, M)) else
    if (fdL a o c (sV V 4 0, M)).2 21 (offP a o c (sV V 4 0, M) x) = -1 then (-1, fdL a o c (sV V 4 0, M)) else ((fdL a o c (sV V 4 0, M)).2 23 ((fdL a o c (sV V 4 0, M)).2 21 (offP a o c (sV V 4 0, M) x)).toNatClampNeg, fdL a o c (sV V 4 0, M))
theorem fdF_5 {a o c : Nat} (s : VM) : (fdF a o c s).2 5 = s.2 5 := (fdF_VM s).2 5 (by unfold fkM gkM; decide)
def usM (M : Nat → Nat → Int32) (j : Nat) : Int32 := if M 6 j = 116 then (if M 25 j = 0 then 0 else 1) else M 22 j
def muses (a o c : Nat) (V : Nat → Int32) (M : Nat → Nat → Int32) (x : Int32) : Int32 × VM := if withinV x 0 (nI o - 1) = 0 then (0, (sV V 4 1, M)) else (usM (fdF a o c (sV V 4 0, M)).2 x.toNatClampNeg, fdF a o c (sV V 4 0, M))
def hiS (M : Nat → Nat → Int32) (n j : Nat) (i : Nat) (x : Int32) : Int32 := if x = 0 then goM M n j (nI (i + 1)) else x
def hiF (M : Nat → Nat → Int32) (n j : Nat) (i : Nat) : Int32 := itr (hiS M n j) i 0
theorem hi_stop {M : Nat → Nat → Int32} {n j i : Nat} (h : ¬ hiF M n j i = 0) : ∀ {k : Nat}, hiF M n j (i + k) = hiF M n j i
  | 0 => rfl
  | k + 1 => by
    have h1 := hi_stop h (k := k)
    rw [← Nat.add_assoc]
    show hiS M n j (i + k) (hiF M n j (i + k)) = _
    rw [h1, hiS, if_neg h]
def hsM (a : Nat) (M : Nat → Nat → Int32) (j : Nat) : Int32 := if M 6 j = 116 then (if sumN M a < M 7 j then 0 else 1) else hiF (sM M 14 (lkA (M 5) (M 14) a)) (cb (M 5) a) j (2 ^ (cb (M 5) a) - 1)
theorem sh_n {n : Nat} (hn : n ≤ 7) : (1 : Int32) <<< (nI n &&& 31) = nI (2 ^ n) := (show ∀ n, n < 8 → (1 : Int32) <<< (nI n &&& 31) = nI (2 ^ n) by decide +kernel) n (by omega)
theorem p128 {n : Nat} (hn : n ≤ 7) : 1 ≤ 2 ^ n ∧ 2 ^ n ≤ 128 := ⟨Nat.one_le_two_pow, Nat.le_trans (Nat.pow_le_pow_right (by decide) hn) (by decide)⟩
theorem goM_01 (M : Nat → Nat → Int32) (n j : Nat) (set : Int32) : goM M n j set = 0 ∨ goM M n j set = 1 := by
  unfold goM
  split
  · exact Or.inl rfl
  · split
    · split
      · exact Or.inl rfl
      · exact Or.inr rfl
    · exact Or.inr rfl
theorem hi_nar (M : Nat → Nat → Int32) (n j i : Nat) : narrow .boolean (.int (hiF M n j i)) = .int (hiF M n j i) := by
  have h : hiF M n j i = 0 ∨ hiF M n j i = 1 := by
    refine itr_P (P := fun x => x = 0 ∨ x = 1) (fun i x hx => ?_) (Or.inl rfl) i
    unfold hiS
    split
    · exact goM_01 _ _ _ _
    · exact hx
  rcases h with h | h <;> rw [h] <;> decide
def mrvS (M : Nat → Nat → Int32) (j i : Nat) (x : Int32) : Int32 := if x = 0 then (if nI i = nI j then 0 else if M 12 j = -1 then 0 else if M 12 i = M 12 j then (if usM M i ≤ 0 then 0 else 1) else 0) else 1
def mrvF (M : Nat → Nat → Int32) (j i : Nat) : Int32 := itr (mrvS M j) i 0
def reaF (a o c : Nat) (s : VM) (j : Nat) : Int32 × VM :=
  if usM s.2 j ≤ 0 then (if lfM c s.2 j = 0 then (108, s) else if hsM a s.2 j = 0 then (99, (sV s.1 5 (nI (cb (s.2 5) a)), sM s.2 14 (lkA (s.2 5) (s.2 14) a))) else if mrvF s.2 j o = 0 then (98, (sV s.1 5 (nI (cb (s.2 5) a)), sM s.2 14 (lkA (s.2 5) (s.2 14) a))) else (103, (sV s.1 5 (nI (cb (s.2 5) a)), sM s.2 14 (lkA (s.2 5) (s.2 14) a)))) else (117, s)
def mrea (a o c : Nat) (V : Nat → Int32) (M : Nat → Nat → Int32) (x : Int32) : Int32 × VM := if withinV x 0 (nI o - 1) = 0 then (97, (sV V 4 1, M)) else reaF a o c (fdF a o c (sV V 4 0, M)) x.toNatClampNeg
def mnet (a o c : Nat) (V : Nat → Int32) (M : Nat → Nat → Int32) (x : Int32) : Int32 × VM := if ibM a (M 5) x = 0 then (0, (sV V 4 1, M)) else ((fdF a o c (sV V 4 0, M)).2 3 x.toNatClampNeg, fdF a o c (sV V 4 0, M))
def paysF (a o c : Nat) (s : VM) : Int32 := sumB ((fdL a o c s).2 3) ((fdL a o c s).2 14) (cb ((fdL a o c s).2 5) a)
def sdM (a : Nat) (f : Nat → Int32) (x : Int32) : Int32 := if withinV x 0 (nI a - 1) = 0 then 0 else if f x.toNatClampNeg = 115 then 1 else if f x.toNatClampNeg = 114 then 1 else 0
theorem sd_in {a : Nat} {f : Nat → Int32} {x : Int32} (ha : a ≤ 60) (h : ¬ sdM a f x = 0) : vp_in x 60 := by
  refine within_in ha fun e => h ?_
  unfold sdM
  rw [if_pos e]
def mgbE (a : Nat) (f : Nat → Int32) (x : Int32) : Int32 := if sdM a f x = 0 then 1 else if f x.toNatClampNeg = 114 then 2 else 0
def mgb (a : Nat) (V : Nat → Int32) (M : Nat → Nat → Int32) (t : Int64) (x : Int32) : Int32 × VM × Int64 := if mgbE a (M 5) x = 0 then (M 3 x.toNatClampNeg, (sV V 4 0, sM M 5 (upd (M 5) x.toNatClampNeg 114)), t - (M 3 x.toNatClampNeg).toInt64) else (0, (sV V 4 (mgbE a (M 5) x), M), t)
def msto (a : Nat) (V : Nat → Int32) (M : Nat → Nat → Int32) (x : Int32) : Int32 × VM := if sdM a (M 5) x = 0 then (0, (sV V 4 1, M)) else (M 4 x.toNatClampNeg, (sV V 4 0, M))
def soS (M : Nat → Nat → Int32) (a : Nat) (what : Int32) (k : Nat) (s : Int32) : Int32 := s + (if sdM a (M 5) (nI k) = 0 then 0 else if what = 0 then M 2 k else if what = 1 then M 3 k else 1)
def soF (M : Nat → Nat → Int32) (a : Nat) (what : Int32) (k : Nat) : Int32 := itr (soS M a what) k 0
def mdsh (a : Nat) (V : Nat → Int32) (M : Nat → Nat → Int32) : UInt32 × VM := if soF M a 2 a = 0 then (FP.fconst0, (sV V 4 1, M)) else (FP.fdiv (FP.i2f (soF M a 0 a - soF M a 1 a)) (FP.i2f (soF M a 0 a)), (sV V 4 0, M))
def mmnp (a : Nat) (V : Nat → Int32) (M : Nat → Nat → Int32) : UInt64 × VM := if soF M a 2 a = 0 then (FP.dconst0, (sV V 4 1, M)) else (FP.ddiv (FP.i2d (soF M a 1 a)) (FP.i2d (soF M a 2 a)), (sV V 4 0, M))
theorem sM_self9 (M : Nat → Nat → Int32) (k : Nat) (f : Nat → Int32) : sM M k f k = f := by unfold sM; rw [show Nat.beq k k = true from Nat.beq_refl k]; rfl
def usA (M : Nat → Nat → Int32) (f : Nat → Int32) (j : Nat) : Nat → Int32 := itr (fun j f => upd f j (f j + usM M j)) j f
def usN (M : Nat → Nat → Int32) (x : Int32) (j : Nat) : Int32 := itr (fun j x => x + usM M j) j x
def seA (b : Nat → Int32) (y : Int32) (f : Nat → Int32) (k : Nat) : Nat → Int32 := itr (fun k f => upd f (b k).toNatClampNeg y) k f
def selF (a o c : Nat) (s : VM) : VM := (sV (sV s.1 3 (usN s.2 (s.1 3) o)) 7 0, sM (sM (sM s.2 (c + 26) (usA s.2 (s.2 (c + 26)) o)) 5 (seA (s.2 14) 115 (s.2 5) (cb (s.2 5) a))) 4 (seA (s.2 14) (nI c) (s.2 4) (cb (s.2 5) a)))
def msel (a o c : Nat) (V : Nat → Int32) (M : Nat → Nat → Int32) (t : Int64) : Int32 × VM × Int64 := if nI (cb (M 5) a) = 0 then (0, (sV (sV V 5 (nI (cb (M 5) a))) 4 1, sM M 14 (lkA (M 5) (M 14) a)), t) else (paysF a o c (sV (sV V 5 (nI (cb (M 5) a))) 4 0, sM M 14 (lkA (M 5) (M 14) a)), selF a o c (fdL a o c (sV (sV V 5 (nI (cb (M 5) a))) 4 0, sM M 14 (lkA (M 5) (M 14) a))), t + (paysF a o c (sV (sV V 5 (nI (cb (M 5) a))) 4 0, sM M 14 (lkA (M 5) (M 14) a))).toInt64)
theorem sV_eq (V : Nat → Int32) (k : Nat) : sV V k (V k) = V := by
  funext j
  unfold sV
  cases h : Nat.beq j k
  · rfl
  · have e : j = k := Nat.eq_of_beq_eq_true h
    subst e
    rfl
