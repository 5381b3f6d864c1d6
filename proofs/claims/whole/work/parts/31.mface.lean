theorem fX12_bestByTrying_93 : jF wsX12_bestByTrying RX12 93 13 20 false .int := ⟨(RX12, TX12, 37), tyX12, rfl, by decide, by decide +kernel, by decide +kernel, tyX12_ok, nmX12, rfl, by decide +kernel, fun h => by cases h⟩
theorem fX12_placeOf_52 : jF wsX12_placeOf RX12 52 13 19 true (.array .int) := ⟨(RX12, TX12, 37), tyX12, rfl, by decide, by decide +kernel, by decide +kernel, tyX12_ok, nmX12, rfl, by decide +kernel, by decide +kernel⟩
theorem fX12_offerOf_89 : jF wsX12_offerOf RX12 89 13 18 false .int := ⟨(RX12, TX12, 37), tyX12, rfl, by decide, by decide +kernel, by decide +kernel, tyX12_ok, nmX12, rfl, by decide +kernel, fun h => by cases h⟩
theorem fX12_offerOf_73 : jF wsX12_offerOf RX12 73 13 30 true (.array .int) := ⟨(RX12, TX12, 37), tyX12, rfl, by decide, by decide +kernel, by decide +kernel, tyX12_ok, nmX12, rfl, by decide +kernel, by decide +kernel⟩
theorem fX12_offerOf_79 : jF wsX12_offerOf RX12 79 13 32 true (.array .int) := ⟨(RX12, TX12, 37), tyX12, rfl, by decide, by decide +kernel, by decide +kernel, tyX12_ok, nmX12, rfl, by decide +kernel, by decide +kernel⟩
theorem fX12_usesOf_26 : jF wsX12_usesOf RX12 26 13 7 true (.array .char) := ⟨(RX12, TX12, 37), tyX12, rfl, by decide, by decide +kernel, by decide +kernel, tyX12_ok, nmX12, rfl, by decide +kernel, by decide +kernel⟩
theorem fX12_usesOf_76 : jF wsX12_usesOf RX12 76 13 31 true (.array .int) := ⟨(RX12, TX12, 37), tyX12, rfl, by decide, by decide +kernel, by decide +kernel, tyX12_ok, nmX12, rfl, by decide +kernel, by decide +kernel⟩
theorem fX12_usesOf_85 : jF wsX12_usesOf RX12 85 13 36 true (.array .boolean) := ⟨(RX12, TX12, 37), tyX12, rfl, by decide, by decide +kernel, by decide +kernel, tyX12_ok, nmX12, rfl, by decide +kernel, by decide +kernel⟩
theorem fX12_uses_121 : jF wsX12_uses RX12 121 13 14 false .int := ⟨(RX12, TX12, 37), tyX12, rfl, by decide, by decide +kernel, by decide +kernel, tyX12_ok, nmX12, rfl, by decide +kernel, fun h => by cases h⟩
theorem fX12_uses_89 : jF wsX12_uses RX12 89 13 18 false .int := ⟨(RX12, TX12, 37), tyX12, rfl, by decide, by decide +kernel, by decide +kernel, tyX12_ok, nmX12, rfl, by decide +kernel, fun h => by cases h⟩
theorem fX12_hasItems_26 : jF wsX12_hasItems RX12 26 13 7 true (.array .char) := ⟨(RX12, TX12, 37), tyX12, rfl, by decide, by decide +kernel, by decide +kernel, tyX12_ok, nmX12, rfl, by decide +kernel, by decide +kernel⟩
theorem fX12_hasItems_93 : jF wsX12_hasItems RX12 93 13 20 false .int := ⟨(RX12, TX12, 37), tyX12, rfl, by decide, by decide +kernel, by decide +kernel, tyX12_ok, nmX12, rfl, by decide +kernel, fun h => by cases h⟩
theorem fX12_hasItems_29 : jF wsX12_hasItems RX12 29 13 8 true (.array .int) := ⟨(RX12, TX12, 37), tyX12, rfl, by decide, by decide +kernel, by decide +kernel, tyX12_ok, nmX12, rfl, by decide +kernel, by decide +kernel⟩
theorem fX12_reason_121 : jF wsX12_reason RX12 121 13 14 false .int := ⟨(RX12, TX12, 37), tyX12, rfl, by decide, by decide +kernel, by decide +kernel, tyX12_ok, nmX12, rfl, by decide +kernel, fun h => by cases h⟩
theorem fX12_reason_89 : jF wsX12_reason RX12 89 13 18 false .int := ⟨(RX12, TX12, 37), tyX12, rfl, by decide, by decide +kernel, by decide +kernel, tyX12_ok, nmX12, rfl, by decide +kernel, fun h => by cases h⟩
theorem fX12_reason_44 : jF wsX12_reason RX12 44 13 13 true (.array .int) := ⟨(RX12, TX12, 37), tyX12, rfl, by decide, by decide +kernel, by decide +kernel, tyX12_ok, nmX12, rfl, by decide +kernel, by decide +kernel⟩
def mtry (a o c : Nat) (V : Nat → Int32) (M : Nat → Nat → Int32) : Int32 × VM := if nI (cb (M 5) a) ≤ 5 then ((fdF a o c (sV (sV V 5 (nI (cb (M 5) a))) 4 0, sM M 14 (lkA (M 5) (M 14) a))).1 8, fdF a o c (sV (sV V 5 (nI (cb (M 5) a))) 4 0, sM M 14 (lkA (M 5) (M 14) a))) else (0, (sV (sV V 5 (nI (cb (M 5) a))) 4 1, sM M 14 (lkA (M 5) (M 14) a)))
set_option maxHeartbeats 4000000 in
set_option maxRecDepth 100000 in
theorem c_X12_bestByTrying (G : jG) (ad : Nat → Nat) (V : Nat → Int32) (M : Nat → Nat → Int32) (t : Int64) (a o c : Nat) (hJ : mJ a o c V M) (hok : V 7 = 0 → fdOK a o c (sV (sV V 5 (nI (cb (M 5) a))) 4 0, sM M 14 (lkA (M 5) (M 14) a))) : jD G 78 yX12_bestByTrying wsX12_bestByTrying [.ref (ad 0)] (wM G ad V M t) (some (.int (mtry a o c V M).1)) (wM G ad (mtry a o c V M).2.1 (mtry a o c V M).2.2 t) := by
  refine jC.of (maxL := 1) (cc := cX12_bestByTrying) (ret := (some .int)) rfl (by decide) [some (.ref (ad 0))] rfl (Nat.le_of_ble_eq_true rfl) (j_args rfl) (fun X hX => ?_)
  have hJ0 := hJ
  obtain ⟨ha, ha6, hcb, ho2, ho, hc1, hc, hG4⟩ := hJ
  refine j_aload_n hX dX12_bestByTrying_0 rfl ?_
  refine j_dV hX (nA := 0) (cq := (RX12, TX12, 37)) (As := []) (st := []) (st' := []) (ci := 13) rfl dX12_bestByTrying_1 (c_X12_looks G _ V M _ a ha ha6 hcb) gX12_bestByTrying_X12_looks rfl (by decide +kernel) (q := 0) (wMg0 _ _ _ _ _) (by decide) (Nat.le_of_ble_eq_true rfl) rfl (Nat.le_of_ble_eq_true rfl) rfl ⟨Nat.le_refl _, Nat.le_refl _⟩ rfl ?_
  refine j_aload_n hX dX12_bestByTrying_4 rfl ?_
  refine j_getf hX (v := .int (nI (cb (M 5) a))) dX12_bestByTrying_5 fX12_bestByTrying_93 0 (wMg0 _ _ _ _ _) rfl ?_
  refine j_iconst hX (v := 5) (by decide) dX12_bestByTrying_8 ?_
  refine j_icmp_le hX (tgt := 18) dX12_bestByTrying_9 (by decide) (fun h9 => ?_) (fun h9 => ?_)
  · refine j_aload_n hX dX12_bestByTrying_18 rfl ?_
    refine j_dV hX (nA := 0) (cq := (RX12, TX12, 37)) (As := []) (st := []) (st' := [.int ((fdF a o c (sV (sV V 5 (nI (cb (M 5) a))) 4 0, (sM M 14 (lkA (M 5) (M 14) a)))).1 8)]) (ci := 13) rfl dX12_bestByTrying_19 (c_X12_bestDiscount G _ (sV V 5 (nI (cb (M 5) a))) (sM M 14 (lkA (M 5) (M 14) a)) _ a o c hJ0 hok) gX12_bestByTrying_X12_bestDiscount rfl (by decide +kernel) (q := 0) (wMg0 _ _ _ _ _) (by decide) (Nat.le_of_ble_eq_true rfl) rfl (Nat.le_of_ble_eq_true rfl) rfl ⟨Nat.le_refl _, Nat.le_refl _⟩ rfl ?_
    exact j_iret hX dX12_bestByTrying_22 (by have e8 : mtry a o c V M = ((fdF a o c (sV (sV V 5 (nI (cb (M 5) a))) 4 0, (sM M 14 (lkA (M 5) (M 14) a)))).1 8, (fdF a o c (sV (sV V 5 (nI (cb (M 5) a))) 4 0, (sM M 14 (lkA (M 5) (M 14) a))))) := (if_pos h9); rw [e8]; exact ⟨rfl, rfl⟩)
  · refine j_aload_n hX dX12_bestByTrying_12 rfl ?_
    refine j_iconst hX (v := 1) (by decide) dX12_bestByTrying_13 ?_
    refine j_dV hX (nA := 1) (cq := (RX12, TX12, 37)) (As := [.int 1]) (st := []) (st' := [.int 0]) (ci := 13) rfl dX12_bestByTrying_14 (c_X12_raises G _ _ _ _ _) gX12_bestByTrying_X12_raises rfl (by decide +kernel) (q := 0) (wMg0 _ _ _ _ _) (by decide) (Nat.le_of_ble_eq_true rfl) rfl (Nat.le_of_ble_eq_true rfl) rfl ⟨Nat.le_refl _, Nat.le_refl _⟩ rfl ?_
    exact j_iret hX dX12_bestByTrying_17 (by have e8 : mtry a o c V M = (0, ((sV (sV V 5 (nI (cb (M 5) a))) 4 1), (sM M 14 (lkA (M 5) (M 14) a)))) := (if_neg h9); rw [e8]; exact ⟨rfl, rfl⟩)

def plN (f : Nat → Int32) (x : Int32) : Nat → Nat → Nat
  | i, 0 => i
  | i, k + 1 => if f i = x then i else plN f x (i + 1) k
theorem plN_lt {f : Nat → Int32} {x : Int32} : ∀ {z i n : Nat}, i + z = n → (∃ k, i ≤ k ∧ k < n ∧ f k = x) → plN f x i z < n ∧ i ≤ plN f x i z ∧ f (plN f x i z) = x
  | 0, i, n, h, ⟨k, h1, h2, _⟩ => absurd h2 (by omega)
  | z + 1, i, n, h, ⟨k, h1, h2, h3⟩ => by
    rw [plN]
    by_cases e : f i = x
    · rw [if_pos e]
      exact ⟨by omega, Nat.le_refl _, e⟩
    · rw [if_neg e]
      have hk : i ≠ k := fun q => e (q ▸ h3)
      have := plN_lt (f := f) (x := x) (z := z) (i := i + 1) (n := n) (by omega) ⟨k, by omega, h2, h3⟩
      exact ⟨this.1, by omega, this.2.2⟩
set_option maxHeartbeats 4000000 in
set_option maxRecDepth 100000 in
theorem c_X12_placeOf (G : jG) (ad : Nat → Nat) (V : Nat → Int32) (M : Nat → Nat → Int32) (t : Int64) (n : Nat) (hn : n ≤ 7) (x : Int32) (hex : ∃ k, k < n ∧ M 14 k = x) : jD G 0 yX12_placeOf wsX12_placeOf [.ref (ad 0), .int x] (wM G ad V M t) (some (.int (nI (plN (M 14) x 0 n)))) (wM G ad V M t) := by
  refine jC.of (maxL := 3) (cc := cX12_placeOf) (ret := (some .int)) rfl (by decide) [some (.ref (ad 0)), some (.int x), none] rfl (Nat.le_of_ble_eq_true rfl) (j_args rfl) (fun X hX => ?_)
  refine j_iconst hX (v := 0) (by decide) dX12_placeOf_0 ?_
  refine j_istore_n hX (ls' := [some (.ref (ad 0)), some (.int x), some (.int 0)]) dX12_placeOf_1 (Nat.le_of_ble_eq_true rfl) rfl rfl ?_
  have L2 : ∀ z i : Nat, i + z = n → (∃ k, i ≤ k ∧ k < n ∧ M 14 k = x) → plN (M 14) x i z = plN (M 14) x 0 n → jW G X 0 0 2 [some (.ref (ad 0)), some (.int x), some (.int (nI i))] [] (wM G ad V M t) := by
    intro z
    induction z with
    | zero =>
      intro i hi hx hR
      obtain ⟨k, h1, h2, _⟩ := hx
      exact absurd h2 (by omega)
    | succ z ih =>
      intro i hi hx hR
      refine j_aload_n hX dX12_placeOf_2 rfl ?_
      refine j_getf hX (v := .ref (ad 14)) dX12_placeOf_3 fX12_placeOf_52 0 (wMg0 _ _ _ _ _) rfl ?_
      refine j_iload_n hX dX12_placeOf_6 rfl ?_
      refine j_iald hX (v := (M 14) i) dX12_placeOf_7 14 (wMg14 _ _ _ _ _) (nI_in (by omega) (by decide)) (rdc (by omega)) ?_
      refine j_iload_n hX dX12_placeOf_8 rfl ?_
      refine j_icmp_eq hX (tgt := 18) dX12_placeOf_9 (by decide) (fun h9 => ?_) (fun h9 => ?_)
      · refine j_iload_n hX dX12_placeOf_18 rfl ?_
        exact j_iret hX dX12_placeOf_19 ⟨congrArg (fun z => some (Value.int (nI z))) (((if_pos h9 : plN (M 14) x i (z + 1) = i)).symm.trans hR), rfl⟩
      · refine j_iinc hX (v := nI (i + 1)) (ls' := [some (.ref (ad 0)), some (.int x), some (.int (nI (i + 1)))]) dX12_placeOf_12 rfl (j_inc1 _) rfl rfl ?_
        refine j_goto hX (tgt := 2) dX12_placeOf_15 (by decide) ?_
        refine ih (i + 1) (by omega) ?_ (((if_neg h9 : plN (M 14) x i (z + 1) = plN (M 14) x (i + 1) z)).symm.trans hR)
        obtain ⟨k, h1, h2, h3⟩ := hx
        exact ⟨k, by have : i ≠ k := fun q => h9 (q ▸ h3); omega, h2, h3⟩
  exact L2 n 0 (Nat.zero_add _) (by obtain ⟨k, h2, h3⟩ := hex; exact ⟨k, Nat.zero_le _, h2, h3⟩) rfl

theorem lkA_hit {f b : Nat → Int32} {q : Nat} (hq : f q = 98) : ∀ {a : Nat}, q < a → lkA f b a (cb f q) = nI q
  | 0, h => absurd h (Nat.not_lt_zero _)
  | a + 1, h => by
    rw [lkA_s]
    by_cases e : q = a
    · subst e
      rw [if_pos hq]
      exact upd_self9 _ _ _
    · have ih := lkA_hit (b := b) hq (a := a) (by omega)
      by_cases e2 : f a = 98
      · rw [if_pos e2]
        have hlt := cb_lt hq (show q < a by omega)
        unfold upd
        rw [if_neg (by first | exact (by omega : ¬ cb f q = cb f a) | exact fun z => absurd (beq_iff_eq.mp z) (by omega))]
        exact ih
      · rw [if_neg e2]
        exact ih
theorem ib_nat {a : Nat} {f : Nat → Int32} {x : Int32} (ha : a ≤ 60) (h : ¬ ibM a f x = 0) : ∃ q, q < a ∧ x = nI q ∧ f q = 98 := by
  unfold ibM at h
  by_cases h1 : withinV x 0 (nI a - 1) = 0
  · rw [if_pos h1] at h; exact absurd rfl h
  · rw [if_neg h1] at h
    obtain ⟨q, hq, rfl⟩ := within_nat ha h1
    rw [nI_clamp (by omega)] at h
    by_cases h2 : f q = 98
    · exact ⟨q, hq, rfl, h2⟩
    · rw [if_neg h2] at h; exact absurd rfl h
theorem ib_ex {a : Nat} {f b : Nat → Int32} {x : Int32} (ha : a ≤ 60) (h : ¬ ibM a f x = 0) : ∃ k, k < cb f a ∧ lkA f b a k = x := by
  obtain ⟨q, hq, rfl, h2⟩ := ib_nat ha h
  exact ⟨cb f q, cb_lt h2 hq, lkA_hit h2 hq⟩
/-- behind the search and a look: the state -/
def fdL (a o c : Nat) (s : VM) : VM := (sV (fdF a o c s).1 5 (nI (cb ((fdF a o c s).2 5) a)), sM (fdF a o c s).2 14 (lkA ((fdF a o c s).2 5) ((fdF a o c s).2 14) a))
def offP (a o c : Nat) (s : VM) (x : Int32) : Nat := plN ((fdL a o c s).2 14) x 0 (cb ((fdL a o c s).2 5) a)
def moff (a o c : Nat) (V : Nat → Int32) (M : Nat → Nat → Int32) (x : Int32) : Int32 × VM :=
  if ibM a (M 5) x = 0 then (0, (sV V 4 1, M)) else
    if (fdL a o c (sV V 4 0, M)).2 21 (offP a o c (sV V 4 0, M) x) = -1 then (-1, fdL a o c (sV V 4 0, M)) else ((fdL a o c (sV V 4 0, M)).2 23 ((fdL a o c (sV V 4 0, M)).2 21 (offP a o c (sV V 4 0, M) x)).toNatClampNeg, fdL a o c (sV V 4 0, M))
theorem fdF_5 {a o c : Nat} (s : VM) : (fdF a o c s).2 5 = s.2 5 := (fdF_VM s).2 5 (by unfold fkM gkM; decide)
set_option maxHeartbeats 4000000 in
set_option maxRecDepth 100000 in
theorem c_X12_offerOf (G : jG) (ad : Nat → Nat) (V : Nat → Int32) (M : Nat → Nat → Int32) (t : Int64) (a o c : Nat) (hJ : mJ a o c V M) (hok : V 7 = 0 → fdOK a o c (sV V 4 0, M)) (x : Int32) (hb21 : ∀ k, k < cb ((fdL a o c (sV V 4 0, M)).2 5) a → (fdL a o c (sV V 4 0, M)).2 21 k = -1 ∨ vp_in ((fdL a o c (sV V 4 0, M)).2 21 k) 7) : jD G 77 yX12_offerOf wsX12_offerOf [.ref (ad 0), .int x] (wM G ad V M t) (some (.int (moff a o c V M x).1)) (wM G ad (moff a o c V M x).2.1 (moff a o c V M x).2.2 t) := by
  refine jC.of (maxL := 3) (cc := cX12_offerOf) (ret := (some .int)) rfl (by decide) [some (.ref (ad 0)), some (.int x), none] rfl (Nat.le_of_ble_eq_true rfl) (j_args rfl) (fun X hX => ?_)
  have hJ0 := hJ
  obtain ⟨ha, ha6, hcb, ho2, ho, hc1, hc, hG4⟩ := hJ
  refine j_aload_n hX dX12_offerOf_0 rfl ?_
  refine j_aload_n hX dX12_offerOf_1 rfl ?_
  refine j_iload_n hX dX12_offerOf_2 rfl ?_
  refine j_dV hX (nA := 1) (cq := (RX12, TX12, 37)) (As := [.int x]) (st := [.ref (ad 0)]) (st' := [.int (ibM a (M 5) x), .ref (ad 0)]) (ci := 13) rfl dX12_offerOf_3 (c_X12_isInBasket G _ V M _ a ha ha6 _) gX12_offerOf_X12_isInBasket rfl (by decide +kernel) (q := 0) (wMg0 _ _ _ _ _) (by decide) (Nat.le_of_ble_eq_true rfl) rfl (Nat.le_of_ble_eq_true rfl) rfl ⟨Nat.le_refl _, Nat.le_refl _⟩ rfl ?_
  refine j_if_eq hX (tgt := 13) dX12_offerOf_6 (by decide) (fun h6 => ?_) (fun h6 => ?_)
  · refine j_iconst hX (v := 1) (by decide) dX12_offerOf_13 ?_
    refine j_putf hX (ws' := (wM G ad (sV V 4 1) M t)) dX12_offerOf_14 fX12_offerOf_89 0 (wMg0 _ _ _ _ _) (Nat.le_of_ble_eq_true rfl) rfl rfl (wMp0_18 _ _ _ _ _ _) ?_
    refine j_aload_n hX dX12_offerOf_17 rfl ?_
    refine j_getf hX (v := .int 1) dX12_offerOf_18 fX12_offerOf_89 0 (wMg0 _ _ _ _ _) rfl ?_
    refine j_if_le_f hX (tgt := 26) dX12_offerOf_21 (by decide) (by decide) ?_
    refine j_iconst hX (v := 0) (by decide) dX12_offerOf_24 ?_
    exact j_iret hX dX12_offerOf_25 (by have e8 : moff a o c V M x = (0, ((sV V 4 1), M)) := (if_pos h6); rw [e8]; exact ⟨rfl, rfl⟩)
  · refine j_iconst hX (v := 0) (by decide) dX12_offerOf_9 ?_
    refine j_goto hX (tgt := 14) dX12_offerOf_10 (by decide) ?_
    refine j_putf hX (ws' := (wM G ad (sV V 4 0) M t)) dX12_offerOf_14 fX12_offerOf_89 0 (wMg0 _ _ _ _ _) (Nat.le_of_ble_eq_true rfl) rfl rfl (wMp0_18 _ _ _ _ _ _) ?_
    refine j_aload_n hX dX12_offerOf_17 rfl ?_
    refine j_getf hX (v := .int 0) dX12_offerOf_18 fX12_offerOf_89 0 (wMg0 _ _ _ _ _) rfl ?_
    refine j_if_le_t hX (tgt := 26) dX12_offerOf_21 (by decide) (by decide) ?_
    refine j_aload_n hX dX12_offerOf_26 rfl ?_
    refine j_dV hX (nA := 0) (cq := (RX12, TX12, 37)) (As := []) (st := []) (st' := []) (ci := 13) rfl dX12_offerOf_27 (c_X12_finds G _ (sV V 4 0) M _ a o c hJ0 hok) gX12_offerOf_X12_finds rfl (by decide +kernel) (q := 0) (wMg0 _ _ _ _ _) (by decide) (Nat.le_of_ble_eq_true rfl) rfl (Nat.le_of_ble_eq_true rfl) rfl ⟨Nat.le_refl _, Nat.le_refl _⟩ rfl ?_
    have hJF := fdF_J (a := a) (o := o) (c := c) (V := sV V 4 0) (M := M) hJ0
    refine j_aload_n hX dX12_offerOf_30 rfl ?_
    refine j_dV hX (nA := 0) (cq := (RX12, TX12, 37)) (As := []) (st := []) (st' := []) (ci := 13) rfl dX12_offerOf_31 (c_X12_looks G _ ((fdF a o c ((sV V 4 0), M)).1) ((fdF a o c ((sV V 4 0), M)).2) _ a hJF.1 hJF.2.1 hJF.2.2.1) gX12_offerOf_X12_looks rfl (by decide +kernel) (q := 0) (wMg0 _ _ _ _ _) (by decide) (Nat.le_of_ble_eq_true rfl) rfl (Nat.le_of_ble_eq_true rfl) rfl ⟨Nat.le_refl _, Nat.le_refl _⟩ rfl ?_
    refine jW.world (ws' := (wM G ad (fdL a o c (sV V 4 0, M)).1 (fdL a o c (sV V 4 0, M)).2 t)) rfl ?_
    refine j_aload_n hX dX12_offerOf_34 rfl ?_
    refine j_getf hX (v := .ref (ad 21)) dX12_offerOf_35 fX12_offerOf_73 0 (wMg0 _ _ _ _ _) rfl ?_
    have hexF : ∃ k, k < cb ((fdL a o c (sV V 4 0, M)).2 5) a ∧ (fdL a o c (sV V 4 0, M)).2 14 k = x := ib_ex ha6 (by rw [show (fdL a o c (sV V 4 0, M)).2 5 = M 5 from fdF_5 (sV V 4 0, M)]; exact h6)
    have hc7F : cb ((fdL a o c (sV V 4 0, M)).2 5) a ≤ 7 := hJF.2.2.1
    have hpl := plN_lt (f := (fdL a o c (sV V 4 0, M)).2 14) (x := x) (z := cb ((fdL a o c (sV V 4 0, M)).2 5) a) (i := 0) (n := cb ((fdL a o c (sV V 4 0, M)).2 5) a) (Nat.zero_add _) (by obtain ⟨k, h1, h2⟩ := hexF; exact ⟨k, Nat.zero_le _, h1, h2⟩)
    refine j_aload_n hX dX12_offerOf_38 rfl ?_
    refine j_iload_n hX dX12_offerOf_39 rfl ?_
    refine j_dV hX (nA := 1) (cq := (RX12, TX12, 37)) (As := [.int x]) (st := [.ref (ad 21)]) (st' := [.int (nI (offP a o c (sV V 4 0, M) x)), .ref (ad 21)]) (ci := 13) rfl dX12_offerOf_40 (c_X12_placeOf G _ (fdL a o c (sV V 4 0, M)).1 (fdL a o c (sV V 4 0, M)).2 _ (cb ((fdL a o c (sV V 4 0, M)).2 5) a) hc7F x hexF) gX12_offerOf_X12_placeOf rfl (by decide +kernel) (q := 0) (wMg0 _ _ _ _ _) (by decide) (Nat.le_of_ble_eq_true rfl) rfl (Nat.le_of_ble_eq_true rfl) rfl ⟨Nat.le_refl _, Nat.le_refl _⟩ rfl ?_
    have hp7 : offP a o c (sV V 4 0, M) x < 7 := Nat.lt_of_lt_of_le hpl.1 hc7F
    refine j_iald hX (v := ((fdL a o c (sV V 4 0, M)).2 21) (offP a o c (sV V 4 0, M) x)) dX12_offerOf_43 21 (wMg21 _ _ _ _ _) (nI_in (by omega) (by decide)) (rdc (by omega)) ?_
    refine j_istore_n hX (ls' := [some (.ref (ad 0)), some (.int x), some (.int (((fdL a o c (sV V 4 0, M)).2 21) (offP a o c (sV V 4 0, M) x)))]) dX12_offerOf_44 (Nat.le_of_ble_eq_true rfl) rfl rfl ?_
    refine j_iload_n hX dX12_offerOf_45 rfl ?_
    refine j_iconst hX (v := -1) (by decide) dX12_offerOf_46 ?_
    refine j_icmp_ne hX (tgt := 54) dX12_offerOf_47 (by decide) (fun h47 => ?_) (fun h47 => ?_)
    · refine j_aload_n hX dX12_offerOf_54 rfl ?_
      refine j_getf hX (v := .ref (ad 23)) dX12_offerOf_55 fX12_offerOf_79 0 (wMg0 _ _ _ _ _) rfl ?_
      refine j_iload_n hX dX12_offerOf_58 rfl ?_
      refine j_iald hX (v := ((fdL a o c (sV V 4 0, M)).2 23) ((((fdL a o c (sV V 4 0, M)).2 21) (offP a o c (sV V 4 0, M) x)).toNatClampNeg)) dX12_offerOf_59 23 (wMg23 _ _ _ _ _) ((hb21 _ hpl.1).resolve_left h47) rfl ?_
      exact j_iret hX dX12_offerOf_60 (by have e8 : moff a o c V M x = (((fdL a o c (sV V 4 0, M)).2 23) ((((fdL a o c (sV V 4 0, M)).2 21) (offP a o c (sV V 4 0, M) x)).toNatClampNeg), (fdL a o c (sV V 4 0, M))) := ((if_neg h6).trans (if_neg h47)); rw [e8]; exact ⟨rfl, rfl⟩)
    · refine j_iconst hX (v := -1) (by decide) dX12_offerOf_50 ?_
      refine j_goto hX (tgt := 60) dX12_offerOf_51 (by decide) ?_
      exact j_iret hX dX12_offerOf_60 (by have e8 : moff a o c V M x = (-1, (fdL a o c (sV V 4 0, M))) := ((if_neg h6).trans (if_pos h47)); rw [e8]; exact ⟨rfl, rfl⟩)

def usM (M : Nat → Nat → Int32) (j : Nat) : Int32 := if M 6 j = 116 then (if M 25 j = 0 then 0 else 1) else M 22 j
def muses (a o c : Nat) (V : Nat → Int32) (M : Nat → Nat → Int32) (x : Int32) : Int32 × VM := if withinV x 0 (nI o - 1) = 0 then (0, (sV V 4 1, M)) else (usM (fdF a o c (sV V 4 0, M)).2 x.toNatClampNeg, fdF a o c (sV V 4 0, M))
set_option maxHeartbeats 4000000 in
set_option maxRecDepth 100000 in
theorem c_X12_usesOf (G : jG) (ad : Nat → Nat) (V : Nat → Int32) (M : Nat → Nat → Int32) (t : Int64) (j : Nat) (hj6 : j < 6) : jD G 0 yX12_usesOf wsX12_usesOf [.ref (ad 0), .int (nI j)] (wM G ad V M t) (some (.int (usM M j))) (wM G ad V M t) := by
  refine jC.of (maxL := 2) (cc := cX12_usesOf) (ret := (some .int)) rfl (by decide) [some (.ref (ad 0)), some (.int (nI j))] rfl (Nat.le_of_ble_eq_true rfl) (j_args rfl) (fun X hX => ?_)
  refine j_aload_n hX dX12_usesOf_0 rfl ?_
  refine j_getf hX (v := .ref (ad 6)) dX12_usesOf_1 fX12_usesOf_26 0 (wMg0 _ _ _ _ _) rfl ?_
  refine j_iload_n hX dX12_usesOf_4 rfl ?_
  refine j_cald hX (v := (M 6) j) dX12_usesOf_5 6 (wMg6 _ _ _ _ _) (nI_in (by omega) (by decide)) (rdc (by omega)) ?_
  refine j_bipush hX (v := 116) (by decide) dX12_usesOf_6 ?_
  refine j_icmp_ne hX (tgt := 28) dX12_usesOf_8 (by decide) (fun h8 => ?_) (fun h8 => ?_)
  · refine j_aload_n hX dX12_usesOf_28 rfl ?_
    refine j_getf hX (v := .ref (ad 22)) dX12_usesOf_29 fX12_usesOf_76 0 (wMg0 _ _ _ _ _) rfl ?_
    refine j_iload_n hX dX12_usesOf_32 rfl ?_
    refine j_iald hX (v := (M 22) j) dX12_usesOf_33 22 (wMg22 _ _ _ _ _) (nI_in (by omega) (by decide)) (rdc (by omega)) ?_
    exact j_iret hX dX12_usesOf_34 ⟨congrArg (fun z => some (Value.int z)) (show (M 22) j = usM M j by simp only [usM, if_neg h8]), rfl⟩
  · refine j_aload_n hX dX12_usesOf_11 rfl ?_
    refine j_getf hX (v := .ref (ad 25)) dX12_usesOf_12 fX12_usesOf_85 0 (wMg0 _ _ _ _ _) rfl ?_
    refine j_iload_n hX dX12_usesOf_15 rfl ?_
    refine j_zald hX (v := (M 25) j) dX12_usesOf_16 25 (wMg25 _ _ _ _ _) (nI_in (by omega) (by decide)) (rdc (by omega)) ?_
    refine j_if_eq hX (tgt := 24) dX12_usesOf_17 (by decide) (fun h17 => ?_) (fun h17 => ?_)
    · refine j_iconst hX (v := 0) (by decide) dX12_usesOf_24 ?_
      refine j_goto hX (tgt := 34) dX12_usesOf_25 (by decide) ?_
      exact j_iret hX dX12_usesOf_34 ⟨congrArg (fun z => some (Value.int z)) (show 0 = usM M j by simp only [usM, if_pos h8, if_pos h17]), rfl⟩
    · refine j_iconst hX (v := 1) (by decide) dX12_usesOf_20 ?_
      refine j_goto hX (tgt := 34) dX12_usesOf_21 (by decide) ?_
      exact j_iret hX dX12_usesOf_34 ⟨congrArg (fun z => some (Value.int z)) (show 1 = usM M j by simp only [usM, if_pos h8, if_neg h17]), rfl⟩

set_option maxHeartbeats 4000000 in
set_option maxRecDepth 100000 in
theorem c_X12_uses (G : jG) (ad : Nat → Nat) (V : Nat → Int32) (M : Nat → Nat → Int32) (t : Int64) (a o c : Nat) (hJ : mJ a o c V M) (hok : V 7 = 0 → fdOK a o c (sV V 4 0, M)) (x : Int32) : jD G 77 yX12_uses wsX12_uses [.ref (ad 0), .int x] (wM G ad V M t) (some (.int (muses a o c V M x).1)) (wM G ad (muses a o c V M x).2.1 (muses a o c V M x).2.2 t) := by
  refine jC.of (maxL := 2) (cc := cX12_uses) (ret := (some .int)) rfl (by decide) [some (.ref (ad 0)), some (.int x)] rfl (Nat.le_of_ble_eq_true rfl) (j_args rfl) (fun X hX => ?_)
  have hJ0 := hJ
  obtain ⟨ha, ha6, hcb, ho2, ho, hc1, hc, hG4⟩ := hJ
  refine j_aload_n hX dX12_uses_0 rfl ?_
  refine j_iload_n hX dX12_uses_1 rfl ?_
  refine j_iconst hX (v := 0) (by decide) dX12_uses_2 ?_
  refine j_aload_n hX dX12_uses_3 rfl ?_
  refine j_getf hX (v := .int (V 2)) dX12_uses_4 fX12_uses_121 0 (wMg0 _ _ _ _ _) rfl ?_
  refine jW.top ho2 ?_
  refine j_iconst hX (v := 1) (by decide) dX12_uses_7 ?_
  refine j_isub hX dX12_uses_8 ?_
  refine j_dS hX (nA := 3) (As := [.int x, .int 0, .int ((nI o) - 1)]) (st := [.ref (ad 0)]) (st' := [.int (withinV x 0 ((nI o) - 1)), .ref (ad 0)]) dX12_uses_9 (c_X12_in G) gX12_uses_X12_in rfl (by decide +kernel) (by decide) (Nat.le_of_ble_eq_true rfl) rfl (Nat.le_of_ble_eq_true rfl) rfl ⟨Nat.le_refl _, Nat.le_refl _⟩ rfl ?_
  refine j_if_eq hX (tgt := 19) dX12_uses_12 (by decide) (fun h12 => ?_) (fun h12 => ?_)
  · refine j_iconst hX (v := 1) (by decide) dX12_uses_19 ?_
    refine j_putf hX (ws' := (wM G ad (sV V 4 1) M t)) dX12_uses_20 fX12_uses_89 0 (wMg0 _ _ _ _ _) (Nat.le_of_ble_eq_true rfl) rfl rfl (wMp0_18 _ _ _ _ _ _) ?_
    refine j_aload_n hX dX12_uses_23 rfl ?_
    refine j_getf hX (v := .int 1) dX12_uses_24 fX12_uses_89 0 (wMg0 _ _ _ _ _) rfl ?_
    refine j_if_le_f hX (tgt := 32) dX12_uses_27 (by decide) (by decide) ?_
    refine j_iconst hX (v := 0) (by decide) dX12_uses_30 ?_
    exact j_iret hX dX12_uses_31 (by have e8 : muses a o c V M x = (0, ((sV V 4 1), M)) := (if_pos h12); rw [e8]; exact ⟨rfl, rfl⟩)
  · refine j_iconst hX (v := 0) (by decide) dX12_uses_15 ?_
    refine j_goto hX (tgt := 20) dX12_uses_16 (by decide) ?_
    refine j_putf hX (ws' := (wM G ad (sV V 4 0) M t)) dX12_uses_20 fX12_uses_89 0 (wMg0 _ _ _ _ _) (Nat.le_of_ble_eq_true rfl) rfl rfl (wMp0_18 _ _ _ _ _ _) ?_
    refine j_aload_n hX dX12_uses_23 rfl ?_
    refine j_getf hX (v := .int 0) dX12_uses_24 fX12_uses_89 0 (wMg0 _ _ _ _ _) rfl ?_
    refine j_if_le_t hX (tgt := 32) dX12_uses_27 (by decide) (by decide) ?_
    obtain ⟨ex, hx6⟩ := within_eq (Nat.le_trans ho (by decide)) h12
    refine jW.locals (ls' := [some (.ref (ad 0)), some (.int (nI x.toNatClampNeg))]) (by rw [← ex]) ?_
    refine j_aload_n hX dX12_uses_32 rfl ?_
    refine j_dV hX (nA := 0) (cq := (RX12, TX12, 37)) (As := []) (st := []) (st' := []) (ci := 13) rfl dX12_uses_33 (c_X12_finds G _ (sV V 4 0) M _ a o c hJ0 hok) gX12_uses_X12_finds rfl (by decide +kernel) (q := 0) (wMg0 _ _ _ _ _) (by decide) (Nat.le_of_ble_eq_true rfl) rfl (Nat.le_of_ble_eq_true rfl) rfl ⟨Nat.le_refl _, Nat.le_refl _⟩ rfl ?_
    refine j_aload_n hX dX12_uses_36 rfl ?_
    refine j_iload_n hX dX12_uses_37 rfl ?_
    refine j_dV hX (nA := 1) (cq := (RX12, TX12, 37)) (As := [.int (nI x.toNatClampNeg)]) (st := []) (st' := [.int (usM ((fdF a o c ((sV V 4 0), M)).2) x.toNatClampNeg)]) (ci := 13) rfl dX12_uses_38 (c_X12_usesOf G _ ((fdF a o c ((sV V 4 0), M)).1) ((fdF a o c ((sV V 4 0), M)).2) _ x.toNatClampNeg (by omega)) gX12_uses_X12_usesOf rfl (by decide +kernel) (q := 0) (wMg0 _ _ _ _ _) (by decide) (Nat.le_of_ble_eq_true rfl) rfl (Nat.le_of_ble_eq_true rfl) rfl ⟨Nat.le_refl _, Nat.le_refl _⟩ rfl ?_
    exact j_iret hX dX12_uses_41 (by have e8 : muses a o c V M x = (usM ((fdF a o c ((sV V 4 0), M)).2) x.toNatClampNeg, (fdF a o c ((sV V 4 0), M))) := (if_neg h12); rw [e8]; exact ⟨rfl, rfl⟩)

def hiS (M : Nat → Nat → Int32) (n j : Nat) (i : Nat) (x : Int32) : Int32 := if x = 0 then goM M n j (nI (i + 1)) else x
def hiF (M : Nat → Nat → Int32) (n j : Nat) (i : Nat) : Int32 := itr (hiS M n j) i 0
theorem hi_stop {M : Nat → Nat → Int32} {n j i : Nat} (h : ¬ hiF M n j i = 0) : ∀ {k : Nat}, hiF M n j (i + k) = hiF M n j i
  | 0 => rfl
  | k + 1 => by
    have h1 := hi_stop h (k := k)
    rw [← Nat.add_assoc]
    show hiS M n j (i + k) (hiF M n j (i + k)) = _
    rw [h1, hiS, if_neg h]
def hsM (a : Nat) (M : Nat → Nat → Int32) (j : Nat) : Int32 := if M 6 j = 116 then (if sumN M a < M 7 j then 0 else 1) else hiF (sM M 14 (lkA (M 5) (M 14) a)) (cb (M 5) a) j (2 ^ (cb (M 5) a) - 1)
theorem sh_n {n : Nat} (hn : n ≤ 7) : (1 : Int32) <<< (nI n &&& 31) = nI (2 ^ n) := (show ∀ n, n < 8 → (1 : Int32) <<< (nI n &&& 31) = nI (2 ^ n) by decide +kernel) n (by omega)
theorem p128 {n : Nat} (hn : n ≤ 7) : 1 ≤ 2 ^ n ∧ 2 ^ n ≤ 128 := ⟨Nat.one_le_two_pow, Nat.le_trans (Nat.pow_le_pow_right (by decide) hn) (by decide)⟩
theorem goM_01 (M : Nat → Nat → Int32) (n j : Nat) (set : Int32) : goM M n j set = 0 ∨ goM M n j set = 1 := by
  unfold goM
  split
  · exact Or.inl rfl
  · split
    · split
      · exact Or.inl rfl
      · exact Or.inr rfl
    · exact Or.inr rfl
theorem hi_nar (M : Nat → Nat → Int32) (n j i : Nat) : narrow .boolean (.int (hiF M n j i)) = .int (hiF M n j i) := by
  have h : hiF M n j i = 0 ∨ hiF M n j i = 1 := by
    refine itr_P (P := fun x => x = 0 ∨ x = 1) (fun i x hx => ?_) (Or.inl rfl) i
    unfold hiS
    split
    · exact goM_01 _ _ _ _
    · exact hx
  rcases h with h | h <;> rw [h] <;> decide
set_option maxHeartbeats 4000000 in
set_option maxRecDepth 100000 in
theorem c_X12_hasItems (G : jG) (ad : Nat → Nat) (V : Nat → Int32) (M : Nat → Nat → Int32) (t : Int64) (a o c : Nat) (hJ : mJ a o c V M) (j : Nat) (hj : j < o) : jD G 5 yX12_hasItems wsX12_hasItems [.ref (ad 0), .int (nI j)] (wM G ad V M t) (some (.int (hsM a M j))) (wM G ad (sV V 5 (nI (cb (M 5) a))) (sM M 14 (lkA (M 5) (M 14) a)) t) := by
  refine jC.of (maxL := 4) (cc := cX12_hasItems) (ret := (some .boolean)) rfl (by decide) [some (.ref (ad 0)), some (.int (nI j)), none, none] rfl (Nat.le_of_ble_eq_true rfl) (j_args rfl) (fun X hX => ?_)
  have hJ0 := hJ
  obtain ⟨ha, ha6, hcb, ho2, ho, hc1, hc, hG4⟩ := hJ
  have hp := p128 hcb
  have hIL := (⟨rfl, hcb, ho2, ho, hc1, hc, fun k hk => lkA_in ha6 hk, hG4⟩ : mI (cb (M 5) a) o c (sV V 5 (nI (cb (M 5) a))) (sM M 14 (lkA (M 5) (M 14) a)))
  refine j_aload_n hX dX12_hasItems_0 rfl ?_
  refine j_getf hX (v := .ref (ad 6)) dX12_hasItems_1 fX12_hasItems_26 0 (wMg0 _ _ _ _ _) rfl ?_
  refine j_iload_n hX dX12_hasItems_4 rfl ?_
  refine j_cald hX (v := (M 6) j) dX12_hasItems_5 6 (wMg6 _ _ _ _ _) (nI_in (by omega) (by decide)) (rdc (by omega)) ?_
  refine j_bipush hX (v := 116) (by decide) dX12_hasItems_6 ?_
  refine j_icmp_ne hX (tgt := 30) dX12_hasItems_8 (by decide) (fun h8 => ?_) (fun h8 => ?_)
  · refine j_aload_n hX dX12_hasItems_30 rfl ?_
    refine j_dV hX (nA := 0) (cq := (RX12, TX12, 37)) (As := []) (st := []) (st' := []) (ci := 13) rfl dX12_hasItems_31 (c_X12_looks G _ V M _ a ha ha6 hcb) gX12_hasItems_X12_looks rfl (by decide +kernel) (q := 0) (wMg0 _ _ _ _ _) (by decide) (Nat.le_of_ble_eq_true rfl) rfl (Nat.le_of_ble_eq_true rfl) rfl ⟨Nat.le_refl _, Nat.le_refl _⟩ rfl ?_
    refine j_iconst hX (v := 0) (by decide) dX12_hasItems_34 ?_
    refine j_istore_n hX (ls' := [some (.ref (ad 0)), some (.int (nI j)), some (.int 0), none]) dX12_hasItems_35 (Nat.le_of_ble_eq_true rfl) rfl rfl ?_
    refine j_iconst hX (v := 1) (by decide) dX12_hasItems_36 ?_
    refine j_istore_n hX (ls' := [some (.ref (ad 0)), some (.int (nI j)), some (.int 0), some (.int 1)]) dX12_hasItems_37 (Nat.le_of_ble_eq_true rfl) rfl rfl ?_
    have L38 : ∀ zi i : Nat, 0 ≤ i → i + zi = 2 ^ (cb (M 5) a) - 1 → jW G X 0 0 38 [some (.ref (ad 0)), some (.int (nI j)), some (.int (hiF (sM M 14 (lkA (M 5) (M 14) a)) (cb (M 5) a) j i)), some (.int (nI (i + 1)))] [] (wM G ad (sV V 5 (nI (cb (M 5) a))) (sM M 14 (lkA (M 5) (M 14) a)) t) := by
      intro zi
      induction zi with
      | zero =>
        intro i h0 hi
        have hin : i = 2 ^ (cb (M 5) a) - 1 := by omega
        refine j_iload_n hX dX12_hasItems_38 rfl ?_
        refine j_iconst hX (v := 1) (by decide) dX12_hasItems_39 ?_
        refine j_aload_n hX dX12_hasItems_40 rfl ?_
        refine j_getf hX (v := .int (nI (cb (M 5) a))) dX12_hasItems_41 fX12_hasItems_93 0 (wMg0 _ _ _ _ _) rfl ?_
        refine j_ishl hX dX12_hasItems_44 ?_
        refine jW.top (sh_n hcb) ?_
        refine j_icmp_ge_t hX (tgt := 65) dX12_hasItems_45 (by decide) (nI_le (by omega) (by omega)) ?_
        refine jW.drop (ls' := [some (.ref (ad 0)), some (.int (nI j)), some (.int (hiF (sM M 14 (lkA (M 5) (M 14) a)) (cb (M 5) a) j i)), none]) ⟨Or.inr rfl, Or.inr rfl, Or.inr rfl, Or.inl rfl, trivial⟩ ?_
        refine jW.locals (ls' := [some (.ref (ad 0)), some (.int (nI j)), some (.int (hiF (sM M 14 (lkA (M 5) (M 14) a)) (cb (M 5) a) j (2 ^ (cb (M 5) a) - 1))), none]) (by rw [hin]) ?_
        refine j_iload_n hX dX12_hasItems_65 rfl ?_
        exact j_zret hX (hi_nar _ _ _ _) dX12_hasItems_66 ⟨congrArg (fun z => some (Value.int z)) (show hiF (sM M 14 (lkA (M 5) (M 14) a)) (cb (M 5) a) j (2 ^ (cb (M 5) a) - 1) = hsM a M j from (if_neg h8).symm), rfl⟩
      | succ zi ih =>
        intro i h0 hi
        have hin : i < 2 ^ (cb (M 5) a) - 1 := by omega
        refine j_iload_n hX dX12_hasItems_38 rfl ?_
        refine j_iconst hX (v := 1) (by decide) dX12_hasItems_39 ?_
        refine j_aload_n hX dX12_hasItems_40 rfl ?_
        refine j_getf hX (v := .int (nI (cb (M 5) a))) dX12_hasItems_41 fX12_hasItems_93 0 (wMg0 _ _ _ _ _) rfl ?_
        refine j_ishl hX dX12_hasItems_44 ?_
        refine jW.top (sh_n hcb) ?_
        refine j_icmp_ge_f hX (tgt := 65) dX12_hasItems_45 (by decide) (nI_ge (by omega) (by omega)) ?_
        refine j_iload_n hX dX12_hasItems_48 rfl ?_
        refine j_if_ne hX (tgt := 65) dX12_hasItems_49 (by decide) (fun h49 => ?_) (fun h49 => ?_)
        · refine jW.drop (ls' := [some (.ref (ad 0)), some (.int (nI j)), some (.int (hiF (sM M 14 (lkA (M 5) (M 14) a)) (cb (M 5) a) j i)), none]) ⟨Or.inr rfl, Or.inr rfl, Or.inr rfl, Or.inl rfl, trivial⟩ ?_
          refine jW.locals (ls' := [some (.ref (ad 0)), some (.int (nI j)), some (.int (hiF (sM M 14 (lkA (M 5) (M 14) a)) (cb (M 5) a) j (2 ^ (cb (M 5) a) - 1))), none]) (by rw [show hiF (sM M 14 (lkA (M 5) (M 14) a)) (cb (M 5) a) j (2 ^ (cb (M 5) a) - 1) = hiF (sM M 14 (lkA (M 5) (M 14) a)) (cb (M 5) a) j i from (congrArg (hiF (sM M 14 (lkA (M 5) (M 14) a)) (cb (M 5) a) j) (show 2 ^ (cb (M 5) a) - 1 = i + (2 ^ (cb (M 5) a) - 1 - i) by omega)).trans (hi_stop h49)]) ?_
          refine j_iload_n hX dX12_hasItems_65 rfl ?_
          exact j_zret hX (hi_nar _ _ _ _) dX12_hasItems_66 ⟨congrArg (fun z => some (Value.int z)) (show hiF (sM M 14 (lkA (M 5) (M 14) a)) (cb (M 5) a) j (2 ^ (cb (M 5) a) - 1) = hsM a M j from (if_neg h8).symm), rfl⟩
        · refine j_aload_n hX dX12_hasItems_52 rfl ?_
          refine j_iload_n hX dX12_hasItems_53 rfl ?_
          refine j_iload_n hX dX12_hasItems_54 rfl ?_
          refine j_dV hX (nA := 2) (cq := (RX12, TX12, 37)) (As := [.int (nI j), .int (nI (i + 1))]) (st := []) (st' := [.int (goM (sM M 14 (lkA (M 5) (M 14) a)) (cb (M 5) a) j (nI (i + 1)))]) (ci := 13) rfl dX12_hasItems_55 (c_X12_isGood G _ (sV V 5 (nI (cb (M 5) a))) (sM M 14 (lkA (M 5) (M 14) a)) _ (cb (M 5) a) o c hIL j (by omega) _) gX12_hasItems_X12_isGood rfl (by decide +kernel) (q := 0) (wMg0 _ _ _ _ _) (by decide) (Nat.le_of_ble_eq_true rfl) rfl (Nat.le_of_ble_eq_true rfl) rfl ⟨Nat.le_refl _, Nat.le_refl _⟩ rfl ?_
          refine j_istore_n hX (ls' := [some (.ref (ad 0)), some (.int (nI j)), some (.int (goM (sM M 14 (lkA (M 5) (M 14) a)) (cb (M 5) a) j (nI (i + 1)))), some (.int (nI (i + 1)))]) dX12_hasItems_58 (Nat.le_of_ble_eq_true rfl) rfl rfl ?_
          refine j_iinc hX (v := nI (i + 1 + 1)) (ls' := [some (.ref (ad 0)), some (.int (nI j)), some (.int (goM (sM M 14 (lkA (M 5) (M 14) a)) (cb (M 5) a) j (nI (i + 1)))), some (.int (nI (i + 1 + 1)))]) dX12_hasItems_59 rfl (j_inc1 _) rfl rfl ?_
          refine j_goto hX (tgt := 38) dX12_hasItems_62 (by decide) ?_
          refine jW.locals (ls' := [some (.ref (ad 0)), some (.int (nI j)), some (.int (hiF (sM M 14 (lkA (M 5) (M 14) a)) (cb (M 5) a) j (i + 1))), some (.int (nI (i + 1 + 1)))]) (by rw [show hiF (sM M 14 (lkA (M 5) (M 14) a)) (cb (M 5) a) j (i + 1) = goM (sM M 14 (lkA (M 5) (M 14) a)) (cb (M 5) a) j (nI (i + 1)) from if_pos h49]) ?_
          exact ih (i + 1) (by omega) (by omega)
    refine jW.locals (ls' := [some (.ref (ad 0)), some (.int (nI j)), some (.int (hiF (sM M 14 (lkA (M 5) (M 14) a)) (cb (M 5) a) j 0)), some (.int (nI (0 + 1)))]) rfl ?_
    exact L38 (2 ^ (cb (M 5) a) - 1) 0 (Nat.le_refl _) (by omega)
  · refine j_aload_n hX dX12_hasItems_11 rfl ?_
    refine j_dV hX (nA := 0) (cq := (RX12, TX12, 37)) (As := []) (st := []) (st' := [.int (sumN M a)]) (ci := 13) rfl dX12_hasItems_12 (c_X12_sumNow G _ V M _ a ha ha6 hcb) gX12_hasItems_X12_sumNow rfl (by decide +kernel) (q := 0) (wMg0 _ _ _ _ _) (by decide) (Nat.le_of_ble_eq_true rfl) rfl (Nat.le_of_ble_eq_true rfl) rfl ⟨Nat.le_refl _, Nat.le_refl _⟩ rfl ?_
    refine j_aload_n hX dX12_hasItems_15 rfl ?_
    refine j_getf hX (v := .ref (ad 7)) dX12_hasItems_16 fX12_hasItems_29 0 (wMg0 _ _ _ _ _) rfl ?_
    refine j_iload_n hX dX12_hasItems_19 rfl ?_
    refine j_iald hX (v := (M 7) j) dX12_hasItems_20 7 (wMg7 _ _ _ _ _) (nI_in (by omega) (by decide)) (rdc (by omega)) ?_
    refine j_icmp_lt hX (tgt := 28) dX12_hasItems_21 (by decide) (fun h21 => ?_) (fun h21 => ?_)
    · refine j_iconst hX (v := 0) (by decide) dX12_hasItems_28 ?_
      exact j_zret hX (by decide) dX12_hasItems_29 ⟨congrArg (fun z => some (Value.int z)) (show 0 = hsM a M j from ((if_pos h8).trans (if_pos h21)).symm), rfl⟩
    · refine j_iconst hX (v := 1) (by decide) dX12_hasItems_24 ?_
      refine j_goto hX (tgt := 29) dX12_hasItems_25 (by decide) ?_
      exact j_zret hX (by decide) dX12_hasItems_29 ⟨congrArg (fun z => some (Value.int z)) (show 1 = hsM a M j from ((if_pos h8).trans (if_neg h21)).symm), rfl⟩

def mrvS (M : Nat → Nat → Int32) (j i : Nat) (x : Int32) : Int32 := if x = 0 then (if nI i = nI j then 0 else if M 12 j = -1 then 0 else if M 12 i = M 12 j then (if usM M i ≤ 0 then 0 else 1) else 0) else 1
def mrvF (M : Nat → Nat → Int32) (j i : Nat) : Int32 := itr (mrvS M j) i 0
def reaF (a o c : Nat) (s : VM) (j : Nat) : Int32 × VM :=
  if usM s.2 j ≤ 0 then (if lfM c s.2 j = 0 then (108, s) else if hsM a s.2 j = 0 then (99, (sV s.1 5 (nI (cb (s.2 5) a)), sM s.2 14 (lkA (s.2 5) (s.2 14) a))) else if mrvF s.2 j o = 0 then (98, (sV s.1 5 (nI (cb (s.2 5) a)), sM s.2 14 (lkA (s.2 5) (s.2 14) a))) else (103, (sV s.1 5 (nI (cb (s.2 5) a)), sM s.2 14 (lkA (s.2 5) (s.2 14) a)))) else (117, s)
def mrea (a o c : Nat) (V : Nat → Int32) (M : Nat → Nat → Int32) (x : Int32) : Int32 × VM := if withinV x 0 (nI o - 1) = 0 then (97, (sV V 4 1, M)) else reaF a o c (fdF a o c (sV V 4 0, M)) x.toNatClampNeg
set_option maxHeartbeats 4000000 in
set_option maxRecDepth 100000 in
theorem c_X12_reason (G : jG) (ad : Nat → Nat) (V : Nat → Int32) (M : Nat → Nat → Int32) (t : Int64) (a o c : Nat) (hJ : mJ a o c V M) (hok : V 7 = 0 → fdOK a o c (sV V 4 0, M)) (x : Int32) : jD G 77 yX12_reason wsX12_reason [.ref (ad 0), .int x] (wM G ad V M t) (some (.int (mrea a o c V M x).1)) (wM G ad (mrea a o c V M x).2.1 (mrea a o c V M x).2.2 t) := by
  refine jC.of (maxL := 4) (cc := cX12_reason) (ret := (some .char)) rfl (by decide) [some (.ref (ad 0)), some (.int x), none, none] rfl (Nat.le_of_ble_eq_true rfl) (j_args rfl) (fun X hX => ?_)
  have hJ0 := hJ
  obtain ⟨ha, ha6, hcb, ho2, ho, hc1, hc, hG4⟩ := hJ
  refine j_aload_n hX dX12_reason_0 rfl ?_
  refine j_iload_n hX dX12_reason_1 rfl ?_
  refine j_iconst hX (v := 0) (by decide) dX12_reason_2 ?_
  refine j_aload_n hX dX12_reason_3 rfl ?_
  refine j_getf hX (v := .int (V 2)) dX12_reason_4 fX12_reason_121 0 (wMg0 _ _ _ _ _) rfl ?_
  refine jW.top ho2 ?_
  refine j_iconst hX (v := 1) (by decide) dX12_reason_7 ?_
  refine j_isub hX dX12_reason_8 ?_
  refine j_dS hX (nA := 3) (As := [.int x, .int 0, .int ((nI o) - 1)]) (st := [.ref (ad 0)]) (st' := [.int (withinV x 0 ((nI o) - 1)), .ref (ad 0)]) dX12_reason_9 (c_X12_in G) gX12_reason_X12_in rfl (by decide +kernel) (by decide) (Nat.le_of_ble_eq_true rfl) rfl (Nat.le_of_ble_eq_true rfl) rfl ⟨Nat.le_refl _, Nat.le_refl _⟩ rfl ?_
  refine j_if_eq hX (tgt := 19) dX12_reason_12 (by decide) (fun h12 => ?_) (fun h12 => ?_)
  · refine j_iconst hX (v := 1) (by decide) dX12_reason_19 ?_
    refine j_putf hX (ws' := (wM G ad (sV V 4 1) M t)) dX12_reason_20 fX12_reason_89 0 (wMg0 _ _ _ _ _) (Nat.le_of_ble_eq_true rfl) rfl rfl (wMp0_18 _ _ _ _ _ _) ?_
    refine j_aload_n hX dX12_reason_23 rfl ?_
    refine j_getf hX (v := .int 1) dX12_reason_24 fX12_reason_89 0 (wMg0 _ _ _ _ _) rfl ?_
    refine j_if_le_f hX (tgt := 33) dX12_reason_27 (by decide) (by decide) ?_
    refine j_bipush hX (v := 97) (by decide) dX12_reason_30 ?_
    exact j_zret hX (by decide) dX12_reason_32 (by have e8 : mrea a o c V M x = (97, (sV V 4 1, M)) := if_pos h12; rw [e8]; exact ⟨rfl, rfl⟩)
  · refine j_iconst hX (v := 0) (by decide) dX12_reason_15 ?_
    refine j_goto hX (tgt := 20) dX12_reason_16 (by decide) ?_
    refine j_putf hX (ws' := (wM G ad (sV V 4 0) M t)) dX12_reason_20 fX12_reason_89 0 (wMg0 _ _ _ _ _) (Nat.le_of_ble_eq_true rfl) rfl rfl (wMp0_18 _ _ _ _ _ _) ?_
    refine j_aload_n hX dX12_reason_23 rfl ?_
    refine j_getf hX (v := .int 0) dX12_reason_24 fX12_reason_89 0 (wMg0 _ _ _ _ _) rfl ?_
    refine j_if_le_t hX (tgt := 33) dX12_reason_27 (by decide) (by decide) ?_
    obtain ⟨ex, hx6⟩ := within_eq (Nat.le_trans ho (by decide)) h12
    refine jW.locals (ls' := [some (.ref (ad 0)), some (.int (nI x.toNatClampNeg)), none, none]) (by rw [← ex]) ?_
    refine j_aload_n hX dX12_reason_33 rfl ?_
    refine j_dV hX (nA := 0) (cq := (RX12, TX12, 37)) (As := []) (st := []) (st' := []) (ci := 13) rfl dX12_reason_34 (c_X12_finds G _ (sV V 4 0) M _ a o c hJ0 hok) gX12_reason_X12_finds rfl (by decide +kernel) (q := 0) (wMg0 _ _ _ _ _) (by decide) (Nat.le_of_ble_eq_true rfl) rfl (Nat.le_of_ble_eq_true rfl) rfl ⟨Nat.le_refl _, Nat.le_refl _⟩ rfl ?_
    have hJF := fdF_J (a := a) (o := o) (c := c) (V := sV V 4 0) (M := M) hJ0
    refine j_iconst hX (v := 0) (by decide) dX12_reason_37 ?_
    refine j_istore_n hX (ls' := [some (.ref (ad 0)), some (.int (nI x.toNatClampNeg)), some (.int 0), none]) dX12_reason_38 (Nat.le_of_ble_eq_true rfl) rfl rfl ?_
    refine j_iconst hX (v := 0) (by decide) dX12_reason_39 ?_
    refine j_istore_n hX (ls' := [some (.ref (ad 0)), some (.int (nI x.toNatClampNeg)), some (.int 0), some (.int 0)]) dX12_reason_40 (Nat.le_of_ble_eq_true rfl) rfl rfl ?_
    have L41 : ∀ zi i : Nat, 0 ≤ i → i + zi = o → jW G X 0 0 41 [some (.ref (ad 0)), some (.int (nI x.toNatClampNeg)), some (.int (mrvF (fdF a o c (sV V 4 0, M)).2 x.toNatClampNeg i)), some (.int (nI i))] [] (wM G ad (fdF a o c (sV V 4 0, M)).1 (fdF a o c (sV V 4 0, M)).2 t) := by
      intro zi
      induction zi with
      | zero =>
        intro i h0 hi
        have hin : i = o := by omega
        refine j_iload_n hX dX12_reason_41 rfl ?_
        refine j_aload_n hX dX12_reason_42 rfl ?_
        refine j_getf hX (v := .int ((fdF a o c (sV V 4 0, M)).1 2)) dX12_reason_43 fX12_reason_121 0 (wMg0 _ _ _ _ _) rfl ?_
        refine jW.top hJF.2.2.2.1 ?_
        refine j_icmp_ge_t hX (tgt := 103) dX12_reason_46 (by decide) (by rw [hin]; exact nI_le (Nat.le_refl _) (by omega)) ?_
        refine jW.drop (ls' := [some (.ref (ad 0)), some (.int (nI x.toNatClampNeg)), some (.int (mrvF (fdF a o c (sV V 4 0, M)).2 x.toNatClampNeg i)), none]) ⟨Or.inr rfl, Or.inr rfl, Or.inr rfl, Or.inl rfl, trivial⟩ ?_
        refine jW.locals (ls' := [some (.ref (ad 0)), some (.int (nI x.toNatClampNeg)), some (.int (mrvF (fdF a o c (sV V 4 0, M)).2 x.toNatClampNeg o)), none]) (by rw [hin]) ?_
        refine j_aload_n hX dX12_reason_103 rfl ?_
        refine j_iload_n hX dX12_reason_104 rfl ?_
        refine j_dV hX (nA := 1) (cq := (RX12, TX12, 37)) (As := [.int (nI x.toNatClampNeg)]) (st := []) (st' := [.int (usM ((fdF a o c (sV V 4 0, M)).2) x.toNatClampNeg)]) (ci := 13) rfl dX12_reason_105 (c_X12_usesOf G _ ((fdF a o c (sV V 4 0, M)).1) ((fdF a o c (sV V 4 0, M)).2) _ x.toNatClampNeg (by omega)) gX12_reason_X12_usesOf rfl (by decide +kernel) (q := 0) (wMg0 _ _ _ _ _) (by decide) (Nat.le_of_ble_eq_true rfl) rfl (Nat.le_of_ble_eq_true rfl) rfl ⟨Nat.le_refl _, Nat.le_refl _⟩ rfl ?_
        refine j_if_le hX (tgt := 116) dX12_reason_108 (by decide) (fun h108 => ?_) (fun h108 => ?_)
        · refine j_aload_n hX dX12_reason_116 rfl ?_
          refine j_iload_n hX dX12_reason_117 rfl ?_
          refine j_dV hX (nA := 1) (cq := (RX12, TX12, 37)) (As := [.int (nI x.toNatClampNeg)]) (st := []) (st' := [.int (lfM c ((fdF a o c (sV V 4 0, M)).2) x.toNatClampNeg)]) (ci := 13) rfl dX12_reason_118 (c_X12_leftOf G _ ((fdF a o c (sV V 4 0, M)).1) ((fdF a o c (sV V 4 0, M)).2) _ c hJF.2.2.2.2.2.1 hc x.toNatClampNeg (by omega)) gX12_reason_X12_leftOf rfl (by decide +kernel) (q := 0) (wMg0 _ _ _ _ _) (by decide) (Nat.le_of_ble_eq_true rfl) rfl (Nat.le_of_ble_eq_true rfl) rfl ⟨Nat.le_refl _, Nat.le_refl _⟩ rfl ?_
          refine j_if_ne hX (tgt := 129) dX12_reason_121 (by decide) (fun h121 => ?_) (fun h121 => ?_)
          · refine j_aload_n hX dX12_reason_129 rfl ?_
            refine j_iload_n hX dX12_reason_130 rfl ?_
            refine j_dV hX (nA := 1) (cq := (RX12, TX12, 37)) (As := [.int (nI x.toNatClampNeg)]) (st := []) (st' := [.int (hsM a ((fdF a o c (sV V 4 0, M)).2) x.toNatClampNeg)]) (ci := 13) rfl dX12_reason_131 (c_X12_hasItems G _ ((fdF a o c (sV V 4 0, M)).1) ((fdF a o c (sV V 4 0, M)).2) _ a o c hJF x.toNatClampNeg (by omega)) gX12_reason_X12_hasItems rfl (by decide +kernel) (q := 0) (wMg0 _ _ _ _ _) (by decide) (Nat.le_of_ble_eq_true rfl) rfl (Nat.le_of_ble_eq_true rfl) rfl ⟨Nat.le_refl _, Nat.le_refl _⟩ rfl ?_
            refine j_if_ne hX (tgt := 142) dX12_reason_134 (by decide) (fun h134 => ?_) (fun h134 => ?_)
            · refine j_iload_n hX dX12_reason_142 rfl ?_
              refine j_if_eq hX (tgt := 151) dX12_reason_143 (by decide) (fun h143 => ?_) (fun h143 => ?_)
              · refine j_bipush hX (v := 98) (by decide) dX12_reason_151 ?_
                exact j_zret hX (by decide) dX12_reason_153 (by have e8 : mrea a o c V M x = (98, ((sV (fdF a o c (sV V 4 0, M)).1 5 (nI (cb ((fdF a o c (sV V 4 0, M)).2 5) a))), (sM (fdF a o c (sV V 4 0, M)).2 14 (lkA ((fdF a o c (sV V 4 0, M)).2 5) ((fdF a o c (sV V 4 0, M)).2 14) a)))) := (((((if_neg h12).trans (if_pos h108)).trans (if_neg h121)).trans (if_neg h134)).trans (if_pos h143)); rw [e8]; exact ⟨rfl, rfl⟩)
              · refine j_bipush hX (v := 103) (by decide) dX12_reason_146 ?_
                refine j_goto hX (tgt := 153) dX12_reason_148 (by decide) ?_
                exact j_zret hX (by decide) dX12_reason_153 (by have e8 : mrea a o c V M x = (103, ((sV (fdF a o c (sV V 4 0, M)).1 5 (nI (cb ((fdF a o c (sV V 4 0, M)).2 5) a))), (sM (fdF a o c (sV V 4 0, M)).2 14 (lkA ((fdF a o c (sV V 4 0, M)).2 5) ((fdF a o c (sV V 4 0, M)).2 14) a)))) := (((((if_neg h12).trans (if_pos h108)).trans (if_neg h121)).trans (if_neg h134)).trans (if_neg h143)); rw [e8]; exact ⟨rfl, rfl⟩)
            · refine j_bipush hX (v := 99) (by decide) dX12_reason_137 ?_
              refine j_goto hX (tgt := 153) dX12_reason_139 (by decide) ?_
              exact j_zret hX (by decide) dX12_reason_153 (by have e8 : mrea a o c V M x = (99, ((sV (fdF a o c (sV V 4 0, M)).1 5 (nI (cb ((fdF a o c (sV V 4 0, M)).2 5) a))), (sM (fdF a o c (sV V 4 0, M)).2 14 (lkA ((fdF a o c (sV V 4 0, M)).2 5) ((fdF a o c (sV V 4 0, M)).2 14) a)))) := ((((if_neg h12).trans (if_pos h108)).trans (if_neg h121)).trans (if_pos h134)); rw [e8]; exact ⟨rfl, rfl⟩)
          · refine j_bipush hX (v := 108) (by decide) dX12_reason_124 ?_
            refine j_goto hX (tgt := 153) dX12_reason_126 (by decide) ?_
            exact j_zret hX (by decide) dX12_reason_153 (by have e8 : mrea a o c V M x = (108, (fdF a o c (sV V 4 0, M))) := (((if_neg h12).trans (if_pos h108)).trans (if_pos h121)); rw [e8]; exact ⟨rfl, rfl⟩)
        · refine j_bipush hX (v := 117) (by decide) dX12_reason_111 ?_
          refine j_goto hX (tgt := 153) dX12_reason_113 (by decide) ?_
          exact j_zret hX (by decide) dX12_reason_153 (by have e8 : mrea a o c V M x = (117, (fdF a o c (sV V 4 0, M))) := ((if_neg h12).trans (if_neg h108)); rw [e8]; exact ⟨rfl, rfl⟩)
      | succ zi ih =>
        intro i h0 hi
        have hin : i < o := by omega
        refine j_iload_n hX dX12_reason_41 rfl ?_
        refine j_aload_n hX dX12_reason_42 rfl ?_
        refine j_getf hX (v := .int ((fdF a o c (sV V 4 0, M)).1 2)) dX12_reason_43 fX12_reason_121 0 (wMg0 _ _ _ _ _) rfl ?_
        refine jW.top hJF.2.2.2.1 ?_
        refine j_icmp_ge_f hX (tgt := 103) dX12_reason_46 (by decide) (nI_ge hin (by omega)) ?_
        refine j_iload_n hX dX12_reason_49 rfl ?_
        refine j_if_ne hX (tgt := 91) dX12_reason_50 (by decide) (fun h50 => ?_) (fun h50 => ?_)
        · refine j_iconst hX (v := 1) (by decide) dX12_reason_91 ?_
          refine j_goto hX (tgt := 96) dX12_reason_92 (by decide) ?_
          refine j_istore_n hX (ls' := [some (.ref (ad 0)), some (.int (nI x.toNatClampNeg)), some (.int 1), some (.int (nI i))]) dX12_reason_96 (Nat.le_of_ble_eq_true rfl) rfl rfl ?_
          refine j_iinc hX (v := nI (i + 1)) (ls' := [some (.ref (ad 0)), some (.int (nI x.toNatClampNeg)), some (.int 1), some (.int (nI (i + 1)))]) dX12_reason_97 rfl (j_inc1 _) rfl rfl ?_
          refine j_goto hX (tgt := 41) dX12_reason_100 (by decide) ?_
          refine jW.locals (ls' := [some (.ref (ad 0)), some (.int (nI x.toNatClampNeg)), some (.int (mrvF (fdF a o c (sV V 4 0, M)).2 x.toNatClampNeg (i + 1))), some (.int (nI (i + 1)))]) (by rw [show mrvF (fdF a o c (sV V 4 0, M)).2 x.toNatClampNeg (i + 1) = 1 from (if_neg h50)]) ?_
          exact ih (i + 1) (by omega) (by omega)
        · refine j_iload_n hX dX12_reason_53 rfl ?_
          refine j_iload_n hX dX12_reason_54 rfl ?_
          refine j_icmp_eq hX (tgt := 95) dX12_reason_55 (by decide) (fun h55 => ?_) (fun h55 => ?_)
          · refine j_iconst hX (v := 0) (by decide) dX12_reason_95 ?_
            refine j_istore_n hX (ls' := [some (.ref (ad 0)), some (.int (nI x.toNatClampNeg)), some (.int 0), some (.int (nI i))]) dX12_reason_96 (Nat.le_of_ble_eq_true rfl) rfl rfl ?_
            refine j_iinc hX (v := nI (i + 1)) (ls' := [some (.ref (ad 0)), some (.int (nI x.toNatClampNeg)), some (.int 0), some (.int (nI (i + 1)))]) dX12_reason_97 rfl (j_inc1 _) rfl rfl ?_
            refine j_goto hX (tgt := 41) dX12_reason_100 (by decide) ?_
            refine jW.locals (ls' := [some (.ref (ad 0)), some (.int (nI x.toNatClampNeg)), some (.int (mrvF (fdF a o c (sV V 4 0, M)).2 x.toNatClampNeg (i + 1))), some (.int (nI (i + 1)))]) (by rw [show mrvF (fdF a o c (sV V 4 0, M)).2 x.toNatClampNeg (i + 1) = 0 from ((if_pos h50).trans (if_pos h55))]) ?_
            exact ih (i + 1) (by omega) (by omega)
          · refine j_aload_n hX dX12_reason_58 rfl ?_
            refine j_getf hX (v := .ref (ad 12)) dX12_reason_59 fX12_reason_44 0 (wMg0 _ _ _ _ _) rfl ?_
            refine j_iload_n hX dX12_reason_62 rfl ?_
            refine j_iald hX (v := ((fdF a o c (sV V 4 0, M)).2 12) x.toNatClampNeg) dX12_reason_63 12 (wMg12 _ _ _ _ _) (nI_in (by omega) (by decide)) (rdc (by omega)) ?_
            refine j_iconst hX (v := -1) (by decide) dX12_reason_64 ?_
            refine j_icmp_eq hX (tgt := 95) dX12_reason_65 (by decide) (fun h65 => ?_) (fun h65 => ?_)
            · refine j_iconst hX (v := 0) (by decide) dX12_reason_95 ?_
              refine j_istore_n hX (ls' := [some (.ref (ad 0)), some (.int (nI x.toNatClampNeg)), some (.int 0), some (.int (nI i))]) dX12_reason_96 (Nat.le_of_ble_eq_true rfl) rfl rfl ?_
              refine j_iinc hX (v := nI (i + 1)) (ls' := [some (.ref (ad 0)), some (.int (nI x.toNatClampNeg)), some (.int 0), some (.int (nI (i + 1)))]) dX12_reason_97 rfl (j_inc1 _) rfl rfl ?_
              refine j_goto hX (tgt := 41) dX12_reason_100 (by decide) ?_
              refine jW.locals (ls' := [some (.ref (ad 0)), some (.int (nI x.toNatClampNeg)), some (.int (mrvF (fdF a o c (sV V 4 0, M)).2 x.toNatClampNeg (i + 1))), some (.int (nI (i + 1)))]) (by rw [show mrvF (fdF a o c (sV V 4 0, M)).2 x.toNatClampNeg (i + 1) = 0 from (((if_pos h50).trans (if_neg h55)).trans (if_pos h65))]) ?_
              exact ih (i + 1) (by omega) (by omega)
            · refine j_aload_n hX dX12_reason_68 rfl ?_
              refine j_getf hX (v := .ref (ad 12)) dX12_reason_69 fX12_reason_44 0 (wMg0 _ _ _ _ _) rfl ?_
              refine j_iload_n hX dX12_reason_72 rfl ?_
              refine j_iald hX (v := ((fdF a o c (sV V 4 0, M)).2 12) i) dX12_reason_73 12 (wMg12 _ _ _ _ _) (nI_in (by omega) (by decide)) (rdc (by omega)) ?_
              refine j_aload_n hX dX12_reason_74 rfl ?_
              refine j_getf hX (v := .ref (ad 12)) dX12_reason_75 fX12_reason_44 0 (wMg0 _ _ _ _ _) rfl ?_
              refine j_iload_n hX dX12_reason_78 rfl ?_
              refine j_iald hX (v := ((fdF a o c (sV V 4 0, M)).2 12) x.toNatClampNeg) dX12_reason_79 12 (wMg12 _ _ _ _ _) (nI_in (by omega) (by decide)) (rdc (by omega)) ?_
              refine j_icmp_ne hX (tgt := 95) dX12_reason_80 (by decide) (fun h80 => ?_) (fun h80 => ?_)
              · refine j_iconst hX (v := 0) (by decide) dX12_reason_95 ?_
                refine j_istore_n hX (ls' := [some (.ref (ad 0)), some (.int (nI x.toNatClampNeg)), some (.int 0), some (.int (nI i))]) dX12_reason_96 (Nat.le_of_ble_eq_true rfl) rfl rfl ?_
                refine j_iinc hX (v := nI (i + 1)) (ls' := [some (.ref (ad 0)), some (.int (nI x.toNatClampNeg)), some (.int 0), some (.int (nI (i + 1)))]) dX12_reason_97 rfl (j_inc1 _) rfl rfl ?_
                refine j_goto hX (tgt := 41) dX12_reason_100 (by decide) ?_
                refine jW.locals (ls' := [some (.ref (ad 0)), some (.int (nI x.toNatClampNeg)), some (.int (mrvF (fdF a o c (sV V 4 0, M)).2 x.toNatClampNeg (i + 1))), some (.int (nI (i + 1)))]) (by rw [show mrvF (fdF a o c (sV V 4 0, M)).2 x.toNatClampNeg (i + 1) = 0 from ((((if_pos h50).trans (if_neg h55)).trans (if_neg h65)).trans (if_neg h80))]) ?_
                exact ih (i + 1) (by omega) (by omega)
              · refine j_aload_n hX dX12_reason_83 rfl ?_
                refine j_iload_n hX dX12_reason_84 rfl ?_
                refine j_dV hX (nA := 1) (cq := (RX12, TX12, 37)) (As := [.int (nI i)]) (st := []) (st' := [.int (usM ((fdF a o c (sV V 4 0, M)).2) i)]) (ci := 13) rfl dX12_reason_85 (c_X12_usesOf G _ ((fdF a o c (sV V 4 0, M)).1) ((fdF a o c (sV V 4 0, M)).2) _ i (by omega)) gX12_reason_X12_usesOf rfl (by decide +kernel) (q := 0) (wMg0 _ _ _ _ _) (by decide) (Nat.le_of_ble_eq_true rfl) rfl (Nat.le_of_ble_eq_true rfl) rfl ⟨Nat.le_refl _, Nat.le_refl _⟩ rfl ?_
                refine j_if_le hX (tgt := 95) dX12_reason_88 (by decide) (fun h88 => ?_) (fun h88 => ?_)
                · refine j_iconst hX (v := 0) (by decide) dX12_reason_95 ?_
                  refine j_istore_n hX (ls' := [some (.ref (ad 0)), some (.int (nI x.toNatClampNeg)), some (.int 0), some (.int (nI i))]) dX12_reason_96 (Nat.le_of_ble_eq_true rfl) rfl rfl ?_
                  refine j_iinc hX (v := nI (i + 1)) (ls' := [some (.ref (ad 0)), some (.int (nI x.toNatClampNeg)), some (.int 0), some (.int (nI (i + 1)))]) dX12_reason_97 rfl (j_inc1 _) rfl rfl ?_
                  refine j_goto hX (tgt := 41) dX12_reason_100 (by decide) ?_
                  refine jW.locals (ls' := [some (.ref (ad 0)), some (.int (nI x.toNatClampNeg)), some (.int (mrvF (fdF a o c (sV V 4 0, M)).2 x.toNatClampNeg (i + 1))), some (.int (nI (i + 1)))]) (by rw [show mrvF (fdF a o c (sV V 4 0, M)).2 x.toNatClampNeg (i + 1) = 0 from (((((if_pos h50).trans (if_neg h55)).trans (if_neg h65)).trans (if_pos h80)).trans (if_pos h88))]) ?_
                  exact ih (i + 1) (by omega) (by omega)
                · refine j_iconst hX (v := 1) (by decide) dX12_reason_91 ?_
                  refine j_goto hX (tgt := 96) dX12_reason_92 (by decide) ?_
                  refine j_istore_n hX (ls' := [some (.ref (ad 0)), some (.int (nI x.toNatClampNeg)), some (.int 1), some (.int (nI i))]) dX12_reason_96 (Nat.le_of_ble_eq_true rfl) rfl rfl ?_
                  refine j_iinc hX (v := nI (i + 1)) (ls' := [some (.ref (ad 0)), some (.int (nI x.toNatClampNeg)), some (.int 1), some (.int (nI (i + 1)))]) dX12_reason_97 rfl (j_inc1 _) rfl rfl ?_
                  refine j_goto hX (tgt := 41) dX12_reason_100 (by decide) ?_
                  refine jW.locals (ls' := [some (.ref (ad 0)), some (.int (nI x.toNatClampNeg)), some (.int (mrvF (fdF a o c (sV V 4 0, M)).2 x.toNatClampNeg (i + 1))), some (.int (nI (i + 1)))]) (by rw [show mrvF (fdF a o c (sV V 4 0, M)).2 x.toNatClampNeg (i + 1) = 1 from (((((if_pos h50).trans (if_neg h55)).trans (if_neg h65)).trans (if_pos h80)).trans (if_neg h88))]) ?_
                  exact ih (i + 1) (by omega) (by omega)
    exact L41 o 0 (Nat.le_refl _) (by omega)

