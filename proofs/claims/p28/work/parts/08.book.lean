theorem fX6_isFull_30 : jF wsX6_isFull RX6 30 7 5 false .int := ⟨(RX6, TX6, 6), tyX6, rfl, by decide, by decide +kernel, by decide +kernel, tyX6_ok, nmX6, rfl, by decide +kernel, fun h => by cases h⟩
theorem fX6_size_30 : jF wsX6_size RX6 30 7 5 false .int := ⟨(RX6, TX6, 6), tyX6, rfl, by decide, by decide +kernel, by decide +kernel, tyX6_ok, nmX6, rfl, by decide +kernel, fun h => by cases h⟩
theorem fX6_has_30 : jF wsX6_has RX6 30 7 5 false .int := ⟨(RX6, TX6, 6), tyX6, rfl, by decide, by decide +kernel, by decide +kernel, tyX6_ok, nmX6, rfl, by decide +kernel, fun h => by cases h⟩
theorem fX6_rivalsOf_17 : jF wsX6_rivalsOf RX6 17 7 1 true (.array .int) := ⟨(RX6, TX6, 6), tyX6, rfl, by decide, by decide +kernel, by decide +kernel, tyX6_ok, nmX6, rfl, by decide +kernel, by decide +kernel⟩
theorem fX6_amountOf_24 : jF wsX6_amountOf RX6 24 7 3 true (.array .int) := ⟨(RX6, TX6, 6), tyX6, rfl, by decide, by decide +kernel, by decide +kernel, tyX6_ok, nmX6, rfl, by decide +kernel, by decide +kernel⟩
theorem fX6_isReachedBy_21 : jF wsX6_isReachedBy RX6 21 7 2 true (.array .int) := ⟨(RX6, TX6, 6), tyX6, rfl, by decide, by decide +kernel, by decide +kernel, tyX6_ok, nmX6, rfl, by decide +kernel, by decide +kernel⟩
theorem fX6_entryOf_11 : jF wsX6_entryOf RX6 11 7 0 true (.array (.object "BasketOffers$Offer")) := ⟨(RX6, TX6, 6), tyX6, rfl, by decide, by decide +kernel, by decide +kernel, tyX6_ok, nmX6, rfl, by decide +kernel, by decide +kernel⟩
theorem fX6_leftFor_27 : jF wsX6_leftFor RX6 27 7 4 true (.array .int) := ⟨(RX6, TX6, 6), tyX6, rfl, by decide, by decide +kernel, by decide +kernel, tyX6_ok, nmX6, rfl, by decide +kernel, by decide +kernel⟩
theorem fX6_countUses_27 : jF wsX6_countUses RX6 27 7 4 true (.array .int) := ⟨(RX6, TX6, 6), tyX6, rfl, by decide, by decide +kernel, by decide +kernel, tyX6_ok, nmX6, rfl, by decide +kernel, by decide +kernel⟩
set_option maxHeartbeats 4000000 in
set_option maxRecDepth 100000 in
theorem c_X6_isFull (G : jG) (ad : Nat → Nat) (V : Nat → Int32) (M : Nat → Nat → Int32) (en : Nat → Option Nat) (wo : va_W) : jD G 0 yX6_isFull wsX6_isFull [.ref (ad 5)] (wC G ad V M en wo) (some (.int (if V 4 < 6 then 0 else 1))) (wC G ad V M en wo) := by
  refine jC.of (maxL := 1) (cc := cX6_isFull) (ret := (some .boolean)) rfl (by decide) [some (.ref (ad 5))] rfl (Nat.le_of_ble_eq_true rfl) (j_args rfl) (fun X hX => ?_)
  refine j_aload_n hX dX6_isFull_0 rfl ?_
  refine j_getf hX (v := .int (V 4)) dX6_isFull_1 fX6_isFull_30 5 (wCg5 _ _ _ _ _ _) rfl ?_
  refine j_bipush hX (v := 6) (by decide) dX6_isFull_4 ?_
  refine j_icmp_lt hX (tgt := 13) dX6_isFull_6 (by decide) (fun h6 => ?_) (fun h6 => ?_)
  · refine j_iconst hX (v := 0) (by decide) dX6_isFull_13 ?_
    exact j_zret hX (by decide) dX6_isFull_14 ⟨(congrArg (fun z => some (Value.int z)) (if_pos h6)).symm, rfl⟩
  · refine j_iconst hX (v := 1) (by decide) dX6_isFull_9 ?_
    refine j_goto hX (tgt := 14) dX6_isFull_10 (by decide) ?_
    exact j_zret hX (by decide) dX6_isFull_14 ⟨(congrArg (fun z => some (Value.int z)) (if_neg h6)).symm, rfl⟩

set_option maxHeartbeats 4000000 in
set_option maxRecDepth 100000 in
theorem c_X6_size (G : jG) (ad : Nat → Nat) (V : Nat → Int32) (M : Nat → Nat → Int32) (en : Nat → Option Nat) (wo : va_W) : jD G 0 yX6_size wsX6_size [.ref (ad 5)] (wC G ad V M en wo) (some (.int (V 4))) (wC G ad V M en wo) := by
  refine jC.of (maxL := 1) (cc := cX6_size) (ret := (some .int)) rfl (by decide) [some (.ref (ad 5))] rfl (Nat.le_of_ble_eq_true rfl) (j_args rfl) (fun X hX => ?_)
  refine j_aload_n hX dX6_size_0 rfl ?_
  refine j_getf hX (v := .int (V 4)) dX6_size_1 fX6_size_30 5 (wCg5 _ _ _ _ _ _) rfl ?_
  exact j_iret hX dX6_size_4 ⟨rfl, rfl⟩

set_option maxHeartbeats 4000000 in
set_option maxRecDepth 100000 in
theorem c_X6_has (G : jG) (ad : Nat → Nat) (V : Nat → Int32) (M : Nat → Nat → Int32) (en : Nat → Option Nat) (wo : va_W) (x : Int32) : jD G 0 yX6_has wsX6_has [.ref (ad 5), .int x] (wC G ad V M en wo) (some (.int (if x < 0 then 0 else if V 4 ≤ x then 0 else 1))) (wC G ad V M en wo) := by
  refine jC.of (maxL := 2) (cc := cX6_has) (ret := (some .boolean)) rfl (by decide) [some (.ref (ad 5)), some (.int x)] rfl (Nat.le_of_ble_eq_true rfl) (j_args rfl) (fun X hX => ?_)
  refine j_iload_n hX dX6_has_0 rfl ?_
  refine j_if_lt hX (tgt := 16) dX6_has_1 (by decide) (fun h1 => ?_) (fun h1 => ?_)
  · refine j_iconst hX (v := 0) (by decide) dX6_has_16 ?_
    exact j_zret hX (by decide) dX6_has_17 ⟨(congrArg (fun z => some (Value.int z)) (if_pos h1)).symm, rfl⟩
  · refine j_iload_n hX dX6_has_4 rfl ?_
    refine j_aload_n hX dX6_has_5 rfl ?_
    refine j_getf hX (v := .int (V 4)) dX6_has_6 fX6_has_30 5 (wCg5 _ _ _ _ _ _) rfl ?_
    refine j_icmp_ge hX (tgt := 16) dX6_has_9 (by decide) (fun h9 => ?_) (fun h9 => ?_)
    · refine j_iconst hX (v := 0) (by decide) dX6_has_16 ?_
      exact j_zret hX (by decide) dX6_has_17 ⟨(congrArg (fun z => some (Value.int z)) ((if_neg h1).trans (if_pos h9))).symm, rfl⟩
    · refine j_iconst hX (v := 1) (by decide) dX6_has_12 ?_
      refine j_goto hX (tgt := 17) dX6_has_13 (by decide) ?_
      exact j_zret hX (by decide) dX6_has_17 ⟨(congrArg (fun z => some (Value.int z)) ((if_neg h1).trans (if_neg h9))).symm, rfl⟩

set_option maxHeartbeats 4000000 in
set_option maxRecDepth 100000 in
theorem c_X6_rivalsOf (G : jG) (ad : Nat → Nat) (V : Nat → Int32) (M : Nat → Nat → Int32) (en : Nat → Option Nat) (wo : va_W) (x : Int32) : jD G 1 yX6_rivalsOf wsX6_rivalsOf [.ref (ad 5), .int x] (wC G ad V M en wo) (some (.int (atF 6 (M 7) x))) (wC G ad V M en wo) := by
  refine jC.of (maxL := 2) (cc := cX6_rivalsOf) (ret := (some .int)) rfl (by decide) [some (.ref (ad 5)), some (.int x)] rfl (Nat.le_of_ble_eq_true rfl) (j_args rfl) (fun X hX => ?_)
  refine j_aload_n hX dX6_rivalsOf_0 rfl ?_
  refine j_getf hX (v := .ref (ad 7)) dX6_rivalsOf_1 fX6_rivalsOf_17 5 (wCg5 _ _ _ _ _ _) rfl ?_
  refine j_iload_n hX dX6_rivalsOf_4 rfl ?_
  refine j_dSN hX (nA := 2) (As := [.ref (ad 7), .int x]) (st := []) (st' := [.int (atF 6 (M 7) x)]) dX6_rivalsOf_5 (c_at G (q := 7) (wCg7 _ _ _ _ _ _) (by decide)) gX6_rivalsOf_X11_at_n38 rfl (by decide +kernel) (host := "BasketOffers") (by decide +kernel) (by decide +kernel) (by decide +kernel) (by omega) (Nat.le_of_ble_eq_true rfl) rfl (Nat.le_of_ble_eq_true rfl) rfl ⟨Nat.le_refl _, Nat.le_refl _⟩ rfl ?_
  exact j_iret hX dX6_rivalsOf_8 ⟨rfl, rfl⟩

set_option maxHeartbeats 4000000 in
set_option maxRecDepth 100000 in
theorem c_X6_amountOf (G : jG) (ad : Nat → Nat) (V : Nat → Int32) (M : Nat → Nat → Int32) (en : Nat → Option Nat) (wo : va_W) (x : Int32) : jD G 1 yX6_amountOf wsX6_amountOf [.ref (ad 5), .int x] (wC G ad V M en wo) (some (.int (atF 6 (M 9) x))) (wC G ad V M en wo) := by
  refine jC.of (maxL := 2) (cc := cX6_amountOf) (ret := (some .int)) rfl (by decide) [some (.ref (ad 5)), some (.int x)] rfl (Nat.le_of_ble_eq_true rfl) (j_args rfl) (fun X hX => ?_)
  refine j_aload_n hX dX6_amountOf_0 rfl ?_
  refine j_getf hX (v := .ref (ad 9)) dX6_amountOf_1 fX6_amountOf_24 5 (wCg5 _ _ _ _ _ _) rfl ?_
  refine j_iload_n hX dX6_amountOf_4 rfl ?_
  refine j_dSN hX (nA := 2) (As := [.ref (ad 9), .int x]) (st := []) (st' := [.int (atF 6 (M 9) x)]) dX6_amountOf_5 (c_at G (q := 9) (wCg9 _ _ _ _ _ _) (by decide)) gX6_amountOf_X11_at_n38 rfl (by decide +kernel) (host := "BasketOffers") (by decide +kernel) (by decide +kernel) (by decide +kernel) (by omega) (Nat.le_of_ble_eq_true rfl) rfl (Nat.le_of_ble_eq_true rfl) rfl ⟨Nat.le_refl _, Nat.le_refl _⟩ rfl ?_
  exact j_iret hX dX6_amountOf_8 ⟨rfl, rfl⟩

def reachV (f : Nat → Int32) (x rest : Int32) : Int32 := if atF 6 f x ≤ 0 then 0 else if rest < atF 6 f x then 0 else 1
set_option maxHeartbeats 4000000 in
set_option maxRecDepth 100000 in
theorem c_X6_isReachedBy (G : jG) (ad : Nat → Nat) (V : Nat → Int32) (M : Nat → Nat → Int32) (en : Nat → Option Nat) (wo : va_W) (x rest : Int32) : jD G 1 yX6_isReachedBy wsX6_isReachedBy [.ref (ad 5), .int x, .int rest] (wC G ad V M en wo) (some (.int (reachV (M 8) x rest))) (wC G ad V M en wo) := by
  refine jC.of (maxL := 4) (cc := cX6_isReachedBy) (ret := (some .boolean)) rfl (by decide) [some (.ref (ad 5)), some (.int x), some (.int rest), none] rfl (Nat.le_of_ble_eq_true rfl) (j_args rfl) (fun X hX => ?_)
  refine j_aload_n hX dX6_isReachedBy_0 rfl ?_
  refine j_getf hX (v := .ref (ad 8)) dX6_isReachedBy_1 fX6_isReachedBy_21 5 (wCg5 _ _ _ _ _ _) rfl ?_
  refine j_iload_n hX dX6_isReachedBy_4 rfl ?_
  refine j_dSN hX (nA := 2) (As := [.ref (ad 8), .int x]) (st := []) (st' := [.int (atF 6 (M 8) x)]) dX6_isReachedBy_5 (c_at G (q := 8) (wCg8 _ _ _ _ _ _) (by decide)) gX6_isReachedBy_X11_at_n38 rfl (by decide +kernel) (host := "BasketOffers") (by decide +kernel) (by decide +kernel) (by decide +kernel) (by omega) (Nat.le_of_ble_eq_true rfl) rfl (Nat.le_of_ble_eq_true rfl) rfl ⟨Nat.le_refl _, Nat.le_refl _⟩ rfl ?_
  refine j_istore_n hX (ls' := [some (.ref (ad 5)), some (.int x), some (.int rest), some (.int (atF 6 (M 8) x))]) dX6_isReachedBy_8 (Nat.le_of_ble_eq_true rfl) rfl rfl ?_
  refine j_iload_n hX dX6_isReachedBy_9 rfl ?_
  refine j_if_le hX (tgt := 22) dX6_isReachedBy_10 (by decide) (fun h10 => ?_) (fun h10 => ?_)
  · refine j_iconst hX (v := 0) (by decide) dX6_isReachedBy_22 ?_
    exact j_zret hX (by decide) dX6_isReachedBy_23 ⟨(congrArg (fun z => some (Value.int z)) (if_pos h10)).symm, rfl⟩
  · refine j_iload_n hX dX6_isReachedBy_13 rfl ?_
    refine j_iload_n hX dX6_isReachedBy_14 rfl ?_
    refine j_icmp_lt hX (tgt := 22) dX6_isReachedBy_15 (by decide) (fun h15 => ?_) (fun h15 => ?_)
    · refine j_iconst hX (v := 0) (by decide) dX6_isReachedBy_22 ?_
      exact j_zret hX (by decide) dX6_isReachedBy_23 ⟨(congrArg (fun z => some (Value.int z)) ((if_neg h10).trans (if_pos h15))).symm, rfl⟩
    · refine j_iconst hX (v := 1) (by decide) dX6_isReachedBy_18 ?_
      refine j_goto hX (tgt := 23) dX6_isReachedBy_19 (by decide) ?_
      exact j_zret hX (by decide) dX6_isReachedBy_23 ⟨(congrArg (fun z => some (Value.int z)) ((if_neg h10).trans (if_neg h15))).symm, rfl⟩

def entF (en : Nat → Option Nat) (x : Int32) : Option Nat := if x < 0 then none else if 6 ≤ x then none else en x.toNatClampNeg
set_option maxHeartbeats 4000000 in
set_option maxRecDepth 100000 in
theorem c_X6_entryOf (G : jG) (ad : Nat → Nat) (V : Nat → Int32) (M : Nat → Nat → Int32) (en : Nat → Option Nat) (wo : va_W) (x : Int32) : jD G 0 yX6_entryOf wsX6_entryOf [.ref (ad 5), .int x] (wC G ad V M en wo) (some (va_rf (entF en x))) (wC G ad V M en wo) := by
  refine jC.of (maxL := 2) (cc := cX6_entryOf) (ret := (some (.object "BasketOffers$Offer"))) rfl (by decide) [some (.ref (ad 5)), some (.int x)] rfl (Nat.le_of_ble_eq_true rfl) (j_args rfl) (fun X hX => ?_)
  refine j_iload_n hX dX6_entryOf_0 rfl ?_
  refine j_if_lt hX (tgt := 22) dX6_entryOf_1 (by decide) (fun h1 => ?_) (fun h1 => ?_)
  · refine j_null hX dX6_entryOf_22 ?_
    exact j_aret hX (Or.inl ⟨_, rfl⟩) (Or.inl rfl) dX6_entryOf_23 ⟨(congrArg (fun z => some (va_rf z)) (show entF en x = none from (if_pos h1))).symm, rfl⟩
  · refine j_iload_n hX dX6_entryOf_4 rfl ?_
    refine j_aload_n hX dX6_entryOf_5 rfl ?_
    refine j_getf hX (v := .ref (ad 6)) dX6_entryOf_6 fX6_entryOf_11 5 (wCg5 _ _ _ _ _ _) rfl ?_
    refine j_alen hX (v := 6) dX6_entryOf_9 6 rfl 3 rfl rfl ?_
    refine j_icmp_ge hX (tgt := 22) dX6_entryOf_10 (by decide) (fun h10 => ?_) (fun h10 => ?_)
    · refine j_null hX dX6_entryOf_22 ?_
      exact j_aret hX (Or.inl ⟨_, rfl⟩) (Or.inl rfl) dX6_entryOf_23 ⟨(congrArg (fun z => some (va_rf z)) (show entF en x = none from ((if_neg h1).trans (if_pos h10)))).symm, rfl⟩
    · refine j_aload_n hX dX6_entryOf_13 rfl ?_
      refine j_getf hX (v := .ref (ad 6)) dX6_entryOf_14 fX6_entryOf_11 5 (wCg5 _ _ _ _ _ _) rfl ?_
      refine j_iload_n hX dX6_entryOf_17 rfl ?_
      refine j_aald hX (v := va_rf (en x.toNatClampNeg)) dX6_entryOf_18 6 (wCg6 _ _ _ _ _ _) (vp_in_of2 h1 h10 (by decide)) rfl ?_
      refine j_goto hX (tgt := 23) dX6_entryOf_19 (by decide) ?_
      exact j_aret hX (Or.inl ⟨_, rfl⟩) (va_rf_or _) dX6_entryOf_23 ⟨(congrArg (fun z => some (va_rf z)) (show entF en x = en x.toNatClampNeg from ((if_neg h1).trans (if_neg h10)))).symm, rfl⟩

theorem entO_some {ad : Nat → Nat} {o j : Nat} (h : j < o) (ho : o ≤ 6) : entF (enO ad o) (nI j) = some (ad (30 + j)) := by
  rw [entF, if_neg (nI_pos (by omega)), if_neg (show ¬ (6 : Int32) ≤ nI j from nI_ge (a := j) (b := 6) (by omega) (by decide)), nI_clamp (by omega), enO, if_pos h]
theorem entO_none {ad : Nat → Nat} {o j : Nat} (h : o ≤ j) (hj : j < 2 ^ 31) : entF (enO ad o) (nI j) = none := by
  rw [entF, if_neg (nI_pos hj)]
  by_cases h6 : (6 : Int32) ≤ nI j
  · rw [if_pos h6]
  · rw [if_neg h6, nI_clamp hj, enO, if_neg (by omega)]
theorem c_entry_some (G : jG) (ad : Nat → Nat) (V : Nat → Int32) (M : Nat → Nat → Int32) (os : Nat → ofr) (o : Nat) (j : Nat) (hj : j < o) (ho : o ≤ 6) : jD G 0 yX6_entryOf wsX6_entryOf [.ref (ad 5), .int (nI j)] (wC G ad V M (enO ad o) (wO ad os o)) (some (.ref (ad (30 + j)))) (wC G ad V M (enO ad o) (wO ad os o)) := by
  have h := c_X6_entryOf G ad V M (enO ad o) (wO ad os o) (nI j)
  rwa [entO_some hj ho] at h
theorem c_entry_none (G : jG) (ad : Nat → Nat) (V : Nat → Int32) (M : Nat → Nat → Int32) (os : Nat → ofr) (o : Nat) (j : Nat) (hj : o ≤ j) (h31 : j < 2 ^ 31) : jD G 0 yX6_entryOf wsX6_entryOf [.ref (ad 5), .int (nI j)] (wC G ad V M (enO ad o) (wO ad os o)) (some .null) (wC G ad V M (enO ad o) (wO ad os o)) := by
  have h := c_X6_entryOf G ad V M (enO ad o) (wO ad os o) (nI j)
  rwa [entO_none hj h31] at h
set_option maxRecDepth 100000 in
theorem vX6_leftFor_15 {G : jG} {X : jX} {ret : Option FieldType} {nL d mc ms k n0 : Nat} {post : Option Value → va_W → Prop} {ls : List (Option Value)} {st st' : List Value} {ws : va_W} (hX : jOK G X RX6 cX6_leftFor wsX6_leftFor ret nL d mc ms post) {b q : Nat} {o : ofr} (ho : okO o) (hq : ws[q]? = some (b, cellO o))  (hdd : 1 ≤ d) (hlen : ls.length = nL) (hcat : (st.map fun v => v.category).sum ≤ 8) (hkn : k ≤ mc ∧ n0 ≤ ms) (hst : .int (o.2 0) :: st = st') (kk : jW G X k n0 (15 + 3) ls st' ws) : jW G X k n0 15 ls (.ref b :: st) ws := by
  subst hst
  rcases ho with h | h | h | h
  · exact j_dU hX (nA := 0) (cq := (RX7, TX7, 4)) (As := []) (st := st) (ci := 8) rfl dX6_leftFor_15 (c_X5_limit_X7 G o h hq) gX6_leftFor_X5_limit_u57X7 rfl rfl (by decide +kernel) (cellO_8 h hq) (by omega) (Nat.le_of_ble_eq_true rfl) rfl hcat hlen hkn rfl kk
  · exact j_dU hX (nA := 0) (cq := (RX3, TX3, 4)) (As := []) (st := st) (ci := 5) rfl dX6_leftFor_15 (c_X5_limit_X3 G o h hq) gX6_leftFor_X5_limit_u57X3 rfl rfl (by decide +kernel) (cellO_5 h hq) (by omega) (Nat.le_of_ble_eq_true rfl) rfl hcat hlen hkn rfl kk
  · exact j_dU hX (nA := 0) (cq := (RX2, TX2, 9)) (As := []) (st := st) (ci := 4) rfl dX6_leftFor_15 (c_X5_limit_X2 G o h hq) gX6_leftFor_X5_limit_u57X2 rfl rfl (by decide +kernel) (cellO_4 h hq) (by omega) (Nat.le_of_ble_eq_true rfl) rfl hcat hlen hkn rfl kk
  · exact j_dU hX (nA := 0) (cq := (RX9, TX9, 4)) (As := []) (st := st) (ci := 10) rfl dX6_leftFor_15 (c_X5_limit_X9 G o h hq) gX6_leftFor_X5_limit_u57X9 rfl rfl (by decide +kernel) (cellO_10 h hq) (by omega) (Nat.le_of_ble_eq_true rfl) rfl hcat hlen hkn rfl kk

def leftF (os : Nat → ofr) (o : Nat) (f : Nat → Int32) (c : Int32) (j : Nat) : Int32 := if j < o then (os j).2 0 - atF 24 f (c * 6 + nI j) else 0
set_option maxHeartbeats 4000000 in
set_option maxRecDepth 100000 in
theorem c_leftFor_some (G : jG) (ad : Nat → Nat) (V : Nat → Int32) (M : Nat → Nat → Int32) (os : Nat → ofr) (o : Nat) (c : Int32) (j : Nat) (hj : j < o) (ho6 : o ≤ 6) (hos : ∀ j, j < o → okO (os j)) : jD G 2 yX6_leftFor wsX6_leftFor [.ref (ad 5), .int c, .int (nI j)] (wC G ad V M (enO ad o) (wO ad os o)) (some (.int (leftF os o (M 10) c j))) (wC G ad V M (enO ad o) (wO ad os o)) := by
  refine jC.of (maxL := 4) (cc := cX6_leftFor) (ret := (some .int)) rfl (by decide) [some (.ref (ad 5)), some (.int c), some (.int (nI j)), none] rfl (Nat.le_of_ble_eq_true rfl) (j_args rfl) (fun X hX => ?_)
  refine j_aload_n hX dX6_leftFor_0 rfl ?_
  refine j_iload_n hX dX6_leftFor_1 rfl ?_
  refine j_dV hX (nA := 1) (cq := (RX6, TX6, 6)) (As := [.int (nI j)]) (st := []) (st' := [.ref (ad (30 + j))]) (ci := 7) rfl dX6_leftFor_2 (c_entry_some G _ _ _ _ _ j hj ho6) gX6_leftFor_X6_entryOf rfl (by decide +kernel) (q := 5) (wCg5 _ _ _ _ _ _) (by omega) (Nat.le_of_ble_eq_true rfl) rfl (Nat.le_of_ble_eq_true rfl) rfl ⟨Nat.le_refl _, Nat.le_refl _⟩ rfl ?_
  refine j_astore_n hX (ls' := [some (.ref (ad 5)), some (.int c), some (.int (nI j)), some (.ref (ad (30 + j)))]) dX6_leftFor_5 (Nat.le_of_ble_eq_true rfl) rfl rfl ?_
  refine j_aload_n hX dX6_leftFor_6 rfl ?_
  refine j_ifnonnull hX (tgt := 14) dX6_leftFor_7 (by decide) ?_
  refine j_aload_n hX dX6_leftFor_14 rfl ?_
  refine vX6_leftFor_15 hX (st := []) (st' := [.int ((os j).2 0)]) (hos j hj) (wO_get _ _ _ _ _ _ _ hj)  (by omega) rfl (Nat.le_of_ble_eq_true rfl) ⟨Nat.le_refl _, Nat.le_refl _⟩ rfl ?_
  refine j_aload_n hX dX6_leftFor_18 rfl ?_
  refine j_getf hX (v := .ref (ad 10)) dX6_leftFor_19 fX6_leftFor_27 5 (wCg5 _ _ _ _ _ _) rfl ?_
  refine j_iload_n hX dX6_leftFor_22 rfl ?_
  refine j_bipush hX (v := 6) (by decide) dX6_leftFor_23 ?_
  refine j_imul hX dX6_leftFor_25 ?_
  refine j_iload_n hX dX6_leftFor_26 rfl ?_
  refine j_iadd hX dX6_leftFor_27 ?_
  refine j_dSN hX (nA := 2) (As := [.ref (ad 10), .int ((c * 6) + (nI j))]) (st := [.int ((os j).2 0)]) (st' := [.int (atF 24 (M 10) ((c * 6) + (nI j))), .int ((os j).2 0)]) dX6_leftFor_28 (c_at G (q := 10) (wCg10 _ _ _ _ _ _) (by decide)) gX6_leftFor_X11_at_n38 rfl (by decide +kernel) (host := "BasketOffers") (by decide +kernel) (by decide +kernel) (by decide +kernel) (by omega) (Nat.le_of_ble_eq_true rfl) rfl (Nat.le_of_ble_eq_true rfl) rfl ⟨Nat.le_refl _, Nat.le_refl _⟩ rfl ?_
  refine j_isub hX dX6_leftFor_31 ?_
  exact j_iret hX dX6_leftFor_32 ⟨by rw [leftF, if_pos hj], rfl⟩

set_option maxHeartbeats 4000000 in
set_option maxRecDepth 100000 in
theorem c_leftFor_none (G : jG) (ad : Nat → Nat) (V : Nat → Int32) (M : Nat → Nat → Int32) (os : Nat → ofr) (o : Nat) (c : Int32) (j : Nat) (hj : o ≤ j) (h31 : j < 2 ^ 31) : jD G 2 yX6_leftFor wsX6_leftFor [.ref (ad 5), .int c, .int (nI j)] (wC G ad V M (enO ad o) (wO ad os o)) (some (.int (leftF os o (M 10) c j))) (wC G ad V M (enO ad o) (wO ad os o)) := by
  refine jC.of (maxL := 4) (cc := cX6_leftFor) (ret := (some .int)) rfl (by decide) [some (.ref (ad 5)), some (.int c), some (.int (nI j)), none] rfl (Nat.le_of_ble_eq_true rfl) (j_args rfl) (fun X hX => ?_)
  refine j_aload_n hX dX6_leftFor_0 rfl ?_
  refine j_iload_n hX dX6_leftFor_1 rfl ?_
  refine j_dV hX (nA := 1) (cq := (RX6, TX6, 6)) (As := [.int (nI j)]) (st := []) (st' := [.null]) (ci := 7) rfl dX6_leftFor_2 (c_entry_none G _ _ _ _ _ j hj h31) gX6_leftFor_X6_entryOf rfl (by decide +kernel) (q := 5) (wCg5 _ _ _ _ _ _) (by omega) (Nat.le_of_ble_eq_true rfl) rfl (Nat.le_of_ble_eq_true rfl) rfl ⟨Nat.le_refl _, Nat.le_refl _⟩ rfl ?_
  refine j_astore_nN hX (ls' := [some (.ref (ad 5)), some (.int c), some (.int (nI j)), some (.null)]) dX6_leftFor_5 (Nat.le_of_ble_eq_true rfl) rfl rfl ?_
  refine j_aload_nN hX dX6_leftFor_6 rfl ?_
  refine j_ifnonnullN hX dX6_leftFor_7 ?_
  refine j_iconst hX (v := 0) (by decide) dX6_leftFor_10 ?_
  refine j_goto hX (tgt := 32) dX6_leftFor_11 (by decide) ?_
  exact j_iret hX dX6_leftFor_32 ⟨by rw [leftF, if_neg (by omega)], rfl⟩

theorem c_X6_leftFor (G : jG) (ad : Nat → Nat) (V : Nat → Int32) (M : Nat → Nat → Int32) (os : Nat → ofr) (o : Nat) (c : Int32) (j : Nat) (h31 : j < 2 ^ 31) (ho6 : o ≤ 6) (hos : ∀ j, j < o → okO (os j)) : jD G 2 yX6_leftFor wsX6_leftFor [.ref (ad 5), .int c, .int (nI j)] (wC G ad V M (enO ad o) (wO ad os o)) (some (.int (leftF os o (M 10) c j))) (wC G ad V M (enO ad o) (wO ad os o)) := by
  by_cases h : j < o
  · exact c_leftFor_some G ad V M os o c j h ho6 hos
  · exact c_leftFor_none G ad V M os o c j (by omega) h31
set_option maxHeartbeats 4000000 in
set_option maxRecDepth 100000 in
theorem c_X6_countUses (G : jG) (ad : Nat → Nat) (V : Nat → Int32) (M : Nat → Nat → Int32) (en : Nat → Option Nat) (wo : va_W) (c x t : Int32) : jD G 1 yX6_countUses wsX6_countUses [.ref (ad 5), .int c, .int x, .int t] (wC G ad V M en wo) none (wC G ad V (sM M 10 (setF 24 (M 10) (c * 6 + x) (atF 24 (M 10) (c * 6 + x) + t))) en wo) := by
  refine jC.of (maxL := 5) (cc := cX6_countUses) (ret := none) rfl (by decide) [some (.ref (ad 5)), some (.int c), some (.int x), some (.int t), none] rfl (Nat.le_of_ble_eq_true rfl) (j_args rfl) (fun X hX => ?_)
  refine j_iload_n hX dX6_countUses_0 rfl ?_
  refine j_bipush hX (v := 6) (by decide) dX6_countUses_1 ?_
  refine j_imul hX dX6_countUses_3 ?_
  refine j_iload_n hX dX6_countUses_4 rfl ?_
  refine j_iadd hX dX6_countUses_5 ?_
  refine j_istore hX (ls' := [some (.ref (ad 5)), some (.int c), some (.int x), some (.int t), some (.int ((c * 6) + x))]) dX6_countUses_6 (Nat.le_of_ble_eq_true rfl) rfl rfl ?_
  refine j_aload_n hX dX6_countUses_8 rfl ?_
  refine j_getf hX (v := .ref (ad 10)) dX6_countUses_9 fX6_countUses_27 5 (wCg5 _ _ _ _ _ _) rfl ?_
  refine j_iload hX dX6_countUses_12 rfl ?_
  refine j_aload_n hX dX6_countUses_14 rfl ?_
  refine j_getf hX (v := .ref (ad 10)) dX6_countUses_15 fX6_countUses_27 5 (wCg5 _ _ _ _ _ _) rfl ?_
  refine j_iload hX dX6_countUses_18 rfl ?_
  refine j_dSN hX (nA := 2) (As := [.ref (ad 10), .int ((c * 6) + x)]) (st := [.int ((c * 6) + x), .ref (ad 10)]) (st' := [.int (atF 24 (M 10) ((c * 6) + x)), .int ((c * 6) + x), .ref (ad 10)]) dX6_countUses_20 (c_at G (q := 10) (wCg10 _ _ _ _ _ _) (by decide)) gX6_countUses_X11_at_n38 rfl (by decide +kernel) (host := "BasketOffers") (by decide +kernel) (by decide +kernel) (by decide +kernel) (by omega) (Nat.le_of_ble_eq_true rfl) rfl (Nat.le_of_ble_eq_true rfl) rfl ⟨Nat.le_refl _, Nat.le_refl _⟩ rfl ?_
  refine j_iload_n hX dX6_countUses_23 rfl ?_
  refine j_iadd hX dX6_countUses_24 ?_
  refine j_dSN hX (nA := 3) (As := [.ref (ad 10), .int ((c * 6) + x), .int ((atF 24 (M 10) ((c * 6) + x)) + t)]) (st := []) (st' := []) dX6_countUses_25 (c_setAt G (q := 10) (wCg10 _ _ _ _ _ _) (by decide) (wCp10 _ _ _ _ _ _ _)) gX6_countUses_X11_setAt_n42 rfl (by decide +kernel) (host := "BasketOffers") (by decide +kernel) (by decide +kernel) (by decide +kernel) (by omega) (Nat.le_of_ble_eq_true rfl) rfl (Nat.le_of_ble_eq_true rfl) rfl ⟨Nat.le_refl _, Nat.le_refl _⟩ rfl ?_
  exact j_vret hX dX6_countUses_28 ⟨rfl, rfl⟩

