theorem fX8_maskOf_12 : jF wsX8_maskOf RX8 12 9 2 true (.object "BasketOffers$UseList") := ⟨(RX8, TX8, 12), tyX8, rfl, by decide, by decide +kernel, by decide +kernel, tyX8_ok, nmX8, rfl, by decide +kernel, by decide +kernel⟩
theorem fX8_discountOf_12 : jF wsX8_discountOf RX8 12 9 2 true (.object "BasketOffers$UseList") := ⟨(RX8, TX8, 12), tyX8, rfl, by decide, by decide +kernel, by decide +kernel, tyX8_ok, nmX8, rfl, by decide +kernel, by decide +kernel⟩
theorem fX8_discount_79 : jF wsX8_discount RX8 79 9 9 false .int := ⟨(RX8, TX8, 12), tyX8, rfl, by decide, by decide +kernel, by decide +kernel, tyX8_ok, nmX8, rfl, by decide +kernel, fun h => by cases h⟩
theorem fX8_thresholdDiscount_146 : jF wsX8_thresholdDiscount RX8 146 9 8 false .int := ⟨(RX8, TX8, 12), tyX8, rfl, by decide, by decide +kernel, by decide +kernel, tyX8_ok, nmX8, rfl, by decide +kernel, fun h => by cases h⟩
theorem fX8_useFrom_31 : jF wsX8_useFrom RX8 31 9 7 true (.array .int) := ⟨(RX8, TX8, 12), tyX8, rfl, by decide, by decide +kernel, by decide +kernel, tyX8_ok, nmX8, rfl, by decide +kernel, by decide +kernel⟩
theorem fX8_offerOn_12 : jF wsX8_offerOn RX8 12 9 2 true (.object "BasketOffers$UseList") := ⟨(RX8, TX8, 12), tyX8, rfl, by decide, by decide +kernel, by decide +kernel, tyX8_ok, nmX8, rfl, by decide +kernel, by decide +kernel⟩
theorem fX8_timesOf_146 : jF wsX8_timesOf RX8 146 9 8 false .int := ⟨(RX8, TX8, 12), tyX8, rfl, by decide, by decide +kernel, by decide +kernel, tyX8_ok, nmX8, rfl, by decide +kernel, fun h => by cases h⟩
theorem fX8_timesOf_12 : jF wsX8_timesOf RX8 12 9 2 true (.object "BasketOffers$UseList") := ⟨(RX8, TX8, 12), tyX8, rfl, by decide, by decide +kernel, by decide +kernel, tyX8_ok, nmX8, rfl, by decide +kernel, by decide +kernel⟩
theorem fX8_isPossible_12 : jF wsX8_isPossible RX8 12 9 2 true (.object "BasketOffers$UseList") := ⟨(RX8, TX8, 12), tyX8, rfl, by decide, by decide +kernel, by decide +kernel, tyX8_ok, nmX8, rfl, by decide +kernel, by decide +kernel⟩
theorem fX8_isPossible_38 : jF wsX8_isPossible RX8 38 9 1 true (.object "BasketOffers$OfferBook") := ⟨(RX8, TX8, 12), tyX8, rfl, by decide, by decide +kernel, by decide +kernel, tyX8_ok, nmX8, rfl, by decide +kernel, by decide +kernel⟩
theorem fX8_isPossible_66 : jF wsX8_isPossible RX8 66 9 11 false .int := ⟨(RX8, TX8, 12), tyX8, rfl, by decide, by decide +kernel, by decide +kernel, tyX8_ok, nmX8, rfl, by decide +kernel, fun h => by cases h⟩
theorem fX8_usesRivalOf_38 : jF wsX8_usesRivalOf RX8 38 9 1 true (.object "BasketOffers$OfferBook") := ⟨(RX8, TX8, 12), tyX8, rfl, by decide, by decide +kernel, by decide +kernel, tyX8_ok, nmX8, rfl, by decide +kernel, by decide +kernel⟩
theorem fX8_usesRivalOf_146 : jF wsX8_usesRivalOf RX8 146 9 8 false .int := ⟨(RX8, TX8, 12), tyX8, rfl, by decide, by decide +kernel, by decide +kernel, tyX8_ok, nmX8, rfl, by decide +kernel, fun h => by cases h⟩
theorem fX8_discountByTrying_76 : jF wsX8_discountByTrying RX8 76 9 10 false .int := ⟨(RX8, TX8, 12), tyX8, rfl, by decide, by decide +kernel, by decide +kernel, tyX8_ok, nmX8, rfl, by decide +kernel, fun h => by cases h⟩
theorem fX8_discountByTrying_34 : jF wsX8_discountByTrying RX8 34 9 0 true (.object "BasketOffers$Basket") := ⟨(RX8, TX8, 12), tyX8, rfl, by decide, by decide +kernel, by decide +kernel, tyX8_ok, nmX8, rfl, by decide +kernel, by decide +kernel⟩
theorem fX8_run_12 : jF wsX8_run RX8 12 9 2 true (.object "BasketOffers$UseList") := ⟨(RX8, TX8, 12), tyX8, rfl, by decide, by decide +kernel, by decide +kernel, tyX8_ok, nmX8, rfl, by decide +kernel, by decide +kernel⟩
theorem fX8_run_34 : jF wsX8_run RX8 34 9 0 true (.object "BasketOffers$Basket") := ⟨(RX8, TX8, 12), tyX8, rfl, by decide, by decide +kernel, by decide +kernel, tyX8_ok, nmX8, rfl, by decide +kernel, by decide +kernel⟩
theorem fX8_run_38 : jF wsX8_run RX8 38 9 1 true (.object "BasketOffers$OfferBook") := ⟨(RX8, TX8, 12), tyX8, rfl, by decide, by decide +kernel, by decide +kernel, tyX8_ok, nmX8, rfl, by decide +kernel, by decide +kernel⟩
theorem fX8_run_66 : jF wsX8_run RX8 66 9 11 false .int := ⟨(RX8, TX8, 12), tyX8, rfl, by decide, by decide +kernel, by decide +kernel, tyX8_ok, nmX8, rfl, by decide +kernel, fun h => by cases h⟩
theorem fX8_run_76 : jF wsX8_run RX8 76 9 10 false .int := ⟨(RX8, TX8, 12), tyX8, rfl, by decide, by decide +kernel, by decide +kernel, tyX8_ok, nmX8, rfl, by decide +kernel, fun h => by cases h⟩
theorem fX8_run_79 : jF wsX8_run RX8 79 9 9 false .int := ⟨(RX8, TX8, 12), tyX8, rfl, by decide, by decide +kernel, by decide +kernel, tyX8_ok, nmX8, rfl, by decide +kernel, fun h => by cases h⟩
theorem fX8_run_18 : jF wsX8_run RX8 18 9 3 true (.array .int) := ⟨(RX8, TX8, 12), tyX8, rfl, by decide, by decide +kernel, by decide +kernel, tyX8_ok, nmX8, rfl, by decide +kernel, by decide +kernel⟩
set_option maxHeartbeats 4000000 in
set_option maxRecDepth 100000 in
theorem c_X8_maskOf (G : jG) (ad : Nat → Nat) (V : Nat → Int32) (M : Nat → Nat → Int32) (en : Nat → Option Nat) (wo : va_W) (x : Int32) : jD G 2 yX8_maskOf wsX8_maskOf [.ref (ad 11), .int x] (wC G ad V M en wo) (some (.int (atF 210 (M 14) x))) (wC G ad V M en wo) := by
  refine jC.of (maxL := 2) (cc := cX8_maskOf) (ret := (some .int)) rfl (by decide) [some (.ref (ad 11)), some (.int x)] rfl (Nat.le_of_ble_eq_true rfl) (j_args rfl) (fun X hX => ?_)
  refine j_aload_n hX dX8_maskOf_0 rfl ?_
  refine j_getf hX (v := .ref (ad 12)) dX8_maskOf_1 fX8_maskOf_12 11 (wCg11 _ _ _ _ _ _) rfl ?_
  refine j_iload_n hX dX8_maskOf_4 rfl ?_
  refine j_dV hX (nA := 1) (cq := (RX10, TX10, 5)) (As := [.int x]) (st := []) (st' := [.int (atF 210 (M 14) x)]) (ci := 11) rfl dX8_maskOf_5 (c_X10_maskAt G _ _ _ _ _ _) gX8_maskOf_X10_maskAt rfl (by decide +kernel) (q := 12) (wCg12 _ _ _ _ _ _) (by omega) (Nat.le_of_ble_eq_true rfl) rfl (Nat.le_of_ble_eq_true rfl) rfl ⟨Nat.le_refl _, Nat.le_refl _⟩ rfl ?_
  exact j_iret hX dX8_maskOf_8 ⟨rfl, rfl⟩

set_option maxHeartbeats 4000000 in
set_option maxRecDepth 100000 in
theorem c_X8_discountOf (G : jG) (ad : Nat → Nat) (V : Nat → Int32) (M : Nat → Nat → Int32) (en : Nat → Option Nat) (wo : va_W) (x : Int32) : jD G 2 yX8_discountOf wsX8_discountOf [.ref (ad 11), .int x] (wC G ad V M en wo) (some (.int (atF 210 (M 15) x))) (wC G ad V M en wo) := by
  refine jC.of (maxL := 2) (cc := cX8_discountOf) (ret := (some .int)) rfl (by decide) [some (.ref (ad 11)), some (.int x)] rfl (Nat.le_of_ble_eq_true rfl) (j_args rfl) (fun X hX => ?_)
  refine j_aload_n hX dX8_discountOf_0 rfl ?_
  refine j_getf hX (v := .ref (ad 12)) dX8_discountOf_1 fX8_discountOf_12 11 (wCg11 _ _ _ _ _ _) rfl ?_
  refine j_iload_n hX dX8_discountOf_4 rfl ?_
  refine j_dV hX (nA := 1) (cq := (RX10, TX10, 5)) (As := [.int x]) (st := []) (st' := [.int (atF 210 (M 15) x)]) (ci := 11) rfl dX8_discountOf_5 (c_X10_discountAt G _ _ _ _ _ _) gX8_discountOf_X10_discountAt rfl (by decide +kernel) (q := 12) (wCg12 _ _ _ _ _ _) (by omega) (Nat.le_of_ble_eq_true rfl) rfl (Nat.le_of_ble_eq_true rfl) rfl ⟨Nat.le_refl _, Nat.le_refl _⟩ rfl ?_
  exact j_iret hX dX8_discountOf_8 ⟨rfl, rfl⟩

set_option maxHeartbeats 4000000 in
set_option maxRecDepth 100000 in
theorem c_X8_discount (G : jG) (ad : Nat → Nat) (V : Nat → Int32) (M : Nat → Nat → Int32) (en : Nat → Option Nat) (wo : va_W) : jD G 0 yX8_discount wsX8_discount [.ref (ad 11)] (wC G ad V M en wo) (some (.int (V 6))) (wC G ad V M en wo) := by
  refine jC.of (maxL := 1) (cc := cX8_discount) (ret := (some .int)) rfl (by decide) [some (.ref (ad 11))] rfl (Nat.le_of_ble_eq_true rfl) (j_args rfl) (fun X hX => ?_)
  refine j_aload_n hX dX8_discount_0 rfl ?_
  refine j_getf hX (v := .int (V 6)) dX8_discount_1 fX8_discount_79 11 (wCg11 _ _ _ _ _ _) rfl ?_
  exact j_iret hX dX8_discount_4 ⟨rfl, rfl⟩

set_option maxHeartbeats 4000000 in
set_option maxRecDepth 100000 in
theorem c_X8_thresholdDiscount (G : jG) (ad : Nat → Nat) (V : Nat → Int32) (M : Nat → Nat → Int32) (en : Nat → Option Nat) (wo : va_W) : jD G 3 yX8_thresholdDiscount wsX8_thresholdDiscount [.ref (ad 11)] (wC G ad V M en wo) (some (.int (amtF (M 9) (V 5) 6))) (wC G ad V M en wo) := by
  refine jC.of (maxL := 1) (cc := cX8_thresholdDiscount) (ret := (some .int)) rfl (by decide) [some (.ref (ad 11))] rfl (Nat.le_of_ble_eq_true rfl) (j_args rfl) (fun X hX => ?_)
  refine j_aload_n hX dX8_thresholdDiscount_0 rfl ?_
  refine j_aload_n hX dX8_thresholdDiscount_1 rfl ?_
  refine j_getf hX (v := .int (V 5)) dX8_thresholdDiscount_2 fX8_thresholdDiscount_146 11 (wCg11 _ _ _ _ _ _) rfl ?_
  refine j_dV hX (nA := 1) (cq := (RX8, TX8, 12)) (As := [.int (V 5)]) (st := []) (st' := [.int (amtF (M 9) (V 5) 6)]) (ci := 9) rfl dX8_thresholdDiscount_5 (c_X8_amountOf G _ _ _ _ _ _) gX8_thresholdDiscount_X8_amountOf rfl (by decide +kernel) (q := 11) (wCg11 _ _ _ _ _ _) (by omega) (Nat.le_of_ble_eq_true rfl) rfl (Nat.le_of_ble_eq_true rfl) rfl ⟨Nat.le_refl _, Nat.le_refl _⟩ rfl ?_
  exact j_iret hX dX8_thresholdDiscount_8 ⟨rfl, rfl⟩

def useV (M : Nat → Nat → Int32) (x : Int32) : Int32 := if withinV x 0 6 = 0 then -1 else atF 7 (M 21) x
set_option maxHeartbeats 4000000 in
set_option maxRecDepth 100000 in
theorem c_X8_useFrom (G : jG) (ad : Nat → Nat) (V : Nat → Int32) (M : Nat → Nat → Int32) (en : Nat → Option Nat) (wo : va_W) (x : Int32) : jD G 1 yX8_useFrom wsX8_useFrom [.ref (ad 11), .int x] (wC G ad V M en wo) (some (.int (useV M x))) (wC G ad V M en wo) := by
  refine jC.of (maxL := 2) (cc := cX8_useFrom) (ret := (some .int)) rfl (by decide) [some (.ref (ad 11)), some (.int x)] rfl (Nat.le_of_ble_eq_true rfl) (j_args rfl) (fun X hX => ?_)
  refine j_iload_n hX dX8_useFrom_0 rfl ?_
  refine j_iconst hX (v := 0) (by decide) dX8_useFrom_1 ?_
  refine j_bipush hX (v := 6) (by decide) dX8_useFrom_2 ?_
  refine j_dSN hX (nA := 3) (As := [.int x, .int 0, .int 6]) (st := []) (st' := [.int (withinV x 0 6)]) dX8_useFrom_4 (c_isWithin G) gX8_useFrom_X11_isWithin_n163 rfl (by decide +kernel) (host := "BasketOffers") (by decide +kernel) (by decide +kernel) (by decide +kernel) (by omega) (Nat.le_of_ble_eq_true rfl) rfl (Nat.le_of_ble_eq_true rfl) rfl ⟨Nat.le_refl _, Nat.le_refl _⟩ rfl ?_
  refine j_if_eq hX (tgt := 21) dX8_useFrom_7 (by decide) (fun h7 => ?_) (fun h7 => ?_)
  · refine j_iconst hX (v := -1) (by decide) dX8_useFrom_21 ?_
    exact j_iret hX dX8_useFrom_22 ⟨(congrArg (fun z => some (Value.int z)) (show useV M x = -1 from (if_pos h7))).symm, rfl⟩
  · refine j_aload_n hX dX8_useFrom_10 rfl ?_
    refine j_getf hX (v := .ref (ad 21)) dX8_useFrom_11 fX8_useFrom_31 11 (wCg11 _ _ _ _ _ _) rfl ?_
    refine j_iload_n hX dX8_useFrom_14 rfl ?_
    refine j_dSN hX (nA := 2) (As := [.ref (ad 21), .int x]) (st := []) (st' := [.int (atF 7 (M 21) x)]) dX8_useFrom_15 (c_at G (q := 21) (wCg21 _ _ _ _ _ _) (by decide)) gX8_useFrom_X11_at_n86 rfl (by decide +kernel) (host := "BasketOffers") (by decide +kernel) (by decide +kernel) (by decide +kernel) (by omega) (Nat.le_of_ble_eq_true rfl) rfl (Nat.le_of_ble_eq_true rfl) rfl ⟨Nat.le_refl _, Nat.le_refl _⟩ rfl ?_
    refine j_goto hX (tgt := 22) dX8_useFrom_18 (by decide) ?_
    exact j_iret hX dX8_useFrom_22 ⟨(congrArg (fun z => some (Value.int z)) (show useV M x = atF 7 (M 21) x from (if_neg h7))).symm, rfl⟩

def onF (M : Nat → Nat → Int32) (pos : Int32) : Nat → Nat → Int32
  | _, 0 => -1
  | i, k + 1 => if useV M (nI i) = -1 then onF M pos (i + 1) k else if isInV (atF 210 (M 14) (useV M (nI i))) pos = 0 then onF M pos (i + 1) k else atF 210 (M 13) (useV M (nI i))
set_option maxHeartbeats 4000000 in
set_option maxRecDepth 100000 in
theorem c_X8_offerOn (G : jG) (ad : Nat → Nat) (V : Nat → Int32) (M : Nat → Nat → Int32) (en : Nat → Option Nat) (wo : va_W) (pos : Int32) : jD G 2 yX8_offerOn wsX8_offerOn [.ref (ad 11), .int pos] (wC G ad V M en wo) (some (.int (onF M pos 0 7))) (wC G ad V M en wo) := by
  refine jC.of (maxL := 4) (cc := cX8_offerOn) (ret := (some .int)) rfl (by decide) [some (.ref (ad 11)), some (.int pos), none, none] rfl (Nat.le_of_ble_eq_true rfl) (j_args rfl) (fun X hX => ?_)
  refine j_iconst hX (v := 0) (by decide) dX8_offerOn_0 ?_
  refine j_istore_n hX (ls' := [some (.ref (ad 11)), some (.int pos), some (.int 0), none]) dX8_offerOn_1 (Nat.le_of_ble_eq_true rfl) rfl rfl ?_
  have L2 : ∀ zi i : Nat, 0 ≤ i → i + zi = 7 → onF M pos i zi = onF M pos 0 7 → jW G X 0 0 2 [some (.ref (ad 11)), some (.int pos), some (.int (nI i)), none] [] (wC G ad V M en wo) := by
    intro zi
    induction zi with
    | zero =>
      intro i h0 hi hc
      have hin : i = 7 := by omega
      refine j_iload_n hX dX8_offerOn_2 rfl ?_
      refine j_bipush hX (v := 7) (by decide) dX8_offerOn_3 ?_
      refine j_icmp_ge_t hX (tgt := 49) dX8_offerOn_5 (by decide) (nI_le (a := 7) (b := i) (by omega) (by omega)) ?_
      refine j_iconst hX (v := -1) (by decide) dX8_offerOn_49 ?_
      exact j_iret hX dX8_offerOn_50 ⟨congrArg (fun z => some (Value.int z)) ((rfl : onF M pos i 0 = -1).symm.trans hc), rfl⟩
    | succ zi ih =>
      intro i h0 hi hc
      have hin : i < 7 := by omega
      refine j_iload_n hX dX8_offerOn_2 rfl ?_
      refine j_bipush hX (v := 7) (by decide) dX8_offerOn_3 ?_
      refine j_icmp_ge_f hX (tgt := 49) dX8_offerOn_5 (by decide) (nI_ge (a := i) (b := 7) (by omega) (by decide)) ?_
      refine j_aload_n hX dX8_offerOn_8 rfl ?_
      refine j_iload_n hX dX8_offerOn_9 rfl ?_
      refine j_dV hX (nA := 1) (cq := (RX8, TX8, 12)) (As := [.int (nI i)]) (st := []) (st' := [.int (useV M (nI i))]) (ci := 9) rfl dX8_offerOn_10 (c_X8_useFrom G _ _ _ _ _ _) gX8_offerOn_X8_useFrom rfl (by decide +kernel) (q := 11) (wCg11 _ _ _ _ _ _) (by omega) (Nat.le_of_ble_eq_true rfl) rfl (Nat.le_of_ble_eq_true rfl) rfl ⟨Nat.le_refl _, Nat.le_refl _⟩ rfl ?_
      refine j_istore_n hX (ls' := [some (.ref (ad 11)), some (.int pos), some (.int (nI i)), some (.int (useV M (nI i)))]) dX8_offerOn_13 (Nat.le_of_ble_eq_true rfl) rfl rfl ?_
      refine j_iload_n hX dX8_offerOn_14 rfl ?_
      refine j_iconst hX (v := -1) (by decide) dX8_offerOn_15 ?_
      refine j_icmp_eq hX (tgt := 43) dX8_offerOn_16 (by decide) (fun h16 => ?_) (fun h16 => ?_)
      · refine j_iinc hX (v := nI (i + 1)) (ls' := [some (.ref (ad 11)), some (.int pos), some (.int (nI (i + 1))), some (.int (useV M (nI i)))]) dX8_offerOn_43 rfl (j_inc1 _) rfl rfl ?_
        refine j_goto hX (tgt := 2) dX8_offerOn_46 (by decide) ?_
        refine jW.drop (ls' := [some (.ref (ad 11)), some (.int pos), some (.int (nI (i + 1))), none]) ⟨Or.inr rfl, Or.inr rfl, Or.inr rfl, Or.inl rfl, trivial⟩ ?_
        exact ih (i + 1) (by omega) (by omega) (((if_pos h16)).symm.trans hc)
      · refine j_aload_n hX dX8_offerOn_19 rfl ?_
        refine j_getf hX (v := .ref (ad 12)) dX8_offerOn_20 fX8_offerOn_12 11 (wCg11 _ _ _ _ _ _) rfl ?_
        refine j_iload_n hX dX8_offerOn_23 rfl ?_
        refine j_dV hX (nA := 1) (cq := (RX10, TX10, 5)) (As := [.int (useV M (nI i))]) (st := []) (st' := [.int (atF 210 (M 14) (useV M (nI i)))]) (ci := 11) rfl dX8_offerOn_24 (c_X10_maskAt G _ _ _ _ _ _) gX8_offerOn_X10_maskAt rfl (by decide +kernel) (q := 12) (wCg12 _ _ _ _ _ _) (by omega) (Nat.le_of_ble_eq_true rfl) rfl (Nat.le_of_ble_eq_true rfl) rfl ⟨Nat.le_refl _, Nat.le_refl _⟩ rfl ?_
        refine j_iload_n hX dX8_offerOn_27 rfl ?_
        refine j_dSN hX (nA := 2) (As := [.int (atF 210 (M 14) (useV M (nI i))), .int pos]) (st := []) (st' := [.int (isInV (atF 210 (M 14) (useV M (nI i))) pos)]) dX8_offerOn_28 (c_isIn G) gX8_offerOn_X11_isIn_n107 rfl (by decide +kernel) (host := "BasketOffers") (by decide +kernel) (by decide +kernel) (by decide +kernel) (by omega) (Nat.le_of_ble_eq_true rfl) rfl (Nat.le_of_ble_eq_true rfl) rfl ⟨Nat.le_refl _, Nat.le_refl _⟩ rfl ?_
        refine j_if_eq hX (tgt := 43) dX8_offerOn_31 (by decide) (fun h31 => ?_) (fun h31 => ?_)
        · refine j_iinc hX (v := nI (i + 1)) (ls' := [some (.ref (ad 11)), some (.int pos), some (.int (nI (i + 1))), some (.int (useV M (nI i)))]) dX8_offerOn_43 rfl (j_inc1 _) rfl rfl ?_
          refine j_goto hX (tgt := 2) dX8_offerOn_46 (by decide) ?_
          refine jW.drop (ls' := [some (.ref (ad 11)), some (.int pos), some (.int (nI (i + 1))), none]) ⟨Or.inr rfl, Or.inr rfl, Or.inr rfl, Or.inl rfl, trivial⟩ ?_
          exact ih (i + 1) (by omega) (by omega) ((((if_neg h16).trans (if_pos h31))).symm.trans hc)
        · refine j_aload_n hX dX8_offerOn_34 rfl ?_
          refine j_getf hX (v := .ref (ad 12)) dX8_offerOn_35 fX8_offerOn_12 11 (wCg11 _ _ _ _ _ _) rfl ?_
          refine j_iload_n hX dX8_offerOn_38 rfl ?_
          refine j_dV hX (nA := 1) (cq := (RX10, TX10, 5)) (As := [.int (useV M (nI i))]) (st := []) (st' := [.int (atF 210 (M 13) (useV M (nI i)))]) (ci := 11) rfl dX8_offerOn_39 (c_X10_offerAt G _ _ _ _ _ _) gX8_offerOn_X10_offerAt rfl (by decide +kernel) (q := 12) (wCg12 _ _ _ _ _ _) (by omega) (Nat.le_of_ble_eq_true rfl) rfl (Nat.le_of_ble_eq_true rfl) rfl ⟨Nat.le_refl _, Nat.le_refl _⟩ rfl ?_
          exact j_iret hX dX8_offerOn_42 ⟨congrArg (fun z => some (Value.int z)) ((((if_neg h16).trans (if_neg h31)) : onF M pos i (zi + 1) = atF 210 (M 13) (useV M (nI i))).symm.trans hc), rfl⟩
  exact L2 7 0 (Nat.le_refl _) (by omega) rfl

def tmF (M : Nat → Nat → Int32) (x : Int32) (n : Nat) : Int32 := itr (fun i a => if useV M (nI i) = -1 then a else if atF 210 (M 13) (useV M (nI i)) = x then a + Int32.ofInt 1 else a) n 0
def timesV (V : Nat → Int32) (M : Nat → Nat → Int32) (x : Int32) : Int32 := if tmF M x 7 = 0 then (if V 5 &&& (1 <<< (x &&& 31)) = 0 then tmF M x 7 else 1) else tmF M x 7
set_option maxHeartbeats 4000000 in
set_option maxRecDepth 100000 in
theorem c_X8_timesOf (G : jG) (ad : Nat → Nat) (V : Nat → Int32) (M : Nat → Nat → Int32) (en : Nat → Option Nat) (wo : va_W) (x : Int32) : jD G 2 yX8_timesOf wsX8_timesOf [.ref (ad 11), .int x] (wC G ad V M en wo) (some (.int (timesV V M x))) (wC G ad V M en wo) := by
  refine jC.of (maxL := 5) (cc := cX8_timesOf) (ret := (some .int)) rfl (by decide) [some (.ref (ad 11)), some (.int x), none, none, none] rfl (Nat.le_of_ble_eq_true rfl) (j_args rfl) (fun X hX => ?_)
  refine j_iconst hX (v := 0) (by decide) dX8_timesOf_0 ?_
  refine j_istore_n hX (ls' := [some (.ref (ad 11)), some (.int x), some (.int 0), none, none]) dX8_timesOf_1 (Nat.le_of_ble_eq_true rfl) rfl rfl ?_
  refine j_iconst hX (v := 0) (by decide) dX8_timesOf_2 ?_
  refine j_istore_n hX (ls' := [some (.ref (ad 11)), some (.int x), some (.int 0), some (.int 0), none]) dX8_timesOf_3 (Nat.le_of_ble_eq_true rfl) rfl rfl ?_
  have L4 : ∀ zi i : Nat, 0 ≤ i → i + zi = 7 → jW G X 0 0 4 [some (.ref (ad 11)), some (.int x), some (.int (tmF M x i)), some (.int (nI i)), none] [] (wC G ad V M en wo) := by
    intro zi
    induction zi with
    | zero =>
      intro i h0 hi
      have hin : i = 7 := by omega
      refine j_iload_n hX dX8_timesOf_4 rfl ?_
      refine j_bipush hX (v := 7) (by decide) dX8_timesOf_5 ?_
      refine j_icmp_ge_t hX (tgt := 45) dX8_timesOf_7 (by decide) (nI_le (a := 7) (b := i) (by omega) (by omega)) ?_
      refine j_iload_n hX dX8_timesOf_45 rfl ?_
      refine j_if_ne hX (tgt := 64) dX8_timesOf_46 (by decide) (fun h46 => ?_) (fun h46 => ?_)
      · refine j_iconst hX (v := 0) (by decide) dX8_timesOf_64 ?_
        refine j_istore_n hX (ls' := [some (.ref (ad 11)), some (.int x), some (.int (tmF M x i)), some (.int 0), none]) dX8_timesOf_65 (Nat.le_of_ble_eq_true rfl) rfl rfl ?_
        refine j_iload_n hX dX8_timesOf_66 rfl ?_
        refine j_if_eq_t hX (tgt := 74) dX8_timesOf_67 (by decide) (by decide) ?_
        refine j_iload_n hX dX8_timesOf_74 rfl ?_
        exact j_iret hX dX8_timesOf_75 ⟨by rw [show timesV V M x = tmF M x 7 from if_neg (hin ▸ h46)]; rw [hin], rfl⟩
      · refine j_aload_n hX dX8_timesOf_49 rfl ?_
        refine j_getf hX (v := .int (V 5)) dX8_timesOf_50 fX8_timesOf_146 11 (wCg11 _ _ _ _ _ _) rfl ?_
        refine j_iconst hX (v := 1) (by decide) dX8_timesOf_53 ?_
        refine j_iload_n hX dX8_timesOf_54 rfl ?_
        refine j_ishl hX dX8_timesOf_55 ?_
        refine j_iand hX dX8_timesOf_56 ?_
        refine j_if_eq hX (tgt := 64) dX8_timesOf_57 (by decide) (fun h57 => ?_) (fun h57 => ?_)
        · refine j_iconst hX (v := 0) (by decide) dX8_timesOf_64 ?_
          refine j_istore_n hX (ls' := [some (.ref (ad 11)), some (.int x), some (.int (tmF M x i)), some (.int 0), none]) dX8_timesOf_65 (Nat.le_of_ble_eq_true rfl) rfl rfl ?_
          refine j_iload_n hX dX8_timesOf_66 rfl ?_
          refine j_if_eq_t hX (tgt := 74) dX8_timesOf_67 (by decide) (by decide) ?_
          refine j_iload_n hX dX8_timesOf_74 rfl ?_
          exact j_iret hX dX8_timesOf_75 ⟨by rw [show timesV V M x = tmF M x 7 from (if_pos (hin ▸ h46)).trans (if_pos h57)]; rw [hin], rfl⟩
        · refine j_iconst hX (v := 1) (by decide) dX8_timesOf_60 ?_
          refine j_goto hX (tgt := 65) dX8_timesOf_61 (by decide) ?_
          refine j_istore_n hX (ls' := [some (.ref (ad 11)), some (.int x), some (.int (tmF M x i)), some (.int 1), none]) dX8_timesOf_65 (Nat.le_of_ble_eq_true rfl) rfl rfl ?_
          refine j_iload_n hX dX8_timesOf_66 rfl ?_
          refine j_if_eq_f hX (tgt := 74) dX8_timesOf_67 (by decide) (by decide) ?_
          refine j_iconst hX (v := 1) (by decide) dX8_timesOf_70 ?_
          refine j_goto hX (tgt := 75) dX8_timesOf_71 (by decide) ?_
          exact j_iret hX dX8_timesOf_75 ⟨by rw [show timesV V M x = 1 from (if_pos (hin ▸ h46)).trans (if_neg h57)], rfl⟩
    | succ zi ih =>
      intro i h0 hi
      have hin : i < 7 := by omega
      refine j_iload_n hX dX8_timesOf_4 rfl ?_
      refine j_bipush hX (v := 7) (by decide) dX8_timesOf_5 ?_
      refine j_icmp_ge_f hX (tgt := 45) dX8_timesOf_7 (by decide) (nI_ge (a := i) (b := 7) (by omega) (by decide)) ?_
      refine j_aload_n hX dX8_timesOf_10 rfl ?_
      refine j_iload_n hX dX8_timesOf_11 rfl ?_
      refine j_dV hX (nA := 1) (cq := (RX8, TX8, 12)) (As := [.int (nI i)]) (st := []) (st' := [.int (useV M (nI i))]) (ci := 9) rfl dX8_timesOf_12 (c_X8_useFrom G _ _ _ _ _ _) gX8_timesOf_X8_useFrom rfl (by decide +kernel) (q := 11) (wCg11 _ _ _ _ _ _) (by omega) (Nat.le_of_ble_eq_true rfl) rfl (Nat.le_of_ble_eq_true rfl) rfl ⟨Nat.le_refl _, Nat.le_refl _⟩ rfl ?_
      refine j_istore hX (ls' := [some (.ref (ad 11)), some (.int x), some (.int (tmF M x i)), some (.int (nI i)), some (.int (useV M (nI i)))]) dX8_timesOf_15 (Nat.le_of_ble_eq_true rfl) rfl rfl ?_
      refine j_iload hX dX8_timesOf_17 rfl ?_
      refine j_iconst hX (v := -1) (by decide) dX8_timesOf_19 ?_
      refine j_icmp_eq hX (tgt := 39) dX8_timesOf_20 (by decide) (fun h20 => ?_) (fun h20 => ?_)
      · refine j_iinc hX (v := nI (i + 1)) (ls' := [some (.ref (ad 11)), some (.int x), some (.int (tmF M x i)), some (.int (nI (i + 1))), some (.int (useV M (nI i)))]) dX8_timesOf_39 rfl (j_inc1 _) rfl rfl ?_
        refine j_goto hX (tgt := 4) dX8_timesOf_42 (by decide) ?_
        refine jW.drop (ls' := [some (.ref (ad 11)), some (.int x), some (.int (tmF M x i)), some (.int (nI (i + 1))), none]) ⟨Or.inr rfl, Or.inr rfl, Or.inr rfl, Or.inr rfl, Or.inl rfl, trivial⟩ ?_
        refine jW.locals (ls' := [some (.ref (ad 11)), some (.int x), some (.int (tmF M x (i + 1))), some (.int (nI (i + 1))), none]) (by rw [show tmF M x (i + 1) = tmF M x i from (if_pos h20)]) ?_
        exact ih (i + 1) (by omega) (by omega)
      · refine j_aload_n hX dX8_timesOf_23 rfl ?_
        refine j_getf hX (v := .ref (ad 12)) dX8_timesOf_24 fX8_timesOf_12 11 (wCg11 _ _ _ _ _ _) rfl ?_
        refine j_iload hX dX8_timesOf_27 rfl ?_
        refine j_dV hX (nA := 1) (cq := (RX10, TX10, 5)) (As := [.int (useV M (nI i))]) (st := []) (st' := [.int (atF 210 (M 13) (useV M (nI i)))]) (ci := 11) rfl dX8_timesOf_29 (c_X10_offerAt G _ _ _ _ _ _) gX8_timesOf_X10_offerAt rfl (by decide +kernel) (q := 12) (wCg12 _ _ _ _ _ _) (by omega) (Nat.le_of_ble_eq_true rfl) rfl (Nat.le_of_ble_eq_true rfl) rfl ⟨Nat.le_refl _, Nat.le_refl _⟩ rfl ?_
        refine j_iload_n hX dX8_timesOf_32 rfl ?_
        refine j_icmp_ne hX (tgt := 39) dX8_timesOf_33 (by decide) (fun h33 => ?_) (fun h33 => ?_)
        · refine j_iinc hX (v := nI (i + 1)) (ls' := [some (.ref (ad 11)), some (.int x), some (.int (tmF M x i)), some (.int (nI (i + 1))), some (.int (useV M (nI i)))]) dX8_timesOf_39 rfl (j_inc1 _) rfl rfl ?_
          refine j_goto hX (tgt := 4) dX8_timesOf_42 (by decide) ?_
          refine jW.drop (ls' := [some (.ref (ad 11)), some (.int x), some (.int (tmF M x i)), some (.int (nI (i + 1))), none]) ⟨Or.inr rfl, Or.inr rfl, Or.inr rfl, Or.inr rfl, Or.inl rfl, trivial⟩ ?_
          refine jW.locals (ls' := [some (.ref (ad 11)), some (.int x), some (.int (tmF M x (i + 1))), some (.int (nI (i + 1))), none]) (by rw [show tmF M x (i + 1) = tmF M x i from ((if_neg h20).trans (if_neg h33))]) ?_
          exact ih (i + 1) (by omega) (by omega)
        · refine j_iinc hX (v := (tmF M x i) + Int32.ofInt 1) (ls' := [some (.ref (ad 11)), some (.int x), some (.int ((tmF M x i) + Int32.ofInt 1)), some (.int (nI i)), some (.int (useV M (nI i)))]) dX8_timesOf_36 rfl rfl rfl rfl ?_
          refine j_iinc hX (v := nI (i + 1)) (ls' := [some (.ref (ad 11)), some (.int x), some (.int ((tmF M x i) + Int32.ofInt 1)), some (.int (nI (i + 1))), some (.int (useV M (nI i)))]) dX8_timesOf_39 rfl (j_inc1 _) rfl rfl ?_
          refine j_goto hX (tgt := 4) dX8_timesOf_42 (by decide) ?_
          refine jW.drop (ls' := [some (.ref (ad 11)), some (.int x), some (.int ((tmF M x i) + Int32.ofInt 1)), some (.int (nI (i + 1))), none]) ⟨Or.inr rfl, Or.inr rfl, Or.inr rfl, Or.inr rfl, Or.inl rfl, trivial⟩ ?_
          refine jW.locals (ls' := [some (.ref (ad 11)), some (.int x), some (.int (tmF M x (i + 1))), some (.int (nI (i + 1))), none]) (by rw [show tmF M x (i + 1) = (tmF M x i) + Int32.ofInt 1 from ((if_neg h20).trans (if_pos h33))]) ?_
          exact ih (i + 1) (by omega) (by omega)
  exact L4 7 0 (Nat.le_refl _) (by omega)

def ipF (V : Nat → Int32) (M : Nat → Nat → Int32) (x : Int32) : Nat → Nat → Int32
  | _, 0 => reachV (M 8) x (V 8)
  | i, k + 1 => if atF 210 (M 13) (nI i) = x then 1 else ipF V M x (i + 1) k
theorem reachV_01 (f : Nat → Int32) (x r : Int32) : narrow .boolean (.int (reachV f x r)) = .int (reachV f x r) := by
  unfold reachV
  split
  · decide
  · split <;> decide
set_option maxHeartbeats 4000000 in
set_option maxRecDepth 100000 in
theorem c_X8_isPossible (G : jG) (ad : Nat → Nat) (V : Nat → Int32) (M : Nat → Nat → Int32) (en : Nat → Option Nat) (wo : va_W) (x : Int32) (u9 : Nat) (hu9 : V 9 = nI u9) (hu : u9 ≤ 210) : jD G 2 yX8_isPossible wsX8_isPossible [.ref (ad 11), .int x] (wC G ad V M en wo) (some (.int (ipF V M x 0 u9))) (wC G ad V M en wo) := by
  refine jC.of (maxL := 3) (cc := cX8_isPossible) (ret := (some .boolean)) rfl (by decide) [some (.ref (ad 11)), some (.int x), none] rfl (Nat.le_of_ble_eq_true rfl) (j_args rfl) (fun X hX => ?_)
  refine j_iconst hX (v := 0) (by decide) dX8_isPossible_0 ?_
  refine j_istore_n hX (ls' := [some (.ref (ad 11)), some (.int x), some (.int 0)]) dX8_isPossible_1 (Nat.le_of_ble_eq_true rfl) rfl rfl ?_
  have L2 : ∀ zi i : Nat, 0 ≤ i → i + zi = u9 → ipF V M x i zi = ipF V M x 0 u9 → jW G X 0 0 2 [some (.ref (ad 11)), some (.int x), some (.int (nI i))] [] (wC G ad V M en wo) := by
    intro zi
    induction zi with
    | zero =>
      intro i h0 hi hc
      have hin : i = u9 := by omega
      refine j_iload_n hX dX8_isPossible_2 rfl ?_
      refine j_aload_n hX dX8_isPossible_3 rfl ?_
      refine j_getf hX (v := .ref (ad 12)) dX8_isPossible_4 fX8_isPossible_12 11 (wCg11 _ _ _ _ _ _) rfl ?_
      refine j_dV hX (nA := 0) (cq := (RX10, TX10, 5)) (As := []) (st := [.int (nI i)]) (st' := [.int (V 9), .int (nI i)]) (ci := 11) rfl dX8_isPossible_7 (c_X10_size G _ _ _ _ _) gX8_isPossible_X10_size rfl (by decide +kernel) (q := 12) (wCg12 _ _ _ _ _ _) (by omega) (Nat.le_of_ble_eq_true rfl) rfl (Nat.le_of_ble_eq_true rfl) rfl ⟨Nat.le_refl _, Nat.le_refl _⟩ rfl ?_
      refine j_icmp_ge_t hX (tgt := 33) dX8_isPossible_10 (by decide) (by rw [hu9, hin]; exact nI_le (Nat.le_refl _) (by omega)) ?_
      refine j_aload_n hX dX8_isPossible_33 rfl ?_
      refine j_getf hX (v := .ref (ad 5)) dX8_isPossible_34 fX8_isPossible_38 11 (wCg11 _ _ _ _ _ _) rfl ?_
      refine j_iload_n hX dX8_isPossible_37 rfl ?_
      refine j_aload_n hX dX8_isPossible_38 rfl ?_
      refine j_getf hX (v := .int (V 8)) dX8_isPossible_39 fX8_isPossible_66 11 (wCg11 _ _ _ _ _ _) rfl ?_
      refine j_dV hX (nA := 2) (cq := (RX6, TX6, 6)) (As := [.int x, .int (V 8)]) (st := []) (st' := [.int (reachV (M 8) x (V 8))]) (ci := 7) rfl dX8_isPossible_42 (c_X6_isReachedBy G _ _ _ _ _ _ _) gX8_isPossible_X6_isReachedBy rfl (by decide +kernel) (q := 5) (wCg5 _ _ _ _ _ _) (by omega) (Nat.le_of_ble_eq_true rfl) rfl (Nat.le_of_ble_eq_true rfl) rfl ⟨Nat.le_refl _, Nat.le_refl _⟩ rfl ?_
      exact j_zret hX (reachV_01 _ _ _) dX8_isPossible_45 ⟨congrArg (fun z => some (Value.int z)) ((rfl : ipF V M x i 0 = reachV (M 8) x (V 8)).symm.trans hc), rfl⟩
    | succ zi ih =>
      intro i h0 hi hc
      have hin : i < u9 := by omega
      refine j_iload_n hX dX8_isPossible_2 rfl ?_
      refine j_aload_n hX dX8_isPossible_3 rfl ?_
      refine j_getf hX (v := .ref (ad 12)) dX8_isPossible_4 fX8_isPossible_12 11 (wCg11 _ _ _ _ _ _) rfl ?_
      refine j_dV hX (nA := 0) (cq := (RX10, TX10, 5)) (As := []) (st := [.int (nI i)]) (st' := [.int (V 9), .int (nI i)]) (ci := 11) rfl dX8_isPossible_7 (c_X10_size G _ _ _ _ _) gX8_isPossible_X10_size rfl (by decide +kernel) (q := 12) (wCg12 _ _ _ _ _ _) (by omega) (Nat.le_of_ble_eq_true rfl) rfl (Nat.le_of_ble_eq_true rfl) rfl ⟨Nat.le_refl _, Nat.le_refl _⟩ rfl ?_
      refine j_icmp_ge_f hX (tgt := 33) dX8_isPossible_10 (by decide) (by rw [hu9]; exact nI_ge hin (by omega)) ?_
      refine j_aload_n hX dX8_isPossible_13 rfl ?_
      refine j_getf hX (v := .ref (ad 12)) dX8_isPossible_14 fX8_isPossible_12 11 (wCg11 _ _ _ _ _ _) rfl ?_
      refine j_iload_n hX dX8_isPossible_17 rfl ?_
      refine j_dV hX (nA := 1) (cq := (RX10, TX10, 5)) (As := [.int (nI i)]) (st := []) (st' := [.int (atF 210 (M 13) (nI i))]) (ci := 11) rfl dX8_isPossible_18 (c_X10_offerAt G _ _ _ _ _ _) gX8_isPossible_X10_offerAt rfl (by decide +kernel) (q := 12) (wCg12 _ _ _ _ _ _) (by omega) (Nat.le_of_ble_eq_true rfl) rfl (Nat.le_of_ble_eq_true rfl) rfl ⟨Nat.le_refl _, Nat.le_refl _⟩ rfl ?_
      refine j_iload_n hX dX8_isPossible_21 rfl ?_
      refine j_icmp_ne hX (tgt := 27) dX8_isPossible_22 (by decide) (fun h22 => ?_) (fun h22 => ?_)
      · refine j_iinc hX (v := nI (i + 1)) (ls' := [some (.ref (ad 11)), some (.int x), some (.int (nI (i + 1)))]) dX8_isPossible_27 rfl (j_inc1 _) rfl rfl ?_
        refine j_goto hX (tgt := 2) dX8_isPossible_30 (by decide) ?_
        exact ih (i + 1) (by omega) (by omega) (((if_neg h22)).symm.trans hc)
      · refine j_iconst hX (v := 1) (by decide) dX8_isPossible_25 ?_
        exact j_zret hX (by decide) dX8_isPossible_26 ⟨congrArg (fun z => some (Value.int z)) (((if_pos h22) : ipF V M x i (zi + 1) = 1).symm.trans hc), rfl⟩
  exact L2 u9 0 (Nat.le_refl _) (by omega) rfl

set_option maxHeartbeats 4000000 in
set_option maxRecDepth 100000 in
theorem c_X8_usesRivalOf (G : jG) (ad : Nat → Nat) (V : Nat → Int32) (M : Nat → Nat → Int32) (en : Nat → Option Nat) (wo : va_W) (x : Int32) : jD G 2 yX8_usesRivalOf wsX8_usesRivalOf [.ref (ad 11), .int x] (wC G ad V M en wo) (some (.int (if atF 6 (M 7) x &&& V 5 = 0 then 0 else 1))) (wC G ad V M en wo) := by
  refine jC.of (maxL := 2) (cc := cX8_usesRivalOf) (ret := (some .boolean)) rfl (by decide) [some (.ref (ad 11)), some (.int x)] rfl (Nat.le_of_ble_eq_true rfl) (j_args rfl) (fun X hX => ?_)
  refine j_aload_n hX dX8_usesRivalOf_0 rfl ?_
  refine j_getf hX (v := .ref (ad 5)) dX8_usesRivalOf_1 fX8_usesRivalOf_38 11 (wCg11 _ _ _ _ _ _) rfl ?_
  refine j_iload_n hX dX8_usesRivalOf_4 rfl ?_
  refine j_dV hX (nA := 1) (cq := (RX6, TX6, 6)) (As := [.int x]) (st := []) (st' := [.int (atF 6 (M 7) x)]) (ci := 7) rfl dX8_usesRivalOf_5 (c_X6_rivalsOf G _ _ _ _ _ _) gX8_usesRivalOf_X6_rivalsOf rfl (by decide +kernel) (q := 5) (wCg5 _ _ _ _ _ _) (by omega) (Nat.le_of_ble_eq_true rfl) rfl (Nat.le_of_ble_eq_true rfl) rfl ⟨Nat.le_refl _, Nat.le_refl _⟩ rfl ?_
  refine j_aload_n hX dX8_usesRivalOf_8 rfl ?_
  refine j_getf hX (v := .int (V 5)) dX8_usesRivalOf_9 fX8_usesRivalOf_146 11 (wCg11 _ _ _ _ _ _) rfl ?_
  refine j_iand hX dX8_usesRivalOf_12 ?_
  refine j_if_eq hX (tgt := 20) dX8_usesRivalOf_13 (by decide) (fun h13 => ?_) (fun h13 => ?_)
  · refine j_iconst hX (v := 0) (by decide) dX8_usesRivalOf_20 ?_
    exact j_zret hX (by decide) dX8_usesRivalOf_21 ⟨(congrArg (fun z => some (Value.int z)) (if_pos h13)).symm, rfl⟩
  · refine j_iconst hX (v := 1) (by decide) dX8_usesRivalOf_16 ?_
    refine j_goto hX (tgt := 21) dX8_usesRivalOf_17 (by decide) ?_
    exact j_zret hX (by decide) dX8_usesRivalOf_21 ⟨(congrArg (fun z => some (Value.int z)) (if_neg h13)).symm, rfl⟩

def tryF (st : Nat → Nat) (n : Nat) (s : VM) : VM := if s.1 7 = -1 then (sV (mbF st 8 0 (maskF n) 0 0 s).2.1 7 (mbF st 8 0 (maskF n) 0 0 s).1, (mbF st 8 0 (maskF n) 0 0 s).2.2) else s
set_option maxHeartbeats 4000000 in
set_option maxRecDepth 100000 in
theorem c_X8_discountByTrying (G : jG) (st : Nat → Nat) (ad : Nat → Nat) (V : Nat → Int32) (M : Nat → Nat → Int32) (en : Nat → Option Nat) (wo : va_W) (n : Nat) (hsz : V 2 = nI n) (hn : n ≤ 7) (hst : ∀ q, q ≤ 7 → atF 8 (M 16) (nI q) = nI (st q) ∧ st q ≤ 210) : jD G 20 yX8_discountByTrying wsX8_discountByTrying [.ref (ad 11)] (wC G ad V M en wo) (some (.int ((tryF st n (V, M)).1 7))) (wC G ad (tryF st n (V, M)).1 (tryF st n (V, M)).2 en wo) := by
  refine jC.of (maxL := 1) (cc := cX8_discountByTrying) (ret := (some .int)) rfl (by decide) [some (.ref (ad 11))] rfl (Nat.le_of_ble_eq_true rfl) (j_args rfl) (fun X hX => ?_)
  refine j_aload_n hX dX8_discountByTrying_0 rfl ?_
  refine j_getf hX (v := .int (V 7)) dX8_discountByTrying_1 fX8_discountByTrying_76 11 (wCg11 _ _ _ _ _ _) rfl ?_
  refine j_iconst hX (v := -1) (by decide) dX8_discountByTrying_4 ?_
  refine j_icmp_ne hX (tgt := 26) dX8_discountByTrying_5 (by decide) (fun h5 => ?_) (fun h5 => ?_)
  · refine j_aload_n hX dX8_discountByTrying_26 rfl ?_
    refine j_getf hX (v := .int (V 7)) dX8_discountByTrying_27 fX8_discountByTrying_76 11 (wCg11 _ _ _ _ _ _) rfl ?_
    exact j_iret hX dX8_discountByTrying_30 (by have e8 : tryF st n (V, M) = (V, M) := (if_neg h5); rw [e8]; exact ⟨rfl, rfl⟩)
  · refine j_aload_n hX dX8_discountByTrying_8 rfl ?_
    refine j_aload_n hX dX8_discountByTrying_9 rfl ?_
    refine j_iconst hX (v := 0) (by decide) dX8_discountByTrying_10 ?_
    refine j_aload_n hX dX8_discountByTrying_11 rfl ?_
    refine j_getf hX (v := .ref (ad 1)) dX8_discountByTrying_12 fX8_discountByTrying_34 11 (wCg11 _ _ _ _ _ _) rfl ?_
    refine j_dV hX (nA := 0) (cq := (RX0, TX0, 5)) (As := []) (st := [.int 0, .ref (ad 11), .ref (ad 11)]) (st' := [.int (maskF n), .int 0, .ref (ad 11), .ref (ad 11)]) (ci := 2) rfl dX8_discountByTrying_15 (c_X0_mask G _ _ _ _ _ n hsz hn) gX8_discountByTrying_X0_mask rfl (by decide +kernel) (q := 1) (wCg1 _ _ _ _ _ _) (by omega) (Nat.le_of_ble_eq_true rfl) rfl (Nat.le_of_ble_eq_true rfl) rfl ⟨Nat.le_refl _, Nat.le_refl _⟩ rfl ?_
    refine j_iconst hX (v := 0) (by decide) dX8_discountByTrying_18 ?_
    refine j_iconst hX (v := 0) (by decide) dX8_discountByTrying_19 ?_
    refine j_dV hX (nA := 4) (cq := (RX8, TX8, 12)) (As := [.int 0, .int (maskF n), .int 0, .int 0]) (st := [.ref (ad 11)]) (st' := [.int ((mbF st 8 0 (maskF n) 0 0 (V, M)).1), .ref (ad 11)]) (ci := 9) rfl dX8_discountByTrying_20 (c_X8_mostByTrying G _ _ _ st 7 0 rfl _ _ _ _ _ hst) gX8_discountByTrying_X8_mostByTrying rfl (by decide +kernel) (q := 11) (wCg11 _ _ _ _ _ _) (by omega) (Nat.le_of_ble_eq_true rfl) rfl (Nat.le_of_ble_eq_true rfl) rfl ⟨Nat.le_refl _, Nat.le_refl _⟩ rfl ?_
    refine j_putf hX (ws' := (wC G ad (sV (mbF st 8 0 (maskF n) 0 0 (V, M)).2.1 7 ((mbF st 8 0 (maskF n) 0 0 (V, M)).1)) (mbF st 8 0 (maskF n) 0 0 (V, M)).2.2 en wo)) dX8_discountByTrying_23 fX8_discountByTrying_76 11 (wCg11 _ _ _ _ _ _) (Nat.le_of_ble_eq_true rfl) rfl rfl (wCp11_10 _ _ _ _ _ _ _) ?_
    refine j_aload_n hX dX8_discountByTrying_26 rfl ?_
    refine j_getf hX (v := .int ((mbF st 8 0 (maskF n) 0 0 (V, M)).1)) dX8_discountByTrying_27 fX8_discountByTrying_76 11 (wCg11 _ _ _ _ _ _) rfl ?_
    exact j_iret hX dX8_discountByTrying_30 (by have e8 : tryF st n (V, M) = ((sV (mbF st 8 0 (maskF n) 0 0 (V, M)).2.1 7 ((mbF st 8 0 (maskF n) 0 0 (V, M)).1)), (mbF st 8 0 (maskF n) 0 0 (V, M)).2.2) := (if_pos h5); rw [e8]; exact ⟨rfl, rfl⟩)

theorem atF_nI {N : Nat} {f : Nat → Int32} {i : Nat} (h : i < N) (hN : N < 2 ^ 31) : atF N f (nI i) = f i := by
  rw [atF, if_neg (nI_pos (by omega)), if_neg (nI_ge h hN), nI_clamp (by omega)]
theorem setF_nI {N : Nat} {f : Nat → Int32} {i : Nat} {x : Int32} (h : i < N) (hN : N < 2 ^ 31) : setF N f (nI i) x = upd f i x := by
  rw [setF, if_neg (nI_pos (by omega)), if_neg (nI_ge h hN), nI_clamp (by omega)]
def lsOK (s : VM) : Prop := ∃ u, u ≤ 210 ∧ s.1 9 = nI u
theorem addUseF_ok {s : VM} (h : lsOK s) (a b c : Int32) : lsOK (addUseF s a b c) := by
  unfold addUseF
  split
  · exact h
  · split
    · rename_i h2
      obtain ⟨u, hu, e⟩ := h
      rw [e] at h2
      have : u < 210 := (nI_ltI (b := 210) (by omega) (by decide)).mp h2
      refine ⟨u + 1, by omega, ?_⟩
      show s.1 9 + 1 = nI (u + 1)
      rw [e, nI_1]
    · exact h
theorem addUseF_M (s : VM) (a b c : Int32) {k : Nat} (h1 : Nat.beq k 13 = false) (h2 : Nat.beq k 14 = false) (h3 : Nat.beq k 15 = false) : (addUseF s a b c).2 k = s.2 k := by
  unfold addUseF
  split
  · rfl
  · split
    · exact (sM_ne h3).trans ((sM_ne h2).trans (sM_ne h1))
    · rfl
theorem auF_ok (os : Nat → ofr) (n j p : Nat) {s : VM} (h : lsOK s) (i : Nat) : lsOK (auF os n j p s i) := by
  refine itr_P (P := lsOK) (fun i s hs => ?_) h i
  unfold auS
  split
  · split
    · exact addUseF_ok hs _ _ _
    · exact hs
  · exact hs
theorem auF_M (os : Nat → ofr) (n j p : Nat) (s : VM) (i : Nat) {k : Nat} (h1 : Nat.beq k 13 = false) (h2 : Nat.beq k 14 = false) (h3 : Nat.beq k 15 = false) : (auF os n j p s i).2 k = s.2 k := by
  refine itr_M (fun i s => ?_) s i
  unfold auS
  split
  · split
    · exact addUseF_M _ _ _ _ h1 h2 h3
    · rfl
  · rfl
theorem fiF_ok (os : Nat → ofr) (o n : Nat) (c : Int32) (p : Nat) {s : VM} (h : lsOK s) (k : Nat) : lsOK (fiF os o n c p s k) := by
  refine itr_P (P := lsOK) (fun i s hs => ?_) h k
  unfold fiS
  split
  · exact hs
  · exact auF_ok _ _ _ _ hs _
theorem fiF_M (os : Nat → ofr) (o n : Nat) (c : Int32) (p : Nat) (s : VM) (i : Nat) {k : Nat} (h1 : Nat.beq k 13 = false) (h2 : Nat.beq k 14 = false) (h3 : Nat.beq k 15 = false) : (fiF os o n c p s i).2 k = s.2 k := by
  refine itr_M (fun i s => ?_) s i
  unfold fiS
  split
  · rfl
  · exact auF_M _ _ _ _ _ _ h1 h2 h3
def stOK (p : Nat) (s : VM) : Prop := lsOK s ∧ ∀ q, q < p → ∃ u, u ≤ 210 ∧ s.2 16 q = nI u
theorem stOK_step {p : Nat} {s : VM} (hp : p < 8) (h : stOK p s) : stOK (p + 1) (s.1, sM s.2 16 (setF 8 (s.2 16) (nI p) (s.1 9))) := by
  refine ⟨h.1, fun q hq => ?_⟩
  show ∃ u, u ≤ 210 ∧ setF 8 (s.2 16) (nI p) (s.1 9) q = nI u
  rw [setF_nI hp (by decide)]
  by_cases e : q = p
  · subst e
    rw [pk_us]
    exact h.1
  · rw [pk_un e]
    exact h.2 q (by omega)
theorem foF_st (os : Nat → ofr) (o n : Nat) (c : Int32) {s : VM} (h : lsOK s) : ∀ k, k ≤ 8 → stOK k (foF os o n c s k)
  | 0, _ => ⟨h, fun q hq => absurd hq (Nat.not_lt_zero _)⟩
  | k + 1, hk => by
    have h1 := stOK_step (by omega) (foF_st os o n c h k (by omega))
    refine ⟨fiF_ok os o n c k h1.1 o, fun q hq => ?_⟩
    show ∃ u, u ≤ 210 ∧ (fiF os o n c k _ o).2 16 q = nI u
    rw [fiF_M os o n c k _ o rfl rfl rfl]
    exact h1.2 q hq
theorem ftF_st (n : Nat) {s : VM} (h : stOK n s) : ∀ k, n + k ≤ 8 → stOK (n + k) (ftF n s k)
  | 0, _ => h
  | k + 1, hk => stOK_step (p := n + k) (by omega) (ftF_st n h k (by omega))
theorem fillF_st (os : Nat → ofr) (o n : Nat) (hn : n ≤ 7) (c : Int32) (s : VM) : stOK 8 (fillF os o n c s) := by
  have h0 : lsOK (sV s.1 9 0, s.2) := ⟨0, by omega, rfl⟩
  have h := ftF_st n (foF_st os o n c h0 n (by omega)) (8 - n) (by omega)
  rwa [show n + (8 - n) = 8 by omega] at h
def stF (M : Nat → Nat → Int32) (q : Nat) : Nat := (M 16 q).toNatClampNeg
def unF (V : Nat → Int32) : Nat := (V 9).toNatClampNeg
theorem stF_ok {s : VM} (h : stOK 8 s) : ∀ q, q ≤ 7 → atF 8 (s.2 16) (nI q) = nI (stF s.2 q) ∧ stF s.2 q ≤ 210 := by
  intro q hq
  obtain ⟨u, hu, e⟩ := h.2 q (by omega)
  rw [atF_nI (by omega) (by decide), stF, e, nI_clamp (by omega)]
  exact ⟨rfl, hu⟩
theorem unF_ok {s : VM} (h : stOK 8 s) : s.1 9 = nI (unF s.1) ∧ unF s.1 ≤ 210 := by
  obtain ⟨u, hu, e⟩ := h.1
  rw [unF, e, nI_clamp (by omega)]
  exact ⟨rfl, hu⟩
def lfA (os : Nat → ofr) (o : Nat) (f : Nat → Int32) (c : Int32) (b : Nat → Int32) (n : Nat) : Nat → Int32 := itr (fun j b => setF 6 b (nI j) (leftF os o f c j)) n b
/-- what the search begins with, and the whole search -/
def preF (os : Nat → ofr) (o n : Nat) (c : Int32) (s1 : VM) : VM := ((sV (sV (sV s1.1 8 (priceOfF (s1.2 4) (maskF n) n)) 7 (-1)) 6 (-1)), (sM (sM (sM s1.2 17 (lfA os o (s1.2 10) c (s1.2 17) 6)) 18 (sortA (s1.2 9) (s1.2 18) 6)) 19 (sharesF (sM (sM s1.2 17 (lfA os o (s1.2 10) c (s1.2 17) 6)) 18 (sortA (s1.2 9) (s1.2 18) 6)) (unF s1.1))))
def runF (os : Nat → ofr) (o n : Nat) (c : Int32) (s : VM) : VM := decF (stF (fillF os o n c s).2) 8 0 (maskF n) 0 0 (preF os o n c (fillF os o n c s))
set_option maxHeartbeats 4000000 in
set_option maxRecDepth 100000 in
theorem c_X8_run (G : jG) (ad : Nat → Nat) (V : Nat → Int32) (M : Nat → Nat → Int32) (os : Nat → ofr) (o : Nat) (c : Int32) (n : Nat) (hsz : V 2 = nI n) (hn : n ≤ 7) (hso : V 4 = nI o) (ho6 : o ≤ 6) (hos : ∀ j, j < o → okO (os j)) : jD G 12 yX8_run wsX8_run [.ref (ad 11), .int c] (wC G ad V M (enO ad o) (wO ad os o)) none (wC G ad (runF os o n c (V, M)).1 (runF os o n c (V, M)).2 (enO ad o) (wO ad os o)) := by
  refine jC.of (maxL := 3) (cc := cX8_run) (ret := none) rfl (by decide) [some (.ref (ad 11)), some (.int c), none] rfl (Nat.le_of_ble_eq_true rfl) (j_args rfl) (fun X hX => ?_)
  refine j_aload_n hX dX8_run_0 rfl ?_
  refine j_getf hX (v := .ref (ad 12)) dX8_run_1 fX8_run_12 11 (wCg11 _ _ _ _ _ _) rfl ?_
  refine j_aload_n hX dX8_run_4 rfl ?_
  refine j_getf hX (v := .ref (ad 1)) dX8_run_5 fX8_run_34 11 (wCg11 _ _ _ _ _ _) rfl ?_
  refine j_aload_n hX dX8_run_8 rfl ?_
  refine j_getf hX (v := .ref (ad 5)) dX8_run_9 fX8_run_38 11 (wCg11 _ _ _ _ _ _) rfl ?_
  refine j_iload_n hX dX8_run_12 rfl ?_
  refine j_dV hX (nA := 3) (cq := (RX10, TX10, 5)) (As := [.ref (ad 1), .ref (ad 5), .int c]) (st := []) (st' := []) (ci := 11) rfl dX8_run_13 (c_X10_fill G _ _ _ _ _ _ n hsz hn hso ho6 hos) gX8_run_X10_fill rfl (by decide +kernel) (q := 12) (wCg12 _ _ _ _ _ _) (by omega) (Nat.le_of_ble_eq_true rfl) rfl (Nat.le_of_ble_eq_true rfl) rfl ⟨Nat.le_refl _, Nat.le_refl _⟩ rfl ?_
  refine j_iconst hX (v := 0) (by decide) dX8_run_16 ?_
  refine j_istore_n hX (ls' := [some (.ref (ad 11)), some (.int c), some (.int 0)]) dX8_run_17 (Nat.le_of_ble_eq_true rfl) rfl rfl ?_
  have L18 : ∀ zi i : Nat, 0 ≤ i → i + zi = 6 → jW G X 0 0 18 [some (.ref (ad 11)), some (.int c), some (.int (nI i))] [] (wC G ad (fillF os o n c (V, M)).1 (sM (fillF os o n c (V, M)).2 17 (lfA os o ((fillF os o n c (V, M)).2 10) c ((fillF os o n c (V, M)).2 17) i)) (enO ad o) (wO ad os o)) := by
    intro zi
    induction zi with
    | zero =>
      intro i h0 hi
      have hin : i = 6 := by omega
      refine j_iload_n hX dX8_run_18 rfl ?_
      refine j_bipush hX (v := 6) (by decide) dX8_run_19 ?_
      refine j_icmp_ge_t hX (tgt := 47) dX8_run_21 (by decide) (nI_le (a := 6) (b := i) (by omega) (by omega)) ?_
      refine j_aload_n hX dX8_run_47 rfl ?_
      refine j_aload_n hX dX8_run_48 rfl ?_
      refine j_getf hX (v := .ref (ad 1)) dX8_run_49 fX8_run_34 11 (wCg11 _ _ _ _ _ _) rfl ?_
      refine j_aload_n hX dX8_run_52 rfl ?_
      refine j_getf hX (v := .ref (ad 1)) dX8_run_53 fX8_run_34 11 (wCg11 _ _ _ _ _ _) rfl ?_
      refine j_dV hX (nA := 0) (cq := (RX0, TX0, 5)) (As := []) (st := [.ref (ad 1), .ref (ad 11)]) (st' := [.int (maskF n), .ref (ad 1), .ref (ad 11)]) (ci := 2) rfl dX8_run_56 (c_X0_mask G _ _ _ _ _ n ((fillF_V _ _ _ _ _ 2 rfl).trans hsz) hn) gX8_run_X0_mask rfl (by decide +kernel) (q := 1) (wCg1 _ _ _ _ _ _) (by omega) (Nat.le_of_ble_eq_true rfl) rfl (Nat.le_of_ble_eq_true rfl) rfl ⟨Nat.le_refl _, Nat.le_refl _⟩ rfl ?_
      refine j_dV hX (nA := 1) (cq := (RX0, TX0, 5)) (As := [.int (maskF n)]) (st := [.ref (ad 11)]) (st' := [.int (priceOfF ((fillF os o n c (V, M)).2 4) (maskF n) n), .ref (ad 11)]) (ci := 2) rfl dX8_run_59 (c_X0_priceOf G _ _ _ _ _ _ n ((fillF_V _ _ _ _ _ 2 rfl).trans hsz) hn) gX8_run_X0_priceOf rfl (by decide +kernel) (q := 1) (wCg1 _ _ _ _ _ _) (by omega) (Nat.le_of_ble_eq_true rfl) rfl (Nat.le_of_ble_eq_true rfl) rfl ⟨Nat.le_refl _, Nat.le_refl _⟩ rfl ?_
      refine j_putf hX (ws' := (wC G ad (sV (fillF os o n c (V, M)).1 8 (priceOfF ((fillF os o n c (V, M)).2 4) (maskF n) n)) (sM (fillF os o n c (V, M)).2 17 (lfA os o ((fillF os o n c (V, M)).2 10) c ((fillF os o n c (V, M)).2 17) i)) (enO ad o) (wO ad os o))) dX8_run_62 fX8_run_66 11 (wCg11 _ _ _ _ _ _) (Nat.le_of_ble_eq_true rfl) rfl rfl (wCp11_11 _ _ _ _ _ _ _) ?_
      refine j_aload_n hX dX8_run_65 rfl ?_
      refine j_dV hX (nA := 0) (cq := (RX8, TX8, 12)) (As := []) (st := []) (st' := []) (ci := 9) rfl dX8_run_66 (c_X8_sortByAmount G _ _ _ _ _) gX8_run_X8_sortByAmount rfl (by decide +kernel) (q := 11) (wCg11 _ _ _ _ _ _) (by omega) (Nat.le_of_ble_eq_true rfl) rfl (Nat.le_of_ble_eq_true rfl) rfl ⟨Nat.le_refl _, Nat.le_refl _⟩ rfl ?_
      refine j_aload_n hX dX8_run_69 rfl ?_
      refine j_dV hX (nA := 0) (cq := (RX8, TX8, 12)) (As := []) (st := []) (st' := []) (ci := 9) rfl dX8_run_70 (c_X8_setShares G _ _ _ _ _ _ (unF_ok (fillF_st os o n hn c (V, M))).1 (unF_ok (fillF_st os o n hn c (V, M))).2) gX8_run_X8_setShares rfl (by decide +kernel) (q := 11) (wCg11 _ _ _ _ _ _) (by omega) (Nat.le_of_ble_eq_true rfl) rfl (Nat.le_of_ble_eq_true rfl) rfl ⟨Nat.le_refl _, Nat.le_refl _⟩ rfl ?_
      refine j_aload_n hX dX8_run_73 rfl ?_
      refine j_iconst hX (v := -1) (by decide) dX8_run_74 ?_
      refine j_putf hX (ws' := (wC G ad (sV (sV (fillF os o n c (V, M)).1 8 (priceOfF ((fillF os o n c (V, M)).2 4) (maskF n) n)) 7 (-1)) (sM (sM (sM (fillF os o n c (V, M)).2 17 (lfA os o ((fillF os o n c (V, M)).2 10) c ((fillF os o n c (V, M)).2 17) i)) 18 (sortA ((fillF os o n c (V, M)).2 9) ((fillF os o n c (V, M)).2 18) 6)) 19 (sharesF (sM (sM (fillF os o n c (V, M)).2 17 (lfA os o ((fillF os o n c (V, M)).2 10) c ((fillF os o n c (V, M)).2 17) i)) 18 (sortA ((fillF os o n c (V, M)).2 9) ((fillF os o n c (V, M)).2 18) 6)) (unF (fillF os o n c (V, M)).1))) (enO ad o) (wO ad os o))) dX8_run_75 fX8_run_76 11 (wCg11 _ _ _ _ _ _) (Nat.le_of_ble_eq_true rfl) rfl rfl (wCp11_10 _ _ _ _ _ _ _) ?_
      refine j_aload_n hX dX8_run_78 rfl ?_
      refine j_iconst hX (v := -1) (by decide) dX8_run_79 ?_
      refine j_putf hX (ws' := (wC G ad (sV (sV (sV (fillF os o n c (V, M)).1 8 (priceOfF ((fillF os o n c (V, M)).2 4) (maskF n) n)) 7 (-1)) 6 (-1)) (sM (sM (sM (fillF os o n c (V, M)).2 17 (lfA os o ((fillF os o n c (V, M)).2 10) c ((fillF os o n c (V, M)).2 17) i)) 18 (sortA ((fillF os o n c (V, M)).2 9) ((fillF os o n c (V, M)).2 18) 6)) 19 (sharesF (sM (sM (fillF os o n c (V, M)).2 17 (lfA os o ((fillF os o n c (V, M)).2 10) c ((fillF os o n c (V, M)).2 17) i)) 18 (sortA ((fillF os o n c (V, M)).2 9) ((fillF os o n c (V, M)).2 18) 6)) (unF (fillF os o n c (V, M)).1))) (enO ad o) (wO ad os o))) dX8_run_80 fX8_run_79 11 (wCg11 _ _ _ _ _ _) (Nat.le_of_ble_eq_true rfl) rfl rfl (wCp11_9 _ _ _ _ _ _ _) ?_
      refine j_aload_n hX dX8_run_83 rfl ?_
      refine j_iconst hX (v := 0) (by decide) dX8_run_84 ?_
      refine j_aload_n hX dX8_run_85 rfl ?_
      refine j_getf hX (v := .ref (ad 1)) dX8_run_86 fX8_run_34 11 (wCg11 _ _ _ _ _ _) rfl ?_
      refine j_dV hX (nA := 0) (cq := (RX0, TX0, 5)) (As := []) (st := [.int 0, .ref (ad 11)]) (st' := [.int (maskF n), .int 0, .ref (ad 11)]) (ci := 2) rfl dX8_run_89 (c_X0_mask G _ _ _ _ _ n ((fillF_V _ _ _ _ _ 2 rfl).trans hsz) hn) gX8_run_X0_mask rfl (by decide +kernel) (q := 1) (wCg1 _ _ _ _ _ _) (by omega) (Nat.le_of_ble_eq_true rfl) rfl (Nat.le_of_ble_eq_true rfl) rfl ⟨Nat.le_refl _, Nat.le_refl _⟩ rfl ?_
      refine j_iconst hX (v := 0) (by decide) dX8_run_92 ?_
      refine j_iconst hX (v := 0) (by decide) dX8_run_93 ?_
      refine j_dV hX (nA := 4) (cq := (RX8, TX8, 12)) (As := [.int 0, .int (maskF n), .int 0, .int 0]) (st := []) (st' := []) (ci := 9) rfl dX8_run_94 (c_X8_decide G _ _ _ (stF (fillF os o n c (V, M)).2) 7 0 rfl _ _ _ _ _ (stF_ok (fillF_st os o n hn c (V, M)))) gX8_run_X8_decide rfl (by decide +kernel) (q := 11) (wCg11 _ _ _ _ _ _) (by omega) (Nat.le_of_ble_eq_true rfl) rfl (Nat.le_of_ble_eq_true rfl) rfl ⟨Nat.le_refl _, Nat.le_refl _⟩ rfl ?_
      exact j_vret hX dX8_run_97 ⟨rfl, by rw [hin]; rfl⟩
    | succ zi ih =>
      intro i h0 hi
      have hin : i < 6 := by omega
      refine j_iload_n hX dX8_run_18 rfl ?_
      refine j_bipush hX (v := 6) (by decide) dX8_run_19 ?_
      refine j_icmp_ge_f hX (tgt := 47) dX8_run_21 (by decide) (nI_ge (a := i) (b := 6) (by omega) (by decide)) ?_
      refine j_aload_n hX dX8_run_24 rfl ?_
      refine j_getf hX (v := .ref (ad 17)) dX8_run_25 fX8_run_18 11 (wCg11 _ _ _ _ _ _) rfl ?_
      refine j_iload_n hX dX8_run_28 rfl ?_
      refine j_aload_n hX dX8_run_29 rfl ?_
      refine j_getf hX (v := .ref (ad 5)) dX8_run_30 fX8_run_38 11 (wCg11 _ _ _ _ _ _) rfl ?_
      refine j_iload_n hX dX8_run_33 rfl ?_
      refine j_iload_n hX dX8_run_34 rfl ?_
      refine j_dV hX (nA := 2) (cq := (RX6, TX6, 6)) (As := [.int c, .int (nI i)]) (st := [.int (nI i), .ref (ad 17)]) (st' := [.int (leftF os o ((fillF os o n c (V, M)).2 10) c i), .int (nI i), .ref (ad 17)]) (ci := 7) rfl dX8_run_35 (c_X6_leftFor G _ _ _ _ _ _ i (by omega) ho6 hos) gX8_run_X6_leftFor rfl (by decide +kernel) (q := 5) (wCg5 _ _ _ _ _ _) (by omega) (Nat.le_of_ble_eq_true rfl) rfl (Nat.le_of_ble_eq_true rfl) rfl ⟨Nat.le_refl _, Nat.le_refl _⟩ rfl ?_
      refine j_dSN hX (nA := 3) (As := [.ref (ad 17), .int (nI i), .int (leftF os o ((fillF os o n c (V, M)).2 10) c i)]) (st := []) (st' := []) dX8_run_38 (c_setAt G (q := 17) (wCg17 _ _ _ _ _ _) (by decide) (w1 := (wC G ad (fillF os o n c (V, M)).1 (sM (fillF os o n c (V, M)).2 17 (setF 6 (lfA os o ((fillF os o n c (V, M)).2 10) c ((fillF os o n c (V, M)).2 17) i) (nI i) (leftF os o ((fillF os o n c (V, M)).2 10) c i))) (enO ad o) (wO ad os o))) (wCo17 _ _ _ _ _ _ _ _)) gX8_run_X11_setAt_n52 rfl (by decide +kernel) (host := "BasketOffers") (by decide +kernel) (by decide +kernel) (by decide +kernel) (by omega) (Nat.le_of_ble_eq_true rfl) rfl (Nat.le_of_ble_eq_true rfl) rfl ⟨Nat.le_refl _, Nat.le_refl _⟩ rfl ?_
      refine j_iinc hX (v := nI (i + 1)) (ls' := [some (.ref (ad 11)), some (.int c), some (.int (nI (i + 1)))]) dX8_run_41 rfl (j_inc1 _) rfl rfl ?_
      refine j_goto hX (tgt := 18) dX8_run_44 (by decide) ?_
      exact ih (i + 1) (by omega) (by omega)
  refine jW.world (ws' := (wC G ad (fillF os o n c (V, M)).1 (sM (fillF os o n c (V, M)).2 17 (lfA os o ((fillF os o n c (V, M)).2 10) c ((fillF os o n c (V, M)).2 17) 0)) (enO ad o) (wO ad os o))) rfl ?_
  exact L18 6 0 (Nat.le_refl _) (by omega)

