theorem fX1_netAt_9 : jF wsX1_netAt RX1 9 3 2 true (.array .int) := ⟨(RX1, TX1, 4), tyX1, rfl, by decide, by decide +kernel, by decide +kernel, tyX1_ok, nmX1, rfl, by decide +kernel, by decide +kernel⟩
theorem fX1_netOf_9 : jF wsX1_netOf RX1 9 3 2 true (.array .int) := ⟨(RX1, TX1, 4), tyX1, rfl, by decide, by decide +kernel, by decide +kernel, tyX1_ok, nmX1, rfl, by decide +kernel, by decide +kernel⟩
theorem fX1_total_18 : jF wsX1_total RX1 18 3 0 true (.object "BasketOffers$Basket") := ⟨(RX1, TX1, 4), tyX1, rfl, by decide, by decide +kernel, by decide +kernel, tyX1_ok, nmX1, rfl, by decide +kernel, by decide +kernel⟩
theorem fX1_spread_15 : jF wsX1_spread RX1 15 3 3 true (.array .int) := ⟨(RX1, TX1, 4), tyX1, rfl, by decide, by decide +kernel, by decide +kernel, tyX1_ok, nmX1, rfl, by decide +kernel, by decide +kernel⟩
theorem fX1_spread_9 : jF wsX1_spread RX1 9 3 2 true (.array .int) := ⟨(RX1, TX1, 4), tyX1, rfl, by decide, by decide +kernel, by decide +kernel, tyX1_ok, nmX1, rfl, by decide +kernel, by decide +kernel⟩
theorem fX1_write_18 : jF wsX1_write RX1 18 3 0 true (.object "BasketOffers$Basket") := ⟨(RX1, TX1, 4), tyX1, rfl, by decide, by decide +kernel, by decide +kernel, tyX1_ok, nmX1, rfl, by decide +kernel, by decide +kernel⟩
theorem fX1_write_22 : jF wsX1_write RX1 22 3 1 true (.object "BasketOffers$Search") := ⟨(RX1, TX1, 4), tyX1, rfl, by decide, by decide +kernel, by decide +kernel, tyX1_ok, nmX1, rfl, by decide +kernel, by decide +kernel⟩
theorem fX1_write_9 : jF wsX1_write RX1 9 3 2 true (.array .int) := ⟨(RX1, TX1, 4), tyX1, rfl, by decide, by decide +kernel, by decide +kernel, tyX1_ok, nmX1, rfl, by decide +kernel, by decide +kernel⟩
theorem fX4_itemsSold_29 : jF wsX4_itemsSold RX4 29 6 4 false .int := ⟨(RX4, TX4, 9), tyX4, rfl, by decide, by decide +kernel, by decide +kernel, tyX4_ok, nmX4, rfl, by decide +kernel, fun h => by cases h⟩
theorem fX4_pricesSold_33 : jF wsX4_pricesSold RX4 33 6 5 false .int := ⟨(RX4, TX4, 9), tyX4, rfl, by decide, by decide +kernel, by decide +kernel, tyX4_ok, nmX4, rfl, by decide +kernel, fun h => by cases h⟩
theorem fX4_netsSold_36 : jF wsX4_netsSold RX4 36 6 6 false .int := ⟨(RX4, TX4, 9), tyX4, rfl, by decide, by decide +kernel, by decide +kernel, tyX4_ok, nmX4, rfl, by decide +kernel, fun h => by cases h⟩
theorem fX4_usesCounted_39 : jF wsX4_usesCounted RX4 39 6 8 false .int := ⟨(RX4, TX4, 9), tyX4, rfl, by decide, by decide +kernel, by decide +kernel, tyX4_ok, nmX4, rfl, by decide +kernel, fun h => by cases h⟩
theorem fX4_kept_36 : jF wsX4_kept RX4 36 6 6 false .int := ⟨(RX4, TX4, 9), tyX4, rfl, by decide, by decide +kernel, by decide +kernel, tyX4_ok, nmX4, rfl, by decide +kernel, fun h => by cases h⟩
theorem fX4_kept_42 : jF wsX4_kept RX4 42 6 7 false .int := ⟨(RX4, TX4, 9), tyX4, rfl, by decide, by decide +kernel, by decide +kernel, tyX4_ok, nmX4, rfl, by decide +kernel, fun h => by cases h⟩
theorem fX4_buyerOf_18 : jF wsX4_buyerOf RX4 18 6 2 true (.array .int) := ⟨(RX4, TX4, 9), tyX4, rfl, by decide, by decide +kernel, by decide +kernel, tyX4_ok, nmX4, rfl, by decide +kernel, by decide +kernel⟩
theorem fX4_countUses_39 : jF wsX4_countUses RX4 39 6 8 false .int := ⟨(RX4, TX4, 9), tyX4, rfl, by decide, by decide +kernel, by decide +kernel, tyX4_ok, nmX4, rfl, by decide +kernel, fun h => by cases h⟩
theorem fX4_wasSold_9 : jF wsX4_wasSold RX4 9 6 0 true (.array .boolean) := ⟨(RX4, TX4, 9), tyX4, rfl, by decide, by decide +kernel, by decide +kernel, tyX4_ok, nmX4, rfl, by decide +kernel, by decide +kernel⟩
theorem fX4_wasGivenBack_15 : jF wsX4_wasGivenBack RX4 15 6 1 true (.array .boolean) := ⟨(RX4, TX4, 9), tyX4, rfl, by decide, by decide +kernel, by decide +kernel, tyX4_ok, nmX4, rfl, by decide +kernel, by decide +kernel⟩
theorem fX4_enterSale_9 : jF wsX4_enterSale RX4 9 6 0 true (.array .boolean) := ⟨(RX4, TX4, 9), tyX4, rfl, by decide, by decide +kernel, by decide +kernel, tyX4_ok, nmX4, rfl, by decide +kernel, by decide +kernel⟩
theorem fX4_enterSale_18 : jF wsX4_enterSale RX4 18 6 2 true (.array .int) := ⟨(RX4, TX4, 9), tyX4, rfl, by decide, by decide +kernel, by decide +kernel, tyX4_ok, nmX4, rfl, by decide +kernel, by decide +kernel⟩
theorem fX4_enterSale_22 : jF wsX4_enterSale RX4 22 6 3 true (.array .int) := ⟨(RX4, TX4, 9), tyX4, rfl, by decide, by decide +kernel, by decide +kernel, tyX4_ok, nmX4, rfl, by decide +kernel, by decide +kernel⟩
theorem fX4_enterSale_29 : jF wsX4_enterSale RX4 29 6 4 false .int := ⟨(RX4, TX4, 9), tyX4, rfl, by decide, by decide +kernel, by decide +kernel, tyX4_ok, nmX4, rfl, by decide +kernel, fun h => by cases h⟩
theorem fX4_enterSale_33 : jF wsX4_enterSale RX4 33 6 5 false .int := ⟨(RX4, TX4, 9), tyX4, rfl, by decide, by decide +kernel, by decide +kernel, tyX4_ok, nmX4, rfl, by decide +kernel, fun h => by cases h⟩
theorem fX4_enterSale_36 : jF wsX4_enterSale RX4 36 6 6 false .int := ⟨(RX4, TX4, 9), tyX4, rfl, by decide, by decide +kernel, by decide +kernel, tyX4_ok, nmX4, rfl, by decide +kernel, fun h => by cases h⟩
theorem fX4_enterReturn_22 : jF wsX4_enterReturn RX4 22 6 3 true (.array .int) := ⟨(RX4, TX4, 9), tyX4, rfl, by decide, by decide +kernel, by decide +kernel, tyX4_ok, nmX4, rfl, by decide +kernel, by decide +kernel⟩
theorem fX4_enterReturn_15 : jF wsX4_enterReturn RX4 15 6 1 true (.array .boolean) := ⟨(RX4, TX4, 9), tyX4, rfl, by decide, by decide +kernel, by decide +kernel, tyX4_ok, nmX4, rfl, by decide +kernel, by decide +kernel⟩
theorem fX4_enterReturn_42 : jF wsX4_enterReturn RX4 42 6 7 false .int := ⟨(RX4, TX4, 9), tyX4, rfl, by decide, by decide +kernel, by decide +kernel, tyX4_ok, nmX4, rfl, by decide +kernel, fun h => by cases h⟩
set_option maxHeartbeats 4000000 in
set_option maxRecDepth 100000 in
theorem c_X1_netAt (G : jG) (ad : Nat → Nat) (V : Nat → Int32) (M : Nat → Nat → Int32) (en : Nat → Option Nat) (wo : va_W) (x : Int32) : jD G 1 yX1_netAt wsX1_netAt [.ref (ad 22), .int x] (wC G ad V M en wo) (some (.int (atF 7 (M 23) x))) (wC G ad V M en wo) := by
  refine jC.of (maxL := 2) (cc := cX1_netAt) (ret := (some .int)) rfl (by decide) [some (.ref (ad 22)), some (.int x)] rfl (Nat.le_of_ble_eq_true rfl) (j_args rfl) (fun X hX => ?_)
  refine j_aload_n hX dX1_netAt_0 rfl ?_
  refine j_getf hX (v := .ref (ad 23)) dX1_netAt_1 fX1_netAt_9 22 (wCg22 _ _ _ _ _ _) rfl ?_
  refine j_iload_n hX dX1_netAt_4 rfl ?_
  refine j_dSN hX (nA := 2) (As := [.ref (ad 23), .int x]) (st := []) (st' := [.int (atF 7 (M 23) x)]) dX1_netAt_5 (c_at G (q := 23) (wCg23 _ _ _ _ _ _) (by decide)) gX1_netAt_X11_at_n74 rfl (by decide +kernel) (host := "BasketOffers") (by decide +kernel) (by decide +kernel) (by decide +kernel) (by omega) (Nat.le_of_ble_eq_true rfl) rfl (Nat.le_of_ble_eq_true rfl) rfl ⟨Nat.le_refl _, Nat.le_refl _⟩ rfl ?_
  exact j_iret hX dX1_netAt_8 ⟨rfl, rfl⟩

set_option maxHeartbeats 4000000 in
set_option maxRecDepth 100000 in
theorem c_X1_netOf (G : jG) (ad : Nat → Nat) (V : Nat → Int32) (M : Nat → Nat → Int32) (en : Nat → Option Nat) (wo : va_W) (mask : Int32) : jD G 1 yX1_netOf wsX1_netOf [.ref (ad 22), .int mask] (wC G ad V M en wo) (some (.int (mostSum (M 23) mask 7))) (wC G ad V M en wo) := by
  refine jC.of (maxL := 4) (cc := cX1_netOf) (ret := (some .int)) rfl (by decide) [some (.ref (ad 22)), some (.int mask), none, none] rfl (Nat.le_of_ble_eq_true rfl) (j_args rfl) (fun X hX => ?_)
  refine j_iconst hX (v := 0) (by decide) dX1_netOf_0 ?_
  refine j_istore_n hX (ls' := [some (.ref (ad 22)), some (.int mask), some (.int 0), none]) dX1_netOf_1 (Nat.le_of_ble_eq_true rfl) rfl rfl ?_
  refine j_iconst hX (v := 0) (by decide) dX1_netOf_2 ?_
  refine j_istore_n hX (ls' := [some (.ref (ad 22)), some (.int mask), some (.int 0), some (.int 0)]) dX1_netOf_3 (Nat.le_of_ble_eq_true rfl) rfl rfl ?_
  have L4 : ∀ zi i : Nat, 0 ≤ i → i + zi = 7 → jW G X 0 0 4 [some (.ref (ad 22)), some (.int mask), some (.int (mostSum (M 23) mask i)), some (.int (nI i))] [] (wC G ad V M en wo) := by
    intro zi
    induction zi with
    | zero =>
      intro i h0 hi
      have hin : i = 7 := by omega
      refine j_iload_n hX dX1_netOf_4 rfl ?_
      refine j_bipush hX (v := 7) (by decide) dX1_netOf_5 ?_
      refine j_icmp_ge_t hX (tgt := 35) dX1_netOf_7 (by decide) (nI_le (a := 7) (b := i) (by omega) (by omega)) ?_
      refine j_iload_n hX dX1_netOf_35 rfl ?_
      exact j_iret hX dX1_netOf_36 ⟨by rw [hin], rfl⟩
    | succ zi ih =>
      intro i h0 hi
      have hin : i < 7 := by omega
      refine j_iload_n hX dX1_netOf_4 rfl ?_
      refine j_bipush hX (v := 7) (by decide) dX1_netOf_5 ?_
      refine j_icmp_ge_f hX (tgt := 35) dX1_netOf_7 (by decide) (nI_ge (a := i) (b := 7) (by omega) (by decide)) ?_
      refine j_iload_n hX dX1_netOf_10 rfl ?_
      refine j_iload_n hX dX1_netOf_11 rfl ?_
      refine j_dSN hX (nA := 2) (As := [.int mask, .int (nI i)]) (st := []) (st' := [.int (isInV mask (nI i))]) dX1_netOf_12 (c_isIn G) gX1_netOf_X11_isIn_n70 rfl (by decide +kernel) (host := "BasketOffers") (by decide +kernel) (by decide +kernel) (by decide +kernel) (by omega) (Nat.le_of_ble_eq_true rfl) rfl (Nat.le_of_ble_eq_true rfl) rfl ⟨Nat.le_refl _, Nat.le_refl _⟩ rfl ?_
      refine j_if_eq hX (tgt := 29) dX1_netOf_15 (by decide) (fun h15 => ?_) (fun h15 => ?_)
      · refine j_iinc hX (v := nI (i + 1)) (ls' := [some (.ref (ad 22)), some (.int mask), some (.int (mostSum (M 23) mask i)), some (.int (nI (i + 1)))]) dX1_netOf_29 rfl (j_inc1 _) rfl rfl ?_
        refine j_goto hX (tgt := 4) dX1_netOf_32 (by decide) ?_
        refine jW.locals (ls' := [some (.ref (ad 22)), some (.int mask), some (.int (mostSum (M 23) mask (i + 1))), some (.int (nI (i + 1)))]) (by rw [show mostSum (M 23) mask (i + 1) = mostSum (M 23) mask i from (if_pos h15)]) ?_
        exact ih (i + 1) (by omega) (by omega)
      · refine j_iload_n hX dX1_netOf_18 rfl ?_
        refine j_aload_n hX dX1_netOf_19 rfl ?_
        refine j_getf hX (v := .ref (ad 23)) dX1_netOf_20 fX1_netOf_9 22 (wCg22 _ _ _ _ _ _) rfl ?_
        refine j_iload_n hX dX1_netOf_23 rfl ?_
        refine j_dSN hX (nA := 2) (As := [.ref (ad 23), .int (nI i)]) (st := [.int (mostSum (M 23) mask i)]) (st' := [.int (atF 7 (M 23) (nI i)), .int (mostSum (M 23) mask i)]) dX1_netOf_24 (c_at G (q := 23) (wCg23 _ _ _ _ _ _) (by decide)) gX1_netOf_X11_at_n74 rfl (by decide +kernel) (host := "BasketOffers") (by decide +kernel) (by decide +kernel) (by decide +kernel) (by omega) (Nat.le_of_ble_eq_true rfl) rfl (Nat.le_of_ble_eq_true rfl) rfl ⟨Nat.le_refl _, Nat.le_refl _⟩ rfl ?_
        refine j_iadd hX dX1_netOf_27 ?_
        refine j_istore_n hX (ls' := [some (.ref (ad 22)), some (.int mask), some (.int ((mostSum (M 23) mask i) + (atF 7 (M 23) (nI i)))), some (.int (nI i))]) dX1_netOf_28 (Nat.le_of_ble_eq_true rfl) rfl rfl ?_
        refine j_iinc hX (v := nI (i + 1)) (ls' := [some (.ref (ad 22)), some (.int mask), some (.int ((mostSum (M 23) mask i) + (atF 7 (M 23) (nI i)))), some (.int (nI (i + 1)))]) dX1_netOf_29 rfl (j_inc1 _) rfl rfl ?_
        refine j_goto hX (tgt := 4) dX1_netOf_32 (by decide) ?_
        refine jW.locals (ls' := [some (.ref (ad 22)), some (.int mask), some (.int (mostSum (M 23) mask (i + 1))), some (.int (nI (i + 1)))]) (by rw [show mostSum (M 23) mask (i + 1) = (mostSum (M 23) mask i) + (atF 7 (M 23) (nI i)) from (if_neg h15)]) ?_
        exact ih (i + 1) (by omega) (by omega)
  exact L4 7 0 (Nat.le_refl _) (by omega)

set_option maxHeartbeats 4000000 in
set_option maxRecDepth 100000 in
theorem c_X1_total (G : jG) (ad : Nat → Nat) (V : Nat → Int32) (M : Nat → Nat → Int32) (en : Nat → Option Nat) (wo : va_W) (n : Nat) (hsz : V 2 = nI n) (hn : n ≤ 7) : jD G 2 yX1_total wsX1_total [.ref (ad 22)] (wC G ad V M en wo) (some (.int (mostSum (M 23) (maskF n) 7))) (wC G ad V M en wo) := by
  refine jC.of (maxL := 1) (cc := cX1_total) (ret := (some .int)) rfl (by decide) [some (.ref (ad 22))] rfl (Nat.le_of_ble_eq_true rfl) (j_args rfl) (fun X hX => ?_)
  refine j_aload_n hX dX1_total_0 rfl ?_
  refine j_aload_n hX dX1_total_1 rfl ?_
  refine j_getf hX (v := .ref (ad 1)) dX1_total_2 fX1_total_18 22 (wCg22 _ _ _ _ _ _) rfl ?_
  refine j_dV hX (nA := 0) (cq := (RX0, TX0, 5)) (As := []) (st := [.ref (ad 22)]) (st' := [.int (maskF n), .ref (ad 22)]) (ci := 2) rfl dX1_total_5 (c_X0_mask G _ _ _ _ _ n hsz hn) gX1_total_X0_mask rfl (by decide +kernel) (q := 1) (wCg1 _ _ _ _ _ _) (by omega) (Nat.le_of_ble_eq_true rfl) rfl (Nat.le_of_ble_eq_true rfl) rfl ⟨Nat.le_refl _, Nat.le_refl _⟩ rfl ?_
  refine j_dV hX (nA := 1) (cq := (RX1, TX1, 4)) (As := [.int (maskF n)]) (st := []) (st' := [.int (mostSum (M 23) (maskF n) 7)]) (ci := 3) rfl dX1_total_8 (c_X1_netOf G _ _ _ _ _ _) gX1_total_X1_netOf rfl (by decide +kernel) (q := 22) (wCg22 _ _ _ _ _ _) (by omega) (Nat.le_of_ble_eq_true rfl) rfl (Nat.le_of_ble_eq_true rfl) rfl ⟨Nat.le_refl _, Nat.le_refl _⟩ rfl ?_
  exact j_iret hX dX1_total_11 ⟨rfl, rfl⟩

def mnF (x y : Int32) : Int32 := if y < x then y else x
def cutV (nets : Nat → Int32) (t whole mask : Int32) (i : Nat) : Int32 := if isInV mask (nI i) = 0 then 0 else t * atF 7 nets (nI i) / whole
def sp1 (nets : Nat → Int32) (t whole mask : Int32) (q : (Nat → Int32) × Int32) (n : Nat) : (Nat → Int32) × Int32 := itr (fun i q => (setF 7 q.1 (nI i) (cutV nets t whole mask i), q.2 - cutV nets t whole mask i)) n q
def sp2g (K : Nat → Int32) (i : Nat) (q : (Nat → Int32) × Int32) (m : Int32) : (Nat → Int32) × Int32 := (setF 7 q.1 (nI i) (atF 7 q.1 (nI i) - (atF 7 K (nI i) + m)), q.2 - m)
def sp2S (K : Nat → Int32) (mask : Int32) (i : Nat) (q : (Nat → Int32) × Int32) : (Nat → Int32) × Int32 := if q.2 ≤ 0 then sp2g K i q 0 else if isInV mask (nI i) = 0 then sp2g K i q 0 else if atF 7 q.1 (nI i) ≤ atF 7 K (nI i) then sp2g K i q 0 else sp2g K i q 1
def sp2 (K : Nat → Int32) (mask : Int32) (q : (Nat → Int32) × Int32) (n : Nat) : (Nat → Int32) × Int32 := itr (sp2S K mask) n q
def spW (M : Nat → Nat → Int32) (mask : Int32) : Int32 := mostSum (M 23) mask 7
def spT (M : Nat → Nat → Int32) (disc mask : Int32) : Int32 := mnF disc (spW M mask)
def spK (M : Nat → Nat → Int32) (disc mask : Int32) (n : Nat) : (Nat → Int32) × Int32 := sp1 (M 23) (spT M disc mask) (spW M mask) mask (M 24, spT M disc mask) n
def spN (M : Nat → Nat → Int32) (disc mask : Int32) (n : Nat) : (Nat → Int32) × Int32 := sp2 (spK M disc mask 7).1 mask (M 23, (spK M disc mask 7).2) n
def spreadM (M : Nat → Nat → Int32) (disc mask : Int32) : Nat → Nat → Int32 := if 0 < spW M mask then sM (sM M 24 (spK M disc mask 7).1) 23 (spN M disc mask 7).1 else M
set_option maxHeartbeats 4000000 in
set_option maxRecDepth 100000 in
theorem c_X1_spread (G : jG) (ad : Nat → Nat) (V : Nat → Int32) (M : Nat → Nat → Int32) (en : Nat → Option Nat) (wo : va_W) (disc mask : Int32) : jD G 2 yX1_spread wsX1_spread [.ref (ad 22), .int disc, .int mask] (wC G ad V M en wo) none (wC G ad V (spreadM M disc mask) en wo) := by
  refine jC.of (maxL := 9) (cc := cX1_spread) (ret := none) rfl (by decide) [some (.ref (ad 22)), some (.int disc), some (.int mask), none, none, none, none, none, none] rfl (Nat.le_of_ble_eq_true rfl) (j_args rfl) (fun X hX => ?_)
  refine j_aload_n hX dX1_spread_0 rfl ?_
  refine j_iload_n hX dX1_spread_1 rfl ?_
  refine j_dV hX (nA := 1) (cq := (RX1, TX1, 4)) (As := [.int mask]) (st := []) (st' := [.int (mostSum (M 23) mask 7)]) (ci := 3) rfl dX1_spread_2 (c_X1_netOf G _ _ _ _ _ _) gX1_spread_X1_netOf rfl (by decide +kernel) (q := 22) (wCg22 _ _ _ _ _ _) (by omega) (Nat.le_of_ble_eq_true rfl) rfl (Nat.le_of_ble_eq_true rfl) rfl ⟨Nat.le_refl _, Nat.le_refl _⟩ rfl ?_
  refine jW.top (y := spW M mask) rfl ?_
  refine j_istore_n hX (ls' := [some (.ref (ad 22)), some (.int disc), some (.int mask), some (.int (spW M mask)), none, none, none, none, none]) dX1_spread_5 (Nat.le_of_ble_eq_true rfl) rfl rfl ?_
  refine j_iload_n hX dX1_spread_6 rfl ?_
  refine j_if_gt hX (tgt := 11) dX1_spread_7 (by decide) (fun h7 => ?_) (fun h7 => ?_)
  · refine j_iload_n hX dX1_spread_11 rfl ?_
    refine j_iload_n hX dX1_spread_12 rfl ?_
    refine j_mmin hX dX1_spread_13 (by decide +kernel) (by decide +kernel) (by decide +kernel) (by decide +kernel) (by omega) rfl (Nat.le_of_ble_eq_true rfl) ⟨Nat.le_refl _, Nat.le_refl _⟩ ?_
    refine jW.top (y := spT M disc mask) rfl ?_
    refine j_istore hX (ls' := [some (.ref (ad 22)), some (.int disc), some (.int mask), some (.int (spW M mask)), some (.int (spT M disc mask)), none, none, none, none]) dX1_spread_16 (Nat.le_of_ble_eq_true rfl) rfl rfl ?_
    refine j_iload hX dX1_spread_18 rfl ?_
    refine j_istore hX (ls' := [some (.ref (ad 22)), some (.int disc), some (.int mask), some (.int (spW M mask)), some (.int (spT M disc mask)), some (.int (spT M disc mask)), none, none, none]) dX1_spread_20 (Nat.le_of_ble_eq_true rfl) rfl rfl ?_
    refine j_iconst hX (v := 0) (by decide) dX1_spread_22 ?_
    refine j_istore hX (ls' := [some (.ref (ad 22)), some (.int disc), some (.int mask), some (.int (spW M mask)), some (.int (spT M disc mask)), some (.int (spT M disc mask)), some (.int 0), none, none]) dX1_spread_23 (Nat.le_of_ble_eq_true rfl) rfl rfl ?_
    have L25 : ∀ zi i : Nat, 0 ≤ i → i + zi = 7 → jW G X 0 0 25 [some (.ref (ad 22)), some (.int disc), some (.int mask), some (.int (spW M mask)), some (.int (spT M disc mask)), some (.int ((spK M disc mask i).2)), some (.int (nI i)), none, none] [] (wC G ad V (sM M 24 ((spK M disc mask i).1)) en wo) := by
      intro zi
      induction zi with
      | zero =>
        intro i h0 hi
        have hin : i = 7 := by omega
        refine j_iload hX dX1_spread_25 rfl ?_
        refine j_bipush hX (v := 7) (by decide) dX1_spread_27 ?_
        refine j_icmp_ge_t hX (tgt := 85) dX1_spread_29 (by decide) (nI_le (a := 7) (b := i) (by omega) (by omega)) ?_
        refine j_iconst hX (v := 0) (by decide) dX1_spread_85 ?_
        refine j_istore hX (ls' := [some (.ref (ad 22)), some (.int disc), some (.int mask), some (.int (spW M mask)), some (.int (spT M disc mask)), some (.int ((spK M disc mask i).2)), some (.int 0), none, none]) dX1_spread_86 (Nat.le_of_ble_eq_true rfl) rfl rfl ?_
        have L88 : ∀ zb b : Nat, 0 ≤ b → b + zb = 7 → jW G X 0 0 88 [some (.ref (ad 22)), some (.int disc), some (.int mask), some (.int (spW M mask)), some (.int (spT M disc mask)), some (.int ((spN M disc mask b).2)), some (.int (nI b)), none, none] [] (wC G ad V (sM (sM M 24 ((spK M disc mask 7).1)) 23 ((spN M disc mask b).1)) en wo) := by
          intro zb
          induction zb with
          | zero =>
            intro b h0b hib
            have hinb : b = 7 := by omega
            refine j_iload hX dX1_spread_88 rfl ?_
            refine j_bipush hX (v := 7) (by decide) dX1_spread_90 ?_
            refine j_icmp_ge_t hX (tgt := 201) dX1_spread_92 (by decide) (nI_le (a := 7) (b := b) (by omega) (by omega)) ?_
            exact j_vret hX dX1_spread_201 ⟨rfl, by rw [hinb, spreadM, if_pos h7]⟩
          | succ zb ihb =>
            intro b h0b hib
            have hinb : b < 7 := by omega
            refine j_iload hX dX1_spread_88 rfl ?_
            refine j_bipush hX (v := 7) (by decide) dX1_spread_90 ?_
            refine j_icmp_ge_f hX (tgt := 201) dX1_spread_92 (by decide) (nI_ge (a := b) (b := 7) (by omega) (by decide)) ?_
            refine j_iload hX dX1_spread_95 rfl ?_
            refine j_if_le hX (tgt := 134) dX1_spread_97 (by decide) (fun h97 => ?_) (fun h97 => ?_)
            · refine j_iconst hX (v := 0) (by decide) dX1_spread_134 ?_
              refine j_istore hX (ls' := [some (.ref (ad 22)), some (.int disc), some (.int mask), some (.int (spW M mask)), some (.int (spT M disc mask)), some (.int ((spN M disc mask b).2)), some (.int (nI b)), some (.int 0), none]) dX1_spread_135 (Nat.le_of_ble_eq_true rfl) rfl rfl ?_
              refine j_aload_n hX dX1_spread_137 rfl ?_
              refine j_getf hX (v := .ref (ad 24)) dX1_spread_138 fX1_spread_15 22 (wCg22 _ _ _ _ _ _) rfl ?_
              refine j_iload hX dX1_spread_141 rfl ?_
              refine j_dSN hX (nA := 2) (As := [.ref (ad 24), .int (nI b)]) (st := []) (st' := [.int (atF 7 ((spK M disc mask 7).1) (nI b))]) dX1_spread_143 (c_at G (q := 24) (wCg24 _ _ _ _ _ _) (by decide)) gX1_spread_X11_at_n74 rfl (by decide +kernel) (host := "BasketOffers") (by decide +kernel) (by decide +kernel) (by decide +kernel) (by omega) (Nat.le_of_ble_eq_true rfl) rfl (Nat.le_of_ble_eq_true rfl) rfl ⟨Nat.le_refl _, Nat.le_refl _⟩ rfl ?_
              refine j_iload hX dX1_spread_146 rfl ?_
              refine j_if_eq_t hX (tgt := 155) dX1_spread_148 (by decide) (by decide) ?_
              refine j_iconst hX (v := 0) (by decide) dX1_spread_155 ?_
              refine j_iadd hX dX1_spread_156 ?_
              refine j_istore hX (ls' := [some (.ref (ad 22)), some (.int disc), some (.int mask), some (.int (spW M mask)), some (.int (spT M disc mask)), some (.int ((spN M disc mask b).2)), some (.int (nI b)), some (.int 0), some (.int ((atF 7 ((spK M disc mask 7).1) (nI b)) + 0))]) dX1_spread_157 (Nat.le_of_ble_eq_true rfl) rfl rfl ?_
              refine j_iload hX dX1_spread_159 rfl ?_
              refine j_iload hX dX1_spread_161 rfl ?_
              refine j_if_eq_t hX (tgt := 170) dX1_spread_163 (by decide) (by decide) ?_
              refine j_iconst hX (v := 0) (by decide) dX1_spread_170 ?_
              refine j_isub hX dX1_spread_171 ?_
              refine j_istore hX (ls' := [some (.ref (ad 22)), some (.int disc), some (.int mask), some (.int (spW M mask)), some (.int (spT M disc mask)), some (.int (((spN M disc mask b).2) - 0)), some (.int (nI b)), some (.int 0), some (.int ((atF 7 ((spK M disc mask 7).1) (nI b)) + 0))]) dX1_spread_172 (Nat.le_of_ble_eq_true rfl) rfl rfl ?_
              refine j_aload_n hX dX1_spread_174 rfl ?_
              refine j_getf hX (v := .ref (ad 23)) dX1_spread_175 fX1_spread_9 22 (wCg22 _ _ _ _ _ _) rfl ?_
              refine j_iload hX dX1_spread_178 rfl ?_
              refine j_aload_n hX dX1_spread_180 rfl ?_
              refine j_getf hX (v := .ref (ad 23)) dX1_spread_181 fX1_spread_9 22 (wCg22 _ _ _ _ _ _) rfl ?_
              refine j_iload hX dX1_spread_184 rfl ?_
              refine j_dSN hX (nA := 2) (As := [.ref (ad 23), .int (nI b)]) (st := [.int (nI b), .ref (ad 23)]) (st' := [.int (atF 7 ((spN M disc mask b).1) (nI b)), .int (nI b), .ref (ad 23)]) dX1_spread_186 (c_at G (q := 23) (wCg23 _ _ _ _ _ _) (by decide)) gX1_spread_X11_at_n74 rfl (by decide +kernel) (host := "BasketOffers") (by decide +kernel) (by decide +kernel) (by decide +kernel) (by omega) (Nat.le_of_ble_eq_true rfl) rfl (Nat.le_of_ble_eq_true rfl) rfl ⟨Nat.le_refl _, Nat.le_refl _⟩ rfl ?_
              refine j_iload hX dX1_spread_189 rfl ?_
              refine j_isub hX dX1_spread_191 ?_
              refine j_dSN hX (nA := 3) (As := [.ref (ad 23), .int (nI b), .int ((atF 7 ((spN M disc mask b).1) (nI b)) - ((atF 7 ((spK M disc mask 7).1) (nI b)) + 0))]) (st := []) (st' := []) dX1_spread_192 (c_setAt G (q := 23) (wCg23 _ _ _ _ _ _) (by decide) (w1 := (wC G ad V (sM (sM M 24 ((spK M disc mask 7).1)) 23 (setF 7 ((spN M disc mask b).1) (nI b) ((atF 7 ((spN M disc mask b).1) (nI b)) - ((atF 7 ((spK M disc mask 7).1) (nI b)) + 0)))) en wo)) (wCo23 _ _ _ _ _ _ _ _)) gX1_spread_X11_setAt_n32 rfl (by decide +kernel) (host := "BasketOffers") (by decide +kernel) (by decide +kernel) (by decide +kernel) (by omega) (Nat.le_of_ble_eq_true rfl) rfl (Nat.le_of_ble_eq_true rfl) rfl ⟨Nat.le_refl _, Nat.le_refl _⟩ rfl ?_
              refine j_iinc hX (v := nI (b + 1)) (ls' := [some (.ref (ad 22)), some (.int disc), some (.int mask), some (.int (spW M mask)), some (.int (spT M disc mask)), some (.int (((spN M disc mask b).2) - 0)), some (.int (nI (b + 1))), some (.int 0), some (.int ((atF 7 ((spK M disc mask 7).1) (nI b)) + 0))]) dX1_spread_195 rfl (j_inc1 _) rfl rfl ?_
              refine j_goto hX (tgt := 88) dX1_spread_198 (by decide) ?_
              refine jW.drop (ls' := [some (.ref (ad 22)), some (.int disc), some (.int mask), some (.int (spW M mask)), some (.int (spT M disc mask)), some (.int (((spN M disc mask b).2) - 0)), some (.int (nI (b + 1))), none, none]) ⟨Or.inr rfl, Or.inr rfl, Or.inr rfl, Or.inr rfl, Or.inr rfl, Or.inr rfl, Or.inr rfl, Or.inl rfl, Or.inl rfl, trivial⟩ ?_
              have e9 : (spN M disc mask (b + 1)) = (setF 7 ((spN M disc mask b).1) (nI b) ((atF 7 ((spN M disc mask b).1) (nI b)) - ((atF 7 ((spK M disc mask 7).1) (nI b)) + 0)), ((spN M disc mask b).2) - 0) := (if_pos h97)
              refine jW.locals (ls' := [some (.ref (ad 22)), some (.int disc), some (.int mask), some (.int (spW M mask)), some (.int (spT M disc mask)), some (.int ((spN M disc mask (b + 1)).2)), some (.int (nI (b + 1))), none, none]) (by simp only [e9]) ?_
              refine jW.world (ws' := (wC G ad V (sM (sM M 24 ((spK M disc mask 7).1)) 23 ((spN M disc mask (b + 1)).1)) en wo)) (by simp only [e9]) ?_
              exact ihb (b + 1) (by omega) (by omega)
            · refine j_iload_n hX dX1_spread_100 rfl ?_
              refine j_iload hX dX1_spread_101 rfl ?_
              refine j_dSN hX (nA := 2) (As := [.int mask, .int (nI b)]) (st := []) (st' := [.int (isInV mask (nI b))]) dX1_spread_103 (c_isIn G) gX1_spread_X11_isIn_n70 rfl (by decide +kernel) (host := "BasketOffers") (by decide +kernel) (by decide +kernel) (by decide +kernel) (by omega) (Nat.le_of_ble_eq_true rfl) rfl (Nat.le_of_ble_eq_true rfl) rfl ⟨Nat.le_refl _, Nat.le_refl _⟩ rfl ?_
              refine j_if_eq hX (tgt := 134) dX1_spread_106 (by decide) (fun h106 => ?_) (fun h106 => ?_)
              · refine j_iconst hX (v := 0) (by decide) dX1_spread_134 ?_
                refine j_istore hX (ls' := [some (.ref (ad 22)), some (.int disc), some (.int mask), some (.int (spW M mask)), some (.int (spT M disc mask)), some (.int ((spN M disc mask b).2)), some (.int (nI b)), some (.int 0), none]) dX1_spread_135 (Nat.le_of_ble_eq_true rfl) rfl rfl ?_
                refine j_aload_n hX dX1_spread_137 rfl ?_
                refine j_getf hX (v := .ref (ad 24)) dX1_spread_138 fX1_spread_15 22 (wCg22 _ _ _ _ _ _) rfl ?_
                refine j_iload hX dX1_spread_141 rfl ?_
                refine j_dSN hX (nA := 2) (As := [.ref (ad 24), .int (nI b)]) (st := []) (st' := [.int (atF 7 ((spK M disc mask 7).1) (nI b))]) dX1_spread_143 (c_at G (q := 24) (wCg24 _ _ _ _ _ _) (by decide)) gX1_spread_X11_at_n74 rfl (by decide +kernel) (host := "BasketOffers") (by decide +kernel) (by decide +kernel) (by decide +kernel) (by omega) (Nat.le_of_ble_eq_true rfl) rfl (Nat.le_of_ble_eq_true rfl) rfl ⟨Nat.le_refl _, Nat.le_refl _⟩ rfl ?_
                refine j_iload hX dX1_spread_146 rfl ?_
                refine j_if_eq_t hX (tgt := 155) dX1_spread_148 (by decide) (by decide) ?_
                refine j_iconst hX (v := 0) (by decide) dX1_spread_155 ?_
                refine j_iadd hX dX1_spread_156 ?_
                refine j_istore hX (ls' := [some (.ref (ad 22)), some (.int disc), some (.int mask), some (.int (spW M mask)), some (.int (spT M disc mask)), some (.int ((spN M disc mask b).2)), some (.int (nI b)), some (.int 0), some (.int ((atF 7 ((spK M disc mask 7).1) (nI b)) + 0))]) dX1_spread_157 (Nat.le_of_ble_eq_true rfl) rfl rfl ?_
                refine j_iload hX dX1_spread_159 rfl ?_
                refine j_iload hX dX1_spread_161 rfl ?_
                refine j_if_eq_t hX (tgt := 170) dX1_spread_163 (by decide) (by decide) ?_
                refine j_iconst hX (v := 0) (by decide) dX1_spread_170 ?_
                refine j_isub hX dX1_spread_171 ?_
                refine j_istore hX (ls' := [some (.ref (ad 22)), some (.int disc), some (.int mask), some (.int (spW M mask)), some (.int (spT M disc mask)), some (.int (((spN M disc mask b).2) - 0)), some (.int (nI b)), some (.int 0), some (.int ((atF 7 ((spK M disc mask 7).1) (nI b)) + 0))]) dX1_spread_172 (Nat.le_of_ble_eq_true rfl) rfl rfl ?_
                refine j_aload_n hX dX1_spread_174 rfl ?_
                refine j_getf hX (v := .ref (ad 23)) dX1_spread_175 fX1_spread_9 22 (wCg22 _ _ _ _ _ _) rfl ?_
                refine j_iload hX dX1_spread_178 rfl ?_
                refine j_aload_n hX dX1_spread_180 rfl ?_
                refine j_getf hX (v := .ref (ad 23)) dX1_spread_181 fX1_spread_9 22 (wCg22 _ _ _ _ _ _) rfl ?_
                refine j_iload hX dX1_spread_184 rfl ?_
                refine j_dSN hX (nA := 2) (As := [.ref (ad 23), .int (nI b)]) (st := [.int (nI b), .ref (ad 23)]) (st' := [.int (atF 7 ((spN M disc mask b).1) (nI b)), .int (nI b), .ref (ad 23)]) dX1_spread_186 (c_at G (q := 23) (wCg23 _ _ _ _ _ _) (by decide)) gX1_spread_X11_at_n74 rfl (by decide +kernel) (host := "BasketOffers") (by decide +kernel) (by decide +kernel) (by decide +kernel) (by omega) (Nat.le_of_ble_eq_true rfl) rfl (Nat.le_of_ble_eq_true rfl) rfl ⟨Nat.le_refl _, Nat.le_refl _⟩ rfl ?_
                refine j_iload hX dX1_spread_189 rfl ?_
                refine j_isub hX dX1_spread_191 ?_
                refine j_dSN hX (nA := 3) (As := [.ref (ad 23), .int (nI b), .int ((atF 7 ((spN M disc mask b).1) (nI b)) - ((atF 7 ((spK M disc mask 7).1) (nI b)) + 0))]) (st := []) (st' := []) dX1_spread_192 (c_setAt G (q := 23) (wCg23 _ _ _ _ _ _) (by decide) (w1 := (wC G ad V (sM (sM M 24 ((spK M disc mask 7).1)) 23 (setF 7 ((spN M disc mask b).1) (nI b) ((atF 7 ((spN M disc mask b).1) (nI b)) - ((atF 7 ((spK M disc mask 7).1) (nI b)) + 0)))) en wo)) (wCo23 _ _ _ _ _ _ _ _)) gX1_spread_X11_setAt_n32 rfl (by decide +kernel) (host := "BasketOffers") (by decide +kernel) (by decide +kernel) (by decide +kernel) (by omega) (Nat.le_of_ble_eq_true rfl) rfl (Nat.le_of_ble_eq_true rfl) rfl ⟨Nat.le_refl _, Nat.le_refl _⟩ rfl ?_
                refine j_iinc hX (v := nI (b + 1)) (ls' := [some (.ref (ad 22)), some (.int disc), some (.int mask), some (.int (spW M mask)), some (.int (spT M disc mask)), some (.int (((spN M disc mask b).2) - 0)), some (.int (nI (b + 1))), some (.int 0), some (.int ((atF 7 ((spK M disc mask 7).1) (nI b)) + 0))]) dX1_spread_195 rfl (j_inc1 _) rfl rfl ?_
                refine j_goto hX (tgt := 88) dX1_spread_198 (by decide) ?_
                refine jW.drop (ls' := [some (.ref (ad 22)), some (.int disc), some (.int mask), some (.int (spW M mask)), some (.int (spT M disc mask)), some (.int (((spN M disc mask b).2) - 0)), some (.int (nI (b + 1))), none, none]) ⟨Or.inr rfl, Or.inr rfl, Or.inr rfl, Or.inr rfl, Or.inr rfl, Or.inr rfl, Or.inr rfl, Or.inl rfl, Or.inl rfl, trivial⟩ ?_
                have e9 : (spN M disc mask (b + 1)) = (setF 7 ((spN M disc mask b).1) (nI b) ((atF 7 ((spN M disc mask b).1) (nI b)) - ((atF 7 ((spK M disc mask 7).1) (nI b)) + 0)), ((spN M disc mask b).2) - 0) := ((if_neg h97).trans (if_pos h106))
                refine jW.locals (ls' := [some (.ref (ad 22)), some (.int disc), some (.int mask), some (.int (spW M mask)), some (.int (spT M disc mask)), some (.int ((spN M disc mask (b + 1)).2)), some (.int (nI (b + 1))), none, none]) (by simp only [e9]) ?_
                refine jW.world (ws' := (wC G ad V (sM (sM M 24 ((spK M disc mask 7).1)) 23 ((spN M disc mask (b + 1)).1)) en wo)) (by simp only [e9]) ?_
                exact ihb (b + 1) (by omega) (by omega)
              · refine j_aload_n hX dX1_spread_109 rfl ?_
                refine j_getf hX (v := .ref (ad 24)) dX1_spread_110 fX1_spread_15 22 (wCg22 _ _ _ _ _ _) rfl ?_
                refine j_iload hX dX1_spread_113 rfl ?_
                refine j_dSN hX (nA := 2) (As := [.ref (ad 24), .int (nI b)]) (st := []) (st' := [.int (atF 7 ((spK M disc mask 7).1) (nI b))]) dX1_spread_115 (c_at G (q := 24) (wCg24 _ _ _ _ _ _) (by decide)) gX1_spread_X11_at_n74 rfl (by decide +kernel) (host := "BasketOffers") (by decide +kernel) (by decide +kernel) (by decide +kernel) (by omega) (Nat.le_of_ble_eq_true rfl) rfl (Nat.le_of_ble_eq_true rfl) rfl ⟨Nat.le_refl _, Nat.le_refl _⟩ rfl ?_
                refine j_aload_n hX dX1_spread_118 rfl ?_
                refine j_getf hX (v := .ref (ad 23)) dX1_spread_119 fX1_spread_9 22 (wCg22 _ _ _ _ _ _) rfl ?_
                refine j_iload hX dX1_spread_122 rfl ?_
                refine j_dSN hX (nA := 2) (As := [.ref (ad 23), .int (nI b)]) (st := [.int (atF 7 ((spK M disc mask 7).1) (nI b))]) (st' := [.int (atF 7 ((spN M disc mask b).1) (nI b)), .int (atF 7 ((spK M disc mask 7).1) (nI b))]) dX1_spread_124 (c_at G (q := 23) (wCg23 _ _ _ _ _ _) (by decide)) gX1_spread_X11_at_n74 rfl (by decide +kernel) (host := "BasketOffers") (by decide +kernel) (by decide +kernel) (by decide +kernel) (by omega) (Nat.le_of_ble_eq_true rfl) rfl (Nat.le_of_ble_eq_true rfl) rfl ⟨Nat.le_refl _, Nat.le_refl _⟩ rfl ?_
                refine j_icmp_ge hX (tgt := 134) dX1_spread_127 (by decide) (fun h127 => ?_) (fun h127 => ?_)
                · refine j_iconst hX (v := 0) (by decide) dX1_spread_134 ?_
                  refine j_istore hX (ls' := [some (.ref (ad 22)), some (.int disc), some (.int mask), some (.int (spW M mask)), some (.int (spT M disc mask)), some (.int ((spN M disc mask b).2)), some (.int (nI b)), some (.int 0), none]) dX1_spread_135 (Nat.le_of_ble_eq_true rfl) rfl rfl ?_
                  refine j_aload_n hX dX1_spread_137 rfl ?_
                  refine j_getf hX (v := .ref (ad 24)) dX1_spread_138 fX1_spread_15 22 (wCg22 _ _ _ _ _ _) rfl ?_
                  refine j_iload hX dX1_spread_141 rfl ?_
                  refine j_dSN hX (nA := 2) (As := [.ref (ad 24), .int (nI b)]) (st := []) (st' := [.int (atF 7 ((spK M disc mask 7).1) (nI b))]) dX1_spread_143 (c_at G (q := 24) (wCg24 _ _ _ _ _ _) (by decide)) gX1_spread_X11_at_n74 rfl (by decide +kernel) (host := "BasketOffers") (by decide +kernel) (by decide +kernel) (by decide +kernel) (by omega) (Nat.le_of_ble_eq_true rfl) rfl (Nat.le_of_ble_eq_true rfl) rfl ⟨Nat.le_refl _, Nat.le_refl _⟩ rfl ?_
                  refine j_iload hX dX1_spread_146 rfl ?_
                  refine j_if_eq_t hX (tgt := 155) dX1_spread_148 (by decide) (by decide) ?_
                  refine j_iconst hX (v := 0) (by decide) dX1_spread_155 ?_
                  refine j_iadd hX dX1_spread_156 ?_
                  refine j_istore hX (ls' := [some (.ref (ad 22)), some (.int disc), some (.int mask), some (.int (spW M mask)), some (.int (spT M disc mask)), some (.int ((spN M disc mask b).2)), some (.int (nI b)), some (.int 0), some (.int ((atF 7 ((spK M disc mask 7).1) (nI b)) + 0))]) dX1_spread_157 (Nat.le_of_ble_eq_true rfl) rfl rfl ?_
                  refine j_iload hX dX1_spread_159 rfl ?_
                  refine j_iload hX dX1_spread_161 rfl ?_
                  refine j_if_eq_t hX (tgt := 170) dX1_spread_163 (by decide) (by decide) ?_
                  refine j_iconst hX (v := 0) (by decide) dX1_spread_170 ?_
                  refine j_isub hX dX1_spread_171 ?_
                  refine j_istore hX (ls' := [some (.ref (ad 22)), some (.int disc), some (.int mask), some (.int (spW M mask)), some (.int (spT M disc mask)), some (.int (((spN M disc mask b).2) - 0)), some (.int (nI b)), some (.int 0), some (.int ((atF 7 ((spK M disc mask 7).1) (nI b)) + 0))]) dX1_spread_172 (Nat.le_of_ble_eq_true rfl) rfl rfl ?_
                  refine j_aload_n hX dX1_spread_174 rfl ?_
                  refine j_getf hX (v := .ref (ad 23)) dX1_spread_175 fX1_spread_9 22 (wCg22 _ _ _ _ _ _) rfl ?_
                  refine j_iload hX dX1_spread_178 rfl ?_
                  refine j_aload_n hX dX1_spread_180 rfl ?_
                  refine j_getf hX (v := .ref (ad 23)) dX1_spread_181 fX1_spread_9 22 (wCg22 _ _ _ _ _ _) rfl ?_
                  refine j_iload hX dX1_spread_184 rfl ?_
                  refine j_dSN hX (nA := 2) (As := [.ref (ad 23), .int (nI b)]) (st := [.int (nI b), .ref (ad 23)]) (st' := [.int (atF 7 ((spN M disc mask b).1) (nI b)), .int (nI b), .ref (ad 23)]) dX1_spread_186 (c_at G (q := 23) (wCg23 _ _ _ _ _ _) (by decide)) gX1_spread_X11_at_n74 rfl (by decide +kernel) (host := "BasketOffers") (by decide +kernel) (by decide +kernel) (by decide +kernel) (by omega) (Nat.le_of_ble_eq_true rfl) rfl (Nat.le_of_ble_eq_true rfl) rfl ⟨Nat.le_refl _, Nat.le_refl _⟩ rfl ?_
                  refine j_iload hX dX1_spread_189 rfl ?_
                  refine j_isub hX dX1_spread_191 ?_
                  refine j_dSN hX (nA := 3) (As := [.ref (ad 23), .int (nI b), .int ((atF 7 ((spN M disc mask b).1) (nI b)) - ((atF 7 ((spK M disc mask 7).1) (nI b)) + 0))]) (st := []) (st' := []) dX1_spread_192 (c_setAt G (q := 23) (wCg23 _ _ _ _ _ _) (by decide) (w1 := (wC G ad V (sM (sM M 24 ((spK M disc mask 7).1)) 23 (setF 7 ((spN M disc mask b).1) (nI b) ((atF 7 ((spN M disc mask b).1) (nI b)) - ((atF 7 ((spK M disc mask 7).1) (nI b)) + 0)))) en wo)) (wCo23 _ _ _ _ _ _ _ _)) gX1_spread_X11_setAt_n32 rfl (by decide +kernel) (host := "BasketOffers") (by decide +kernel) (by decide +kernel) (by decide +kernel) (by omega) (Nat.le_of_ble_eq_true rfl) rfl (Nat.le_of_ble_eq_true rfl) rfl ⟨Nat.le_refl _, Nat.le_refl _⟩ rfl ?_
                  refine j_iinc hX (v := nI (b + 1)) (ls' := [some (.ref (ad 22)), some (.int disc), some (.int mask), some (.int (spW M mask)), some (.int (spT M disc mask)), some (.int (((spN M disc mask b).2) - 0)), some (.int (nI (b + 1))), some (.int 0), some (.int ((atF 7 ((spK M disc mask 7).1) (nI b)) + 0))]) dX1_spread_195 rfl (j_inc1 _) rfl rfl ?_
                  refine j_goto hX (tgt := 88) dX1_spread_198 (by decide) ?_
                  refine jW.drop (ls' := [some (.ref (ad 22)), some (.int disc), some (.int mask), some (.int (spW M mask)), some (.int (spT M disc mask)), some (.int (((spN M disc mask b).2) - 0)), some (.int (nI (b + 1))), none, none]) ⟨Or.inr rfl, Or.inr rfl, Or.inr rfl, Or.inr rfl, Or.inr rfl, Or.inr rfl, Or.inr rfl, Or.inl rfl, Or.inl rfl, trivial⟩ ?_
                  have e9 : (spN M disc mask (b + 1)) = (setF 7 ((spN M disc mask b).1) (nI b) ((atF 7 ((spN M disc mask b).1) (nI b)) - ((atF 7 ((spK M disc mask 7).1) (nI b)) + 0)), ((spN M disc mask b).2) - 0) := (((if_neg h97).trans (if_neg h106)).trans (if_pos h127))
                  refine jW.locals (ls' := [some (.ref (ad 22)), some (.int disc), some (.int mask), some (.int (spW M mask)), some (.int (spT M disc mask)), some (.int ((spN M disc mask (b + 1)).2)), some (.int (nI (b + 1))), none, none]) (by simp only [e9]) ?_
                  refine jW.world (ws' := (wC G ad V (sM (sM M 24 ((spK M disc mask 7).1)) 23 ((spN M disc mask (b + 1)).1)) en wo)) (by simp only [e9]) ?_
                  exact ihb (b + 1) (by omega) (by omega)
                · refine j_iconst hX (v := 1) (by decide) dX1_spread_130 ?_
                  refine j_goto hX (tgt := 135) dX1_spread_131 (by decide) ?_
                  refine j_istore hX (ls' := [some (.ref (ad 22)), some (.int disc), some (.int mask), some (.int (spW M mask)), some (.int (spT M disc mask)), some (.int ((spN M disc mask b).2)), some (.int (nI b)), some (.int 1), none]) dX1_spread_135 (Nat.le_of_ble_eq_true rfl) rfl rfl ?_
                  refine j_aload_n hX dX1_spread_137 rfl ?_
                  refine j_getf hX (v := .ref (ad 24)) dX1_spread_138 fX1_spread_15 22 (wCg22 _ _ _ _ _ _) rfl ?_
                  refine j_iload hX dX1_spread_141 rfl ?_
                  refine j_dSN hX (nA := 2) (As := [.ref (ad 24), .int (nI b)]) (st := []) (st' := [.int (atF 7 ((spK M disc mask 7).1) (nI b))]) dX1_spread_143 (c_at G (q := 24) (wCg24 _ _ _ _ _ _) (by decide)) gX1_spread_X11_at_n74 rfl (by decide +kernel) (host := "BasketOffers") (by decide +kernel) (by decide +kernel) (by decide +kernel) (by omega) (Nat.le_of_ble_eq_true rfl) rfl (Nat.le_of_ble_eq_true rfl) rfl ⟨Nat.le_refl _, Nat.le_refl _⟩ rfl ?_
                  refine j_iload hX dX1_spread_146 rfl ?_
                  refine j_if_eq_f hX (tgt := 155) dX1_spread_148 (by decide) (by decide) ?_
                  refine j_iconst hX (v := 1) (by decide) dX1_spread_151 ?_
                  refine j_goto hX (tgt := 156) dX1_spread_152 (by decide) ?_
                  refine j_iadd hX dX1_spread_156 ?_
                  refine j_istore hX (ls' := [some (.ref (ad 22)), some (.int disc), some (.int mask), some (.int (spW M mask)), some (.int (spT M disc mask)), some (.int ((spN M disc mask b).2)), some (.int (nI b)), some (.int 1), some (.int ((atF 7 ((spK M disc mask 7).1) (nI b)) + 1))]) dX1_spread_157 (Nat.le_of_ble_eq_true rfl) rfl rfl ?_
                  refine j_iload hX dX1_spread_159 rfl ?_
                  refine j_iload hX dX1_spread_161 rfl ?_
                  refine j_if_eq_f hX (tgt := 170) dX1_spread_163 (by decide) (by decide) ?_
                  refine j_iconst hX (v := 1) (by decide) dX1_spread_166 ?_
                  refine j_goto hX (tgt := 171) dX1_spread_167 (by decide) ?_
                  refine j_isub hX dX1_spread_171 ?_
                  refine j_istore hX (ls' := [some (.ref (ad 22)), some (.int disc), some (.int mask), some (.int (spW M mask)), some (.int (spT M disc mask)), some (.int (((spN M disc mask b).2) - 1)), some (.int (nI b)), some (.int 1), some (.int ((atF 7 ((spK M disc mask 7).1) (nI b)) + 1))]) dX1_spread_172 (Nat.le_of_ble_eq_true rfl) rfl rfl ?_
                  refine j_aload_n hX dX1_spread_174 rfl ?_
                  refine j_getf hX (v := .ref (ad 23)) dX1_spread_175 fX1_spread_9 22 (wCg22 _ _ _ _ _ _) rfl ?_
                  refine j_iload hX dX1_spread_178 rfl ?_
                  refine j_aload_n hX dX1_spread_180 rfl ?_
                  refine j_getf hX (v := .ref (ad 23)) dX1_spread_181 fX1_spread_9 22 (wCg22 _ _ _ _ _ _) rfl ?_
                  refine j_iload hX dX1_spread_184 rfl ?_
                  refine j_dSN hX (nA := 2) (As := [.ref (ad 23), .int (nI b)]) (st := [.int (nI b), .ref (ad 23)]) (st' := [.int (atF 7 ((spN M disc mask b).1) (nI b)), .int (nI b), .ref (ad 23)]) dX1_spread_186 (c_at G (q := 23) (wCg23 _ _ _ _ _ _) (by decide)) gX1_spread_X11_at_n74 rfl (by decide +kernel) (host := "BasketOffers") (by decide +kernel) (by decide +kernel) (by decide +kernel) (by omega) (Nat.le_of_ble_eq_true rfl) rfl (Nat.le_of_ble_eq_true rfl) rfl ⟨Nat.le_refl _, Nat.le_refl _⟩ rfl ?_
                  refine j_iload hX dX1_spread_189 rfl ?_
                  refine j_isub hX dX1_spread_191 ?_
                  refine j_dSN hX (nA := 3) (As := [.ref (ad 23), .int (nI b), .int ((atF 7 ((spN M disc mask b).1) (nI b)) - ((atF 7 ((spK M disc mask 7).1) (nI b)) + 1))]) (st := []) (st' := []) dX1_spread_192 (c_setAt G (q := 23) (wCg23 _ _ _ _ _ _) (by decide) (w1 := (wC G ad V (sM (sM M 24 ((spK M disc mask 7).1)) 23 (setF 7 ((spN M disc mask b).1) (nI b) ((atF 7 ((spN M disc mask b).1) (nI b)) - ((atF 7 ((spK M disc mask 7).1) (nI b)) + 1)))) en wo)) (wCo23 _ _ _ _ _ _ _ _)) gX1_spread_X11_setAt_n32 rfl (by decide +kernel) (host := "BasketOffers") (by decide +kernel) (by decide +kernel) (by decide +kernel) (by omega) (Nat.le_of_ble_eq_true rfl) rfl (Nat.le_of_ble_eq_true rfl) rfl ⟨Nat.le_refl _, Nat.le_refl _⟩ rfl ?_
                  refine j_iinc hX (v := nI (b + 1)) (ls' := [some (.ref (ad 22)), some (.int disc), some (.int mask), some (.int (spW M mask)), some (.int (spT M disc mask)), some (.int (((spN M disc mask b).2) - 1)), some (.int (nI (b + 1))), some (.int 1), some (.int ((atF 7 ((spK M disc mask 7).1) (nI b)) + 1))]) dX1_spread_195 rfl (j_inc1 _) rfl rfl ?_
                  refine j_goto hX (tgt := 88) dX1_spread_198 (by decide) ?_
                  refine jW.drop (ls' := [some (.ref (ad 22)), some (.int disc), some (.int mask), some (.int (spW M mask)), some (.int (spT M disc mask)), some (.int (((spN M disc mask b).2) - 1)), some (.int (nI (b + 1))), none, none]) ⟨Or.inr rfl, Or.inr rfl, Or.inr rfl, Or.inr rfl, Or.inr rfl, Or.inr rfl, Or.inr rfl, Or.inl rfl, Or.inl rfl, trivial⟩ ?_
                  have e9 : (spN M disc mask (b + 1)) = (setF 7 ((spN M disc mask b).1) (nI b) ((atF 7 ((spN M disc mask b).1) (nI b)) - ((atF 7 ((spK M disc mask 7).1) (nI b)) + 1)), ((spN M disc mask b).2) - 1) := (((if_neg h97).trans (if_neg h106)).trans (if_neg h127))
                  refine jW.locals (ls' := [some (.ref (ad 22)), some (.int disc), some (.int mask), some (.int (spW M mask)), some (.int (spT M disc mask)), some (.int ((spN M disc mask (b + 1)).2)), some (.int (nI (b + 1))), none, none]) (by simp only [e9]) ?_
                  refine jW.world (ws' := (wC G ad V (sM (sM M 24 ((spK M disc mask 7).1)) 23 ((spN M disc mask (b + 1)).1)) en wo)) (by simp only [e9]) ?_
                  exact ihb (b + 1) (by omega) (by omega)
        refine jW.locals (ls' := [some (.ref (ad 22)), some (.int disc), some (.int mask), some (.int (spW M mask)), some (.int (spT M disc mask)), some (.int ((spN M disc mask 0).2)), some (.int 0), none, none]) (by rw [hin]; rfl) ?_
        refine jW.world (ws' := (wC G ad V (sM (sM M 24 ((spK M disc mask 7).1)) 23 ((spN M disc mask 0).1)) en wo)) (by rw [hin]; rfl) ?_
        exact L88 7 0 (Nat.le_refl _) (by omega)
      | succ zi ih =>
        intro i h0 hi
        have hin : i < 7 := by omega
        refine j_iload hX dX1_spread_25 rfl ?_
        refine j_bipush hX (v := 7) (by decide) dX1_spread_27 ?_
        refine j_icmp_ge_f hX (tgt := 85) dX1_spread_29 (by decide) (nI_ge (a := i) (b := 7) (by omega) (by decide)) ?_
        refine j_iload_n hX dX1_spread_32 rfl ?_
        refine j_iload hX dX1_spread_33 rfl ?_
        refine j_dSN hX (nA := 2) (As := [.int mask, .int (nI i)]) (st := []) (st' := [.int (isInV mask (nI i))]) dX1_spread_35 (c_isIn G) gX1_spread_X11_isIn_n70 rfl (by decide +kernel) (host := "BasketOffers") (by decide +kernel) (by decide +kernel) (by decide +kernel) (by omega) (Nat.le_of_ble_eq_true rfl) rfl (Nat.le_of_ble_eq_true rfl) rfl ⟨Nat.le_refl _, Nat.le_refl _⟩ rfl ?_
        refine j_if_eq hX (tgt := 58) dX1_spread_38 (by decide) (fun h38 => ?_) (fun h38 => ?_)
        · refine j_iconst hX (v := 0) (by decide) dX1_spread_58 ?_
          refine jW.top (y := cutV (M 23) (spT M disc mask) (spW M mask) mask i) ((if_pos h38) : cutV (M 23) (spT M disc mask) (spW M mask) mask i = 0).symm ?_
          refine j_istore hX (ls' := [some (.ref (ad 22)), some (.int disc), some (.int mask), some (.int (spW M mask)), some (.int (spT M disc mask)), some (.int ((spK M disc mask i).2)), some (.int (nI i)), some (.int (cutV (M 23) (spT M disc mask) (spW M mask) mask i)), none]) dX1_spread_59 (Nat.le_of_ble_eq_true rfl) rfl rfl ?_
          refine j_aload_n hX dX1_spread_61 rfl ?_
          refine j_getf hX (v := .ref (ad 24)) dX1_spread_62 fX1_spread_15 22 (wCg22 _ _ _ _ _ _) rfl ?_
          refine j_iload hX dX1_spread_65 rfl ?_
          refine j_iload hX dX1_spread_67 rfl ?_
          refine j_dSN hX (nA := 3) (As := [.ref (ad 24), .int (nI i), .int (cutV (M 23) (spT M disc mask) (spW M mask) mask i)]) (st := []) (st' := []) dX1_spread_69 (c_setAt G (q := 24) (wCg24 _ _ _ _ _ _) (by decide) (w1 := (wC G ad V (sM M 24 (setF 7 ((spK M disc mask i).1) (nI i) (cutV (M 23) (spT M disc mask) (spW M mask) mask i))) en wo)) (wCo24 _ _ _ _ _ _ _ _)) gX1_spread_X11_setAt_n32 rfl (by decide +kernel) (host := "BasketOffers") (by decide +kernel) (by decide +kernel) (by decide +kernel) (by omega) (Nat.le_of_ble_eq_true rfl) rfl (Nat.le_of_ble_eq_true rfl) rfl ⟨Nat.le_refl _, Nat.le_refl _⟩ rfl ?_
          refine j_iload hX dX1_spread_72 rfl ?_
          refine j_iload hX dX1_spread_74 rfl ?_
          refine j_isub hX dX1_spread_76 ?_
          refine j_istore hX (ls' := [some (.ref (ad 22)), some (.int disc), some (.int mask), some (.int (spW M mask)), some (.int (spT M disc mask)), some (.int (((spK M disc mask i).2) - (cutV (M 23) (spT M disc mask) (spW M mask) mask i))), some (.int (nI i)), some (.int (cutV (M 23) (spT M disc mask) (spW M mask) mask i)), none]) dX1_spread_77 (Nat.le_of_ble_eq_true rfl) rfl rfl ?_
          refine j_iinc hX (v := nI (i + 1)) (ls' := [some (.ref (ad 22)), some (.int disc), some (.int mask), some (.int (spW M mask)), some (.int (spT M disc mask)), some (.int (((spK M disc mask i).2) - (cutV (M 23) (spT M disc mask) (spW M mask) mask i))), some (.int (nI (i + 1))), some (.int (cutV (M 23) (spT M disc mask) (spW M mask) mask i)), none]) dX1_spread_79 rfl (j_inc1 _) rfl rfl ?_
          refine j_goto hX (tgt := 25) dX1_spread_82 (by decide) ?_
          refine jW.drop (ls' := [some (.ref (ad 22)), some (.int disc), some (.int mask), some (.int (spW M mask)), some (.int (spT M disc mask)), some (.int (((spK M disc mask i).2) - (cutV (M 23) (spT M disc mask) (spW M mask) mask i))), some (.int (nI (i + 1))), none, none]) ⟨Or.inr rfl, Or.inr rfl, Or.inr rfl, Or.inr rfl, Or.inr rfl, Or.inr rfl, Or.inr rfl, Or.inl rfl, Or.inr rfl, trivial⟩ ?_
          refine jW.locals (ls' := [some (.ref (ad 22)), some (.int disc), some (.int mask), some (.int (spW M mask)), some (.int (spT M disc mask)), some (.int ((spK M disc mask (i + 1)).2)), some (.int (nI (i + 1))), none, none]) rfl ?_
          refine jW.world (ws' := (wC G ad V (sM M 24 ((spK M disc mask (i + 1)).1)) en wo)) rfl ?_
          exact ih (i + 1) (by omega) (by omega)
        · refine j_iload hX dX1_spread_41 rfl ?_
          refine j_aload_n hX dX1_spread_43 rfl ?_
          refine j_getf hX (v := .ref (ad 23)) dX1_spread_44 fX1_spread_9 22 (wCg22 _ _ _ _ _ _) rfl ?_
          refine j_iload hX dX1_spread_47 rfl ?_
          refine j_dSN hX (nA := 2) (As := [.ref (ad 23), .int (nI i)]) (st := [.int (spT M disc mask)]) (st' := [.int (atF 7 (M 23) (nI i)), .int (spT M disc mask)]) dX1_spread_49 (c_at G (q := 23) (wCg23 _ _ _ _ _ _) (by decide)) gX1_spread_X11_at_n74 rfl (by decide +kernel) (host := "BasketOffers") (by decide +kernel) (by decide +kernel) (by decide +kernel) (by omega) (Nat.le_of_ble_eq_true rfl) rfl (Nat.le_of_ble_eq_true rfl) rfl ⟨Nat.le_refl _, Nat.le_refl _⟩ rfl ?_
          refine j_imul hX dX1_spread_52 ?_
          refine j_iload_n hX dX1_spread_53 rfl ?_
          refine j_idiv hX dX1_spread_54 (fun e => absurd (show 0 < spW M mask from h7) (by rw [e]; decide)) ?_
          refine j_goto hX (tgt := 59) dX1_spread_55 (by decide) ?_
          refine jW.top (y := cutV (M 23) (spT M disc mask) (spW M mask) mask i) ((if_neg h38) : cutV (M 23) (spT M disc mask) (spW M mask) mask i = ((spT M disc mask) * (atF 7 (M 23) (nI i))) / (spW M mask)).symm ?_
          refine j_istore hX (ls' := [some (.ref (ad 22)), some (.int disc), some (.int mask), some (.int (spW M mask)), some (.int (spT M disc mask)), some (.int ((spK M disc mask i).2)), some (.int (nI i)), some (.int (cutV (M 23) (spT M disc mask) (spW M mask) mask i)), none]) dX1_spread_59 (Nat.le_of_ble_eq_true rfl) rfl rfl ?_
          refine j_aload_n hX dX1_spread_61 rfl ?_
          refine j_getf hX (v := .ref (ad 24)) dX1_spread_62 fX1_spread_15 22 (wCg22 _ _ _ _ _ _) rfl ?_
          refine j_iload hX dX1_spread_65 rfl ?_
          refine j_iload hX dX1_spread_67 rfl ?_
          refine j_dSN hX (nA := 3) (As := [.ref (ad 24), .int (nI i), .int (cutV (M 23) (spT M disc mask) (spW M mask) mask i)]) (st := []) (st' := []) dX1_spread_69 (c_setAt G (q := 24) (wCg24 _ _ _ _ _ _) (by decide) (w1 := (wC G ad V (sM M 24 (setF 7 ((spK M disc mask i).1) (nI i) (cutV (M 23) (spT M disc mask) (spW M mask) mask i))) en wo)) (wCo24 _ _ _ _ _ _ _ _)) gX1_spread_X11_setAt_n32 rfl (by decide +kernel) (host := "BasketOffers") (by decide +kernel) (by decide +kernel) (by decide +kernel) (by omega) (Nat.le_of_ble_eq_true rfl) rfl (Nat.le_of_ble_eq_true rfl) rfl ⟨Nat.le_refl _, Nat.le_refl _⟩ rfl ?_
          refine j_iload hX dX1_spread_72 rfl ?_
          refine j_iload hX dX1_spread_74 rfl ?_
          refine j_isub hX dX1_spread_76 ?_
          refine j_istore hX (ls' := [some (.ref (ad 22)), some (.int disc), some (.int mask), some (.int (spW M mask)), some (.int (spT M disc mask)), some (.int (((spK M disc mask i).2) - (cutV (M 23) (spT M disc mask) (spW M mask) mask i))), some (.int (nI i)), some (.int (cutV (M 23) (spT M disc mask) (spW M mask) mask i)), none]) dX1_spread_77 (Nat.le_of_ble_eq_true rfl) rfl rfl ?_
          refine j_iinc hX (v := nI (i + 1)) (ls' := [some (.ref (ad 22)), some (.int disc), some (.int mask), some (.int (spW M mask)), some (.int (spT M disc mask)), some (.int (((spK M disc mask i).2) - (cutV (M 23) (spT M disc mask) (spW M mask) mask i))), some (.int (nI (i + 1))), some (.int (cutV (M 23) (spT M disc mask) (spW M mask) mask i)), none]) dX1_spread_79 rfl (j_inc1 _) rfl rfl ?_
          refine j_goto hX (tgt := 25) dX1_spread_82 (by decide) ?_
          refine jW.drop (ls' := [some (.ref (ad 22)), some (.int disc), some (.int mask), some (.int (spW M mask)), some (.int (spT M disc mask)), some (.int (((spK M disc mask i).2) - (cutV (M 23) (spT M disc mask) (spW M mask) mask i))), some (.int (nI (i + 1))), none, none]) ⟨Or.inr rfl, Or.inr rfl, Or.inr rfl, Or.inr rfl, Or.inr rfl, Or.inr rfl, Or.inr rfl, Or.inl rfl, Or.inr rfl, trivial⟩ ?_
          refine jW.locals (ls' := [some (.ref (ad 22)), some (.int disc), some (.int mask), some (.int (spW M mask)), some (.int (spT M disc mask)), some (.int ((spK M disc mask (i + 1)).2)), some (.int (nI (i + 1))), none, none]) rfl ?_
          refine jW.world (ws' := (wC G ad V (sM M 24 ((spK M disc mask (i + 1)).1)) en wo)) rfl ?_
          exact ih (i + 1) (by omega) (by omega)
    refine jW.world (ws' := (wC G ad V (sM M 24 ((spK M disc mask 0).1)) en wo)) rfl ?_
    exact L25 7 0 (Nat.le_refl _) (by omega)
  · exact j_vret hX dX1_spread_10 ⟨rfl, by rw [spreadM, if_neg h7]⟩

def wrA (f b : Nat → Int32) (n : Nat) : Nat → Int32 := itr (fun i b => setF 7 b (nI i) (atF 7 f (nI i))) n b
def wrS (i : Nat) (M : Nat → Nat → Int32) : Nat → Nat → Int32 := if useV M (nI i) = -1 then M else spreadM M (atF 210 (M 15) (useV M (nI i))) (atF 210 (M 14) (useV M (nI i)))
def wrU (M : Nat → Nat → Int32) (n : Nat) : Nat → Nat → Int32 := itr wrS n (sM M 23 (wrA (M 4) (M 23) 7))
def writeM (V : Nat → Int32) (M : Nat → Nat → Int32) (n : Nat) : Nat → Nat → Int32 := spreadM (wrU M n) (amtF (wrU M n 9) (V 5) 6) (maskF n)
set_option maxHeartbeats 4000000 in
set_option maxRecDepth 100000 in
theorem c_X1_write (G : jG) (ad : Nat → Nat) (V : Nat → Int32) (M : Nat → Nat → Int32) (en : Nat → Option Nat) (wo : va_W) (n : Nat) (hsz : V 2 = nI n) (hn : n ≤ 7) : jD G 4 yX1_write wsX1_write [.ref (ad 22)] (wC G ad V M en wo) none (wC G ad V (writeM V M n) en wo) := by
  refine jC.of (maxL := 3) (cc := cX1_write) (ret := none) rfl (by decide) [some (.ref (ad 22)), none, none] rfl (Nat.le_of_ble_eq_true rfl) (j_args rfl) (fun X hX => ?_)
  refine j_iconst hX (v := 0) (by decide) dX1_write_0 ?_
  refine j_istore_n hX (ls' := [some (.ref (ad 22)), some (.int 0), none]) dX1_write_1 (Nat.le_of_ble_eq_true rfl) rfl rfl ?_
  have L2 : ∀ zi i : Nat, 0 ≤ i → i + zi = 7 → jW G X 0 0 2 [some (.ref (ad 22)), some (.int (nI i)), none] [] (wC G ad V (sM M 23 (wrA (M 4) (M 23) i)) en wo) := by
    intro zi
    induction zi with
    | zero =>
      intro i h0 hi
      have hin : i = 7 := by omega
      refine j_iload_n hX dX1_write_2 rfl ?_
      refine j_bipush hX (v := 7) (by decide) dX1_write_3 ?_
      refine j_icmp_ge_t hX (tgt := 30) dX1_write_5 (by decide) (nI_le (a := 7) (b := i) (by omega) (by omega)) ?_
      refine j_iconst hX (v := 0) (by decide) dX1_write_30 ?_
      refine j_istore_n hX (ls' := [some (.ref (ad 22)), some (.int 0), none]) dX1_write_31 (Nat.le_of_ble_eq_true rfl) rfl rfl ?_
      have L32 : ∀ zb b : Nat, 0 ≤ b → b + zb = n → jW G X 0 0 32 [some (.ref (ad 22)), some (.int (nI b)), none] [] (wC G ad V (wrU M b) en wo) := by
        intro zb
        induction zb with
        | zero =>
          intro b h0b hib
          have hinb : b = n := by omega
          refine j_iload_n hX dX1_write_32 rfl ?_
          refine j_aload_n hX dX1_write_33 rfl ?_
          refine j_getf hX (v := .ref (ad 1)) dX1_write_34 fX1_write_18 22 (wCg22 _ _ _ _ _ _) rfl ?_
          refine j_dV hX (nA := 0) (cq := (RX0, TX0, 5)) (As := []) (st := [.int (nI b)]) (st' := [.int (V 2), .int (nI b)]) (ci := 2) rfl dX1_write_37 (c_X0_size G _ _ _ _ _) gX1_write_X0_size rfl (by decide +kernel) (q := 1) (wCg1 _ _ _ _ _ _) (by omega) (Nat.le_of_ble_eq_true rfl) rfl (Nat.le_of_ble_eq_true rfl) rfl ⟨Nat.le_refl _, Nat.le_refl _⟩ rfl ?_
          refine j_icmp_ge_t hX (tgt := 83) dX1_write_40 (by decide) (by rw [hsz, hinb]; exact nI_le (Nat.le_refl _) (by omega)) ?_
          refine j_aload_n hX dX1_write_83 rfl ?_
          refine j_aload_n hX dX1_write_84 rfl ?_
          refine j_getf hX (v := .ref (ad 11)) dX1_write_85 fX1_write_22 22 (wCg22 _ _ _ _ _ _) rfl ?_
          refine j_dV hX (nA := 0) (cq := (RX8, TX8, 12)) (As := []) (st := [.ref (ad 22)]) (st' := [.int (amtF ((wrU M b) 9) (V 5) 6), .ref (ad 22)]) (ci := 9) rfl dX1_write_88 (c_X8_thresholdDiscount G _ _ _ _ _) gX1_write_X8_thresholdDiscount rfl (by decide +kernel) (q := 11) (wCg11 _ _ _ _ _ _) (by omega) (Nat.le_of_ble_eq_true rfl) rfl (Nat.le_of_ble_eq_true rfl) rfl ⟨Nat.le_refl _, Nat.le_refl _⟩ rfl ?_
          refine j_aload_n hX dX1_write_91 rfl ?_
          refine j_getf hX (v := .ref (ad 1)) dX1_write_92 fX1_write_18 22 (wCg22 _ _ _ _ _ _) rfl ?_
          refine j_dV hX (nA := 0) (cq := (RX0, TX0, 5)) (As := []) (st := [.int (amtF ((wrU M b) 9) (V 5) 6), .ref (ad 22)]) (st' := [.int (maskF n), .int (amtF ((wrU M b) 9) (V 5) 6), .ref (ad 22)]) (ci := 2) rfl dX1_write_95 (c_X0_mask G _ _ _ _ _ n hsz hn) gX1_write_X0_mask rfl (by decide +kernel) (q := 1) (wCg1 _ _ _ _ _ _) (by omega) (Nat.le_of_ble_eq_true rfl) rfl (Nat.le_of_ble_eq_true rfl) rfl ⟨Nat.le_refl _, Nat.le_refl _⟩ rfl ?_
          refine j_dV hX (nA := 2) (cq := (RX1, TX1, 4)) (As := [.int (amtF ((wrU M b) 9) (V 5) 6), .int (maskF n)]) (st := []) (st' := []) (ci := 3) rfl dX1_write_98 (c_X1_spread G _ _ _ _ _ _ _) gX1_write_X1_spread rfl (by decide +kernel) (q := 22) (wCg22 _ _ _ _ _ _) (by omega) (Nat.le_of_ble_eq_true rfl) rfl (Nat.le_of_ble_eq_true rfl) rfl ⟨Nat.le_refl _, Nat.le_refl _⟩ rfl ?_
          exact j_vret hX dX1_write_101 ⟨rfl, by rw [hinb]; rfl⟩
        | succ zb ihb =>
          intro b h0b hib
          have hinb : b < n := by omega
          refine j_iload_n hX dX1_write_32 rfl ?_
          refine j_aload_n hX dX1_write_33 rfl ?_
          refine j_getf hX (v := .ref (ad 1)) dX1_write_34 fX1_write_18 22 (wCg22 _ _ _ _ _ _) rfl ?_
          refine j_dV hX (nA := 0) (cq := (RX0, TX0, 5)) (As := []) (st := [.int (nI b)]) (st' := [.int (V 2), .int (nI b)]) (ci := 2) rfl dX1_write_37 (c_X0_size G _ _ _ _ _) gX1_write_X0_size rfl (by decide +kernel) (q := 1) (wCg1 _ _ _ _ _ _) (by omega) (Nat.le_of_ble_eq_true rfl) rfl (Nat.le_of_ble_eq_true rfl) rfl ⟨Nat.le_refl _, Nat.le_refl _⟩ rfl ?_
          refine j_icmp_ge_f hX (tgt := 83) dX1_write_40 (by decide) (by rw [hsz]; exact nI_ge hinb (by omega)) ?_
          refine j_aload_n hX dX1_write_43 rfl ?_
          refine j_getf hX (v := .ref (ad 11)) dX1_write_44 fX1_write_22 22 (wCg22 _ _ _ _ _ _) rfl ?_
          refine j_iload_n hX dX1_write_47 rfl ?_
          refine j_dV hX (nA := 1) (cq := (RX8, TX8, 12)) (As := [.int (nI b)]) (st := []) (st' := [.int (useV (wrU M b) (nI b))]) (ci := 9) rfl dX1_write_48 (c_X8_useFrom G _ _ _ _ _ _) gX1_write_X8_useFrom rfl (by decide +kernel) (q := 11) (wCg11 _ _ _ _ _ _) (by omega) (Nat.le_of_ble_eq_true rfl) rfl (Nat.le_of_ble_eq_true rfl) rfl ⟨Nat.le_refl _, Nat.le_refl _⟩ rfl ?_
          refine j_istore_n hX (ls' := [some (.ref (ad 22)), some (.int (nI b)), some (.int (useV (wrU M b) (nI b)))]) dX1_write_51 (Nat.le_of_ble_eq_true rfl) rfl rfl ?_
          refine j_iload_n hX dX1_write_52 rfl ?_
          refine j_iconst hX (v := -1) (by decide) dX1_write_53 ?_
          refine j_icmp_eq hX (tgt := 77) dX1_write_54 (by decide) (fun h54 => ?_) (fun h54 => ?_)
          · refine j_iinc hX (v := nI (b + 1)) (ls' := [some (.ref (ad 22)), some (.int (nI (b + 1))), some (.int (useV (wrU M b) (nI b)))]) dX1_write_77 rfl (j_inc1 _) rfl rfl ?_
            refine j_goto hX (tgt := 32) dX1_write_80 (by decide) ?_
            refine jW.drop (ls' := [some (.ref (ad 22)), some (.int (nI (b + 1))), none]) ⟨Or.inr rfl, Or.inr rfl, Or.inl rfl, trivial⟩ ?_
            refine jW.world (ws' := (wC G ad V (wrU M (b + 1)) en wo)) (by rw [show wrU M (b + 1) = (wrU M b) from (if_pos h54)]) ?_
            exact ihb (b + 1) (by omega) (by omega)
          · refine j_aload_n hX dX1_write_57 rfl ?_
            refine j_aload_n hX dX1_write_58 rfl ?_
            refine j_getf hX (v := .ref (ad 11)) dX1_write_59 fX1_write_22 22 (wCg22 _ _ _ _ _ _) rfl ?_
            refine j_iload_n hX dX1_write_62 rfl ?_
            refine j_dV hX (nA := 1) (cq := (RX8, TX8, 12)) (As := [.int (useV (wrU M b) (nI b))]) (st := [.ref (ad 22)]) (st' := [.int (atF 210 ((wrU M b) 15) (useV (wrU M b) (nI b))), .ref (ad 22)]) (ci := 9) rfl dX1_write_63 (c_X8_discountOf G _ _ _ _ _ _) gX1_write_X8_discountOf rfl (by decide +kernel) (q := 11) (wCg11 _ _ _ _ _ _) (by omega) (Nat.le_of_ble_eq_true rfl) rfl (Nat.le_of_ble_eq_true rfl) rfl ⟨Nat.le_refl _, Nat.le_refl _⟩ rfl ?_
            refine j_aload_n hX dX1_write_66 rfl ?_
            refine j_getf hX (v := .ref (ad 11)) dX1_write_67 fX1_write_22 22 (wCg22 _ _ _ _ _ _) rfl ?_
            refine j_iload_n hX dX1_write_70 rfl ?_
            refine j_dV hX (nA := 1) (cq := (RX8, TX8, 12)) (As := [.int (useV (wrU M b) (nI b))]) (st := [.int (atF 210 ((wrU M b) 15) (useV (wrU M b) (nI b))), .ref (ad 22)]) (st' := [.int (atF 210 ((wrU M b) 14) (useV (wrU M b) (nI b))), .int (atF 210 ((wrU M b) 15) (useV (wrU M b) (nI b))), .ref (ad 22)]) (ci := 9) rfl dX1_write_71 (c_X8_maskOf G _ _ _ _ _ _) gX1_write_X8_maskOf rfl (by decide +kernel) (q := 11) (wCg11 _ _ _ _ _ _) (by omega) (Nat.le_of_ble_eq_true rfl) rfl (Nat.le_of_ble_eq_true rfl) rfl ⟨Nat.le_refl _, Nat.le_refl _⟩ rfl ?_
            refine j_dV hX (nA := 2) (cq := (RX1, TX1, 4)) (As := [.int (atF 210 ((wrU M b) 15) (useV (wrU M b) (nI b))), .int (atF 210 ((wrU M b) 14) (useV (wrU M b) (nI b)))]) (st := []) (st' := []) (ci := 3) rfl dX1_write_74 (c_X1_spread G _ _ _ _ _ _ _) gX1_write_X1_spread rfl (by decide +kernel) (q := 22) (wCg22 _ _ _ _ _ _) (by omega) (Nat.le_of_ble_eq_true rfl) rfl (Nat.le_of_ble_eq_true rfl) rfl ⟨Nat.le_refl _, Nat.le_refl _⟩ rfl ?_
            refine j_iinc hX (v := nI (b + 1)) (ls' := [some (.ref (ad 22)), some (.int (nI (b + 1))), some (.int (useV (wrU M b) (nI b)))]) dX1_write_77 rfl (j_inc1 _) rfl rfl ?_
            refine j_goto hX (tgt := 32) dX1_write_80 (by decide) ?_
            refine jW.drop (ls' := [some (.ref (ad 22)), some (.int (nI (b + 1))), none]) ⟨Or.inr rfl, Or.inr rfl, Or.inl rfl, trivial⟩ ?_
            refine jW.world (ws' := (wC G ad V (wrU M (b + 1)) en wo)) (by rw [show wrU M (b + 1) = (spreadM (wrU M b) (atF 210 ((wrU M b) 15) (useV (wrU M b) (nI b))) (atF 210 ((wrU M b) 14) (useV (wrU M b) (nI b)))) from (if_neg h54)]) ?_
            exact ihb (b + 1) (by omega) (by omega)
      refine jW.world (ws' := (wC G ad V (wrU M 0) en wo)) (by rw [hin]; rfl) ?_
      exact L32 n 0 (Nat.le_refl _) (by omega)
    | succ zi ih =>
      intro i h0 hi
      have hin : i < 7 := by omega
      refine j_iload_n hX dX1_write_2 rfl ?_
      refine j_bipush hX (v := 7) (by decide) dX1_write_3 ?_
      refine j_icmp_ge_f hX (tgt := 30) dX1_write_5 (by decide) (nI_ge (a := i) (b := 7) (by omega) (by decide)) ?_
      refine j_aload_n hX dX1_write_8 rfl ?_
      refine j_getf hX (v := .ref (ad 23)) dX1_write_9 fX1_write_9 22 (wCg22 _ _ _ _ _ _) rfl ?_
      refine j_iload_n hX dX1_write_12 rfl ?_
      refine j_aload_n hX dX1_write_13 rfl ?_
      refine j_getf hX (v := .ref (ad 1)) dX1_write_14 fX1_write_18 22 (wCg22 _ _ _ _ _ _) rfl ?_
      refine j_iload_n hX dX1_write_17 rfl ?_
      refine j_dV hX (nA := 1) (cq := (RX0, TX0, 5)) (As := [.int (nI i)]) (st := [.int (nI i), .ref (ad 23)]) (st' := [.int (atF 7 (M 4) (nI i)), .int (nI i), .ref (ad 23)]) (ci := 2) rfl dX1_write_18 (c_X0_priceAt G _ _ _ _ _ _) gX1_write_X0_priceAt rfl (by decide +kernel) (q := 1) (wCg1 _ _ _ _ _ _) (by omega) (Nat.le_of_ble_eq_true rfl) rfl (Nat.le_of_ble_eq_true rfl) rfl ⟨Nat.le_refl _, Nat.le_refl _⟩ rfl ?_
      refine j_dSN hX (nA := 3) (As := [.ref (ad 23), .int (nI i), .int (atF 7 (M 4) (nI i))]) (st := []) (st' := []) dX1_write_21 (c_setAt G (q := 23) (wCg23 _ _ _ _ _ _) (by decide) (w1 := (wC G ad V (sM M 23 (setF 7 (wrA (M 4) (M 23) i) (nI i) (atF 7 (M 4) (nI i)))) en wo)) (wCo23 _ _ _ _ _ _ _ _)) gX1_write_X11_setAt_n32 rfl (by decide +kernel) (host := "BasketOffers") (by decide +kernel) (by decide +kernel) (by decide +kernel) (by omega) (Nat.le_of_ble_eq_true rfl) rfl (Nat.le_of_ble_eq_true rfl) rfl ⟨Nat.le_refl _, Nat.le_refl _⟩ rfl ?_
      refine j_iinc hX (v := nI (i + 1)) (ls' := [some (.ref (ad 22)), some (.int (nI (i + 1))), none]) dX1_write_24 rfl (j_inc1 _) rfl rfl ?_
      refine j_goto hX (tgt := 2) dX1_write_27 (by decide) ?_
      exact ih (i + 1) (by omega) (by omega)
  refine jW.world (ws' := (wC G ad V (sM M 23 (wrA (M 4) (M 23) 0)) en wo)) rfl ?_
  exact L2 7 0 (Nat.le_refl _) (by omega)

set_option maxHeartbeats 4000000 in
set_option maxRecDepth 100000 in
theorem c_X4_itemsSold (G : jG) (ad : Nat → Nat) (V : Nat → Int32) (M : Nat → Nat → Int32) (en : Nat → Option Nat) (wo : va_W) : jD G 0 yX4_itemsSold wsX4_itemsSold [.ref (ad 25)] (wC G ad V M en wo) (some (.int (V 10))) (wC G ad V M en wo) := by
  refine jC.of (maxL := 1) (cc := cX4_itemsSold) (ret := (some .int)) rfl (by decide) [some (.ref (ad 25))] rfl (Nat.le_of_ble_eq_true rfl) (j_args rfl) (fun X hX => ?_)
  refine j_aload_n hX dX4_itemsSold_0 rfl ?_
  refine j_getf hX (v := .int (V 10)) dX4_itemsSold_1 fX4_itemsSold_29 25 (wCg25 _ _ _ _ _ _) rfl ?_
  exact j_iret hX dX4_itemsSold_4 ⟨rfl, rfl⟩

set_option maxHeartbeats 4000000 in
set_option maxRecDepth 100000 in
theorem c_X4_pricesSold (G : jG) (ad : Nat → Nat) (V : Nat → Int32) (M : Nat → Nat → Int32) (en : Nat → Option Nat) (wo : va_W) : jD G 0 yX4_pricesSold wsX4_pricesSold [.ref (ad 25)] (wC G ad V M en wo) (some (.int (V 11))) (wC G ad V M en wo) := by
  refine jC.of (maxL := 1) (cc := cX4_pricesSold) (ret := (some .int)) rfl (by decide) [some (.ref (ad 25))] rfl (Nat.le_of_ble_eq_true rfl) (j_args rfl) (fun X hX => ?_)
  refine j_aload_n hX dX4_pricesSold_0 rfl ?_
  refine j_getf hX (v := .int (V 11)) dX4_pricesSold_1 fX4_pricesSold_33 25 (wCg25 _ _ _ _ _ _) rfl ?_
  exact j_iret hX dX4_pricesSold_4 ⟨rfl, rfl⟩

set_option maxHeartbeats 4000000 in
set_option maxRecDepth 100000 in
theorem c_X4_netsSold (G : jG) (ad : Nat → Nat) (V : Nat → Int32) (M : Nat → Nat → Int32) (en : Nat → Option Nat) (wo : va_W) : jD G 0 yX4_netsSold wsX4_netsSold [.ref (ad 25)] (wC G ad V M en wo) (some (.int (V 12))) (wC G ad V M en wo) := by
  refine jC.of (maxL := 1) (cc := cX4_netsSold) (ret := (some .int)) rfl (by decide) [some (.ref (ad 25))] rfl (Nat.le_of_ble_eq_true rfl) (j_args rfl) (fun X hX => ?_)
  refine j_aload_n hX dX4_netsSold_0 rfl ?_
  refine j_getf hX (v := .int (V 12)) dX4_netsSold_1 fX4_netsSold_36 25 (wCg25 _ _ _ _ _ _) rfl ?_
  exact j_iret hX dX4_netsSold_4 ⟨rfl, rfl⟩

set_option maxHeartbeats 4000000 in
set_option maxRecDepth 100000 in
theorem c_X4_usesCounted (G : jG) (ad : Nat → Nat) (V : Nat → Int32) (M : Nat → Nat → Int32) (en : Nat → Option Nat) (wo : va_W) : jD G 0 yX4_usesCounted wsX4_usesCounted [.ref (ad 25)] (wC G ad V M en wo) (some (.int (V 14))) (wC G ad V M en wo) := by
  refine jC.of (maxL := 1) (cc := cX4_usesCounted) (ret := (some .int)) rfl (by decide) [some (.ref (ad 25))] rfl (Nat.le_of_ble_eq_true rfl) (j_args rfl) (fun X hX => ?_)
  refine j_aload_n hX dX4_usesCounted_0 rfl ?_
  refine j_getf hX (v := .int (V 14)) dX4_usesCounted_1 fX4_usesCounted_39 25 (wCg25 _ _ _ _ _ _) rfl ?_
  exact j_iret hX dX4_usesCounted_4 ⟨rfl, rfl⟩

set_option maxHeartbeats 4000000 in
set_option maxRecDepth 100000 in
theorem c_X4_kept (G : jG) (ad : Nat → Nat) (V : Nat → Int32) (M : Nat → Nat → Int32) (en : Nat → Option Nat) (wo : va_W) : jD G 0 yX4_kept wsX4_kept [.ref (ad 25)] (wC G ad V M en wo) (some (.long ((V 12).toInt64 - (V 13).toInt64))) (wC G ad V M en wo) := by
  refine jC.of (maxL := 1) (cc := cX4_kept) (ret := (some .long)) rfl (by decide) [some (.ref (ad 25))] rfl (Nat.le_of_ble_eq_true rfl) (j_args rfl) (fun X hX => ?_)
  refine j_aload_n hX dX4_kept_0 rfl ?_
  refine j_getf hX (v := .int (V 12)) dX4_kept_1 fX4_kept_36 25 (wCg25 _ _ _ _ _ _) rfl ?_
  refine j_i2l hX dX4_kept_4 ?_
  refine j_aload_n hX dX4_kept_5 rfl ?_
  refine j_getf hX (v := .int (V 13)) dX4_kept_6 fX4_kept_42 25 (wCg25 _ _ _ _ _ _) rfl ?_
  refine j_i2l hX dX4_kept_9 ?_
  refine j_lsub hX dX4_kept_10 ?_
  exact j_lret hX dX4_kept_11 ⟨rfl, rfl⟩

set_option maxHeartbeats 4000000 in
set_option maxRecDepth 100000 in
theorem c_X4_buyerOf (G : jG) (ad : Nat → Nat) (V : Nat → Int32) (M : Nat → Nat → Int32) (en : Nat → Option Nat) (wo : va_W) (x : Int32) : jD G 1 yX4_buyerOf wsX4_buyerOf [.ref (ad 25), .int x] (wC G ad V M en wo) (some (.int (atF 60 (M 28) x))) (wC G ad V M en wo) := by
  refine jC.of (maxL := 2) (cc := cX4_buyerOf) (ret := (some .int)) rfl (by decide) [some (.ref (ad 25)), some (.int x)] rfl (Nat.le_of_ble_eq_true rfl) (j_args rfl) (fun X hX => ?_)
  refine j_aload_n hX dX4_buyerOf_0 rfl ?_
  refine j_getf hX (v := .ref (ad 28)) dX4_buyerOf_1 fX4_buyerOf_18 25 (wCg25 _ _ _ _ _ _) rfl ?_
  refine j_iload_n hX dX4_buyerOf_4 rfl ?_
  refine j_dSN hX (nA := 2) (As := [.ref (ad 28), .int x]) (st := []) (st' := [.int (atF 60 (M 28) x)]) dX4_buyerOf_5 (c_at G (q := 28) (wCg28 _ _ _ _ _ _) (by decide)) gX4_buyerOf_X11_at_n45 rfl (by decide +kernel) (host := "BasketOffers") (by decide +kernel) (by decide +kernel) (by decide +kernel) (by omega) (Nat.le_of_ble_eq_true rfl) rfl (Nat.le_of_ble_eq_true rfl) rfl ⟨Nat.le_refl _, Nat.le_refl _⟩ rfl ?_
  exact j_iret hX dX4_buyerOf_8 ⟨rfl, rfl⟩

set_option maxHeartbeats 4000000 in
set_option maxRecDepth 100000 in
theorem c_X4_countUses (G : jG) (ad : Nat → Nat) (V : Nat → Int32) (M : Nat → Nat → Int32) (en : Nat → Option Nat) (wo : va_W) (t : Int32) : jD G 0 yX4_countUses wsX4_countUses [.ref (ad 25), .int t] (wC G ad V M en wo) none (wC G ad (sV V 14 (V 14 + t)) M en wo) := by
  refine jC.of (maxL := 2) (cc := cX4_countUses) (ret := none) rfl (by decide) [some (.ref (ad 25)), some (.int t)] rfl (Nat.le_of_ble_eq_true rfl) (j_args rfl) (fun X hX => ?_)
  refine j_aload_n hX dX4_countUses_0 rfl ?_
  refine j_dup hX dX4_countUses_1 rfl ?_
  refine j_getf hX (v := .int (V 14)) dX4_countUses_2 fX4_countUses_39 25 (wCg25 _ _ _ _ _ _) rfl ?_
  refine j_iload_n hX dX4_countUses_5 rfl ?_
  refine j_iadd hX dX4_countUses_6 ?_
  refine j_putf hX (ws' := (wC G ad (sV V 14 ((V 14) + t)) M en wo)) dX4_countUses_7 fX4_countUses_39 25 (wCg25 _ _ _ _ _ _) (Nat.le_of_ble_eq_true rfl) rfl rfl (wCp25_8 _ _ _ _ _ _ _) ?_
  exact j_vret hX dX4_countUses_10 ⟨rfl, rfl⟩

def zAt (f : Nat → Int32) (x : Int32) : Int32 := if x < 0 then 0 else if 60 ≤ x then 0 else if f x.toNatClampNeg = 0 then 0 else 1
set_option maxHeartbeats 4000000 in
set_option maxRecDepth 100000 in
theorem c_X4_wasSold (G : jG) (ad : Nat → Nat) (V : Nat → Int32) (M : Nat → Nat → Int32) (en : Nat → Option Nat) (wo : va_W) (x : Int32) : jD G 0 yX4_wasSold wsX4_wasSold [.ref (ad 25), .int x] (wC G ad V M en wo) (some (.int (zAt (M 26) x))) (wC G ad V M en wo) := by
  refine jC.of (maxL := 2) (cc := cX4_wasSold) (ret := (some .boolean)) rfl (by decide) [some (.ref (ad 25)), some (.int x)] rfl (Nat.le_of_ble_eq_true rfl) (j_args rfl) (fun X hX => ?_)
  refine j_iload_n hX dX4_wasSold_0 rfl ?_
  refine j_if_lt hX (tgt := 26) dX4_wasSold_1 (by decide) (fun h1 => ?_) (fun h1 => ?_)
  · refine j_iconst hX (v := 0) (by decide) dX4_wasSold_26 ?_
    exact j_zret hX (by decide) dX4_wasSold_27 ⟨(congrArg (fun z => some (Value.int z)) (if_pos h1)).symm, rfl⟩
  · refine j_iload_n hX dX4_wasSold_4 rfl ?_
    refine j_aload_n hX dX4_wasSold_5 rfl ?_
    refine j_getf hX (v := .ref (ad 26)) dX4_wasSold_6 fX4_wasSold_9 25 (wCg25 _ _ _ _ _ _) rfl ?_
    refine j_alen hX (v := 60) dX4_wasSold_9 26 rfl 2 rfl rfl ?_
    refine j_icmp_ge hX (tgt := 26) dX4_wasSold_10 (by decide) (fun h10 => ?_) (fun h10 => ?_)
    · refine j_iconst hX (v := 0) (by decide) dX4_wasSold_26 ?_
      exact j_zret hX (by decide) dX4_wasSold_27 ⟨(congrArg (fun z => some (Value.int z)) ((if_neg h1).trans (if_pos h10))).symm, rfl⟩
    · refine j_aload_n hX dX4_wasSold_13 rfl ?_
      refine j_getf hX (v := .ref (ad 26)) dX4_wasSold_14 fX4_wasSold_9 25 (wCg25 _ _ _ _ _ _) rfl ?_
      refine j_iload_n hX dX4_wasSold_17 rfl ?_
      refine j_zald hX (v := (M 26) x.toNatClampNeg) dX4_wasSold_18 26 rfl (vp_in_of2 h1 h10 (by decide)) rfl ?_
      refine j_if_eq hX (tgt := 26) dX4_wasSold_19 (by decide) (fun h19 => ?_) (fun h19 => ?_)
      · refine j_iconst hX (v := 0) (by decide) dX4_wasSold_26 ?_
        exact j_zret hX (by decide) dX4_wasSold_27 ⟨(congrArg (fun z => some (Value.int z)) (((if_neg h1).trans (if_neg h10)).trans (if_pos h19))).symm, rfl⟩
      · refine j_iconst hX (v := 1) (by decide) dX4_wasSold_22 ?_
        refine j_goto hX (tgt := 27) dX4_wasSold_23 (by decide) ?_
        exact j_zret hX (by decide) dX4_wasSold_27 ⟨(congrArg (fun z => some (Value.int z)) (((if_neg h1).trans (if_neg h10)).trans (if_neg h19))).symm, rfl⟩

set_option maxHeartbeats 4000000 in
set_option maxRecDepth 100000 in
theorem c_X4_wasGivenBack (G : jG) (ad : Nat → Nat) (V : Nat → Int32) (M : Nat → Nat → Int32) (en : Nat → Option Nat) (wo : va_W) (x : Int32) : jD G 0 yX4_wasGivenBack wsX4_wasGivenBack [.ref (ad 25), .int x] (wC G ad V M en wo) (some (.int (zAt (M 27) x))) (wC G ad V M en wo) := by
  refine jC.of (maxL := 2) (cc := cX4_wasGivenBack) (ret := (some .boolean)) rfl (by decide) [some (.ref (ad 25)), some (.int x)] rfl (Nat.le_of_ble_eq_true rfl) (j_args rfl) (fun X hX => ?_)
  refine j_iload_n hX dX4_wasGivenBack_0 rfl ?_
  refine j_if_lt hX (tgt := 26) dX4_wasGivenBack_1 (by decide) (fun h1 => ?_) (fun h1 => ?_)
  · refine j_iconst hX (v := 0) (by decide) dX4_wasGivenBack_26 ?_
    exact j_zret hX (by decide) dX4_wasGivenBack_27 ⟨(congrArg (fun z => some (Value.int z)) (if_pos h1)).symm, rfl⟩
  · refine j_iload_n hX dX4_wasGivenBack_4 rfl ?_
    refine j_aload_n hX dX4_wasGivenBack_5 rfl ?_
    refine j_getf hX (v := .ref (ad 27)) dX4_wasGivenBack_6 fX4_wasGivenBack_15 25 (wCg25 _ _ _ _ _ _) rfl ?_
    refine j_alen hX (v := 60) dX4_wasGivenBack_9 27 rfl 2 rfl rfl ?_
    refine j_icmp_ge hX (tgt := 26) dX4_wasGivenBack_10 (by decide) (fun h10 => ?_) (fun h10 => ?_)
    · refine j_iconst hX (v := 0) (by decide) dX4_wasGivenBack_26 ?_
      exact j_zret hX (by decide) dX4_wasGivenBack_27 ⟨(congrArg (fun z => some (Value.int z)) ((if_neg h1).trans (if_pos h10))).symm, rfl⟩
    · refine j_aload_n hX dX4_wasGivenBack_13 rfl ?_
      refine j_getf hX (v := .ref (ad 27)) dX4_wasGivenBack_14 fX4_wasGivenBack_15 25 (wCg25 _ _ _ _ _ _) rfl ?_
      refine j_iload_n hX dX4_wasGivenBack_17 rfl ?_
      refine j_zald hX (v := (M 27) x.toNatClampNeg) dX4_wasGivenBack_18 27 rfl (vp_in_of2 h1 h10 (by decide)) rfl ?_
      refine j_if_eq hX (tgt := 26) dX4_wasGivenBack_19 (by decide) (fun h19 => ?_) (fun h19 => ?_)
      · refine j_iconst hX (v := 0) (by decide) dX4_wasGivenBack_26 ?_
        exact j_zret hX (by decide) dX4_wasGivenBack_27 ⟨(congrArg (fun z => some (Value.int z)) (((if_neg h1).trans (if_neg h10)).trans (if_pos h19))).symm, rfl⟩
      · refine j_iconst hX (v := 1) (by decide) dX4_wasGivenBack_22 ?_
        refine j_goto hX (tgt := 27) dX4_wasGivenBack_23 (by decide) ?_
        exact j_zret hX (by decide) dX4_wasGivenBack_27 ⟨(congrArg (fun z => some (Value.int z)) (((if_neg h1).trans (if_neg h10)).trans (if_neg h19))).symm, rfl⟩

def saleF (s : VM) (x c price net : Int32) : VM := if x < 0 then s else if x < 60 then (sV (sV (sV s.1 10 (s.1 10 + 1)) 11 (s.1 11 + price)) 12 (s.1 12 + net), sM (sM (sM s.2 26 (upd (s.2 26) x.toNatClampNeg 1)) 28 (setF 60 (s.2 28) x c)) 29 (setF 60 (s.2 29) x net)) else s
set_option maxHeartbeats 4000000 in
set_option maxRecDepth 100000 in
theorem c_X4_enterSale (G : jG) (ad : Nat → Nat) (V : Nat → Int32) (M : Nat → Nat → Int32) (en : Nat → Option Nat) (wo : va_W) (x c price net : Int32) : jD G 1 yX4_enterSale wsX4_enterSale [.ref (ad 25), .int x, .int c, .int price, .int net] (wC G ad V M en wo) none (wC G ad (saleF (V, M) x c price net).1 (saleF (V, M) x c price net).2 en wo) := by
  refine jC.of (maxL := 5) (cc := cX4_enterSale) (ret := none) rfl (by decide) [some (.ref (ad 25)), some (.int x), some (.int c), some (.int price), some (.int net)] rfl (Nat.le_of_ble_eq_true rfl) (j_args rfl) (fun X hX => ?_)
  refine j_iload_n hX dX4_enterSale_0 rfl ?_
  refine j_if_lt hX (tgt := 13) dX4_enterSale_1 (by decide) (fun h1 => ?_) (fun h1 => ?_)
  · exact j_vret hX dX4_enterSale_13 (by have e8 : saleF (V, M) x c price net = (V, M) := (if_pos h1); rw [e8]; exact ⟨rfl, rfl⟩)
  · refine j_iload_n hX dX4_enterSale_4 rfl ?_
    refine j_aload_n hX dX4_enterSale_5 rfl ?_
    refine j_getf hX (v := .ref (ad 26)) dX4_enterSale_6 fX4_enterSale_9 25 (wCg25 _ _ _ _ _ _) rfl ?_
    refine j_alen hX (v := 60) dX4_enterSale_9 26 rfl 2 rfl rfl ?_
    refine j_icmp_lt hX (tgt := 14) dX4_enterSale_10 (by decide) (fun h10 => ?_) (fun h10 => ?_)
    · refine j_aload_n hX dX4_enterSale_14 rfl ?_
      refine j_getf hX (v := .ref (ad 26)) dX4_enterSale_15 fX4_enterSale_9 25 (wCg25 _ _ _ _ _ _) rfl ?_
      refine j_iload_n hX dX4_enterSale_18 rfl ?_
      refine j_iconst hX (v := 1) (by decide) dX4_enterSale_19 ?_
      refine j_zast hX (ws' := (wC G ad V (sM M 26 (upd (M 26) x.toNatClampNeg 1)) en wo)) dX4_enterSale_20 26 rfl (vp_in_of2 h1 (Int32.not_le.mpr h10) (by decide)) rfl ?_
      refine j_aload_n hX dX4_enterSale_21 rfl ?_
      refine j_getf hX (v := .ref (ad 28)) dX4_enterSale_22 fX4_enterSale_18 25 (wCg25 _ _ _ _ _ _) rfl ?_
      refine j_iload_n hX dX4_enterSale_25 rfl ?_
      refine j_iload_n hX dX4_enterSale_26 rfl ?_
      refine j_dSN hX (nA := 3) (As := [.ref (ad 28), .int x, .int c]) (st := []) (st' := []) dX4_enterSale_27 (c_setAt G (q := 28) (wCg28 _ _ _ _ _ _) (by decide) (wCp28 _ _ _ _ _ _ _)) gX4_enterSale_X11_setAt_n25 rfl (by decide +kernel) (host := "BasketOffers") (by decide +kernel) (by decide +kernel) (by decide +kernel) (by omega) (Nat.le_of_ble_eq_true rfl) rfl (Nat.le_of_ble_eq_true rfl) rfl ⟨Nat.le_refl _, Nat.le_refl _⟩ rfl ?_
      refine j_aload_n hX dX4_enterSale_30 rfl ?_
      refine j_getf hX (v := .ref (ad 29)) dX4_enterSale_31 fX4_enterSale_22 25 (wCg25 _ _ _ _ _ _) rfl ?_
      refine j_iload_n hX dX4_enterSale_34 rfl ?_
      refine j_iload hX dX4_enterSale_35 rfl ?_
      refine j_dSN hX (nA := 3) (As := [.ref (ad 29), .int x, .int net]) (st := []) (st' := []) dX4_enterSale_37 (c_setAt G (q := 29) (wCg29 _ _ _ _ _ _) (by decide) (wCp29 _ _ _ _ _ _ _)) gX4_enterSale_X11_setAt_n25 rfl (by decide +kernel) (host := "BasketOffers") (by decide +kernel) (by decide +kernel) (by decide +kernel) (by omega) (Nat.le_of_ble_eq_true rfl) rfl (Nat.le_of_ble_eq_true rfl) rfl ⟨Nat.le_refl _, Nat.le_refl _⟩ rfl ?_
      refine j_aload_n hX dX4_enterSale_40 rfl ?_
      refine j_dup hX dX4_enterSale_41 rfl ?_
      refine j_getf hX (v := .int (V 10)) dX4_enterSale_42 fX4_enterSale_29 25 (wCg25 _ _ _ _ _ _) rfl ?_
      refine j_iconst hX (v := 1) (by decide) dX4_enterSale_45 ?_
      refine j_iadd hX dX4_enterSale_46 ?_
      refine j_putf hX (ws' := (wC G ad (sV V 10 ((V 10) + 1)) (sM (sM (sM M 26 (upd (M 26) x.toNatClampNeg 1)) 28 (setF 60 (M 28) x c)) 29 (setF 60 (M 29) x net)) en wo)) dX4_enterSale_47 fX4_enterSale_29 25 (wCg25 _ _ _ _ _ _) (Nat.le_of_ble_eq_true rfl) rfl rfl (wCp25_4 _ _ _ _ _ _ _) ?_
      refine j_aload_n hX dX4_enterSale_50 rfl ?_
      refine j_dup hX dX4_enterSale_51 rfl ?_
      refine j_getf hX (v := .int (V 11)) dX4_enterSale_52 fX4_enterSale_33 25 (wCg25 _ _ _ _ _ _) rfl ?_
      refine j_iload_n hX dX4_enterSale_55 rfl ?_
      refine j_iadd hX dX4_enterSale_56 ?_
      refine j_putf hX (ws' := (wC G ad (sV (sV V 10 ((V 10) + 1)) 11 ((V 11) + price)) (sM (sM (sM M 26 (upd (M 26) x.toNatClampNeg 1)) 28 (setF 60 (M 28) x c)) 29 (setF 60 (M 29) x net)) en wo)) dX4_enterSale_57 fX4_enterSale_33 25 (wCg25 _ _ _ _ _ _) (Nat.le_of_ble_eq_true rfl) rfl rfl (wCp25_5 _ _ _ _ _ _ _) ?_
      refine j_aload_n hX dX4_enterSale_60 rfl ?_
      refine j_dup hX dX4_enterSale_61 rfl ?_
      refine j_getf hX (v := .int (V 12)) dX4_enterSale_62 fX4_enterSale_36 25 (wCg25 _ _ _ _ _ _) rfl ?_
      refine j_iload hX dX4_enterSale_65 rfl ?_
      refine j_iadd hX dX4_enterSale_67 ?_
      refine j_putf hX (ws' := (wC G ad (sV (sV (sV V 10 ((V 10) + 1)) 11 ((V 11) + price)) 12 ((V 12) + net)) (sM (sM (sM M 26 (upd (M 26) x.toNatClampNeg 1)) 28 (setF 60 (M 28) x c)) 29 (setF 60 (M 29) x net)) en wo)) dX4_enterSale_68 fX4_enterSale_36 25 (wCg25 _ _ _ _ _ _) (Nat.le_of_ble_eq_true rfl) rfl rfl (wCp25_6 _ _ _ _ _ _ _) ?_
      exact j_vret hX dX4_enterSale_71 (by have e8 : saleF (V, M) x c price net = ((sV (sV (sV V 10 ((V 10) + 1)) 11 ((V 11) + price)) 12 ((V 12) + net)), (sM (sM (sM M 26 (upd (M 26) x.toNatClampNeg 1)) 28 (setF 60 (M 28) x c)) 29 (setF 60 (M 29) x net))) := ((if_neg h1).trans (if_pos h10)); rw [e8]; exact ⟨rfl, rfl⟩)
    · exact j_vret hX dX4_enterSale_13 (by have e8 : saleF (V, M) x c price net = (V, M) := ((if_neg h1).trans (if_neg h10)); rw [e8]; exact ⟨rfl, rfl⟩)

def backF (s : VM) (x : Int32) : VM := if x < 0 then s else if 60 ≤ x then s else (sV s.1 13 (s.1 13 + atF 60 (s.2 29) x), sM s.2 27 (upd (s.2 27) x.toNatClampNeg 1))
set_option maxHeartbeats 4000000 in
set_option maxRecDepth 100000 in
theorem c_X4_enterReturn (G : jG) (ad : Nat → Nat) (V : Nat → Int32) (M : Nat → Nat → Int32) (en : Nat → Option Nat) (wo : va_W) (x : Int32) : jD G 1 yX4_enterReturn wsX4_enterReturn [.ref (ad 25), .int x] (wC G ad V M en wo) (some (.int (atF 60 (M 29) x))) (wC G ad (backF (V, M) x).1 (backF (V, M) x).2 en wo) := by
  refine jC.of (maxL := 2) (cc := cX4_enterReturn) (ret := (some .int)) rfl (by decide) [some (.ref (ad 25)), some (.int x)] rfl (Nat.le_of_ble_eq_true rfl) (j_args rfl) (fun X hX => ?_)
  refine j_iload_n hX dX4_enterReturn_0 rfl ?_
  refine j_if_lt hX (tgt := 37) dX4_enterReturn_1 (by decide) (fun h1 => ?_) (fun h1 => ?_)
  · refine j_aload_n hX dX4_enterReturn_37 rfl ?_
    refine j_getf hX (v := .ref (ad 29)) dX4_enterReturn_38 fX4_enterReturn_22 25 (wCg25 _ _ _ _ _ _) rfl ?_
    refine j_iload_n hX dX4_enterReturn_41 rfl ?_
    refine j_dSN hX (nA := 2) (As := [.ref (ad 29), .int x]) (st := []) (st' := [.int (atF 60 (M 29) x)]) dX4_enterReturn_42 (c_at G (q := 29) (wCg29 _ _ _ _ _ _) (by decide)) gX4_enterReturn_X11_at_n45 rfl (by decide +kernel) (host := "BasketOffers") (by decide +kernel) (by decide +kernel) (by decide +kernel) (by omega) (Nat.le_of_ble_eq_true rfl) rfl (Nat.le_of_ble_eq_true rfl) rfl ⟨Nat.le_refl _, Nat.le_refl _⟩ rfl ?_
    exact j_iret hX dX4_enterReturn_45 (by have e8 : backF (V, M) x = (V, M) := (if_pos h1); rw [e8]; exact ⟨rfl, rfl⟩)
  · refine j_iload_n hX dX4_enterReturn_4 rfl ?_
    refine j_aload_n hX dX4_enterReturn_5 rfl ?_
    refine j_getf hX (v := .ref (ad 27)) dX4_enterReturn_6 fX4_enterReturn_15 25 (wCg25 _ _ _ _ _ _) rfl ?_
    refine j_alen hX (v := 60) dX4_enterReturn_9 27 rfl 2 rfl rfl ?_
    refine j_icmp_ge hX (tgt := 37) dX4_enterReturn_10 (by decide) (fun h10 => ?_) (fun h10 => ?_)
    · refine j_aload_n hX dX4_enterReturn_37 rfl ?_
      refine j_getf hX (v := .ref (ad 29)) dX4_enterReturn_38 fX4_enterReturn_22 25 (wCg25 _ _ _ _ _ _) rfl ?_
      refine j_iload_n hX dX4_enterReturn_41 rfl ?_
      refine j_dSN hX (nA := 2) (As := [.ref (ad 29), .int x]) (st := []) (st' := [.int (atF 60 (M 29) x)]) dX4_enterReturn_42 (c_at G (q := 29) (wCg29 _ _ _ _ _ _) (by decide)) gX4_enterReturn_X11_at_n45 rfl (by decide +kernel) (host := "BasketOffers") (by decide +kernel) (by decide +kernel) (by decide +kernel) (by omega) (Nat.le_of_ble_eq_true rfl) rfl (Nat.le_of_ble_eq_true rfl) rfl ⟨Nat.le_refl _, Nat.le_refl _⟩ rfl ?_
      exact j_iret hX dX4_enterReturn_45 (by have e8 : backF (V, M) x = (V, M) := ((if_neg h1).trans (if_pos h10)); rw [e8]; exact ⟨rfl, rfl⟩)
    · refine j_aload_n hX dX4_enterReturn_13 rfl ?_
      refine j_getf hX (v := .ref (ad 27)) dX4_enterReturn_14 fX4_enterReturn_15 25 (wCg25 _ _ _ _ _ _) rfl ?_
      refine j_iload_n hX dX4_enterReturn_17 rfl ?_
      refine j_iconst hX (v := 1) (by decide) dX4_enterReturn_18 ?_
      refine j_zast hX (ws' := (wC G ad V (sM M 27 (upd (M 27) x.toNatClampNeg 1)) en wo)) dX4_enterReturn_19 27 rfl (vp_in_of2 h1 h10 (by decide)) rfl ?_
      refine j_aload_n hX dX4_enterReturn_20 rfl ?_
      refine j_dup hX dX4_enterReturn_21 rfl ?_
      refine j_getf hX (v := .int (V 13)) dX4_enterReturn_22 fX4_enterReturn_42 25 (wCg25 _ _ _ _ _ _) rfl ?_
      refine j_aload_n hX dX4_enterReturn_25 rfl ?_
      refine j_getf hX (v := .ref (ad 29)) dX4_enterReturn_26 fX4_enterReturn_22 25 (wCg25 _ _ _ _ _ _) rfl ?_
      refine j_iload_n hX dX4_enterReturn_29 rfl ?_
      refine j_dSN hX (nA := 2) (As := [.ref (ad 29), .int x]) (st := [.int (V 13), .ref (ad 25)]) (st' := [.int (atF 60 (M 29) x), .int (V 13), .ref (ad 25)]) dX4_enterReturn_30 (c_at G (q := 29) (wCg29 _ _ _ _ _ _) (by decide)) gX4_enterReturn_X11_at_n45 rfl (by decide +kernel) (host := "BasketOffers") (by decide +kernel) (by decide +kernel) (by decide +kernel) (by omega) (Nat.le_of_ble_eq_true rfl) rfl (Nat.le_of_ble_eq_true rfl) rfl ⟨Nat.le_refl _, Nat.le_refl _⟩ rfl ?_
      refine j_iadd hX dX4_enterReturn_33 ?_
      refine j_putf hX (ws' := (wC G ad (sV V 13 ((V 13) + (atF 60 (M 29) x))) (sM M 27 (upd (M 27) x.toNatClampNeg 1)) en wo)) dX4_enterReturn_34 fX4_enterReturn_42 25 (wCg25 _ _ _ _ _ _) (Nat.le_of_ble_eq_true rfl) rfl rfl (wCp25_7 _ _ _ _ _ _ _) ?_
      refine j_aload_n hX dX4_enterReturn_37 rfl ?_
      refine j_getf hX (v := .ref (ad 29)) dX4_enterReturn_38 fX4_enterReturn_22 25 (wCg25 _ _ _ _ _ _) rfl ?_
      refine j_iload_n hX dX4_enterReturn_41 rfl ?_
      refine j_dSN hX (nA := 2) (As := [.ref (ad 29), .int x]) (st := []) (st' := [.int (atF 60 (M 29) x)]) dX4_enterReturn_42 (c_at G (q := 29) (wCg29 _ _ _ _ _ _) (by decide)) gX4_enterReturn_X11_at_n45 rfl (by decide +kernel) (host := "BasketOffers") (by decide +kernel) (by decide +kernel) (by decide +kernel) (by omega) (Nat.le_of_ble_eq_true rfl) rfl (Nat.le_of_ble_eq_true rfl) rfl ⟨Nat.le_refl _, Nat.le_refl _⟩ rfl ?_
      exact j_iret hX dX4_enterReturn_45 (by have e8 : backF (V, M) x = ((sV V 13 ((V 13) + (atF 60 (M 29) x))), (sM M 27 (upd (M 27) x.toNatClampNeg 1))) := ((if_neg h1).trans (if_neg h10)); rw [e8]; exact ⟨rfl, rfl⟩)

