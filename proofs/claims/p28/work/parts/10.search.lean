theorem fX8_mostOn_25 : jF wsX8_mostOn RX8 25 9 5 true (.array .int) := ⟨(RX8, TX8, 12), tyX8, rfl, by decide, by decide +kernel, by decide +kernel, tyX8_ok, nmX8, rfl, by decide +kernel, by decide +kernel⟩
theorem fX8_fits_12 : jF wsX8_fits RX8 12 9 2 true (.object "BasketOffers$UseList") := ⟨(RX8, TX8, 12), tyX8, rfl, by decide, by decide +kernel, by decide +kernel, tyX8_ok, nmX8, rfl, by decide +kernel, by decide +kernel⟩
theorem fX8_fits_18 : jF wsX8_fits RX8 18 9 3 true (.array .int) := ⟨(RX8, TX8, 12), tyX8, rfl, by decide, by decide +kernel, by decide +kernel, tyX8_ok, nmX8, rfl, by decide +kernel, by decide +kernel⟩
theorem fX8_fits_38 : jF wsX8_fits RX8 38 9 1 true (.object "BasketOffers$OfferBook") := ⟨(RX8, TX8, 12), tyX8, rfl, by decide, by decide +kernel, by decide +kernel, tyX8_ok, nmX8, rfl, by decide +kernel, by decide +kernel⟩
theorem fX8_change_12 : jF wsX8_change RX8 12 9 2 true (.object "BasketOffers$UseList") := ⟨(RX8, TX8, 12), tyX8, rfl, by decide, by decide +kernel, by decide +kernel, tyX8_ok, nmX8, rfl, by decide +kernel, by decide +kernel⟩
theorem fX8_change_18 : jF wsX8_change RX8 18 9 3 true (.array .int) := ⟨(RX8, TX8, 12), tyX8, rfl, by decide, by decide +kernel, by decide +kernel, tyX8_ok, nmX8, rfl, by decide +kernel, by decide +kernel⟩
theorem fX8_allowsThreshold_18 : jF wsX8_allowsThreshold RX8 18 9 3 true (.array .int) := ⟨(RX8, TX8, 12), tyX8, rfl, by decide, by decide +kernel, by decide +kernel, tyX8_ok, nmX8, rfl, by decide +kernel, by decide +kernel⟩
theorem fX8_allowsThreshold_38 : jF wsX8_allowsThreshold RX8 38 9 1 true (.object "BasketOffers$OfferBook") := ⟨(RX8, TX8, 12), tyX8, rfl, by decide, by decide +kernel, by decide +kernel, tyX8_ok, nmX8, rfl, by decide +kernel, by decide +kernel⟩
theorem fX8_allowsThreshold_66 : jF wsX8_allowsThreshold RX8 66 9 11 false .int := ⟨(RX8, TX8, 12), tyX8, rfl, by decide, by decide +kernel, by decide +kernel, tyX8_ok, nmX8, rfl, by decide +kernel, fun h => by cases h⟩
theorem fX8_withThresholds_22 : jF wsX8_withThresholds RX8 22 9 4 true (.array .int) := ⟨(RX8, TX8, 12), tyX8, rfl, by decide, by decide +kernel, by decide +kernel, tyX8_ok, nmX8, rfl, by decide +kernel, by decide +kernel⟩
theorem fX8_amountOf_38 : jF wsX8_amountOf RX8 38 9 1 true (.object "BasketOffers$OfferBook") := ⟨(RX8, TX8, 12), tyX8, rfl, by decide, by decide +kernel, by decide +kernel, tyX8_ok, nmX8, rfl, by decide +kernel, by decide +kernel⟩
theorem fX8_keep_79 : jF wsX8_keep RX8 79 9 9 false .int := ⟨(RX8, TX8, 12), tyX8, rfl, by decide, by decide +kernel, by decide +kernel, tyX8_ok, nmX8, rfl, by decide +kernel, fun h => by cases h⟩
theorem fX8_keep_146 : jF wsX8_keep RX8 146 9 8 false .int := ⟨(RX8, TX8, 12), tyX8, rfl, by decide, by decide +kernel, by decide +kernel, tyX8_ok, nmX8, rfl, by decide +kernel, fun h => by cases h⟩
theorem fX8_keep_31 : jF wsX8_keep RX8 31 9 7 true (.array .int) := ⟨(RX8, TX8, 12), tyX8, rfl, by decide, by decide +kernel, by decide +kernel, tyX8_ok, nmX8, rfl, by decide +kernel, by decide +kernel⟩
theorem fX8_keep_28 : jF wsX8_keep RX8 28 9 6 true (.array .int) := ⟨(RX8, TX8, 12), tyX8, rfl, by decide, by decide +kernel, by decide +kernel, tyX8_ok, nmX8, rfl, by decide +kernel, by decide +kernel⟩
theorem fX8_sortByAmount_22 : jF wsX8_sortByAmount RX8 22 9 4 true (.array .int) := ⟨(RX8, TX8, 12), tyX8, rfl, by decide, by decide +kernel, by decide +kernel, tyX8_ok, nmX8, rfl, by decide +kernel, by decide +kernel⟩
theorem fX8_sortByAmount_38 : jF wsX8_sortByAmount RX8 38 9 1 true (.object "BasketOffers$OfferBook") := ⟨(RX8, TX8, 12), tyX8, rfl, by decide, by decide +kernel, by decide +kernel, tyX8_ok, nmX8, rfl, by decide +kernel, by decide +kernel⟩
theorem fX8_setShares_12 : jF wsX8_setShares RX8 12 9 2 true (.object "BasketOffers$UseList") := ⟨(RX8, TX8, 12), tyX8, rfl, by decide, by decide +kernel, by decide +kernel, tyX8_ok, nmX8, rfl, by decide +kernel, by decide +kernel⟩
theorem fX8_setShares_25 : jF wsX8_setShares RX8 25 9 5 true (.array .int) := ⟨(RX8, TX8, 12), tyX8, rfl, by decide, by decide +kernel, by decide +kernel, tyX8_ok, nmX8, rfl, by decide +kernel, by decide +kernel⟩
def mostSum (f : Nat → Int32) (free : Int32) (n : Nat) : Int32 := itr (fun i a => if isInV free (nI i) = 0 then a else a + atF 7 f (nI i)) n 0
def mostOnF (M : Nat → Nat → Int32) (free : Int32) : Int32 := mostSum (M 19) free 7 / 60
set_option maxHeartbeats 4000000 in
set_option maxRecDepth 100000 in
theorem c_X8_mostOn (G : jG) (ad : Nat → Nat) (V : Nat → Int32) (M : Nat → Nat → Int32) (en : Nat → Option Nat) (wo : va_W) (free : Int32) : jD G 1 yX8_mostOn wsX8_mostOn [.ref (ad 11), .int free] (wC G ad V M en wo) (some (.int (mostOnF M free))) (wC G ad V M en wo) := by
  refine jC.of (maxL := 4) (cc := cX8_mostOn) (ret := (some .int)) rfl (by decide) [some (.ref (ad 11)), some (.int free), none, none] rfl (Nat.le_of_ble_eq_true rfl) (j_args rfl) (fun X hX => ?_)
  refine j_iconst hX (v := 0) (by decide) dX8_mostOn_0 ?_
  refine j_istore_n hX (ls' := [some (.ref (ad 11)), some (.int free), some (.int 0), none]) dX8_mostOn_1 (Nat.le_of_ble_eq_true rfl) rfl rfl ?_
  refine j_iconst hX (v := 0) (by decide) dX8_mostOn_2 ?_
  refine j_istore_n hX (ls' := [some (.ref (ad 11)), some (.int free), some (.int 0), some (.int 0)]) dX8_mostOn_3 (Nat.le_of_ble_eq_true rfl) rfl rfl ?_
  have L4 : ∀ zi i : Nat, 0 ≤ i → i + zi = 7 → jW G X 0 0 4 [some (.ref (ad 11)), some (.int free), some (.int (mostSum (M 19) free i)), some (.int (nI i))] [] (wC G ad V M en wo) := by
    intro zi
    induction zi with
    | zero =>
      intro i h0 hi
      have hin : i = 7 := by omega
      refine j_iload_n hX dX8_mostOn_4 rfl ?_
      refine j_bipush hX (v := 7) (by decide) dX8_mostOn_5 ?_
      refine j_icmp_ge_t hX (tgt := 35) dX8_mostOn_7 (by decide) (nI_le (a := 7) (b := i) (by omega) (by omega)) ?_
      refine j_iload_n hX dX8_mostOn_35 rfl ?_
      refine j_bipush hX (v := 60) (by decide) dX8_mostOn_36 ?_
      refine j_idiv hX dX8_mostOn_38 (by decide) ?_
      exact j_iret hX dX8_mostOn_39 ⟨by rw [hin]; rfl, rfl⟩
    | succ zi ih =>
      intro i h0 hi
      have hin : i < 7 := by omega
      refine j_iload_n hX dX8_mostOn_4 rfl ?_
      refine j_bipush hX (v := 7) (by decide) dX8_mostOn_5 ?_
      refine j_icmp_ge_f hX (tgt := 35) dX8_mostOn_7 (by decide) (nI_ge (a := i) (b := 7) (by omega) (by decide)) ?_
      refine j_iload_n hX dX8_mostOn_10 rfl ?_
      refine j_iload_n hX dX8_mostOn_11 rfl ?_
      refine j_dSN hX (nA := 2) (As := [.int free, .int (nI i)]) (st := []) (st' := [.int (isInV free (nI i))]) dX8_mostOn_12 (c_isIn G) gX8_mostOn_X11_isIn_n107 rfl (by decide +kernel) (host := "BasketOffers") (by decide +kernel) (by decide +kernel) (by decide +kernel) (by omega) (Nat.le_of_ble_eq_true rfl) rfl (Nat.le_of_ble_eq_true rfl) rfl ⟨Nat.le_refl _, Nat.le_refl _⟩ rfl ?_
      refine j_if_eq hX (tgt := 29) dX8_mostOn_15 (by decide) (fun h15 => ?_) (fun h15 => ?_)
      · refine j_iinc hX (v := nI (i + 1)) (ls' := [some (.ref (ad 11)), some (.int free), some (.int (mostSum (M 19) free i)), some (.int (nI (i + 1)))]) dX8_mostOn_29 rfl (j_inc1 _) rfl rfl ?_
        refine j_goto hX (tgt := 4) dX8_mostOn_32 (by decide) ?_
        refine jW.locals (ls' := [some (.ref (ad 11)), some (.int free), some (.int (mostSum (M 19) free (i + 1))), some (.int (nI (i + 1)))]) (by rw [show mostSum (M 19) free (i + 1) = mostSum (M 19) free i from (if_pos h15)]) ?_
        exact ih (i + 1) (by omega) (by omega)
      · refine j_iload_n hX dX8_mostOn_18 rfl ?_
        refine j_aload_n hX dX8_mostOn_19 rfl ?_
        refine j_getf hX (v := .ref (ad 19)) dX8_mostOn_20 fX8_mostOn_25 11 (wCg11 _ _ _ _ _ _) rfl ?_
        refine j_iload_n hX dX8_mostOn_23 rfl ?_
        refine j_dSN hX (nA := 2) (As := [.ref (ad 19), .int (nI i)]) (st := [.int (mostSum (M 19) free i)]) (st' := [.int (atF 7 (M 19) (nI i)), .int (mostSum (M 19) free i)]) dX8_mostOn_24 (c_at G (q := 19) (wCg19 _ _ _ _ _ _) (by decide)) gX8_mostOn_X11_at_n86 rfl (by decide +kernel) (host := "BasketOffers") (by decide +kernel) (by decide +kernel) (by decide +kernel) (by omega) (Nat.le_of_ble_eq_true rfl) rfl (Nat.le_of_ble_eq_true rfl) rfl ⟨Nat.le_refl _, Nat.le_refl _⟩ rfl ?_
        refine j_iadd hX dX8_mostOn_27 ?_
        refine j_istore_n hX (ls' := [some (.ref (ad 11)), some (.int free), some (.int ((mostSum (M 19) free i) + (atF 7 (M 19) (nI i)))), some (.int (nI i))]) dX8_mostOn_28 (Nat.le_of_ble_eq_true rfl) rfl rfl ?_
        refine j_iinc hX (v := nI (i + 1)) (ls' := [some (.ref (ad 11)), some (.int free), some (.int ((mostSum (M 19) free i) + (atF 7 (M 19) (nI i)))), some (.int (nI (i + 1)))]) dX8_mostOn_29 rfl (j_inc1 _) rfl rfl ?_
        refine j_goto hX (tgt := 4) dX8_mostOn_32 (by decide) ?_
        refine jW.locals (ls' := [some (.ref (ad 11)), some (.int free), some (.int (mostSum (M 19) free (i + 1))), some (.int (nI (i + 1)))]) (by rw [show mostSum (M 19) free (i + 1) = (mostSum (M 19) free i) + (atF 7 (M 19) (nI i)) from (if_neg h15)]) ?_
        exact ih (i + 1) (by omega) (by omega)
  exact L4 7 0 (Nat.le_refl _) (by omega)

def fitsV (M : Nat → Nat → Int32) (use free taken : Int32) : Int32 := if atF 210 (M 14) use &&& (free ^^^ -1) = 0 then (if atF 6 (M 17) (atF 210 (M 13) use) ≤ 0 then 0 else if atF 6 (M 7) (atF 210 (M 13) use) &&& taken = 0 then 1 else 0) else 0
def chM (M : Nat → Nat → Int32) (use t : Int32) : Nat → Nat → Int32 := sM M 17 (setF 6 (M 17) (atF 210 (M 13) use) (atF 6 (M 17) (atF 210 (M 13) use) + t))
set_option maxHeartbeats 4000000 in
set_option maxRecDepth 100000 in
theorem c_X8_fits (G : jG) (ad : Nat → Nat) (V : Nat → Int32) (M : Nat → Nat → Int32) (en : Nat → Option Nat) (wo : va_W) (use free taken : Int32) : jD G 2 yX8_fits wsX8_fits [.ref (ad 11), .int use, .int free, .int taken] (wC G ad V M en wo) (some (.int (fitsV M use free taken))) (wC G ad V M en wo) := by
  refine jC.of (maxL := 5) (cc := cX8_fits) (ret := (some .boolean)) rfl (by decide) [some (.ref (ad 11)), some (.int use), some (.int free), some (.int taken), none] rfl (Nat.le_of_ble_eq_true rfl) (j_args rfl) (fun X hX => ?_)
  refine j_aload_n hX dX8_fits_0 rfl ?_
  refine j_getf hX (v := .ref (ad 12)) dX8_fits_1 fX8_fits_12 11 (wCg11 _ _ _ _ _ _) rfl ?_
  refine j_iload_n hX dX8_fits_4 rfl ?_
  refine j_dV hX (nA := 1) (cq := (RX10, TX10, 5)) (As := [.int use]) (st := []) (st' := [.int (atF 210 (M 13) use)]) (ci := 11) rfl dX8_fits_5 (c_X10_offerAt G _ _ _ _ _ _) gX8_fits_X10_offerAt rfl (by decide +kernel) (q := 12) (wCg12 _ _ _ _ _ _) (by omega) (Nat.le_of_ble_eq_true rfl) rfl (Nat.le_of_ble_eq_true rfl) rfl ⟨Nat.le_refl _, Nat.le_refl _⟩ rfl ?_
  refine j_istore hX (ls' := [some (.ref (ad 11)), some (.int use), some (.int free), some (.int taken), some (.int (atF 210 (M 13) use))]) dX8_fits_8 (Nat.le_of_ble_eq_true rfl) rfl rfl ?_
  refine j_aload_n hX dX8_fits_10 rfl ?_
  refine j_getf hX (v := .ref (ad 12)) dX8_fits_11 fX8_fits_12 11 (wCg11 _ _ _ _ _ _) rfl ?_
  refine j_iload_n hX dX8_fits_14 rfl ?_
  refine j_dV hX (nA := 1) (cq := (RX10, TX10, 5)) (As := [.int use]) (st := []) (st' := [.int (atF 210 (M 14) use)]) (ci := 11) rfl dX8_fits_15 (c_X10_maskAt G _ _ _ _ _ _) gX8_fits_X10_maskAt rfl (by decide +kernel) (q := 12) (wCg12 _ _ _ _ _ _) (by omega) (Nat.le_of_ble_eq_true rfl) rfl (Nat.le_of_ble_eq_true rfl) rfl ⟨Nat.le_refl _, Nat.le_refl _⟩ rfl ?_
  refine j_iload_n hX dX8_fits_18 rfl ?_
  refine j_iconst hX (v := -1) (by decide) dX8_fits_19 ?_
  refine j_ixor hX dX8_fits_20 ?_
  refine j_iand hX dX8_fits_21 ?_
  refine j_if_ne hX (tgt := 55) dX8_fits_22 (by decide) (fun h22 => ?_) (fun h22 => ?_)
  · refine j_iconst hX (v := 0) (by decide) dX8_fits_55 ?_
    exact j_zret hX (by decide) dX8_fits_56 ⟨(congrArg (fun z => some (Value.int z)) (show fitsV M use free taken = 0 from (if_neg h22))).symm, rfl⟩
  · refine j_aload_n hX dX8_fits_25 rfl ?_
    refine j_getf hX (v := .ref (ad 17)) dX8_fits_26 fX8_fits_18 11 (wCg11 _ _ _ _ _ _) rfl ?_
    refine j_iload hX dX8_fits_29 rfl ?_
    refine j_dSN hX (nA := 2) (As := [.ref (ad 17), .int (atF 210 (M 13) use)]) (st := []) (st' := [.int (atF 6 (M 17) (atF 210 (M 13) use))]) dX8_fits_31 (c_at G (q := 17) (wCg17 _ _ _ _ _ _) (by decide)) gX8_fits_X11_at_n86 rfl (by decide +kernel) (host := "BasketOffers") (by decide +kernel) (by decide +kernel) (by decide +kernel) (by omega) (Nat.le_of_ble_eq_true rfl) rfl (Nat.le_of_ble_eq_true rfl) rfl ⟨Nat.le_refl _, Nat.le_refl _⟩ rfl ?_
    refine j_if_le hX (tgt := 55) dX8_fits_34 (by decide) (fun h34 => ?_) (fun h34 => ?_)
    · refine j_iconst hX (v := 0) (by decide) dX8_fits_55 ?_
      exact j_zret hX (by decide) dX8_fits_56 ⟨(congrArg (fun z => some (Value.int z)) (show fitsV M use free taken = 0 from ((if_pos h22).trans (if_pos h34)))).symm, rfl⟩
    · refine j_aload_n hX dX8_fits_37 rfl ?_
      refine j_getf hX (v := .ref (ad 5)) dX8_fits_38 fX8_fits_38 11 (wCg11 _ _ _ _ _ _) rfl ?_
      refine j_iload hX dX8_fits_41 rfl ?_
      refine j_dV hX (nA := 1) (cq := (RX6, TX6, 6)) (As := [.int (atF 210 (M 13) use)]) (st := []) (st' := [.int (atF 6 (M 7) (atF 210 (M 13) use))]) (ci := 7) rfl dX8_fits_43 (c_X6_rivalsOf G _ _ _ _ _ _) gX8_fits_X6_rivalsOf rfl (by decide +kernel) (q := 5) (wCg5 _ _ _ _ _ _) (by omega) (Nat.le_of_ble_eq_true rfl) rfl (Nat.le_of_ble_eq_true rfl) rfl ⟨Nat.le_refl _, Nat.le_refl _⟩ rfl ?_
      refine j_iload_n hX dX8_fits_46 rfl ?_
      refine j_iand hX dX8_fits_47 ?_
      refine j_if_ne hX (tgt := 55) dX8_fits_48 (by decide) (fun h48 => ?_) (fun h48 => ?_)
      · refine j_iconst hX (v := 0) (by decide) dX8_fits_55 ?_
        exact j_zret hX (by decide) dX8_fits_56 ⟨(congrArg (fun z => some (Value.int z)) (show fitsV M use free taken = 0 from (((if_pos h22).trans (if_neg h34)).trans (if_neg h48)))).symm, rfl⟩
      · refine j_iconst hX (v := 1) (by decide) dX8_fits_51 ?_
        refine j_goto hX (tgt := 56) dX8_fits_52 (by decide) ?_
        exact j_zret hX (by decide) dX8_fits_56 ⟨(congrArg (fun z => some (Value.int z)) (show fitsV M use free taken = 1 from (((if_pos h22).trans (if_neg h34)).trans (if_pos h48)))).symm, rfl⟩

set_option maxHeartbeats 4000000 in
set_option maxRecDepth 100000 in
theorem c_X8_change (G : jG) (ad : Nat → Nat) (V : Nat → Int32) (M : Nat → Nat → Int32) (en : Nat → Option Nat) (wo : va_W) (use t : Int32) : jD G 2 yX8_change wsX8_change [.ref (ad 11), .int use, .int t] (wC G ad V M en wo) none (wC G ad V (chM M use t) en wo) := by
  refine jC.of (maxL := 4) (cc := cX8_change) (ret := none) rfl (by decide) [some (.ref (ad 11)), some (.int use), some (.int t), none] rfl (Nat.le_of_ble_eq_true rfl) (j_args rfl) (fun X hX => ?_)
  refine j_aload_n hX dX8_change_0 rfl ?_
  refine j_getf hX (v := .ref (ad 12)) dX8_change_1 fX8_change_12 11 (wCg11 _ _ _ _ _ _) rfl ?_
  refine j_iload_n hX dX8_change_4 rfl ?_
  refine j_dV hX (nA := 1) (cq := (RX10, TX10, 5)) (As := [.int use]) (st := []) (st' := [.int (atF 210 (M 13) use)]) (ci := 11) rfl dX8_change_5 (c_X10_offerAt G _ _ _ _ _ _) gX8_change_X10_offerAt rfl (by decide +kernel) (q := 12) (wCg12 _ _ _ _ _ _) (by omega) (Nat.le_of_ble_eq_true rfl) rfl (Nat.le_of_ble_eq_true rfl) rfl ⟨Nat.le_refl _, Nat.le_refl _⟩ rfl ?_
  refine j_istore_n hX (ls' := [some (.ref (ad 11)), some (.int use), some (.int t), some (.int (atF 210 (M 13) use))]) dX8_change_8 (Nat.le_of_ble_eq_true rfl) rfl rfl ?_
  refine j_aload_n hX dX8_change_9 rfl ?_
  refine j_getf hX (v := .ref (ad 17)) dX8_change_10 fX8_change_18 11 (wCg11 _ _ _ _ _ _) rfl ?_
  refine j_iload_n hX dX8_change_13 rfl ?_
  refine j_aload_n hX dX8_change_14 rfl ?_
  refine j_getf hX (v := .ref (ad 17)) dX8_change_15 fX8_change_18 11 (wCg11 _ _ _ _ _ _) rfl ?_
  refine j_iload_n hX dX8_change_18 rfl ?_
  refine j_dSN hX (nA := 2) (As := [.ref (ad 17), .int (atF 210 (M 13) use)]) (st := [.int (atF 210 (M 13) use), .ref (ad 17)]) (st' := [.int (atF 6 (M 17) (atF 210 (M 13) use)), .int (atF 210 (M 13) use), .ref (ad 17)]) dX8_change_19 (c_at G (q := 17) (wCg17 _ _ _ _ _ _) (by decide)) gX8_change_X11_at_n86 rfl (by decide +kernel) (host := "BasketOffers") (by decide +kernel) (by decide +kernel) (by decide +kernel) (by omega) (Nat.le_of_ble_eq_true rfl) rfl (Nat.le_of_ble_eq_true rfl) rfl ⟨Nat.le_refl _, Nat.le_refl _⟩ rfl ?_
  refine j_iload_n hX dX8_change_22 rfl ?_
  refine j_iadd hX dX8_change_23 ?_
  refine j_dSN hX (nA := 3) (As := [.ref (ad 17), .int (atF 210 (M 13) use), .int ((atF 6 (M 17) (atF 210 (M 13) use)) + t)]) (st := []) (st' := []) dX8_change_24 (c_setAt G (q := 17) (wCg17 _ _ _ _ _ _) (by decide) (wCp17 _ _ _ _ _ _ _)) gX8_change_X11_setAt_n52 rfl (by decide +kernel) (host := "BasketOffers") (by decide +kernel) (by decide +kernel) (by decide +kernel) (by omega) (Nat.le_of_ble_eq_true rfl) rfl (Nat.le_of_ble_eq_true rfl) rfl ⟨Nat.le_refl _, Nat.le_refl _⟩ rfl ?_
  exact j_vret hX dX8_change_27 ⟨rfl, rfl⟩

def allowsV (V : Nat → Int32) (M : Nat → Nat → Int32) (offer taken disc : Int32) : Int32 := if atF 6 (M 17) offer ≤ 0 then 0 else if atF 6 (M 7) offer &&& taken = 0 then (if reachV (M 8) offer (V 8 - disc) = 0 then 0 else 1) else 0
def withS (V : Nat → Int32) (M : Nat → Nat → Int32) (disc : Int32) (i : Nat) (all : Int32) : Int32 := if allowsV V M (atF 6 (M 18) (nI i)) all disc = 0 then all else all ||| (1 <<< (atF 6 (M 18) (nI i) &&& 31))
def withF (V : Nat → Int32) (M : Nat → Nat → Int32) (taken disc : Int32) (n : Nat) : Int32 := itr (withS V M disc) n taken
def amtS (f : Nat → Int32) (offers : Int32) (i : Nat) (a : Int32) : Int32 := if offers &&& (1 <<< (nI i &&& 31)) = 0 then a else a + atF 6 f (nI i)
def amtF (f : Nat → Int32) (offers : Int32) (n : Nat) : Int32 := itr (amtS f offers) n 0
set_option maxHeartbeats 4000000 in
set_option maxRecDepth 100000 in
theorem c_X8_allowsThreshold (G : jG) (ad : Nat → Nat) (V : Nat → Int32) (M : Nat → Nat → Int32) (en : Nat → Option Nat) (wo : va_W) (x taken disc : Int32) : jD G 2 yX8_allowsThreshold wsX8_allowsThreshold [.ref (ad 11), .int x, .int taken, .int disc] (wC G ad V M en wo) (some (.int (allowsV V M x taken disc))) (wC G ad V M en wo) := by
  refine jC.of (maxL := 4) (cc := cX8_allowsThreshold) (ret := (some .boolean)) rfl (by decide) [some (.ref (ad 11)), some (.int x), some (.int taken), some (.int disc)] rfl (Nat.le_of_ble_eq_true rfl) (j_args rfl) (fun X hX => ?_)
  refine j_aload_n hX dX8_allowsThreshold_0 rfl ?_
  refine j_getf hX (v := .ref (ad 17)) dX8_allowsThreshold_1 fX8_allowsThreshold_18 11 (wCg11 _ _ _ _ _ _) rfl ?_
  refine j_iload_n hX dX8_allowsThreshold_4 rfl ?_
  refine j_dSN hX (nA := 2) (As := [.ref (ad 17), .int x]) (st := []) (st' := [.int (atF 6 (M 17) x)]) dX8_allowsThreshold_5 (c_at G (q := 17) (wCg17 _ _ _ _ _ _) (by decide)) gX8_allowsThreshold_X11_at_n86 rfl (by decide +kernel) (host := "BasketOffers") (by decide +kernel) (by decide +kernel) (by decide +kernel) (by omega) (Nat.le_of_ble_eq_true rfl) rfl (Nat.le_of_ble_eq_true rfl) rfl ⟨Nat.le_refl _, Nat.le_refl _⟩ rfl ?_
  refine j_if_le hX (tgt := 45) dX8_allowsThreshold_8 (by decide) (fun h8 => ?_) (fun h8 => ?_)
  · refine j_iconst hX (v := 0) (by decide) dX8_allowsThreshold_45 ?_
    exact j_zret hX (by decide) dX8_allowsThreshold_46 ⟨(congrArg (fun z => some (Value.int z)) (show allowsV V M x taken disc = 0 from (if_pos h8))).symm, rfl⟩
  · refine j_aload_n hX dX8_allowsThreshold_11 rfl ?_
    refine j_getf hX (v := .ref (ad 5)) dX8_allowsThreshold_12 fX8_allowsThreshold_38 11 (wCg11 _ _ _ _ _ _) rfl ?_
    refine j_iload_n hX dX8_allowsThreshold_15 rfl ?_
    refine j_dV hX (nA := 1) (cq := (RX6, TX6, 6)) (As := [.int x]) (st := []) (st' := [.int (atF 6 (M 7) x)]) (ci := 7) rfl dX8_allowsThreshold_16 (c_X6_rivalsOf G _ _ _ _ _ _) gX8_allowsThreshold_X6_rivalsOf rfl (by decide +kernel) (q := 5) (wCg5 _ _ _ _ _ _) (by omega) (Nat.le_of_ble_eq_true rfl) rfl (Nat.le_of_ble_eq_true rfl) rfl ⟨Nat.le_refl _, Nat.le_refl _⟩ rfl ?_
    refine j_iload_n hX dX8_allowsThreshold_19 rfl ?_
    refine j_iand hX dX8_allowsThreshold_20 ?_
    refine j_if_ne hX (tgt := 45) dX8_allowsThreshold_21 (by decide) (fun h21 => ?_) (fun h21 => ?_)
    · refine j_iconst hX (v := 0) (by decide) dX8_allowsThreshold_45 ?_
      exact j_zret hX (by decide) dX8_allowsThreshold_46 ⟨(congrArg (fun z => some (Value.int z)) (show allowsV V M x taken disc = 0 from ((if_neg h8).trans (if_neg h21)))).symm, rfl⟩
    · refine j_aload_n hX dX8_allowsThreshold_24 rfl ?_
      refine j_getf hX (v := .ref (ad 5)) dX8_allowsThreshold_25 fX8_allowsThreshold_38 11 (wCg11 _ _ _ _ _ _) rfl ?_
      refine j_iload_n hX dX8_allowsThreshold_28 rfl ?_
      refine j_aload_n hX dX8_allowsThreshold_29 rfl ?_
      refine j_getf hX (v := .int (V 8)) dX8_allowsThreshold_30 fX8_allowsThreshold_66 11 (wCg11 _ _ _ _ _ _) rfl ?_
      refine j_iload_n hX dX8_allowsThreshold_33 rfl ?_
      refine j_isub hX dX8_allowsThreshold_34 ?_
      refine j_dV hX (nA := 2) (cq := (RX6, TX6, 6)) (As := [.int x, .int ((V 8) - disc)]) (st := []) (st' := [.int (reachV (M 8) x ((V 8) - disc))]) (ci := 7) rfl dX8_allowsThreshold_35 (c_X6_isReachedBy G _ _ _ _ _ _ _) gX8_allowsThreshold_X6_isReachedBy rfl (by decide +kernel) (q := 5) (wCg5 _ _ _ _ _ _) (by omega) (Nat.le_of_ble_eq_true rfl) rfl (Nat.le_of_ble_eq_true rfl) rfl ⟨Nat.le_refl _, Nat.le_refl _⟩ rfl ?_
      refine j_if_eq hX (tgt := 45) dX8_allowsThreshold_38 (by decide) (fun h38 => ?_) (fun h38 => ?_)
      · refine j_iconst hX (v := 0) (by decide) dX8_allowsThreshold_45 ?_
        exact j_zret hX (by decide) dX8_allowsThreshold_46 ⟨(congrArg (fun z => some (Value.int z)) (show allowsV V M x taken disc = 0 from (((if_neg h8).trans (if_pos h21)).trans (if_pos h38)))).symm, rfl⟩
      · refine j_iconst hX (v := 1) (by decide) dX8_allowsThreshold_41 ?_
        refine j_goto hX (tgt := 46) dX8_allowsThreshold_42 (by decide) ?_
        exact j_zret hX (by decide) dX8_allowsThreshold_46 ⟨(congrArg (fun z => some (Value.int z)) (show allowsV V M x taken disc = 1 from (((if_neg h8).trans (if_pos h21)).trans (if_neg h38)))).symm, rfl⟩

set_option maxHeartbeats 4000000 in
set_option maxRecDepth 100000 in
theorem c_X8_withThresholds (G : jG) (ad : Nat → Nat) (V : Nat → Int32) (M : Nat → Nat → Int32) (en : Nat → Option Nat) (wo : va_W) (taken disc : Int32) : jD G 3 yX8_withThresholds wsX8_withThresholds [.ref (ad 11), .int taken, .int disc] (wC G ad V M en wo) (some (.int (withF V M taken disc 6))) (wC G ad V M en wo) := by
  refine jC.of (maxL := 6) (cc := cX8_withThresholds) (ret := (some .int)) rfl (by decide) [some (.ref (ad 11)), some (.int taken), some (.int disc), none, none, none] rfl (Nat.le_of_ble_eq_true rfl) (j_args rfl) (fun X hX => ?_)
  refine j_iload_n hX dX8_withThresholds_0 rfl ?_
  refine j_istore_n hX (ls' := [some (.ref (ad 11)), some (.int taken), some (.int disc), some (.int taken), none, none]) dX8_withThresholds_1 (Nat.le_of_ble_eq_true rfl) rfl rfl ?_
  refine j_iconst hX (v := 0) (by decide) dX8_withThresholds_2 ?_
  refine j_istore hX (ls' := [some (.ref (ad 11)), some (.int taken), some (.int disc), some (.int taken), some (.int 0), none]) dX8_withThresholds_3 (Nat.le_of_ble_eq_true rfl) rfl rfl ?_
  have L5 : ∀ zi i : Nat, 0 ≤ i → i + zi = 6 → jW G X 0 0 5 [some (.ref (ad 11)), some (.int taken), some (.int disc), some (.int (withF V M taken disc i)), some (.int (nI i)), none] [] (wC G ad V M en wo) := by
    intro zi
    induction zi with
    | zero =>
      intro i h0 hi
      have hin : i = 6 := by omega
      refine j_iload hX dX8_withThresholds_5 rfl ?_
      refine j_bipush hX (v := 6) (by decide) dX8_withThresholds_7 ?_
      refine j_icmp_ge_t hX (tgt := 47) dX8_withThresholds_9 (by decide) (nI_le (a := 6) (b := i) (by omega) (by omega)) ?_
      refine j_iload_n hX dX8_withThresholds_47 rfl ?_
      exact j_iret hX dX8_withThresholds_48 ⟨by rw [hin], rfl⟩
    | succ zi ih =>
      intro i h0 hi
      have hin : i < 6 := by omega
      refine j_iload hX dX8_withThresholds_5 rfl ?_
      refine j_bipush hX (v := 6) (by decide) dX8_withThresholds_7 ?_
      refine j_icmp_ge_f hX (tgt := 47) dX8_withThresholds_9 (by decide) (nI_ge (a := i) (b := 6) (by omega) (by decide)) ?_
      refine j_aload_n hX dX8_withThresholds_12 rfl ?_
      refine j_getf hX (v := .ref (ad 18)) dX8_withThresholds_13 fX8_withThresholds_22 11 (wCg11 _ _ _ _ _ _) rfl ?_
      refine j_iload hX dX8_withThresholds_16 rfl ?_
      refine j_dSN hX (nA := 2) (As := [.ref (ad 18), .int (nI i)]) (st := []) (st' := [.int (atF 6 (M 18) (nI i))]) dX8_withThresholds_18 (c_at G (q := 18) (wCg18 _ _ _ _ _ _) (by decide)) gX8_withThresholds_X11_at_n86 rfl (by decide +kernel) (host := "BasketOffers") (by decide +kernel) (by decide +kernel) (by decide +kernel) (by omega) (Nat.le_of_ble_eq_true rfl) rfl (Nat.le_of_ble_eq_true rfl) rfl ⟨Nat.le_refl _, Nat.le_refl _⟩ rfl ?_
      refine j_istore hX (ls' := [some (.ref (ad 11)), some (.int taken), some (.int disc), some (.int (withF V M taken disc i)), some (.int (nI i)), some (.int (atF 6 (M 18) (nI i)))]) dX8_withThresholds_21 (Nat.le_of_ble_eq_true rfl) rfl rfl ?_
      refine j_aload_n hX dX8_withThresholds_23 rfl ?_
      refine j_iload hX dX8_withThresholds_24 rfl ?_
      refine j_iload_n hX dX8_withThresholds_26 rfl ?_
      refine j_iload_n hX dX8_withThresholds_27 rfl ?_
      refine j_dV hX (nA := 3) (cq := (RX8, TX8, 12)) (As := [.int (atF 6 (M 18) (nI i)), .int (withF V M taken disc i), .int disc]) (st := []) (st' := [.int (allowsV V M (atF 6 (M 18) (nI i)) (withF V M taken disc i) disc)]) (ci := 9) rfl dX8_withThresholds_28 (c_X8_allowsThreshold G _ _ _ _ _ _ _ _) gX8_withThresholds_X8_allowsThreshold rfl (by decide +kernel) (q := 11) (wCg11 _ _ _ _ _ _) (by omega) (Nat.le_of_ble_eq_true rfl) rfl (Nat.le_of_ble_eq_true rfl) rfl ⟨Nat.le_refl _, Nat.le_refl _⟩ rfl ?_
      refine j_if_eq hX (tgt := 41) dX8_withThresholds_31 (by decide) (fun h31 => ?_) (fun h31 => ?_)
      · refine j_iinc hX (v := nI (i + 1)) (ls' := [some (.ref (ad 11)), some (.int taken), some (.int disc), some (.int (withF V M taken disc i)), some (.int (nI (i + 1))), some (.int (atF 6 (M 18) (nI i)))]) dX8_withThresholds_41 rfl (j_inc1 _) rfl rfl ?_
        refine j_goto hX (tgt := 5) dX8_withThresholds_44 (by decide) ?_
        refine jW.drop (ls' := [some (.ref (ad 11)), some (.int taken), some (.int disc), some (.int (withF V M taken disc i)), some (.int (nI (i + 1))), none]) ⟨Or.inr rfl, Or.inr rfl, Or.inr rfl, Or.inr rfl, Or.inr rfl, Or.inl rfl, trivial⟩ ?_
        refine jW.locals (ls' := [some (.ref (ad 11)), some (.int taken), some (.int disc), some (.int (withF V M taken disc (i + 1))), some (.int (nI (i + 1))), none]) (by rw [show withF V M taken disc (i + 1) = withF V M taken disc i from (if_pos h31)]) ?_
        exact ih (i + 1) (by omega) (by omega)
      · refine j_iload_n hX dX8_withThresholds_34 rfl ?_
        refine j_iconst hX (v := 1) (by decide) dX8_withThresholds_35 ?_
        refine j_iload hX dX8_withThresholds_36 rfl ?_
        refine j_ishl hX dX8_withThresholds_38 ?_
        refine j_ior hX dX8_withThresholds_39 ?_
        refine j_istore_n hX (ls' := [some (.ref (ad 11)), some (.int taken), some (.int disc), some (.int ((withF V M taken disc i) ||| (1 <<< ((atF 6 (M 18) (nI i)) &&& 31)))), some (.int (nI i)), some (.int (atF 6 (M 18) (nI i)))]) dX8_withThresholds_40 (Nat.le_of_ble_eq_true rfl) rfl rfl ?_
        refine j_iinc hX (v := nI (i + 1)) (ls' := [some (.ref (ad 11)), some (.int taken), some (.int disc), some (.int ((withF V M taken disc i) ||| (1 <<< ((atF 6 (M 18) (nI i)) &&& 31)))), some (.int (nI (i + 1))), some (.int (atF 6 (M 18) (nI i)))]) dX8_withThresholds_41 rfl (j_inc1 _) rfl rfl ?_
        refine j_goto hX (tgt := 5) dX8_withThresholds_44 (by decide) ?_
        refine jW.drop (ls' := [some (.ref (ad 11)), some (.int taken), some (.int disc), some (.int ((withF V M taken disc i) ||| (1 <<< ((atF 6 (M 18) (nI i)) &&& 31)))), some (.int (nI (i + 1))), none]) ⟨Or.inr rfl, Or.inr rfl, Or.inr rfl, Or.inr rfl, Or.inr rfl, Or.inl rfl, trivial⟩ ?_
        refine jW.locals (ls' := [some (.ref (ad 11)), some (.int taken), some (.int disc), some (.int (withF V M taken disc (i + 1))), some (.int (nI (i + 1))), none]) (by rw [show withF V M taken disc (i + 1) = (withF V M taken disc i) ||| (1 <<< ((atF 6 (M 18) (nI i)) &&& 31)) from (if_neg h31)]) ?_
        exact ih (i + 1) (by omega) (by omega)
  exact L5 6 0 (Nat.le_refl _) (by omega)

set_option maxHeartbeats 4000000 in
set_option maxRecDepth 100000 in
theorem c_X8_amountOf (G : jG) (ad : Nat → Nat) (V : Nat → Int32) (M : Nat → Nat → Int32) (en : Nat → Option Nat) (wo : va_W) (x : Int32) : jD G 2 yX8_amountOf wsX8_amountOf [.ref (ad 11), .int x] (wC G ad V M en wo) (some (.int (amtF (M 9) x 6))) (wC G ad V M en wo) := by
  refine jC.of (maxL := 4) (cc := cX8_amountOf) (ret := (some .int)) rfl (by decide) [some (.ref (ad 11)), some (.int x), none, none] rfl (Nat.le_of_ble_eq_true rfl) (j_args rfl) (fun X hX => ?_)
  refine j_iconst hX (v := 0) (by decide) dX8_amountOf_0 ?_
  refine j_istore_n hX (ls' := [some (.ref (ad 11)), some (.int x), some (.int 0), none]) dX8_amountOf_1 (Nat.le_of_ble_eq_true rfl) rfl rfl ?_
  refine j_iconst hX (v := 0) (by decide) dX8_amountOf_2 ?_
  refine j_istore_n hX (ls' := [some (.ref (ad 11)), some (.int x), some (.int 0), some (.int 0)]) dX8_amountOf_3 (Nat.le_of_ble_eq_true rfl) rfl rfl ?_
  have L4 : ∀ zi i : Nat, 0 ≤ i → i + zi = 6 → jW G X 0 0 4 [some (.ref (ad 11)), some (.int x), some (.int (amtF (M 9) x i)), some (.int (nI i))] [] (wC G ad V M en wo) := by
    intro zi
    induction zi with
    | zero =>
      intro i h0 hi
      have hin : i = 6 := by omega
      refine j_iload_n hX dX8_amountOf_4 rfl ?_
      refine j_bipush hX (v := 6) (by decide) dX8_amountOf_5 ?_
      refine j_icmp_ge_t hX (tgt := 35) dX8_amountOf_7 (by decide) (nI_le (a := 6) (b := i) (by omega) (by omega)) ?_
      refine j_iload_n hX dX8_amountOf_35 rfl ?_
      exact j_iret hX dX8_amountOf_36 ⟨by rw [hin], rfl⟩
    | succ zi ih =>
      intro i h0 hi
      have hin : i < 6 := by omega
      refine j_iload_n hX dX8_amountOf_4 rfl ?_
      refine j_bipush hX (v := 6) (by decide) dX8_amountOf_5 ?_
      refine j_icmp_ge_f hX (tgt := 35) dX8_amountOf_7 (by decide) (nI_ge (a := i) (b := 6) (by omega) (by decide)) ?_
      refine j_iload_n hX dX8_amountOf_10 rfl ?_
      refine j_iconst hX (v := 1) (by decide) dX8_amountOf_11 ?_
      refine j_iload_n hX dX8_amountOf_12 rfl ?_
      refine j_ishl hX dX8_amountOf_13 ?_
      refine j_iand hX dX8_amountOf_14 ?_
      refine j_if_eq hX (tgt := 29) dX8_amountOf_15 (by decide) (fun h15 => ?_) (fun h15 => ?_)
      · refine j_iinc hX (v := nI (i + 1)) (ls' := [some (.ref (ad 11)), some (.int x), some (.int (amtF (M 9) x i)), some (.int (nI (i + 1)))]) dX8_amountOf_29 rfl (j_inc1 _) rfl rfl ?_
        refine j_goto hX (tgt := 4) dX8_amountOf_32 (by decide) ?_
        refine jW.locals (ls' := [some (.ref (ad 11)), some (.int x), some (.int (amtF (M 9) x (i + 1))), some (.int (nI (i + 1)))]) (by rw [show amtF (M 9) x (i + 1) = amtF (M 9) x i from (if_pos h15)]) ?_
        exact ih (i + 1) (by omega) (by omega)
      · refine j_iload_n hX dX8_amountOf_18 rfl ?_
        refine j_aload_n hX dX8_amountOf_19 rfl ?_
        refine j_getf hX (v := .ref (ad 5)) dX8_amountOf_20 fX8_amountOf_38 11 (wCg11 _ _ _ _ _ _) rfl ?_
        refine j_iload_n hX dX8_amountOf_23 rfl ?_
        refine j_dV hX (nA := 1) (cq := (RX6, TX6, 6)) (As := [.int (nI i)]) (st := [.int (amtF (M 9) x i)]) (st' := [.int (atF 6 (M 9) (nI i)), .int (amtF (M 9) x i)]) (ci := 7) rfl dX8_amountOf_24 (c_X6_amountOf G _ _ _ _ _ _) gX8_amountOf_X6_amountOf rfl (by decide +kernel) (q := 5) (wCg5 _ _ _ _ _ _) (by omega) (Nat.le_of_ble_eq_true rfl) rfl (Nat.le_of_ble_eq_true rfl) rfl ⟨Nat.le_refl _, Nat.le_refl _⟩ rfl ?_
        refine j_iadd hX dX8_amountOf_27 ?_
        refine j_istore_n hX (ls' := [some (.ref (ad 11)), some (.int x), some (.int ((amtF (M 9) x i) + (atF 6 (M 9) (nI i)))), some (.int (nI i))]) dX8_amountOf_28 (Nat.le_of_ble_eq_true rfl) rfl rfl ?_
        refine j_iinc hX (v := nI (i + 1)) (ls' := [some (.ref (ad 11)), some (.int x), some (.int ((amtF (M 9) x i) + (atF 6 (M 9) (nI i)))), some (.int (nI (i + 1)))]) dX8_amountOf_29 rfl (j_inc1 _) rfl rfl ?_
        refine j_goto hX (tgt := 4) dX8_amountOf_32 (by decide) ?_
        refine jW.locals (ls' := [some (.ref (ad 11)), some (.int x), some (.int (amtF (M 9) x (i + 1))), some (.int (nI (i + 1)))]) (by rw [show amtF (M 9) x (i + 1) = (amtF (M 9) x i) + (atF 6 (M 9) (nI i)) from (if_neg h15)]) ?_
        exact ih (i + 1) (by omega) (by omega)
  exact L4 6 0 (Nat.le_refl _) (by omega)

def keepA (f b : Nat → Int32) (n : Nat) : Nat → Int32 := itr (fun i b => setF 7 b (nI i) (atF 7 f (nI i))) n b
def keepF (s : VM) (disc offers : Int32) : VM := (sV (sV s.1 6 disc) 5 offers, sM s.2 21 (keepA (s.2 20) (s.2 21) 7))
set_option maxHeartbeats 4000000 in
set_option maxRecDepth 100000 in
theorem c_X8_keep (G : jG) (ad : Nat → Nat) (V : Nat → Int32) (M : Nat → Nat → Int32) (en : Nat → Option Nat) (wo : va_W) (disc offers : Int32) : jD G 1 yX8_keep wsX8_keep [.ref (ad 11), .int disc, .int offers] (wC G ad V M en wo) none (wC G ad (keepF (V, M) disc offers).1 (keepF (V, M) disc offers).2 en wo) := by
  refine jC.of (maxL := 4) (cc := cX8_keep) (ret := none) rfl (by decide) [some (.ref (ad 11)), some (.int disc), some (.int offers), none] rfl (Nat.le_of_ble_eq_true rfl) (j_args rfl) (fun X hX => ?_)
  refine j_aload_n hX dX8_keep_0 rfl ?_
  refine j_iload_n hX dX8_keep_1 rfl ?_
  refine j_putf hX (ws' := (wC G ad (sV V 6 disc) M en wo)) dX8_keep_2 fX8_keep_79 11 (wCg11 _ _ _ _ _ _) (Nat.le_of_ble_eq_true rfl) rfl rfl (wCp11_9 _ _ _ _ _ _ _) ?_
  refine j_aload_n hX dX8_keep_5 rfl ?_
  refine j_iload_n hX dX8_keep_6 rfl ?_
  refine j_putf hX (ws' := (wC G ad (sV (sV V 6 disc) 5 offers) M en wo)) dX8_keep_7 fX8_keep_146 11 (wCg11 _ _ _ _ _ _) (Nat.le_of_ble_eq_true rfl) rfl rfl (wCp11_8 _ _ _ _ _ _ _) ?_
  refine j_iconst hX (v := 0) (by decide) dX8_keep_10 ?_
  refine j_istore_n hX (ls' := [some (.ref (ad 11)), some (.int disc), some (.int offers), some (.int 0)]) dX8_keep_11 (Nat.le_of_ble_eq_true rfl) rfl rfl ?_
  have L12 : ∀ zi i : Nat, 0 ≤ i → i + zi = 7 → jW G X 0 0 12 [some (.ref (ad 11)), some (.int disc), some (.int offers), some (.int (nI i))] [] (wC G ad (sV (sV V 6 disc) 5 offers) (sM M 21 (keepA (M 20) (M 21) i)) en wo) := by
    intro zi
    induction zi with
    | zero =>
      intro i h0 hi
      have hin : i = 7 := by omega
      refine j_iload_n hX dX8_keep_12 rfl ?_
      refine j_bipush hX (v := 7) (by decide) dX8_keep_13 ?_
      refine j_icmp_ge_t hX (tgt := 40) dX8_keep_15 (by decide) (nI_le (a := 7) (b := i) (by omega) (by omega)) ?_
      exact j_vret hX dX8_keep_40 ⟨rfl, by rw [hin]; rfl⟩
    | succ zi ih =>
      intro i h0 hi
      have hin : i < 7 := by omega
      refine j_iload_n hX dX8_keep_12 rfl ?_
      refine j_bipush hX (v := 7) (by decide) dX8_keep_13 ?_
      refine j_icmp_ge_f hX (tgt := 40) dX8_keep_15 (by decide) (nI_ge (a := i) (b := 7) (by omega) (by decide)) ?_
      refine j_aload_n hX dX8_keep_18 rfl ?_
      refine j_getf hX (v := .ref (ad 21)) dX8_keep_19 fX8_keep_31 11 (wCg11 _ _ _ _ _ _) rfl ?_
      refine j_iload_n hX dX8_keep_22 rfl ?_
      refine j_aload_n hX dX8_keep_23 rfl ?_
      refine j_getf hX (v := .ref (ad 20)) dX8_keep_24 fX8_keep_28 11 (wCg11 _ _ _ _ _ _) rfl ?_
      refine j_iload_n hX dX8_keep_27 rfl ?_
      refine j_dSN hX (nA := 2) (As := [.ref (ad 20), .int (nI i)]) (st := [.int (nI i), .ref (ad 21)]) (st' := [.int (atF 7 (M 20) (nI i)), .int (nI i), .ref (ad 21)]) dX8_keep_28 (c_at G (q := 20) (wCg20 _ _ _ _ _ _) (by decide)) gX8_keep_X11_at_n86 rfl (by decide +kernel) (host := "BasketOffers") (by decide +kernel) (by decide +kernel) (by decide +kernel) (by omega) (Nat.le_of_ble_eq_true rfl) rfl (Nat.le_of_ble_eq_true rfl) rfl ⟨Nat.le_refl _, Nat.le_refl _⟩ rfl ?_
      refine j_dSN hX (nA := 3) (As := [.ref (ad 21), .int (nI i), .int (atF 7 (M 20) (nI i))]) (st := []) (st' := []) dX8_keep_31 (c_setAt G (q := 21) (wCg21 _ _ _ _ _ _) (by decide) (w1 := (wC G ad (sV (sV V 6 disc) 5 offers) (sM M 21 (setF 7 (keepA (M 20) (M 21) i) (nI i) (atF 7 (M 20) (nI i)))) en wo)) (wCo21 _ _ _ _ _ _ _ _)) gX8_keep_X11_setAt_n52 rfl (by decide +kernel) (host := "BasketOffers") (by decide +kernel) (by decide +kernel) (by decide +kernel) (by omega) (Nat.le_of_ble_eq_true rfl) rfl (Nat.le_of_ble_eq_true rfl) rfl ⟨Nat.le_refl _, Nat.le_refl _⟩ rfl ?_
      refine j_iinc hX (v := nI (i + 1)) (ls' := [some (.ref (ad 11)), some (.int disc), some (.int offers), some (.int (nI (i + 1)))]) dX8_keep_34 rfl (j_inc1 _) rfl rfl ?_
      refine j_goto hX (tgt := 12) dX8_keep_37 (by decide) ?_
      exact ih (i + 1) (by omega) (by omega)
  refine jW.world (ws' := (wC G ad (sV (sV V 6 disc) 5 offers) (sM M 21 (keepA (M 20) (M 21) 0)) en wo)) rfl ?_
  exact L12 7 0 (Nat.le_refl _) (by omega)

def insB (g : Nat → Int32) (off : Int32) : Nat → (Nat → Int32) → (Nat → Int32)
  | 0, b => setF 6 b (nI 0) off
  | k + 1, b => if atF 6 g off ≤ atF 6 g (atF 6 b (nI k)) then setF 6 b (nI (k + 1)) off else insB g off k (setF 6 b (nI (k + 1)) (atF 6 b (nI k)))
def sortA (g b : Nat → Int32) (n : Nat) : Nat → Int32 := itr (fun i b => insB g (nI i) i b) n b
set_option maxHeartbeats 4000000 in
set_option maxRecDepth 100000 in
theorem c_X8_sortByAmount (G : jG) (ad : Nat → Nat) (V : Nat → Int32) (M : Nat → Nat → Int32) (en : Nat → Option Nat) (wo : va_W) : jD G 2 yX8_sortByAmount wsX8_sortByAmount [.ref (ad 11)] (wC G ad V M en wo) none (wC G ad V (sM M 18 (sortA (M 9) (M 18) 6)) en wo) := by
  refine jC.of (maxL := 3) (cc := cX8_sortByAmount) (ret := none) rfl (by decide) [some (.ref (ad 11)), none, none] rfl (Nat.le_of_ble_eq_true rfl) (j_args rfl) (fun X hX => ?_)
  refine j_iconst hX (v := 0) (by decide) dX8_sortByAmount_0 ?_
  refine j_istore_n hX (ls' := [some (.ref (ad 11)), some (.int 0), none]) dX8_sortByAmount_1 (Nat.le_of_ble_eq_true rfl) rfl rfl ?_
  have L2 : ∀ zi i : Nat, 0 ≤ i → i + zi = 6 → jW G X 0 0 2 [some (.ref (ad 11)), some (.int (nI i)), none] [] (wC G ad V (sM M 18 (sortA (M 9) (M 18) i)) en wo) := by
    intro zi
    induction zi with
    | zero =>
      intro i h0 hi
      have hin : i = 6 := by omega
      refine j_iload_n hX dX8_sortByAmount_2 rfl ?_
      refine j_bipush hX (v := 6) (by decide) dX8_sortByAmount_3 ?_
      refine j_icmp_ge_t hX (tgt := 81) dX8_sortByAmount_5 (by decide) (nI_le (a := 6) (b := i) (by omega) (by omega)) ?_
      exact j_vret hX dX8_sortByAmount_81 ⟨rfl, by rw [hin]⟩
    | succ zi ih =>
      intro i h0 hi
      have hin : i < 6 := by omega
      refine j_iload_n hX dX8_sortByAmount_2 rfl ?_
      refine j_bipush hX (v := 6) (by decide) dX8_sortByAmount_3 ?_
      refine j_icmp_ge_f hX (tgt := 81) dX8_sortByAmount_5 (by decide) (nI_ge (a := i) (b := 6) (by omega) (by decide)) ?_
      refine j_iload_n hX dX8_sortByAmount_8 rfl ?_
      refine j_istore_n hX (ls' := [some (.ref (ad 11)), some (.int (nI i)), some (.int (nI i))]) dX8_sortByAmount_9 (Nat.le_of_ble_eq_true rfl) rfl rfl ?_
      have L10 : ∀ (k : Nat) (b : Nat → Int32), k ≤ 6 → insB (M 9) (nI i) k b = sortA (M 9) (M 18) (i + 1) → jW G X 0 0 10 [some (.ref (ad 11)), some (.int (nI i)), some (.int (nI k))] [] (wC G ad V (sM M 18 b) en wo) := by
        intro k
        induction k with
        | zero =>
          intro b hk hb
          refine j_iload_n hX dX8_sortByAmount_10 rfl ?_
          refine j_if_le_t hX (tgt := 66) dX8_sortByAmount_11 (by decide) (nI_le (a := 0) (b := 0) (by omega) (by omega)) ?_
          refine j_aload_n hX dX8_sortByAmount_66 rfl ?_
          refine j_getf hX (v := .ref (ad 18)) dX8_sortByAmount_67 fX8_sortByAmount_22 11 (wCg11 _ _ _ _ _ _) rfl ?_
          refine j_iload_n hX dX8_sortByAmount_70 rfl ?_
          refine j_iload_n hX dX8_sortByAmount_71 rfl ?_
          refine j_dSN hX (nA := 3) (As := [.ref (ad 18), .int (nI 0), .int (nI i)]) (st := []) (st' := []) dX8_sortByAmount_72 (c_setAt G (q := 18) (wCg18 _ _ _ _ _ _) (by decide) (w1 := (wC G ad V (sM M 18 (setF 6 b (nI 0) (nI i))) en wo)) (wCo18 _ _ _ _ _ _ _ _)) gX8_sortByAmount_X11_setAt_n52 rfl (by decide +kernel) (host := "BasketOffers") (by decide +kernel) (by decide +kernel) (by decide +kernel) (by omega) (Nat.le_of_ble_eq_true rfl) rfl (Nat.le_of_ble_eq_true rfl) rfl ⟨Nat.le_refl _, Nat.le_refl _⟩ rfl ?_
          refine j_iinc hX (v := nI (i + 1)) (ls' := [some (.ref (ad 11)), some (.int (nI (i + 1))), some (.int (nI 0))]) dX8_sortByAmount_75 rfl (j_inc1 _) rfl rfl ?_
          refine j_goto hX (tgt := 2) dX8_sortByAmount_78 (by decide) ?_
          refine jW.drop (ls' := [some (.ref (ad 11)), some (.int (nI (i + 1))), none]) ⟨Or.inr rfl, Or.inr rfl, Or.inl rfl, trivial⟩ ?_
          refine jW.world (ws' := (wC G ad V (sM M 18 (sortA (M 9) (M 18) (i + 1))) en wo)) (by rw [show sortA (M 9) (M 18) (i + 1) = setF 6 b (nI 0) (nI i) from hb.symm.trans rfl]) ?_
          exact ih (i + 1) (by omega) (by omega)
        | succ k ihk =>
          intro b hk hb
          refine j_iload_n hX dX8_sortByAmount_10 rfl ?_
          refine j_if_le_f hX (tgt := 66) dX8_sortByAmount_11 (by decide) (nI_nle (Nat.succ_pos _) (by omega)) ?_
          refine j_aload_n hX dX8_sortByAmount_14 rfl ?_
          refine j_getf hX (v := .ref (ad 5)) dX8_sortByAmount_15 fX8_sortByAmount_38 11 (wCg11 _ _ _ _ _ _) rfl ?_
          refine j_aload_n hX dX8_sortByAmount_18 rfl ?_
          refine j_getf hX (v := .ref (ad 18)) dX8_sortByAmount_19 fX8_sortByAmount_22 11 (wCg11 _ _ _ _ _ _) rfl ?_
          refine j_iload_n hX dX8_sortByAmount_22 rfl ?_
          refine j_iconst hX (v := 1) (by decide) dX8_sortByAmount_23 ?_
          refine j_isub hX dX8_sortByAmount_24 ?_
          refine jW.top (nI_pred k) ?_
          refine j_dSN hX (nA := 2) (As := [.ref (ad 18), .int (nI k)]) (st := [.ref (ad 5)]) (st' := [.int (atF 6 b (nI k)), .ref (ad 5)]) dX8_sortByAmount_25 (c_at G (q := 18) (wCg18 _ _ _ _ _ _) (by decide)) gX8_sortByAmount_X11_at_n86 rfl (by decide +kernel) (host := "BasketOffers") (by decide +kernel) (by decide +kernel) (by decide +kernel) (by omega) (Nat.le_of_ble_eq_true rfl) rfl (Nat.le_of_ble_eq_true rfl) rfl ⟨Nat.le_refl _, Nat.le_refl _⟩ rfl ?_
          refine j_dV hX (nA := 1) (cq := (RX6, TX6, 6)) (As := [.int (atF 6 b (nI k))]) (st := []) (st' := [.int (atF 6 (M 9) (atF 6 b (nI k)))]) (ci := 7) rfl dX8_sortByAmount_28 (c_X6_amountOf G _ _ _ _ _ _) gX8_sortByAmount_X6_amountOf rfl (by decide +kernel) (q := 5) (wCg5 _ _ _ _ _ _) (by omega) (Nat.le_of_ble_eq_true rfl) rfl (Nat.le_of_ble_eq_true rfl) rfl ⟨Nat.le_refl _, Nat.le_refl _⟩ rfl ?_
          refine j_aload_n hX dX8_sortByAmount_31 rfl ?_
          refine j_getf hX (v := .ref (ad 5)) dX8_sortByAmount_32 fX8_sortByAmount_38 11 (wCg11 _ _ _ _ _ _) rfl ?_
          refine j_iload_n hX dX8_sortByAmount_35 rfl ?_
          refine j_dV hX (nA := 1) (cq := (RX6, TX6, 6)) (As := [.int (nI i)]) (st := [.int (atF 6 (M 9) (atF 6 b (nI k)))]) (st' := [.int (atF 6 (M 9) (nI i)), .int (atF 6 (M 9) (atF 6 b (nI k)))]) (ci := 7) rfl dX8_sortByAmount_36 (c_X6_amountOf G _ _ _ _ _ _) gX8_sortByAmount_X6_amountOf rfl (by decide +kernel) (q := 5) (wCg5 _ _ _ _ _ _) (by omega) (Nat.le_of_ble_eq_true rfl) rfl (Nat.le_of_ble_eq_true rfl) rfl ⟨Nat.le_refl _, Nat.le_refl _⟩ rfl ?_
          refine j_icmp_ge hX (tgt := 66) dX8_sortByAmount_39 (by decide) (fun h39 => ?_) (fun h39 => ?_)
          · refine j_aload_n hX dX8_sortByAmount_66 rfl ?_
            refine j_getf hX (v := .ref (ad 18)) dX8_sortByAmount_67 fX8_sortByAmount_22 11 (wCg11 _ _ _ _ _ _) rfl ?_
            refine j_iload_n hX dX8_sortByAmount_70 rfl ?_
            refine j_iload_n hX dX8_sortByAmount_71 rfl ?_
            refine j_dSN hX (nA := 3) (As := [.ref (ad 18), .int (nI (k + 1)), .int (nI i)]) (st := []) (st' := []) dX8_sortByAmount_72 (c_setAt G (q := 18) (wCg18 _ _ _ _ _ _) (by decide) (w1 := (wC G ad V (sM M 18 (setF 6 b (nI (k + 1)) (nI i))) en wo)) (wCo18 _ _ _ _ _ _ _ _)) gX8_sortByAmount_X11_setAt_n52 rfl (by decide +kernel) (host := "BasketOffers") (by decide +kernel) (by decide +kernel) (by decide +kernel) (by omega) (Nat.le_of_ble_eq_true rfl) rfl (Nat.le_of_ble_eq_true rfl) rfl ⟨Nat.le_refl _, Nat.le_refl _⟩ rfl ?_
            refine j_iinc hX (v := nI (i + 1)) (ls' := [some (.ref (ad 11)), some (.int (nI (i + 1))), some (.int (nI (k + 1)))]) dX8_sortByAmount_75 rfl (j_inc1 _) rfl rfl ?_
            refine j_goto hX (tgt := 2) dX8_sortByAmount_78 (by decide) ?_
            refine jW.drop (ls' := [some (.ref (ad 11)), some (.int (nI (i + 1))), none]) ⟨Or.inr rfl, Or.inr rfl, Or.inl rfl, trivial⟩ ?_
            refine jW.world (ws' := (wC G ad V (sM M 18 (sortA (M 9) (M 18) (i + 1))) en wo)) (by rw [show sortA (M 9) (M 18) (i + 1) = setF 6 b (nI (k + 1)) (nI i) from hb.symm.trans (if_pos h39)]) ?_
            exact ih (i + 1) (by omega) (by omega)
          · refine j_aload_n hX dX8_sortByAmount_42 rfl ?_
            refine j_getf hX (v := .ref (ad 18)) dX8_sortByAmount_43 fX8_sortByAmount_22 11 (wCg11 _ _ _ _ _ _) rfl ?_
            refine j_iload_n hX dX8_sortByAmount_46 rfl ?_
            refine j_aload_n hX dX8_sortByAmount_47 rfl ?_
            refine j_getf hX (v := .ref (ad 18)) dX8_sortByAmount_48 fX8_sortByAmount_22 11 (wCg11 _ _ _ _ _ _) rfl ?_
            refine j_iload_n hX dX8_sortByAmount_51 rfl ?_
            refine j_iconst hX (v := 1) (by decide) dX8_sortByAmount_52 ?_
            refine j_isub hX dX8_sortByAmount_53 ?_
            refine jW.top (nI_pred k) ?_
            refine j_dSN hX (nA := 2) (As := [.ref (ad 18), .int (nI k)]) (st := [.int (nI (k + 1)), .ref (ad 18)]) (st' := [.int (atF 6 b (nI k)), .int (nI (k + 1)), .ref (ad 18)]) dX8_sortByAmount_54 (c_at G (q := 18) (wCg18 _ _ _ _ _ _) (by decide)) gX8_sortByAmount_X11_at_n86 rfl (by decide +kernel) (host := "BasketOffers") (by decide +kernel) (by decide +kernel) (by decide +kernel) (by omega) (Nat.le_of_ble_eq_true rfl) rfl (Nat.le_of_ble_eq_true rfl) rfl ⟨Nat.le_refl _, Nat.le_refl _⟩ rfl ?_
            refine j_dSN hX (nA := 3) (As := [.ref (ad 18), .int (nI (k + 1)), .int (atF 6 b (nI k))]) (st := []) (st' := []) dX8_sortByAmount_57 (c_setAt G (q := 18) (wCg18 _ _ _ _ _ _) (by decide) (w1 := (wC G ad V (sM M 18 (setF 6 b (nI (k + 1)) (atF 6 b (nI k)))) en wo)) (wCo18 _ _ _ _ _ _ _ _)) gX8_sortByAmount_X11_setAt_n52 rfl (by decide +kernel) (host := "BasketOffers") (by decide +kernel) (by decide +kernel) (by decide +kernel) (by omega) (Nat.le_of_ble_eq_true rfl) rfl (Nat.le_of_ble_eq_true rfl) rfl ⟨Nat.le_refl _, Nat.le_refl _⟩ rfl ?_
            refine j_iinc hX (v := nI k) (ls' := [some (.ref (ad 11)), some (.int (nI i)), some (.int (nI k))]) dX8_sortByAmount_60 rfl (j_dec1 _) rfl rfl ?_
            refine j_goto hX (tgt := 10) dX8_sortByAmount_63 (by decide) ?_
            exact ihk _ (by omega) (((if_neg h39)).symm.trans hb)
      exact L10 i _ (by omega) rfl
  exact L2 6 0 (Nat.le_refl _) (by omega)

def shZ (b : Nat → Int32) (n : Nat) : Nat → Int32 := itr (fun i b => setF 7 b (nI i) 0) n b
def shareF (M : Nat → Nat → Int32) (u : Nat) : Int32 := if bcF (atF 210 (M 14) (nI u)) ≤ 0 then 0 else atF 210 (M 15) (nI u) * 60 / bcF (atF 210 (M 14) (nI u))
def shI (M : Nat → Nat → Int32) (u i : Nat) (b : Nat → Int32) : Nat → Int32 := if isInV (atF 210 (M 14) (nI u)) (nI i) = 0 then b else setF 7 b (nI i) (if shareF M u < atF 7 b (nI i) then atF 7 b (nI i) else shareF M u)
def shU (M : Nat → Nat → Int32) (u : Nat) (b : Nat → Int32) (n : Nat) : Nat → Int32 := itr (shI M u) n b
def shA (M : Nat → Nat → Int32) (b : Nat → Int32) (n : Nat) : Nat → Int32 := itr (fun u b => shU M u b 7) n b
def sharesF (M : Nat → Nat → Int32) (n : Nat) : Nat → Int32 := shA M (shZ (M 19) 7) n
set_option maxHeartbeats 4000000 in
set_option maxRecDepth 100000 in
theorem c_X8_setShares (G : jG) (ad : Nat → Nat) (V : Nat → Int32) (M : Nat → Nat → Int32) (en : Nat → Option Nat) (wo : va_W) (u9 : Nat) (hu9 : V 9 = nI u9) (hu : u9 ≤ 210) : jD G 2 yX8_setShares wsX8_setShares [.ref (ad 11)] (wC G ad V M en wo) none (wC G ad V (sM M 19 (sharesF M u9)) en wo) := by
  refine jC.of (maxL := 5) (cc := cX8_setShares) (ret := none) rfl (by decide) [some (.ref (ad 11)), none, none, none, none] rfl (Nat.le_of_ble_eq_true rfl) (j_args rfl) (fun X hX => ?_)
  refine j_iconst hX (v := 0) (by decide) dX8_setShares_0 ?_
  refine j_istore_n hX (ls' := [some (.ref (ad 11)), some (.int 0), none, none, none]) dX8_setShares_1 (Nat.le_of_ble_eq_true rfl) rfl rfl ?_
  have L2 : ∀ zi i : Nat, 0 ≤ i → i + zi = 7 → jW G X 0 0 2 [some (.ref (ad 11)), some (.int (nI i)), none, none, none] [] (wC G ad V (sM M 19 (shZ (M 19) i)) en wo) := by
    intro zi
    induction zi with
    | zero =>
      intro i h0 hi
      have hin : i = 7 := by omega
      refine j_iload_n hX dX8_setShares_2 rfl ?_
      refine j_bipush hX (v := 7) (by decide) dX8_setShares_3 ?_
      refine j_icmp_ge_t hX (tgt := 23) dX8_setShares_5 (by decide) (nI_le (a := 7) (b := i) (by omega) (by omega)) ?_
      refine j_iconst hX (v := 0) (by decide) dX8_setShares_23 ?_
      refine j_istore_n hX (ls' := [some (.ref (ad 11)), some (.int 0), none, none, none]) dX8_setShares_24 (Nat.le_of_ble_eq_true rfl) rfl rfl ?_
      have L25 : ∀ zu u : Nat, 0 ≤ u → u + zu = u9 → jW G X 0 0 25 [some (.ref (ad 11)), some (.int (nI u)), none, none, none] [] (wC G ad V (sM M 19 (shA M (shZ (M 19) 7) u)) en wo) := by
        intro zu
        induction zu with
        | zero =>
          intro u h0u hiu
          have hinu : u = u9 := by omega
          refine j_iload_n hX dX8_setShares_25 rfl ?_
          refine j_aload_n hX dX8_setShares_26 rfl ?_
          refine j_getf hX (v := .ref (ad 12)) dX8_setShares_27 fX8_setShares_12 11 (wCg11 _ _ _ _ _ _) rfl ?_
          refine j_dV hX (nA := 0) (cq := (RX10, TX10, 5)) (As := []) (st := [.int (nI u)]) (st' := [.int (V 9), .int (nI u)]) (ci := 11) rfl dX8_setShares_30 (c_X10_size G _ _ _ _ _) gX8_setShares_X10_size rfl (by decide +kernel) (q := 12) (wCg12 _ _ _ _ _ _) (by omega) (Nat.le_of_ble_eq_true rfl) rfl (Nat.le_of_ble_eq_true rfl) rfl ⟨Nat.le_refl _, Nat.le_refl _⟩ rfl ?_
          refine j_icmp_ge_t hX (tgt := 130) dX8_setShares_33 (by decide) (by rw [hu9, hinu]; exact nI_le (Nat.le_refl _) (by omega)) ?_
          exact j_vret hX dX8_setShares_130 ⟨rfl, by rw [hinu]; rfl⟩
        | succ zu ihu =>
          intro u h0u hiu
          have hinu : u < u9 := by omega
          refine j_iload_n hX dX8_setShares_25 rfl ?_
          refine j_aload_n hX dX8_setShares_26 rfl ?_
          refine j_getf hX (v := .ref (ad 12)) dX8_setShares_27 fX8_setShares_12 11 (wCg11 _ _ _ _ _ _) rfl ?_
          refine j_dV hX (nA := 0) (cq := (RX10, TX10, 5)) (As := []) (st := [.int (nI u)]) (st' := [.int (V 9), .int (nI u)]) (ci := 11) rfl dX8_setShares_30 (c_X10_size G _ _ _ _ _) gX8_setShares_X10_size rfl (by decide +kernel) (q := 12) (wCg12 _ _ _ _ _ _) (by omega) (Nat.le_of_ble_eq_true rfl) rfl (Nat.le_of_ble_eq_true rfl) rfl ⟨Nat.le_refl _, Nat.le_refl _⟩ rfl ?_
          refine j_icmp_ge_f hX (tgt := 130) dX8_setShares_33 (by decide) (by rw [hu9]; exact nI_ge hinu (by omega)) ?_
          refine j_aload_n hX dX8_setShares_36 rfl ?_
          refine j_getf hX (v := .ref (ad 12)) dX8_setShares_37 fX8_setShares_12 11 (wCg11 _ _ _ _ _ _) rfl ?_
          refine j_iload_n hX dX8_setShares_40 rfl ?_
          refine j_dV hX (nA := 1) (cq := (RX10, TX10, 5)) (As := [.int (nI u)]) (st := []) (st' := [.int (atF 210 (M 14) (nI u))]) (ci := 11) rfl dX8_setShares_41 (c_X10_maskAt G _ _ _ _ _ _) gX8_setShares_X10_maskAt rfl (by decide +kernel) (q := 12) (wCg12 _ _ _ _ _ _) (by omega) (Nat.le_of_ble_eq_true rfl) rfl (Nat.le_of_ble_eq_true rfl) rfl ⟨Nat.le_refl _, Nat.le_refl _⟩ rfl ?_
          refine j_dS hX (nA := 1) (As := [.int (atF 210 (M 14) (nI u))]) (st := []) (st' := [.int (bcF (atF 210 (M 14) (nI u)))]) dX8_setShares_44 (c_bitCount G _) gX8_setShares_J6_bitCount_0f7a4 rfl (by decide +kernel) (by omega) (Nat.le_of_ble_eq_true rfl) rfl (Nat.le_of_ble_eq_true rfl) rfl ⟨Nat.le_refl _, Nat.le_refl _⟩ rfl ?_
          refine j_istore_n hX (ls' := [some (.ref (ad 11)), some (.int (nI u)), some (.int (bcF (atF 210 (M 14) (nI u)))), none, none]) dX8_setShares_47 (Nat.le_of_ble_eq_true rfl) rfl rfl ?_
          refine j_iload_n hX dX8_setShares_48 rfl ?_
          refine j_if_le hX (tgt := 68) dX8_setShares_49 (by decide) (fun h49 => ?_) (fun h49 => ?_)
          · refine j_iconst hX (v := 0) (by decide) dX8_setShares_68 ?_
            refine jW.top (y := shareF M u) ((if_pos h49) : shareF M u = 0).symm ?_
            refine j_istore_n hX (ls' := [some (.ref (ad 11)), some (.int (nI u)), some (.int (bcF (atF 210 (M 14) (nI u)))), some (.int (shareF M u)), none]) dX8_setShares_69 (Nat.le_of_ble_eq_true rfl) rfl rfl ?_
            refine j_iconst hX (v := 0) (by decide) dX8_setShares_70 ?_
            refine j_istore hX (ls' := [some (.ref (ad 11)), some (.int (nI u)), some (.int (bcF (atF 210 (M 14) (nI u)))), some (.int (shareF M u)), some (.int 0)]) dX8_setShares_71 (Nat.le_of_ble_eq_true rfl) rfl rfl ?_
            have L73 : ∀ za a : Nat, 0 ≤ a → a + za = 7 → jW G X 0 0 73 [some (.ref (ad 11)), some (.int (nI u)), some (.int (bcF (atF 210 (M 14) (nI u)))), some (.int (shareF M u)), some (.int (nI a))] [] (wC G ad V (sM M 19 (shU M u (shA M (shZ (M 19) 7) u) a)) en wo) := by
              intro za
              induction za with
              | zero =>
                intro a h0a hia
                have hina : a = 7 := by omega
                refine j_iload hX dX8_setShares_73 rfl ?_
                refine j_bipush hX (v := 7) (by decide) dX8_setShares_75 ?_
                refine j_icmp_ge_t hX (tgt := 124) dX8_setShares_77 (by decide) (nI_le (a := 7) (b := a) (by omega) (by omega)) ?_
                refine j_iinc hX (v := nI (u + 1)) (ls' := [some (.ref (ad 11)), some (.int (nI (u + 1))), some (.int (bcF (atF 210 (M 14) (nI u)))), some (.int (shareF M u)), some (.int (nI a))]) dX8_setShares_124 rfl (j_inc1 _) rfl rfl ?_
                refine j_goto hX (tgt := 25) dX8_setShares_127 (by decide) ?_
                refine jW.drop (ls' := [some (.ref (ad 11)), some (.int (nI (u + 1))), none, none, none]) ⟨Or.inr rfl, Or.inr rfl, Or.inl rfl, Or.inl rfl, Or.inl rfl, trivial⟩ ?_
                refine jW.world (ws' := (wC G ad V (sM M 19 (shA M (shZ (M 19) 7) (u + 1))) en wo)) (by rw [hina]; rfl) ?_
                exact ihu (u + 1) (by omega) (by omega)
              | succ za iha =>
                intro a h0a hia
                have hina : a < 7 := by omega
                refine j_iload hX dX8_setShares_73 rfl ?_
                refine j_bipush hX (v := 7) (by decide) dX8_setShares_75 ?_
                refine j_icmp_ge_f hX (tgt := 124) dX8_setShares_77 (by decide) (nI_ge (a := a) (b := 7) (by omega) (by decide)) ?_
                refine j_aload_n hX dX8_setShares_80 rfl ?_
                refine j_getf hX (v := .ref (ad 12)) dX8_setShares_81 fX8_setShares_12 11 (wCg11 _ _ _ _ _ _) rfl ?_
                refine j_iload_n hX dX8_setShares_84 rfl ?_
                refine j_dV hX (nA := 1) (cq := (RX10, TX10, 5)) (As := [.int (nI u)]) (st := []) (st' := [.int (atF 210 (M 14) (nI u))]) (ci := 11) rfl dX8_setShares_85 (c_X10_maskAt G _ _ _ _ _ _) gX8_setShares_X10_maskAt rfl (by decide +kernel) (q := 12) (wCg12 _ _ _ _ _ _) (by omega) (Nat.le_of_ble_eq_true rfl) rfl (Nat.le_of_ble_eq_true rfl) rfl ⟨Nat.le_refl _, Nat.le_refl _⟩ rfl ?_
                refine j_iload hX dX8_setShares_88 rfl ?_
                refine j_dSN hX (nA := 2) (As := [.int (atF 210 (M 14) (nI u)), .int (nI a)]) (st := []) (st' := [.int (isInV (atF 210 (M 14) (nI u)) (nI a))]) dX8_setShares_90 (c_isIn G) gX8_setShares_X11_isIn_n107 rfl (by decide +kernel) (host := "BasketOffers") (by decide +kernel) (by decide +kernel) (by decide +kernel) (by omega) (Nat.le_of_ble_eq_true rfl) rfl (Nat.le_of_ble_eq_true rfl) rfl ⟨Nat.le_refl _, Nat.le_refl _⟩ rfl ?_
                refine j_if_eq hX (tgt := 118) dX8_setShares_93 (by decide) (fun h93 => ?_) (fun h93 => ?_)
                · refine j_iinc hX (v := nI (a + 1)) (ls' := [some (.ref (ad 11)), some (.int (nI u)), some (.int (bcF (atF 210 (M 14) (nI u)))), some (.int (shareF M u)), some (.int (nI (a + 1)))]) dX8_setShares_118 rfl (j_inc1 _) rfl rfl ?_
                  refine j_goto hX (tgt := 73) dX8_setShares_121 (by decide) ?_
                  refine jW.world (ws' := (wC G ad V (sM M 19 (shU M u (shA M (shZ (M 19) 7) u) (a + 1))) en wo)) (by rw [show shU M u (shA M (shZ (M 19) 7) u) (a + 1) = shU M u (shA M (shZ (M 19) 7) u) a from (if_pos h93)]) ?_
                  exact iha (a + 1) (by omega) (by omega)
                · refine j_aload_n hX dX8_setShares_96 rfl ?_
                  refine j_getf hX (v := .ref (ad 19)) dX8_setShares_97 fX8_setShares_25 11 (wCg11 _ _ _ _ _ _) rfl ?_
                  refine j_iload hX dX8_setShares_100 rfl ?_
                  refine j_iload_n hX dX8_setShares_102 rfl ?_
                  refine j_aload_n hX dX8_setShares_103 rfl ?_
                  refine j_getf hX (v := .ref (ad 19)) dX8_setShares_104 fX8_setShares_25 11 (wCg11 _ _ _ _ _ _) rfl ?_
                  refine j_iload hX dX8_setShares_107 rfl ?_
                  refine j_dSN hX (nA := 2) (As := [.ref (ad 19), .int (nI a)]) (st := [.int (shareF M u), .int (nI a), .ref (ad 19)]) (st' := [.int (atF 7 (shU M u (shA M (shZ (M 19) 7) u) a) (nI a)), .int (shareF M u), .int (nI a), .ref (ad 19)]) dX8_setShares_109 (c_at G (q := 19) (wCg19 _ _ _ _ _ _) (by decide)) gX8_setShares_X11_at_n86 rfl (by decide +kernel) (host := "BasketOffers") (by decide +kernel) (by decide +kernel) (by decide +kernel) (by omega) (Nat.le_of_ble_eq_true rfl) rfl (Nat.le_of_ble_eq_true rfl) rfl ⟨Nat.le_refl _, Nat.le_refl _⟩ rfl ?_
                  refine j_mmax hX dX8_setShares_112 (by decide +kernel) (by decide +kernel) (by decide +kernel) (by decide +kernel) (by omega) rfl (Nat.le_of_ble_eq_true rfl) ⟨Nat.le_refl _, Nat.le_refl _⟩ ?_
                  refine j_dSN hX (nA := 3) (As := [.ref (ad 19), .int (nI a), .int (if (shareF M u) < (atF 7 (shU M u (shA M (shZ (M 19) 7) u) a) (nI a)) then (atF 7 (shU M u (shA M (shZ (M 19) 7) u) a) (nI a)) else (shareF M u))]) (st := []) (st' := []) dX8_setShares_115 (c_setAt G (q := 19) (wCg19 _ _ _ _ _ _) (by decide) (w1 := (wC G ad V (sM M 19 (setF 7 (shU M u (shA M (shZ (M 19) 7) u) a) (nI a) (if (shareF M u) < (atF 7 (shU M u (shA M (shZ (M 19) 7) u) a) (nI a)) then (atF 7 (shU M u (shA M (shZ (M 19) 7) u) a) (nI a)) else (shareF M u)))) en wo)) (wCo19 _ _ _ _ _ _ _ _)) gX8_setShares_X11_setAt_n52 rfl (by decide +kernel) (host := "BasketOffers") (by decide +kernel) (by decide +kernel) (by decide +kernel) (by omega) (Nat.le_of_ble_eq_true rfl) rfl (Nat.le_of_ble_eq_true rfl) rfl ⟨Nat.le_refl _, Nat.le_refl _⟩ rfl ?_
                  refine j_iinc hX (v := nI (a + 1)) (ls' := [some (.ref (ad 11)), some (.int (nI u)), some (.int (bcF (atF 210 (M 14) (nI u)))), some (.int (shareF M u)), some (.int (nI (a + 1)))]) dX8_setShares_118 rfl (j_inc1 _) rfl rfl ?_
                  refine j_goto hX (tgt := 73) dX8_setShares_121 (by decide) ?_
                  refine jW.world (ws' := (wC G ad V (sM M 19 (shU M u (shA M (shZ (M 19) 7) u) (a + 1))) en wo)) (by rw [show shU M u (shA M (shZ (M 19) 7) u) (a + 1) = setF 7 (shU M u (shA M (shZ (M 19) 7) u) a) (nI a) (if (shareF M u) < (atF 7 (shU M u (shA M (shZ (M 19) 7) u) a) (nI a)) then (atF 7 (shU M u (shA M (shZ (M 19) 7) u) a) (nI a)) else (shareF M u)) from (if_neg h93)]) ?_
                  exact iha (a + 1) (by omega) (by omega)
            refine jW.world (ws' := (wC G ad V (sM M 19 (shU M u (shA M (shZ (M 19) 7) u) 0)) en wo)) rfl ?_
            exact L73 7 0 (Nat.le_refl _) (by omega)
          · refine j_aload_n hX dX8_setShares_52 rfl ?_
            refine j_getf hX (v := .ref (ad 12)) dX8_setShares_53 fX8_setShares_12 11 (wCg11 _ _ _ _ _ _) rfl ?_
            refine j_iload_n hX dX8_setShares_56 rfl ?_
            refine j_dV hX (nA := 1) (cq := (RX10, TX10, 5)) (As := [.int (nI u)]) (st := []) (st' := [.int (atF 210 (M 15) (nI u))]) (ci := 11) rfl dX8_setShares_57 (c_X10_discountAt G _ _ _ _ _ _) gX8_setShares_X10_discountAt rfl (by decide +kernel) (q := 12) (wCg12 _ _ _ _ _ _) (by omega) (Nat.le_of_ble_eq_true rfl) rfl (Nat.le_of_ble_eq_true rfl) rfl ⟨Nat.le_refl _, Nat.le_refl _⟩ rfl ?_
            refine j_bipush hX (v := 60) (by decide) dX8_setShares_60 ?_
            refine j_imul hX dX8_setShares_62 ?_
            refine j_iload_n hX dX8_setShares_63 rfl ?_
            refine j_idiv hX dX8_setShares_64 (fun e => h49 (by rw [e]; decide)) ?_
            refine j_goto hX (tgt := 69) dX8_setShares_65 (by decide) ?_
            refine jW.top (y := shareF M u) ((if_neg h49) : shareF M u = ((atF 210 (M 15) (nI u)) * 60) / (bcF (atF 210 (M 14) (nI u)))).symm ?_
            refine j_istore_n hX (ls' := [some (.ref (ad 11)), some (.int (nI u)), some (.int (bcF (atF 210 (M 14) (nI u)))), some (.int (shareF M u)), none]) dX8_setShares_69 (Nat.le_of_ble_eq_true rfl) rfl rfl ?_
            refine j_iconst hX (v := 0) (by decide) dX8_setShares_70 ?_
            refine j_istore hX (ls' := [some (.ref (ad 11)), some (.int (nI u)), some (.int (bcF (atF 210 (M 14) (nI u)))), some (.int (shareF M u)), some (.int 0)]) dX8_setShares_71 (Nat.le_of_ble_eq_true rfl) rfl rfl ?_
            have L73 : ∀ za a : Nat, 0 ≤ a → a + za = 7 → jW G X 0 0 73 [some (.ref (ad 11)), some (.int (nI u)), some (.int (bcF (atF 210 (M 14) (nI u)))), some (.int (shareF M u)), some (.int (nI a))] [] (wC G ad V (sM M 19 (shU M u (shA M (shZ (M 19) 7) u) a)) en wo) := by
              intro za
              induction za with
              | zero =>
                intro a h0a hia
                have hina : a = 7 := by omega
                refine j_iload hX dX8_setShares_73 rfl ?_
                refine j_bipush hX (v := 7) (by decide) dX8_setShares_75 ?_
                refine j_icmp_ge_t hX (tgt := 124) dX8_setShares_77 (by decide) (nI_le (a := 7) (b := a) (by omega) (by omega)) ?_
                refine j_iinc hX (v := nI (u + 1)) (ls' := [some (.ref (ad 11)), some (.int (nI (u + 1))), some (.int (bcF (atF 210 (M 14) (nI u)))), some (.int (shareF M u)), some (.int (nI a))]) dX8_setShares_124 rfl (j_inc1 _) rfl rfl ?_
                refine j_goto hX (tgt := 25) dX8_setShares_127 (by decide) ?_
                refine jW.drop (ls' := [some (.ref (ad 11)), some (.int (nI (u + 1))), none, none, none]) ⟨Or.inr rfl, Or.inr rfl, Or.inl rfl, Or.inl rfl, Or.inl rfl, trivial⟩ ?_
                refine jW.world (ws' := (wC G ad V (sM M 19 (shA M (shZ (M 19) 7) (u + 1))) en wo)) (by rw [hina]; rfl) ?_
                exact ihu (u + 1) (by omega) (by omega)
              | succ za iha =>
                intro a h0a hia
                have hina : a < 7 := by omega
                refine j_iload hX dX8_setShares_73 rfl ?_
                refine j_bipush hX (v := 7) (by decide) dX8_setShares_75 ?_
                refine j_icmp_ge_f hX (tgt := 124) dX8_setShares_77 (by decide) (nI_ge (a := a) (b := 7) (by omega) (by decide)) ?_
                refine j_aload_n hX dX8_setShares_80 rfl ?_
                refine j_getf hX (v := .ref (ad 12)) dX8_setShares_81 fX8_setShares_12 11 (wCg11 _ _ _ _ _ _) rfl ?_
                refine j_iload_n hX dX8_setShares_84 rfl ?_
                refine j_dV hX (nA := 1) (cq := (RX10, TX10, 5)) (As := [.int (nI u)]) (st := []) (st' := [.int (atF 210 (M 14) (nI u))]) (ci := 11) rfl dX8_setShares_85 (c_X10_maskAt G _ _ _ _ _ _) gX8_setShares_X10_maskAt rfl (by decide +kernel) (q := 12) (wCg12 _ _ _ _ _ _) (by omega) (Nat.le_of_ble_eq_true rfl) rfl (Nat.le_of_ble_eq_true rfl) rfl ⟨Nat.le_refl _, Nat.le_refl _⟩ rfl ?_
                refine j_iload hX dX8_setShares_88 rfl ?_
                refine j_dSN hX (nA := 2) (As := [.int (atF 210 (M 14) (nI u)), .int (nI a)]) (st := []) (st' := [.int (isInV (atF 210 (M 14) (nI u)) (nI a))]) dX8_setShares_90 (c_isIn G) gX8_setShares_X11_isIn_n107 rfl (by decide +kernel) (host := "BasketOffers") (by decide +kernel) (by decide +kernel) (by decide +kernel) (by omega) (Nat.le_of_ble_eq_true rfl) rfl (Nat.le_of_ble_eq_true rfl) rfl ⟨Nat.le_refl _, Nat.le_refl _⟩ rfl ?_
                refine j_if_eq hX (tgt := 118) dX8_setShares_93 (by decide) (fun h93 => ?_) (fun h93 => ?_)
                · refine j_iinc hX (v := nI (a + 1)) (ls' := [some (.ref (ad 11)), some (.int (nI u)), some (.int (bcF (atF 210 (M 14) (nI u)))), some (.int (shareF M u)), some (.int (nI (a + 1)))]) dX8_setShares_118 rfl (j_inc1 _) rfl rfl ?_
                  refine j_goto hX (tgt := 73) dX8_setShares_121 (by decide) ?_
                  refine jW.world (ws' := (wC G ad V (sM M 19 (shU M u (shA M (shZ (M 19) 7) u) (a + 1))) en wo)) (by rw [show shU M u (shA M (shZ (M 19) 7) u) (a + 1) = shU M u (shA M (shZ (M 19) 7) u) a from (if_pos h93)]) ?_
                  exact iha (a + 1) (by omega) (by omega)
                · refine j_aload_n hX dX8_setShares_96 rfl ?_
                  refine j_getf hX (v := .ref (ad 19)) dX8_setShares_97 fX8_setShares_25 11 (wCg11 _ _ _ _ _ _) rfl ?_
                  refine j_iload hX dX8_setShares_100 rfl ?_
                  refine j_iload_n hX dX8_setShares_102 rfl ?_
                  refine j_aload_n hX dX8_setShares_103 rfl ?_
                  refine j_getf hX (v := .ref (ad 19)) dX8_setShares_104 fX8_setShares_25 11 (wCg11 _ _ _ _ _ _) rfl ?_
                  refine j_iload hX dX8_setShares_107 rfl ?_
                  refine j_dSN hX (nA := 2) (As := [.ref (ad 19), .int (nI a)]) (st := [.int (shareF M u), .int (nI a), .ref (ad 19)]) (st' := [.int (atF 7 (shU M u (shA M (shZ (M 19) 7) u) a) (nI a)), .int (shareF M u), .int (nI a), .ref (ad 19)]) dX8_setShares_109 (c_at G (q := 19) (wCg19 _ _ _ _ _ _) (by decide)) gX8_setShares_X11_at_n86 rfl (by decide +kernel) (host := "BasketOffers") (by decide +kernel) (by decide +kernel) (by decide +kernel) (by omega) (Nat.le_of_ble_eq_true rfl) rfl (Nat.le_of_ble_eq_true rfl) rfl ⟨Nat.le_refl _, Nat.le_refl _⟩ rfl ?_
                  refine j_mmax hX dX8_setShares_112 (by decide +kernel) (by decide +kernel) (by decide +kernel) (by decide +kernel) (by omega) rfl (Nat.le_of_ble_eq_true rfl) ⟨Nat.le_refl _, Nat.le_refl _⟩ ?_
                  refine j_dSN hX (nA := 3) (As := [.ref (ad 19), .int (nI a), .int (if (shareF M u) < (atF 7 (shU M u (shA M (shZ (M 19) 7) u) a) (nI a)) then (atF 7 (shU M u (shA M (shZ (M 19) 7) u) a) (nI a)) else (shareF M u))]) (st := []) (st' := []) dX8_setShares_115 (c_setAt G (q := 19) (wCg19 _ _ _ _ _ _) (by decide) (w1 := (wC G ad V (sM M 19 (setF 7 (shU M u (shA M (shZ (M 19) 7) u) a) (nI a) (if (shareF M u) < (atF 7 (shU M u (shA M (shZ (M 19) 7) u) a) (nI a)) then (atF 7 (shU M u (shA M (shZ (M 19) 7) u) a) (nI a)) else (shareF M u)))) en wo)) (wCo19 _ _ _ _ _ _ _ _)) gX8_setShares_X11_setAt_n52 rfl (by decide +kernel) (host := "BasketOffers") (by decide +kernel) (by decide +kernel) (by decide +kernel) (by omega) (Nat.le_of_ble_eq_true rfl) rfl (Nat.le_of_ble_eq_true rfl) rfl ⟨Nat.le_refl _, Nat.le_refl _⟩ rfl ?_
                  refine j_iinc hX (v := nI (a + 1)) (ls' := [some (.ref (ad 11)), some (.int (nI u)), some (.int (bcF (atF 210 (M 14) (nI u)))), some (.int (shareF M u)), some (.int (nI (a + 1)))]) dX8_setShares_118 rfl (j_inc1 _) rfl rfl ?_
                  refine j_goto hX (tgt := 73) dX8_setShares_121 (by decide) ?_
                  refine jW.world (ws' := (wC G ad V (sM M 19 (shU M u (shA M (shZ (M 19) 7) u) (a + 1))) en wo)) (by rw [show shU M u (shA M (shZ (M 19) 7) u) (a + 1) = setF 7 (shU M u (shA M (shZ (M 19) 7) u) a) (nI a) (if (shareF M u) < (atF 7 (shU M u (shA M (shZ (M 19) 7) u) a) (nI a)) then (atF 7 (shU M u (shA M (shZ (M 19) 7) u) a) (nI a)) else (shareF M u)) from (if_neg h93)]) ?_
                  exact iha (a + 1) (by omega) (by omega)
            refine jW.world (ws' := (wC G ad V (sM M 19 (shU M u (shA M (shZ (M 19) 7) u) 0)) en wo)) rfl ?_
            exact L73 7 0 (Nat.le_refl _) (by omega)
      refine jW.world (ws' := (wC G ad V (sM M 19 (shA M (shZ (M 19) 7) 0)) en wo)) (by rw [hin]; rfl) ?_
      exact L25 u9 0 (Nat.le_refl _) (by omega)
    | succ zi ih =>
      intro i h0 hi
      have hin : i < 7 := by omega
      refine j_iload_n hX dX8_setShares_2 rfl ?_
      refine j_bipush hX (v := 7) (by decide) dX8_setShares_3 ?_
      refine j_icmp_ge_f hX (tgt := 23) dX8_setShares_5 (by decide) (nI_ge (a := i) (b := 7) (by omega) (by decide)) ?_
      refine j_aload_n hX dX8_setShares_8 rfl ?_
      refine j_getf hX (v := .ref (ad 19)) dX8_setShares_9 fX8_setShares_25 11 (wCg11 _ _ _ _ _ _) rfl ?_
      refine j_iload_n hX dX8_setShares_12 rfl ?_
      refine j_iconst hX (v := 0) (by decide) dX8_setShares_13 ?_
      refine j_dSN hX (nA := 3) (As := [.ref (ad 19), .int (nI i), .int 0]) (st := []) (st' := []) dX8_setShares_14 (c_setAt G (q := 19) (wCg19 _ _ _ _ _ _) (by decide) (w1 := (wC G ad V (sM M 19 (setF 7 (shZ (M 19) i) (nI i) 0)) en wo)) (wCo19 _ _ _ _ _ _ _ _)) gX8_setShares_X11_setAt_n52 rfl (by decide +kernel) (host := "BasketOffers") (by decide +kernel) (by decide +kernel) (by decide +kernel) (by omega) (Nat.le_of_ble_eq_true rfl) rfl (Nat.le_of_ble_eq_true rfl) rfl ⟨Nat.le_refl _, Nat.le_refl _⟩ rfl ?_
      refine j_iinc hX (v := nI (i + 1)) (ls' := [some (.ref (ad 11)), some (.int (nI (i + 1))), none, none, none]) dX8_setShares_17 rfl (j_inc1 _) rfl rfl ?_
      refine j_goto hX (tgt := 2) dX8_setShares_20 (by decide) ?_
      exact ih (i + 1) (by omega) (by omega)
  refine jW.world (ws' := (wC G ad V (sM M 19 (shZ (M 19) 0)) en wo)) rfl ?_
  exact L2 7 0 (Nat.le_refl _) (by omega)

