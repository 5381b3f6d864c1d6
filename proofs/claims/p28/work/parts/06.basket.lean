theorem fX0_size_21 : jF wsX0_size RX0 21 2 3 false .int := ⟨(RX0, TX0, 5), tyX0, rfl, by decide, by decide +kernel, by decide +kernel, tyX0_ok, nmX0, rfl, by decide +kernel, fun h => by cases h⟩
theorem fX0_numberAt_9 : jF wsX0_numberAt RX0 9 2 0 true (.array .int) := ⟨(RX0, TX0, 5), tyX0, rfl, by decide, by decide +kernel, by decide +kernel, tyX0_ok, nmX0, rfl, by decide +kernel, by decide +kernel⟩
theorem fX0_priceAt_18 : jF wsX0_priceAt RX0 18 2 2 true (.array .int) := ⟨(RX0, TX0, 5), tyX0, rfl, by decide, by decide +kernel, by decide +kernel, tyX0_ok, nmX0, rfl, by decide +kernel, by decide +kernel⟩
theorem fX0_clear_21 : jF wsX0_clear RX0 21 2 3 false .int := ⟨(RX0, TX0, 5), tyX0, rfl, by decide, by decide +kernel, by decide +kernel, tyX0_ok, nmX0, rfl, by decide +kernel, fun h => by cases h⟩
theorem fX0_hasRoom_21 : jF wsX0_hasRoom RX0 21 2 3 false .int := ⟨(RX0, TX0, 5), tyX0, rfl, by decide, by decide +kernel, by decide +kernel, tyX0_ok, nmX0, rfl, by decide +kernel, fun h => by cases h⟩
theorem fX0_hasRoom_25 : jF wsX0_hasRoom RX0 25 2 4 false .int := ⟨(RX0, TX0, 5), tyX0, rfl, by decide, by decide +kernel, by decide +kernel, tyX0_ok, nmX0, rfl, by decide +kernel, fun h => by cases h⟩
theorem fX0_priceOf_21 : jF wsX0_priceOf RX0 21 2 3 false .int := ⟨(RX0, TX0, 5), tyX0, rfl, by decide, by decide +kernel, by decide +kernel, tyX0_ok, nmX0, rfl, by decide +kernel, fun h => by cases h⟩
theorem fX0_priceOf_18 : jF wsX0_priceOf RX0 18 2 2 true (.array .int) := ⟨(RX0, TX0, 5), tyX0, rfl, by decide, by decide +kernel, by decide +kernel, tyX0_ok, nmX0, rfl, by decide +kernel, by decide +kernel⟩
theorem fX0_mask_21 : jF wsX0_mask RX0 21 2 3 false .int := ⟨(RX0, TX0, 5), tyX0, rfl, by decide, by decide +kernel, by decide +kernel, tyX0_ok, nmX0, rfl, by decide +kernel, fun h => by cases h⟩
theorem fX0_countOf_21 : jF wsX0_countOf RX0 21 2 3 false .int := ⟨(RX0, TX0, 5), tyX0, rfl, by decide, by decide +kernel, by decide +kernel, tyX0_ok, nmX0, rfl, by decide +kernel, fun h => by cases h⟩
theorem fX0_countOf_15 : jF wsX0_countOf RX0 15 2 1 true (.array .int) := ⟨(RX0, TX0, 5), tyX0, rfl, by decide, by decide +kernel, by decide +kernel, tyX0_ok, nmX0, rfl, by decide +kernel, by decide +kernel⟩
theorem fX0_cheapestOf_21 : jF wsX0_cheapestOf RX0 21 2 3 false .int := ⟨(RX0, TX0, 5), tyX0, rfl, by decide, by decide +kernel, by decide +kernel, tyX0_ok, nmX0, rfl, by decide +kernel, fun h => by cases h⟩
theorem fX0_cheapestOf_18 : jF wsX0_cheapestOf RX0 18 2 2 true (.array .int) := ⟨(RX0, TX0, 5), tyX0, rfl, by decide, by decide +kernel, by decide +kernel, tyX0_ok, nmX0, rfl, by decide +kernel, by decide +kernel⟩
theorem fX0_positionOf_21 : jF wsX0_positionOf RX0 21 2 3 false .int := ⟨(RX0, TX0, 5), tyX0, rfl, by decide, by decide +kernel, by decide +kernel, tyX0_ok, nmX0, rfl, by decide +kernel, fun h => by cases h⟩
theorem fX0_positionOf_9 : jF wsX0_positionOf RX0 9 2 0 true (.array .int) := ⟨(RX0, TX0, 5), tyX0, rfl, by decide, by decide +kernel, by decide +kernel, tyX0_ok, nmX0, rfl, by decide +kernel, by decide +kernel⟩
theorem fX0_remove_21 : jF wsX0_remove RX0 21 2 3 false .int := ⟨(RX0, TX0, 5), tyX0, rfl, by decide, by decide +kernel, by decide +kernel, tyX0_ok, nmX0, rfl, by decide +kernel, fun h => by cases h⟩
theorem fX0_remove_9 : jF wsX0_remove RX0 9 2 0 true (.array .int) := ⟨(RX0, TX0, 5), tyX0, rfl, by decide, by decide +kernel, by decide +kernel, tyX0_ok, nmX0, rfl, by decide +kernel, by decide +kernel⟩
theorem fX0_remove_15 : jF wsX0_remove RX0 15 2 1 true (.array .int) := ⟨(RX0, TX0, 5), tyX0, rfl, by decide, by decide +kernel, by decide +kernel, tyX0_ok, nmX0, rfl, by decide +kernel, by decide +kernel⟩
theorem fX0_remove_18 : jF wsX0_remove RX0 18 2 2 true (.array .int) := ⟨(RX0, TX0, 5), tyX0, rfl, by decide, by decide +kernel, by decide +kernel, tyX0_ok, nmX0, rfl, by decide +kernel, by decide +kernel⟩
theorem fX0_append_25 : jF wsX0_append RX0 25 2 4 false .int := ⟨(RX0, TX0, 5), tyX0, rfl, by decide, by decide +kernel, by decide +kernel, tyX0_ok, nmX0, rfl, by decide +kernel, fun h => by cases h⟩
theorem fX0_append_9 : jF wsX0_append RX0 9 2 0 true (.array .int) := ⟨(RX0, TX0, 5), tyX0, rfl, by decide, by decide +kernel, by decide +kernel, tyX0_ok, nmX0, rfl, by decide +kernel, by decide +kernel⟩
theorem fX0_append_21 : jF wsX0_append RX0 21 2 3 false .int := ⟨(RX0, TX0, 5), tyX0, rfl, by decide, by decide +kernel, by decide +kernel, tyX0_ok, nmX0, rfl, by decide +kernel, fun h => by cases h⟩
theorem fX0_append_15 : jF wsX0_append RX0 15 2 1 true (.array .int) := ⟨(RX0, TX0, 5), tyX0, rfl, by decide, by decide +kernel, by decide +kernel, tyX0_ok, nmX0, rfl, by decide +kernel, by decide +kernel⟩
theorem fX0_append_18 : jF wsX0_append RX0 18 2 2 true (.array .int) := ⟨(RX0, TX0, 5), tyX0, rfl, by decide, by decide +kernel, by decide +kernel, tyX0_ok, nmX0, rfl, by decide +kernel, by decide +kernel⟩
def itr {α : Type} (f : Nat → α → α) : Nat → α → α
  | 0, a => a
  | i + 1, a => f i (itr f i a)
set_option maxHeartbeats 4000000 in
set_option maxRecDepth 100000 in
theorem c_X0_size (G : jG) (ad : Nat → Nat) (V : Nat → Int32) (M : Nat → Nat → Int32) (en : Nat → Option Nat) (wo : va_W) : jD G 0 yX0_size wsX0_size [.ref (ad 1)] (wC G ad V M en wo) (some (.int (V 2))) (wC G ad V M en wo) := by
  refine jC.of (maxL := 1) (cc := cX0_size) (ret := (some .int)) rfl (by decide) [some (.ref (ad 1))] rfl (Nat.le_of_ble_eq_true rfl) (j_args rfl) (fun X hX => ?_)
  refine j_aload_n hX dX0_size_0 rfl ?_
  refine j_getf hX (v := .int (V 2)) dX0_size_1 fX0_size_21 1 (wCg1 _ _ _ _ _ _) rfl ?_
  exact j_iret hX dX0_size_4 ⟨rfl, rfl⟩

set_option maxHeartbeats 4000000 in
set_option maxRecDepth 100000 in
theorem c_X0_numberAt (G : jG) (ad : Nat → Nat) (V : Nat → Int32) (M : Nat → Nat → Int32) (en : Nat → Option Nat) (wo : va_W) (p : Int32) : jD G 1 yX0_numberAt wsX0_numberAt [.ref (ad 1), .int p] (wC G ad V M en wo) (some (.int (atF 7 (M 2) p))) (wC G ad V M en wo) := by
  refine jC.of (maxL := 2) (cc := cX0_numberAt) (ret := (some .int)) rfl (by decide) [some (.ref (ad 1)), some (.int p)] rfl (Nat.le_of_ble_eq_true rfl) (j_args rfl) (fun X hX => ?_)
  refine j_aload_n hX dX0_numberAt_0 rfl ?_
  refine j_getf hX (v := .ref (ad 2)) dX0_numberAt_1 fX0_numberAt_9 1 (wCg1 _ _ _ _ _ _) rfl ?_
  refine j_iload_n hX dX0_numberAt_4 rfl ?_
  refine j_dSN hX (nA := 2) (As := [.ref (ad 2), .int p]) (st := []) (st' := [.int (atF 7 (M 2) p)]) dX0_numberAt_5 (c_at G (q := 2) (wCg2 _ _ _ _ _ _) (by decide)) gX0_numberAt_X11_at_n32 rfl (by decide +kernel) (host := "BasketOffers") (by decide +kernel) (by decide +kernel) (by decide +kernel) (by omega) (Nat.le_of_ble_eq_true rfl) rfl (Nat.le_of_ble_eq_true rfl) rfl ⟨Nat.le_refl _, Nat.le_refl _⟩ rfl ?_
  exact j_iret hX dX0_numberAt_8 ⟨rfl, rfl⟩

set_option maxHeartbeats 4000000 in
set_option maxRecDepth 100000 in
theorem c_X0_priceAt (G : jG) (ad : Nat → Nat) (V : Nat → Int32) (M : Nat → Nat → Int32) (en : Nat → Option Nat) (wo : va_W) (p : Int32) : jD G 1 yX0_priceAt wsX0_priceAt [.ref (ad 1), .int p] (wC G ad V M en wo) (some (.int (atF 7 (M 4) p))) (wC G ad V M en wo) := by
  refine jC.of (maxL := 2) (cc := cX0_priceAt) (ret := (some .int)) rfl (by decide) [some (.ref (ad 1)), some (.int p)] rfl (Nat.le_of_ble_eq_true rfl) (j_args rfl) (fun X hX => ?_)
  refine j_aload_n hX dX0_priceAt_0 rfl ?_
  refine j_getf hX (v := .ref (ad 4)) dX0_priceAt_1 fX0_priceAt_18 1 (wCg1 _ _ _ _ _ _) rfl ?_
  refine j_iload_n hX dX0_priceAt_4 rfl ?_
  refine j_dSN hX (nA := 2) (As := [.ref (ad 4), .int p]) (st := []) (st' := [.int (atF 7 (M 4) p)]) dX0_priceAt_5 (c_at G (q := 4) (wCg4 _ _ _ _ _ _) (by decide)) gX0_priceAt_X11_at_n32 rfl (by decide +kernel) (host := "BasketOffers") (by decide +kernel) (by decide +kernel) (by decide +kernel) (by omega) (Nat.le_of_ble_eq_true rfl) rfl (Nat.le_of_ble_eq_true rfl) rfl ⟨Nat.le_refl _, Nat.le_refl _⟩ rfl ?_
  exact j_iret hX dX0_priceAt_8 ⟨rfl, rfl⟩

set_option maxHeartbeats 4000000 in
set_option maxRecDepth 100000 in
theorem c_X0_clear (G : jG) (ad : Nat → Nat) (V : Nat → Int32) (M : Nat → Nat → Int32) (en : Nat → Option Nat) (wo : va_W) : jD G 0 yX0_clear wsX0_clear [.ref (ad 1)] (wC G ad V M en wo) none (wC G ad (sV V 2 0) M en wo) := by
  refine jC.of (maxL := 1) (cc := cX0_clear) (ret := none) rfl (by decide) [some (.ref (ad 1))] rfl (Nat.le_of_ble_eq_true rfl) (j_args rfl) (fun X hX => ?_)
  refine j_aload_n hX dX0_clear_0 rfl ?_
  refine j_iconst hX (v := 0) (by decide) dX0_clear_1 ?_
  refine j_putf hX (ws' := (wC G ad (sV V 2 0) M en wo)) dX0_clear_2 fX0_clear_21 1 (wCg1 _ _ _ _ _ _) (Nat.le_of_ble_eq_true rfl) rfl rfl (wCp1_3 _ _ _ _ _ _ _) ?_
  exact j_vret hX dX0_clear_5 ⟨rfl, rfl⟩

def hasRoomV (a b : Int32) : Int32 := if 7 ≤ a then 0 else if 60 ≤ b then 0 else 1
set_option maxHeartbeats 4000000 in
set_option maxRecDepth 100000 in
theorem c_X0_hasRoom (G : jG) (ad : Nat → Nat) (V : Nat → Int32) (M : Nat → Nat → Int32) (en : Nat → Option Nat) (wo : va_W) : jD G 0 yX0_hasRoom wsX0_hasRoom [.ref (ad 1)] (wC G ad V M en wo) (some (.int (hasRoomV (V 2) (V 3)))) (wC G ad V M en wo) := by
  refine jC.of (maxL := 1) (cc := cX0_hasRoom) (ret := (some .boolean)) rfl (by decide) [some (.ref (ad 1))] rfl (Nat.le_of_ble_eq_true rfl) (j_args rfl) (fun X hX => ?_)
  refine j_aload_n hX dX0_hasRoom_0 rfl ?_
  refine j_getf hX (v := .int (V 2)) dX0_hasRoom_1 fX0_hasRoom_21 1 (wCg1 _ _ _ _ _ _) rfl ?_
  refine j_bipush hX (v := 7) (by decide) dX0_hasRoom_4 ?_
  refine j_icmp_ge hX (tgt := 22) dX0_hasRoom_6 (by decide) (fun h6 => ?_) (fun h6 => ?_)
  · refine j_iconst hX (v := 0) (by decide) dX0_hasRoom_22 ?_
    exact j_zret hX (by decide) dX0_hasRoom_23 ⟨(congrArg (fun z => some (Value.int z)) (if_pos h6)).symm, rfl⟩
  · refine j_aload_n hX dX0_hasRoom_9 rfl ?_
    refine j_getf hX (v := .int (V 3)) dX0_hasRoom_10 fX0_hasRoom_25 1 (wCg1 _ _ _ _ _ _) rfl ?_
    refine j_bipush hX (v := 60) (by decide) dX0_hasRoom_13 ?_
    refine j_icmp_ge hX (tgt := 22) dX0_hasRoom_15 (by decide) (fun h15 => ?_) (fun h15 => ?_)
    · refine j_iconst hX (v := 0) (by decide) dX0_hasRoom_22 ?_
      exact j_zret hX (by decide) dX0_hasRoom_23 ⟨(congrArg (fun z => some (Value.int z)) ((if_neg h6).trans (if_pos h15))).symm, rfl⟩
    · refine j_iconst hX (v := 1) (by decide) dX0_hasRoom_18 ?_
      refine j_goto hX (tgt := 23) dX0_hasRoom_19 (by decide) ?_
      exact j_zret hX (by decide) dX0_hasRoom_23 ⟨(congrArg (fun z => some (Value.int z)) ((if_neg h6).trans (if_neg h15))).symm, rfl⟩

def priceOfF (f : Nat → Int32) (mask : Int32) (n : Nat) : Int32 := itr (fun i a => if isInV mask (nI i) = 0 then a else a + atF 7 f (nI i)) n 0
set_option maxHeartbeats 4000000 in
set_option maxRecDepth 100000 in
theorem c_X0_priceOf (G : jG) (ad : Nat → Nat) (V : Nat → Int32) (M : Nat → Nat → Int32) (en : Nat → Option Nat) (wo : va_W) (mask : Int32) (n : Nat) (hsz : V 2 = nI n) (hn : n ≤ 7) : jD G 1 yX0_priceOf wsX0_priceOf [.ref (ad 1), .int mask] (wC G ad V M en wo) (some (.int (priceOfF (M 4) mask n))) (wC G ad V M en wo) := by
  refine jC.of (maxL := 4) (cc := cX0_priceOf) (ret := (some .int)) rfl (by decide) [some (.ref (ad 1)), some (.int mask), none, none] rfl (Nat.le_of_ble_eq_true rfl) (j_args rfl) (fun X hX => ?_)
  refine j_iconst hX (v := 0) (by decide) dX0_priceOf_0 ?_
  refine j_istore_n hX (ls' := [some (.ref (ad 1)), some (.int mask), some (.int 0), none]) dX0_priceOf_1 (Nat.le_of_ble_eq_true rfl) rfl rfl ?_
  refine j_iconst hX (v := 0) (by decide) dX0_priceOf_2 ?_
  refine j_istore_n hX (ls' := [some (.ref (ad 1)), some (.int mask), some (.int 0), some (.int 0)]) dX0_priceOf_3 (Nat.le_of_ble_eq_true rfl) rfl rfl ?_
  have L4 : ∀ zi i : Nat, 0 ≤ i → i + zi = n → jW G X 0 0 4 [some (.ref (ad 1)), some (.int mask), some (.int (priceOfF (M 4) mask i)), some (.int (nI i))] [] (wC G ad V M en wo) := by
    intro zi
    induction zi with
    | zero =>
      intro i h0 hi
      have hin : i = n := by omega
      refine j_iload_n hX dX0_priceOf_4 rfl ?_
      refine j_aload_n hX dX0_priceOf_5 rfl ?_
      refine j_getf hX (v := .int (V 2)) dX0_priceOf_6 fX0_priceOf_21 1 (wCg1 _ _ _ _ _ _) rfl ?_
      refine j_icmp_ge_t hX (tgt := 37) dX0_priceOf_9 (by decide) (by rw [hsz, hin]; exact nI_le (Nat.le_refl _) (by omega)) ?_
      refine j_iload_n hX dX0_priceOf_37 rfl ?_
      exact j_iret hX dX0_priceOf_38 ⟨by rw [hin], rfl⟩
    | succ zi ih =>
      intro i h0 hi
      have hin : i < n := by omega
      refine j_iload_n hX dX0_priceOf_4 rfl ?_
      refine j_aload_n hX dX0_priceOf_5 rfl ?_
      refine j_getf hX (v := .int (V 2)) dX0_priceOf_6 fX0_priceOf_21 1 (wCg1 _ _ _ _ _ _) rfl ?_
      refine j_icmp_ge_f hX (tgt := 37) dX0_priceOf_9 (by decide) (by rw [hsz]; exact nI_ge hin (by omega)) ?_
      refine j_iload_n hX dX0_priceOf_12 rfl ?_
      refine j_iload_n hX dX0_priceOf_13 rfl ?_
      refine j_dSN hX (nA := 2) (As := [.int mask, .int (nI i)]) (st := []) (st' := [.int (isInV mask (nI i))]) dX0_priceOf_14 (c_isIn G) gX0_priceOf_X11_isIn_n40 rfl (by decide +kernel) (host := "BasketOffers") (by decide +kernel) (by decide +kernel) (by decide +kernel) (by omega) (Nat.le_of_ble_eq_true rfl) rfl (Nat.le_of_ble_eq_true rfl) rfl ⟨Nat.le_refl _, Nat.le_refl _⟩ rfl ?_
      refine j_if_eq hX (tgt := 31) dX0_priceOf_17 (by decide) (fun h17 => ?_) (fun h17 => ?_)
      · refine j_iinc hX (v := nI (i + 1)) (ls' := [some (.ref (ad 1)), some (.int mask), some (.int (priceOfF (M 4) mask i)), some (.int (nI (i + 1)))]) dX0_priceOf_31 rfl (j_inc1 _) rfl rfl ?_
        refine j_goto hX (tgt := 4) dX0_priceOf_34 (by decide) ?_
        refine jW.locals (ls' := [some (.ref (ad 1)), some (.int mask), some (.int (priceOfF (M 4) mask (i + 1))), some (.int (nI (i + 1)))]) (by rw [show priceOfF (M 4) mask (i + 1) = priceOfF (M 4) mask i from (if_pos h17)]) ?_
        exact ih (i + 1) (by omega) (by omega)
      · refine j_iload_n hX dX0_priceOf_20 rfl ?_
        refine j_aload_n hX dX0_priceOf_21 rfl ?_
        refine j_getf hX (v := .ref (ad 4)) dX0_priceOf_22 fX0_priceOf_18 1 (wCg1 _ _ _ _ _ _) rfl ?_
        refine j_iload_n hX dX0_priceOf_25 rfl ?_
        refine j_dSN hX (nA := 2) (As := [.ref (ad 4), .int (nI i)]) (st := [.int (priceOfF (M 4) mask i)]) (st' := [.int (atF 7 (M 4) (nI i)), .int (priceOfF (M 4) mask i)]) dX0_priceOf_26 (c_at G (q := 4) (wCg4 _ _ _ _ _ _) (by decide)) gX0_priceOf_X11_at_n32 rfl (by decide +kernel) (host := "BasketOffers") (by decide +kernel) (by decide +kernel) (by decide +kernel) (by omega) (Nat.le_of_ble_eq_true rfl) rfl (Nat.le_of_ble_eq_true rfl) rfl ⟨Nat.le_refl _, Nat.le_refl _⟩ rfl ?_
        refine j_iadd hX dX0_priceOf_29 ?_
        refine j_istore_n hX (ls' := [some (.ref (ad 1)), some (.int mask), some (.int ((priceOfF (M 4) mask i) + (atF 7 (M 4) (nI i)))), some (.int (nI i))]) dX0_priceOf_30 (Nat.le_of_ble_eq_true rfl) rfl rfl ?_
        refine j_iinc hX (v := nI (i + 1)) (ls' := [some (.ref (ad 1)), some (.int mask), some (.int ((priceOfF (M 4) mask i) + (atF 7 (M 4) (nI i)))), some (.int (nI (i + 1)))]) dX0_priceOf_31 rfl (j_inc1 _) rfl rfl ?_
        refine j_goto hX (tgt := 4) dX0_priceOf_34 (by decide) ?_
        refine jW.locals (ls' := [some (.ref (ad 1)), some (.int mask), some (.int (priceOfF (M 4) mask (i + 1))), some (.int (nI (i + 1)))]) (by rw [show priceOfF (M 4) mask (i + 1) = (priceOfF (M 4) mask i) + (atF 7 (M 4) (nI i)) from (if_neg h17)]) ?_
        exact ih (i + 1) (by omega) (by omega)
  exact L4 n 0 (Nat.le_refl _) (by omega)

def maskF (n : Nat) : Int32 := itr (fun i a => a ||| bitF (nI i)) n 0
set_option maxHeartbeats 4000000 in
set_option maxRecDepth 100000 in
theorem c_X0_mask (G : jG) (ad : Nat → Nat) (V : Nat → Int32) (M : Nat → Nat → Int32) (en : Nat → Option Nat) (wo : va_W) (n : Nat) (hsz : V 2 = nI n) (hn : n ≤ 7) : jD G 1 yX0_mask wsX0_mask [.ref (ad 1)] (wC G ad V M en wo) (some (.int (maskF n))) (wC G ad V M en wo) := by
  refine jC.of (maxL := 3) (cc := cX0_mask) (ret := (some .int)) rfl (by decide) [some (.ref (ad 1)), none, none] rfl (Nat.le_of_ble_eq_true rfl) (j_args rfl) (fun X hX => ?_)
  refine j_iconst hX (v := 0) (by decide) dX0_mask_0 ?_
  refine j_istore_n hX (ls' := [some (.ref (ad 1)), some (.int 0), none]) dX0_mask_1 (Nat.le_of_ble_eq_true rfl) rfl rfl ?_
  refine j_iconst hX (v := 0) (by decide) dX0_mask_2 ?_
  refine j_istore_n hX (ls' := [some (.ref (ad 1)), some (.int 0), some (.int 0)]) dX0_mask_3 (Nat.le_of_ble_eq_true rfl) rfl rfl ?_
  have L4 : ∀ zi i : Nat, 0 ≤ i → i + zi = n → jW G X 0 0 4 [some (.ref (ad 1)), some (.int (maskF i)), some (.int (nI i))] [] (wC G ad V M en wo) := by
    intro zi
    induction zi with
    | zero =>
      intro i h0 hi
      have hin : i = n := by omega
      refine j_iload_n hX dX0_mask_4 rfl ?_
      refine j_aload_n hX dX0_mask_5 rfl ?_
      refine j_getf hX (v := .int (V 2)) dX0_mask_6 fX0_mask_21 1 (wCg1 _ _ _ _ _ _) rfl ?_
      refine j_icmp_ge_t hX (tgt := 25) dX0_mask_9 (by decide) (by rw [hsz, hin]; exact nI_le (Nat.le_refl _) (by omega)) ?_
      refine j_iload_n hX dX0_mask_25 rfl ?_
      exact j_iret hX dX0_mask_26 ⟨by rw [hin], rfl⟩
    | succ zi ih =>
      intro i h0 hi
      have hin : i < n := by omega
      refine j_iload_n hX dX0_mask_4 rfl ?_
      refine j_aload_n hX dX0_mask_5 rfl ?_
      refine j_getf hX (v := .int (V 2)) dX0_mask_6 fX0_mask_21 1 (wCg1 _ _ _ _ _ _) rfl ?_
      refine j_icmp_ge_f hX (tgt := 25) dX0_mask_9 (by decide) (by rw [hsz]; exact nI_ge hin (by omega)) ?_
      refine j_iload_n hX dX0_mask_12 rfl ?_
      refine j_iload_n hX dX0_mask_13 rfl ?_
      refine j_dSN hX (nA := 1) (As := [.int (nI i)]) (st := [.int (maskF i)]) (st' := [.int (bitF (nI i)), .int (maskF i)]) dX0_mask_14 (c_bitOf G) gX0_mask_X11_bitOf_n36 rfl (by decide +kernel) (host := "BasketOffers") (by decide +kernel) (by decide +kernel) (by decide +kernel) (by omega) (Nat.le_of_ble_eq_true rfl) rfl (Nat.le_of_ble_eq_true rfl) rfl ⟨Nat.le_refl _, Nat.le_refl _⟩ rfl ?_
      refine j_ior hX dX0_mask_17 ?_
      refine j_istore_n hX (ls' := [some (.ref (ad 1)), some (.int ((maskF i) ||| (bitF (nI i)))), some (.int (nI i))]) dX0_mask_18 (Nat.le_of_ble_eq_true rfl) rfl rfl ?_
      refine j_iinc hX (v := nI (i + 1)) (ls' := [some (.ref (ad 1)), some (.int ((maskF i) ||| (bitF (nI i)))), some (.int (nI (i + 1)))]) dX0_mask_19 rfl (j_inc1 _) rfl rfl ?_
      refine j_goto hX (tgt := 4) dX0_mask_22 (by decide) ?_
      exact ih (i + 1) (by omega) (by omega)
  exact L4 n 0 (Nat.le_refl _) (by omega)

def countOfF (f : Nat → Int32) (mask kind : Int32) (n : Nat) : Int32 := itr (fun i a => if isInV mask (nI i) = 0 then a else if atF 7 f (nI i) = kind then a + Int32.ofInt 1 else a) n 0
set_option maxHeartbeats 4000000 in
set_option maxRecDepth 100000 in
theorem c_X0_countOf (G : jG) (ad : Nat → Nat) (V : Nat → Int32) (M : Nat → Nat → Int32) (en : Nat → Option Nat) (wo : va_W) (mask kind : Int32) (n : Nat) (hsz : V 2 = nI n) (hn : n ≤ 7) : jD G 1 yX0_countOf wsX0_countOf [.ref (ad 1), .int mask, .int kind] (wC G ad V M en wo) (some (.int (countOfF (M 3) mask kind n))) (wC G ad V M en wo) := by
  refine jC.of (maxL := 5) (cc := cX0_countOf) (ret := (some .int)) rfl (by decide) [some (.ref (ad 1)), some (.int mask), some (.int kind), none, none] rfl (Nat.le_of_ble_eq_true rfl) (j_args rfl) (fun X hX => ?_)
  refine j_iconst hX (v := 0) (by decide) dX0_countOf_0 ?_
  refine j_istore_n hX (ls' := [some (.ref (ad 1)), some (.int mask), some (.int kind), some (.int 0), none]) dX0_countOf_1 (Nat.le_of_ble_eq_true rfl) rfl rfl ?_
  refine j_iconst hX (v := 0) (by decide) dX0_countOf_2 ?_
  refine j_istore hX (ls' := [some (.ref (ad 1)), some (.int mask), some (.int kind), some (.int 0), some (.int 0)]) dX0_countOf_3 (Nat.le_of_ble_eq_true rfl) rfl rfl ?_
  have L5 : ∀ zi i : Nat, 0 ≤ i → i + zi = n → jW G X 0 0 5 [some (.ref (ad 1)), some (.int mask), some (.int kind), some (.int (countOfF (M 3) mask kind i)), some (.int (nI i))] [] (wC G ad V M en wo) := by
    intro zi
    induction zi with
    | zero =>
      intro i h0 hi
      have hin : i = n := by omega
      refine j_iload hX dX0_countOf_5 rfl ?_
      refine j_aload_n hX dX0_countOf_7 rfl ?_
      refine j_getf hX (v := .int (V 2)) dX0_countOf_8 fX0_countOf_21 1 (wCg1 _ _ _ _ _ _) rfl ?_
      refine j_icmp_ge_t hX (tgt := 45) dX0_countOf_11 (by decide) (by rw [hsz, hin]; exact nI_le (Nat.le_refl _) (by omega)) ?_
      refine j_iload_n hX dX0_countOf_45 rfl ?_
      exact j_iret hX dX0_countOf_46 ⟨by rw [hin], rfl⟩
    | succ zi ih =>
      intro i h0 hi
      have hin : i < n := by omega
      refine j_iload hX dX0_countOf_5 rfl ?_
      refine j_aload_n hX dX0_countOf_7 rfl ?_
      refine j_getf hX (v := .int (V 2)) dX0_countOf_8 fX0_countOf_21 1 (wCg1 _ _ _ _ _ _) rfl ?_
      refine j_icmp_ge_f hX (tgt := 45) dX0_countOf_11 (by decide) (by rw [hsz]; exact nI_ge hin (by omega)) ?_
      refine j_iload_n hX dX0_countOf_14 rfl ?_
      refine j_iload hX dX0_countOf_15 rfl ?_
      refine j_dSN hX (nA := 2) (As := [.int mask, .int (nI i)]) (st := []) (st' := [.int (isInV mask (nI i))]) dX0_countOf_17 (c_isIn G) gX0_countOf_X11_isIn_n40 rfl (by decide +kernel) (host := "BasketOffers") (by decide +kernel) (by decide +kernel) (by decide +kernel) (by omega) (Nat.le_of_ble_eq_true rfl) rfl (Nat.le_of_ble_eq_true rfl) rfl ⟨Nat.le_refl _, Nat.le_refl _⟩ rfl ?_
      refine j_if_eq hX (tgt := 39) dX0_countOf_20 (by decide) (fun h20 => ?_) (fun h20 => ?_)
      · refine j_iinc hX (v := nI (i + 1)) (ls' := [some (.ref (ad 1)), some (.int mask), some (.int kind), some (.int (countOfF (M 3) mask kind i)), some (.int (nI (i + 1)))]) dX0_countOf_39 rfl (j_inc1 _) rfl rfl ?_
        refine j_goto hX (tgt := 5) dX0_countOf_42 (by decide) ?_
        refine jW.locals (ls' := [some (.ref (ad 1)), some (.int mask), some (.int kind), some (.int (countOfF (M 3) mask kind (i + 1))), some (.int (nI (i + 1)))]) (by rw [show countOfF (M 3) mask kind (i + 1) = countOfF (M 3) mask kind i from (if_pos h20)]) ?_
        exact ih (i + 1) (by omega) (by omega)
      · refine j_aload_n hX dX0_countOf_23 rfl ?_
        refine j_getf hX (v := .ref (ad 3)) dX0_countOf_24 fX0_countOf_15 1 (wCg1 _ _ _ _ _ _) rfl ?_
        refine j_iload hX dX0_countOf_27 rfl ?_
        refine j_dSN hX (nA := 2) (As := [.ref (ad 3), .int (nI i)]) (st := []) (st' := [.int (atF 7 (M 3) (nI i))]) dX0_countOf_29 (c_at G (q := 3) (wCg3 _ _ _ _ _ _) (by decide)) gX0_countOf_X11_at_n32 rfl (by decide +kernel) (host := "BasketOffers") (by decide +kernel) (by decide +kernel) (by decide +kernel) (by omega) (Nat.le_of_ble_eq_true rfl) rfl (Nat.le_of_ble_eq_true rfl) rfl ⟨Nat.le_refl _, Nat.le_refl _⟩ rfl ?_
        refine j_iload_n hX dX0_countOf_32 rfl ?_
        refine j_icmp_ne hX (tgt := 39) dX0_countOf_33 (by decide) (fun h33 => ?_) (fun h33 => ?_)
        · refine j_iinc hX (v := nI (i + 1)) (ls' := [some (.ref (ad 1)), some (.int mask), some (.int kind), some (.int (countOfF (M 3) mask kind i)), some (.int (nI (i + 1)))]) dX0_countOf_39 rfl (j_inc1 _) rfl rfl ?_
          refine j_goto hX (tgt := 5) dX0_countOf_42 (by decide) ?_
          refine jW.locals (ls' := [some (.ref (ad 1)), some (.int mask), some (.int kind), some (.int (countOfF (M 3) mask kind (i + 1))), some (.int (nI (i + 1)))]) (by rw [show countOfF (M 3) mask kind (i + 1) = countOfF (M 3) mask kind i from ((if_neg h20).trans (if_neg h33))]) ?_
          exact ih (i + 1) (by omega) (by omega)
        · refine j_iinc hX (v := (countOfF (M 3) mask kind i) + Int32.ofInt 1) (ls' := [some (.ref (ad 1)), some (.int mask), some (.int kind), some (.int ((countOfF (M 3) mask kind i) + Int32.ofInt 1)), some (.int (nI i))]) dX0_countOf_36 rfl rfl rfl rfl ?_
          refine j_iinc hX (v := nI (i + 1)) (ls' := [some (.ref (ad 1)), some (.int mask), some (.int kind), some (.int ((countOfF (M 3) mask kind i) + Int32.ofInt 1)), some (.int (nI (i + 1)))]) dX0_countOf_39 rfl (j_inc1 _) rfl rfl ?_
          refine j_goto hX (tgt := 5) dX0_countOf_42 (by decide) ?_
          refine jW.locals (ls' := [some (.ref (ad 1)), some (.int mask), some (.int kind), some (.int (countOfF (M 3) mask kind (i + 1))), some (.int (nI (i + 1)))]) (by rw [show countOfF (M 3) mask kind (i + 1) = (countOfF (M 3) mask kind i) + Int32.ofInt 1 from ((if_neg h20).trans (if_pos h33))]) ?_
          exact ih (i + 1) (by omega) (by omega)
  exact L5 n 0 (Nat.le_refl _) (by omega)

def cheapF (f : Nat → Int32) (mask : Int32) (n : Nat) : Int32 := itr (fun i a => if isInV mask (nI i) = 0 then a else (if atF 7 f (nI i) < a then atF 7 f (nI i) else a)) n 9999
set_option maxHeartbeats 4000000 in
set_option maxRecDepth 100000 in
theorem c_X0_cheapestOf (G : jG) (ad : Nat → Nat) (V : Nat → Int32) (M : Nat → Nat → Int32) (en : Nat → Option Nat) (wo : va_W) (mask : Int32) (n : Nat) (hsz : V 2 = nI n) (hn : n ≤ 7) : jD G 1 yX0_cheapestOf wsX0_cheapestOf [.ref (ad 1), .int mask] (wC G ad V M en wo) (some (.int (cheapF (M 4) mask n))) (wC G ad V M en wo) := by
  refine jC.of (maxL := 4) (cc := cX0_cheapestOf) (ret := (some .int)) rfl (by decide) [some (.ref (ad 1)), some (.int mask), none, none] rfl (Nat.le_of_ble_eq_true rfl) (j_args rfl) (fun X hX => ?_)
  refine j_sipush hX (v := 9999) (by decide) dX0_cheapestOf_0 ?_
  refine j_istore_n hX (ls' := [some (.ref (ad 1)), some (.int mask), some (.int 9999), none]) dX0_cheapestOf_3 (Nat.le_of_ble_eq_true rfl) rfl rfl ?_
  refine j_iconst hX (v := 0) (by decide) dX0_cheapestOf_4 ?_
  refine j_istore_n hX (ls' := [some (.ref (ad 1)), some (.int mask), some (.int 9999), some (.int 0)]) dX0_cheapestOf_5 (Nat.le_of_ble_eq_true rfl) rfl rfl ?_
  have L6 : ∀ zi i : Nat, 0 ≤ i → i + zi = n → jW G X 0 0 6 [some (.ref (ad 1)), some (.int mask), some (.int (cheapF (M 4) mask i)), some (.int (nI i))] [] (wC G ad V M en wo) := by
    intro zi
    induction zi with
    | zero =>
      intro i h0 hi
      have hin : i = n := by omega
      refine j_iload_n hX dX0_cheapestOf_6 rfl ?_
      refine j_aload_n hX dX0_cheapestOf_7 rfl ?_
      refine j_getf hX (v := .int (V 2)) dX0_cheapestOf_8 fX0_cheapestOf_21 1 (wCg1 _ _ _ _ _ _) rfl ?_
      refine j_icmp_ge_t hX (tgt := 41) dX0_cheapestOf_11 (by decide) (by rw [hsz, hin]; exact nI_le (Nat.le_refl _) (by omega)) ?_
      refine j_iload_n hX dX0_cheapestOf_41 rfl ?_
      exact j_iret hX dX0_cheapestOf_42 ⟨by rw [hin], rfl⟩
    | succ zi ih =>
      intro i h0 hi
      have hin : i < n := by omega
      refine j_iload_n hX dX0_cheapestOf_6 rfl ?_
      refine j_aload_n hX dX0_cheapestOf_7 rfl ?_
      refine j_getf hX (v := .int (V 2)) dX0_cheapestOf_8 fX0_cheapestOf_21 1 (wCg1 _ _ _ _ _ _) rfl ?_
      refine j_icmp_ge_f hX (tgt := 41) dX0_cheapestOf_11 (by decide) (by rw [hsz]; exact nI_ge hin (by omega)) ?_
      refine j_iload_n hX dX0_cheapestOf_14 rfl ?_
      refine j_iload_n hX dX0_cheapestOf_15 rfl ?_
      refine j_dSN hX (nA := 2) (As := [.int mask, .int (nI i)]) (st := []) (st' := [.int (isInV mask (nI i))]) dX0_cheapestOf_16 (c_isIn G) gX0_cheapestOf_X11_isIn_n40 rfl (by decide +kernel) (host := "BasketOffers") (by decide +kernel) (by decide +kernel) (by decide +kernel) (by omega) (Nat.le_of_ble_eq_true rfl) rfl (Nat.le_of_ble_eq_true rfl) rfl ⟨Nat.le_refl _, Nat.le_refl _⟩ rfl ?_
      refine j_if_eq hX (tgt := 35) dX0_cheapestOf_19 (by decide) (fun h19 => ?_) (fun h19 => ?_)
      · refine j_iinc hX (v := nI (i + 1)) (ls' := [some (.ref (ad 1)), some (.int mask), some (.int (cheapF (M 4) mask i)), some (.int (nI (i + 1)))]) dX0_cheapestOf_35 rfl (j_inc1 _) rfl rfl ?_
        refine j_goto hX (tgt := 6) dX0_cheapestOf_38 (by decide) ?_
        refine jW.locals (ls' := [some (.ref (ad 1)), some (.int mask), some (.int (cheapF (M 4) mask (i + 1))), some (.int (nI (i + 1)))]) (by rw [show cheapF (M 4) mask (i + 1) = cheapF (M 4) mask i from (if_pos h19)]) ?_
        exact ih (i + 1) (by omega) (by omega)
      · refine j_iload_n hX dX0_cheapestOf_22 rfl ?_
        refine j_aload_n hX dX0_cheapestOf_23 rfl ?_
        refine j_getf hX (v := .ref (ad 4)) dX0_cheapestOf_24 fX0_cheapestOf_18 1 (wCg1 _ _ _ _ _ _) rfl ?_
        refine j_iload_n hX dX0_cheapestOf_27 rfl ?_
        refine j_dSN hX (nA := 2) (As := [.ref (ad 4), .int (nI i)]) (st := [.int (cheapF (M 4) mask i)]) (st' := [.int (atF 7 (M 4) (nI i)), .int (cheapF (M 4) mask i)]) dX0_cheapestOf_28 (c_at G (q := 4) (wCg4 _ _ _ _ _ _) (by decide)) gX0_cheapestOf_X11_at_n32 rfl (by decide +kernel) (host := "BasketOffers") (by decide +kernel) (by decide +kernel) (by decide +kernel) (by omega) (Nat.le_of_ble_eq_true rfl) rfl (Nat.le_of_ble_eq_true rfl) rfl ⟨Nat.le_refl _, Nat.le_refl _⟩ rfl ?_
        refine j_mmin hX dX0_cheapestOf_31 (by decide +kernel) (by decide +kernel) (by decide +kernel) (by decide +kernel) (by omega) rfl (Nat.le_of_ble_eq_true rfl) ⟨Nat.le_refl _, Nat.le_refl _⟩ ?_
        refine j_istore_n hX (ls' := [some (.ref (ad 1)), some (.int mask), some (.int (if (atF 7 (M 4) (nI i)) < (cheapF (M 4) mask i) then (atF 7 (M 4) (nI i)) else (cheapF (M 4) mask i))), some (.int (nI i))]) dX0_cheapestOf_34 (Nat.le_of_ble_eq_true rfl) rfl rfl ?_
        refine j_iinc hX (v := nI (i + 1)) (ls' := [some (.ref (ad 1)), some (.int mask), some (.int (if (atF 7 (M 4) (nI i)) < (cheapF (M 4) mask i) then (atF 7 (M 4) (nI i)) else (cheapF (M 4) mask i))), some (.int (nI (i + 1)))]) dX0_cheapestOf_35 rfl (j_inc1 _) rfl rfl ?_
        refine j_goto hX (tgt := 6) dX0_cheapestOf_38 (by decide) ?_
        refine jW.locals (ls' := [some (.ref (ad 1)), some (.int mask), some (.int (cheapF (M 4) mask (i + 1))), some (.int (nI (i + 1)))]) (by rw [show cheapF (M 4) mask (i + 1) = if (atF 7 (M 4) (nI i)) < (cheapF (M 4) mask i) then (atF 7 (M 4) (nI i)) else (cheapF (M 4) mask i) from (if_neg h19)]) ?_
        exact ih (i + 1) (by omega) (by omega)
  exact L6 n 0 (Nat.le_refl _) (by omega)

def posF (f : Nat → Int32) (x : Int32) : Nat → Nat → Int32
  | _, 0 => -1
  | i, k + 1 => if atF 7 f (nI i) = x then nI i else posF f x (i + 1) k
set_option maxHeartbeats 4000000 in
set_option maxRecDepth 100000 in
theorem c_X0_positionOf (G : jG) (ad : Nat → Nat) (V : Nat → Int32) (M : Nat → Nat → Int32) (en : Nat → Option Nat) (wo : va_W) (x : Int32) (n : Nat) (hsz : V 2 = nI n) (hn : n ≤ 7) : jD G 1 yX0_positionOf wsX0_positionOf [.ref (ad 1), .int x] (wC G ad V M en wo) (some (.int (posF (M 2) x 0 n))) (wC G ad V M en wo) := by
  refine jC.of (maxL := 3) (cc := cX0_positionOf) (ret := (some .int)) rfl (by decide) [some (.ref (ad 1)), some (.int x), none] rfl (Nat.le_of_ble_eq_true rfl) (j_args rfl) (fun X hX => ?_)
  refine j_iconst hX (v := 0) (by decide) dX0_positionOf_0 ?_
  refine j_istore_n hX (ls' := [some (.ref (ad 1)), some (.int x), some (.int 0)]) dX0_positionOf_1 (Nat.le_of_ble_eq_true rfl) rfl rfl ?_
  have L2 : ∀ zi i : Nat, 0 ≤ i → i + zi = n → posF (M 2) x i zi = posF (M 2) x 0 n → jW G X 0 0 2 [some (.ref (ad 1)), some (.int x), some (.int (nI i))] [] (wC G ad V M en wo) := by
    intro zi
    induction zi with
    | zero =>
      intro i h0 hi hc
      have hin : i = n := by omega
      refine j_iload_n hX dX0_positionOf_2 rfl ?_
      refine j_aload_n hX dX0_positionOf_3 rfl ?_
      refine j_getf hX (v := .int (V 2)) dX0_positionOf_4 fX0_positionOf_21 1 (wCg1 _ _ _ _ _ _) rfl ?_
      refine j_icmp_ge_t hX (tgt := 30) dX0_positionOf_7 (by decide) (by rw [hsz, hin]; exact nI_le (Nat.le_refl _) (by omega)) ?_
      refine j_iconst hX (v := -1) (by decide) dX0_positionOf_30 ?_
      exact j_iret hX dX0_positionOf_31 ⟨congrArg (fun z => some (Value.int z)) ((rfl : posF (M 2) x i 0 = -1).symm.trans hc), rfl⟩
    | succ zi ih =>
      intro i h0 hi hc
      have hin : i < n := by omega
      refine j_iload_n hX dX0_positionOf_2 rfl ?_
      refine j_aload_n hX dX0_positionOf_3 rfl ?_
      refine j_getf hX (v := .int (V 2)) dX0_positionOf_4 fX0_positionOf_21 1 (wCg1 _ _ _ _ _ _) rfl ?_
      refine j_icmp_ge_f hX (tgt := 30) dX0_positionOf_7 (by decide) (by rw [hsz]; exact nI_ge hin (by omega)) ?_
      refine j_aload_n hX dX0_positionOf_10 rfl ?_
      refine j_getf hX (v := .ref (ad 2)) dX0_positionOf_11 fX0_positionOf_9 1 (wCg1 _ _ _ _ _ _) rfl ?_
      refine j_iload_n hX dX0_positionOf_14 rfl ?_
      refine j_dSN hX (nA := 2) (As := [.ref (ad 2), .int (nI i)]) (st := []) (st' := [.int (atF 7 (M 2) (nI i))]) dX0_positionOf_15 (c_at G (q := 2) (wCg2 _ _ _ _ _ _) (by decide)) gX0_positionOf_X11_at_n32 rfl (by decide +kernel) (host := "BasketOffers") (by decide +kernel) (by decide +kernel) (by decide +kernel) (by omega) (Nat.le_of_ble_eq_true rfl) rfl (Nat.le_of_ble_eq_true rfl) rfl ⟨Nat.le_refl _, Nat.le_refl _⟩ rfl ?_
      refine j_iload_n hX dX0_positionOf_18 rfl ?_
      refine j_icmp_ne hX (tgt := 24) dX0_positionOf_19 (by decide) (fun h19 => ?_) (fun h19 => ?_)
      · refine j_iinc hX (v := nI (i + 1)) (ls' := [some (.ref (ad 1)), some (.int x), some (.int (nI (i + 1)))]) dX0_positionOf_24 rfl (j_inc1 _) rfl rfl ?_
        refine j_goto hX (tgt := 2) dX0_positionOf_27 (by decide) ?_
        exact ih (i + 1) (by omega) (by omega) (((if_neg h19)).symm.trans hc)
      · refine j_iload_n hX dX0_positionOf_22 rfl ?_
        exact j_iret hX dX0_positionOf_23 ⟨congrArg (fun z => some (Value.int z)) (((if_pos h19) : posF (M 2) x i (zi + 1) = nI i).symm.trans hc), rfl⟩
  exact L2 n 0 (Nat.le_refl _) (by omega) rfl

def shiftF (f : Nat → Int32) (p : Nat) : Nat → (Nat → Int32)
  | 0 => f
  | k + 1 => setF 7 (shiftF f p k) (nI (p + 1 + k) - 1) (atF 7 (shiftF f p k) (nI (p + 1 + k)))
set_option maxHeartbeats 4000000 in
set_option maxRecDepth 100000 in
theorem c_X0_remove (G : jG) (ad : Nat → Nat) (V : Nat → Int32) (M : Nat → Nat → Int32) (en : Nat → Option Nat) (wo : va_W) (p : Nat) (n : Nat) (hp : p < n) (hsz : V 2 = nI n) (hn : n ≤ 7) : jD G 1 yX0_remove wsX0_remove [.ref (ad 1), .int (nI p)] (wC G ad V M en wo) none (wC G ad (sV V 2 (V 2 - 1)) (sM (sM (sM M 2 (shiftF (M 2) p (n - (p + 1)))) 3 (shiftF (M 3) p (n - (p + 1)))) 4 (shiftF (M 4) p (n - (p + 1)))) en wo) := by
  refine jC.of (maxL := 3) (cc := cX0_remove) (ret := none) rfl (by decide) [some (.ref (ad 1)), some (.int (nI p)), none] rfl (Nat.le_of_ble_eq_true rfl) (j_args rfl) (fun X hX => ?_)
  refine j_iload_n hX dX0_remove_0 rfl ?_
  refine j_iconst hX (v := 1) (by decide) dX0_remove_1 ?_
  refine j_iadd hX dX0_remove_2 ?_
  refine j_istore_n hX (ls' := [some (.ref (ad 1)), some (.int (nI p)), some (.int ((nI p) + 1))]) dX0_remove_3 (Nat.le_of_ble_eq_true rfl) rfl rfl ?_
  have L4 : ∀ zi i : Nat, 0 ≤ i → i + zi = (n - (p + 1)) → jW G X 0 0 4 [some (.ref (ad 1)), some (.int (nI p)), some (.int (nI (p + 1 + i)))] [] (wC G ad V (sM (sM (sM M 2 (shiftF (M 2) p i)) 3 (shiftF (M 3) p i)) 4 (shiftF (M 4) p i)) en wo) := by
    intro zi
    induction zi with
    | zero =>
      intro i h0 hi
      have hin : i = (n - (p + 1)) := by omega
      refine j_iload_n hX dX0_remove_4 rfl ?_
      refine j_aload_n hX dX0_remove_5 rfl ?_
      refine j_getf hX (v := .int (V 2)) dX0_remove_6 fX0_remove_21 1 (wCg1 _ _ _ _ _ _) rfl ?_
      refine j_icmp_ge_t hX (tgt := 72) dX0_remove_9 (by decide) (by rw [hsz]; exact nI_le (by omega) (by omega)) ?_
      refine j_aload_n hX dX0_remove_72 rfl ?_
      refine j_dup hX dX0_remove_73 rfl ?_
      refine j_getf hX (v := .int (V 2)) dX0_remove_74 fX0_remove_21 1 (wCg1 _ _ _ _ _ _) rfl ?_
      refine j_iconst hX (v := 1) (by decide) dX0_remove_77 ?_
      refine j_isub hX dX0_remove_78 ?_
      refine j_putf hX (ws' := (wC G ad (sV V 2 ((V 2) - 1)) (sM (sM (sM M 2 (shiftF (M 2) p i)) 3 (shiftF (M 3) p i)) 4 (shiftF (M 4) p i)) en wo)) dX0_remove_79 fX0_remove_21 1 (wCg1 _ _ _ _ _ _) (Nat.le_of_ble_eq_true rfl) rfl rfl (wCp1_3 _ _ _ _ _ _ _) ?_
      exact j_vret hX dX0_remove_82 ⟨rfl, by rw [hin]⟩
    | succ zi ih =>
      intro i h0 hi
      have hin : i < (n - (p + 1)) := by omega
      refine j_iload_n hX dX0_remove_4 rfl ?_
      refine j_aload_n hX dX0_remove_5 rfl ?_
      refine j_getf hX (v := .int (V 2)) dX0_remove_6 fX0_remove_21 1 (wCg1 _ _ _ _ _ _) rfl ?_
      refine j_icmp_ge_f hX (tgt := 72) dX0_remove_9 (by decide) (by rw [hsz]; exact nI_ge (by omega) (by omega)) ?_
      refine j_aload_n hX dX0_remove_12 rfl ?_
      refine j_getf hX (v := .ref (ad 2)) dX0_remove_13 fX0_remove_9 1 (wCg1 _ _ _ _ _ _) rfl ?_
      refine j_iload_n hX dX0_remove_16 rfl ?_
      refine j_iconst hX (v := 1) (by decide) dX0_remove_17 ?_
      refine j_isub hX dX0_remove_18 ?_
      refine j_aload_n hX dX0_remove_19 rfl ?_
      refine j_getf hX (v := .ref (ad 2)) dX0_remove_20 fX0_remove_9 1 (wCg1 _ _ _ _ _ _) rfl ?_
      refine j_iload_n hX dX0_remove_23 rfl ?_
      refine j_dSN hX (nA := 2) (As := [.ref (ad 2), .int (nI (p + 1 + i))]) (st := [.int ((nI (p + 1 + i)) - 1), .ref (ad 2)]) (st' := [.int (atF 7 (shiftF (M 2) p i) (nI (p + 1 + i))), .int ((nI (p + 1 + i)) - 1), .ref (ad 2)]) dX0_remove_24 (c_at G (q := 2) (wCg2 _ _ _ _ _ _) (by decide)) gX0_remove_X11_at_n32 rfl (by decide +kernel) (host := "BasketOffers") (by decide +kernel) (by decide +kernel) (by decide +kernel) (by omega) (Nat.le_of_ble_eq_true rfl) rfl (Nat.le_of_ble_eq_true rfl) rfl ⟨Nat.le_refl _, Nat.le_refl _⟩ rfl ?_
      refine j_dSN hX (nA := 3) (As := [.ref (ad 2), .int ((nI (p + 1 + i)) - 1), .int (atF 7 (shiftF (M 2) p i) (nI (p + 1 + i)))]) (st := []) (st' := []) dX0_remove_27 (c_setAt G (q := 2) (wCg2 _ _ _ _ _ _) (by decide) (w1 := (wC G ad V (sM (sM (sM M 2 (setF 7 (shiftF (M 2) p i) ((nI (p + 1 + i)) - 1) (atF 7 (shiftF (M 2) p i) (nI (p + 1 + i))))) 3 (shiftF (M 3) p i)) 4 (shiftF (M 4) p i)) en wo)) rfl) gX0_remove_X11_setAt_n28 rfl (by decide +kernel) (host := "BasketOffers") (by decide +kernel) (by decide +kernel) (by decide +kernel) (by omega) (Nat.le_of_ble_eq_true rfl) rfl (Nat.le_of_ble_eq_true rfl) rfl ⟨Nat.le_refl _, Nat.le_refl _⟩ rfl ?_
      refine j_aload_n hX dX0_remove_30 rfl ?_
      refine j_getf hX (v := .ref (ad 3)) dX0_remove_31 fX0_remove_15 1 (wCg1 _ _ _ _ _ _) rfl ?_
      refine j_iload_n hX dX0_remove_34 rfl ?_
      refine j_iconst hX (v := 1) (by decide) dX0_remove_35 ?_
      refine j_isub hX dX0_remove_36 ?_
      refine j_aload_n hX dX0_remove_37 rfl ?_
      refine j_getf hX (v := .ref (ad 3)) dX0_remove_38 fX0_remove_15 1 (wCg1 _ _ _ _ _ _) rfl ?_
      refine j_iload_n hX dX0_remove_41 rfl ?_
      refine j_dSN hX (nA := 2) (As := [.ref (ad 3), .int (nI (p + 1 + i))]) (st := [.int ((nI (p + 1 + i)) - 1), .ref (ad 3)]) (st' := [.int (atF 7 (shiftF (M 3) p i) (nI (p + 1 + i))), .int ((nI (p + 1 + i)) - 1), .ref (ad 3)]) dX0_remove_42 (c_at G (q := 3) (wCg3 _ _ _ _ _ _) (by decide)) gX0_remove_X11_at_n32 rfl (by decide +kernel) (host := "BasketOffers") (by decide +kernel) (by decide +kernel) (by decide +kernel) (by omega) (Nat.le_of_ble_eq_true rfl) rfl (Nat.le_of_ble_eq_true rfl) rfl ⟨Nat.le_refl _, Nat.le_refl _⟩ rfl ?_
      refine j_dSN hX (nA := 3) (As := [.ref (ad 3), .int ((nI (p + 1 + i)) - 1), .int (atF 7 (shiftF (M 3) p i) (nI (p + 1 + i)))]) (st := []) (st' := []) dX0_remove_45 (c_setAt G (q := 3) (wCg3 _ _ _ _ _ _) (by decide) (w1 := (wC G ad V (sM (sM (sM M 2 (setF 7 (shiftF (M 2) p i) ((nI (p + 1 + i)) - 1) (atF 7 (shiftF (M 2) p i) (nI (p + 1 + i))))) 3 (setF 7 (shiftF (M 3) p i) ((nI (p + 1 + i)) - 1) (atF 7 (shiftF (M 3) p i) (nI (p + 1 + i))))) 4 (shiftF (M 4) p i)) en wo)) rfl) gX0_remove_X11_setAt_n28 rfl (by decide +kernel) (host := "BasketOffers") (by decide +kernel) (by decide +kernel) (by decide +kernel) (by omega) (Nat.le_of_ble_eq_true rfl) rfl (Nat.le_of_ble_eq_true rfl) rfl ⟨Nat.le_refl _, Nat.le_refl _⟩ rfl ?_
      refine j_aload_n hX dX0_remove_48 rfl ?_
      refine j_getf hX (v := .ref (ad 4)) dX0_remove_49 fX0_remove_18 1 (wCg1 _ _ _ _ _ _) rfl ?_
      refine j_iload_n hX dX0_remove_52 rfl ?_
      refine j_iconst hX (v := 1) (by decide) dX0_remove_53 ?_
      refine j_isub hX dX0_remove_54 ?_
      refine j_aload_n hX dX0_remove_55 rfl ?_
      refine j_getf hX (v := .ref (ad 4)) dX0_remove_56 fX0_remove_18 1 (wCg1 _ _ _ _ _ _) rfl ?_
      refine j_iload_n hX dX0_remove_59 rfl ?_
      refine j_dSN hX (nA := 2) (As := [.ref (ad 4), .int (nI (p + 1 + i))]) (st := [.int ((nI (p + 1 + i)) - 1), .ref (ad 4)]) (st' := [.int (atF 7 (shiftF (M 4) p i) (nI (p + 1 + i))), .int ((nI (p + 1 + i)) - 1), .ref (ad 4)]) dX0_remove_60 (c_at G (q := 4) (wCg4 _ _ _ _ _ _) (by decide)) gX0_remove_X11_at_n32 rfl (by decide +kernel) (host := "BasketOffers") (by decide +kernel) (by decide +kernel) (by decide +kernel) (by omega) (Nat.le_of_ble_eq_true rfl) rfl (Nat.le_of_ble_eq_true rfl) rfl ⟨Nat.le_refl _, Nat.le_refl _⟩ rfl ?_
      refine j_dSN hX (nA := 3) (As := [.ref (ad 4), .int ((nI (p + 1 + i)) - 1), .int (atF 7 (shiftF (M 4) p i) (nI (p + 1 + i)))]) (st := []) (st' := []) dX0_remove_63 (c_setAt G (q := 4) (wCg4 _ _ _ _ _ _) (by decide) (w1 := (wC G ad V (sM (sM (sM M 2 (setF 7 (shiftF (M 2) p i) ((nI (p + 1 + i)) - 1) (atF 7 (shiftF (M 2) p i) (nI (p + 1 + i))))) 3 (setF 7 (shiftF (M 3) p i) ((nI (p + 1 + i)) - 1) (atF 7 (shiftF (M 3) p i) (nI (p + 1 + i))))) 4 (setF 7 (shiftF (M 4) p i) ((nI (p + 1 + i)) - 1) (atF 7 (shiftF (M 4) p i) (nI (p + 1 + i))))) en wo)) (wCo4 _ _ _ _ _ _ _ _)) gX0_remove_X11_setAt_n28 rfl (by decide +kernel) (host := "BasketOffers") (by decide +kernel) (by decide +kernel) (by decide +kernel) (by omega) (Nat.le_of_ble_eq_true rfl) rfl (Nat.le_of_ble_eq_true rfl) rfl ⟨Nat.le_refl _, Nat.le_refl _⟩ rfl ?_
      refine j_iinc hX (v := nI (p + 1 + i + 1)) (ls' := [some (.ref (ad 1)), some (.int (nI p)), some (.int (nI (p + 1 + i + 1)))]) dX0_remove_66 rfl (j_inc1 _) rfl rfl ?_
      refine j_goto hX (tgt := 4) dX0_remove_69 (by decide) ?_
      exact ih (i + 1) (by omega) (by omega)
  refine jW.locals (ls' := [some (.ref (ad 1)), some (.int (nI p)), some (.int (nI (p + 1 + 0)))]) (by rw [nI_1]) ?_
  refine jW.world (ws' := (wC G ad V (sM (sM (sM M 2 (shiftF (M 2) p 0)) 3 (shiftF (M 3) p 0)) 4 (shiftF (M 4) p 0)) en wo)) rfl ?_
  exact L4 (n - (p + 1)) 0 (Nat.le_refl _) (by omega)

set_option maxHeartbeats 4000000 in
set_option maxRecDepth 100000 in
theorem c_X0_append (G : jG) (ad : Nat → Nat) (V : Nat → Int32) (M : Nat → Nat → Int32) (en : Nat → Option Nat) (wo : va_W) (kind price : Int32) : jD G 1 yX0_append wsX0_append [.ref (ad 1), .int kind, .int price] (wC G ad V M en wo) (some (.int (V 3))) (wC G ad (sV (sV V 2 (V 2 + 1)) 3 (V 3 + 1)) (sM (sM (sM M 2 (setF 7 (M 2) (V 2) (V 3))) 3 (setF 7 (M 3) (V 2) kind)) 4 (setF 7 (M 4) (V 2) price)) en wo) := by
  refine jC.of (maxL := 4) (cc := cX0_append) (ret := (some .int)) rfl (by decide) [some (.ref (ad 1)), some (.int kind), some (.int price), none] rfl (Nat.le_of_ble_eq_true rfl) (j_args rfl) (fun X hX => ?_)
  refine j_aload_n hX dX0_append_0 rfl ?_
  refine j_getf hX (v := .int (V 3)) dX0_append_1 fX0_append_25 1 (wCg1 _ _ _ _ _ _) rfl ?_
  refine j_istore_n hX (ls' := [some (.ref (ad 1)), some (.int kind), some (.int price), some (.int (V 3))]) dX0_append_4 (Nat.le_of_ble_eq_true rfl) rfl rfl ?_
  refine j_aload_n hX dX0_append_5 rfl ?_
  refine j_getf hX (v := .ref (ad 2)) dX0_append_6 fX0_append_9 1 (wCg1 _ _ _ _ _ _) rfl ?_
  refine j_aload_n hX dX0_append_9 rfl ?_
  refine j_getf hX (v := .int (V 2)) dX0_append_10 fX0_append_21 1 (wCg1 _ _ _ _ _ _) rfl ?_
  refine j_iload_n hX dX0_append_13 rfl ?_
  refine j_dSN hX (nA := 3) (As := [.ref (ad 2), .int (V 2), .int (V 3)]) (st := []) (st' := []) dX0_append_14 (c_setAt G (q := 2) (wCg2 _ _ _ _ _ _) (by decide) (wCp2 _ _ _ _ _ _ _)) gX0_append_X11_setAt_n28 rfl (by decide +kernel) (host := "BasketOffers") (by decide +kernel) (by decide +kernel) (by decide +kernel) (by omega) (Nat.le_of_ble_eq_true rfl) rfl (Nat.le_of_ble_eq_true rfl) rfl ⟨Nat.le_refl _, Nat.le_refl _⟩ rfl ?_
  refine j_aload_n hX dX0_append_17 rfl ?_
  refine j_getf hX (v := .ref (ad 3)) dX0_append_18 fX0_append_15 1 (wCg1 _ _ _ _ _ _) rfl ?_
  refine j_aload_n hX dX0_append_21 rfl ?_
  refine j_getf hX (v := .int (V 2)) dX0_append_22 fX0_append_21 1 (wCg1 _ _ _ _ _ _) rfl ?_
  refine j_iload_n hX dX0_append_25 rfl ?_
  refine j_dSN hX (nA := 3) (As := [.ref (ad 3), .int (V 2), .int kind]) (st := []) (st' := []) dX0_append_26 (c_setAt G (q := 3) (wCg3 _ _ _ _ _ _) (by decide) (wCp3 _ _ _ _ _ _ _)) gX0_append_X11_setAt_n28 rfl (by decide +kernel) (host := "BasketOffers") (by decide +kernel) (by decide +kernel) (by decide +kernel) (by omega) (Nat.le_of_ble_eq_true rfl) rfl (Nat.le_of_ble_eq_true rfl) rfl ⟨Nat.le_refl _, Nat.le_refl _⟩ rfl ?_
  refine j_aload_n hX dX0_append_29 rfl ?_
  refine j_getf hX (v := .ref (ad 4)) dX0_append_30 fX0_append_18 1 (wCg1 _ _ _ _ _ _) rfl ?_
  refine j_aload_n hX dX0_append_33 rfl ?_
  refine j_getf hX (v := .int (V 2)) dX0_append_34 fX0_append_21 1 (wCg1 _ _ _ _ _ _) rfl ?_
  refine j_iload_n hX dX0_append_37 rfl ?_
  refine j_dSN hX (nA := 3) (As := [.ref (ad 4), .int (V 2), .int price]) (st := []) (st' := []) dX0_append_38 (c_setAt G (q := 4) (wCg4 _ _ _ _ _ _) (by decide) (wCp4 _ _ _ _ _ _ _)) gX0_append_X11_setAt_n28 rfl (by decide +kernel) (host := "BasketOffers") (by decide +kernel) (by decide +kernel) (by decide +kernel) (by omega) (Nat.le_of_ble_eq_true rfl) rfl (Nat.le_of_ble_eq_true rfl) rfl ⟨Nat.le_refl _, Nat.le_refl _⟩ rfl ?_
  refine j_aload_n hX dX0_append_41 rfl ?_
  refine j_dup hX dX0_append_42 rfl ?_
  refine j_getf hX (v := .int (V 2)) dX0_append_43 fX0_append_21 1 (wCg1 _ _ _ _ _ _) rfl ?_
  refine j_iconst hX (v := 1) (by decide) dX0_append_46 ?_
  refine j_iadd hX dX0_append_47 ?_
  refine j_putf hX (ws' := (wC G ad (sV V 2 ((V 2) + 1)) (sM (sM (sM M 2 (setF 7 (M 2) (V 2) (V 3))) 3 (setF 7 (M 3) (V 2) kind)) 4 (setF 7 (M 4) (V 2) price)) en wo)) dX0_append_48 fX0_append_21 1 (wCg1 _ _ _ _ _ _) (Nat.le_of_ble_eq_true rfl) rfl rfl (wCp1_3 _ _ _ _ _ _ _) ?_
  refine j_aload_n hX dX0_append_51 rfl ?_
  refine j_dup hX dX0_append_52 rfl ?_
  refine j_getf hX (v := .int (V 3)) dX0_append_53 fX0_append_25 1 (wCg1 _ _ _ _ _ _) rfl ?_
  refine j_iconst hX (v := 1) (by decide) dX0_append_56 ?_
  refine j_iadd hX dX0_append_57 ?_
  refine j_putf hX (ws' := (wC G ad (sV (sV V 2 ((V 2) + 1)) 3 ((V 3) + 1)) (sM (sM (sM M 2 (setF 7 (M 2) (V 2) (V 3))) 3 (setF 7 (M 3) (V 2) kind)) 4 (setF 7 (M 4) (V 2) price)) en wo)) dX0_append_58 fX0_append_25 1 (wCg1 _ _ _ _ _ _) (Nat.le_of_ble_eq_true rfl) rfl rfl (wCp1_4 _ _ _ _ _ _ _) ?_
  refine j_iload_n hX dX0_append_61 rfl ?_
  exact j_iret hX dX0_append_62 ⟨rfl, rfl⟩

