theorem fX10_startOf_21 : jF wsX10_startOf RX10 21 11 3 true (.array .int) := ⟨(RX10, TX10, 5), tyX10, rfl, by decide, by decide +kernel, by decide +kernel, tyX10_ok, nmX10, rfl, by decide +kernel, by decide +kernel⟩
theorem fX10_offerAt_11 : jF wsX10_offerAt RX10 11 11 0 true (.array .int) := ⟨(RX10, TX10, 5), tyX10, rfl, by decide, by decide +kernel, by decide +kernel, tyX10_ok, nmX10, rfl, by decide +kernel, by decide +kernel⟩
theorem fX10_maskAt_15 : jF wsX10_maskAt RX10 15 11 1 true (.array .int) := ⟨(RX10, TX10, 5), tyX10, rfl, by decide, by decide +kernel, by decide +kernel, tyX10_ok, nmX10, rfl, by decide +kernel, by decide +kernel⟩
theorem fX10_discountAt_18 : jF wsX10_discountAt RX10 18 11 2 true (.array .int) := ⟨(RX10, TX10, 5), tyX10, rfl, by decide, by decide +kernel, by decide +kernel, tyX10_ok, nmX10, rfl, by decide +kernel, by decide +kernel⟩
theorem fX10_size_24 : jF wsX10_size RX10 24 11 4 false .int := ⟨(RX10, TX10, 5), tyX10, rfl, by decide, by decide +kernel, by decide +kernel, tyX10_ok, nmX10, rfl, by decide +kernel, fun h => by cases h⟩
theorem fX10_addUse_24 : jF wsX10_addUse RX10 24 11 4 false .int := ⟨(RX10, TX10, 5), tyX10, rfl, by decide, by decide +kernel, by decide +kernel, tyX10_ok, nmX10, rfl, by decide +kernel, fun h => by cases h⟩
theorem fX10_addUse_11 : jF wsX10_addUse RX10 11 11 0 true (.array .int) := ⟨(RX10, TX10, 5), tyX10, rfl, by decide, by decide +kernel, by decide +kernel, tyX10_ok, nmX10, rfl, by decide +kernel, by decide +kernel⟩
theorem fX10_addUse_15 : jF wsX10_addUse RX10 15 11 1 true (.array .int) := ⟨(RX10, TX10, 5), tyX10, rfl, by decide, by decide +kernel, by decide +kernel, tyX10_ok, nmX10, rfl, by decide +kernel, by decide +kernel⟩
theorem fX10_addUse_18 : jF wsX10_addUse RX10 18 11 2 true (.array .int) := ⟨(RX10, TX10, 5), tyX10, rfl, by decide, by decide +kernel, by decide +kernel, tyX10_ok, nmX10, rfl, by decide +kernel, by decide +kernel⟩
theorem fX10_fill_24 : jF wsX10_fill RX10 24 11 4 false .int := ⟨(RX10, TX10, 5), tyX10, rfl, by decide, by decide +kernel, by decide +kernel, tyX10_ok, nmX10, rfl, by decide +kernel, fun h => by cases h⟩
theorem fX10_fill_21 : jF wsX10_fill RX10 21 11 3 true (.array .int) := ⟨(RX10, TX10, 5), tyX10, rfl, by decide, by decide +kernel, by decide +kernel, tyX10_ok, nmX10, rfl, by decide +kernel, by decide +kernel⟩
set_option maxHeartbeats 4000000 in
set_option maxRecDepth 100000 in
theorem c_X10_startOf (G : jG) (ad : Nat → Nat) (V : Nat → Int32) (M : Nat → Nat → Int32) (en : Nat → Option Nat) (wo : va_W) (x : Int32) : jD G 1 yX10_startOf wsX10_startOf [.ref (ad 12), .int x] (wC G ad V M en wo) (some (.int (atF 8 (M 16) x))) (wC G ad V M en wo) := by
  refine jC.of (maxL := 2) (cc := cX10_startOf) (ret := (some .int)) rfl (by decide) [some (.ref (ad 12)), some (.int x)] rfl (Nat.le_of_ble_eq_true rfl) (j_args rfl) (fun X hX => ?_)
  refine j_aload_n hX dX10_startOf_0 rfl ?_
  refine j_getf hX (v := .ref (ad 16)) dX10_startOf_1 fX10_startOf_21 12 (wCg12 _ _ _ _ _ _) rfl ?_
  refine j_iload_n hX dX10_startOf_4 rfl ?_
  refine j_dSN hX (nA := 2) (As := [.ref (ad 16), .int x]) (st := []) (st' := [.int (atF 8 (M 16) x)]) dX10_startOf_5 (c_at G (q := 16) (wCg16 _ _ _ _ _ _) (by decide)) gX10_startOf_X11_at_n77 rfl (by decide +kernel) (host := "BasketOffers") (by decide +kernel) (by decide +kernel) (by decide +kernel) (by omega) (Nat.le_of_ble_eq_true rfl) rfl (Nat.le_of_ble_eq_true rfl) rfl ⟨Nat.le_refl _, Nat.le_refl _⟩ rfl ?_
  exact j_iret hX dX10_startOf_8 ⟨rfl, rfl⟩

set_option maxHeartbeats 4000000 in
set_option maxRecDepth 100000 in
theorem c_X10_offerAt (G : jG) (ad : Nat → Nat) (V : Nat → Int32) (M : Nat → Nat → Int32) (en : Nat → Option Nat) (wo : va_W) (x : Int32) : jD G 1 yX10_offerAt wsX10_offerAt [.ref (ad 12), .int x] (wC G ad V M en wo) (some (.int (atF 210 (M 13) x))) (wC G ad V M en wo) := by
  refine jC.of (maxL := 2) (cc := cX10_offerAt) (ret := (some .int)) rfl (by decide) [some (.ref (ad 12)), some (.int x)] rfl (Nat.le_of_ble_eq_true rfl) (j_args rfl) (fun X hX => ?_)
  refine j_aload_n hX dX10_offerAt_0 rfl ?_
  refine j_getf hX (v := .ref (ad 13)) dX10_offerAt_1 fX10_offerAt_11 12 (wCg12 _ _ _ _ _ _) rfl ?_
  refine j_iload_n hX dX10_offerAt_4 rfl ?_
  refine j_dSN hX (nA := 2) (As := [.ref (ad 13), .int x]) (st := []) (st' := [.int (atF 210 (M 13) x)]) dX10_offerAt_5 (c_at G (q := 13) (wCg13 _ _ _ _ _ _) (by decide)) gX10_offerAt_X11_at_n77 rfl (by decide +kernel) (host := "BasketOffers") (by decide +kernel) (by decide +kernel) (by decide +kernel) (by omega) (Nat.le_of_ble_eq_true rfl) rfl (Nat.le_of_ble_eq_true rfl) rfl ⟨Nat.le_refl _, Nat.le_refl _⟩ rfl ?_
  exact j_iret hX dX10_offerAt_8 ⟨rfl, rfl⟩

set_option maxHeartbeats 4000000 in
set_option maxRecDepth 100000 in
theorem c_X10_maskAt (G : jG) (ad : Nat → Nat) (V : Nat → Int32) (M : Nat → Nat → Int32) (en : Nat → Option Nat) (wo : va_W) (x : Int32) : jD G 1 yX10_maskAt wsX10_maskAt [.ref (ad 12), .int x] (wC G ad V M en wo) (some (.int (atF 210 (M 14) x))) (wC G ad V M en wo) := by
  refine jC.of (maxL := 2) (cc := cX10_maskAt) (ret := (some .int)) rfl (by decide) [some (.ref (ad 12)), some (.int x)] rfl (Nat.le_of_ble_eq_true rfl) (j_args rfl) (fun X hX => ?_)
  refine j_aload_n hX dX10_maskAt_0 rfl ?_
  refine j_getf hX (v := .ref (ad 14)) dX10_maskAt_1 fX10_maskAt_15 12 (wCg12 _ _ _ _ _ _) rfl ?_
  refine j_iload_n hX dX10_maskAt_4 rfl ?_
  refine j_dSN hX (nA := 2) (As := [.ref (ad 14), .int x]) (st := []) (st' := [.int (atF 210 (M 14) x)]) dX10_maskAt_5 (c_at G (q := 14) (wCg14 _ _ _ _ _ _) (by decide)) gX10_maskAt_X11_at_n77 rfl (by decide +kernel) (host := "BasketOffers") (by decide +kernel) (by decide +kernel) (by decide +kernel) (by omega) (Nat.le_of_ble_eq_true rfl) rfl (Nat.le_of_ble_eq_true rfl) rfl ⟨Nat.le_refl _, Nat.le_refl _⟩ rfl ?_
  exact j_iret hX dX10_maskAt_8 ⟨rfl, rfl⟩

set_option maxHeartbeats 4000000 in
set_option maxRecDepth 100000 in
theorem c_X10_discountAt (G : jG) (ad : Nat → Nat) (V : Nat → Int32) (M : Nat → Nat → Int32) (en : Nat → Option Nat) (wo : va_W) (x : Int32) : jD G 1 yX10_discountAt wsX10_discountAt [.ref (ad 12), .int x] (wC G ad V M en wo) (some (.int (atF 210 (M 15) x))) (wC G ad V M en wo) := by
  refine jC.of (maxL := 2) (cc := cX10_discountAt) (ret := (some .int)) rfl (by decide) [some (.ref (ad 12)), some (.int x)] rfl (Nat.le_of_ble_eq_true rfl) (j_args rfl) (fun X hX => ?_)
  refine j_aload_n hX dX10_discountAt_0 rfl ?_
  refine j_getf hX (v := .ref (ad 15)) dX10_discountAt_1 fX10_discountAt_18 12 (wCg12 _ _ _ _ _ _) rfl ?_
  refine j_iload_n hX dX10_discountAt_4 rfl ?_
  refine j_dSN hX (nA := 2) (As := [.ref (ad 15), .int x]) (st := []) (st' := [.int (atF 210 (M 15) x)]) dX10_discountAt_5 (c_at G (q := 15) (wCg15 _ _ _ _ _ _) (by decide)) gX10_discountAt_X11_at_n77 rfl (by decide +kernel) (host := "BasketOffers") (by decide +kernel) (by decide +kernel) (by decide +kernel) (by omega) (Nat.le_of_ble_eq_true rfl) rfl (Nat.le_of_ble_eq_true rfl) rfl ⟨Nat.le_refl _, Nat.le_refl _⟩ rfl ?_
  exact j_iret hX dX10_discountAt_8 ⟨rfl, rfl⟩

set_option maxHeartbeats 4000000 in
set_option maxRecDepth 100000 in
theorem c_X10_size (G : jG) (ad : Nat → Nat) (V : Nat → Int32) (M : Nat → Nat → Int32) (en : Nat → Option Nat) (wo : va_W) : jD G 0 yX10_size wsX10_size [.ref (ad 12)] (wC G ad V M en wo) (some (.int (V 9))) (wC G ad V M en wo) := by
  refine jC.of (maxL := 1) (cc := cX10_size) (ret := (some .int)) rfl (by decide) [some (.ref (ad 12))] rfl (Nat.le_of_ble_eq_true rfl) (j_args rfl) (fun X hX => ?_)
  refine j_aload_n hX dX10_size_0 rfl ?_
  refine j_getf hX (v := .int (V 9)) dX10_size_1 fX10_size_24 12 (wCg12 _ _ _ _ _ _) rfl ?_
  exact j_iret hX dX10_size_4 ⟨rfl, rfl⟩

abbrev VM : Type := (Nat → Int32) × (Nat → Nat → Int32)
def addUseF (s : VM) (off mask disc : Int32) : VM := if disc = -1 then s else if s.1 9 < 210 then (sV s.1 9 (s.1 9 + 1), sM (sM (sM s.2 13 (setF 210 (s.2 13) (s.1 9) off)) 14 (setF 210 (s.2 14) (s.1 9) mask)) 15 (setF 210 (s.2 15) (s.1 9) disc)) else s
theorem addUseF_V (s : VM) (off mask disc : Int32) (k : Nat) (hk : Nat.beq k 9 = false) : (addUseF s off mask disc).1 k = s.1 k := by
  unfold addUseF
  split
  · rfl
  · split
    · show sV s.1 9 _ k = s.1 k
      unfold sV
      rw [hk]
      rfl
    · rfl
set_option maxHeartbeats 4000000 in
set_option maxRecDepth 100000 in
theorem c_X10_addUse (G : jG) (ad : Nat → Nat) (V : Nat → Int32) (M : Nat → Nat → Int32) (en : Nat → Option Nat) (wo : va_W) (off mask disc : Int32) : jD G 1 yX10_addUse wsX10_addUse [.ref (ad 12), .int off, .int mask, .int disc] (wC G ad V M en wo) none (wC G ad (addUseF (V, M) off mask disc).1 (addUseF (V, M) off mask disc).2 en wo) := by
  refine jC.of (maxL := 4) (cc := cX10_addUse) (ret := none) rfl (by decide) [some (.ref (ad 12)), some (.int off), some (.int mask), some (.int disc)] rfl (Nat.le_of_ble_eq_true rfl) (j_args rfl) (fun X hX => ?_)
  refine j_iload_n hX dX10_addUse_0 rfl ?_
  refine j_iconst hX (v := -1) (by decide) dX10_addUse_1 ?_
  refine j_icmp_eq hX (tgt := 15) dX10_addUse_2 (by decide) (fun h2 => ?_) (fun h2 => ?_)
  · exact j_vret hX dX10_addUse_15 ⟨rfl, by rw [show (addUseF (V, M) off mask disc) = (V, M) from (if_pos h2)]⟩
  · refine j_aload_n hX dX10_addUse_5 rfl ?_
    refine j_getf hX (v := .int (V 9)) dX10_addUse_6 fX10_addUse_24 12 (wCg12 _ _ _ _ _ _) rfl ?_
    refine j_sipush hX (v := 210) (by decide) dX10_addUse_9 ?_
    refine j_icmp_lt hX (tgt := 16) dX10_addUse_12 (by decide) (fun h12 => ?_) (fun h12 => ?_)
    · refine j_aload_n hX dX10_addUse_16 rfl ?_
      refine j_getf hX (v := .ref (ad 13)) dX10_addUse_17 fX10_addUse_11 12 (wCg12 _ _ _ _ _ _) rfl ?_
      refine j_aload_n hX dX10_addUse_20 rfl ?_
      refine j_getf hX (v := .int (V 9)) dX10_addUse_21 fX10_addUse_24 12 (wCg12 _ _ _ _ _ _) rfl ?_
      refine j_iload_n hX dX10_addUse_24 rfl ?_
      refine j_dSN hX (nA := 3) (As := [.ref (ad 13), .int (V 9), .int off]) (st := []) (st' := []) dX10_addUse_25 (c_setAt G (q := 13) (wCg13 _ _ _ _ _ _) (by decide) (wCp13 _ _ _ _ _ _ _)) gX10_addUse_X11_setAt_n33 rfl (by decide +kernel) (host := "BasketOffers") (by decide +kernel) (by decide +kernel) (by decide +kernel) (by omega) (Nat.le_of_ble_eq_true rfl) rfl (Nat.le_of_ble_eq_true rfl) rfl ⟨Nat.le_refl _, Nat.le_refl _⟩ rfl ?_
      refine j_aload_n hX dX10_addUse_28 rfl ?_
      refine j_getf hX (v := .ref (ad 14)) dX10_addUse_29 fX10_addUse_15 12 (wCg12 _ _ _ _ _ _) rfl ?_
      refine j_aload_n hX dX10_addUse_32 rfl ?_
      refine j_getf hX (v := .int (V 9)) dX10_addUse_33 fX10_addUse_24 12 (wCg12 _ _ _ _ _ _) rfl ?_
      refine j_iload_n hX dX10_addUse_36 rfl ?_
      refine j_dSN hX (nA := 3) (As := [.ref (ad 14), .int (V 9), .int mask]) (st := []) (st' := []) dX10_addUse_37 (c_setAt G (q := 14) (wCg14 _ _ _ _ _ _) (by decide) (wCp14 _ _ _ _ _ _ _)) gX10_addUse_X11_setAt_n33 rfl (by decide +kernel) (host := "BasketOffers") (by decide +kernel) (by decide +kernel) (by decide +kernel) (by omega) (Nat.le_of_ble_eq_true rfl) rfl (Nat.le_of_ble_eq_true rfl) rfl ⟨Nat.le_refl _, Nat.le_refl _⟩ rfl ?_
      refine j_aload_n hX dX10_addUse_40 rfl ?_
      refine j_getf hX (v := .ref (ad 15)) dX10_addUse_41 fX10_addUse_18 12 (wCg12 _ _ _ _ _ _) rfl ?_
      refine j_aload_n hX dX10_addUse_44 rfl ?_
      refine j_getf hX (v := .int (V 9)) dX10_addUse_45 fX10_addUse_24 12 (wCg12 _ _ _ _ _ _) rfl ?_
      refine j_iload_n hX dX10_addUse_48 rfl ?_
      refine j_dSN hX (nA := 3) (As := [.ref (ad 15), .int (V 9), .int disc]) (st := []) (st' := []) dX10_addUse_49 (c_setAt G (q := 15) (wCg15 _ _ _ _ _ _) (by decide) (wCp15 _ _ _ _ _ _ _)) gX10_addUse_X11_setAt_n33 rfl (by decide +kernel) (host := "BasketOffers") (by decide +kernel) (by decide +kernel) (by decide +kernel) (by omega) (Nat.le_of_ble_eq_true rfl) rfl (Nat.le_of_ble_eq_true rfl) rfl ⟨Nat.le_refl _, Nat.le_refl _⟩ rfl ?_
      refine j_aload_n hX dX10_addUse_52 rfl ?_
      refine j_dup hX dX10_addUse_53 rfl ?_
      refine j_getf hX (v := .int (V 9)) dX10_addUse_54 fX10_addUse_24 12 (wCg12 _ _ _ _ _ _) rfl ?_
      refine j_iconst hX (v := 1) (by decide) dX10_addUse_57 ?_
      refine j_iadd hX dX10_addUse_58 ?_
      refine j_putf hX (ws' := (wC G ad (sV V 9 ((V 9) + 1)) (sM (sM (sM M 13 (setF 210 (M 13) (V 9) off)) 14 (setF 210 (M 14) (V 9) mask)) 15 (setF 210 (M 15) (V 9) disc)) en wo)) dX10_addUse_59 fX10_addUse_24 12 (wCg12 _ _ _ _ _ _) (Nat.le_of_ble_eq_true rfl) rfl rfl (wCp12_4 _ _ _ _ _ _ _) ?_
      exact j_vret hX dX10_addUse_62 ⟨rfl, by rw [show (addUseF (V, M) off mask disc) = ((sV V 9 ((V 9) + 1)), (sM (sM (sM M 13 (setF 210 (M 13) (V 9) off)) 14 (setF 210 (M 14) (V 9) mask)) 15 (setF 210 (M 15) (V 9) disc))) from ((if_neg h2).trans (if_pos h12))]⟩
    · exact j_vret hX dX10_addUse_15 ⟨rfl, by rw [show (addUseF (V, M) off mask disc) = (V, M) from ((if_neg h2).trans (if_neg h12))]⟩

set_option maxRecDepth 100000 in
theorem vX10_addUses_49 {G : jG} {X : jX} {ret : Option FieldType} {nL d mc ms k n0 : Nat} {post : Option Value → va_W → Prop} {ls : List (Option Value)} {st st' : List Value} {ws : va_W} (hX : jOK G X RX10 cX10_addUses wsX10_addUses ret nL d mc ms post) {b q : Nat} {o : ofr} (ho : okO o) (hq : ws[q]? = some (b, cellO o))  (hdd : 1 ≤ d) (hlen : ls.length = nL) (hcat : (st.map fun v => v.category).sum ≤ 8) (hkn : k ≤ mc ∧ n0 ≤ ms) (hst : .int (takenO o) :: st = st') (kk : jW G X k n0 (49 + 3) ls st' ws) : jW G X k n0 49 ls (.ref b :: st) ws := by
  subst hst
  rcases ho with h | h | h | h
  · exact j_dO hX (nA := 0) (cq := (RX7, TX7, 4)) (As := []) (st := st) (ci := 8) rfl dX10_addUses_49 (c_X7_itemsTaken G) gX10_addUses_X7_itemsTaken_u64X7 rfl (b0 := cX5_itemsTaken) (m0 := 1) (r0 := (some .int)) (by decide +kernel) (by decide +kernel) (cellO_8 h hq) (by omega) (Nat.le_of_ble_eq_true rfl) rfl hcat hlen hkn (by rw [takenO, h]; rfl) kk
  · exact j_dO hX (nA := 0) (cq := (RX3, TX3, 4)) (As := []) (st := st) (ci := 5) rfl dX10_addUses_49 (c_X3_itemsTaken G o h hq) gX10_addUses_X3_itemsTaken_u64X3 rfl (b0 := cX5_itemsTaken) (m0 := 1) (r0 := (some .int)) (by decide +kernel) (by decide +kernel) (cellO_5 h hq) (by omega) (Nat.le_of_ble_eq_true rfl) rfl hcat hlen hkn (by rw [takenO, h]; rfl) kk
  · exact j_dO hX (nA := 0) (cq := (RX2, TX2, 9)) (As := []) (st := st) (ci := 4) rfl dX10_addUses_49 (c_X2_itemsTaken G o h hq) gX10_addUses_X2_itemsTaken_u64X2 rfl (b0 := cX5_itemsTaken) (m0 := 1) (r0 := (some .int)) (by decide +kernel) (by decide +kernel) (cellO_4 h hq) (by omega) (Nat.le_of_ble_eq_true rfl) rfl hcat hlen hkn (by rw [takenO, h]; rfl) kk
  · exact j_dU hX (nA := 0) (cq := (RX9, TX9, 4)) (As := []) (st := st) (ci := 10) rfl dX10_addUses_49 (c_X5_itemsTaken G) gX10_addUses_X5_itemsTaken_u64X9 rfl rfl (by decide +kernel) (cellO_10 h hq) (by omega) (Nat.le_of_ble_eq_true rfl) rfl hcat hlen hkn (by rw [takenO, h]; rfl) kk

set_option maxRecDepth 100000 in
theorem vX10_addUses_63 {G : jG} {X : jX} {ret : Option FieldType} {nL d mc ms k n0 : Nat} {post : Option Value → va_W → Prop} {ls : List (Option Value)} {st st' : List Value} {ad : Nat → Nat} {V : Nat → Int32} {M : Nat → Nat → Int32} {en : Nat → Option Nat} {wo : va_W} {mask : Int32} (hX : jOK G X RX10 cX10_addUses wsX10_addUses ret nL d mc ms post) {b q : Nat} {o : ofr} (ho : okO o) (hq : (wC G ad V M en wo)[q]? = some (b, cellO o)) (n : Nat) (hsz : V 2 = nI n) (hn : n ≤ 7) (hdd : 3 ≤ d) (hlen : ls.length = nL) (hcat : (st.map fun v => v.category).sum ≤ 8) (hkn : k ≤ mc ∧ n0 ≤ ms) (hst : .int (discO o M mask n) :: st = st') (kk : jW G X k n0 (63 + 3) ls st' (wC G ad V M en wo)) : jW G X k n0 63 ls (.int mask :: .ref (ad 1) :: .ref b :: st) (wC G ad V M en wo) := by
  subst hst
  rcases ho with h | h | h | h
  · exact j_dO hX (nA := 2) (cq := (RX7, TX7, 4)) (As := [.ref (ad 1), .int mask]) (st := st) (ci := 8) rfl dX10_addUses_63 (c_X7_discountOn G _ _ _ _ _ o _ n hsz hn h hq) gX10_addUses_X7_discountOn_u69X7 rfl (b0 := cX5_discountOn) (m0 := 3) (r0 := (some .int)) (by decide +kernel) (by decide +kernel) (cellO_8 h hq) (by omega) (Nat.le_of_ble_eq_true rfl) rfl hcat hlen hkn (by rw [discO, h]; rfl) kk
  · exact j_dO hX (nA := 2) (cq := (RX3, TX3, 4)) (As := [.ref (ad 1), .int mask]) (st := st) (ci := 5) rfl dX10_addUses_63 (c_X3_discountOn G _ _ _ _ _ o _ n hsz hn h hq) gX10_addUses_X3_discountOn_u69X3 rfl (b0 := cX5_discountOn) (m0 := 3) (r0 := (some .int)) (by decide +kernel) (by decide +kernel) (cellO_5 h hq) (by omega) (Nat.le_of_ble_eq_true rfl) rfl hcat hlen hkn (by rw [discO, h]; rfl) kk
  · exact j_dO hX (nA := 2) (cq := (RX2, TX2, 9)) (As := [.ref (ad 1), .int mask]) (st := st) (ci := 4) rfl dX10_addUses_63 (c_X2_discountOn G _ _ _ _ _ o _ n hsz hn h hq) gX10_addUses_X2_discountOn_u69X2 rfl (b0 := cX5_discountOn) (m0 := 3) (r0 := (some .int)) (by decide +kernel) (by decide +kernel) (cellO_4 h hq) (by omega) (Nat.le_of_ble_eq_true rfl) rfl hcat hlen hkn (by rw [discO, h]; rfl) kk
  · exact j_dU hX (nA := 2) (cq := (RX9, TX9, 4)) (As := [.ref (ad 1), .int mask]) (st := st) (ci := 10) rfl dX10_addUses_63 (c_X5_discountOn G _) gX10_addUses_X5_discountOn_u69X9 rfl rfl (by decide +kernel) (cellO_10 h hq) (by omega) (Nat.le_of_ble_eq_true rfl) rfl hcat hlen hkn (by rw [discO, h]; rfl) kk

/-- one mask tried for an offer, all masks of a lowest place, all offers, all places, the starts behind them -/
def auS (os : Nat → ofr) (n j p : Nat) (i : Nat) (s : VM) : VM := if nI (2 * 2 ^ (6 - p) - 1 - i) &&& (maskF n ^^^ -1) = 0 then (if bcF (nI (2 * 2 ^ (6 - p) - 1 - i)) = takenO (os j) then addUseF s (nI j) (nI (2 * 2 ^ (6 - p) - 1 - i)) (discO (os j) s.2 (nI (2 * 2 ^ (6 - p) - 1 - i)) n) else s) else s
def auF (os : Nat → ofr) (n j p : Nat) (s : VM) (i : Nat) : VM := itr (auS os n j p) i s
theorem itr_V {f : Nat → VM → VM} {k : Nat} (h : ∀ i s, (f i s).1 k = s.1 k) (s : VM) : ∀ i, (itr f i s).1 k = s.1 k
  | 0 => rfl
  | i + 1 => (h i _).trans (itr_V h s i)
theorem auS_V (os : Nat → ofr) (n j p k : Nat) (hk : Nat.beq k 9 = false) (i : Nat) (s : VM) : (auS os n j p i s).1 k = s.1 k := by
  unfold auS
  split
  · split
    · exact addUseF_V _ _ _ _ _ hk
    · rfl
  · rfl
theorem auF_V (os : Nat → ofr) (n j p : Nat) (s : VM) (i k : Nat) (hk : Nat.beq k 9 = false) : (auF os n j p s i).1 k = s.1 k := itr_V (auS_V os n j p k hk) s i
theorem bitF_pow {p : Nat} (hp : p ≤ 6) : bitF (nI p) = nI (2 ^ (6 - p)) := by
  rcases (show p = 0 ∨ p = 1 ∨ p = 2 ∨ p = 3 ∨ p = 4 ∨ p = 5 ∨ p = 6 by omega) with rfl | rfl | rfl | rfl | rfl | rfl | rfl <;> decide +kernel
theorem pow_b {p : Nat} : 1 ≤ 2 ^ (6 - p) ∧ 2 ^ (6 - p) ≤ 64 := by
  refine ⟨Nat.one_le_two_pow, ?_⟩
  exact Nat.le_trans (Nat.pow_le_pow_right (by decide) (show 6 - p ≤ 6 by omega)) (by decide)
theorem dec_mask {a : Nat} (h : 1 ≤ a) : nI a + Int32.ofInt (-1) = nI (a - 1) := by
  obtain ⟨b, rfl⟩ := Nat.exists_eq_add_of_le h
  rw [Nat.add_comm 1 b]
  exact pk_m1 b
theorem mask_top {L : Nat} (h : 1 ≤ L) : 2 * nI L - 1 = nI (2 * L - 1 - 0) := by
  rw [show (2 : Int32) = nI 2 from rfl, pk_mul, show (1 : Int32) = nI 1 from rfl, pk_sub (by omega)]
  rfl
set_option maxHeartbeats 4000000 in
set_option maxRecDepth 100000 in
theorem c_X10_addUses (G : jG) (ad : Nat → Nat) (V : Nat → Int32) (M : Nat → Nat → Int32) (os : Nat → ofr) (o : Nat) (j p : Nat) (hj : j < o) (hp : p ≤ 6) (n : Nat) (hsz : V 2 = nI n) (hn : n ≤ 7) (ho6 : o ≤ 6) (hos : ∀ j, j < o → okO (os j)) : jD G 3 yX10_addUses wsX10_addUses [.ref (ad 12), .int (nI j), .ref (ad (30 + j)), .ref (ad 1), .int (nI p)] (wC G ad V M (enO ad o) (wO ad os o)) none (wC G ad (auF os n j p (V, M) (2 ^ (6 - p))).1 (auF os n j p (V, M) (2 ^ (6 - p))).2 (enO ad o) (wO ad os o)) := by
  refine jC.of (maxL := 8) (cc := cX10_addUses) (ret := none) rfl (by decide) [some (.ref (ad 12)), some (.int (nI j)), some (.ref (ad (30 + j))), some (.ref (ad 1)), some (.int (nI p)), none, none, none] rfl (Nat.le_of_ble_eq_true rfl) (j_args rfl) (fun X hX => ?_)
  refine j_aload_n hX dX10_addUses_0 rfl ?_
  refine j_ifnonnull hX (tgt := 5) dX10_addUses_1 (by decide) ?_
  refine j_iload hX dX10_addUses_5 rfl ?_
  refine j_dSN hX (nA := 1) (As := [.int (nI p)]) (st := []) (st' := [.int (bitF (nI p))]) dX10_addUses_7 (c_bitOf G) gX10_addUses_X11_bitOf_n52 rfl (by decide +kernel) (host := "BasketOffers") (by decide +kernel) (by decide +kernel) (by decide +kernel) (by omega) (Nat.le_of_ble_eq_true rfl) rfl (Nat.le_of_ble_eq_true rfl) rfl ⟨Nat.le_refl _, Nat.le_refl _⟩ rfl ?_
  refine jW.top (bitF_pow hp) ?_
  refine j_istore hX (ls' := [some (.ref (ad 12)), some (.int (nI j)), some (.ref (ad (30 + j))), some (.ref (ad 1)), some (.int (nI p)), some (.int (nI (2 ^ (6 - p)))), none, none]) dX10_addUses_10 (Nat.le_of_ble_eq_true rfl) rfl rfl ?_
  refine j_aload_n hX dX10_addUses_12 rfl ?_
  refine j_dV hX (nA := 0) (cq := (RX0, TX0, 5)) (As := []) (st := []) (st' := [.int (maskF n)]) (ci := 2) rfl dX10_addUses_13 (c_X0_mask G _ _ _ _ _ n hsz hn) gX10_addUses_X0_mask rfl (by decide +kernel) (q := 1) (wCg1 _ _ _ _ _ _) (by omega) (Nat.le_of_ble_eq_true rfl) rfl (Nat.le_of_ble_eq_true rfl) rfl ⟨Nat.le_refl _, Nat.le_refl _⟩ rfl ?_
  refine j_iconst hX (v := -1) (by decide) dX10_addUses_16 ?_
  refine j_ixor hX dX10_addUses_17 ?_
  refine j_istore hX (ls' := [some (.ref (ad 12)), some (.int (nI j)), some (.ref (ad (30 + j))), some (.ref (ad 1)), some (.int (nI p)), some (.int (nI (2 ^ (6 - p)))), some (.int ((maskF n) ^^^ (-1))), none]) dX10_addUses_18 (Nat.le_of_ble_eq_true rfl) rfl rfl ?_
  refine j_iconst hX (v := 2) (by decide) dX10_addUses_20 ?_
  refine j_iload hX dX10_addUses_21 rfl ?_
  refine j_imul hX dX10_addUses_23 ?_
  refine j_iconst hX (v := 1) (by decide) dX10_addUses_24 ?_
  refine j_isub hX dX10_addUses_25 ?_
  refine jW.top (y := nI (2 * 2 ^ (6 - p) - 1 - 0)) (mask_top (@pow_b p).1) ?_
  refine j_istore hX (ls' := [some (.ref (ad 12)), some (.int (nI j)), some (.ref (ad (30 + j))), some (.ref (ad 1)), some (.int (nI p)), some (.int (nI (2 ^ (6 - p)))), some (.int ((maskF n) ^^^ (-1))), some (.int (nI (2 * 2 ^ (6 - p) - 1 - 0)))]) dX10_addUses_26 (Nat.le_of_ble_eq_true rfl) rfl rfl ?_
  have L28 : ∀ zi i : Nat, 0 ≤ i → i + zi = 2 ^ (6 - p) → jW G X 0 0 28 [some (.ref (ad 12)), some (.int (nI j)), some (.ref (ad (30 + j))), some (.ref (ad 1)), some (.int (nI p)), some (.int (nI (2 ^ (6 - p)))), some (.int (maskF n ^^^ -1)), some (.int (nI (2 * 2 ^ (6 - p) - 1 - i)))] [] (wC G ad (auF os n j p (V, M) i).1 (auF os n j p (V, M) i).2 (enO ad o) (wO ad os o)) := by
    intro zi
    induction zi with
    | zero =>
      intro i h0 hi
      have hin : i = 2 ^ (6 - p) := by omega
      refine j_iload hX dX10_addUses_28 rfl ?_
      refine j_iload hX dX10_addUses_30 rfl ?_
      refine j_icmp_lt_t hX (tgt := 75) dX10_addUses_32 (by decide) (nI_lt (by have := @pow_b p; omega) (by have := @pow_b p; omega)) ?_
      exact j_vret hX dX10_addUses_75 ⟨rfl, by rw [hin]⟩
    | succ zi ih =>
      intro i h0 hi
      have hin : i < 2 ^ (6 - p) := by omega
      refine j_iload hX dX10_addUses_28 rfl ?_
      refine j_iload hX dX10_addUses_30 rfl ?_
      refine j_icmp_lt_f hX (tgt := 75) dX10_addUses_32 (by decide) (nI_nlt (by have := @pow_b p; omega) (by have := @pow_b p; omega)) ?_
      refine j_iload hX dX10_addUses_35 rfl ?_
      refine j_iload hX dX10_addUses_37 rfl ?_
      refine j_iand hX dX10_addUses_39 ?_
      refine j_if_ne hX (tgt := 69) dX10_addUses_40 (by decide) (fun h40 => ?_) (fun h40 => ?_)
      · refine j_iinc hX (v := nI (2 * 2 ^ (6 - p) - 1 - (i + 1))) (ls' := [some (.ref (ad 12)), some (.int (nI j)), some (.ref (ad (30 + j))), some (.ref (ad 1)), some (.int (nI p)), some (.int (nI (2 ^ (6 - p)))), some (.int (maskF n ^^^ -1)), some (.int (nI (2 * 2 ^ (6 - p) - 1 - (i + 1))))]) dX10_addUses_69 rfl (dec_mask (by have := @pow_b p; omega)) rfl rfl ?_
        refine j_goto hX (tgt := 28) dX10_addUses_72 (by decide) ?_
        refine jW.world (ws' := (wC G ad (auF os n j p (V, M) (i + 1)).1 (auF os n j p (V, M) (i + 1)).2 (enO ad o) (wO ad os o))) (by rw [show auF os n j p (V, M) (i + 1) = (auF os n j p (V, M) i) from (if_neg h40)]) ?_
        exact ih (i + 1) (by omega) (by omega)
      · refine j_iload hX dX10_addUses_43 rfl ?_
        refine j_dS hX (nA := 1) (As := [.int (nI (2 * 2 ^ (6 - p) - 1 - i))]) (st := []) (st' := [.int (bcF (nI (2 * 2 ^ (6 - p) - 1 - i)))]) dX10_addUses_45 (c_bitCount G _) gX10_addUses_J6_bitCount_0f7a4 rfl (by decide +kernel) (by omega) (Nat.le_of_ble_eq_true rfl) rfl (Nat.le_of_ble_eq_true rfl) rfl ⟨Nat.le_refl _, Nat.le_refl _⟩ rfl ?_
        refine j_aload_n hX dX10_addUses_48 rfl ?_
        refine vX10_addUses_49 hX (st := [.int (bcF (nI (2 * 2 ^ (6 - p) - 1 - i)))]) (st' := [.int (takenO (os j)), .int (bcF (nI (2 * 2 ^ (6 - p) - 1 - i)))]) (hos j hj) (wO_get _ _ _ _ _ _ _ hj)  (by omega) rfl (Nat.le_of_ble_eq_true rfl) ⟨Nat.le_refl _, Nat.le_refl _⟩ rfl ?_
        refine j_icmp_ne hX (tgt := 69) dX10_addUses_52 (by decide) (fun h52 => ?_) (fun h52 => ?_)
        · refine j_iinc hX (v := nI (2 * 2 ^ (6 - p) - 1 - (i + 1))) (ls' := [some (.ref (ad 12)), some (.int (nI j)), some (.ref (ad (30 + j))), some (.ref (ad 1)), some (.int (nI p)), some (.int (nI (2 ^ (6 - p)))), some (.int (maskF n ^^^ -1)), some (.int (nI (2 * 2 ^ (6 - p) - 1 - (i + 1))))]) dX10_addUses_69 rfl (dec_mask (by have := @pow_b p; omega)) rfl rfl ?_
          refine j_goto hX (tgt := 28) dX10_addUses_72 (by decide) ?_
          refine jW.world (ws' := (wC G ad (auF os n j p (V, M) (i + 1)).1 (auF os n j p (V, M) (i + 1)).2 (enO ad o) (wO ad os o))) (by rw [show auF os n j p (V, M) (i + 1) = (auF os n j p (V, M) i) from ((if_pos h40).trans (if_neg h52))]) ?_
          exact ih (i + 1) (by omega) (by omega)
        · refine j_aload_n hX dX10_addUses_55 rfl ?_
          refine j_iload_n hX dX10_addUses_56 rfl ?_
          refine j_iload hX dX10_addUses_57 rfl ?_
          refine j_aload_n hX dX10_addUses_59 rfl ?_
          refine j_aload_n hX dX10_addUses_60 rfl ?_
          refine j_iload hX dX10_addUses_61 rfl ?_
          refine vX10_addUses_63 hX (st := [.int (nI (2 * 2 ^ (6 - p) - 1 - i)), .int (nI j), .ref (ad 12)]) (st' := [.int (discO (os j) ((auF os n j p (V, M) i).2) (nI (2 * 2 ^ (6 - p) - 1 - i)) n), .int (nI (2 * 2 ^ (6 - p) - 1 - i)), .int (nI j), .ref (ad 12)]) (hos j hj) (wO_get _ _ _ _ _ _ _ hj) n ((auF_V _ _ _ _ _ _ 2 rfl).trans hsz) hn (by omega) rfl (Nat.le_of_ble_eq_true rfl) ⟨Nat.le_refl _, Nat.le_refl _⟩ rfl ?_
          refine j_dV hX (nA := 3) (cq := (RX10, TX10, 5)) (As := [.int (nI j), .int (nI (2 * 2 ^ (6 - p) - 1 - i)), .int (discO (os j) ((auF os n j p (V, M) i).2) (nI (2 * 2 ^ (6 - p) - 1 - i)) n)]) (st := []) (st' := []) (ci := 11) rfl dX10_addUses_66 (c_X10_addUse G _ _ _ _ _ _ _ _) gX10_addUses_X10_addUse rfl (by decide +kernel) (q := 12) (wCg12 _ _ _ _ _ _) (by omega) (Nat.le_of_ble_eq_true rfl) rfl (Nat.le_of_ble_eq_true rfl) rfl ⟨Nat.le_refl _, Nat.le_refl _⟩ rfl ?_
          refine j_iinc hX (v := nI (2 * 2 ^ (6 - p) - 1 - (i + 1))) (ls' := [some (.ref (ad 12)), some (.int (nI j)), some (.ref (ad (30 + j))), some (.ref (ad 1)), some (.int (nI p)), some (.int (nI (2 ^ (6 - p)))), some (.int (maskF n ^^^ -1)), some (.int (nI (2 * 2 ^ (6 - p) - 1 - (i + 1))))]) dX10_addUses_69 rfl (dec_mask (by have := @pow_b p; omega)) rfl rfl ?_
          refine j_goto hX (tgt := 28) dX10_addUses_72 (by decide) ?_
          refine jW.world (ws' := (wC G ad (auF os n j p (V, M) (i + 1)).1 (auF os n j p (V, M) (i + 1)).2 (enO ad o) (wO ad os o))) (by rw [show auF os n j p (V, M) (i + 1) = (addUseF (auF os n j p (V, M) i) (nI j) (nI (2 * 2 ^ (6 - p) - 1 - i)) (discO (os j) ((auF os n j p (V, M) i).2) (nI (2 * 2 ^ (6 - p) - 1 - i)) n)) from ((if_pos h40).trans (if_pos h52))]) ?_
          exact ih (i + 1) (by omega) (by omega)
  exact L28 (2 ^ (6 - p)) 0 (Nat.le_refl _) (by omega)

def fiS (os : Nat → ofr) (o n : Nat) (c : Int32) (p : Nat) (j : Nat) (s : VM) : VM := if leftF os o (s.2 10) c j ≤ 0 then s else auF os n j p s (2 ^ (6 - p))
def fiF (os : Nat → ofr) (o n : Nat) (c : Int32) (p : Nat) (s : VM) (k : Nat) : VM := itr (fiS os o n c p) k s
def foS (os : Nat → ofr) (o n : Nat) (c : Int32) (p : Nat) (s : VM) : VM := fiF os o n c p (s.1, sM s.2 16 (setF 8 (s.2 16) (nI p) (s.1 9))) o
def foF (os : Nat → ofr) (o n : Nat) (c : Int32) (s : VM) (k : Nat) : VM := itr (foS os o n c) k s
def ftS (n : Nat) (i : Nat) (s : VM) : VM := (s.1, sM s.2 16 (setF 8 (s.2 16) (nI (n + i)) (s.1 9)))
def ftF (n : Nat) (s : VM) (k : Nat) : VM := itr (ftS n) k s
def fillF (os : Nat → ofr) (o n : Nat) (c : Int32) (s : VM) : VM := ftF n (foF os o n c (sV s.1 9 0, s.2) n) (8 - n)
theorem fiS_V (os : Nat → ofr) (o n : Nat) (c : Int32) (p k : Nat) (hk : Nat.beq k 9 = false) (j : Nat) (s : VM) : (fiS os o n c p j s).1 k = s.1 k := by
  unfold fiS
  split
  · rfl
  · exact auF_V _ _ _ _ _ _ _ hk
theorem fiF_V (os : Nat → ofr) (o n : Nat) (c : Int32) (p : Nat) (s : VM) (i k : Nat) (hk : Nat.beq k 9 = false) : (fiF os o n c p s i).1 k = s.1 k := itr_V (fiS_V os o n c p k hk) s i
theorem foS_V (os : Nat → ofr) (o n : Nat) (c : Int32) (k : Nat) (hk : Nat.beq k 9 = false) (p : Nat) (s : VM) : (foS os o n c p s).1 k = s.1 k := fiF_V _ _ _ _ _ _ _ _ hk
theorem foF_V (os : Nat → ofr) (o n : Nat) (c : Int32) (s : VM) (i k : Nat) (hk : Nat.beq k 9 = false) : (foF os o n c s i).1 k = s.1 k := itr_V (foS_V os o n c k hk) s i
theorem ftF_V (n : Nat) (s : VM) (i k : Nat) : (ftF n s i).1 k = s.1 k := itr_V (f := ftS n) (fun _ _ => rfl) s i
theorem fillF_V (os : Nat → ofr) (o n : Nat) (c : Int32) (s : VM) (k : Nat) (hk : Nat.beq k 9 = false) : (fillF os o n c s).1 k = s.1 k := by
  refine (ftF_V _ _ _ _).trans ((foF_V _ _ _ _ _ _ _ hk).trans ?_)
  show sV s.1 9 0 k = s.1 k
  unfold sV
  rw [hk]
  rfl
set_option maxHeartbeats 4000000 in
set_option maxRecDepth 100000 in
theorem c_X10_fill (G : jG) (ad : Nat → Nat) (V : Nat → Int32) (M : Nat → Nat → Int32) (os : Nat → ofr) (o : Nat) (c : Int32) (n : Nat) (hsz : V 2 = nI n) (hn : n ≤ 7) (hso : V 4 = nI o) (ho6 : o ≤ 6) (hos : ∀ j, j < o → okO (os j)) : jD G 4 yX10_fill wsX10_fill [.ref (ad 12), .ref (ad 1), .ref (ad 5), .int c] (wC G ad V M (enO ad o) (wO ad os o)) none (wC G ad (fillF os o n c (V, M)).1 (fillF os o n c (V, M)).2 (enO ad o) (wO ad os o)) := by
  refine jC.of (maxL := 6) (cc := cX10_fill) (ret := none) rfl (by decide) [some (.ref (ad 12)), some (.ref (ad 1)), some (.ref (ad 5)), some (.int c), none, none] rfl (Nat.le_of_ble_eq_true rfl) (j_args rfl) (fun X hX => ?_)
  refine j_aload_n hX dX10_fill_0 rfl ?_
  refine j_iconst hX (v := 0) (by decide) dX10_fill_1 ?_
  refine j_putf hX (ws' := (wC G ad (sV V 9 0) M (enO ad o) (wO ad os o))) dX10_fill_2 fX10_fill_24 12 (wCg12 _ _ _ _ _ _) (Nat.le_of_ble_eq_true rfl) rfl rfl (wCp12_4 _ _ _ _ _ _ _) ?_
  refine j_iconst hX (v := 0) (by decide) dX10_fill_5 ?_
  refine j_istore hX (ls' := [some (.ref (ad 12)), some (.ref (ad 1)), some (.ref (ad 5)), some (.int c), some (.int 0), none]) dX10_fill_6 (Nat.le_of_ble_eq_true rfl) rfl rfl ?_
  have L8 : ∀ zp p : Nat, 0 ≤ p → p + zp = n → jW G X 0 0 8 [some (.ref (ad 12)), some (.ref (ad 1)), some (.ref (ad 5)), some (.int c), some (.int (nI p)), none] [] (wC G ad (foF os o n c (sV V 9 0, M) p).1 (foF os o n c (sV V 9 0, M) p).2 (enO ad o) (wO ad os o)) := by
    intro zp
    induction zp with
    | zero =>
      intro p h0p hip
      have hinp : p = n := by omega
      have e2p : (foF os o n c (sV V 9 0, M) p).1 2 = nI n := (foF_V _ _ _ _ _ _ 2 rfl).trans hsz
      refine j_iload hX dX10_fill_8 rfl ?_
      refine j_aload_n hX dX10_fill_10 rfl ?_
      refine j_dV hX (nA := 0) (cq := (RX0, TX0, 5)) (As := []) (st := [.int (nI p)]) (st' := [.int ((foF os o n c (sV V 9 0, M) p).1 2), .int (nI p)]) (ci := 2) rfl dX10_fill_11 (c_X0_size G _ _ _ _ _) gX10_fill_X0_size rfl (by decide +kernel) (q := 1) (wCg1 _ _ _ _ _ _) (by omega) (Nat.le_of_ble_eq_true rfl) rfl (Nat.le_of_ble_eq_true rfl) rfl ⟨Nat.le_refl _, Nat.le_refl _⟩ rfl ?_
      refine j_icmp_ge_t hX (tgt := 79) dX10_fill_14 (by decide) (by rw [e2p, hinp]; exact nI_le (Nat.le_refl _) (by omega)) ?_
      refine j_aload_n hX dX10_fill_79 rfl ?_
      refine j_dV hX (nA := 0) (cq := (RX0, TX0, 5)) (As := []) (st := []) (st' := [.int ((foF os o n c (sV V 9 0, M) p).1 2)]) (ci := 2) rfl dX10_fill_80 (c_X0_size G _ _ _ _ _) gX10_fill_X0_size rfl (by decide +kernel) (q := 1) (wCg1 _ _ _ _ _ _) (by omega) (Nat.le_of_ble_eq_true rfl) rfl (Nat.le_of_ble_eq_true rfl) rfl ⟨Nat.le_refl _, Nat.le_refl _⟩ rfl ?_
      refine jW.top e2p ?_
      refine j_istore hX (ls' := [some (.ref (ad 12)), some (.ref (ad 1)), some (.ref (ad 5)), some (.int c), some (.int (nI n)), none]) dX10_fill_83 (Nat.le_of_ble_eq_true rfl) rfl rfl ?_
      have L85 : ∀ zq q : Nat, 0 ≤ q → q + zq = (8 - n) → jW G X 0 0 85 [some (.ref (ad 12)), some (.ref (ad 1)), some (.ref (ad 5)), some (.int c), some (.int (nI (n + q))), none] [] (wC G ad (ftF n (foF os o n c (sV V 9 0, M) n) q).1 (ftF n (foF os o n c (sV V 9 0, M) n) q).2 (enO ad o) (wO ad os o)) := by
        intro zq
        induction zq with
        | zero =>
          intro q h0q hiq
          have hinq : q = (8 - n) := by omega
          refine j_iload hX dX10_fill_85 rfl ?_
          refine j_bipush hX (v := 7) (by decide) dX10_fill_87 ?_
          refine j_icmp_gt_t hX (tgt := 111) dX10_fill_89 (by decide) (nI_lt (a := 7) (by omega) (by omega)) ?_
          exact j_vret hX dX10_fill_111 ⟨rfl, by rw [hinq]; rfl⟩
        | succ zq ihq =>
          intro q h0q hiq
          have hinq : q < (8 - n) := by omega
          refine j_iload hX dX10_fill_85 rfl ?_
          refine j_bipush hX (v := 7) (by decide) dX10_fill_87 ?_
          refine j_icmp_gt_f hX (tgt := 111) dX10_fill_89 (by decide) (nI_nlt (b := n + q) (a := 7) (by omega) (by decide)) ?_
          refine j_aload_n hX dX10_fill_92 rfl ?_
          refine j_getf hX (v := .ref (ad 16)) dX10_fill_93 fX10_fill_21 12 (wCg12 _ _ _ _ _ _) rfl ?_
          refine j_iload hX dX10_fill_96 rfl ?_
          refine j_aload_n hX dX10_fill_98 rfl ?_
          refine j_getf hX (v := .int ((ftF n (foF os o n c (sV V 9 0, M) n) q).1 9)) dX10_fill_99 fX10_fill_24 12 (wCg12 _ _ _ _ _ _) rfl ?_
          refine j_dSN hX (nA := 3) (As := [.ref (ad 16), .int (nI (n + q)), .int ((ftF n (foF os o n c (sV V 9 0, M) n) q).1 9)]) (st := []) (st' := []) dX10_fill_102 (c_setAt G (q := 16) (wCg16 _ _ _ _ _ _) (by decide) (wCp16 _ _ _ _ _ _ _)) gX10_fill_X11_setAt_n33 rfl (by decide +kernel) (host := "BasketOffers") (by decide +kernel) (by decide +kernel) (by decide +kernel) (by omega) (Nat.le_of_ble_eq_true rfl) rfl (Nat.le_of_ble_eq_true rfl) rfl ⟨Nat.le_refl _, Nat.le_refl _⟩ rfl ?_
          refine j_iinc hX (v := nI (n + q + 1)) (ls' := [some (.ref (ad 12)), some (.ref (ad 1)), some (.ref (ad 5)), some (.int c), some (.int (nI (n + q + 1))), none]) dX10_fill_105 rfl (j_inc1 _) rfl rfl ?_
          refine j_goto hX (tgt := 85) dX10_fill_108 (by decide) ?_
          exact ihq (q + 1) (by omega) (by omega)
      refine jW.world (ws' := (wC G ad (ftF n (foF os o n c (sV V 9 0, M) n) 0).1 (ftF n (foF os o n c (sV V 9 0, M) n) 0).2 (enO ad o) (wO ad os o))) (by rw [hinp]; rfl) ?_
      exact L85 (8 - n) 0 (Nat.le_refl _) (by omega)
    | succ zp ihp =>
      intro p h0p hip
      have hinp : p < n := by omega
      have e2p : (foF os o n c (sV V 9 0, M) p).1 2 = nI n := (foF_V _ _ _ _ _ _ 2 rfl).trans hsz
      refine j_iload hX dX10_fill_8 rfl ?_
      refine j_aload_n hX dX10_fill_10 rfl ?_
      refine j_dV hX (nA := 0) (cq := (RX0, TX0, 5)) (As := []) (st := [.int (nI p)]) (st' := [.int ((foF os o n c (sV V 9 0, M) p).1 2), .int (nI p)]) (ci := 2) rfl dX10_fill_11 (c_X0_size G _ _ _ _ _) gX10_fill_X0_size rfl (by decide +kernel) (q := 1) (wCg1 _ _ _ _ _ _) (by omega) (Nat.le_of_ble_eq_true rfl) rfl (Nat.le_of_ble_eq_true rfl) rfl ⟨Nat.le_refl _, Nat.le_refl _⟩ rfl ?_
      refine j_icmp_ge_f hX (tgt := 79) dX10_fill_14 (by decide) (by rw [e2p]; exact nI_ge hinp (by omega)) ?_
      refine j_aload_n hX dX10_fill_17 rfl ?_
      refine j_getf hX (v := .ref (ad 16)) dX10_fill_18 fX10_fill_21 12 (wCg12 _ _ _ _ _ _) rfl ?_
      refine j_iload hX dX10_fill_21 rfl ?_
      refine j_aload_n hX dX10_fill_23 rfl ?_
      refine j_getf hX (v := .int ((foF os o n c (sV V 9 0, M) p).1 9)) dX10_fill_24 fX10_fill_24 12 (wCg12 _ _ _ _ _ _) rfl ?_
      refine j_dSN hX (nA := 3) (As := [.ref (ad 16), .int (nI p), .int ((foF os o n c (sV V 9 0, M) p).1 9)]) (st := []) (st' := []) dX10_fill_27 (c_setAt G (q := 16) (wCg16 _ _ _ _ _ _) (by decide) (wCp16 _ _ _ _ _ _ _)) gX10_fill_X11_setAt_n33 rfl (by decide +kernel) (host := "BasketOffers") (by decide +kernel) (by decide +kernel) (by decide +kernel) (by omega) (Nat.le_of_ble_eq_true rfl) rfl (Nat.le_of_ble_eq_true rfl) rfl ⟨Nat.le_refl _, Nat.le_refl _⟩ rfl ?_
      refine j_iconst hX (v := 0) (by decide) dX10_fill_30 ?_
      refine j_istore hX (ls' := [some (.ref (ad 12)), some (.ref (ad 1)), some (.ref (ad 5)), some (.int c), some (.int (nI p)), some (.int 0)]) dX10_fill_31 (Nat.le_of_ble_eq_true rfl) rfl rfl ?_
      have L33 : ∀ zj j : Nat, 0 ≤ j → j + zj = o → jW G X 0 0 33 [some (.ref (ad 12)), some (.ref (ad 1)), some (.ref (ad 5)), some (.int c), some (.int (nI p)), some (.int (nI j))] [] (wC G ad (fiF os o n c p ((foF os o n c (sV V 9 0, M) p).1, sM (foF os o n c (sV V 9 0, M) p).2 16 (setF 8 ((foF os o n c (sV V 9 0, M) p).2 16) (nI p) ((foF os o n c (sV V 9 0, M) p).1 9))) j).1 (fiF os o n c p ((foF os o n c (sV V 9 0, M) p).1, sM (foF os o n c (sV V 9 0, M) p).2 16 (setF 8 ((foF os o n c (sV V 9 0, M) p).2 16) (nI p) ((foF os o n c (sV V 9 0, M) p).1 9))) j).2 (enO ad o) (wO ad os o)) := by
        intro zj
        induction zj with
        | zero =>
          intro j h0j hij
          have hinj : j = o := by omega
          have e4j : (fiF os o n c p ((foF os o n c (sV V 9 0, M) p).1, sM (foF os o n c (sV V 9 0, M) p).2 16 (setF 8 ((foF os o n c (sV V 9 0, M) p).2 16) (nI p) ((foF os o n c (sV V 9 0, M) p).1 9))) j).1 4 = nI o := (fiF_V _ _ _ _ _ _ _ 4 rfl).trans ((foF_V _ _ _ _ _ _ 4 rfl).trans hso)
          have e2j : (fiF os o n c p ((foF os o n c (sV V 9 0, M) p).1, sM (foF os o n c (sV V 9 0, M) p).2 16 (setF 8 ((foF os o n c (sV V 9 0, M) p).2 16) (nI p) ((foF os o n c (sV V 9 0, M) p).1 9))) j).1 2 = nI n := (fiF_V _ _ _ _ _ _ _ 2 rfl).trans ((foF_V _ _ _ _ _ _ 2 rfl).trans hsz)
          refine j_iload hX dX10_fill_33 rfl ?_
          refine j_aload_n hX dX10_fill_35 rfl ?_
          refine j_dV hX (nA := 0) (cq := (RX6, TX6, 6)) (As := []) (st := [.int (nI j)]) (st' := [.int ((fiF os o n c p ((foF os o n c (sV V 9 0, M) p).1, sM (foF os o n c (sV V 9 0, M) p).2 16 (setF 8 ((foF os o n c (sV V 9 0, M) p).2 16) (nI p) ((foF os o n c (sV V 9 0, M) p).1 9))) j).1 4), .int (nI j)]) (ci := 7) rfl dX10_fill_36 (c_X6_size G _ _ _ _ _) gX10_fill_X6_size rfl (by decide +kernel) (q := 5) (wCg5 _ _ _ _ _ _) (by omega) (Nat.le_of_ble_eq_true rfl) rfl (Nat.le_of_ble_eq_true rfl) rfl ⟨Nat.le_refl _, Nat.le_refl _⟩ rfl ?_
          refine j_icmp_ge_t hX (tgt := 73) dX10_fill_39 (by decide) (by rw [e4j, hinj]; exact nI_le (Nat.le_refl _) (by omega)) ?_
          refine j_iinc hX (v := nI (p + 1)) (ls' := [some (.ref (ad 12)), some (.ref (ad 1)), some (.ref (ad 5)), some (.int c), some (.int (nI (p + 1))), some (.int (nI j))]) dX10_fill_73 rfl (j_inc1 _) rfl rfl ?_
          refine j_goto hX (tgt := 8) dX10_fill_76 (by decide) ?_
          refine jW.drop (ls' := [some (.ref (ad 12)), some (.ref (ad 1)), some (.ref (ad 5)), some (.int c), some (.int (nI (p + 1))), none]) ⟨Or.inr rfl, Or.inr rfl, Or.inr rfl, Or.inr rfl, Or.inr rfl, Or.inl rfl, trivial⟩ ?_
          refine jW.world (ws' := (wC G ad (foF os o n c (sV V 9 0, M) (p + 1)).1 (foF os o n c (sV V 9 0, M) (p + 1)).2 (enO ad o) (wO ad os o))) (by rw [hinj]; rfl) ?_
          exact ihp (p + 1) (by omega) (by omega)
        | succ zj ihj =>
          intro j h0j hij
          have hinj : j < o := by omega
          have e4j : (fiF os o n c p ((foF os o n c (sV V 9 0, M) p).1, sM (foF os o n c (sV V 9 0, M) p).2 16 (setF 8 ((foF os o n c (sV V 9 0, M) p).2 16) (nI p) ((foF os o n c (sV V 9 0, M) p).1 9))) j).1 4 = nI o := (fiF_V _ _ _ _ _ _ _ 4 rfl).trans ((foF_V _ _ _ _ _ _ 4 rfl).trans hso)
          have e2j : (fiF os o n c p ((foF os o n c (sV V 9 0, M) p).1, sM (foF os o n c (sV V 9 0, M) p).2 16 (setF 8 ((foF os o n c (sV V 9 0, M) p).2 16) (nI p) ((foF os o n c (sV V 9 0, M) p).1 9))) j).1 2 = nI n := (fiF_V _ _ _ _ _ _ _ 2 rfl).trans ((foF_V _ _ _ _ _ _ 2 rfl).trans hsz)
          refine j_iload hX dX10_fill_33 rfl ?_
          refine j_aload_n hX dX10_fill_35 rfl ?_
          refine j_dV hX (nA := 0) (cq := (RX6, TX6, 6)) (As := []) (st := [.int (nI j)]) (st' := [.int ((fiF os o n c p ((foF os o n c (sV V 9 0, M) p).1, sM (foF os o n c (sV V 9 0, M) p).2 16 (setF 8 ((foF os o n c (sV V 9 0, M) p).2 16) (nI p) ((foF os o n c (sV V 9 0, M) p).1 9))) j).1 4), .int (nI j)]) (ci := 7) rfl dX10_fill_36 (c_X6_size G _ _ _ _ _) gX10_fill_X6_size rfl (by decide +kernel) (q := 5) (wCg5 _ _ _ _ _ _) (by omega) (Nat.le_of_ble_eq_true rfl) rfl (Nat.le_of_ble_eq_true rfl) rfl ⟨Nat.le_refl _, Nat.le_refl _⟩ rfl ?_
          refine j_icmp_ge_f hX (tgt := 73) dX10_fill_39 (by decide) (by rw [e4j]; exact nI_ge hinj (by omega)) ?_
          refine j_aload_n hX dX10_fill_42 rfl ?_
          refine j_iload_n hX dX10_fill_43 rfl ?_
          refine j_iload hX dX10_fill_44 rfl ?_
          refine j_dV hX (nA := 2) (cq := (RX6, TX6, 6)) (As := [.int c, .int (nI j)]) (st := []) (st' := [.int (leftF os o ((fiF os o n c p ((foF os o n c (sV V 9 0, M) p).1, sM (foF os o n c (sV V 9 0, M) p).2 16 (setF 8 ((foF os o n c (sV V 9 0, M) p).2 16) (nI p) ((foF os o n c (sV V 9 0, M) p).1 9))) j).2 10) c j)]) (ci := 7) rfl dX10_fill_46 (c_X6_leftFor G _ _ _ _ _ _ j (by omega) ho6 hos) gX10_fill_X6_leftFor rfl (by decide +kernel) (q := 5) (wCg5 _ _ _ _ _ _) (by omega) (Nat.le_of_ble_eq_true rfl) rfl (Nat.le_of_ble_eq_true rfl) rfl ⟨Nat.le_refl _, Nat.le_refl _⟩ rfl ?_
          refine j_if_le hX (tgt := 67) dX10_fill_49 (by decide) (fun h49 => ?_) (fun h49 => ?_)
          · refine j_iinc hX (v := nI (j + 1)) (ls' := [some (.ref (ad 12)), some (.ref (ad 1)), some (.ref (ad 5)), some (.int c), some (.int (nI p)), some (.int (nI (j + 1)))]) dX10_fill_67 rfl (j_inc1 _) rfl rfl ?_
            refine j_goto hX (tgt := 33) dX10_fill_70 (by decide) ?_
            refine jW.world (ws' := (wC G ad (fiF os o n c p ((foF os o n c (sV V 9 0, M) p).1, sM (foF os o n c (sV V 9 0, M) p).2 16 (setF 8 ((foF os o n c (sV V 9 0, M) p).2 16) (nI p) ((foF os o n c (sV V 9 0, M) p).1 9))) (j + 1)).1 (fiF os o n c p ((foF os o n c (sV V 9 0, M) p).1, sM (foF os o n c (sV V 9 0, M) p).2 16 (setF 8 ((foF os o n c (sV V 9 0, M) p).2 16) (nI p) ((foF os o n c (sV V 9 0, M) p).1 9))) (j + 1)).2 (enO ad o) (wO ad os o))) (by rw [show (fiF os o n c p ((foF os o n c (sV V 9 0, M) p).1, sM (foF os o n c (sV V 9 0, M) p).2 16 (setF 8 ((foF os o n c (sV V 9 0, M) p).2 16) (nI p) ((foF os o n c (sV V 9 0, M) p).1 9))) (j + 1)) = (fiF os o n c p ((foF os o n c (sV V 9 0, M) p).1, sM (foF os o n c (sV V 9 0, M) p).2 16 (setF 8 ((foF os o n c (sV V 9 0, M) p).2 16) (nI p) ((foF os o n c (sV V 9 0, M) p).1 9))) j) from (if_pos h49)]) ?_
            exact ihj (j + 1) (by omega) (by omega)
          · refine j_aload_n hX dX10_fill_52 rfl ?_
            refine j_iload hX dX10_fill_53 rfl ?_
            refine j_aload_n hX dX10_fill_55 rfl ?_
            refine j_iload hX dX10_fill_56 rfl ?_
            refine j_dV hX (nA := 1) (cq := (RX6, TX6, 6)) (As := [.int (nI j)]) (st := [.int (nI j), .ref (ad 12)]) (st' := [.ref (ad (30 + j)), .int (nI j), .ref (ad 12)]) (ci := 7) rfl dX10_fill_58 (c_entry_some G _ _ _ _ _ j hinj ho6) gX10_fill_X6_entryOf rfl (by decide +kernel) (q := 5) (wCg5 _ _ _ _ _ _) (by omega) (Nat.le_of_ble_eq_true rfl) rfl (Nat.le_of_ble_eq_true rfl) rfl ⟨Nat.le_refl _, Nat.le_refl _⟩ rfl ?_
            refine j_aload_n hX dX10_fill_61 rfl ?_
            refine j_iload hX dX10_fill_62 rfl ?_
            refine j_dV hX (nA := 4) (cq := (RX10, TX10, 5)) (As := [.int (nI j), .ref (ad (30 + j)), .ref (ad 1), .int (nI p)]) (st := []) (st' := []) (ci := 11) rfl dX10_fill_64 (c_X10_addUses G _ _ _ _ _ j p hinj (by omega) n e2j hn ho6 hos) gX10_fill_X10_addUses rfl (by decide +kernel) (q := 12) (wCg12 _ _ _ _ _ _) (by omega) (Nat.le_of_ble_eq_true rfl) rfl (Nat.le_of_ble_eq_true rfl) rfl ⟨Nat.le_refl _, Nat.le_refl _⟩ rfl ?_
            refine j_iinc hX (v := nI (j + 1)) (ls' := [some (.ref (ad 12)), some (.ref (ad 1)), some (.ref (ad 5)), some (.int c), some (.int (nI p)), some (.int (nI (j + 1)))]) dX10_fill_67 rfl (j_inc1 _) rfl rfl ?_
            refine j_goto hX (tgt := 33) dX10_fill_70 (by decide) ?_
            refine jW.world (ws' := (wC G ad (fiF os o n c p ((foF os o n c (sV V 9 0, M) p).1, sM (foF os o n c (sV V 9 0, M) p).2 16 (setF 8 ((foF os o n c (sV V 9 0, M) p).2 16) (nI p) ((foF os o n c (sV V 9 0, M) p).1 9))) (j + 1)).1 (fiF os o n c p ((foF os o n c (sV V 9 0, M) p).1, sM (foF os o n c (sV V 9 0, M) p).2 16 (setF 8 ((foF os o n c (sV V 9 0, M) p).2 16) (nI p) ((foF os o n c (sV V 9 0, M) p).1 9))) (j + 1)).2 (enO ad o) (wO ad os o))) (by rw [show (fiF os o n c p ((foF os o n c (sV V 9 0, M) p).1, sM (foF os o n c (sV V 9 0, M) p).2 16 (setF 8 ((foF os o n c (sV V 9 0, M) p).2 16) (nI p) ((foF os o n c (sV V 9 0, M) p).1 9))) (j + 1)) = (auF os n j p (fiF os o n c p ((foF os o n c (sV V 9 0, M) p).1, sM (foF os o n c (sV V 9 0, M) p).2 16 (setF 8 ((foF os o n c (sV V 9 0, M) p).2 16) (nI p) ((foF os o n c (sV V 9 0, M) p).1 9))) j) (2 ^ (6 - p))) from (if_neg h49)]) ?_
            exact ihj (j + 1) (by omega) (by omega)
      exact L33 o 0 (Nat.le_refl _) (by omega)
  exact L8 n 0 (Nat.le_refl _) (by omega)

