theorem fX11_bestByTrying_10 : jF wsX11_bestByTrying RX11 10 12 0 true (.object "BasketOffers$Basket") := ⟨(RX11, TX11, 7), tyX11, rfl, by decide, by decide +kernel, by decide +kernel, tyX11_ok, nmX11, rfl, by decide +kernel, by decide +kernel⟩
theorem fX11_bestByTrying_28 : jF wsX11_bestByTrying RX11 28 12 2 true (.object "BasketOffers$Search") := ⟨(RX11, TX11, 7), tyX11, rfl, by decide, by decide +kernel, by decide +kernel, tyX11_ok, nmX11, rfl, by decide +kernel, by decide +kernel⟩
theorem fX11_reason_19 : jF wsX11_reason RX11 19 12 1 true (.object "BasketOffers$OfferBook") := ⟨(RX11, TX11, 7), tyX11, rfl, by decide, by decide +kernel, by decide +kernel, tyX11_ok, nmX11, rfl, by decide +kernel, by decide +kernel⟩
theorem fX11_reason_28 : jF wsX11_reason RX11 28 12 2 true (.object "BasketOffers$Search") := ⟨(RX11, TX11, 7), tyX11, rfl, by decide, by decide +kernel, by decide +kernel, tyX11_ok, nmX11, rfl, by decide +kernel, by decide +kernel⟩
theorem fX11_reason_95 : jF wsX11_reason RX11 95 12 5 false .int := ⟨(RX11, TX11, 7), tyX11, rfl, by decide, by decide +kernel, by decide +kernel, tyX11_ok, nmX11, rfl, by decide +kernel, fun h => by cases h⟩
theorem fX11_sell_10 : jF wsX11_sell RX11 10 12 0 true (.object "BasketOffers$Basket") := ⟨(RX11, TX11, 7), tyX11, rfl, by decide, by decide +kernel, by decide +kernel, tyX11_ok, nmX11, rfl, by decide +kernel, by decide +kernel⟩
theorem fX11_sell_37 : jF wsX11_sell RX11 37 12 3 true (.object "BasketOffers$Bill") := ⟨(RX11, TX11, 7), tyX11, rfl, by decide, by decide +kernel, by decide +kernel, tyX11_ok, nmX11, rfl, by decide +kernel, by decide +kernel⟩
theorem fX11_sell_19 : jF wsX11_sell RX11 19 12 1 true (.object "BasketOffers$OfferBook") := ⟨(RX11, TX11, 7), tyX11, rfl, by decide, by decide +kernel, by decide +kernel, tyX11_ok, nmX11, rfl, by decide +kernel, by decide +kernel⟩
theorem fX11_sell_68 : jF wsX11_sell RX11 68 12 6 false .boolean := ⟨(RX11, TX11, 7), tyX11, rfl, by decide, by decide +kernel, by decide +kernel, tyX11_ok, nmX11, rfl, by decide +kernel, fun h => by cases h⟩
theorem fX11_sell_28 : jF wsX11_sell RX11 28 12 2 true (.object "BasketOffers$Search") := ⟨(RX11, TX11, 7), tyX11, rfl, by decide, by decide +kernel, by decide +kernel, tyX11_ok, nmX11, rfl, by decide +kernel, by decide +kernel⟩
theorem fX11_sell_95 : jF wsX11_sell RX11 95 12 5 false .int := ⟨(RX11, TX11, 7), tyX11, rfl, by decide, by decide +kernel, by decide +kernel, tyX11_ok, nmX11, rfl, by decide +kernel, fun h => by cases h⟩
theorem fX11_sell_44 : jF wsX11_sell RX11 44 12 4 true (.object "BasketOffers$Ledger") := ⟨(RX11, TX11, 7), tyX11, rfl, by decide, by decide +kernel, by decide +kernel, tyX11_ok, nmX11, rfl, by decide +kernel, by decide +kernel⟩
def xtry (V : Nat → Int32) : Option String := if V 2 ≤ 5 then none else some "java/lang/UnsupportedOperationException"
set_option maxHeartbeats 4000000 in
set_option maxRecDepth 100000 in
theorem c_X11_bestByTrying (G : jG) (hG : G.1.stackTraces = false) (ad : Nat → Nat) (V : Nat → Int32) (M : Nat → Nat → Int32) (os : Nat → ofr) (o : Nat) (st : Nat → Nat) (n : Nat) (hsz : V 2 = nI n) (hn : n ≤ 7) (hso : V 4 = nI o) (ho6 : o ≤ 6) (hos : ∀ j, j < o → okO (os j)) (hst : ∀ q, q ≤ 7 → atF 8 ((findF os o n (V, M)).2 16) (nI q) = nI (st q) ∧ st q ≤ 210) : jT G 30 yX11_bestByTrying wsX11_bestByTrying [.ref (ad 0)] (wC G ad V M (enO ad o) (wO ad os o)) 1 6 (fun rv w => xtry V = none ∧ rv = some (.int ((tryF st n (findF os o n (V, M))).1 7)) ∧ w = (wC G ad (tryF st n (findF os o n (V, M))).1 (tryF st n (findF os o n (V, M))).2 (enO ad o) (wO ad os o))) (fun E => xtry V = some E) := by
  refine jT.of hG (maxL := 1) (cc := cX11_bestByTrying) (ret := (some .int)) rfl (by decide) [some (.ref (ad 0))] rfl (Nat.le_of_ble_eq_true rfl) (j_args rfl) (fun X hX hT => ?_)
  refine j_aload_n hX dX11_bestByTrying_0 rfl ?_
  refine j_getf hX (v := .ref (ad 1)) dX11_bestByTrying_1 fX11_bestByTrying_10 0 (wCg0 _ _ _ _ _ _) rfl ?_
  refine j_dV hX (nA := 0) (cq := (RX0, TX0, 5)) (As := []) (st := []) (st' := [.int (V 2)]) (ci := 2) rfl dX11_bestByTrying_4 (c_X0_size G _ _ _ _ _) gX11_bestByTrying_X0_size rfl (by decide +kernel) (q := 1) (wCg1 _ _ _ _ _ _) (by decide) (Nat.le_of_ble_eq_true rfl) rfl (Nat.le_of_ble_eq_true rfl) rfl ⟨by decide, by decide⟩ rfl ?_
  refine j_iconst hX (v := 5) (by decide) dX11_bestByTrying_7 ?_
  refine j_icmp_le hX (tgt := 21) dX11_bestByTrying_8 (by decide) (fun h8 => ?_) (fun h8 => ?_)
  · refine j_aload_n hX dX11_bestByTrying_21 rfl ?_
    refine j_dV hX (nA := 0) (cq := (RX11, TX11, 7)) (As := []) (st := []) (st' := []) (ci := 12) rfl dX11_bestByTrying_22 (c_X11_findBest G _ _ _ _ _ n hsz hn hso ho6 hos) gX11_bestByTrying_X11_findBest rfl (by decide +kernel) (q := 0) (wCg0 _ _ _ _ _ _) (by decide) (Nat.le_of_ble_eq_true rfl) rfl (Nat.le_of_ble_eq_true rfl) rfl ⟨by decide, by decide⟩ rfl ?_
    refine j_aload_n hX dX11_bestByTrying_25 rfl ?_
    refine j_getf hX (v := .ref (ad 11)) dX11_bestByTrying_26 fX11_bestByTrying_28 0 (wCg0 _ _ _ _ _ _) rfl ?_
    refine j_dV hX (nA := 0) (cq := (RX8, TX8, 12)) (As := []) (st := []) (st' := [.int ((tryF st n (findF os o n (V, M))).1 7)]) (ci := 9) rfl dX11_bestByTrying_29 (c_X8_discountByTrying G st _ _ _ _ _ n ((findF_V _ _ _ _ rfl rfl rfl rfl rfl rfl).trans hsz) hn hst) gX11_bestByTrying_X8_discountByTrying rfl (by decide +kernel) (q := 11) (wCg11 _ _ _ _ _ _) (by decide) (Nat.le_of_ble_eq_true rfl) rfl (Nat.le_of_ble_eq_true rfl) rfl ⟨by decide, by decide⟩ rfl ?_
    refine jW.widen (k' := 1) (n' := 6) (by omega) (by omega) ?_
    exact j_iret hX dX11_bestByTrying_32 ⟨((if_pos h8) : xtry V = none), rfl, rfl⟩
  · exact j_throw hX hT (cls := "java/lang/UnsupportedOperationException") (text := "there are too many items in the basket") (names := ["java/lang/RuntimeException", "java/lang/Exception"]) (ic := 159) (by decide +kernel) (by decide +kernel) (by decide +kernel) (by decide +kernel) (by decide +kernel) (by decide +kernel) (fun w (h : w ∈ (vx_atS RX11 159 "java/lang/UnsupportedOperationException" ["java/lang/RuntimeException", "java/lang/Exception"]).filter goodWord) => by unfold wsX11_bestByTrying; simp only [List.mem_cons, List.mem_append, h, true_or, or_true]) x159_ng x159_good dX11_bestByTrying_11 dX11_bestByTrying_14 dX11_bestByTrying_15 dX11_bestByTrying_17 dX11_bestByTrying_20 ((if_neg h8) : xtry V = some "java/lang/UnsupportedOperationException") (by decide) ⟨by decide, by decide⟩ (Nat.le_of_ble_eq_true rfl) rfl (by decide)

def whyV (os : Nat → ofr) (o : Nat) (s : VM) (j u9 : Nat) : Int32 := if timesV s.1 s.2 (nI j) ≤ 0 then (if 0 < leftF os o (s.2 10) (s.1 0) j then (if ipF s.1 s.2 (nI j) 0 u9 = 0 then 99 else if atF 6 (s.2 7) (nI j) &&& s.1 5 = 0 then 98 else 103) else 108) else 117
theorem riv0 {x : Int32} (h : (if x = 0 then 0 else 1 : Int32) = 0) : x = 0 := by
  by_cases e : x = 0
  · exact e
  · rw [if_neg e] at h
    exact absurd h (by decide)
theorem riv1 {x : Int32} (h : ¬ (if x = 0 then 0 else 1 : Int32) = 0) : ¬ x = 0 := fun e => h (by rw [if_pos e])
set_option maxHeartbeats 4000000 in
set_option maxRecDepth 100000 in
theorem c_X11_reason (G : jG) (hG : G.1.stackTraces = false) (ad : Nat → Nat) (V : Nat → Int32) (M : Nat → Nat → Int32) (os : Nat → ofr) (o : Nat) (x : Int32) (u9 : Nat) (n : Nat) (hsz : V 2 = nI n) (hn : n ≤ 7) (hso : V 4 = nI o) (ho6 : o ≤ 6) (hos : ∀ j, j < o → okO (os j)) (hu9 : (findF os o n (V, M)).1 9 = nI u9) (hu : u9 ≤ 210) : jT G 30 yX11_reason wsX11_reason [.ref (ad 0), .int x] (wC G ad V M (enO ad o) (wO ad os o)) 1 6 (fun rv w => xoff V x = none ∧ rv = some (.int (whyV os o (findF os o n (V, M)) x.toNatClampNeg u9)) ∧ w = (wC G ad (findF os o n (V, M)).1 (findF os o n (V, M)).2 (enO ad o) (wO ad os o))) (fun E => xoff V x = some E) := by
  refine jT.of hG (maxL := 2) (cc := cX11_reason) (ret := (some .char)) rfl (by decide) [some (.ref (ad 0)), some (.int x)] rfl (Nat.le_of_ble_eq_true rfl) (j_args rfl) (fun X hX hT => ?_)
  refine j_aload_n hX dX11_reason_0 rfl ?_
  refine j_getf hX (v := .ref (ad 5)) dX11_reason_1 fX11_reason_19 0 (wCg0 _ _ _ _ _ _) rfl ?_
  refine j_iload_n hX dX11_reason_4 rfl ?_
  refine j_dV hX (nA := 1) (cq := (RX6, TX6, 6)) (As := [.int x]) (st := []) (st' := [.int (if x < 0 then 0 else if (V 4) ≤ x then 0 else 1)]) (ci := 7) rfl dX11_reason_5 (c_X6_has G _ _ _ _ _ _) gX11_reason_X6_has rfl (by decide +kernel) (q := 5) (wCg5 _ _ _ _ _ _) (by decide) (Nat.le_of_ble_eq_true rfl) rfl (Nat.le_of_ble_eq_true rfl) rfl ⟨by decide, by decide⟩ rfl ?_
  refine j_if_ne hX (tgt := 21) dX11_reason_8 (by decide) (fun h8 => ?_) (fun h8 => ?_)
  · have hxo := xoff_at hso ho6 h8
    refine jW.locals (ls' := [some (.ref (ad 0)), some (.int (nI x.toNatClampNeg))]) (by rw [← hxo.2]) ?_
    refine j_aload_n hX dX11_reason_21 rfl ?_
    refine j_dV hX (nA := 0) (cq := (RX11, TX11, 7)) (As := []) (st := []) (st' := []) (ci := 12) rfl dX11_reason_22 (c_X11_findBest G _ _ _ _ _ n hsz hn hso ho6 hos) gX11_reason_X11_findBest rfl (by decide +kernel) (q := 0) (wCg0 _ _ _ _ _ _) (by decide) (Nat.le_of_ble_eq_true rfl) rfl (Nat.le_of_ble_eq_true rfl) rfl ⟨by decide, by decide⟩ rfl ?_
    refine j_aload_n hX dX11_reason_25 rfl ?_
    refine j_getf hX (v := .ref (ad 11)) dX11_reason_26 fX11_reason_28 0 (wCg0 _ _ _ _ _ _) rfl ?_
    refine j_iload_n hX dX11_reason_29 rfl ?_
    refine j_dV hX (nA := 1) (cq := (RX8, TX8, 12)) (As := [.int (nI x.toNatClampNeg)]) (st := []) (st' := [.int (timesV ((findF os o n (V, M)).1) ((findF os o n (V, M)).2) (nI x.toNatClampNeg))]) (ci := 9) rfl dX11_reason_30 (c_X8_timesOf G _ _ _ _ _ _) gX11_reason_X8_timesOf rfl (by decide +kernel) (q := 11) (wCg11 _ _ _ _ _ _) (by decide) (Nat.le_of_ble_eq_true rfl) rfl (Nat.le_of_ble_eq_true rfl) rfl ⟨by decide, by decide⟩ rfl ?_
    refine j_if_le hX (tgt := 39) dX11_reason_33 (by decide) (fun h33 => ?_) (fun h33 => ?_)
    · refine j_aload_n hX dX11_reason_39 rfl ?_
      refine j_getf hX (v := .ref (ad 5)) dX11_reason_40 fX11_reason_19 0 (wCg0 _ _ _ _ _ _) rfl ?_
      refine j_aload_n hX dX11_reason_43 rfl ?_
      refine j_getf hX (v := .int ((findF os o n (V, M)).1 0)) dX11_reason_44 fX11_reason_95 0 (wCg0 _ _ _ _ _ _) rfl ?_
      refine j_iload_n hX dX11_reason_47 rfl ?_
      refine j_dV hX (nA := 2) (cq := (RX6, TX6, 6)) (As := [.int ((findF os o n (V, M)).1 0), .int (nI x.toNatClampNeg)]) (st := []) (st' := [.int (leftF os o ((findF os o n (V, M)).2 10) ((findF os o n (V, M)).1 0) x.toNatClampNeg)]) (ci := 7) rfl dX11_reason_48 (c_X6_leftFor G _ _ _ _ _ _ x.toNatClampNeg (by have := hxo.1; omega) ho6 hos) gX11_reason_X6_leftFor rfl (by decide +kernel) (q := 5) (wCg5 _ _ _ _ _ _) (by decide) (Nat.le_of_ble_eq_true rfl) rfl (Nat.le_of_ble_eq_true rfl) rfl ⟨by decide, by decide⟩ rfl ?_
      refine j_if_gt hX (tgt := 57) dX11_reason_51 (by decide) (fun h51 => ?_) (fun h51 => ?_)
      · refine j_aload_n hX dX11_reason_57 rfl ?_
        refine j_getf hX (v := .ref (ad 11)) dX11_reason_58 fX11_reason_28 0 (wCg0 _ _ _ _ _ _) rfl ?_
        refine j_iload_n hX dX11_reason_61 rfl ?_
        refine j_dV hX (nA := 1) (cq := (RX8, TX8, 12)) (As := [.int (nI x.toNatClampNeg)]) (st := []) (st' := [.int (ipF ((findF os o n (V, M)).1) ((findF os o n (V, M)).2) (nI x.toNatClampNeg) 0 u9)]) (ci := 9) rfl dX11_reason_62 (c_X8_isPossible G _ _ _ _ _ _ u9 hu9 hu) gX11_reason_X8_isPossible rfl (by decide +kernel) (q := 11) (wCg11 _ _ _ _ _ _) (by decide) (Nat.le_of_ble_eq_true rfl) rfl (Nat.le_of_ble_eq_true rfl) rfl ⟨by decide, by decide⟩ rfl ?_
        refine j_if_ne hX (tgt := 71) dX11_reason_65 (by decide) (fun h65 => ?_) (fun h65 => ?_)
        · refine j_aload_n hX dX11_reason_71 rfl ?_
          refine j_getf hX (v := .ref (ad 11)) dX11_reason_72 fX11_reason_28 0 (wCg0 _ _ _ _ _ _) rfl ?_
          refine j_iload_n hX dX11_reason_75 rfl ?_
          refine j_dV hX (nA := 1) (cq := (RX8, TX8, 12)) (As := [.int (nI x.toNatClampNeg)]) (st := []) (st' := [.int (if atF 6 ((findF os o n (V, M)).2 7) (nI x.toNatClampNeg) &&& ((findF os o n (V, M)).1 5) = 0 then 0 else 1)]) (ci := 9) rfl dX11_reason_76 (c_X8_usesRivalOf G _ _ _ _ _ _) gX11_reason_X8_usesRivalOf rfl (by decide +kernel) (q := 11) (wCg11 _ _ _ _ _ _) (by decide) (Nat.le_of_ble_eq_true rfl) rfl (Nat.le_of_ble_eq_true rfl) rfl ⟨by decide, by decide⟩ rfl ?_
          refine j_if_eq hX (tgt := 87) dX11_reason_79 (by decide) (fun h79 => ?_) (fun h79 => ?_)
          · refine j_bipush hX (v := 98) (by decide) dX11_reason_87 ?_
            refine jW.widen (k' := 1) (n' := 6) (by omega) (by omega) ?_
            exact j_zret hX (by decide) dX11_reason_89 ⟨((if_neg h8) : xoff V x = none), (congrArg (fun z => some (Value.int z)) (show whyV os o (findF os o n (V, M)) x.toNatClampNeg u9 = 98 from (((if_pos h33).trans (if_pos h51)).trans (if_neg h65)).trans (if_pos (riv0 h79)))).symm, rfl⟩
          · refine j_bipush hX (v := 103) (by decide) dX11_reason_82 ?_
            refine j_goto hX (tgt := 89) dX11_reason_84 (by decide) ?_
            refine jW.widen (k' := 1) (n' := 6) (by omega) (by omega) ?_
            exact j_zret hX (by decide) dX11_reason_89 ⟨((if_neg h8) : xoff V x = none), (congrArg (fun z => some (Value.int z)) (show whyV os o (findF os o n (V, M)) x.toNatClampNeg u9 = 103 from (((if_pos h33).trans (if_pos h51)).trans (if_neg h65)).trans (if_neg (riv1 h79)))).symm, rfl⟩
        · refine j_bipush hX (v := 99) (by decide) dX11_reason_68 ?_
          refine jW.widen (k' := 1) (n' := 6) (by omega) (by omega) ?_
          exact j_zret hX (by decide) dX11_reason_70 ⟨((if_neg h8) : xoff V x = none), (congrArg (fun z => some (Value.int z)) (show whyV os o (findF os o n (V, M)) x.toNatClampNeg u9 = 99 from ((if_pos h33).trans (if_pos h51)).trans (if_pos h65))).symm, rfl⟩
      · refine j_bipush hX (v := 108) (by decide) dX11_reason_54 ?_
        refine jW.widen (k' := 1) (n' := 6) (by omega) (by omega) ?_
        exact j_zret hX (by decide) dX11_reason_56 ⟨((if_neg h8) : xoff V x = none), (congrArg (fun z => some (Value.int z)) (show whyV os o (findF os o n (V, M)) x.toNatClampNeg u9 = 108 from (if_pos h33).trans (if_neg h51))).symm, rfl⟩
    · refine j_bipush hX (v := 117) (by decide) dX11_reason_36 ?_
      refine jW.widen (k' := 1) (n' := 6) (by omega) (by omega) ?_
      exact j_zret hX (by decide) dX11_reason_38 ⟨((if_neg h8) : xoff V x = none), (congrArg (fun z => some (Value.int z)) (show whyV os o (findF os o n (V, M)) x.toNatClampNeg u9 = 117 from if_neg h33)).symm, rfl⟩
  · exact j_throw hX hT (cls := "java/lang/IndexOutOfBoundsException") (text := "there is no such offer") (names := ["java/lang/RuntimeException", "java/lang/Exception"]) (ic := 144) (by decide +kernel) (by decide +kernel) (by decide +kernel) (by decide +kernel) (by decide +kernel) (by decide +kernel) (fun w (h : w ∈ (vx_atS RX11 144 "java/lang/IndexOutOfBoundsException" ["java/lang/RuntimeException", "java/lang/Exception"]).filter goodWord) => by unfold wsX11_reason; simp only [List.mem_cons, List.mem_append, h, true_or, or_true]) x144_ng x144_good dX11_reason_11 dX11_reason_14 dX11_reason_15 dX11_reason_17 dX11_reason_20 ((if_pos h8) : xoff V x = some "java/lang/IndexOutOfBoundsException") (by decide) ⟨by decide, by decide⟩ (Nat.le_of_ble_eq_true rfl) rfl (by decide)

def xsell (V : Nat → Int32) : Option String := if V 2 = 0 then some "java/lang/IllegalStateException" else none
def slA (s : VM) (n : Nat) : VM := itr (fun i s => saleF s (atF 7 (s.2 2) (nI i)) (s.1 0) (atF 7 (s.2 4) (nI i)) (atF 7 (s.2 23) (nI i))) n s
def slB (s : VM) (o : Nat) : VM := itr (fun j s => (sV s.1 14 (s.1 14 + timesV s.1 s.2 (nI j)), sM s.2 10 (setF 24 (s.2 10) (s.1 0 * 6 + nI j) (atF 24 (s.2 10) (s.1 0 * 6 + nI j) + timesV s.1 s.2 (nI j))))) o s
def sellF (os : Nat → ofr) (o n : Nat) (s : VM) : VM := (sV (sV (slB (slA (findF os o n s) n) o).1 2 0) 1 0, (slB (slA (findF os o n s) n) o).2)
theorem saleF_V (s : VM) (a b c d : Int32) {k : Nat} (h1 : Nat.beq k 10 = false) (h2 : Nat.beq k 11 = false) (h3 : Nat.beq k 12 = false) : (saleF s a b c d).1 k = s.1 k := by
  unfold saleF
  split
  · rfl
  · split
    · exact (sV_ne h3).trans ((sV_ne h2).trans (sV_ne h1))
    · rfl
theorem slA_V (s : VM) (n : Nat) {k : Nat} (h1 : Nat.beq k 10 = false) (h2 : Nat.beq k 11 = false) (h3 : Nat.beq k 12 = false) : (slA s n).1 k = s.1 k := itr_V (fun _ s => saleF_V s _ _ _ _ h1 h2 h3) s n
theorem slB_V (s : VM) (o : Nat) {k : Nat} (h1 : Nat.beq k 14 = false) : (slB s o).1 k = s.1 k := itr_V (f := fun j s => (sV s.1 14 (s.1 14 + timesV s.1 s.2 (nI j)), sM s.2 10 (setF 24 (s.2 10) (s.1 0 * 6 + nI j) (atF 24 (s.2 10) (s.1 0 * 6 + nI j) + timesV s.1 s.2 (nI j))))) (fun _ _ => sV_ne h1) s o
set_option maxHeartbeats 4000000 in
set_option maxRecDepth 100000 in
theorem c_X11_sell (G : jG) (hG : G.1.stackTraces = false) (ad : Nat → Nat) (V : Nat → Int32) (M : Nat → Nat → Int32) (os : Nat → ofr) (o : Nat) (n : Nat) (hsz : V 2 = nI n) (hn : n ≤ 7) (hso : V 4 = nI o) (ho6 : o ≤ 6) (hos : ∀ j, j < o → okO (os j)) : jT G 30 yX11_sell wsX11_sell [.ref (ad 0)] (wC G ad V M (enO ad o) (wO ad os o)) 1 6 (fun rv w => xsell V = none ∧ rv = some (.int (mostSum ((findF os o n (V, M)).2 23) (maskF n) 7)) ∧ w = (wC G ad (sellF os o n (V, M)).1 (sellF os o n (V, M)).2 (enO ad o) (wO ad os o))) (fun E => xsell V = some E) := by
  refine jT.of hG (maxL := 4) (cc := cX11_sell) (ret := (some .int)) rfl (by decide) [some (.ref (ad 0)), none, none, none] rfl (Nat.le_of_ble_eq_true rfl) (j_args rfl) (fun X hX hT => ?_)
  refine j_aload_n hX dX11_sell_0 rfl ?_
  refine j_getf hX (v := .ref (ad 1)) dX11_sell_1 fX11_sell_10 0 (wCg0 _ _ _ _ _ _) rfl ?_
  refine j_dV hX (nA := 0) (cq := (RX0, TX0, 5)) (As := []) (st := []) (st' := [.int (V 2)]) (ci := 2) rfl dX11_sell_4 (c_X0_size G _ _ _ _ _) gX11_sell_X0_size rfl (by decide +kernel) (q := 1) (wCg1 _ _ _ _ _ _) (by decide) (Nat.le_of_ble_eq_true rfl) rfl (Nat.le_of_ble_eq_true rfl) rfl ⟨by decide, by decide⟩ rfl ?_
  refine j_if_ne hX (tgt := 20) dX11_sell_7 (by decide) (fun h7 => ?_) (fun h7 => ?_)
  · refine j_aload_n hX dX11_sell_20 rfl ?_
    refine j_dV hX (nA := 0) (cq := (RX11, TX11, 7)) (As := []) (st := []) (st' := []) (ci := 12) rfl dX11_sell_21 (c_X11_findBest G _ _ _ _ _ n hsz hn hso ho6 hos) gX11_sell_X11_findBest rfl (by decide +kernel) (q := 0) (wCg0 _ _ _ _ _ _) (by decide) (Nat.le_of_ble_eq_true rfl) rfl (Nat.le_of_ble_eq_true rfl) rfl ⟨by decide, by decide⟩ rfl ?_
    refine j_aload_n hX dX11_sell_24 rfl ?_
    refine j_getf hX (v := .ref (ad 22)) dX11_sell_25 fX11_sell_37 0 (wCg0 _ _ _ _ _ _) rfl ?_
    refine j_dV hX (nA := 0) (cq := (RX1, TX1, 4)) (As := []) (st := []) (st' := [.int (mostSum ((findF os o n (V, M)).2 23) (maskF n) 7)]) (ci := 3) rfl dX11_sell_28 (c_X1_total G _ _ _ _ _ n ((findF_V _ _ _ _ rfl rfl rfl rfl rfl rfl).trans hsz) hn) gX11_sell_X1_total rfl (by decide +kernel) (q := 22) (wCg22 _ _ _ _ _ _) (by decide) (Nat.le_of_ble_eq_true rfl) rfl (Nat.le_of_ble_eq_true rfl) rfl ⟨by decide, by decide⟩ rfl ?_
    refine j_istore_n hX (ls' := [some (.ref (ad 0)), some (.int (mostSum ((findF os o n (V, M)).2 23) (maskF n) 7)), none, none]) dX11_sell_31 (Nat.le_of_ble_eq_true rfl) rfl rfl ?_
    refine j_iconst hX (v := 0) (by decide) dX11_sell_32 ?_
    refine j_istore_n hX (ls' := [some (.ref (ad 0)), some (.int (mostSum ((findF os o n (V, M)).2 23) (maskF n) 7)), some (.int 0), none]) dX11_sell_33 (Nat.le_of_ble_eq_true rfl) rfl rfl ?_
    have L34 : ∀ za a : Nat, 0 ≤ a → a + za = n → jW G X 0 0 34 [some (.ref (ad 0)), some (.int (mostSum ((findF os o n (V, M)).2 23) (maskF n) 7)), some (.int (nI a)), none] [] (wC G ad (slA (findF os o n (V, M)) a).1 (slA (findF os o n (V, M)) a).2 (enO ad o) (wO ad os o)) := by
      intro za
      induction za with
      | zero =>
        intro a h0a hia
        have hina : a = n := by omega
        have e2a : (slA (findF os o n (V, M)) a).1 2 = nI n := (slA_V _ _ rfl rfl rfl).trans ((findF_V _ _ _ _ rfl rfl rfl rfl rfl rfl).trans hsz)
        refine j_iload_n hX dX11_sell_34 rfl ?_
        refine j_aload_n hX dX11_sell_35 rfl ?_
        refine j_getf hX (v := .ref (ad 1)) dX11_sell_36 fX11_sell_10 0 (wCg0 _ _ _ _ _ _) rfl ?_
        refine j_dV hX (nA := 0) (cq := (RX0, TX0, 5)) (As := []) (st := [.int (nI a)]) (st' := [.int ((slA (findF os o n (V, M)) a).1 2), .int (nI a)]) (ci := 2) rfl dX11_sell_39 (c_X0_size G _ _ _ _ _) gX11_sell_X0_size rfl (by decide +kernel) (q := 1) (wCg1 _ _ _ _ _ _) (by decide) (Nat.le_of_ble_eq_true rfl) rfl (Nat.le_of_ble_eq_true rfl) rfl ⟨by decide, by decide⟩ rfl ?_
        refine j_icmp_ge_t hX (tgt := 86) dX11_sell_42 (by decide) (by rw [e2a, hina]; exact nI_le (Nat.le_refl _) (by omega)) ?_
        refine j_iconst hX (v := 0) (by decide) dX11_sell_86 ?_
        refine j_istore_n hX (ls' := [some (.ref (ad 0)), some (.int (mostSum ((findF os o n (V, M)).2 23) (maskF n) 7)), some (.int 0), none]) dX11_sell_87 (Nat.le_of_ble_eq_true rfl) rfl rfl ?_
        have L88 : ∀ zb b : Nat, 0 ≤ b → b + zb = o → jW G X 0 0 88 [some (.ref (ad 0)), some (.int (mostSum ((findF os o n (V, M)).2 23) (maskF n) 7)), some (.int (nI b)), none] [] (wC G ad (slB (slA (findF os o n (V, M)) n) b).1 (slB (slA (findF os o n (V, M)) n) b).2 (enO ad o) (wO ad os o)) := by
          intro zb
          induction zb with
          | zero =>
            intro b h0b hib
            have hinb : b = o := by omega
            have e4b : (slB (slA (findF os o n (V, M)) n) b).1 4 = nI o := (slB_V _ _ rfl).trans ((slA_V _ _ rfl rfl rfl).trans ((findF_V _ _ _ _ rfl rfl rfl rfl rfl rfl).trans hso))
            refine j_iload_n hX dX11_sell_88 rfl ?_
            refine j_aload_n hX dX11_sell_89 rfl ?_
            refine j_getf hX (v := .ref (ad 5)) dX11_sell_90 fX11_sell_19 0 (wCg0 _ _ _ _ _ _) rfl ?_
            refine j_dV hX (nA := 0) (cq := (RX6, TX6, 6)) (As := []) (st := [.int (nI b)]) (st' := [.int ((slB (slA (findF os o n (V, M)) n) b).1 4), .int (nI b)]) (ci := 7) rfl dX11_sell_93 (c_X6_size G _ _ _ _ _) gX11_sell_X6_size rfl (by decide +kernel) (q := 5) (wCg5 _ _ _ _ _ _) (by decide) (Nat.le_of_ble_eq_true rfl) rfl (Nat.le_of_ble_eq_true rfl) rfl ⟨by decide, by decide⟩ rfl ?_
            refine j_icmp_ge_t hX (tgt := 135) dX11_sell_96 (by decide) (by rw [e4b, hinb]; exact nI_le (Nat.le_refl _) (by omega)) ?_
            refine j_aload_n hX dX11_sell_135 rfl ?_
            refine j_getf hX (v := .ref (ad 1)) dX11_sell_136 fX11_sell_10 0 (wCg0 _ _ _ _ _ _) rfl ?_
            refine j_dV hX (nA := 0) (cq := (RX0, TX0, 5)) (As := []) (st := []) (st' := []) (ci := 2) rfl dX11_sell_139 (c_X0_clear G _ _ _ _ _) gX11_sell_X0_clear rfl (by decide +kernel) (q := 1) (wCg1 _ _ _ _ _ _) (by decide) (Nat.le_of_ble_eq_true rfl) rfl (Nat.le_of_ble_eq_true rfl) rfl ⟨by decide, by decide⟩ rfl ?_
            refine j_aload_n hX dX11_sell_142 rfl ?_
            refine j_iconst hX (v := 0) (by decide) dX11_sell_143 ?_
            refine j_putf hX (ws' := (wC G ad (sV (sV (slB (slA (findF os o n (V, M)) n) b).1 2 0) 1 0) (slB (slA (findF os o n (V, M)) n) b).2 (enO ad o) (wO ad os o))) dX11_sell_144 fX11_sell_68 0 (wCg0 _ _ _ _ _ _) (Nat.le_of_ble_eq_true rfl) (by decide) rfl (wCp0_6 _ _ _ _ _ _ _) ?_
            refine j_iload_n hX dX11_sell_147 rfl ?_
            refine jW.widen (k' := 1) (n' := 6) (by omega) (by omega) ?_
            exact j_iret hX dX11_sell_148 ⟨(if_neg h7 : xsell V = none), rfl, by rw [hinb]; rfl⟩
          | succ zb ihb =>
            intro b h0b hib
            have hinb : b < o := by omega
            have e4b : (slB (slA (findF os o n (V, M)) n) b).1 4 = nI o := (slB_V _ _ rfl).trans ((slA_V _ _ rfl rfl rfl).trans ((findF_V _ _ _ _ rfl rfl rfl rfl rfl rfl).trans hso))
            refine j_iload_n hX dX11_sell_88 rfl ?_
            refine j_aload_n hX dX11_sell_89 rfl ?_
            refine j_getf hX (v := .ref (ad 5)) dX11_sell_90 fX11_sell_19 0 (wCg0 _ _ _ _ _ _) rfl ?_
            refine j_dV hX (nA := 0) (cq := (RX6, TX6, 6)) (As := []) (st := [.int (nI b)]) (st' := [.int ((slB (slA (findF os o n (V, M)) n) b).1 4), .int (nI b)]) (ci := 7) rfl dX11_sell_93 (c_X6_size G _ _ _ _ _) gX11_sell_X6_size rfl (by decide +kernel) (q := 5) (wCg5 _ _ _ _ _ _) (by decide) (Nat.le_of_ble_eq_true rfl) rfl (Nat.le_of_ble_eq_true rfl) rfl ⟨by decide, by decide⟩ rfl ?_
            refine j_icmp_ge_f hX (tgt := 135) dX11_sell_96 (by decide) (by rw [e4b]; exact nI_ge hinb (by omega)) ?_
            refine j_aload_n hX dX11_sell_99 rfl ?_
            refine j_getf hX (v := .ref (ad 11)) dX11_sell_100 fX11_sell_28 0 (wCg0 _ _ _ _ _ _) rfl ?_
            refine j_iload_n hX dX11_sell_103 rfl ?_
            refine j_dV hX (nA := 1) (cq := (RX8, TX8, 12)) (As := [.int (nI b)]) (st := []) (st' := [.int (timesV ((slB (slA (findF os o n (V, M)) n) b).1) ((slB (slA (findF os o n (V, M)) n) b).2) (nI b))]) (ci := 9) rfl dX11_sell_104 (c_X8_timesOf G _ _ _ _ _ _) gX11_sell_X8_timesOf rfl (by decide +kernel) (q := 11) (wCg11 _ _ _ _ _ _) (by decide) (Nat.le_of_ble_eq_true rfl) rfl (Nat.le_of_ble_eq_true rfl) rfl ⟨by decide, by decide⟩ rfl ?_
            refine j_istore_n hX (ls' := [some (.ref (ad 0)), some (.int (mostSum ((findF os o n (V, M)).2 23) (maskF n) 7)), some (.int (nI b)), some (.int (timesV ((slB (slA (findF os o n (V, M)) n) b).1) ((slB (slA (findF os o n (V, M)) n) b).2) (nI b)))]) dX11_sell_107 (Nat.le_of_ble_eq_true rfl) rfl rfl ?_
            refine j_aload_n hX dX11_sell_108 rfl ?_
            refine j_getf hX (v := .ref (ad 5)) dX11_sell_109 fX11_sell_19 0 (wCg0 _ _ _ _ _ _) rfl ?_
            refine j_aload_n hX dX11_sell_112 rfl ?_
            refine j_getf hX (v := .int ((slB (slA (findF os o n (V, M)) n) b).1 0)) dX11_sell_113 fX11_sell_95 0 (wCg0 _ _ _ _ _ _) rfl ?_
            refine j_iload_n hX dX11_sell_116 rfl ?_
            refine j_iload_n hX dX11_sell_117 rfl ?_
            refine j_dV hX (nA := 3) (cq := (RX6, TX6, 6)) (As := [.int ((slB (slA (findF os o n (V, M)) n) b).1 0), .int (nI b), .int (timesV ((slB (slA (findF os o n (V, M)) n) b).1) ((slB (slA (findF os o n (V, M)) n) b).2) (nI b))]) (st := []) (st' := []) (ci := 7) rfl dX11_sell_118 (c_X6_countUses G _ _ _ _ _ _ _ _) gX11_sell_X6_countUses rfl (by decide +kernel) (q := 5) (wCg5 _ _ _ _ _ _) (by decide) (Nat.le_of_ble_eq_true rfl) rfl (Nat.le_of_ble_eq_true rfl) rfl ⟨by decide, by decide⟩ rfl ?_
            refine j_aload_n hX dX11_sell_121 rfl ?_
            refine j_getf hX (v := .ref (ad 25)) dX11_sell_122 fX11_sell_44 0 (wCg0 _ _ _ _ _ _) rfl ?_
            refine j_iload_n hX dX11_sell_125 rfl ?_
            refine j_dV hX (nA := 1) (cq := (RX4, TX4, 9)) (As := [.int (timesV ((slB (slA (findF os o n (V, M)) n) b).1) ((slB (slA (findF os o n (V, M)) n) b).2) (nI b))]) (st := []) (st' := []) (ci := 6) rfl dX11_sell_126 (c_X4_countUses G _ _ _ _ _ _) gX11_sell_X4_countUses rfl (by decide +kernel) (q := 25) (wCg25 _ _ _ _ _ _) (by decide) (Nat.le_of_ble_eq_true rfl) rfl (Nat.le_of_ble_eq_true rfl) rfl ⟨by decide, by decide⟩ rfl ?_
            refine j_iinc hX (v := nI (b + 1)) (ls' := [some (.ref (ad 0)), some (.int (mostSum ((findF os o n (V, M)).2 23) (maskF n) 7)), some (.int (nI (b + 1))), some (.int (timesV ((slB (slA (findF os o n (V, M)) n) b).1) ((slB (slA (findF os o n (V, M)) n) b).2) (nI b)))]) dX11_sell_129 rfl (j_inc1 _) rfl rfl ?_
            refine j_goto hX (tgt := 88) dX11_sell_132 (by decide) ?_
            refine jW.drop (ls' := [some (.ref (ad 0)), some (.int (mostSum ((findF os o n (V, M)).2 23) (maskF n) 7)), some (.int (nI (b + 1))), none]) ⟨Or.inr rfl, Or.inr rfl, Or.inr rfl, Or.inl rfl, trivial⟩ ?_
            exact ihb (b + 1) (by omega) (by omega)
        refine jW.world (ws' := (wC G ad (slB (slA (findF os o n (V, M)) n) 0).1 (slB (slA (findF os o n (V, M)) n) 0).2 (enO ad o) (wO ad os o))) (by rw [hina]; rfl) ?_
        exact L88 o 0 (Nat.le_refl _) (by omega)
      | succ za iha =>
        intro a h0a hia
        have hina : a < n := by omega
        have e2a : (slA (findF os o n (V, M)) a).1 2 = nI n := (slA_V _ _ rfl rfl rfl).trans ((findF_V _ _ _ _ rfl rfl rfl rfl rfl rfl).trans hsz)
        refine j_iload_n hX dX11_sell_34 rfl ?_
        refine j_aload_n hX dX11_sell_35 rfl ?_
        refine j_getf hX (v := .ref (ad 1)) dX11_sell_36 fX11_sell_10 0 (wCg0 _ _ _ _ _ _) rfl ?_
        refine j_dV hX (nA := 0) (cq := (RX0, TX0, 5)) (As := []) (st := [.int (nI a)]) (st' := [.int ((slA (findF os o n (V, M)) a).1 2), .int (nI a)]) (ci := 2) rfl dX11_sell_39 (c_X0_size G _ _ _ _ _) gX11_sell_X0_size rfl (by decide +kernel) (q := 1) (wCg1 _ _ _ _ _ _) (by decide) (Nat.le_of_ble_eq_true rfl) rfl (Nat.le_of_ble_eq_true rfl) rfl ⟨by decide, by decide⟩ rfl ?_
        refine j_icmp_ge_f hX (tgt := 86) dX11_sell_42 (by decide) (by rw [e2a]; exact nI_ge hina (by omega)) ?_
        refine j_aload_n hX dX11_sell_45 rfl ?_
        refine j_getf hX (v := .ref (ad 25)) dX11_sell_46 fX11_sell_44 0 (wCg0 _ _ _ _ _ _) rfl ?_
        refine j_aload_n hX dX11_sell_49 rfl ?_
        refine j_getf hX (v := .ref (ad 1)) dX11_sell_50 fX11_sell_10 0 (wCg0 _ _ _ _ _ _) rfl ?_
        refine j_iload_n hX dX11_sell_53 rfl ?_
        refine j_dV hX (nA := 1) (cq := (RX0, TX0, 5)) (As := [.int (nI a)]) (st := [.ref (ad 25)]) (st' := [.int (atF 7 ((slA (findF os o n (V, M)) a).2 2) (nI a)), .ref (ad 25)]) (ci := 2) rfl dX11_sell_54 (c_X0_numberAt G _ _ _ _ _ _) gX11_sell_X0_numberAt rfl (by decide +kernel) (q := 1) (wCg1 _ _ _ _ _ _) (by decide) (Nat.le_of_ble_eq_true rfl) rfl (Nat.le_of_ble_eq_true rfl) rfl ⟨by decide, by decide⟩ rfl ?_
        refine j_aload_n hX dX11_sell_57 rfl ?_
        refine j_getf hX (v := .int ((slA (findF os o n (V, M)) a).1 0)) dX11_sell_58 fX11_sell_95 0 (wCg0 _ _ _ _ _ _) rfl ?_
        refine j_aload_n hX dX11_sell_61 rfl ?_
        refine j_getf hX (v := .ref (ad 1)) dX11_sell_62 fX11_sell_10 0 (wCg0 _ _ _ _ _ _) rfl ?_
        refine j_iload_n hX dX11_sell_65 rfl ?_
        refine j_dV hX (nA := 1) (cq := (RX0, TX0, 5)) (As := [.int (nI a)]) (st := [.int ((slA (findF os o n (V, M)) a).1 0), .int (atF 7 ((slA (findF os o n (V, M)) a).2 2) (nI a)), .ref (ad 25)]) (st' := [.int (atF 7 ((slA (findF os o n (V, M)) a).2 4) (nI a)), .int ((slA (findF os o n (V, M)) a).1 0), .int (atF 7 ((slA (findF os o n (V, M)) a).2 2) (nI a)), .ref (ad 25)]) (ci := 2) rfl dX11_sell_66 (c_X0_priceAt G _ _ _ _ _ _) gX11_sell_X0_priceAt rfl (by decide +kernel) (q := 1) (wCg1 _ _ _ _ _ _) (by decide) (Nat.le_of_ble_eq_true rfl) rfl (Nat.le_of_ble_eq_true rfl) rfl ⟨by decide, by decide⟩ rfl ?_
        refine j_aload_n hX dX11_sell_69 rfl ?_
        refine j_getf hX (v := .ref (ad 22)) dX11_sell_70 fX11_sell_37 0 (wCg0 _ _ _ _ _ _) rfl ?_
        refine j_iload_n hX dX11_sell_73 rfl ?_
        refine j_dV hX (nA := 1) (cq := (RX1, TX1, 4)) (As := [.int (nI a)]) (st := [.int (atF 7 ((slA (findF os o n (V, M)) a).2 4) (nI a)), .int ((slA (findF os o n (V, M)) a).1 0), .int (atF 7 ((slA (findF os o n (V, M)) a).2 2) (nI a)), .ref (ad 25)]) (st' := [.int (atF 7 ((slA (findF os o n (V, M)) a).2 23) (nI a)), .int (atF 7 ((slA (findF os o n (V, M)) a).2 4) (nI a)), .int ((slA (findF os o n (V, M)) a).1 0), .int (atF 7 ((slA (findF os o n (V, M)) a).2 2) (nI a)), .ref (ad 25)]) (ci := 3) rfl dX11_sell_74 (c_X1_netAt G _ _ _ _ _ _) gX11_sell_X1_netAt rfl (by decide +kernel) (q := 22) (wCg22 _ _ _ _ _ _) (by decide) (Nat.le_of_ble_eq_true rfl) rfl (Nat.le_of_ble_eq_true rfl) rfl ⟨by decide, by decide⟩ rfl ?_
        refine j_dV hX (nA := 4) (cq := (RX4, TX4, 9)) (As := [.int (atF 7 ((slA (findF os o n (V, M)) a).2 2) (nI a)), .int ((slA (findF os o n (V, M)) a).1 0), .int (atF 7 ((slA (findF os o n (V, M)) a).2 4) (nI a)), .int (atF 7 ((slA (findF os o n (V, M)) a).2 23) (nI a))]) (st := []) (st' := []) (ci := 6) rfl dX11_sell_77 (c_X4_enterSale G _ _ _ _ _ _ _ _ _) gX11_sell_X4_enterSale rfl (by decide +kernel) (q := 25) (wCg25 _ _ _ _ _ _) (by decide) (Nat.le_of_ble_eq_true rfl) rfl (Nat.le_of_ble_eq_true rfl) rfl ⟨by decide, by decide⟩ rfl ?_
        refine j_iinc hX (v := nI (a + 1)) (ls' := [some (.ref (ad 0)), some (.int (mostSum ((findF os o n (V, M)).2 23) (maskF n) 7)), some (.int (nI (a + 1))), none]) dX11_sell_80 rfl (j_inc1 _) rfl rfl ?_
        refine j_goto hX (tgt := 34) dX11_sell_83 (by decide) ?_
        exact iha (a + 1) (by omega) (by omega)
    exact L34 n 0 (Nat.le_refl _) (by omega)
  · exact j_throw hX hT (cls := "java/lang/IllegalStateException") (text := "the basket is empty") (names := ["java/lang/RuntimeException", "java/lang/Exception"]) (ic := 67) (by decide +kernel) (by decide +kernel) (by decide +kernel) (by decide +kernel) (by decide +kernel) (by decide +kernel) (fun w (h : w ∈ (vx_atS RX11 67 "java/lang/IllegalStateException" ["java/lang/RuntimeException", "java/lang/Exception"]).filter goodWord) => by unfold wsX11_sell; simp only [List.mem_cons, List.mem_append, h, true_or, or_true]) x67_ng x67_good dX11_sell_10 dX11_sell_13 dX11_sell_14 dX11_sell_16 dX11_sell_19 ((if_pos h7) : xsell V = some "java/lang/IllegalStateException") (by decide) ⟨by decide, by decide⟩ (Nat.le_of_ble_eq_true rfl) rfl (by decide)

