theorem fX12_usesInAll_89 : jF wsX12_usesInAll RX12 89 13 18 false .int := ⟨(RX12, TX12, 37), tyX12, rfl, by decide, by decide +kernel, by decide +kernel, tyX12_ok, nmX12, rfl, by decide +kernel, fun h => by cases h⟩
theorem fX12_usesInAll_232 : jF wsX12_usesInAll RX12 232 13 16 false .int := ⟨(RX12, TX12, 37), tyX12, rfl, by decide, by decide +kernel, by decide +kernel, tyX12_ok, nmX12, rfl, by decide +kernel, fun h => by cases h⟩
theorem fX12_turnover_89 : jF wsX12_turnover RX12 89 13 18 false .int := ⟨(RX12, TX12, 37), tyX12, rfl, by decide, by decide +kernel, by decide +kernel, tyX12_ok, nmX12, rfl, by decide +kernel, fun h => by cases h⟩
theorem fX12_turnover_235 : jF wsX12_turnover RX12 235 13 17 false .long := ⟨(RX12, TX12, 37), tyX12, rfl, by decide, by decide +kernel, by decide +kernel, tyX12_ok, nmX12, rfl, by decide +kernel, fun h => by cases h⟩
theorem fX12_netPrice_89 : jF wsX12_netPrice RX12 89 13 18 false .int := ⟨(RX12, TX12, 37), tyX12, rfl, by decide, by decide +kernel, by decide +kernel, tyX12_ok, nmX12, rfl, by decide +kernel, fun h => by cases h⟩
theorem fX12_netPrice_16 : jF wsX12_netPrice RX12 16 13 2 true (.array .int) := ⟨(RX12, TX12, 37), tyX12, rfl, by decide, by decide +kernel, by decide +kernel, tyX12_ok, nmX12, rfl, by decide +kernel, by decide +kernel⟩
theorem fX12_pays_93 : jF wsX12_pays RX12 93 13 20 false .int := ⟨(RX12, TX12, 37), tyX12, rfl, by decide, by decide +kernel, by decide +kernel, tyX12_ok, nmX12, rfl, by decide +kernel, fun h => by cases h⟩
theorem fX12_pays_16 : jF wsX12_pays RX12 16 13 2 true (.array .int) := ⟨(RX12, TX12, 37), tyX12, rfl, by decide, by decide +kernel, by decide +kernel, tyX12_ok, nmX12, rfl, by decide +kernel, by decide +kernel⟩
theorem fX12_pays_52 : jF wsX12_pays RX12 52 13 19 true (.array .int) := ⟨(RX12, TX12, 37), tyX12, rfl, by decide, by decide +kernel, by decide +kernel, tyX12_ok, nmX12, rfl, by decide +kernel, by decide +kernel⟩
theorem fX12_toPay_89 : jF wsX12_toPay RX12 89 13 18 false .int := ⟨(RX12, TX12, 37), tyX12, rfl, by decide, by decide +kernel, by decide +kernel, tyX12_ok, nmX12, rfl, by decide +kernel, fun h => by cases h⟩
theorem fX12_isSold_96 : jF wsX12_isSold RX12 96 13 5 false .int := ⟨(RX12, TX12, 37), tyX12, rfl, by decide, by decide +kernel, by decide +kernel, tyX12_ok, nmX12, rfl, by decide +kernel, fun h => by cases h⟩
theorem fX12_isSold_22 : jF wsX12_isSold RX12 22 13 4 true (.array .char) := ⟨(RX12, TX12, 37), tyX12, rfl, by decide, by decide +kernel, by decide +kernel, tyX12_ok, nmX12, rfl, by decide +kernel, by decide +kernel⟩
theorem fX12_giveBack_22 : jF wsX12_giveBack RX12 22 13 4 true (.array .char) := ⟨(RX12, TX12, 37), tyX12, rfl, by decide, by decide +kernel, by decide +kernel, tyX12_ok, nmX12, rfl, by decide +kernel, by decide +kernel⟩
theorem fX12_giveBack_89 : jF wsX12_giveBack RX12 89 13 18 false .int := ⟨(RX12, TX12, 37), tyX12, rfl, by decide, by decide +kernel, by decide +kernel, tyX12_ok, nmX12, rfl, by decide +kernel, fun h => by cases h⟩
theorem fX12_giveBack_235 : jF wsX12_giveBack RX12 235 13 17 false .long := ⟨(RX12, TX12, 37), tyX12, rfl, by decide, by decide +kernel, by decide +kernel, tyX12_ok, nmX12, rfl, by decide +kernel, fun h => by cases h⟩
theorem fX12_giveBack_16 : jF wsX12_giveBack RX12 16 13 2 true (.array .int) := ⟨(RX12, TX12, 37), tyX12, rfl, by decide, by decide +kernel, by decide +kernel, tyX12_ok, nmX12, rfl, by decide +kernel, by decide +kernel⟩
theorem fX12_soldTo_89 : jF wsX12_soldTo RX12 89 13 18 false .int := ⟨(RX12, TX12, 37), tyX12, rfl, by decide, by decide +kernel, by decide +kernel, tyX12_ok, nmX12, rfl, by decide +kernel, fun h => by cases h⟩
theorem fX12_soldTo_19 : jF wsX12_soldTo RX12 19 13 3 true (.array .int) := ⟨(RX12, TX12, 37), tyX12, rfl, by decide, by decide +kernel, by decide +kernel, tyX12_ok, nmX12, rfl, by decide +kernel, by decide +kernel⟩
theorem fX12_sold_96 : jF wsX12_sold RX12 96 13 5 false .int := ⟨(RX12, TX12, 37), tyX12, rfl, by decide, by decide +kernel, by decide +kernel, tyX12_ok, nmX12, rfl, by decide +kernel, fun h => by cases h⟩
theorem fX12_sold_16 : jF wsX12_sold RX12 16 13 2 true (.array .int) := ⟨(RX12, TX12, 37), tyX12, rfl, by decide, by decide +kernel, by decide +kernel, tyX12_ok, nmX12, rfl, by decide +kernel, by decide +kernel⟩
theorem fX12_sold_13 : jF wsX12_sold RX12 13 13 1 true (.array .int) := ⟨(RX12, TX12, 37), tyX12, rfl, by decide, by decide +kernel, by decide +kernel, tyX12_ok, nmX12, rfl, by decide +kernel, by decide +kernel⟩
theorem fX12_discountShare_89 : jF wsX12_discountShare RX12 89 13 18 false .int := ⟨(RX12, TX12, 37), tyX12, rfl, by decide, by decide +kernel, by decide +kernel, tyX12_ok, nmX12, rfl, by decide +kernel, fun h => by cases h⟩
theorem fX12_meanNetPrice_89 : jF wsX12_meanNetPrice RX12 89 13 18 false .int := ⟨(RX12, TX12, 37), tyX12, rfl, by decide, by decide +kernel, by decide +kernel, tyX12_ok, nmX12, rfl, by decide +kernel, fun h => by cases h⟩
theorem fX12_sell_93 : jF wsX12_sell RX12 93 13 20 false .int := ⟨(RX12, TX12, 37), tyX12, rfl, by decide, by decide +kernel, by decide +kernel, tyX12_ok, nmX12, rfl, by decide +kernel, fun h => by cases h⟩
theorem fX12_sell_89 : jF wsX12_sell RX12 89 13 18 false .int := ⟨(RX12, TX12, 37), tyX12, rfl, by decide, by decide +kernel, by decide +kernel, tyX12_ok, nmX12, rfl, by decide +kernel, fun h => by cases h⟩
theorem fX12_sell_121 : jF wsX12_sell RX12 121 13 14 false .int := ⟨(RX12, TX12, 37), tyX12, rfl, by decide, by decide +kernel, by decide +kernel, tyX12_ok, nmX12, rfl, by decide +kernel, fun h => by cases h⟩
theorem fX12_sell_235 : jF wsX12_sell RX12 235 13 17 false .long := ⟨(RX12, TX12, 37), tyX12, rfl, by decide, by decide +kernel, by decide +kernel, tyX12_ok, nmX12, rfl, by decide +kernel, fun h => by cases h⟩
theorem fX12_sell_106 : jF wsX12_sell RX12 106 13 28 false .boolean := ⟨(RX12, TX12, 37), tyX12, rfl, by decide, by decide +kernel, by decide +kernel, tyX12_ok, nmX12, rfl, by decide +kernel, fun h => by cases h⟩
theorem fX12_sell_22 : jF wsX12_sell RX12 22 13 4 true (.array .char) := ⟨(RX12, TX12, 37), tyX12, rfl, by decide, by decide +kernel, by decide +kernel, tyX12_ok, nmX12, rfl, by decide +kernel, by decide +kernel⟩
theorem fX12_sell_52 : jF wsX12_sell RX12 52 13 19 true (.array .int) := ⟨(RX12, TX12, 37), tyX12, rfl, by decide, by decide +kernel, by decide +kernel, tyX12_ok, nmX12, rfl, by decide +kernel, by decide +kernel⟩
theorem fX12_sell_19 : jF wsX12_sell RX12 19 13 3 true (.array .int) := ⟨(RX12, TX12, 37), tyX12, rfl, by decide, by decide +kernel, by decide +kernel, tyX12_ok, nmX12, rfl, by decide +kernel, by decide +kernel⟩
theorem fX12_sell_114 : jF wsX12_sell RX12 114 13 6 false .int := ⟨(RX12, TX12, 37), tyX12, rfl, by decide, by decide +kernel, by decide +kernel, tyX12_ok, nmX12, rfl, by decide +kernel, fun h => by cases h⟩
theorem fX12_sell_49 : jF wsX12_sell RX12 49 13 15 true (.array (.array .int)) := ⟨(RX12, TX12, 37), tyX12, rfl, by decide, by decide +kernel, by decide +kernel, tyX12_ok, nmX12, rfl, by decide +kernel, by decide +kernel⟩
theorem fX12_sell_232 : jF wsX12_sell RX12 232 13 16 false .int := ⟨(RX12, TX12, 37), tyX12, rfl, by decide, by decide +kernel, by decide +kernel, tyX12_ok, nmX12, rfl, by decide +kernel, fun h => by cases h⟩
set_option maxHeartbeats 4000000 in
set_option maxRecDepth 100000 in
theorem c_X12_usesInAll (G : jG) (ad : Nat → Nat) (V : Nat → Int32) (M : Nat → Nat → Int32) (t : Int64) : jD G 0 yX12_usesInAll wsX12_usesInAll [.ref (ad 0)] (wM G ad V M t) (some (.int (V 3))) (wM G ad (sV V 4 0) M t) := by
  refine jC.of (maxL := 1) (cc := cX12_usesInAll) (ret := (some .int)) rfl (by decide) [some (.ref (ad 0))] rfl (Nat.le_of_ble_eq_true rfl) (j_args rfl) (fun X hX => ?_)
  refine j_aload_n hX dX12_usesInAll_0 rfl ?_
  refine j_iconst hX (v := 0) (by decide) dX12_usesInAll_1 ?_
  refine j_putf hX (ws' := (wM G ad (sV V 4 0) M t)) dX12_usesInAll_2 fX12_usesInAll_89 0 (wMg0 _ _ _ _ _) (Nat.le_of_ble_eq_true rfl) rfl rfl (wMp0_18 _ _ _ _ _ _) ?_
  refine j_aload_n hX dX12_usesInAll_5 rfl ?_
  refine j_getf hX (v := .int (V 3)) dX12_usesInAll_6 fX12_usesInAll_232 0 (wMg0 _ _ _ _ _) rfl ?_
  exact j_iret hX dX12_usesInAll_9 ⟨rfl, rfl⟩

set_option maxHeartbeats 4000000 in
set_option maxRecDepth 100000 in
theorem c_X12_turnover (G : jG) (ad : Nat → Nat) (V : Nat → Int32) (M : Nat → Nat → Int32) (t : Int64) : jD G 0 yX12_turnover wsX12_turnover [.ref (ad 0)] (wM G ad V M t) (some (.long t)) (wM G ad (sV V 4 0) M t) := by
  refine jC.of (maxL := 1) (cc := cX12_turnover) (ret := (some .long)) rfl (by decide) [some (.ref (ad 0))] rfl (Nat.le_of_ble_eq_true rfl) (j_args rfl) (fun X hX => ?_)
  refine j_aload_n hX dX12_turnover_0 rfl ?_
  refine j_iconst hX (v := 0) (by decide) dX12_turnover_1 ?_
  refine j_putf hX (ws' := (wM G ad (sV V 4 0) M t)) dX12_turnover_2 fX12_turnover_89 0 (wMg0 _ _ _ _ _) (Nat.le_of_ble_eq_true rfl) rfl rfl (wMp0_18 _ _ _ _ _ _) ?_
  refine j_aload_n hX dX12_turnover_5 rfl ?_
  refine j_getf hX (v := .long t) dX12_turnover_6 fX12_turnover_235 0 (wMg0 _ _ _ _ _) rfl ?_
  exact j_lret hX dX12_turnover_9 ⟨rfl, rfl⟩

def mnet (a o c : Nat) (V : Nat → Int32) (M : Nat → Nat → Int32) (x : Int32) : Int32 × VM := if ibM a (M 5) x = 0 then (0, (sV V 4 1, M)) else ((fdF a o c (sV V 4 0, M)).2 3 x.toNatClampNeg, fdF a o c (sV V 4 0, M))
def paysF (a o c : Nat) (s : VM) : Int32 := sumB ((fdL a o c s).2 3) ((fdL a o c s).2 14) (cb ((fdL a o c s).2 5) a)
set_option maxHeartbeats 4000000 in
set_option maxRecDepth 100000 in
theorem c_X12_netPrice (G : jG) (ad : Nat → Nat) (V : Nat → Int32) (M : Nat → Nat → Int32) (t : Int64) (a o c : Nat) (hJ : mJ a o c V M) (hok : V 7 = 0 → fdOK a o c (sV V 4 0, M)) (x : Int32) : jD G 77 yX12_netPrice wsX12_netPrice [.ref (ad 0), .int x] (wM G ad V M t) (some (.int (mnet a o c V M x).1)) (wM G ad (mnet a o c V M x).2.1 (mnet a o c V M x).2.2 t) := by
  refine jC.of (maxL := 2) (cc := cX12_netPrice) (ret := (some .int)) rfl (by decide) [some (.ref (ad 0)), some (.int x)] rfl (Nat.le_of_ble_eq_true rfl) (j_args rfl) (fun X hX => ?_)
  have hJ0 := hJ
  obtain ⟨ha, ha6, hcb, ho2, ho, hc1, hc, hG4⟩ := hJ
  refine j_aload_n hX dX12_netPrice_0 rfl ?_
  refine j_aload_n hX dX12_netPrice_1 rfl ?_
  refine j_iload_n hX dX12_netPrice_2 rfl ?_
  refine j_dV hX (nA := 1) (cq := (RX12, TX12, 37)) (As := [.int x]) (st := [.ref (ad 0)]) (st' := [.int (ibM a (M 5) x), .ref (ad 0)]) (ci := 13) rfl dX12_netPrice_3 (c_X12_isInBasket G _ V M _ a ha ha6 _) gX12_netPrice_X12_isInBasket rfl (by decide +kernel) (q := 0) (wMg0 _ _ _ _ _) (by decide) (Nat.le_of_ble_eq_true rfl) rfl (Nat.le_of_ble_eq_true rfl) rfl ⟨Nat.le_refl _, Nat.le_refl _⟩ rfl ?_
  refine j_if_eq hX (tgt := 13) dX12_netPrice_6 (by decide) (fun h6 => ?_) (fun h6 => ?_)
  · refine j_iconst hX (v := 1) (by decide) dX12_netPrice_13 ?_
    refine j_putf hX (ws' := (wM G ad (sV V 4 1) M t)) dX12_netPrice_14 fX12_netPrice_89 0 (wMg0 _ _ _ _ _) (Nat.le_of_ble_eq_true rfl) rfl rfl (wMp0_18 _ _ _ _ _ _) ?_
    refine j_aload_n hX dX12_netPrice_17 rfl ?_
    refine j_getf hX (v := .int 1) dX12_netPrice_18 fX12_netPrice_89 0 (wMg0 _ _ _ _ _) rfl ?_
    refine j_if_le_f hX (tgt := 26) dX12_netPrice_21 (by decide) (by decide) ?_
    refine j_iconst hX (v := 0) (by decide) dX12_netPrice_24 ?_
    exact j_iret hX dX12_netPrice_25 (by have e8 : mnet a o c V M x = (0, ((sV V 4 1), M)) := (if_pos h6); rw [e8]; exact ⟨rfl, rfl⟩)
  · refine j_iconst hX (v := 0) (by decide) dX12_netPrice_9 ?_
    refine j_goto hX (tgt := 14) dX12_netPrice_10 (by decide) ?_
    refine j_putf hX (ws' := (wM G ad (sV V 4 0) M t)) dX12_netPrice_14 fX12_netPrice_89 0 (wMg0 _ _ _ _ _) (Nat.le_of_ble_eq_true rfl) rfl rfl (wMp0_18 _ _ _ _ _ _) ?_
    refine j_aload_n hX dX12_netPrice_17 rfl ?_
    refine j_getf hX (v := .int 0) dX12_netPrice_18 fX12_netPrice_89 0 (wMg0 _ _ _ _ _) rfl ?_
    refine j_if_le_t hX (tgt := 26) dX12_netPrice_21 (by decide) (by decide) ?_
    refine j_aload_n hX dX12_netPrice_26 rfl ?_
    refine j_dV hX (nA := 0) (cq := (RX12, TX12, 37)) (As := []) (st := []) (st' := []) (ci := 13) rfl dX12_netPrice_27 (c_X12_finds G _ (sV V 4 0) M _ a o c hJ0 hok) gX12_netPrice_X12_finds rfl (by decide +kernel) (q := 0) (wMg0 _ _ _ _ _) (by decide) (Nat.le_of_ble_eq_true rfl) rfl (Nat.le_of_ble_eq_true rfl) rfl ⟨Nat.le_refl _, Nat.le_refl _⟩ rfl ?_
    refine j_aload_n hX dX12_netPrice_30 rfl ?_
    refine j_getf hX (v := .ref (ad 3)) dX12_netPrice_31 fX12_netPrice_16 0 (wMg0 _ _ _ _ _) rfl ?_
    refine j_iload_n hX dX12_netPrice_34 rfl ?_
    refine j_iald hX (v := ((fdF a o c ((sV V 4 0), M)).2 3) x.toNatClampNeg) dX12_netPrice_35 3 (wMg3 _ _ _ _ _) (ib_in ha6 h6) rfl ?_
    exact j_iret hX dX12_netPrice_36 (by have e8 : mnet a o c V M x = (((fdF a o c ((sV V 4 0), M)).2 3) x.toNatClampNeg, (fdF a o c ((sV V 4 0), M))) := (if_neg h6); rw [e8]; exact ⟨rfl, rfl⟩)

set_option maxHeartbeats 4000000 in
set_option maxRecDepth 100000 in
theorem c_X12_pays (G : jG) (ad : Nat → Nat) (V : Nat → Int32) (M : Nat → Nat → Int32) (t : Int64) (a o c : Nat) (hJ : mJ a o c V M) (hok : V 7 = 0 → fdOK a o c (V, M)) : jD G 77 yX12_pays wsX12_pays [.ref (ad 0)] (wM G ad V M t) (some (.int (paysF a o c (V, M)))) (wM G ad (fdL a o c (V, M)).1 (fdL a o c (V, M)).2 t) := by
  refine jC.of (maxL := 3) (cc := cX12_pays) (ret := (some .int)) rfl (by decide) [some (.ref (ad 0)), none, none] rfl (Nat.le_of_ble_eq_true rfl) (j_args rfl) (fun X hX => ?_)
  have hJ0 := hJ
  obtain ⟨ha, ha6, hcb, ho2, ho, hc1, hc, hG4⟩ := hJ
  refine j_aload_n hX dX12_pays_0 rfl ?_
  refine j_dV hX (nA := 0) (cq := (RX12, TX12, 37)) (As := []) (st := []) (st' := []) (ci := 13) rfl dX12_pays_1 (c_X12_finds G _ V M _ a o c hJ0 hok) gX12_pays_X12_finds rfl (by decide +kernel) (q := 0) (wMg0 _ _ _ _ _) (by decide) (Nat.le_of_ble_eq_true rfl) rfl (Nat.le_of_ble_eq_true rfl) rfl ⟨Nat.le_refl _, Nat.le_refl _⟩ rfl ?_
  have hJF := fdF_J hJ0
  have h7F : cb ((fdL a o c (V, M)).2 5) a ≤ 7 := hJF.2.2.1
  refine j_aload_n hX dX12_pays_4 rfl ?_
  refine j_dV hX (nA := 0) (cq := (RX12, TX12, 37)) (As := []) (st := []) (st' := []) (ci := 13) rfl dX12_pays_5 (c_X12_looks G _ ((fdF a o c (V, M)).1) ((fdF a o c (V, M)).2) _ a hJF.1 hJF.2.1 hJF.2.2.1) gX12_pays_X12_looks rfl (by decide +kernel) (q := 0) (wMg0 _ _ _ _ _) (by decide) (Nat.le_of_ble_eq_true rfl) rfl (Nat.le_of_ble_eq_true rfl) rfl ⟨Nat.le_refl _, Nat.le_refl _⟩ rfl ?_
  refine jW.world (ws' := (wM G ad (fdL a o c (V, M)).1 (fdL a o c (V, M)).2 t)) rfl ?_
  refine j_iconst hX (v := 0) (by decide) dX12_pays_8 ?_
  refine j_istore_n hX (ls' := [some (.ref (ad 0)), some (.int 0), none]) dX12_pays_9 (Nat.le_of_ble_eq_true rfl) rfl rfl ?_
  refine j_iconst hX (v := 0) (by decide) dX12_pays_10 ?_
  refine j_istore_n hX (ls' := [some (.ref (ad 0)), some (.int 0), some (.int 0)]) dX12_pays_11 (Nat.le_of_ble_eq_true rfl) rfl rfl ?_
  have L12 : ∀ zi i : Nat, 0 ≤ i → i + zi = cb ((fdL a o c (V, M)).2 5) a → jW G X 0 0 12 [some (.ref (ad 0)), some (.int (sumB ((fdL a o c (V, M)).2 3) ((fdL a o c (V, M)).2 14) i)), some (.int (nI i))] [] (wM G ad (fdL a o c (V, M)).1 (fdL a o c (V, M)).2 t) := by
    intro zi
    induction zi with
    | zero =>
      intro i h0 hi
      have hin : i = cb ((fdL a o c (V, M)).2 5) a := by omega
      refine j_iload_n hX dX12_pays_12 rfl ?_
      refine j_aload_n hX dX12_pays_13 rfl ?_
      refine j_getf hX (v := .int ((fdL a o c (V, M)).1 5)) dX12_pays_14 fX12_pays_93 0 (wMg0 _ _ _ _ _) rfl ?_
      refine jW.top (y := nI (cb ((fdL a o c (V, M)).2 5) a)) rfl ?_
      refine j_icmp_ge_t hX (tgt := 40) dX12_pays_17 (by decide) (by rw [hin]; exact nI_le (Nat.le_refl _) (by omega)) ?_
      refine j_iload_n hX dX12_pays_40 rfl ?_
      exact j_iret hX dX12_pays_41 ⟨by rw [hin]; rfl, rfl⟩
    | succ zi ih =>
      intro i h0 hi
      have hin : i < cb ((fdL a o c (V, M)).2 5) a := by omega
      refine j_iload_n hX dX12_pays_12 rfl ?_
      refine j_aload_n hX dX12_pays_13 rfl ?_
      refine j_getf hX (v := .int ((fdL a o c (V, M)).1 5)) dX12_pays_14 fX12_pays_93 0 (wMg0 _ _ _ _ _) rfl ?_
      refine jW.top (y := nI (cb ((fdL a o c (V, M)).2 5) a)) rfl ?_
      refine j_icmp_ge_f hX (tgt := 40) dX12_pays_17 (by decide) (nI_ge hin (by omega)) ?_
      refine j_iload_n hX dX12_pays_20 rfl ?_
      refine j_aload_n hX dX12_pays_21 rfl ?_
      refine j_getf hX (v := .ref (ad 3)) dX12_pays_22 fX12_pays_16 0 (wMg0 _ _ _ _ _) rfl ?_
      refine j_aload_n hX dX12_pays_25 rfl ?_
      refine j_getf hX (v := .ref (ad 14)) dX12_pays_26 fX12_pays_52 0 (wMg0 _ _ _ _ _) rfl ?_
      refine j_iload_n hX dX12_pays_29 rfl ?_
      refine j_iald hX (v := ((fdL a o c (V, M)).2 14) i) dX12_pays_30 14 (wMg14 _ _ _ _ _) (nI_in (by omega) (by decide)) (rdc (by omega)) ?_
      refine j_iald hX (v := ((fdL a o c (V, M)).2 3) ((((fdL a o c (V, M)).2 14) i).toNatClampNeg)) dX12_pays_31 3 (wMg3 _ _ _ _ _) (lkA_in ha6 (show i < cb ((fdF a o c (V, M)).2 5) a from hin)) rfl ?_
      refine j_iadd hX dX12_pays_32 ?_
      refine j_istore_n hX (ls' := [some (.ref (ad 0)), some (.int ((sumB ((fdL a o c (V, M)).2 3) ((fdL a o c (V, M)).2 14) i) + (((fdL a o c (V, M)).2 3) ((((fdL a o c (V, M)).2 14) i).toNatClampNeg)))), some (.int (nI i))]) dX12_pays_33 (Nat.le_of_ble_eq_true rfl) rfl rfl ?_
      refine j_iinc hX (v := nI (i + 1)) (ls' := [some (.ref (ad 0)), some (.int ((sumB ((fdL a o c (V, M)).2 3) ((fdL a o c (V, M)).2 14) i) + (((fdL a o c (V, M)).2 3) ((((fdL a o c (V, M)).2 14) i).toNatClampNeg)))), some (.int (nI (i + 1)))]) dX12_pays_34 rfl (j_inc1 _) rfl rfl ?_
      refine j_goto hX (tgt := 12) dX12_pays_37 (by decide) ?_
      exact ih (i + 1) (by omega) (by omega)
  exact L12 (cb ((fdL a o c (V, M)).2 5) a) 0 (Nat.le_refl _) (by omega)

set_option maxHeartbeats 4000000 in
set_option maxRecDepth 100000 in
theorem c_X12_toPay (G : jG) (ad : Nat → Nat) (V : Nat → Int32) (M : Nat → Nat → Int32) (t : Int64) (a o c : Nat) (hJ : mJ a o c V M) (hok : V 7 = 0 → fdOK a o c (sV V 4 0, M)) : jD G 78 yX12_toPay wsX12_toPay [.ref (ad 0)] (wM G ad V M t) (some (.int (paysF a o c (sV V 4 0, M)))) (wM G ad (fdL a o c (sV V 4 0, M)).1 (fdL a o c (sV V 4 0, M)).2 t) := by
  refine jC.of (maxL := 1) (cc := cX12_toPay) (ret := (some .int)) rfl (by decide) [some (.ref (ad 0))] rfl (Nat.le_of_ble_eq_true rfl) (j_args rfl) (fun X hX => ?_)
  have hJ0 := hJ
  obtain ⟨ha, ha6, hcb, ho2, ho, hc1, hc, hG4⟩ := hJ
  refine j_aload_n hX dX12_toPay_0 rfl ?_
  refine j_iconst hX (v := 0) (by decide) dX12_toPay_1 ?_
  refine j_putf hX (ws' := (wM G ad (sV V 4 0) M t)) dX12_toPay_2 fX12_toPay_89 0 (wMg0 _ _ _ _ _) (Nat.le_of_ble_eq_true rfl) rfl rfl (wMp0_18 _ _ _ _ _ _) ?_
  refine j_aload_n hX dX12_toPay_5 rfl ?_
  refine j_dV hX (nA := 0) (cq := (RX12, TX12, 37)) (As := []) (st := []) (st' := [.int (paysF a o c ((sV V 4 0), M))]) (ci := 13) rfl dX12_toPay_6 (c_X12_pays G _ (sV V 4 0) M _ a o c hJ0 hok) gX12_toPay_X12_pays rfl (by decide +kernel) (q := 0) (wMg0 _ _ _ _ _) (by decide) (Nat.le_of_ble_eq_true rfl) rfl (Nat.le_of_ble_eq_true rfl) rfl ⟨Nat.le_refl _, Nat.le_refl _⟩ rfl ?_
  exact j_iret hX dX12_toPay_9 ⟨rfl, rfl⟩

def sdM (a : Nat) (f : Nat → Int32) (x : Int32) : Int32 := if withinV x 0 (nI a - 1) = 0 then 0 else if f x.toNatClampNeg = 115 then 1 else if f x.toNatClampNeg = 114 then 1 else 0
theorem sd_in {a : Nat} {f : Nat → Int32} {x : Int32} (ha : a ≤ 60) (h : ¬ sdM a f x = 0) : vp_in x 60 := by
  refine within_in ha fun e => h ?_
  unfold sdM
  rw [if_pos e]
set_option maxHeartbeats 4000000 in
set_option maxRecDepth 100000 in
theorem c_X12_isSold (G : jG) (ad : Nat → Nat) (V : Nat → Int32) (M : Nat → Nat → Int32) (t : Int64) (a : Nat) (ha : V 0 = nI a) (ha6 : a ≤ 60) (x : Int32) : jD G 1 yX12_isSold wsX12_isSold [.ref (ad 0), .int x] (wM G ad V M t) (some (.int (sdM a (M 5) x))) (wM G ad V M t) := by
  refine jC.of (maxL := 2) (cc := cX12_isSold) (ret := (some .boolean)) rfl (by decide) [some (.ref (ad 0)), some (.int x)] rfl (Nat.le_of_ble_eq_true rfl) (j_args rfl) (fun X hX => ?_)
  refine j_iload_n hX dX12_isSold_0 rfl ?_
  refine j_iconst hX (v := 0) (by decide) dX12_isSold_1 ?_
  refine j_aload_n hX dX12_isSold_2 rfl ?_
  refine j_getf hX (v := .int (V 0)) dX12_isSold_3 fX12_isSold_96 0 (wMg0 _ _ _ _ _) rfl ?_
  refine jW.top ha ?_
  refine j_iconst hX (v := 1) (by decide) dX12_isSold_6 ?_
  refine j_isub hX dX12_isSold_7 ?_
  refine j_dS hX (nA := 3) (As := [.int x, .int 0, .int ((nI a) - 1)]) (st := []) (st' := [.int (withinV x 0 ((nI a) - 1))]) dX12_isSold_8 (c_X12_in G) gX12_isSold_X12_in rfl (by decide +kernel) (by decide) (Nat.le_of_ble_eq_true rfl) rfl (Nat.le_of_ble_eq_true rfl) rfl ⟨Nat.le_refl _, Nat.le_refl _⟩ rfl ?_
  refine j_if_eq hX (tgt := 40) dX12_isSold_11 (by decide) (fun h11 => ?_) (fun h11 => ?_)
  · refine j_iconst hX (v := 0) (by decide) dX12_isSold_40 ?_
    exact j_zret hX (by decide) dX12_isSold_41 ⟨congrArg (fun z => some (Value.int z)) (show 0 = sdM a (M 5) x by simp only [sdM, if_pos h11]), rfl⟩
  · refine j_aload_n hX dX12_isSold_14 rfl ?_
    refine j_getf hX (v := .ref (ad 5)) dX12_isSold_15 fX12_isSold_22 0 (wMg0 _ _ _ _ _) rfl ?_
    refine j_iload_n hX dX12_isSold_18 rfl ?_
    refine j_cald hX (v := (M 5) x.toNatClampNeg) dX12_isSold_19 5 (wMg5 _ _ _ _ _) (within_in ha6 h11) rfl ?_
    refine j_bipush hX (v := 115) (by decide) dX12_isSold_20 ?_
    refine j_icmp_eq hX (tgt := 36) dX12_isSold_22 (by decide) (fun h22 => ?_) (fun h22 => ?_)
    · refine j_iconst hX (v := 1) (by decide) dX12_isSold_36 ?_
      refine j_goto hX (tgt := 41) dX12_isSold_37 (by decide) ?_
      exact j_zret hX (by decide) dX12_isSold_41 ⟨congrArg (fun z => some (Value.int z)) (show 1 = sdM a (M 5) x by simp only [sdM, if_neg h11, if_pos h22]), rfl⟩
    · refine j_aload_n hX dX12_isSold_25 rfl ?_
      refine j_getf hX (v := .ref (ad 5)) dX12_isSold_26 fX12_isSold_22 0 (wMg0 _ _ _ _ _) rfl ?_
      refine j_iload_n hX dX12_isSold_29 rfl ?_
      refine j_cald hX (v := (M 5) x.toNatClampNeg) dX12_isSold_30 5 (wMg5 _ _ _ _ _) (within_in ha6 h11) rfl ?_
      refine j_bipush hX (v := 114) (by decide) dX12_isSold_31 ?_
      refine j_icmp_ne hX (tgt := 40) dX12_isSold_33 (by decide) (fun h33 => ?_) (fun h33 => ?_)
      · refine j_iconst hX (v := 0) (by decide) dX12_isSold_40 ?_
        exact j_zret hX (by decide) dX12_isSold_41 ⟨congrArg (fun z => some (Value.int z)) (show 0 = sdM a (M 5) x by simp only [sdM, if_neg h11, if_neg h22, if_neg h33]), rfl⟩
      · refine j_iconst hX (v := 1) (by decide) dX12_isSold_36 ?_
        refine j_goto hX (tgt := 41) dX12_isSold_37 (by decide) ?_
        exact j_zret hX (by decide) dX12_isSold_41 ⟨congrArg (fun z => some (Value.int z)) (show 1 = sdM a (M 5) x by simp only [sdM, if_neg h11, if_neg h22, if_pos h33]), rfl⟩

def mgbE (a : Nat) (f : Nat → Int32) (x : Int32) : Int32 := if sdM a f x = 0 then 1 else if f x.toNatClampNeg = 114 then 2 else 0
def mgb (a : Nat) (V : Nat → Int32) (M : Nat → Nat → Int32) (t : Int64) (x : Int32) : Int32 × VM × Int64 := if mgbE a (M 5) x = 0 then (M 3 x.toNatClampNeg, (sV V 4 0, sM M 5 (upd (M 5) x.toNatClampNeg 114)), t - (M 3 x.toNatClampNeg).toInt64) else (0, (sV V 4 (mgbE a (M 5) x), M), t)
def msto (a : Nat) (V : Nat → Int32) (M : Nat → Nat → Int32) (x : Int32) : Int32 × VM := if sdM a (M 5) x = 0 then (0, (sV V 4 1, M)) else (M 4 x.toNatClampNeg, (sV V 4 0, M))
set_option maxHeartbeats 4000000 in
set_option maxRecDepth 100000 in
theorem c_X12_giveBack (G : jG) (ad : Nat → Nat) (V : Nat → Int32) (M : Nat → Nat → Int32) (t : Int64) (a : Nat) (ha : V 0 = nI a) (ha6 : a ≤ 60) (x : Int32) : jD G 2 yX12_giveBack wsX12_giveBack [.ref (ad 0), .int x] (wM G ad V M t) (some (.int (mgb a V M t x).1)) (wM G ad (mgb a V M t x).2.1.1 (mgb a V M t x).2.1.2 ((mgb a V M t x).2.2)) := by
  refine jC.of (maxL := 2) (cc := cX12_giveBack) (ret := (some .int)) rfl (by decide) [some (.ref (ad 0)), some (.int x)] rfl (Nat.le_of_ble_eq_true rfl) (j_args rfl) (fun X hX => ?_)
  refine j_aload_n hX dX12_giveBack_0 rfl ?_
  refine j_aload_n hX dX12_giveBack_1 rfl ?_
  refine j_iload_n hX dX12_giveBack_2 rfl ?_
  refine j_dV hX (nA := 1) (cq := (RX12, TX12, 37)) (As := [.int x]) (st := [.ref (ad 0)]) (st' := [.int (sdM a (M 5) x), .ref (ad 0)]) (ci := 13) rfl dX12_giveBack_3 (c_X12_isSold G _ V M _ a ha ha6 _) gX12_giveBack_X12_isSold rfl (by decide +kernel) (q := 0) (wMg0 _ _ _ _ _) (by decide) (Nat.le_of_ble_eq_true rfl) rfl (Nat.le_of_ble_eq_true rfl) rfl ⟨Nat.le_refl _, Nat.le_refl _⟩ rfl ?_
  refine j_if_ne hX (tgt := 13) dX12_giveBack_6 (by decide) (fun h6 => ?_) (fun h6 => ?_)
  · refine j_aload_n hX dX12_giveBack_13 rfl ?_
    refine j_getf hX (v := .ref (ad 5)) dX12_giveBack_14 fX12_giveBack_22 0 (wMg0 _ _ _ _ _) rfl ?_
    refine j_iload_n hX dX12_giveBack_17 rfl ?_
    refine j_cald hX (v := (M 5) x.toNatClampNeg) dX12_giveBack_18 5 (wMg5 _ _ _ _ _) (sd_in ha6 h6) rfl ?_
    refine j_bipush hX (v := 114) (by decide) dX12_giveBack_19 ?_
    refine j_icmp_ne hX (tgt := 28) dX12_giveBack_21 (by decide) (fun h21 => ?_) (fun h21 => ?_)
    · refine j_iconst hX (v := 0) (by decide) dX12_giveBack_28 ?_
      refine j_putf hX (ws' := (wM G ad (sV V 4 0) M t)) dX12_giveBack_29 fX12_giveBack_89 0 (wMg0 _ _ _ _ _) (Nat.le_of_ble_eq_true rfl) rfl rfl (wMp0_18 _ _ _ _ _ _) ?_
      refine j_aload_n hX dX12_giveBack_32 rfl ?_
      refine j_getf hX (v := .int 0) dX12_giveBack_33 fX12_giveBack_89 0 (wMg0 _ _ _ _ _) rfl ?_
      refine j_if_le_t hX (tgt := 41) dX12_giveBack_36 (by decide) (by decide) ?_
      refine j_aload_n hX dX12_giveBack_41 rfl ?_
      refine j_getf hX (v := .ref (ad 5)) dX12_giveBack_42 fX12_giveBack_22 0 (wMg0 _ _ _ _ _) rfl ?_
      refine j_iload_n hX dX12_giveBack_45 rfl ?_
      refine j_bipush hX (v := 114) (by decide) dX12_giveBack_46 ?_
      refine j_cast hX (ws' := (wM G ad (sV V 4 0) (sM M 5 (upd (M 5) x.toNatClampNeg 114)) t)) dX12_giveBack_48 5 (wMg5 _ _ _ _ _) (sd_in ha6 h6) (by rw [show vp_nar .char 114 = 114 from by decide +kernel]; exact (wMp5 _ _ _ _ _ _)) ?_
      refine j_aload_n hX dX12_giveBack_49 rfl ?_
      refine j_dup hX dX12_giveBack_50 rfl ?_
      refine j_getf hX (v := .long t) dX12_giveBack_51 fX12_giveBack_235 0 (wMg0 _ _ _ _ _) rfl ?_
      refine j_aload_n hX dX12_giveBack_54 rfl ?_
      refine j_getf hX (v := .ref (ad 3)) dX12_giveBack_55 fX12_giveBack_16 0 (wMg0 _ _ _ _ _) rfl ?_
      refine j_iload_n hX dX12_giveBack_58 rfl ?_
      refine j_iald hX (v := (M 3) x.toNatClampNeg) dX12_giveBack_59 3 (wMg3 _ _ _ _ _) (sd_in ha6 h6) rfl ?_
      refine j_i2l hX dX12_giveBack_60 ?_
      refine j_lsub hX dX12_giveBack_61 ?_
      refine j_putf hX (ws' := (wM G ad (sV V 4 0) (sM M 5 (upd (M 5) x.toNatClampNeg 114)) (t - (((M 3) x.toNatClampNeg).toInt64)))) dX12_giveBack_62 fX12_giveBack_235 0 (wMg0 _ _ _ _ _) (Nat.le_of_ble_eq_true rfl) rfl rfl (wMp0_17 _ _ _ _ _ _) ?_
      refine j_aload_n hX dX12_giveBack_65 rfl ?_
      refine j_getf hX (v := .ref (ad 3)) dX12_giveBack_66 fX12_giveBack_16 0 (wMg0 _ _ _ _ _) rfl ?_
      refine j_iload_n hX dX12_giveBack_69 rfl ?_
      refine j_iald hX (v := (M 3) x.toNatClampNeg) dX12_giveBack_70 3 (wMg3 _ _ _ _ _) (sd_in ha6 h6) rfl ?_
      exact j_iret hX dX12_giveBack_71 (by have e7 : mgbE a (M 5) x = 0 := (by simp only [mgbE, if_neg h6, if_neg h21]); have e8 : mgb a V M t x = ((M 3) x.toNatClampNeg, ((sV V 4 0), (sM M 5 (upd (M 5) x.toNatClampNeg 114))), (t - (((M 3) x.toNatClampNeg).toInt64))) := (by simp only [mgb, e7, if_true]); rw [e8]; exact ⟨rfl, rfl⟩)
    · refine j_iconst hX (v := 2) (by decide) dX12_giveBack_24 ?_
      refine j_goto hX (tgt := 29) dX12_giveBack_25 (by decide) ?_
      refine j_putf hX (ws' := (wM G ad (sV V 4 2) M t)) dX12_giveBack_29 fX12_giveBack_89 0 (wMg0 _ _ _ _ _) (Nat.le_of_ble_eq_true rfl) rfl rfl (wMp0_18 _ _ _ _ _ _) ?_
      refine j_aload_n hX dX12_giveBack_32 rfl ?_
      refine j_getf hX (v := .int 2) dX12_giveBack_33 fX12_giveBack_89 0 (wMg0 _ _ _ _ _) rfl ?_
      refine j_if_le_f hX (tgt := 41) dX12_giveBack_36 (by decide) (by decide) ?_
      refine j_iconst hX (v := 0) (by decide) dX12_giveBack_39 ?_
      exact j_iret hX dX12_giveBack_40 (by have e7 : mgbE a (M 5) x = 2 := (by simp only [mgbE, if_neg h6, if_pos h21]); have e8 : mgb a V M t x = (0, ((sV V 4 2), M), t) := (by rw [mgb, e7]; rfl); rw [e8]; exact ⟨rfl, rfl⟩)
  · refine j_iconst hX (v := 1) (by decide) dX12_giveBack_9 ?_
    refine j_goto hX (tgt := 29) dX12_giveBack_10 (by decide) ?_
    refine j_putf hX (ws' := (wM G ad (sV V 4 1) M t)) dX12_giveBack_29 fX12_giveBack_89 0 (wMg0 _ _ _ _ _) (Nat.le_of_ble_eq_true rfl) rfl rfl (wMp0_18 _ _ _ _ _ _) ?_
    refine j_aload_n hX dX12_giveBack_32 rfl ?_
    refine j_getf hX (v := .int 1) dX12_giveBack_33 fX12_giveBack_89 0 (wMg0 _ _ _ _ _) rfl ?_
    refine j_if_le_f hX (tgt := 41) dX12_giveBack_36 (by decide) (by decide) ?_
    refine j_iconst hX (v := 0) (by decide) dX12_giveBack_39 ?_
    exact j_iret hX dX12_giveBack_40 (by have e7 : mgbE a (M 5) x = 1 := (by simp only [mgbE, if_pos h6]); have e8 : mgb a V M t x = (0, ((sV V 4 1), M), t) := (by rw [mgb, e7]; rfl); rw [e8]; exact ⟨rfl, rfl⟩)

set_option maxHeartbeats 4000000 in
set_option maxRecDepth 100000 in
theorem c_X12_soldTo (G : jG) (ad : Nat → Nat) (V : Nat → Int32) (M : Nat → Nat → Int32) (t : Int64) (a : Nat) (ha : V 0 = nI a) (ha6 : a ≤ 60) (x : Int32) : jD G 2 yX12_soldTo wsX12_soldTo [.ref (ad 0), .int x] (wM G ad V M t) (some (.int (msto a V M x).1)) (wM G ad (msto a V M x).2.1 (msto a V M x).2.2 t) := by
  refine jC.of (maxL := 2) (cc := cX12_soldTo) (ret := (some .int)) rfl (by decide) [some (.ref (ad 0)), some (.int x)] rfl (Nat.le_of_ble_eq_true rfl) (j_args rfl) (fun X hX => ?_)
  refine j_aload_n hX dX12_soldTo_0 rfl ?_
  refine j_aload_n hX dX12_soldTo_1 rfl ?_
  refine j_iload_n hX dX12_soldTo_2 rfl ?_
  refine j_dV hX (nA := 1) (cq := (RX12, TX12, 37)) (As := [.int x]) (st := [.ref (ad 0)]) (st' := [.int (sdM a (M 5) x), .ref (ad 0)]) (ci := 13) rfl dX12_soldTo_3 (c_X12_isSold G _ V M _ a ha ha6 _) gX12_soldTo_X12_isSold rfl (by decide +kernel) (q := 0) (wMg0 _ _ _ _ _) (by decide) (Nat.le_of_ble_eq_true rfl) rfl (Nat.le_of_ble_eq_true rfl) rfl ⟨Nat.le_refl _, Nat.le_refl _⟩ rfl ?_
  refine j_if_eq hX (tgt := 13) dX12_soldTo_6 (by decide) (fun h6 => ?_) (fun h6 => ?_)
  · refine j_iconst hX (v := 1) (by decide) dX12_soldTo_13 ?_
    refine j_putf hX (ws' := (wM G ad (sV V 4 1) M t)) dX12_soldTo_14 fX12_soldTo_89 0 (wMg0 _ _ _ _ _) (Nat.le_of_ble_eq_true rfl) rfl rfl (wMp0_18 _ _ _ _ _ _) ?_
    refine j_aload_n hX dX12_soldTo_17 rfl ?_
    refine j_getf hX (v := .int 1) dX12_soldTo_18 fX12_soldTo_89 0 (wMg0 _ _ _ _ _) rfl ?_
    refine j_if_le_f hX (tgt := 28) dX12_soldTo_21 (by decide) (by decide) ?_
    refine j_iconst hX (v := 0) (by decide) dX12_soldTo_24 ?_
    refine j_goto hX (tgt := 34) dX12_soldTo_25 (by decide) ?_
    exact j_iret hX dX12_soldTo_34 (by have e8 : msto a V M x = (0, ((sV V 4 1), M)) := (if_pos h6); rw [e8]; exact ⟨rfl, rfl⟩)
  · refine j_iconst hX (v := 0) (by decide) dX12_soldTo_9 ?_
    refine j_goto hX (tgt := 14) dX12_soldTo_10 (by decide) ?_
    refine j_putf hX (ws' := (wM G ad (sV V 4 0) M t)) dX12_soldTo_14 fX12_soldTo_89 0 (wMg0 _ _ _ _ _) (Nat.le_of_ble_eq_true rfl) rfl rfl (wMp0_18 _ _ _ _ _ _) ?_
    refine j_aload_n hX dX12_soldTo_17 rfl ?_
    refine j_getf hX (v := .int 0) dX12_soldTo_18 fX12_soldTo_89 0 (wMg0 _ _ _ _ _) rfl ?_
    refine j_if_le_t hX (tgt := 28) dX12_soldTo_21 (by decide) (by decide) ?_
    refine j_aload_n hX dX12_soldTo_28 rfl ?_
    refine j_getf hX (v := .ref (ad 4)) dX12_soldTo_29 fX12_soldTo_19 0 (wMg0 _ _ _ _ _) rfl ?_
    refine j_iload_n hX dX12_soldTo_32 rfl ?_
    refine j_iald hX (v := (M 4) x.toNatClampNeg) dX12_soldTo_33 4 (wMg4 _ _ _ _ _) (sd_in ha6 h6) rfl ?_
    exact j_iret hX dX12_soldTo_34 (by have e8 : msto a V M x = ((M 4) x.toNatClampNeg, ((sV V 4 0), M)) := (if_neg h6); rw [e8]; exact ⟨rfl, rfl⟩)

def soS (M : Nat → Nat → Int32) (a : Nat) (what : Int32) (k : Nat) (s : Int32) : Int32 := s + (if sdM a (M 5) (nI k) = 0 then 0 else if what = 0 then M 2 k else if what = 1 then M 3 k else 1)
def soF (M : Nat → Nat → Int32) (a : Nat) (what : Int32) (k : Nat) : Int32 := itr (soS M a what) k 0
set_option maxHeartbeats 4000000 in
set_option maxRecDepth 100000 in
theorem c_X12_sold (G : jG) (ad : Nat → Nat) (V : Nat → Int32) (M : Nat → Nat → Int32) (t : Int64) (a : Nat) (ha : V 0 = nI a) (ha6 : a ≤ 60) (what : Int32) : jD G 2 yX12_sold wsX12_sold [.ref (ad 0), .int what] (wM G ad V M t) (some (.int (soF M a what a))) (wM G ad V M t) := by
  refine jC.of (maxL := 4) (cc := cX12_sold) (ret := (some .int)) rfl (by decide) [some (.ref (ad 0)), some (.int what), none, none] rfl (Nat.le_of_ble_eq_true rfl) (j_args rfl) (fun X hX => ?_)
  refine j_iconst hX (v := 0) (by decide) dX12_sold_0 ?_
  refine j_istore_n hX (ls' := [some (.ref (ad 0)), some (.int what), some (.int 0), none]) dX12_sold_1 (Nat.le_of_ble_eq_true rfl) rfl rfl ?_
  refine j_iconst hX (v := 0) (by decide) dX12_sold_2 ?_
  refine j_istore_n hX (ls' := [some (.ref (ad 0)), some (.int what), some (.int 0), some (.int 0)]) dX12_sold_3 (Nat.le_of_ble_eq_true rfl) rfl rfl ?_
  have L4 : ∀ zi i : Nat, 0 ≤ i → i + zi = a → jW G X 0 0 4 [some (.ref (ad 0)), some (.int what), some (.int (soF M a what i)), some (.int (nI i))] [] (wM G ad V M t) := by
    intro zi
    induction zi with
    | zero =>
      intro i h0 hi
      have hin : i = a := by omega
      refine j_iload_n hX dX12_sold_4 rfl ?_
      refine j_aload_n hX dX12_sold_5 rfl ?_
      refine j_getf hX (v := .int (V 0)) dX12_sold_6 fX12_sold_96 0 (wMg0 _ _ _ _ _) rfl ?_
      refine jW.top ha ?_
      refine j_icmp_ge_t hX (tgt := 61) dX12_sold_9 (by decide) (by rw [hin]; exact nI_le (Nat.le_refl _) (by omega)) ?_
      refine j_iload_n hX dX12_sold_61 rfl ?_
      exact j_iret hX dX12_sold_62 ⟨by rw [hin], rfl⟩
    | succ zi ih =>
      intro i h0 hi
      have hin : i < a := by omega
      refine j_iload_n hX dX12_sold_4 rfl ?_
      refine j_aload_n hX dX12_sold_5 rfl ?_
      refine j_getf hX (v := .int (V 0)) dX12_sold_6 fX12_sold_96 0 (wMg0 _ _ _ _ _) rfl ?_
      refine jW.top ha ?_
      refine j_icmp_ge_f hX (tgt := 61) dX12_sold_9 (by decide) (nI_ge hin (by omega)) ?_
      refine j_iload_n hX dX12_sold_12 rfl ?_
      refine j_aload_n hX dX12_sold_13 rfl ?_
      refine j_iload_n hX dX12_sold_14 rfl ?_
      refine j_dV hX (nA := 1) (cq := (RX12, TX12, 37)) (As := [.int (nI i)]) (st := [.int (soF M a what i)]) (st' := [.int (sdM a (M 5) (nI i)), .int (soF M a what i)]) (ci := 13) rfl dX12_sold_15 (c_X12_isSold G _ V M _ a ha ha6 _) gX12_sold_X12_isSold rfl (by decide +kernel) (q := 0) (wMg0 _ _ _ _ _) (by decide) (Nat.le_of_ble_eq_true rfl) rfl (Nat.le_of_ble_eq_true rfl) rfl ⟨Nat.le_refl _, Nat.le_refl _⟩ rfl ?_
      refine j_if_ne hX (tgt := 25) dX12_sold_18 (by decide) (fun h18 => ?_) (fun h18 => ?_)
      · refine j_iload_n hX dX12_sold_25 rfl ?_
        refine j_if_ne hX (tgt := 38) dX12_sold_26 (by decide) (fun h26 => ?_) (fun h26 => ?_)
        · refine j_iload_n hX dX12_sold_38 rfl ?_
          refine j_iconst hX (v := 1) (by decide) dX12_sold_39 ?_
          refine j_icmp_ne hX (tgt := 52) dX12_sold_40 (by decide) (fun h40 => ?_) (fun h40 => ?_)
          · refine j_iconst hX (v := 1) (by decide) dX12_sold_52 ?_
            refine j_iadd hX dX12_sold_53 ?_
            refine j_istore_n hX (ls' := [some (.ref (ad 0)), some (.int what), some (.int ((soF M a what i) + 1)), some (.int (nI i))]) dX12_sold_54 (Nat.le_of_ble_eq_true rfl) rfl rfl ?_
            refine j_iinc hX (v := nI (i + 1)) (ls' := [some (.ref (ad 0)), some (.int what), some (.int ((soF M a what i) + 1)), some (.int (nI (i + 1)))]) dX12_sold_55 rfl (j_inc1 _) rfl rfl ?_
            refine j_goto hX (tgt := 4) dX12_sold_58 (by decide) ?_
            refine jW.locals (ls' := [some (.ref (ad 0)), some (.int what), some (.int (soF M a what (i + 1))), some (.int (nI (i + 1)))]) (by rw [show soF M a what (i + 1) = (soF M a what i) + 1 from by show soS M a what i (soF M a what i) = _; rw [soS, if_neg h18, if_neg h26, if_neg h40]]) ?_
            exact ih (i + 1) (by omega) (by omega)
          · refine j_aload_n hX dX12_sold_43 rfl ?_
            refine j_getf hX (v := .ref (ad 3)) dX12_sold_44 fX12_sold_16 0 (wMg0 _ _ _ _ _) rfl ?_
            refine j_iload_n hX dX12_sold_47 rfl ?_
            refine j_iald hX (v := (M 3) i) dX12_sold_48 3 (wMg3 _ _ _ _ _) (nI_in (by omega) (by decide)) (rdc (by omega)) ?_
            refine j_goto hX (tgt := 53) dX12_sold_49 (by decide) ?_
            refine j_iadd hX dX12_sold_53 ?_
            refine j_istore_n hX (ls' := [some (.ref (ad 0)), some (.int what), some (.int ((soF M a what i) + ((M 3) i))), some (.int (nI i))]) dX12_sold_54 (Nat.le_of_ble_eq_true rfl) rfl rfl ?_
            refine j_iinc hX (v := nI (i + 1)) (ls' := [some (.ref (ad 0)), some (.int what), some (.int ((soF M a what i) + ((M 3) i))), some (.int (nI (i + 1)))]) dX12_sold_55 rfl (j_inc1 _) rfl rfl ?_
            refine j_goto hX (tgt := 4) dX12_sold_58 (by decide) ?_
            refine jW.locals (ls' := [some (.ref (ad 0)), some (.int what), some (.int (soF M a what (i + 1))), some (.int (nI (i + 1)))]) (by rw [show soF M a what (i + 1) = (soF M a what i) + ((M 3) i) from by show soS M a what i (soF M a what i) = _; rw [soS, if_neg h18, if_neg h26, if_pos h40]]) ?_
            exact ih (i + 1) (by omega) (by omega)
        · refine j_aload_n hX dX12_sold_29 rfl ?_
          refine j_getf hX (v := .ref (ad 2)) dX12_sold_30 fX12_sold_13 0 (wMg0 _ _ _ _ _) rfl ?_
          refine j_iload_n hX dX12_sold_33 rfl ?_
          refine j_iald hX (v := (M 2) i) dX12_sold_34 2 (wMg2 _ _ _ _ _) (nI_in (by omega) (by decide)) (rdc (by omega)) ?_
          refine j_goto hX (tgt := 53) dX12_sold_35 (by decide) ?_
          refine j_iadd hX dX12_sold_53 ?_
          refine j_istore_n hX (ls' := [some (.ref (ad 0)), some (.int what), some (.int ((soF M a what i) + ((M 2) i))), some (.int (nI i))]) dX12_sold_54 (Nat.le_of_ble_eq_true rfl) rfl rfl ?_
          refine j_iinc hX (v := nI (i + 1)) (ls' := [some (.ref (ad 0)), some (.int what), some (.int ((soF M a what i) + ((M 2) i))), some (.int (nI (i + 1)))]) dX12_sold_55 rfl (j_inc1 _) rfl rfl ?_
          refine j_goto hX (tgt := 4) dX12_sold_58 (by decide) ?_
          refine jW.locals (ls' := [some (.ref (ad 0)), some (.int what), some (.int (soF M a what (i + 1))), some (.int (nI (i + 1)))]) (by rw [show soF M a what (i + 1) = (soF M a what i) + ((M 2) i) from by show soS M a what i (soF M a what i) = _; rw [soS, if_neg h18, if_pos h26]]) ?_
          exact ih (i + 1) (by omega) (by omega)
      · refine j_iconst hX (v := 0) (by decide) dX12_sold_21 ?_
        refine j_goto hX (tgt := 53) dX12_sold_22 (by decide) ?_
        refine j_iadd hX dX12_sold_53 ?_
        refine j_istore_n hX (ls' := [some (.ref (ad 0)), some (.int what), some (.int ((soF M a what i) + 0)), some (.int (nI i))]) dX12_sold_54 (Nat.le_of_ble_eq_true rfl) rfl rfl ?_
        refine j_iinc hX (v := nI (i + 1)) (ls' := [some (.ref (ad 0)), some (.int what), some (.int ((soF M a what i) + 0)), some (.int (nI (i + 1)))]) dX12_sold_55 rfl (j_inc1 _) rfl rfl ?_
        refine j_goto hX (tgt := 4) dX12_sold_58 (by decide) ?_
        refine jW.locals (ls' := [some (.ref (ad 0)), some (.int what), some (.int (soF M a what (i + 1))), some (.int (nI (i + 1)))]) (by rw [show soF M a what (i + 1) = (soF M a what i) + 0 from by show soS M a what i (soF M a what i) = _; rw [soS, if_pos h18]]) ?_
        exact ih (i + 1) (by omega) (by omega)
  exact L4 a 0 (Nat.le_refl _) (by omega)

def mdsh (a : Nat) (V : Nat → Int32) (M : Nat → Nat → Int32) : UInt32 × VM := if soF M a 2 a = 0 then (FP.fconst0, (sV V 4 1, M)) else (FP.fdiv (FP.i2f (soF M a 0 a - soF M a 1 a)) (FP.i2f (soF M a 0 a)), (sV V 4 0, M))
def mmnp (a : Nat) (V : Nat → Int32) (M : Nat → Nat → Int32) : UInt64 × VM := if soF M a 2 a = 0 then (FP.dconst0, (sV V 4 1, M)) else (FP.ddiv (FP.i2d (soF M a 1 a)) (FP.i2d (soF M a 2 a)), (sV V 4 0, M))
set_option maxHeartbeats 4000000 in
set_option maxRecDepth 100000 in
theorem c_X12_discountShare (G : jG) (ad : Nat → Nat) (V : Nat → Int32) (M : Nat → Nat → Int32) (t : Int64) (a : Nat) (ha : V 0 = nI a) (ha6 : a ≤ 60) (hne : ¬ soF M a 2 a = 0 → ¬ soF M a 0 a = 0) : jD G 3 yX12_discountShare wsX12_discountShare [.ref (ad 0)] (wM G ad V M t) (some (.float (mdsh a V M).1)) (wM G ad (mdsh a V M).2.1 (mdsh a V M).2.2 t) := by
  refine jC.of (maxL := 1) (cc := cX12_discountShare) (ret := (some .float)) rfl (by decide) [some (.ref (ad 0))] rfl (Nat.le_of_ble_eq_true rfl) (j_args rfl) (fun X hX => ?_)
  refine j_aload_n hX dX12_discountShare_0 rfl ?_
  refine j_aload_n hX dX12_discountShare_1 rfl ?_
  refine j_iconst hX (v := 2) (by decide) dX12_discountShare_2 ?_
  refine j_dV hX (nA := 1) (cq := (RX12, TX12, 37)) (As := [.int 2]) (st := [.ref (ad 0)]) (st' := [.int (soF M a 2 a), .ref (ad 0)]) (ci := 13) rfl dX12_discountShare_3 (c_X12_sold G _ V M _ a ha ha6 _) gX12_discountShare_X12_sold rfl (by decide +kernel) (q := 0) (wMg0 _ _ _ _ _) (by decide) (Nat.le_of_ble_eq_true rfl) rfl (Nat.le_of_ble_eq_true rfl) rfl ⟨Nat.le_refl _, Nat.le_refl _⟩ rfl ?_
  refine j_if_ne hX (tgt := 13) dX12_discountShare_6 (by decide) (fun h6 => ?_) (fun h6 => ?_)
  · refine j_iconst hX (v := 0) (by decide) dX12_discountShare_13 ?_
    refine j_putf hX (ws' := (wM G ad (sV V 4 0) M t)) dX12_discountShare_14 fX12_discountShare_89 0 (wMg0 _ _ _ _ _) (Nat.le_of_ble_eq_true rfl) rfl rfl (wMp0_18 _ _ _ _ _ _) ?_
    refine j_aload_n hX dX12_discountShare_17 rfl ?_
    refine j_getf hX (v := .int 0) dX12_discountShare_18 fX12_discountShare_89 0 (wMg0 _ _ _ _ _) rfl ?_
    refine j_if_le_t hX (tgt := 28) dX12_discountShare_21 (by decide) (by decide) ?_
    refine j_aload_n hX dX12_discountShare_28 rfl ?_
    refine j_iconst hX (v := 0) (by decide) dX12_discountShare_29 ?_
    refine j_dV hX (nA := 1) (cq := (RX12, TX12, 37)) (As := [.int 0]) (st := []) (st' := [.int (soF M a 0 a)]) (ci := 13) rfl dX12_discountShare_30 (c_X12_sold G _ (sV V 4 0) M _ a ha ha6 _) gX12_discountShare_X12_sold rfl (by decide +kernel) (q := 0) (wMg0 _ _ _ _ _) (by decide) (Nat.le_of_ble_eq_true rfl) rfl (Nat.le_of_ble_eq_true rfl) rfl ⟨Nat.le_refl _, Nat.le_refl _⟩ rfl ?_
    refine j_aload_n hX dX12_discountShare_33 rfl ?_
    refine j_iconst hX (v := 1) (by decide) dX12_discountShare_34 ?_
    refine j_dV hX (nA := 1) (cq := (RX12, TX12, 37)) (As := [.int 1]) (st := [.int (soF M a 0 a)]) (st' := [.int (soF M a 1 a), .int (soF M a 0 a)]) (ci := 13) rfl dX12_discountShare_35 (c_X12_sold G _ (sV V 4 0) M _ a ha ha6 _) gX12_discountShare_X12_sold rfl (by decide +kernel) (q := 0) (wMg0 _ _ _ _ _) (by decide) (Nat.le_of_ble_eq_true rfl) rfl (Nat.le_of_ble_eq_true rfl) rfl ⟨Nat.le_refl _, Nat.le_refl _⟩ rfl ?_
    refine j_isub hX dX12_discountShare_38 ?_
    refine j_i2f hX dX12_discountShare_39 ?_
    refine j_aload_n hX dX12_discountShare_40 rfl ?_
    refine j_iconst hX (v := 0) (by decide) dX12_discountShare_41 ?_
    refine j_dV hX (nA := 1) (cq := (RX12, TX12, 37)) (As := [.int 0]) (st := [.float (FP.i2f ((soF M a 0 a) - (soF M a 1 a)))]) (st' := [.int (soF M a 0 a), .float (FP.i2f ((soF M a 0 a) - (soF M a 1 a)))]) (ci := 13) rfl dX12_discountShare_42 (c_X12_sold G _ (sV V 4 0) M _ a ha ha6 _) gX12_discountShare_X12_sold rfl (by decide +kernel) (q := 0) (wMg0 _ _ _ _ _) (by decide) (Nat.le_of_ble_eq_true rfl) rfl (Nat.le_of_ble_eq_true rfl) rfl ⟨Nat.le_refl _, Nat.le_refl _⟩ rfl ?_
    refine j_i2f hX dX12_discountShare_45 ?_
    refine j_fdiv hX dX12_discountShare_46 (n32_of (fdiv_num (hne h6))) ?_
    exact j_fret hX dX12_discountShare_47 (by have e8 : mdsh a V M = (FP.fdiv (FP.i2f ((soF M a 0 a) - (soF M a 1 a))) (FP.i2f (soF M a 0 a)), ((sV V 4 0), M)) := (if_neg h6); rw [e8]; exact ⟨rfl, rfl⟩)
  · refine j_iconst hX (v := 1) (by decide) dX12_discountShare_9 ?_
    refine j_goto hX (tgt := 14) dX12_discountShare_10 (by decide) ?_
    refine j_putf hX (ws' := (wM G ad (sV V 4 1) M t)) dX12_discountShare_14 fX12_discountShare_89 0 (wMg0 _ _ _ _ _) (Nat.le_of_ble_eq_true rfl) rfl rfl (wMp0_18 _ _ _ _ _ _) ?_
    refine j_aload_n hX dX12_discountShare_17 rfl ?_
    refine j_getf hX (v := .int 1) dX12_discountShare_18 fX12_discountShare_89 0 (wMg0 _ _ _ _ _) rfl ?_
    refine j_if_le_f hX (tgt := 28) dX12_discountShare_21 (by decide) (by decide) ?_
    refine j_fconst0 hX dX12_discountShare_24 ?_
    refine j_goto hX (tgt := 47) dX12_discountShare_25 (by decide) ?_
    exact j_fret hX dX12_discountShare_47 (by have e8 : mdsh a V M = (FP.fconst0, ((sV V 4 1), M)) := (if_pos h6); rw [e8]; exact ⟨rfl, rfl⟩)

set_option maxHeartbeats 4000000 in
set_option maxRecDepth 100000 in
theorem c_X12_meanNetPrice (G : jG) (ad : Nat → Nat) (V : Nat → Int32) (M : Nat → Nat → Int32) (t : Int64) (a : Nat) (ha : V 0 = nI a) (ha6 : a ≤ 60) : jD G 3 yX12_meanNetPrice wsX12_meanNetPrice [.ref (ad 0)] (wM G ad V M t) (some (.double (mmnp a V M).1)) (wM G ad (mmnp a V M).2.1 (mmnp a V M).2.2 t) := by
  refine jC.of (maxL := 1) (cc := cX12_meanNetPrice) (ret := (some .double)) rfl (by decide) [some (.ref (ad 0))] rfl (Nat.le_of_ble_eq_true rfl) (j_args rfl) (fun X hX => ?_)
  refine j_aload_n hX dX12_meanNetPrice_0 rfl ?_
  refine j_aload_n hX dX12_meanNetPrice_1 rfl ?_
  refine j_iconst hX (v := 2) (by decide) dX12_meanNetPrice_2 ?_
  refine j_dV hX (nA := 1) (cq := (RX12, TX12, 37)) (As := [.int 2]) (st := [.ref (ad 0)]) (st' := [.int (soF M a 2 a), .ref (ad 0)]) (ci := 13) rfl dX12_meanNetPrice_3 (c_X12_sold G _ V M _ a ha ha6 _) gX12_meanNetPrice_X12_sold rfl (by decide +kernel) (q := 0) (wMg0 _ _ _ _ _) (by decide) (Nat.le_of_ble_eq_true rfl) rfl (Nat.le_of_ble_eq_true rfl) rfl ⟨Nat.le_refl _, Nat.le_refl _⟩ rfl ?_
  refine j_if_ne hX (tgt := 13) dX12_meanNetPrice_6 (by decide) (fun h6 => ?_) (fun h6 => ?_)
  · refine j_iconst hX (v := 0) (by decide) dX12_meanNetPrice_13 ?_
    refine j_putf hX (ws' := (wM G ad (sV V 4 0) M t)) dX12_meanNetPrice_14 fX12_meanNetPrice_89 0 (wMg0 _ _ _ _ _) (Nat.le_of_ble_eq_true rfl) rfl rfl (wMp0_18 _ _ _ _ _ _) ?_
    refine j_aload_n hX dX12_meanNetPrice_17 rfl ?_
    refine j_getf hX (v := .int 0) dX12_meanNetPrice_18 fX12_meanNetPrice_89 0 (wMg0 _ _ _ _ _) rfl ?_
    refine j_if_le_t hX (tgt := 28) dX12_meanNetPrice_21 (by decide) (by decide) ?_
    refine j_aload_n hX dX12_meanNetPrice_28 rfl ?_
    refine j_iconst hX (v := 1) (by decide) dX12_meanNetPrice_29 ?_
    refine j_dV hX (nA := 1) (cq := (RX12, TX12, 37)) (As := [.int 1]) (st := []) (st' := [.int (soF M a 1 a)]) (ci := 13) rfl dX12_meanNetPrice_30 (c_X12_sold G _ (sV V 4 0) M _ a ha ha6 _) gX12_meanNetPrice_X12_sold rfl (by decide +kernel) (q := 0) (wMg0 _ _ _ _ _) (by decide) (Nat.le_of_ble_eq_true rfl) rfl (Nat.le_of_ble_eq_true rfl) rfl ⟨Nat.le_refl _, Nat.le_refl _⟩ rfl ?_
    refine j_i2d hX dX12_meanNetPrice_33 ?_
    refine j_aload_n hX dX12_meanNetPrice_34 rfl ?_
    refine j_iconst hX (v := 2) (by decide) dX12_meanNetPrice_35 ?_
    refine j_dV hX (nA := 1) (cq := (RX12, TX12, 37)) (As := [.int 2]) (st := [.double (FP.i2d (soF M a 1 a))]) (st' := [.int (soF M a 2 a), .double (FP.i2d (soF M a 1 a))]) (ci := 13) rfl dX12_meanNetPrice_36 (c_X12_sold G _ (sV V 4 0) M _ a ha ha6 _) gX12_meanNetPrice_X12_sold rfl (by decide +kernel) (q := 0) (wMg0 _ _ _ _ _) (by decide) (Nat.le_of_ble_eq_true rfl) rfl (Nat.le_of_ble_eq_true rfl) rfl ⟨Nat.le_refl _, Nat.le_refl _⟩ rfl ?_
    refine j_i2d hX dX12_meanNetPrice_39 ?_
    refine j_ddiv hX dX12_meanNetPrice_40 (n64_of (ddiv_num h6)) ?_
    exact j_dret hX dX12_meanNetPrice_41 (by have e8 : mmnp a V M = (FP.ddiv (FP.i2d (soF M a 1 a)) (FP.i2d (soF M a 2 a)), ((sV V 4 0), M)) := (if_neg h6); rw [e8]; exact ⟨rfl, rfl⟩)
  · refine j_iconst hX (v := 1) (by decide) dX12_meanNetPrice_9 ?_
    refine j_goto hX (tgt := 14) dX12_meanNetPrice_10 (by decide) ?_
    refine j_putf hX (ws' := (wM G ad (sV V 4 1) M t)) dX12_meanNetPrice_14 fX12_meanNetPrice_89 0 (wMg0 _ _ _ _ _) (Nat.le_of_ble_eq_true rfl) rfl rfl (wMp0_18 _ _ _ _ _ _) ?_
    refine j_aload_n hX dX12_meanNetPrice_17 rfl ?_
    refine j_getf hX (v := .int 1) dX12_meanNetPrice_18 fX12_meanNetPrice_89 0 (wMg0 _ _ _ _ _) rfl ?_
    refine j_if_le_f hX (tgt := 28) dX12_meanNetPrice_21 (by decide) (by decide) ?_
    refine j_dconst0 hX dX12_meanNetPrice_24 ?_
    refine j_goto hX (tgt := 41) dX12_meanNetPrice_25 (by decide) ?_
    exact j_dret hX dX12_meanNetPrice_41 (by have e8 : mmnp a V M = (FP.dconst0, ((sV V 4 1), M)) := (if_pos h6); rw [e8]; exact ⟨rfl, rfl⟩)

theorem wMpU {G : jG} {ad : Nat → Nat} {V : Nat → Int32} {M : Nat → Nat → Int32} {t : Int64} {c : Nat} (hc : c < 4) (f : Nat → Int32) : (wM G ad V M t).set (c + 26) (ad (c + 26), .inl (G.2.2 0, 6, .inl f)) = wM G ad V (sM M (c + 26) f) t := by
  rcases (show c = 0 ∨ c = 1 ∨ c = 2 ∨ c = 3 by omega) with rfl | rfl | rfl | rfl <;> rfl
theorem wMoU {G : jG} {ad : Nat → Nat} {V : Nat → Int32} {M : Nat → Nat → Int32} {t : Int64} {c : Nat} (hc : c < 4) (f g : Nat → Int32) : (wM G ad V (sM M (c + 26) g) t).set (c + 26) (ad (c + 26), .inl (G.2.2 0, 6, .inl f)) = wM G ad V (sM M (c + 26) f) t := (wMpU hc f).trans (by rw [sM_sM])
theorem sM_self9 (M : Nat → Nat → Int32) (k : Nat) (f : Nat → Int32) : sM M k f k = f := by unfold sM; rw [show Nat.beq k k = true from Nat.beq_refl k]; rfl
def usA (M : Nat → Nat → Int32) (f : Nat → Int32) (j : Nat) : Nat → Int32 := itr (fun j f => upd f j (f j + usM M j)) j f
def usN (M : Nat → Nat → Int32) (x : Int32) (j : Nat) : Int32 := itr (fun j x => x + usM M j) j x
def seA (b : Nat → Int32) (y : Int32) (f : Nat → Int32) (k : Nat) : Nat → Int32 := itr (fun k f => upd f (b k).toNatClampNeg y) k f
def selF (a o c : Nat) (s : VM) : VM := (sV (sV s.1 3 (usN s.2 (s.1 3) o)) 7 0, sM (sM (sM s.2 (c + 26) (usA s.2 (s.2 (c + 26)) o)) 5 (seA (s.2 14) 115 (s.2 5) (cb (s.2 5) a))) 4 (seA (s.2 14) (nI c) (s.2 4) (cb (s.2 5) a)))
def msel (a o c : Nat) (V : Nat → Int32) (M : Nat → Nat → Int32) (t : Int64) : Int32 × VM × Int64 := if nI (cb (M 5) a) = 0 then (0, (sV (sV V 5 (nI (cb (M 5) a))) 4 1, sM M 14 (lkA (M 5) (M 14) a)), t) else (paysF a o c (sV (sV V 5 (nI (cb (M 5) a))) 4 0, sM M 14 (lkA (M 5) (M 14) a)), selF a o c (fdL a o c (sV (sV V 5 (nI (cb (M 5) a))) 4 0, sM M 14 (lkA (M 5) (M 14) a))), t + (paysF a o c (sV (sV V 5 (nI (cb (M 5) a))) 4 0, sM M 14 (lkA (M 5) (M 14) a))).toInt64)
theorem sV_eq (V : Nat → Int32) (k : Nat) : sV V k (V k) = V := by
  funext j
  unfold sV
  cases h : Nat.beq j k
  · rfl
  · have e : j = k := Nat.eq_of_beq_eq_true h
    subst e
    rfl
set_option maxHeartbeats 4000000 in
set_option maxRecDepth 100000 in
theorem c_X12_sell (G : jG) (ad : Nat → Nat) (V : Nat → Int32) (M : Nat → Nat → Int32) (t : Int64) (a o c : Nat) (hJ : mJ a o c V M) (hok : V 7 = 0 → fdOK a o c (sV (sV V 5 (nI (cb (M 5) a))) 4 0, sM M 14 (lkA (M 5) (M 14) a))) : jD G 78 yX12_sell wsX12_sell [.ref (ad 0)] (wM G ad V M t) (some (.int (msel a o c V M t).1)) (wM G ad (msel a o c V M t).2.1.1 (msel a o c V M t).2.1.2 ((msel a o c V M t).2.2)) := by
  refine jC.of (maxL := 3) (cc := cX12_sell) (ret := (some .int)) rfl (by decide) [some (.ref (ad 0)), none, none] rfl (Nat.le_of_ble_eq_true rfl) (j_args rfl) (fun X hX => ?_)
  have hJ0 := hJ
  obtain ⟨ha, ha6, hcb, ho2, ho, hc1, hc, hG4⟩ := hJ
  refine j_aload_n hX dX12_sell_0 rfl ?_
  refine j_dV hX (nA := 0) (cq := (RX12, TX12, 37)) (As := []) (st := []) (st' := []) (ci := 13) rfl dX12_sell_1 (c_X12_looks G _ V M _ a ha ha6 hcb) gX12_sell_X12_looks rfl (by decide +kernel) (q := 0) (wMg0 _ _ _ _ _) (by decide) (Nat.le_of_ble_eq_true rfl) rfl (Nat.le_of_ble_eq_true rfl) rfl ⟨Nat.le_refl _, Nat.le_refl _⟩ rfl ?_
  refine j_aload_n hX dX12_sell_4 rfl ?_
  refine j_aload_n hX dX12_sell_5 rfl ?_
  refine j_getf hX (v := .int (nI (cb (M 5) a))) dX12_sell_6 fX12_sell_93 0 (wMg0 _ _ _ _ _) rfl ?_
  refine j_if_ne hX (tgt := 16) dX12_sell_9 (by decide) (fun h9 => ?_) (fun h9 => ?_)
  · refine j_iconst hX (v := 0) (by decide) dX12_sell_16 ?_
    refine j_putf hX (ws' := (wM G ad (sV (sV V 5 (nI (cb (M 5) a))) 4 0) (sM M 14 (lkA (M 5) (M 14) a)) t)) dX12_sell_17 fX12_sell_89 0 (wMg0 _ _ _ _ _) (Nat.le_of_ble_eq_true rfl) rfl rfl (wMp0_18 _ _ _ _ _ _) ?_
    refine j_aload_n hX dX12_sell_20 rfl ?_
    refine j_getf hX (v := .int 0) dX12_sell_21 fX12_sell_89 0 (wMg0 _ _ _ _ _) rfl ?_
    refine j_if_le_t hX (tgt := 29) dX12_sell_24 (by decide) (by decide) ?_
    refine j_aload_n hX dX12_sell_29 rfl ?_
    refine j_dV hX (nA := 0) (cq := (RX12, TX12, 37)) (As := []) (st := []) (st' := [.int (paysF a o c ((sV (sV V 5 (nI (cb (M 5) a))) 4 0), (sM M 14 (lkA (M 5) (M 14) a))))]) (ci := 13) rfl dX12_sell_30 (c_X12_pays G _ (sV (sV V 5 (nI (cb (M 5) a))) 4 0) (sM M 14 (lkA (M 5) (M 14) a)) _ a o c hJ0 hok) gX12_sell_X12_pays rfl (by decide +kernel) (q := 0) (wMg0 _ _ _ _ _) (by decide) (Nat.le_of_ble_eq_true rfl) rfl (Nat.le_of_ble_eq_true rfl) rfl ⟨Nat.le_refl _, Nat.le_refl _⟩ rfl ?_
    have hJF := fdF_J (a := a) (o := o) (c := c) (V := sV (sV V 5 (nI (cb (M 5) a))) 4 0) (M := sM M 14 (lkA (M 5) (M 14) a)) hJ0
    have h7F : (cb ((fdL a o c (sV (sV V 5 (nI (cb (M 5) a))) 4 0, sM M 14 (lkA (M 5) (M 14) a))).2 5) a) ≤ 7 := hJF.2.2.1
    refine j_istore_n hX (ls' := [some (.ref (ad 0)), some (.int (paysF a o c ((sV (sV V 5 (nI (cb (M 5) a))) 4 0), (sM M 14 (lkA (M 5) (M 14) a))))), none]) dX12_sell_33 (Nat.le_of_ble_eq_true rfl) rfl rfl ?_
    refine j_iconst hX (v := 0) (by decide) dX12_sell_34 ?_
    refine j_istore_n hX (ls' := [some (.ref (ad 0)), some (.int (paysF a o c ((sV (sV V 5 (nI (cb (M 5) a))) 4 0), (sM M 14 (lkA (M 5) (M 14) a))))), some (.int 0)]) dX12_sell_35 (Nat.le_of_ble_eq_true rfl) rfl rfl ?_
    have L36 : ∀ zj j : Nat, 0 ≤ j → j + zj = o → jW G X 0 0 36 [some (.ref (ad 0)), some (.int (paysF a o c (sV (sV V 5 (nI (cb (M 5) a))) 4 0, sM M 14 (lkA (M 5) (M 14) a)))), some (.int (nI j))] [] (wM G ad (sV (fdL a o c (sV (sV V 5 (nI (cb (M 5) a))) 4 0, sM M 14 (lkA (M 5) (M 14) a))).1 3 (usN (fdL a o c (sV (sV V 5 (nI (cb (M 5) a))) 4 0, sM M 14 (lkA (M 5) (M 14) a))).2 ((fdL a o c (sV (sV V 5 (nI (cb (M 5) a))) 4 0, sM M 14 (lkA (M 5) (M 14) a))).1 3) j)) (sM (fdL a o c (sV (sV V 5 (nI (cb (M 5) a))) 4 0, sM M 14 (lkA (M 5) (M 14) a))).2 (c + 26) (usA (fdL a o c (sV (sV V 5 (nI (cb (M 5) a))) 4 0, sM M 14 (lkA (M 5) (M 14) a))).2 ((fdL a o c (sV (sV V 5 (nI (cb (M 5) a))) 4 0, sM M 14 (lkA (M 5) (M 14) a))).2 (c + 26)) j)) t) := by
      intro zj
      induction zj with
      | zero =>
        intro j h0j hij
        have hinj : j = o := by omega
        refine j_iload_n hX dX12_sell_36 rfl ?_
        refine j_aload_n hX dX12_sell_37 rfl ?_
        refine j_getf hX (v := .int ((fdL a o c (sV (sV V 5 (nI (cb (M 5) a))) 4 0, sM M 14 (lkA (M 5) (M 14) a))).1 2)) dX12_sell_38 fX12_sell_121 0 (wMg0 _ _ _ _ _) rfl ?_
        refine jW.top hJF.2.2.2.1 ?_
        refine j_icmp_ge_t hX (tgt := 83) dX12_sell_41 (by decide) (by rw [hinj]; exact nI_le (Nat.le_refl _) (by omega)) ?_
        refine j_iconst hX (v := 0) (by decide) dX12_sell_83 ?_
        refine j_istore_n hX (ls' := [some (.ref (ad 0)), some (.int (paysF a o c (sV (sV V 5 (nI (cb (M 5) a))) 4 0, sM M 14 (lkA (M 5) (M 14) a)))), some (.int 0)]) dX12_sell_84 (Nat.le_of_ble_eq_true rfl) rfl rfl ?_
        have L85 : ∀ zk k : Nat, 0 ≤ k → k + zk = (cb ((fdL a o c (sV (sV V 5 (nI (cb (M 5) a))) 4 0, sM M 14 (lkA (M 5) (M 14) a))).2 5) a) → jW G X 0 0 85 [some (.ref (ad 0)), some (.int (paysF a o c (sV (sV V 5 (nI (cb (M 5) a))) 4 0, sM M 14 (lkA (M 5) (M 14) a)))), some (.int (nI k))] [] (wM G ad (sV (fdL a o c (sV (sV V 5 (nI (cb (M 5) a))) 4 0, sM M 14 (lkA (M 5) (M 14) a))).1 3 (usN (fdL a o c (sV (sV V 5 (nI (cb (M 5) a))) 4 0, sM M 14 (lkA (M 5) (M 14) a))).2 ((fdL a o c (sV (sV V 5 (nI (cb (M 5) a))) 4 0, sM M 14 (lkA (M 5) (M 14) a))).1 3) o)) (sM (sM (sM (fdL a o c (sV (sV V 5 (nI (cb (M 5) a))) 4 0, sM M 14 (lkA (M 5) (M 14) a))).2 (c + 26) (usA (fdL a o c (sV (sV V 5 (nI (cb (M 5) a))) 4 0, sM M 14 (lkA (M 5) (M 14) a))).2 ((fdL a o c (sV (sV V 5 (nI (cb (M 5) a))) 4 0, sM M 14 (lkA (M 5) (M 14) a))).2 (c + 26)) o)) 5 (seA ((fdL a o c (sV (sV V 5 (nI (cb (M 5) a))) 4 0, sM M 14 (lkA (M 5) (M 14) a))).2 14) 115 ((fdL a o c (sV (sV V 5 (nI (cb (M 5) a))) 4 0, sM M 14 (lkA (M 5) (M 14) a))).2 5) k)) 4 (seA ((fdL a o c (sV (sV V 5 (nI (cb (M 5) a))) 4 0, sM M 14 (lkA (M 5) (M 14) a))).2 14) (nI c) ((fdL a o c (sV (sV V 5 (nI (cb (M 5) a))) 4 0, sM M 14 (lkA (M 5) (M 14) a))).2 4) k)) t) := by
          intro zk
          induction zk with
          | zero =>
            intro k h0k hik
            have hink : k = (cb ((fdL a o c (sV (sV V 5 (nI (cb (M 5) a))) 4 0, sM M 14 (lkA (M 5) (M 14) a))).2 5) a) := by omega
            refine j_iload_n hX dX12_sell_85 rfl ?_
            refine j_aload_n hX dX12_sell_86 rfl ?_
            refine j_getf hX (v := .int ((fdL a o c (sV (sV V 5 (nI (cb (M 5) a))) 4 0, sM M 14 (lkA (M 5) (M 14) a))).1 5)) dX12_sell_87 fX12_sell_93 0 (wMg0 _ _ _ _ _) rfl ?_
            refine jW.top (y := nI (cb ((fdL a o c (sV (sV V 5 (nI (cb (M 5) a))) 4 0, sM M 14 (lkA (M 5) (M 14) a))).2 5) a)) rfl ?_
            refine j_icmp_ge_t hX (tgt := 127) dX12_sell_90 (by decide) (by rw [hink]; exact nI_le (Nat.le_refl _) (by omega)) ?_
            refine j_aload_n hX dX12_sell_127 rfl ?_
            refine j_dup hX dX12_sell_128 rfl ?_
            refine j_getf hX (v := .long t) dX12_sell_129 fX12_sell_235 0 (wMg0 _ _ _ _ _) rfl ?_
            refine j_iload_n hX dX12_sell_132 rfl ?_
            refine j_i2l hX dX12_sell_133 ?_
            refine j_ladd hX dX12_sell_134 ?_
            refine j_putf hX (ws' := (wM G ad (sV (fdL a o c (sV (sV V 5 (nI (cb (M 5) a))) 4 0, sM M 14 (lkA (M 5) (M 14) a))).1 3 (usN (fdL a o c (sV (sV V 5 (nI (cb (M 5) a))) 4 0, sM M 14 (lkA (M 5) (M 14) a))).2 ((fdL a o c (sV (sV V 5 (nI (cb (M 5) a))) 4 0, sM M 14 (lkA (M 5) (M 14) a))).1 3) o)) (sM (sM (sM (fdL a o c (sV (sV V 5 (nI (cb (M 5) a))) 4 0, sM M 14 (lkA (M 5) (M 14) a))).2 (c + 26) (usA (fdL a o c (sV (sV V 5 (nI (cb (M 5) a))) 4 0, sM M 14 (lkA (M 5) (M 14) a))).2 ((fdL a o c (sV (sV V 5 (nI (cb (M 5) a))) 4 0, sM M 14 (lkA (M 5) (M 14) a))).2 (c + 26)) o)) 5 (seA ((fdL a o c (sV (sV V 5 (nI (cb (M 5) a))) 4 0, sM M 14 (lkA (M 5) (M 14) a))).2 14) 115 ((fdL a o c (sV (sV V 5 (nI (cb (M 5) a))) 4 0, sM M 14 (lkA (M 5) (M 14) a))).2 5) k)) 4 (seA ((fdL a o c (sV (sV V 5 (nI (cb (M 5) a))) 4 0, sM M 14 (lkA (M 5) (M 14) a))).2 14) (nI c) ((fdL a o c (sV (sV V 5 (nI (cb (M 5) a))) 4 0, sM M 14 (lkA (M 5) (M 14) a))).2 4) k)) (t + ((paysF a o c (sV (sV V 5 (nI (cb (M 5) a))) 4 0, sM M 14 (lkA (M 5) (M 14) a))).toInt64)))) dX12_sell_135 fX12_sell_235 0 (wMg0 _ _ _ _ _) (Nat.le_of_ble_eq_true rfl) rfl rfl (wMp0_17 _ _ _ _ _ _) ?_
            refine j_aload_n hX dX12_sell_138 rfl ?_
            refine j_iconst hX (v := 0) (by decide) dX12_sell_139 ?_
            refine j_putf hX (ws' := (wM G ad (sV (sV (fdL a o c (sV (sV V 5 (nI (cb (M 5) a))) 4 0, sM M 14 (lkA (M 5) (M 14) a))).1 3 (usN (fdL a o c (sV (sV V 5 (nI (cb (M 5) a))) 4 0, sM M 14 (lkA (M 5) (M 14) a))).2 ((fdL a o c (sV (sV V 5 (nI (cb (M 5) a))) 4 0, sM M 14 (lkA (M 5) (M 14) a))).1 3) o)) 7 0) (sM (sM (sM (fdL a o c (sV (sV V 5 (nI (cb (M 5) a))) 4 0, sM M 14 (lkA (M 5) (M 14) a))).2 (c + 26) (usA (fdL a o c (sV (sV V 5 (nI (cb (M 5) a))) 4 0, sM M 14 (lkA (M 5) (M 14) a))).2 ((fdL a o c (sV (sV V 5 (nI (cb (M 5) a))) 4 0, sM M 14 (lkA (M 5) (M 14) a))).2 (c + 26)) o)) 5 (seA ((fdL a o c (sV (sV V 5 (nI (cb (M 5) a))) 4 0, sM M 14 (lkA (M 5) (M 14) a))).2 14) 115 ((fdL a o c (sV (sV V 5 (nI (cb (M 5) a))) 4 0, sM M 14 (lkA (M 5) (M 14) a))).2 5) k)) 4 (seA ((fdL a o c (sV (sV V 5 (nI (cb (M 5) a))) 4 0, sM M 14 (lkA (M 5) (M 14) a))).2 14) (nI c) ((fdL a o c (sV (sV V 5 (nI (cb (M 5) a))) 4 0, sM M 14 (lkA (M 5) (M 14) a))).2 4) k)) (t + ((paysF a o c (sV (sV V 5 (nI (cb (M 5) a))) 4 0, sM M 14 (lkA (M 5) (M 14) a))).toInt64)))) dX12_sell_140 fX12_sell_106 0 (wMg0 _ _ _ _ _) (Nat.le_of_ble_eq_true rfl) (by decide) rfl (wMp0_28 _ _ _ _ _ _) ?_
            refine j_iload_n hX dX12_sell_143 rfl ?_
            exact j_iret hX dX12_sell_144 (by rw [hink]; have e8 : msel a o c V M t = (paysF a o c (sV (sV V 5 (nI (cb (M 5) a))) 4 0, sM M 14 (lkA (M 5) (M 14) a)), selF a o c (fdL a o c (sV (sV V 5 (nI (cb (M 5) a))) 4 0, sM M 14 (lkA (M 5) (M 14) a))), t + (paysF a o c (sV (sV V 5 (nI (cb (M 5) a))) 4 0, sM M 14 (lkA (M 5) (M 14) a))).toInt64) := if_neg h9; rw [e8]; exact ⟨rfl, rfl⟩)
          | succ zk ihk =>
            intro k h0k hik
            have hink : k < (cb ((fdL a o c (sV (sV V 5 (nI (cb (M 5) a))) 4 0, sM M 14 (lkA (M 5) (M 14) a))).2 5) a) := by omega
            refine j_iload_n hX dX12_sell_85 rfl ?_
            refine j_aload_n hX dX12_sell_86 rfl ?_
            refine j_getf hX (v := .int ((fdL a o c (sV (sV V 5 (nI (cb (M 5) a))) 4 0, sM M 14 (lkA (M 5) (M 14) a))).1 5)) dX12_sell_87 fX12_sell_93 0 (wMg0 _ _ _ _ _) rfl ?_
            refine jW.top (y := nI (cb ((fdL a o c (sV (sV V 5 (nI (cb (M 5) a))) 4 0, sM M 14 (lkA (M 5) (M 14) a))).2 5) a)) rfl ?_
            refine j_icmp_ge_f hX (tgt := 127) dX12_sell_90 (by decide) (nI_ge hink (by omega)) ?_
            refine j_aload_n hX dX12_sell_93 rfl ?_
            refine j_getf hX (v := .ref (ad 5)) dX12_sell_94 fX12_sell_22 0 (wMg0 _ _ _ _ _) rfl ?_
            refine j_aload_n hX dX12_sell_97 rfl ?_
            refine j_getf hX (v := .ref (ad 14)) dX12_sell_98 fX12_sell_52 0 (wMg0 _ _ _ _ _) rfl ?_
            refine j_iload_n hX dX12_sell_101 rfl ?_
            refine j_iald hX (v := ((fdL a o c (sV (sV V 5 (nI (cb (M 5) a))) 4 0, sM M 14 (lkA (M 5) (M 14) a))).2 14) k) dX12_sell_102 14 (wMg14 _ _ _ _ _) (nI_in (by omega) (by decide)) (rdc (by omega)) ?_
            refine j_bipush hX (v := 115) (by decide) dX12_sell_103 ?_
            refine j_cast hX (ws' := (wM G ad (sV (fdL a o c (sV (sV V 5 (nI (cb (M 5) a))) 4 0, sM M 14 (lkA (M 5) (M 14) a))).1 3 (usN (fdL a o c (sV (sV V 5 (nI (cb (M 5) a))) 4 0, sM M 14 (lkA (M 5) (M 14) a))).2 ((fdL a o c (sV (sV V 5 (nI (cb (M 5) a))) 4 0, sM M 14 (lkA (M 5) (M 14) a))).1 3) o)) (sM (sM (sM (fdL a o c (sV (sV V 5 (nI (cb (M 5) a))) 4 0, sM M 14 (lkA (M 5) (M 14) a))).2 (c + 26) (usA (fdL a o c (sV (sV V 5 (nI (cb (M 5) a))) 4 0, sM M 14 (lkA (M 5) (M 14) a))).2 ((fdL a o c (sV (sV V 5 (nI (cb (M 5) a))) 4 0, sM M 14 (lkA (M 5) (M 14) a))).2 (c + 26)) o)) 5 (upd (seA ((fdL a o c (sV (sV V 5 (nI (cb (M 5) a))) 4 0, sM M 14 (lkA (M 5) (M 14) a))).2 14) 115 ((fdL a o c (sV (sV V 5 (nI (cb (M 5) a))) 4 0, sM M 14 (lkA (M 5) (M 14) a))).2 5) k) ((((fdL a o c (sV (sV V 5 (nI (cb (M 5) a))) 4 0, sM M 14 (lkA (M 5) (M 14) a))).2 14) k).toNatClampNeg) 115)) 4 (seA ((fdL a o c (sV (sV V 5 (nI (cb (M 5) a))) 4 0, sM M 14 (lkA (M 5) (M 14) a))).2 14) (nI c) ((fdL a o c (sV (sV V 5 (nI (cb (M 5) a))) 4 0, sM M 14 (lkA (M 5) (M 14) a))).2 4) k)) t)) dX12_sell_105 5 (wMg5 _ _ _ _ _) (lkA_in ha6 hink) (by rw [show vp_nar .char 115 = 115 from by decide +kernel]; exact rfl) ?_
            refine j_aload_n hX dX12_sell_106 rfl ?_
            refine j_getf hX (v := .ref (ad 4)) dX12_sell_107 fX12_sell_19 0 (wMg0 _ _ _ _ _) rfl ?_
            refine j_aload_n hX dX12_sell_110 rfl ?_
            refine j_getf hX (v := .ref (ad 14)) dX12_sell_111 fX12_sell_52 0 (wMg0 _ _ _ _ _) rfl ?_
            refine j_iload_n hX dX12_sell_114 rfl ?_
            refine j_iald hX (v := ((fdL a o c (sV (sV V 5 (nI (cb (M 5) a))) 4 0, sM M 14 (lkA (M 5) (M 14) a))).2 14) k) dX12_sell_115 14 (wMg14 _ _ _ _ _) (nI_in (by omega) (by decide)) (rdc (by omega)) ?_
            refine j_aload_n hX dX12_sell_116 rfl ?_
            refine j_getf hX (v := .int ((fdL a o c (sV (sV V 5 (nI (cb (M 5) a))) 4 0, sM M 14 (lkA (M 5) (M 14) a))).1 1)) dX12_sell_117 fX12_sell_114 0 (wMg0 _ _ _ _ _) rfl ?_
            refine jW.top hJF.2.2.2.2.2.1 ?_
            refine j_iast hX (ws' := (wM G ad (sV (fdL a o c (sV (sV V 5 (nI (cb (M 5) a))) 4 0, sM M 14 (lkA (M 5) (M 14) a))).1 3 (usN (fdL a o c (sV (sV V 5 (nI (cb (M 5) a))) 4 0, sM M 14 (lkA (M 5) (M 14) a))).2 ((fdL a o c (sV (sV V 5 (nI (cb (M 5) a))) 4 0, sM M 14 (lkA (M 5) (M 14) a))).1 3) o)) (sM (sM (sM (fdL a o c (sV (sV V 5 (nI (cb (M 5) a))) 4 0, sM M 14 (lkA (M 5) (M 14) a))).2 (c + 26) (usA (fdL a o c (sV (sV V 5 (nI (cb (M 5) a))) 4 0, sM M 14 (lkA (M 5) (M 14) a))).2 ((fdL a o c (sV (sV V 5 (nI (cb (M 5) a))) 4 0, sM M 14 (lkA (M 5) (M 14) a))).2 (c + 26)) o)) 5 (upd (seA ((fdL a o c (sV (sV V 5 (nI (cb (M 5) a))) 4 0, sM M 14 (lkA (M 5) (M 14) a))).2 14) 115 ((fdL a o c (sV (sV V 5 (nI (cb (M 5) a))) 4 0, sM M 14 (lkA (M 5) (M 14) a))).2 5) k) ((((fdL a o c (sV (sV V 5 (nI (cb (M 5) a))) 4 0, sM M 14 (lkA (M 5) (M 14) a))).2 14) k).toNatClampNeg) 115)) 4 (upd (seA ((fdL a o c (sV (sV V 5 (nI (cb (M 5) a))) 4 0, sM M 14 (lkA (M 5) (M 14) a))).2 14) (nI c) ((fdL a o c (sV (sV V 5 (nI (cb (M 5) a))) 4 0, sM M 14 (lkA (M 5) (M 14) a))).2 4) k) ((((fdL a o c (sV (sV V 5 (nI (cb (M 5) a))) 4 0, sM M 14 (lkA (M 5) (M 14) a))).2 14) k).toNatClampNeg) (nI c))) t)) dX12_sell_120 4 (wMg4 _ _ _ _ _) (lkA_in ha6 hink) (wMo4 _ _ _ _ _ _ _) ?_
            refine j_iinc hX (v := nI (k + 1)) (ls' := [some (.ref (ad 0)), some (.int (paysF a o c (sV (sV V 5 (nI (cb (M 5) a))) 4 0, sM M 14 (lkA (M 5) (M 14) a)))), some (.int (nI (k + 1)))]) dX12_sell_121 rfl (j_inc1 _) rfl rfl ?_
            refine j_goto hX (tgt := 85) dX12_sell_124 (by decide) ?_
            exact ihk (k + 1) (by omega) (by omega)
        refine jW.world (ws' := (wM G ad (sV (fdL a o c (sV (sV V 5 (nI (cb (M 5) a))) 4 0, sM M 14 (lkA (M 5) (M 14) a))).1 3 (usN (fdL a o c (sV (sV V 5 (nI (cb (M 5) a))) 4 0, sM M 14 (lkA (M 5) (M 14) a))).2 ((fdL a o c (sV (sV V 5 (nI (cb (M 5) a))) 4 0, sM M 14 (lkA (M 5) (M 14) a))).1 3) o)) (sM (sM (sM (fdL a o c (sV (sV V 5 (nI (cb (M 5) a))) 4 0, sM M 14 (lkA (M 5) (M 14) a))).2 (c + 26) (usA (fdL a o c (sV (sV V 5 (nI (cb (M 5) a))) 4 0, sM M 14 (lkA (M 5) (M 14) a))).2 ((fdL a o c (sV (sV V 5 (nI (cb (M 5) a))) 4 0, sM M 14 (lkA (M 5) (M 14) a))).2 (c + 26)) o)) 5 (seA ((fdL a o c (sV (sV V 5 (nI (cb (M 5) a))) 4 0, sM M 14 (lkA (M 5) (M 14) a))).2 14) 115 ((fdL a o c (sV (sV V 5 (nI (cb (M 5) a))) 4 0, sM M 14 (lkA (M 5) (M 14) a))).2 5) 0)) 4 (seA ((fdL a o c (sV (sV V 5 (nI (cb (M 5) a))) 4 0, sM M 14 (lkA (M 5) (M 14) a))).2 14) (nI c) ((fdL a o c (sV (sV V 5 (nI (cb (M 5) a))) 4 0, sM M 14 (lkA (M 5) (M 14) a))).2 4) 0)) t)) (by rw [hinj]; rw [show seA ((fdL a o c (sV (sV V 5 (nI (cb (M 5) a))) 4 0, sM M 14 (lkA (M 5) (M 14) a))).2 14) 115 ((fdL a o c (sV (sV V 5 (nI (cb (M 5) a))) 4 0, sM M 14 (lkA (M 5) (M 14) a))).2 5) 0 = (sM (fdL a o c (sV (sV V 5 (nI (cb (M 5) a))) 4 0, sM M 14 (lkA (M 5) (M 14) a))).2 (c + 26) (usA (fdL a o c (sV (sV V 5 (nI (cb (M 5) a))) 4 0, sM M 14 (lkA (M 5) (M 14) a))).2 ((fdL a o c (sV (sV V 5 (nI (cb (M 5) a))) 4 0, sM M 14 (lkA (M 5) (M 14) a))).2 (c + 26)) o)) 5 from rfl, sM_eq]; rw [show seA ((fdL a o c (sV (sV V 5 (nI (cb (M 5) a))) 4 0, sM M 14 (lkA (M 5) (M 14) a))).2 14) (nI c) ((fdL a o c (sV (sV V 5 (nI (cb (M 5) a))) 4 0, sM M 14 (lkA (M 5) (M 14) a))).2 4) 0 = (sM (fdL a o c (sV (sV V 5 (nI (cb (M 5) a))) 4 0, sM M 14 (lkA (M 5) (M 14) a))).2 (c + 26) (usA (fdL a o c (sV (sV V 5 (nI (cb (M 5) a))) 4 0, sM M 14 (lkA (M 5) (M 14) a))).2 ((fdL a o c (sV (sV V 5 (nI (cb (M 5) a))) 4 0, sM M 14 (lkA (M 5) (M 14) a))).2 (c + 26)) o)) 4 from rfl, sM_eq]) ?_
        exact L85 (cb ((fdL a o c (sV (sV V 5 (nI (cb (M 5) a))) 4 0, sM M 14 (lkA (M 5) (M 14) a))).2 5) a) 0 (Nat.le_refl _) (by omega)
      | succ zj ihj =>
        intro j h0j hij
        have hinj : j < o := by omega
        refine j_iload_n hX dX12_sell_36 rfl ?_
        refine j_aload_n hX dX12_sell_37 rfl ?_
        refine j_getf hX (v := .int ((fdL a o c (sV (sV V 5 (nI (cb (M 5) a))) 4 0, sM M 14 (lkA (M 5) (M 14) a))).1 2)) dX12_sell_38 fX12_sell_121 0 (wMg0 _ _ _ _ _) rfl ?_
        refine jW.top hJF.2.2.2.1 ?_
        refine j_icmp_ge_f hX (tgt := 83) dX12_sell_41 (by decide) (nI_ge hinj (by omega)) ?_
        refine j_aload_n hX dX12_sell_44 rfl ?_
        refine j_getf hX (v := .ref (ad 13)) dX12_sell_45 fX12_sell_49 0 (wMg0 _ _ _ _ _) rfl ?_
        refine j_aload_n hX dX12_sell_48 rfl ?_
        refine j_getf hX (v := .int ((fdL a o c (sV (sV V 5 (nI (cb (M 5) a))) 4 0, sM M 14 (lkA (M 5) (M 14) a))).1 1)) dX12_sell_49 fX12_sell_114 0 (wMg0 _ _ _ _ _) rfl ?_
        refine jW.top hJF.2.2.2.2.2.1 ?_
        refine j_aaldI hX (v := .ref (ad (c + 26))) dX12_sell_52 13 (wMg13 _ _ _ _ _) (nI_in hc (by decide)) (by rw [nI_clamp (by omega)]; show va_rf (if c < 4 then some (ad (c + 26)) else none) = _; rw [if_pos hc]; rfl) ?_
        refine j_iload_n hX dX12_sell_53 rfl ?_
        refine j_dup2 hX dX12_sell_54 rfl rfl ?_
        refine j_iald hX (v := usA (fdL a o c (sV (sV V 5 (nI (cb (M 5) a))) 4 0, sM M 14 (lkA (M 5) (M 14) a))).2 ((fdL a o c (sV (sV V 5 (nI (cb (M 5) a))) 4 0, sM M 14 (lkA (M 5) (M 14) a))).2 (c + 26)) j j) dX12_sell_55 (c + 26) (wMgU hc) (nI_in (by omega) (by decide)) ((congrFun (sM_self9 _ _ _) _).trans (rdc (by omega))) ?_
        refine j_aload_n hX dX12_sell_56 rfl ?_
        refine j_iload_n hX dX12_sell_57 rfl ?_
        refine j_dV hX (nA := 1) (cq := (RX12, TX12, 37)) (As := [.int (nI j)]) (st := [.int (usA (fdL a o c (sV (sV V 5 (nI (cb (M 5) a))) 4 0, sM M 14 (lkA (M 5) (M 14) a))).2 ((fdL a o c (sV (sV V 5 (nI (cb (M 5) a))) 4 0, sM M 14 (lkA (M 5) (M 14) a))).2 (c + 26)) j j), .int (nI j), .ref (ad (c + 26))]) (st' := [.int (usM (fdL a o c (sV (sV V 5 (nI (cb (M 5) a))) 4 0, sM M 14 (lkA (M 5) (M 14) a))).2 j), .int (usA (fdL a o c (sV (sV V 5 (nI (cb (M 5) a))) 4 0, sM M 14 (lkA (M 5) (M 14) a))).2 ((fdL a o c (sV (sV V 5 (nI (cb (M 5) a))) 4 0, sM M 14 (lkA (M 5) (M 14) a))).2 (c + 26)) j j), .int (nI j), .ref (ad (c + 26))]) (ci := 13) rfl dX12_sell_58 (c_X12_usesOf G _ (sV (fdL a o c (sV (sV V 5 (nI (cb (M 5) a))) 4 0, sM M 14 (lkA (M 5) (M 14) a))).1 3 (usN (fdL a o c (sV (sV V 5 (nI (cb (M 5) a))) 4 0, sM M 14 (lkA (M 5) (M 14) a))).2 ((fdL a o c (sV (sV V 5 (nI (cb (M 5) a))) 4 0, sM M 14 (lkA (M 5) (M 14) a))).1 3) j)) (sM (fdL a o c (sV (sV V 5 (nI (cb (M 5) a))) 4 0, sM M 14 (lkA (M 5) (M 14) a))).2 (c + 26) (usA (fdL a o c (sV (sV V 5 (nI (cb (M 5) a))) 4 0, sM M 14 (lkA (M 5) (M 14) a))).2 ((fdL a o c (sV (sV V 5 (nI (cb (M 5) a))) 4 0, sM M 14 (lkA (M 5) (M 14) a))).2 (c + 26)) j)) _ j (by omega)) gX12_sell_X12_usesOf rfl (by decide +kernel) (q := 0) (wMg0 _ _ _ _ _) (by decide) (Nat.le_of_ble_eq_true rfl) rfl (Nat.le_of_ble_eq_true rfl) rfl ⟨Nat.le_refl _, Nat.le_refl _⟩ rfl ?_
        refine j_iadd hX dX12_sell_61 ?_
        refine j_iast hX (ws' := (wM G ad (sV (fdL a o c (sV (sV V 5 (nI (cb (M 5) a))) 4 0, sM M 14 (lkA (M 5) (M 14) a))).1 3 (usN (fdL a o c (sV (sV V 5 (nI (cb (M 5) a))) 4 0, sM M 14 (lkA (M 5) (M 14) a))).2 ((fdL a o c (sV (sV V 5 (nI (cb (M 5) a))) 4 0, sM M 14 (lkA (M 5) (M 14) a))).1 3) j)) (sM (fdL a o c (sV (sV V 5 (nI (cb (M 5) a))) 4 0, sM M 14 (lkA (M 5) (M 14) a))).2 (c + 26) (upd (usA (fdL a o c (sV (sV V 5 (nI (cb (M 5) a))) 4 0, sM M 14 (lkA (M 5) (M 14) a))).2 ((fdL a o c (sV (sV V 5 (nI (cb (M 5) a))) 4 0, sM M 14 (lkA (M 5) (M 14) a))).2 (c + 26)) j) j ((usA (fdL a o c (sV (sV V 5 (nI (cb (M 5) a))) 4 0, sM M 14 (lkA (M 5) (M 14) a))).2 ((fdL a o c (sV (sV V 5 (nI (cb (M 5) a))) 4 0, sM M 14 (lkA (M 5) (M 14) a))).2 (c + 26)) j j) + (usM (fdL a o c (sV (sV V 5 (nI (cb (M 5) a))) 4 0, sM M 14 (lkA (M 5) (M 14) a))).2 j)))) t)) dX12_sell_62 (c + 26) (wMgU hc) (nI_in (by omega) (by decide)) (by rw [nI_clamp (by omega), sM_self9]; exact wMoU hc _ _) ?_
        refine j_aload_n hX dX12_sell_63 rfl ?_
        refine j_dup hX dX12_sell_64 rfl ?_
        refine j_getf hX (v := .int (usN (fdL a o c (sV (sV V 5 (nI (cb (M 5) a))) 4 0, sM M 14 (lkA (M 5) (M 14) a))).2 ((fdL a o c (sV (sV V 5 (nI (cb (M 5) a))) 4 0, sM M 14 (lkA (M 5) (M 14) a))).1 3) j)) dX12_sell_65 fX12_sell_232 0 (wMg0 _ _ _ _ _) rfl ?_
        refine j_aload_n hX dX12_sell_68 rfl ?_
        refine j_iload_n hX dX12_sell_69 rfl ?_
        refine j_dV hX (nA := 1) (cq := (RX12, TX12, 37)) (As := [.int (nI j)]) (st := [.int (usN (fdL a o c (sV (sV V 5 (nI (cb (M 5) a))) 4 0, sM M 14 (lkA (M 5) (M 14) a))).2 ((fdL a o c (sV (sV V 5 (nI (cb (M 5) a))) 4 0, sM M 14 (lkA (M 5) (M 14) a))).1 3) j), .ref (ad 0)]) (st' := [.int (usM (fdL a o c (sV (sV V 5 (nI (cb (M 5) a))) 4 0, sM M 14 (lkA (M 5) (M 14) a))).2 j), .int (usN (fdL a o c (sV (sV V 5 (nI (cb (M 5) a))) 4 0, sM M 14 (lkA (M 5) (M 14) a))).2 ((fdL a o c (sV (sV V 5 (nI (cb (M 5) a))) 4 0, sM M 14 (lkA (M 5) (M 14) a))).1 3) j), .ref (ad 0)]) (ci := 13) rfl dX12_sell_70 (c_X12_usesOf G _ (sV (fdL a o c (sV (sV V 5 (nI (cb (M 5) a))) 4 0, sM M 14 (lkA (M 5) (M 14) a))).1 3 (usN (fdL a o c (sV (sV V 5 (nI (cb (M 5) a))) 4 0, sM M 14 (lkA (M 5) (M 14) a))).2 ((fdL a o c (sV (sV V 5 (nI (cb (M 5) a))) 4 0, sM M 14 (lkA (M 5) (M 14) a))).1 3) j)) (sM (fdL a o c (sV (sV V 5 (nI (cb (M 5) a))) 4 0, sM M 14 (lkA (M 5) (M 14) a))).2 (c + 26) (upd (usA (fdL a o c (sV (sV V 5 (nI (cb (M 5) a))) 4 0, sM M 14 (lkA (M 5) (M 14) a))).2 ((fdL a o c (sV (sV V 5 (nI (cb (M 5) a))) 4 0, sM M 14 (lkA (M 5) (M 14) a))).2 (c + 26)) j) j ((usA (fdL a o c (sV (sV V 5 (nI (cb (M 5) a))) 4 0, sM M 14 (lkA (M 5) (M 14) a))).2 ((fdL a o c (sV (sV V 5 (nI (cb (M 5) a))) 4 0, sM M 14 (lkA (M 5) (M 14) a))).2 (c + 26)) j j) + (usM (fdL a o c (sV (sV V 5 (nI (cb (M 5) a))) 4 0, sM M 14 (lkA (M 5) (M 14) a))).2 j)))) _ j (by omega)) gX12_sell_X12_usesOf rfl (by decide +kernel) (q := 0) (wMg0 _ _ _ _ _) (by decide) (Nat.le_of_ble_eq_true rfl) rfl (Nat.le_of_ble_eq_true rfl) rfl ⟨Nat.le_refl _, Nat.le_refl _⟩ rfl ?_
        refine j_iadd hX dX12_sell_73 ?_
        refine j_putf hX (ws' := (wM G ad (sV (fdL a o c (sV (sV V 5 (nI (cb (M 5) a))) 4 0, sM M 14 (lkA (M 5) (M 14) a))).1 3 ((usN (fdL a o c (sV (sV V 5 (nI (cb (M 5) a))) 4 0, sM M 14 (lkA (M 5) (M 14) a))).2 ((fdL a o c (sV (sV V 5 (nI (cb (M 5) a))) 4 0, sM M 14 (lkA (M 5) (M 14) a))).1 3) j) + (usM (fdL a o c (sV (sV V 5 (nI (cb (M 5) a))) 4 0, sM M 14 (lkA (M 5) (M 14) a))).2 j))) (sM (fdL a o c (sV (sV V 5 (nI (cb (M 5) a))) 4 0, sM M 14 (lkA (M 5) (M 14) a))).2 (c + 26) (upd (usA (fdL a o c (sV (sV V 5 (nI (cb (M 5) a))) 4 0, sM M 14 (lkA (M 5) (M 14) a))).2 ((fdL a o c (sV (sV V 5 (nI (cb (M 5) a))) 4 0, sM M 14 (lkA (M 5) (M 14) a))).2 (c + 26)) j) j ((usA (fdL a o c (sV (sV V 5 (nI (cb (M 5) a))) 4 0, sM M 14 (lkA (M 5) (M 14) a))).2 ((fdL a o c (sV (sV V 5 (nI (cb (M 5) a))) 4 0, sM M 14 (lkA (M 5) (M 14) a))).2 (c + 26)) j j) + (usM (fdL a o c (sV (sV V 5 (nI (cb (M 5) a))) 4 0, sM M 14 (lkA (M 5) (M 14) a))).2 j)))) t)) dX12_sell_74 fX12_sell_232 0 (wMg0 _ _ _ _ _) (Nat.le_of_ble_eq_true rfl) rfl rfl rfl ?_
        refine j_iinc hX (v := nI (j + 1)) (ls' := [some (.ref (ad 0)), some (.int (paysF a o c (sV (sV V 5 (nI (cb (M 5) a))) 4 0, sM M 14 (lkA (M 5) (M 14) a)))), some (.int (nI (j + 1)))]) dX12_sell_77 rfl (j_inc1 _) rfl rfl ?_
        refine j_goto hX (tgt := 36) dX12_sell_80 (by decide) ?_
        exact ihj (j + 1) (by omega) (by omega)
    refine jW.world (ws' := (wM G ad (sV (fdL a o c (sV (sV V 5 (nI (cb (M 5) a))) 4 0, sM M 14 (lkA (M 5) (M 14) a))).1 3 (usN (fdL a o c (sV (sV V 5 (nI (cb (M 5) a))) 4 0, sM M 14 (lkA (M 5) (M 14) a))).2 ((fdL a o c (sV (sV V 5 (nI (cb (M 5) a))) 4 0, sM M 14 (lkA (M 5) (M 14) a))).1 3) 0)) (sM (fdL a o c (sV (sV V 5 (nI (cb (M 5) a))) 4 0, sM M 14 (lkA (M 5) (M 14) a))).2 (c + 26) (usA (fdL a o c (sV (sV V 5 (nI (cb (M 5) a))) 4 0, sM M 14 (lkA (M 5) (M 14) a))).2 ((fdL a o c (sV (sV V 5 (nI (cb (M 5) a))) 4 0, sM M 14 (lkA (M 5) (M 14) a))).2 (c + 26)) 0)) t)) (by rw [show usA (fdL a o c (sV (sV V 5 (nI (cb (M 5) a))) 4 0, sM M 14 (lkA (M 5) (M 14) a))).2 ((fdL a o c (sV (sV V 5 (nI (cb (M 5) a))) 4 0, sM M 14 (lkA (M 5) (M 14) a))).2 (c + 26)) 0 = (fdL a o c (sV (sV V 5 (nI (cb (M 5) a))) 4 0, sM M 14 (lkA (M 5) (M 14) a))).2 (c + 26) from rfl, show usN (fdL a o c (sV (sV V 5 (nI (cb (M 5) a))) 4 0, sM M 14 (lkA (M 5) (M 14) a))).2 ((fdL a o c (sV (sV V 5 (nI (cb (M 5) a))) 4 0, sM M 14 (lkA (M 5) (M 14) a))).1 3) 0 = (fdL a o c (sV (sV V 5 (nI (cb (M 5) a))) 4 0, sM M 14 (lkA (M 5) (M 14) a))).1 3 from rfl, sM_eq, sV_eq]) ?_
    exact L36 o 0 (Nat.le_refl _) (by omega)
  · refine j_iconst hX (v := 1) (by decide) dX12_sell_12 ?_
    refine j_goto hX (tgt := 17) dX12_sell_13 (by decide) ?_
    refine j_putf hX (ws' := (wM G ad (sV (sV V 5 (nI (cb (M 5) a))) 4 1) (sM M 14 (lkA (M 5) (M 14) a)) t)) dX12_sell_17 fX12_sell_89 0 (wMg0 _ _ _ _ _) (Nat.le_of_ble_eq_true rfl) rfl rfl (wMp0_18 _ _ _ _ _ _) ?_
    refine j_aload_n hX dX12_sell_20 rfl ?_
    refine j_getf hX (v := .int 1) dX12_sell_21 fX12_sell_89 0 (wMg0 _ _ _ _ _) rfl ?_
    refine j_if_le_f hX (tgt := 29) dX12_sell_24 (by decide) (by decide) ?_
    refine j_iconst hX (v := 0) (by decide) dX12_sell_27 ?_
    exact j_iret hX dX12_sell_28 (by have e8 : msel a o c V M t = (0, ((sV (sV V 5 (nI (cb (M 5) a))) 4 1), (sM M 14 (lkA (M 5) (M 14) a))), t) := if_pos h9; rw [e8]; exact ⟨rfl, rfl⟩)

