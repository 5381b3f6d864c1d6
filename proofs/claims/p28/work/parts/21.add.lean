theorem fX5_init_9_X7 : jF wsX5_init RX5 9 8 0 true .int := ⟨(RX7, TX7, 4), tyX7, rfl, by decide, by decide +kernel, by decide +kernel, tyX7_ok, nmX7, rfl, by decide +kernel, by decide +kernel⟩
theorem fX5_init_15_X7 : jF wsX5_init RX5 15 8 1 true .int := ⟨(RX7, TX7, 4), tyX7, rfl, by decide, by decide +kernel, by decide +kernel, tyX7_ok, nmX7, rfl, by decide +kernel, by decide +kernel⟩
theorem fX5_init_9_X3 : jF wsX5_init RX5 9 5 0 true .int := ⟨(RX3, TX3, 4), tyX3, rfl, by decide, by decide +kernel, by decide +kernel, tyX3_ok, nmX3, rfl, by decide +kernel, by decide +kernel⟩
theorem fX5_init_15_X3 : jF wsX5_init RX5 15 5 1 true .int := ⟨(RX3, TX3, 4), tyX3, rfl, by decide, by decide +kernel, by decide +kernel, tyX3_ok, nmX3, rfl, by decide +kernel, by decide +kernel⟩
theorem fX5_init_9_X9 : jF wsX5_init RX5 9 10 0 true .int := ⟨(RX9, TX9, 4), tyX9, rfl, by decide, by decide +kernel, by decide +kernel, tyX9_ok, nmX9, rfl, by decide +kernel, by decide +kernel⟩
theorem fX5_init_15_X9 : jF wsX5_init RX5 15 10 1 true .int := ⟨(RX9, TX9, 4), tyX9, rfl, by decide, by decide +kernel, by decide +kernel, tyX9_ok, nmX9, rfl, by decide +kernel, by decide +kernel⟩
theorem fX5_init_9_X2 : jF wsX5_init RX5 9 4 0 true .int := ⟨(RX2, TX2, 9), tyX2, rfl, by decide, by decide +kernel, by decide +kernel, tyX2_ok, nmX2, rfl, by decide +kernel, by decide +kernel⟩
theorem fX5_init_15_X2 : jF wsX5_init RX5 15 4 1 true .int := ⟨(RX2, TX2, 9), tyX2, rfl, by decide, by decide +kernel, by decide +kernel, tyX2_ok, nmX2, rfl, by decide +kernel, by decide +kernel⟩
theorem fX7_init_9 : jF wsX7_init RX7 9 8 2 true .int := ⟨(RX7, TX7, 4), tyX7, rfl, by decide, by decide +kernel, by decide +kernel, tyX7_ok, nmX7, rfl, by decide +kernel, by decide +kernel⟩
theorem fX7_init_15 : jF wsX7_init RX7 15 8 3 true .int := ⟨(RX7, TX7, 4), tyX7, rfl, by decide, by decide +kernel, by decide +kernel, tyX7_ok, nmX7, rfl, by decide +kernel, by decide +kernel⟩
theorem fX3_init_9 : jF wsX3_init RX3 9 5 2 true .int := ⟨(RX3, TX3, 4), tyX3, rfl, by decide, by decide +kernel, by decide +kernel, tyX3_ok, nmX3, rfl, by decide +kernel, by decide +kernel⟩
theorem fX3_init_15 : jF wsX3_init RX3 15 5 3 true .int := ⟨(RX3, TX3, 4), tyX3, rfl, by decide, by decide +kernel, by decide +kernel, tyX3_ok, nmX3, rfl, by decide +kernel, by decide +kernel⟩
theorem fX9_init_7 : jF wsX9_init RX9 7 10 2 true .int := ⟨(RX9, TX9, 4), tyX9, rfl, by decide, by decide +kernel, by decide +kernel, tyX9_ok, nmX9, rfl, by decide +kernel, by decide +kernel⟩
theorem fX9_init_13 : jF wsX9_init RX9 13 10 3 true .int := ⟨(RX9, TX9, 4), tyX9, rfl, by decide, by decide +kernel, by decide +kernel, tyX9_ok, nmX9, rfl, by decide +kernel, by decide +kernel⟩
theorem fX2_init_9 : jF wsX2_init RX2 9 4 2 true .int := ⟨(RX2, TX2, 9), tyX2, rfl, by decide, by decide +kernel, by decide +kernel, tyX2_ok, nmX2, rfl, by decide +kernel, by decide +kernel⟩
theorem fX2_init_15 : jF wsX2_init RX2 15 4 3 true .int := ⟨(RX2, TX2, 9), tyX2, rfl, by decide, by decide +kernel, by decide +kernel, tyX2_ok, nmX2, rfl, by decide +kernel, by decide +kernel⟩
theorem fX2_init_18 : jF wsX2_init RX2 18 4 4 true .int := ⟨(RX2, TX2, 9), tyX2, rfl, by decide, by decide +kernel, by decide +kernel, tyX2_ok, nmX2, rfl, by decide +kernel, by decide +kernel⟩
theorem fX2_init_21 : jF wsX2_init RX2 21 4 8 true .int := ⟨(RX2, TX2, 9), tyX2, rfl, by decide, by decide +kernel, by decide +kernel, tyX2_ok, nmX2, rfl, by decide +kernel, by decide +kernel⟩
theorem fX2_init_24 : jF wsX2_init RX2 24 4 5 true .int := ⟨(RX2, TX2, 9), tyX2, rfl, by decide, by decide +kernel, by decide +kernel, tyX2_ok, nmX2, rfl, by decide +kernel, by decide +kernel⟩
theorem fX2_init_27 : jF wsX2_init RX2 27 4 6 true .int := ⟨(RX2, TX2, 9), tyX2, rfl, by decide, by decide +kernel, by decide +kernel, tyX2_ok, nmX2, rfl, by decide +kernel, by decide +kernel⟩
theorem fX2_init_30 : jF wsX2_init RX2 30 4 7 true .int := ⟨(RX2, TX2, 9), tyX2, rfl, by decide, by decide +kernel, by decide +kernel, tyX2_ok, nmX2, rfl, by decide +kernel, by decide +kernel⟩
theorem fX11_enter_68 : jF wsX11_enter RX11 68 12 6 false .boolean := ⟨(RX11, TX11, 7), tyX11, rfl, by decide, by decide +kernel, by decide +kernel, tyX11_ok, nmX11, rfl, by decide +kernel, fun h => by cases h⟩
theorem fX11_enter_19 : jF wsX11_enter RX11 19 12 1 true (.object "BasketOffers$OfferBook") := ⟨(RX11, TX11, 7), tyX11, rfl, by decide, by decide +kernel, by decide +kernel, tyX11_ok, nmX11, rfl, by decide +kernel, by decide +kernel⟩
theorem fX11_addPercentage_19 : jF wsX11_addPercentage RX11 19 12 1 true (.object "BasketOffers$OfferBook") := ⟨(RX11, TX11, 7), tyX11, rfl, by decide, by decide +kernel, by decide +kernel, tyX11_ok, nmX11, rfl, by decide +kernel, by decide +kernel⟩
theorem fX11_addFreeItem_19 : jF wsX11_addFreeItem RX11 19 12 1 true (.object "BasketOffers$OfferBook") := ⟨(RX11, TX11, 7), tyX11, rfl, by decide, by decide +kernel, by decide +kernel, tyX11_ok, nmX11, rfl, by decide +kernel, by decide +kernel⟩
theorem fX11_addThreshold_19 : jF wsX11_addThreshold RX11 19 12 1 true (.object "BasketOffers$OfferBook") := ⟨(RX11, TX11, 7), tyX11, rfl, by decide, by decide +kernel, by decide +kernel, tyX11_ok, nmX11, rfl, by decide +kernel, by decide +kernel⟩
theorem fX11_addBundle_19 : jF wsX11_addBundle RX11 19 12 1 true (.object "BasketOffers$OfferBook") := ⟨(RX11, TX11, 7), tyX11, rfl, by decide, by decide +kernel, by decide +kernel, tyX11_ok, nmX11, rfl, by decide +kernel, by decide +kernel⟩
def eqV (x y : Int32) : Int32 := if x = y then 1 else 0
def adU (ad : Nat → Nat) (o q : Nat) : Nat → Nat := fun j => if j = 30 + o then q else ad j
def osU (os : Nat → ofr) (o : Nat) (e : ofr) : Nat → ofr := fun j => if j = o then e else os j
theorem adU_lt {ad : Nat → Nat} {o q k : Nat} (h : k < 30 + o) : adU ad o q k = ad k := if_neg (by omega)
theorem adU_self {ad : Nat → Nat} {o q : Nat} : adU ad o q (30 + o) = q := if_pos rfl
theorem enO_U (ad : Nat → Nat) (o q : Nat) : enO (adU ad o q) o = enO ad o := by
  funext j
  unfold enO
  by_cases h : j < o
  · rw [if_pos h, if_pos h, adU_lt (by omega)]
  · rw [if_neg h, if_neg h]
theorem wO_U (ad : Nat → Nat) (os : Nat → ofr) (o q : Nat) (e : ofr) : wO (adU ad o q) (osU os o e) (o + 1) = wO ad os o ++ [(q, cellO e)] := by
  unfold wO
  rw [List.range_succ, List.map_append]
  congr 1
  · apply List.map_congr_left
    intro j hj
    have hj' := List.mem_range.mp hj
    rw [adU_lt (by omega), osU, if_neg (by omega)]
  · rw [List.map_singleton, adU_self, osU, if_pos rfl]
theorem wC_new (G : jG) (ad : Nat → Nat) (V : Nat → Int32) (M : Nat → Nat → Int32) (os : Nat → ofr) (o q : Nat) (e : ofr) : wC G ad V M (enO ad o) (wO ad os o) ++ ([(q, cellO e)] ++ []) = wC G (adU ad o q) V M (enO (adU ad o q) o) (wO (adU ad o q) (osU os o e) (o + 1)) := by
  rw [wO_U, enO_U]
  unfold wC
  rw [List.append_nil, List.append_assoc]
  simp only [adU_lt (show 0 < 30 + o by omega), adU_lt (show 1 < 30 + o by omega), adU_lt (show 2 < 30 + o by omega), adU_lt (show 3 < 30 + o by omega), adU_lt (show 4 < 30 + o by omega), adU_lt (show 5 < 30 + o by omega), adU_lt (show 6 < 30 + o by omega), adU_lt (show 7 < 30 + o by omega), adU_lt (show 8 < 30 + o by omega), adU_lt (show 9 < 30 + o by omega), adU_lt (show 10 < 30 + o by omega), adU_lt (show 11 < 30 + o by omega), adU_lt (show 12 < 30 + o by omega), adU_lt (show 13 < 30 + o by omega), adU_lt (show 14 < 30 + o by omega), adU_lt (show 15 < 30 + o by omega), adU_lt (show 16 < 30 + o by omega), adU_lt (show 17 < 30 + o by omega), adU_lt (show 18 < 30 + o by omega), adU_lt (show 19 < 30 + o by omega), adU_lt (show 20 < 30 + o by omega), adU_lt (show 21 < 30 + o by omega), adU_lt (show 22 < 30 + o by omega), adU_lt (show 23 < 30 + o by omega), adU_lt (show 24 < 30 + o by omega), adU_lt (show 25 < 30 + o by omega), adU_lt (show 26 < 30 + o by omega), adU_lt (show 27 < 30 + o by omega), adU_lt (show 28 < 30 + o by omega), adU_lt (show 29 < 30 + o by omega)]
def ofr4 (ci : Nat) (a b c d : Int32) : ofr := (ci, fun i => bif Nat.beq i 0 then a else bif Nat.beq i 1 then b else bif Nat.beq i 2 then c else d)
def ofrB (l g f s t p : Int32) : ofr := (4, fun i => bif Nat.beq i 0 then l else bif Nat.beq i 1 then g else bif Nat.beq i 2 then f else bif Nat.beq i 3 then s else bif Nat.beq i 4 then t else bif Nat.beq i 5 then 1 + eqV f s + eqV f t else bif Nat.beq i 6 then 1 + eqV f s + eqV s t else bif Nat.beq i 7 then 1 + eqV f t + eqV s t else p)
theorem osU_ok {os : Nat → ofr} {o : Nat} {e : ofr} (h : ∀ j, j < o → okO (os j)) (he : okO e) : ∀ j, j < o + 1 → okO (osU os o e j) := by
  intro j hj
  unfold osU
  by_cases e2 : j = o
  · rw [if_pos e2]
    exact he
  · rw [if_neg e2]
    exact h j (by omega)
set_option maxHeartbeats 4000000 in
set_option maxRecDepth 100000 in
theorem c_X5_init_X7 (G : jG) (b : Nat) (l g : Int32) : jD G 1 yX5_init wsX5_init [.ref b, .int l, .int g] [(b, .inr (8, [.int 0, .int 0, .int 0, .int 0]))] none [(b, .inr (8, [.int l, .int g, .int 0, .int 0]))] := by
  refine jC.ofI (maxL := 3) (cc := cX5_init) (ret := none) rfl (by decide) [some (.ref b), some (.int l), some (.int g)] rfl (Nat.le_of_ble_eq_true rfl) (j_args rfl) (fun X hX hNm => ?_)
  refine j_aload_n hX dX5_init_0 rfl ?_
  refine j_objInit hX dX5_init_1 (by decide +kernel) (by decide +kernel) (by decide +kernel) (by decide) rfl (Nat.le_of_ble_eq_true rfl) ?_
  refine j_aload_n hX dX5_init_4 rfl ?_
  refine j_iload_n hX dX5_init_5 rfl ?_
  refine j_putF hX hNm (ws' := [(b, .inr (8, [.int l, .int 0, .int 0, .int 0]))]) dX5_init_6 fX5_init_9_X7 0 rfl (Nat.le_of_ble_eq_true rfl) rfl rfl rfl ?_
  refine j_aload_n hX dX5_init_9 rfl ?_
  refine j_iload_n hX dX5_init_10 rfl ?_
  refine j_putF hX hNm (ws' := [(b, .inr (8, [.int l, .int g, .int 0, .int 0]))]) dX5_init_11 fX5_init_15_X7 0 rfl (Nat.le_of_ble_eq_true rfl) rfl rfl rfl ?_
  exact j_vret hX dX5_init_14 ⟨rfl, rfl⟩

set_option maxHeartbeats 4000000 in
set_option maxRecDepth 100000 in
theorem c_X5_init_X3 (G : jG) (b : Nat) (l g : Int32) : jD G 1 yX5_init wsX5_init [.ref b, .int l, .int g] [(b, .inr (5, [.int 0, .int 0, .int 0, .int 0]))] none [(b, .inr (5, [.int l, .int g, .int 0, .int 0]))] := by
  refine jC.ofI (maxL := 3) (cc := cX5_init) (ret := none) rfl (by decide) [some (.ref b), some (.int l), some (.int g)] rfl (Nat.le_of_ble_eq_true rfl) (j_args rfl) (fun X hX hNm => ?_)
  refine j_aload_n hX dX5_init_0 rfl ?_
  refine j_objInit hX dX5_init_1 (by decide +kernel) (by decide +kernel) (by decide +kernel) (by decide) rfl (Nat.le_of_ble_eq_true rfl) ?_
  refine j_aload_n hX dX5_init_4 rfl ?_
  refine j_iload_n hX dX5_init_5 rfl ?_
  refine j_putF hX hNm (ws' := [(b, .inr (5, [.int l, .int 0, .int 0, .int 0]))]) dX5_init_6 fX5_init_9_X3 0 rfl (Nat.le_of_ble_eq_true rfl) rfl rfl rfl ?_
  refine j_aload_n hX dX5_init_9 rfl ?_
  refine j_iload_n hX dX5_init_10 rfl ?_
  refine j_putF hX hNm (ws' := [(b, .inr (5, [.int l, .int g, .int 0, .int 0]))]) dX5_init_11 fX5_init_15_X3 0 rfl (Nat.le_of_ble_eq_true rfl) rfl rfl rfl ?_
  exact j_vret hX dX5_init_14 ⟨rfl, rfl⟩

set_option maxHeartbeats 4000000 in
set_option maxRecDepth 100000 in
theorem c_X5_init_X9 (G : jG) (b : Nat) (l g : Int32) : jD G 1 yX5_init wsX5_init [.ref b, .int l, .int g] [(b, .inr (10, [.int 0, .int 0, .int 0, .int 0]))] none [(b, .inr (10, [.int l, .int g, .int 0, .int 0]))] := by
  refine jC.ofI (maxL := 3) (cc := cX5_init) (ret := none) rfl (by decide) [some (.ref b), some (.int l), some (.int g)] rfl (Nat.le_of_ble_eq_true rfl) (j_args rfl) (fun X hX hNm => ?_)
  refine j_aload_n hX dX5_init_0 rfl ?_
  refine j_objInit hX dX5_init_1 (by decide +kernel) (by decide +kernel) (by decide +kernel) (by decide) rfl (Nat.le_of_ble_eq_true rfl) ?_
  refine j_aload_n hX dX5_init_4 rfl ?_
  refine j_iload_n hX dX5_init_5 rfl ?_
  refine j_putF hX hNm (ws' := [(b, .inr (10, [.int l, .int 0, .int 0, .int 0]))]) dX5_init_6 fX5_init_9_X9 0 rfl (Nat.le_of_ble_eq_true rfl) rfl rfl rfl ?_
  refine j_aload_n hX dX5_init_9 rfl ?_
  refine j_iload_n hX dX5_init_10 rfl ?_
  refine j_putF hX hNm (ws' := [(b, .inr (10, [.int l, .int g, .int 0, .int 0]))]) dX5_init_11 fX5_init_15_X9 0 rfl (Nat.le_of_ble_eq_true rfl) rfl rfl rfl ?_
  exact j_vret hX dX5_init_14 ⟨rfl, rfl⟩

set_option maxHeartbeats 4000000 in
set_option maxRecDepth 100000 in
theorem c_X5_init_X2 (G : jG) (b : Nat) (l g : Int32) : jD G 1 yX5_init wsX5_init [.ref b, .int l, .int g] [(b, .inr (4, [.int 0, .int 0, .int 0, .int 0, .int 0, .int 0, .int 0, .int 0, .int 0]))] none [(b, .inr (4, [.int l, .int g, .int 0, .int 0, .int 0, .int 0, .int 0, .int 0, .int 0]))] := by
  refine jC.ofI (maxL := 3) (cc := cX5_init) (ret := none) rfl (by decide) [some (.ref b), some (.int l), some (.int g)] rfl (Nat.le_of_ble_eq_true rfl) (j_args rfl) (fun X hX hNm => ?_)
  refine j_aload_n hX dX5_init_0 rfl ?_
  refine j_objInit hX dX5_init_1 (by decide +kernel) (by decide +kernel) (by decide +kernel) (by decide) rfl (Nat.le_of_ble_eq_true rfl) ?_
  refine j_aload_n hX dX5_init_4 rfl ?_
  refine j_iload_n hX dX5_init_5 rfl ?_
  refine j_putF hX hNm (ws' := [(b, .inr (4, [.int l, .int 0, .int 0, .int 0, .int 0, .int 0, .int 0, .int 0, .int 0]))]) dX5_init_6 fX5_init_9_X2 0 rfl (Nat.le_of_ble_eq_true rfl) rfl rfl rfl ?_
  refine j_aload_n hX dX5_init_9 rfl ?_
  refine j_iload_n hX dX5_init_10 rfl ?_
  refine j_putF hX hNm (ws' := [(b, .inr (4, [.int l, .int g, .int 0, .int 0, .int 0, .int 0, .int 0, .int 0, .int 0]))]) dX5_init_11 fX5_init_15_X2 0 rfl (Nat.le_of_ble_eq_true rfl) rfl rfl rfl ?_
  exact j_vret hX dX5_init_14 ⟨rfl, rfl⟩

set_option maxHeartbeats 4000000 in
set_option maxRecDepth 100000 in
theorem c_X7_init (G : jG) (b : Nat) (c e l g : Int32) : jD G 2 yX7_init wsX7_init [.ref b, .int c, .int e, .int l, .int g] [(b, .inr (8, [.int 0, .int 0, .int 0, .int 0]))] none [(b, cellO (ofr4 8 l g c e))] := by
  refine jC.ofI (maxL := 5) (cc := cX7_init) (ret := none) rfl (by decide) [some (.ref b), some (.int c), some (.int e), some (.int l), some (.int g)] rfl (Nat.le_of_ble_eq_true rfl) (j_args rfl) (fun X hX hNm => ?_)
  refine j_aload_n hX dX7_init_0 rfl ?_
  refine j_iload_n hX dX7_init_1 rfl ?_
  refine j_iload hX dX7_init_2 rfl ?_
  refine j_callI hX (nA := 2) (As := [.int l, .int g]) (st := []) (wa := []) (w0 := [(b, .inr (8, [.int 0, .int 0, .int 0, .int 0]))]) (wb := []) dX7_init_4 (c_X5_init_X7 G b l g) gX7_init_X5_init rfl (by decide +kernel) (by decide +kernel) (by decide +kernel) rfl rfl (by decide +kernel) (by decide) (Nat.le_of_ble_eq_true rfl) rfl (Nat.le_of_ble_eq_true rfl) ⟨by decide, by decide⟩ rfl rfl (fun rv w1 hp => ?_)
  obtain ⟨rfl, rfl⟩ := hp
  refine jW.world (ws' := [(b, .inr (8, [.int l, .int g, .int 0, .int 0]))]) rfl ?_
  refine jW.stk (st' := []) rfl ?_
  refine j_aload_n hX dX7_init_7 rfl ?_
  refine j_iload_n hX dX7_init_8 rfl ?_
  refine j_putF hX hNm (ws' := [(b, .inr (8, [.int l, .int g, .int c, .int 0]))]) dX7_init_9 fX7_init_9 0 rfl (Nat.le_of_ble_eq_true rfl) rfl rfl rfl ?_
  refine j_aload_n hX dX7_init_12 rfl ?_
  refine j_iload_n hX dX7_init_13 rfl ?_
  refine j_putF hX hNm (ws' := [(b, .inr (8, [.int l, .int g, .int c, .int e]))]) dX7_init_14 fX7_init_15 0 rfl (Nat.le_of_ble_eq_true rfl) rfl rfl rfl ?_
  exact j_vret hX dX7_init_17 ⟨rfl, rfl⟩

set_option maxHeartbeats 4000000 in
set_option maxRecDepth 100000 in
theorem c_X3_init (G : jG) (b : Nat) (c e l g : Int32) : jD G 2 yX3_init wsX3_init [.ref b, .int c, .int e, .int l, .int g] [(b, .inr (5, [.int 0, .int 0, .int 0, .int 0]))] none [(b, cellO (ofr4 5 l g c e))] := by
  refine jC.ofI (maxL := 5) (cc := cX3_init) (ret := none) rfl (by decide) [some (.ref b), some (.int c), some (.int e), some (.int l), some (.int g)] rfl (Nat.le_of_ble_eq_true rfl) (j_args rfl) (fun X hX hNm => ?_)
  refine j_aload_n hX dX3_init_0 rfl ?_
  refine j_iload_n hX dX3_init_1 rfl ?_
  refine j_iload hX dX3_init_2 rfl ?_
  refine j_callI hX (nA := 2) (As := [.int l, .int g]) (st := []) (wa := []) (w0 := [(b, .inr (5, [.int 0, .int 0, .int 0, .int 0]))]) (wb := []) dX3_init_4 (c_X5_init_X3 G b l g) gX3_init_X5_init rfl (by decide +kernel) (by decide +kernel) (by decide +kernel) rfl rfl (by decide +kernel) (by decide) (Nat.le_of_ble_eq_true rfl) rfl (Nat.le_of_ble_eq_true rfl) ⟨by decide, by decide⟩ rfl rfl (fun rv w1 hp => ?_)
  obtain ⟨rfl, rfl⟩ := hp
  refine jW.world (ws' := [(b, .inr (5, [.int l, .int g, .int 0, .int 0]))]) rfl ?_
  refine jW.stk (st' := []) rfl ?_
  refine j_aload_n hX dX3_init_7 rfl ?_
  refine j_iload_n hX dX3_init_8 rfl ?_
  refine j_putF hX hNm (ws' := [(b, .inr (5, [.int l, .int g, .int c, .int 0]))]) dX3_init_9 fX3_init_9 0 rfl (Nat.le_of_ble_eq_true rfl) rfl rfl rfl ?_
  refine j_aload_n hX dX3_init_12 rfl ?_
  refine j_iload_n hX dX3_init_13 rfl ?_
  refine j_putF hX hNm (ws' := [(b, .inr (5, [.int l, .int g, .int c, .int e]))]) dX3_init_14 fX3_init_15 0 rfl (Nat.le_of_ble_eq_true rfl) rfl rfl rfl ?_
  exact j_vret hX dX3_init_17 ⟨rfl, rfl⟩

set_option maxHeartbeats 4000000 in
set_option maxRecDepth 100000 in
theorem c_X9_init (G : jG) (b : Nat) (c e l g : Int32) : jD G 2 yX9_init wsX9_init [.ref b, .int c, .int e, .int l, .int g] [(b, .inr (10, [.int 0, .int 0, .int 0, .int 0]))] none [(b, cellO (ofr4 10 l g c e))] := by
  refine jC.ofI (maxL := 5) (cc := cX9_init) (ret := none) rfl (by decide) [some (.ref b), some (.int c), some (.int e), some (.int l), some (.int g)] rfl (Nat.le_of_ble_eq_true rfl) (j_args rfl) (fun X hX hNm => ?_)
  refine j_aload_n hX dX9_init_0 rfl ?_
  refine j_iload_n hX dX9_init_1 rfl ?_
  refine j_iload hX dX9_init_2 rfl ?_
  refine j_callI hX (nA := 2) (As := [.int l, .int g]) (st := []) (wa := []) (w0 := [(b, .inr (10, [.int 0, .int 0, .int 0, .int 0]))]) (wb := []) dX9_init_4 (c_X5_init_X9 G b l g) gX9_init_X5_init rfl (by decide +kernel) (by decide +kernel) (by decide +kernel) rfl rfl (by decide +kernel) (by decide) (Nat.le_of_ble_eq_true rfl) rfl (Nat.le_of_ble_eq_true rfl) ⟨by decide, by decide⟩ rfl rfl (fun rv w1 hp => ?_)
  obtain ⟨rfl, rfl⟩ := hp
  refine jW.world (ws' := [(b, .inr (10, [.int l, .int g, .int 0, .int 0]))]) rfl ?_
  refine jW.stk (st' := []) rfl ?_
  refine j_aload_n hX dX9_init_7 rfl ?_
  refine j_iload_n hX dX9_init_8 rfl ?_
  refine j_putF hX hNm (ws' := [(b, .inr (10, [.int l, .int g, .int c, .int 0]))]) dX9_init_9 fX9_init_7 0 rfl (Nat.le_of_ble_eq_true rfl) rfl rfl rfl ?_
  refine j_aload_n hX dX9_init_12 rfl ?_
  refine j_iload_n hX dX9_init_13 rfl ?_
  refine j_putF hX hNm (ws' := [(b, .inr (10, [.int l, .int g, .int c, .int e]))]) dX9_init_14 fX9_init_13 0 rfl (Nat.le_of_ble_eq_true rfl) rfl rfl rfl ?_
  exact j_vret hX dX9_init_17 ⟨rfl, rfl⟩

set_option maxHeartbeats 4000000 in
set_option maxRecDepth 100000 in
theorem c_X2_init (G : jG) (b : Nat) (f s t p l g : Int32) : jD G 2 yX2_init wsX2_init [.ref b, .int f, .int s, .int t, .int p, .int l, .int g] [(b, .inr (4, [.int 0, .int 0, .int 0, .int 0, .int 0, .int 0, .int 0, .int 0, .int 0]))] none [(b, cellO (ofrB l g f s t p))] := by
  refine jC.ofI (maxL := 10) (cc := cX2_init) (ret := none) rfl (by decide) [some (.ref b), some (.int f), some (.int s), some (.int t), some (.int p), some (.int l), some (.int g), none, none, none] rfl (Nat.le_of_ble_eq_true rfl) (j_args rfl) (fun X hX hNm => ?_)
  refine j_aload_n hX dX2_init_0 rfl ?_
  refine j_iload hX dX2_init_1 rfl ?_
  refine j_iload hX dX2_init_3 rfl ?_
  refine j_callI hX (nA := 2) (As := [.int l, .int g]) (st := []) (wa := []) (w0 := [(b, .inr (4, [.int 0, .int 0, .int 0, .int 0, .int 0, .int 0, .int 0, .int 0, .int 0]))]) (wb := []) dX2_init_5 (c_X5_init_X2 G b l g) gX2_init_X5_init rfl (by decide +kernel) (by decide +kernel) (by decide +kernel) rfl rfl (by decide +kernel) (by decide) (Nat.le_of_ble_eq_true rfl) rfl (Nat.le_of_ble_eq_true rfl) ⟨by decide, by decide⟩ rfl rfl (fun rv w1 hp => ?_)
  obtain ⟨rfl, rfl⟩ := hp
  refine jW.world (ws' := [(b, .inr (4, [.int l, .int g, .int 0, .int 0, .int 0, .int 0, .int 0, .int 0, .int 0]))]) rfl ?_
  refine jW.stk (st' := []) rfl ?_
  refine j_aload_n hX dX2_init_8 rfl ?_
  refine j_iload_n hX dX2_init_9 rfl ?_
  refine j_putF hX hNm (ws' := [(b, .inr (4, [.int l, .int g, .int f, .int 0, .int 0, .int 0, .int 0, .int 0, .int 0]))]) dX2_init_10 fX2_init_9 0 rfl (Nat.le_of_ble_eq_true rfl) rfl rfl rfl ?_
  refine j_aload_n hX dX2_init_13 rfl ?_
  refine j_iload_n hX dX2_init_14 rfl ?_
  refine j_putF hX hNm (ws' := [(b, .inr (4, [.int l, .int g, .int f, .int s, .int 0, .int 0, .int 0, .int 0, .int 0]))]) dX2_init_15 fX2_init_15 0 rfl (Nat.le_of_ble_eq_true rfl) rfl rfl rfl ?_
  refine j_aload_n hX dX2_init_18 rfl ?_
  refine j_iload_n hX dX2_init_19 rfl ?_
  refine j_putF hX hNm (ws' := [(b, .inr (4, [.int l, .int g, .int f, .int s, .int t, .int 0, .int 0, .int 0, .int 0]))]) dX2_init_20 fX2_init_18 0 rfl (Nat.le_of_ble_eq_true rfl) rfl rfl rfl ?_
  refine j_aload_n hX dX2_init_23 rfl ?_
  refine j_iload hX dX2_init_24 rfl ?_
  refine j_putF hX hNm (ws' := [(b, .inr (4, [.int l, .int g, .int f, .int s, .int t, .int 0, .int 0, .int 0, .int p]))]) dX2_init_26 fX2_init_21 0 rfl (Nat.le_of_ble_eq_true rfl) rfl rfl rfl ?_
  refine j_iload_n hX dX2_init_29 rfl ?_
  refine j_iload_n hX dX2_init_30 rfl ?_
  refine j_icmp_ne hX (tgt := 38) dX2_init_31 (by decide) (fun h31 => ?_) (fun h31 => ?_)
  · refine j_iconst hX (v := 0) (by decide) dX2_init_38 ?_
    refine jW.top (y := eqV f s) (if_neg h31 : eqV f s = 0).symm ?_
    refine j_istore hX (ls' := [some (.ref b), some (.int f), some (.int s), some (.int t), some (.int p), some (.int l), some (.int g), some (.int (eqV f s)), none, none]) dX2_init_39 (Nat.le_of_ble_eq_true rfl) rfl rfl ?_
    refine j_iload_n hX dX2_init_41 rfl ?_
    refine j_iload_n hX dX2_init_42 rfl ?_
    refine j_icmp_ne hX (tgt := 50) dX2_init_43 (by decide) (fun h43 => ?_) (fun h43 => ?_)
    · refine j_iconst hX (v := 0) (by decide) dX2_init_50 ?_
      refine jW.top (y := eqV f t) (if_neg h43 : eqV f t = 0).symm ?_
      refine j_istore hX (ls' := [some (.ref b), some (.int f), some (.int s), some (.int t), some (.int p), some (.int l), some (.int g), some (.int (eqV f s)), some (.int (eqV f t)), none]) dX2_init_51 (Nat.le_of_ble_eq_true rfl) rfl rfl ?_
      refine j_iload_n hX dX2_init_53 rfl ?_
      refine j_iload_n hX dX2_init_54 rfl ?_
      refine j_icmp_ne hX (tgt := 62) dX2_init_55 (by decide) (fun h55 => ?_) (fun h55 => ?_)
      · refine j_iconst hX (v := 0) (by decide) dX2_init_62 ?_
        refine jW.top (y := eqV s t) (if_neg h55 : eqV s t = 0).symm ?_
        refine j_istore hX (ls' := [some (.ref b), some (.int f), some (.int s), some (.int t), some (.int p), some (.int l), some (.int g), some (.int (eqV f s)), some (.int (eqV f t)), some (.int (eqV s t))]) dX2_init_63 (Nat.le_of_ble_eq_true rfl) rfl rfl ?_
        refine j_aload_n hX dX2_init_65 rfl ?_
        refine j_iconst hX (v := 1) (by decide) dX2_init_66 ?_
        refine j_iload hX dX2_init_67 rfl ?_
        refine j_iadd hX dX2_init_69 ?_
        refine j_iload hX dX2_init_70 rfl ?_
        refine j_iadd hX dX2_init_72 ?_
        refine j_putF hX hNm (ws' := [(b, .inr (4, [.int l, .int g, .int f, .int s, .int t, .int (1 + (eqV f s) + (eqV f t)), .int 0, .int 0, .int p]))]) dX2_init_73 fX2_init_24 0 rfl (Nat.le_of_ble_eq_true rfl) rfl rfl rfl ?_
        refine j_aload_n hX dX2_init_76 rfl ?_
        refine j_iconst hX (v := 1) (by decide) dX2_init_77 ?_
        refine j_iload hX dX2_init_78 rfl ?_
        refine j_iadd hX dX2_init_80 ?_
        refine j_iload hX dX2_init_81 rfl ?_
        refine j_iadd hX dX2_init_83 ?_
        refine j_putF hX hNm (ws' := [(b, .inr (4, [.int l, .int g, .int f, .int s, .int t, .int (1 + (eqV f s) + (eqV f t)), .int (1 + (eqV f s) + (eqV s t)), .int 0, .int p]))]) dX2_init_84 fX2_init_27 0 rfl (Nat.le_of_ble_eq_true rfl) rfl rfl rfl ?_
        refine j_aload_n hX dX2_init_87 rfl ?_
        refine j_iconst hX (v := 1) (by decide) dX2_init_88 ?_
        refine j_iload hX dX2_init_89 rfl ?_
        refine j_iadd hX dX2_init_91 ?_
        refine j_iload hX dX2_init_92 rfl ?_
        refine j_iadd hX dX2_init_94 ?_
        refine j_putF hX hNm (ws' := [(b, .inr (4, [.int l, .int g, .int f, .int s, .int t, .int (1 + (eqV f s) + (eqV f t)), .int (1 + (eqV f s) + (eqV s t)), .int (1 + (eqV f t) + (eqV s t)), .int p]))]) dX2_init_95 fX2_init_30 0 rfl (Nat.le_of_ble_eq_true rfl) rfl rfl rfl ?_
        exact j_vret hX dX2_init_98 ⟨rfl, rfl⟩
      · refine j_iconst hX (v := 1) (by decide) dX2_init_58 ?_
        refine j_goto hX (tgt := 63) dX2_init_59 (by decide) ?_
        refine jW.top (y := eqV s t) (if_pos h55 : eqV s t = 1).symm ?_
        refine j_istore hX (ls' := [some (.ref b), some (.int f), some (.int s), some (.int t), some (.int p), some (.int l), some (.int g), some (.int (eqV f s)), some (.int (eqV f t)), some (.int (eqV s t))]) dX2_init_63 (Nat.le_of_ble_eq_true rfl) rfl rfl ?_
        refine j_aload_n hX dX2_init_65 rfl ?_
        refine j_iconst hX (v := 1) (by decide) dX2_init_66 ?_
        refine j_iload hX dX2_init_67 rfl ?_
        refine j_iadd hX dX2_init_69 ?_
        refine j_iload hX dX2_init_70 rfl ?_
        refine j_iadd hX dX2_init_72 ?_
        refine j_putF hX hNm (ws' := [(b, .inr (4, [.int l, .int g, .int f, .int s, .int t, .int (1 + (eqV f s) + (eqV f t)), .int 0, .int 0, .int p]))]) dX2_init_73 fX2_init_24 0 rfl (Nat.le_of_ble_eq_true rfl) rfl rfl rfl ?_
        refine j_aload_n hX dX2_init_76 rfl ?_
        refine j_iconst hX (v := 1) (by decide) dX2_init_77 ?_
        refine j_iload hX dX2_init_78 rfl ?_
        refine j_iadd hX dX2_init_80 ?_
        refine j_iload hX dX2_init_81 rfl ?_
        refine j_iadd hX dX2_init_83 ?_
        refine j_putF hX hNm (ws' := [(b, .inr (4, [.int l, .int g, .int f, .int s, .int t, .int (1 + (eqV f s) + (eqV f t)), .int (1 + (eqV f s) + (eqV s t)), .int 0, .int p]))]) dX2_init_84 fX2_init_27 0 rfl (Nat.le_of_ble_eq_true rfl) rfl rfl rfl ?_
        refine j_aload_n hX dX2_init_87 rfl ?_
        refine j_iconst hX (v := 1) (by decide) dX2_init_88 ?_
        refine j_iload hX dX2_init_89 rfl ?_
        refine j_iadd hX dX2_init_91 ?_
        refine j_iload hX dX2_init_92 rfl ?_
        refine j_iadd hX dX2_init_94 ?_
        refine j_putF hX hNm (ws' := [(b, .inr (4, [.int l, .int g, .int f, .int s, .int t, .int (1 + (eqV f s) + (eqV f t)), .int (1 + (eqV f s) + (eqV s t)), .int (1 + (eqV f t) + (eqV s t)), .int p]))]) dX2_init_95 fX2_init_30 0 rfl (Nat.le_of_ble_eq_true rfl) rfl rfl rfl ?_
        exact j_vret hX dX2_init_98 ⟨rfl, rfl⟩
    · refine j_iconst hX (v := 1) (by decide) dX2_init_46 ?_
      refine j_goto hX (tgt := 51) dX2_init_47 (by decide) ?_
      refine jW.top (y := eqV f t) (if_pos h43 : eqV f t = 1).symm ?_
      refine j_istore hX (ls' := [some (.ref b), some (.int f), some (.int s), some (.int t), some (.int p), some (.int l), some (.int g), some (.int (eqV f s)), some (.int (eqV f t)), none]) dX2_init_51 (Nat.le_of_ble_eq_true rfl) rfl rfl ?_
      refine j_iload_n hX dX2_init_53 rfl ?_
      refine j_iload_n hX dX2_init_54 rfl ?_
      refine j_icmp_ne hX (tgt := 62) dX2_init_55 (by decide) (fun h55 => ?_) (fun h55 => ?_)
      · refine j_iconst hX (v := 0) (by decide) dX2_init_62 ?_
        refine jW.top (y := eqV s t) (if_neg h55 : eqV s t = 0).symm ?_
        refine j_istore hX (ls' := [some (.ref b), some (.int f), some (.int s), some (.int t), some (.int p), some (.int l), some (.int g), some (.int (eqV f s)), some (.int (eqV f t)), some (.int (eqV s t))]) dX2_init_63 (Nat.le_of_ble_eq_true rfl) rfl rfl ?_
        refine j_aload_n hX dX2_init_65 rfl ?_
        refine j_iconst hX (v := 1) (by decide) dX2_init_66 ?_
        refine j_iload hX dX2_init_67 rfl ?_
        refine j_iadd hX dX2_init_69 ?_
        refine j_iload hX dX2_init_70 rfl ?_
        refine j_iadd hX dX2_init_72 ?_
        refine j_putF hX hNm (ws' := [(b, .inr (4, [.int l, .int g, .int f, .int s, .int t, .int (1 + (eqV f s) + (eqV f t)), .int 0, .int 0, .int p]))]) dX2_init_73 fX2_init_24 0 rfl (Nat.le_of_ble_eq_true rfl) rfl rfl rfl ?_
        refine j_aload_n hX dX2_init_76 rfl ?_
        refine j_iconst hX (v := 1) (by decide) dX2_init_77 ?_
        refine j_iload hX dX2_init_78 rfl ?_
        refine j_iadd hX dX2_init_80 ?_
        refine j_iload hX dX2_init_81 rfl ?_
        refine j_iadd hX dX2_init_83 ?_
        refine j_putF hX hNm (ws' := [(b, .inr (4, [.int l, .int g, .int f, .int s, .int t, .int (1 + (eqV f s) + (eqV f t)), .int (1 + (eqV f s) + (eqV s t)), .int 0, .int p]))]) dX2_init_84 fX2_init_27 0 rfl (Nat.le_of_ble_eq_true rfl) rfl rfl rfl ?_
        refine j_aload_n hX dX2_init_87 rfl ?_
        refine j_iconst hX (v := 1) (by decide) dX2_init_88 ?_
        refine j_iload hX dX2_init_89 rfl ?_
        refine j_iadd hX dX2_init_91 ?_
        refine j_iload hX dX2_init_92 rfl ?_
        refine j_iadd hX dX2_init_94 ?_
        refine j_putF hX hNm (ws' := [(b, .inr (4, [.int l, .int g, .int f, .int s, .int t, .int (1 + (eqV f s) + (eqV f t)), .int (1 + (eqV f s) + (eqV s t)), .int (1 + (eqV f t) + (eqV s t)), .int p]))]) dX2_init_95 fX2_init_30 0 rfl (Nat.le_of_ble_eq_true rfl) rfl rfl rfl ?_
        exact j_vret hX dX2_init_98 ⟨rfl, rfl⟩
      · refine j_iconst hX (v := 1) (by decide) dX2_init_58 ?_
        refine j_goto hX (tgt := 63) dX2_init_59 (by decide) ?_
        refine jW.top (y := eqV s t) (if_pos h55 : eqV s t = 1).symm ?_
        refine j_istore hX (ls' := [some (.ref b), some (.int f), some (.int s), some (.int t), some (.int p), some (.int l), some (.int g), some (.int (eqV f s)), some (.int (eqV f t)), some (.int (eqV s t))]) dX2_init_63 (Nat.le_of_ble_eq_true rfl) rfl rfl ?_
        refine j_aload_n hX dX2_init_65 rfl ?_
        refine j_iconst hX (v := 1) (by decide) dX2_init_66 ?_
        refine j_iload hX dX2_init_67 rfl ?_
        refine j_iadd hX dX2_init_69 ?_
        refine j_iload hX dX2_init_70 rfl ?_
        refine j_iadd hX dX2_init_72 ?_
        refine j_putF hX hNm (ws' := [(b, .inr (4, [.int l, .int g, .int f, .int s, .int t, .int (1 + (eqV f s) + (eqV f t)), .int 0, .int 0, .int p]))]) dX2_init_73 fX2_init_24 0 rfl (Nat.le_of_ble_eq_true rfl) rfl rfl rfl ?_
        refine j_aload_n hX dX2_init_76 rfl ?_
        refine j_iconst hX (v := 1) (by decide) dX2_init_77 ?_
        refine j_iload hX dX2_init_78 rfl ?_
        refine j_iadd hX dX2_init_80 ?_
        refine j_iload hX dX2_init_81 rfl ?_
        refine j_iadd hX dX2_init_83 ?_
        refine j_putF hX hNm (ws' := [(b, .inr (4, [.int l, .int g, .int f, .int s, .int t, .int (1 + (eqV f s) + (eqV f t)), .int (1 + (eqV f s) + (eqV s t)), .int 0, .int p]))]) dX2_init_84 fX2_init_27 0 rfl (Nat.le_of_ble_eq_true rfl) rfl rfl rfl ?_
        refine j_aload_n hX dX2_init_87 rfl ?_
        refine j_iconst hX (v := 1) (by decide) dX2_init_88 ?_
        refine j_iload hX dX2_init_89 rfl ?_
        refine j_iadd hX dX2_init_91 ?_
        refine j_iload hX dX2_init_92 rfl ?_
        refine j_iadd hX dX2_init_94 ?_
        refine j_putF hX hNm (ws' := [(b, .inr (4, [.int l, .int g, .int f, .int s, .int t, .int (1 + (eqV f s) + (eqV f t)), .int (1 + (eqV f s) + (eqV s t)), .int (1 + (eqV f t) + (eqV s t)), .int p]))]) dX2_init_95 fX2_init_30 0 rfl (Nat.le_of_ble_eq_true rfl) rfl rfl rfl ?_
        exact j_vret hX dX2_init_98 ⟨rfl, rfl⟩
  · refine j_iconst hX (v := 1) (by decide) dX2_init_34 ?_
    refine j_goto hX (tgt := 39) dX2_init_35 (by decide) ?_
    refine jW.top (y := eqV f s) (if_pos h31 : eqV f s = 1).symm ?_
    refine j_istore hX (ls' := [some (.ref b), some (.int f), some (.int s), some (.int t), some (.int p), some (.int l), some (.int g), some (.int (eqV f s)), none, none]) dX2_init_39 (Nat.le_of_ble_eq_true rfl) rfl rfl ?_
    refine j_iload_n hX dX2_init_41 rfl ?_
    refine j_iload_n hX dX2_init_42 rfl ?_
    refine j_icmp_ne hX (tgt := 50) dX2_init_43 (by decide) (fun h43 => ?_) (fun h43 => ?_)
    · refine j_iconst hX (v := 0) (by decide) dX2_init_50 ?_
      refine jW.top (y := eqV f t) (if_neg h43 : eqV f t = 0).symm ?_
      refine j_istore hX (ls' := [some (.ref b), some (.int f), some (.int s), some (.int t), some (.int p), some (.int l), some (.int g), some (.int (eqV f s)), some (.int (eqV f t)), none]) dX2_init_51 (Nat.le_of_ble_eq_true rfl) rfl rfl ?_
      refine j_iload_n hX dX2_init_53 rfl ?_
      refine j_iload_n hX dX2_init_54 rfl ?_
      refine j_icmp_ne hX (tgt := 62) dX2_init_55 (by decide) (fun h55 => ?_) (fun h55 => ?_)
      · refine j_iconst hX (v := 0) (by decide) dX2_init_62 ?_
        refine jW.top (y := eqV s t) (if_neg h55 : eqV s t = 0).symm ?_
        refine j_istore hX (ls' := [some (.ref b), some (.int f), some (.int s), some (.int t), some (.int p), some (.int l), some (.int g), some (.int (eqV f s)), some (.int (eqV f t)), some (.int (eqV s t))]) dX2_init_63 (Nat.le_of_ble_eq_true rfl) rfl rfl ?_
        refine j_aload_n hX dX2_init_65 rfl ?_
        refine j_iconst hX (v := 1) (by decide) dX2_init_66 ?_
        refine j_iload hX dX2_init_67 rfl ?_
        refine j_iadd hX dX2_init_69 ?_
        refine j_iload hX dX2_init_70 rfl ?_
        refine j_iadd hX dX2_init_72 ?_
        refine j_putF hX hNm (ws' := [(b, .inr (4, [.int l, .int g, .int f, .int s, .int t, .int (1 + (eqV f s) + (eqV f t)), .int 0, .int 0, .int p]))]) dX2_init_73 fX2_init_24 0 rfl (Nat.le_of_ble_eq_true rfl) rfl rfl rfl ?_
        refine j_aload_n hX dX2_init_76 rfl ?_
        refine j_iconst hX (v := 1) (by decide) dX2_init_77 ?_
        refine j_iload hX dX2_init_78 rfl ?_
        refine j_iadd hX dX2_init_80 ?_
        refine j_iload hX dX2_init_81 rfl ?_
        refine j_iadd hX dX2_init_83 ?_
        refine j_putF hX hNm (ws' := [(b, .inr (4, [.int l, .int g, .int f, .int s, .int t, .int (1 + (eqV f s) + (eqV f t)), .int (1 + (eqV f s) + (eqV s t)), .int 0, .int p]))]) dX2_init_84 fX2_init_27 0 rfl (Nat.le_of_ble_eq_true rfl) rfl rfl rfl ?_
        refine j_aload_n hX dX2_init_87 rfl ?_
        refine j_iconst hX (v := 1) (by decide) dX2_init_88 ?_
        refine j_iload hX dX2_init_89 rfl ?_
        refine j_iadd hX dX2_init_91 ?_
        refine j_iload hX dX2_init_92 rfl ?_
        refine j_iadd hX dX2_init_94 ?_
        refine j_putF hX hNm (ws' := [(b, .inr (4, [.int l, .int g, .int f, .int s, .int t, .int (1 + (eqV f s) + (eqV f t)), .int (1 + (eqV f s) + (eqV s t)), .int (1 + (eqV f t) + (eqV s t)), .int p]))]) dX2_init_95 fX2_init_30 0 rfl (Nat.le_of_ble_eq_true rfl) rfl rfl rfl ?_
        exact j_vret hX dX2_init_98 ⟨rfl, rfl⟩
      · refine j_iconst hX (v := 1) (by decide) dX2_init_58 ?_
        refine j_goto hX (tgt := 63) dX2_init_59 (by decide) ?_
        refine jW.top (y := eqV s t) (if_pos h55 : eqV s t = 1).symm ?_
        refine j_istore hX (ls' := [some (.ref b), some (.int f), some (.int s), some (.int t), some (.int p), some (.int l), some (.int g), some (.int (eqV f s)), some (.int (eqV f t)), some (.int (eqV s t))]) dX2_init_63 (Nat.le_of_ble_eq_true rfl) rfl rfl ?_
        refine j_aload_n hX dX2_init_65 rfl ?_
        refine j_iconst hX (v := 1) (by decide) dX2_init_66 ?_
        refine j_iload hX dX2_init_67 rfl ?_
        refine j_iadd hX dX2_init_69 ?_
        refine j_iload hX dX2_init_70 rfl ?_
        refine j_iadd hX dX2_init_72 ?_
        refine j_putF hX hNm (ws' := [(b, .inr (4, [.int l, .int g, .int f, .int s, .int t, .int (1 + (eqV f s) + (eqV f t)), .int 0, .int 0, .int p]))]) dX2_init_73 fX2_init_24 0 rfl (Nat.le_of_ble_eq_true rfl) rfl rfl rfl ?_
        refine j_aload_n hX dX2_init_76 rfl ?_
        refine j_iconst hX (v := 1) (by decide) dX2_init_77 ?_
        refine j_iload hX dX2_init_78 rfl ?_
        refine j_iadd hX dX2_init_80 ?_
        refine j_iload hX dX2_init_81 rfl ?_
        refine j_iadd hX dX2_init_83 ?_
        refine j_putF hX hNm (ws' := [(b, .inr (4, [.int l, .int g, .int f, .int s, .int t, .int (1 + (eqV f s) + (eqV f t)), .int (1 + (eqV f s) + (eqV s t)), .int 0, .int p]))]) dX2_init_84 fX2_init_27 0 rfl (Nat.le_of_ble_eq_true rfl) rfl rfl rfl ?_
        refine j_aload_n hX dX2_init_87 rfl ?_
        refine j_iconst hX (v := 1) (by decide) dX2_init_88 ?_
        refine j_iload hX dX2_init_89 rfl ?_
        refine j_iadd hX dX2_init_91 ?_
        refine j_iload hX dX2_init_92 rfl ?_
        refine j_iadd hX dX2_init_94 ?_
        refine j_putF hX hNm (ws' := [(b, .inr (4, [.int l, .int g, .int f, .int s, .int t, .int (1 + (eqV f s) + (eqV f t)), .int (1 + (eqV f s) + (eqV s t)), .int (1 + (eqV f t) + (eqV s t)), .int p]))]) dX2_init_95 fX2_init_30 0 rfl (Nat.le_of_ble_eq_true rfl) rfl rfl rfl ?_
        exact j_vret hX dX2_init_98 ⟨rfl, rfl⟩
    · refine j_iconst hX (v := 1) (by decide) dX2_init_46 ?_
      refine j_goto hX (tgt := 51) dX2_init_47 (by decide) ?_
      refine jW.top (y := eqV f t) (if_pos h43 : eqV f t = 1).symm ?_
      refine j_istore hX (ls' := [some (.ref b), some (.int f), some (.int s), some (.int t), some (.int p), some (.int l), some (.int g), some (.int (eqV f s)), some (.int (eqV f t)), none]) dX2_init_51 (Nat.le_of_ble_eq_true rfl) rfl rfl ?_
      refine j_iload_n hX dX2_init_53 rfl ?_
      refine j_iload_n hX dX2_init_54 rfl ?_
      refine j_icmp_ne hX (tgt := 62) dX2_init_55 (by decide) (fun h55 => ?_) (fun h55 => ?_)
      · refine j_iconst hX (v := 0) (by decide) dX2_init_62 ?_
        refine jW.top (y := eqV s t) (if_neg h55 : eqV s t = 0).symm ?_
        refine j_istore hX (ls' := [some (.ref b), some (.int f), some (.int s), some (.int t), some (.int p), some (.int l), some (.int g), some (.int (eqV f s)), some (.int (eqV f t)), some (.int (eqV s t))]) dX2_init_63 (Nat.le_of_ble_eq_true rfl) rfl rfl ?_
        refine j_aload_n hX dX2_init_65 rfl ?_
        refine j_iconst hX (v := 1) (by decide) dX2_init_66 ?_
        refine j_iload hX dX2_init_67 rfl ?_
        refine j_iadd hX dX2_init_69 ?_
        refine j_iload hX dX2_init_70 rfl ?_
        refine j_iadd hX dX2_init_72 ?_
        refine j_putF hX hNm (ws' := [(b, .inr (4, [.int l, .int g, .int f, .int s, .int t, .int (1 + (eqV f s) + (eqV f t)), .int 0, .int 0, .int p]))]) dX2_init_73 fX2_init_24 0 rfl (Nat.le_of_ble_eq_true rfl) rfl rfl rfl ?_
        refine j_aload_n hX dX2_init_76 rfl ?_
        refine j_iconst hX (v := 1) (by decide) dX2_init_77 ?_
        refine j_iload hX dX2_init_78 rfl ?_
        refine j_iadd hX dX2_init_80 ?_
        refine j_iload hX dX2_init_81 rfl ?_
        refine j_iadd hX dX2_init_83 ?_
        refine j_putF hX hNm (ws' := [(b, .inr (4, [.int l, .int g, .int f, .int s, .int t, .int (1 + (eqV f s) + (eqV f t)), .int (1 + (eqV f s) + (eqV s t)), .int 0, .int p]))]) dX2_init_84 fX2_init_27 0 rfl (Nat.le_of_ble_eq_true rfl) rfl rfl rfl ?_
        refine j_aload_n hX dX2_init_87 rfl ?_
        refine j_iconst hX (v := 1) (by decide) dX2_init_88 ?_
        refine j_iload hX dX2_init_89 rfl ?_
        refine j_iadd hX dX2_init_91 ?_
        refine j_iload hX dX2_init_92 rfl ?_
        refine j_iadd hX dX2_init_94 ?_
        refine j_putF hX hNm (ws' := [(b, .inr (4, [.int l, .int g, .int f, .int s, .int t, .int (1 + (eqV f s) + (eqV f t)), .int (1 + (eqV f s) + (eqV s t)), .int (1 + (eqV f t) + (eqV s t)), .int p]))]) dX2_init_95 fX2_init_30 0 rfl (Nat.le_of_ble_eq_true rfl) rfl rfl rfl ?_
        exact j_vret hX dX2_init_98 ⟨rfl, rfl⟩
      · refine j_iconst hX (v := 1) (by decide) dX2_init_58 ?_
        refine j_goto hX (tgt := 63) dX2_init_59 (by decide) ?_
        refine jW.top (y := eqV s t) (if_pos h55 : eqV s t = 1).symm ?_
        refine j_istore hX (ls' := [some (.ref b), some (.int f), some (.int s), some (.int t), some (.int p), some (.int l), some (.int g), some (.int (eqV f s)), some (.int (eqV f t)), some (.int (eqV s t))]) dX2_init_63 (Nat.le_of_ble_eq_true rfl) rfl rfl ?_
        refine j_aload_n hX dX2_init_65 rfl ?_
        refine j_iconst hX (v := 1) (by decide) dX2_init_66 ?_
        refine j_iload hX dX2_init_67 rfl ?_
        refine j_iadd hX dX2_init_69 ?_
        refine j_iload hX dX2_init_70 rfl ?_
        refine j_iadd hX dX2_init_72 ?_
        refine j_putF hX hNm (ws' := [(b, .inr (4, [.int l, .int g, .int f, .int s, .int t, .int (1 + (eqV f s) + (eqV f t)), .int 0, .int 0, .int p]))]) dX2_init_73 fX2_init_24 0 rfl (Nat.le_of_ble_eq_true rfl) rfl rfl rfl ?_
        refine j_aload_n hX dX2_init_76 rfl ?_
        refine j_iconst hX (v := 1) (by decide) dX2_init_77 ?_
        refine j_iload hX dX2_init_78 rfl ?_
        refine j_iadd hX dX2_init_80 ?_
        refine j_iload hX dX2_init_81 rfl ?_
        refine j_iadd hX dX2_init_83 ?_
        refine j_putF hX hNm (ws' := [(b, .inr (4, [.int l, .int g, .int f, .int s, .int t, .int (1 + (eqV f s) + (eqV f t)), .int (1 + (eqV f s) + (eqV s t)), .int 0, .int p]))]) dX2_init_84 fX2_init_27 0 rfl (Nat.le_of_ble_eq_true rfl) rfl rfl rfl ?_
        refine j_aload_n hX dX2_init_87 rfl ?_
        refine j_iconst hX (v := 1) (by decide) dX2_init_88 ?_
        refine j_iload hX dX2_init_89 rfl ?_
        refine j_iadd hX dX2_init_91 ?_
        refine j_iload hX dX2_init_92 rfl ?_
        refine j_iadd hX dX2_init_94 ?_
        refine j_putF hX hNm (ws' := [(b, .inr (4, [.int l, .int g, .int f, .int s, .int t, .int (1 + (eqV f s) + (eqV f t)), .int (1 + (eqV f s) + (eqV s t)), .int (1 + (eqV f t) + (eqV s t)), .int p]))]) dX2_init_95 fX2_init_30 0 rfl (Nat.le_of_ble_eq_true rfl) rfl rfl rfl ?_
        exact j_vret hX dX2_init_98 ⟨rfl, rfl⟩

set_option maxHeartbeats 4000000 in
set_option maxRecDepth 100000 in
theorem c_X11_enter (G : jG) (ad : Nat → Nat) (V : Nat → Int32) (M : Nat → Nat → Int32) (os : Nat → ofr) (o : Nat) (ho6 : o < 6) (hos : ∀ j, j < o + 1 → okO (os j)) (hso : V 4 = nI o) : jD G 3 yX11_enter wsX11_enter [.ref (ad 0), .ref (ad (30 + o))] (wC G ad V M (enO ad o) (wO ad os (o + 1))) (some (.int (nI o))) (wC G ad (appF os o (sV V 1 0, M)).1 (appF os o (sV V 1 0, M)).2 (enO ad (o + 1)) (wO ad os (o + 1))) := by
  refine jC.of (maxL := 2) (cc := cX11_enter) (ret := (some .int)) rfl (by decide) [some (.ref (ad 0)), some (.ref (ad (30 + o)))] rfl (Nat.le_of_ble_eq_true rfl) (j_args rfl) (fun X hX => ?_)
  refine j_aload_n hX dX11_enter_0 rfl ?_
  refine j_iconst hX (v := 0) (by decide) dX11_enter_1 ?_
  refine j_putf hX (ws' := (wC G ad (sV V 1 0) M (enO ad o) (wO ad os (o + 1)))) dX11_enter_2 fX11_enter_68 0 (wCg0 _ _ _ _ _ _) (Nat.le_of_ble_eq_true rfl) (by decide) rfl (wCp0_6 _ _ _ _ _ _ _) ?_
  refine j_aload_n hX dX11_enter_5 rfl ?_
  refine j_getf hX (v := .ref (ad 5)) dX11_enter_6 fX11_enter_19 0 (wCg0 _ _ _ _ _ _) rfl ?_
  refine j_aload_n hX dX11_enter_9 rfl ?_
  refine j_dV hX (nA := 1) (cq := (RX6, TX6, 6)) (As := [.ref (ad (30 + o))]) (st := []) (st' := [.int (nI o)]) (ci := 7) rfl dX11_enter_10 (c_X6_append G _ _ _ _ _ ho6 hos hso) gX11_enter_X6_append rfl (by decide +kernel) (q := 5) (wCg5 _ _ _ _ _ _) (by omega) (Nat.le_of_ble_eq_true rfl) rfl (Nat.le_of_ble_eq_true rfl) rfl ⟨Nat.le_refl _, Nat.le_refl _⟩ rfl ?_
  exact j_iret hX dX11_enter_13 ⟨rfl, rfl⟩

def fullV (V : Nat → Int32) : Int32 := if V 4 < 6 then 0 else 1
theorem full_lt {V : Nat → Int32} {o : Nat} (hso : V 4 = nI o) (ho : o ≤ 6) (h : fullV V = 0) : o < 6 := by
  unfold fullV at h
  by_cases h2 : V 4 < 6
  · rw [hso] at h2
    exact (nI_ltI (b := 6) (by omega) (by decide)).mp h2
  · rw [if_neg h2] at h
    exact absurd h (by decide)
def xaddP (V : Nat → Int32) (c e l g : Int32) : Option String := if withinV c 0 9 = 0 then some "java/lang/IllegalArgumentException" else if withinV e 1 90 = 0 then some "java/lang/IllegalArgumentException" else if termsV l g = 0 then some "java/lang/IllegalArgumentException" else if fullV V = 0 then none else some "java/lang/IllegalStateException"
set_option maxHeartbeats 4000000 in
set_option maxRecDepth 100000 in
theorem c_X11_addPercentage (G : jG) (hG : G.1.stackTraces = false) (ad : Nat → Nat) (V : Nat → Int32) (M : Nat → Nat → Int32) (os : Nat → ofr) (o : Nat) (c e l g : Int32) (hso : V 4 = nI o) (ho6 : o ≤ 6) (hos : ∀ j, j < o → okO (os j)) : jT G 30 yX11_addPercentage wsX11_addPercentage [.ref (ad 0), .int c, .int e, .int l, .int g] (wC G ad V M (enO ad o) (wO ad os o)) 1 6 (fun rv w => xaddP V c e l g = none ∧ rv = some (.int (nI o)) ∧ ∃ q : Nat, w = wC G (adU ad o q) (appF (osU os o (ofr4 8 l g c e)) o (sV V 1 0, M)).1 (appF (osU os o (ofr4 8 l g c e)) o (sV V 1 0, M)).2 (enO (adU ad o q) (o + 1)) (wO (adU ad o q) (osU os o (ofr4 8 l g c e)) (o + 1))) (fun E => xaddP V c e l g = some E) := by
  refine jT.of hG (maxL := 5) (cc := cX11_addPercentage) (ret := (some .int)) rfl (by decide) [some (.ref (ad 0)), some (.int c), some (.int e), some (.int l), some (.int g)] rfl (Nat.le_of_ble_eq_true rfl) (j_args rfl) (fun X hX hT => ?_)
  refine j_iload_n hX dX11_addPercentage_0 rfl ?_
  refine j_iconst hX (v := 0) (by decide) dX11_addPercentage_1 ?_
  refine j_bipush hX (v := 9) (by decide) dX11_addPercentage_2 ?_
  refine j_dS hX (nA := 3) (As := [.int c, .int 0, .int 9]) (st := []) (st' := [.int (withinV c 0 9)]) dX11_addPercentage_4 (c_isWithin G) gX11_addPercentage_X11_isWithin rfl (by decide +kernel) (by decide) (Nat.le_of_ble_eq_true rfl) rfl (Nat.le_of_ble_eq_true rfl) rfl ⟨by decide, by decide⟩ rfl ?_
  refine j_if_eq hX (tgt := 29) dX11_addPercentage_7 (by decide) (fun h7 => ?_) (fun h7 => ?_)
  · exact j_throw hX hT (cls := "java/lang/IllegalArgumentException") (text := "a number is out of range") (names := ["java/lang/RuntimeException", "java/lang/Exception"]) (ic := 56) (by decide +kernel) (by decide +kernel) (by decide +kernel) (by decide +kernel) (by decide +kernel) (by decide +kernel) (fun w (h : w ∈ (vx_atS RX11 56 "java/lang/IllegalArgumentException" ["java/lang/RuntimeException", "java/lang/Exception"]).filter goodWord) => by unfold wsX11_addPercentage; simp only [List.mem_cons, List.mem_append, h, true_or, or_true]) x56_ng x56_good dX11_addPercentage_29 dX11_addPercentage_32 dX11_addPercentage_33 dX11_addPercentage_35 dX11_addPercentage_38 ((if_pos h7) : xaddP V c e l g = some "java/lang/IllegalArgumentException") (by decide) ⟨by decide, by decide⟩ (Nat.le_of_ble_eq_true rfl) rfl (by decide)
  · refine j_iload_n hX dX11_addPercentage_10 rfl ?_
    refine j_iconst hX (v := 1) (by decide) dX11_addPercentage_11 ?_
    refine j_bipush hX (v := 90) (by decide) dX11_addPercentage_12 ?_
    refine j_dS hX (nA := 3) (As := [.int e, .int 1, .int 90]) (st := []) (st' := [.int (withinV e 1 90)]) dX11_addPercentage_14 (c_isWithin G) gX11_addPercentage_X11_isWithin rfl (by decide +kernel) (by decide) (Nat.le_of_ble_eq_true rfl) rfl (Nat.le_of_ble_eq_true rfl) rfl ⟨by decide, by decide⟩ rfl ?_
    refine j_if_eq hX (tgt := 29) dX11_addPercentage_17 (by decide) (fun h17 => ?_) (fun h17 => ?_)
    · exact j_throw hX hT (cls := "java/lang/IllegalArgumentException") (text := "a number is out of range") (names := ["java/lang/RuntimeException", "java/lang/Exception"]) (ic := 56) (by decide +kernel) (by decide +kernel) (by decide +kernel) (by decide +kernel) (by decide +kernel) (by decide +kernel) (fun w (h : w ∈ (vx_atS RX11 56 "java/lang/IllegalArgumentException" ["java/lang/RuntimeException", "java/lang/Exception"]).filter goodWord) => by unfold wsX11_addPercentage; simp only [List.mem_cons, List.mem_append, h, true_or, or_true]) x56_ng x56_good dX11_addPercentage_29 dX11_addPercentage_32 dX11_addPercentage_33 dX11_addPercentage_35 dX11_addPercentage_38 (((if_neg h7).trans (if_pos h17)) : xaddP V c e l g = some "java/lang/IllegalArgumentException") (by decide) ⟨by decide, by decide⟩ (Nat.le_of_ble_eq_true rfl) rfl (by decide)
    · refine j_iload_n hX dX11_addPercentage_20 rfl ?_
      refine j_iload hX dX11_addPercentage_21 rfl ?_
      refine j_dS hX (nA := 2) (As := [.int l, .int g]) (st := []) (st' := [.int (termsV l g)]) dX11_addPercentage_23 (c_X11_areTerms G _ _) gX11_addPercentage_X11_areTerms rfl (by decide +kernel) (by decide) (Nat.le_of_ble_eq_true rfl) rfl (Nat.le_of_ble_eq_true rfl) rfl ⟨by decide, by decide⟩ rfl ?_
      refine j_if_ne hX (tgt := 39) dX11_addPercentage_26 (by decide) (fun h26 => ?_) (fun h26 => ?_)
      · refine j_aload_n hX dX11_addPercentage_39 rfl ?_
        refine j_getf hX (v := .ref (ad 5)) dX11_addPercentage_40 fX11_addPercentage_19 0 (wCg0 _ _ _ _ _ _) rfl ?_
        refine j_dV hX (nA := 0) (cq := (RX6, TX6, 6)) (As := []) (st := []) (st' := [.int (fullV V)]) (ci := 7) rfl dX11_addPercentage_43 (c_X6_isFull G _ _ _ _ _) gX11_addPercentage_X6_isFull rfl (by decide +kernel) (q := 5) (wCg5 _ _ _ _ _ _) (by decide) (Nat.le_of_ble_eq_true rfl) rfl (Nat.le_of_ble_eq_true rfl) rfl ⟨by decide, by decide⟩ rfl ?_
        refine j_if_eq hX (tgt := 59) dX11_addPercentage_46 (by decide) (fun h46 => ?_) (fun h46 => ?_)
        · refine j_aload_n hX dX11_addPercentage_59 rfl ?_
          have ho5 : o < 6 := full_lt hso ho6 h46
          refine j_new hX (fs := [.int 0, .int 0, .int 0, .int 0]) tyX7 dX11_addPercentage_60 (show vwCl[8]? = some (RX7, TX7, 4) from rfl) (by decide +kernel) tyX7_ok (by decide +kernel) (by decide +kernel) (by decide +kernel) (fun j hj => by rcases (show j = 0 ∨ j = 1 ∨ j = 2 ∨ j = 3 by omega) with rfl | rfl | rfl | rfl <;> rfl) ⟨by decide, by decide⟩ (fun q => ?_)
          refine j_dup hX dX11_addPercentage_63 rfl ?_
          refine j_iload_n hX dX11_addPercentage_64 rfl ?_
          refine j_iload_n hX dX11_addPercentage_65 rfl ?_
          refine j_iload_n hX dX11_addPercentage_66 rfl ?_
          refine j_iload hX dX11_addPercentage_67 rfl ?_
          refine j_callI hX (nA := 4) (As := [.int c, .int e, .int l, .int g]) (st := [.ref q, .ref (ad 0)]) (wa := (wC G ad V M (enO ad o) (wO ad os o))) (w0 := [(q, .inr (8, [.int 0, .int 0, .int 0, .int 0]))]) (wb := []) dX11_addPercentage_69 (c_X7_init G q c e l g) gX11_addPercentage_X7_init rfl (by decide +kernel) (by decide +kernel) (by decide +kernel) rfl rfl (by decide +kernel) (by decide) (Nat.le_of_ble_eq_true rfl) rfl (Nat.le_of_ble_eq_true rfl) ⟨by decide, by decide⟩ rfl rfl (fun rv w1 hp => ?_)
          obtain ⟨rfl, rfl⟩ := hp
          refine jW.world (wC_new G ad V M os o q (ofr4 8 l g c e)) ?_
          refine jW.stk (st' := [.ref (adU ad o q (30 + o)), .ref (adU ad o q 0)]) (by rw [adU_self, adU_lt (by omega)]; rfl) ?_
          refine j_dV hX (nA := 1) (cq := (RX11, TX11, 7)) (As := [.ref (adU ad o q (30 + o))]) (st := []) (st' := [.int (nI o)]) (ci := 12) rfl dX11_addPercentage_72 (c_X11_enter G (adU ad o q) V M (osU os o (ofr4 8 l g c e)) o ho5 (osU_ok hos (Or.inl rfl)) hso) gX11_addPercentage_X11_enter rfl (by decide +kernel) (q := 0) (wCg0 _ _ _ _ _ _) (by decide) (Nat.le_of_ble_eq_true rfl) rfl (Nat.le_of_ble_eq_true rfl) rfl ⟨by decide, by decide⟩ rfl ?_
          refine jW.widen (k' := 1) (n' := 6) (by omega) (by omega) ?_
          exact j_iret hX dX11_addPercentage_75 ⟨(((((if_neg h7).trans (if_neg h17)).trans (if_neg h26)).trans (if_pos h46)) : xaddP V c e l g = none), rfl, q, rfl⟩
        · exact j_throw hX hT (cls := "java/lang/IllegalStateException") (text := "there is no room for another offer") (names := ["java/lang/RuntimeException", "java/lang/Exception"]) (ic := 67) (by decide +kernel) (by decide +kernel) (by decide +kernel) (by decide +kernel) (by decide +kernel) (by decide +kernel) (fun w (h : w ∈ (vx_atS RX11 67 "java/lang/IllegalStateException" ["java/lang/RuntimeException", "java/lang/Exception"]).filter goodWord) => by unfold wsX11_addPercentage; simp only [List.mem_cons, List.mem_append, h, true_or, or_true]) x67_ng x67_good dX11_addPercentage_49 dX11_addPercentage_52 dX11_addPercentage_53 dX11_addPercentage_55 dX11_addPercentage_58 (((((if_neg h7).trans (if_neg h17)).trans (if_neg h26)).trans (if_neg h46)) : xaddP V c e l g = some "java/lang/IllegalStateException") (by decide) ⟨by decide, by decide⟩ (Nat.le_of_ble_eq_true rfl) rfl (by decide)
      · exact j_throw hX hT (cls := "java/lang/IllegalArgumentException") (text := "a number is out of range") (names := ["java/lang/RuntimeException", "java/lang/Exception"]) (ic := 56) (by decide +kernel) (by decide +kernel) (by decide +kernel) (by decide +kernel) (by decide +kernel) (by decide +kernel) (fun w (h : w ∈ (vx_atS RX11 56 "java/lang/IllegalArgumentException" ["java/lang/RuntimeException", "java/lang/Exception"]).filter goodWord) => by unfold wsX11_addPercentage; simp only [List.mem_cons, List.mem_append, h, true_or, or_true]) x56_ng x56_good dX11_addPercentage_29 dX11_addPercentage_32 dX11_addPercentage_33 dX11_addPercentage_35 dX11_addPercentage_38 ((((if_neg h7).trans (if_neg h17)).trans (if_pos h26)) : xaddP V c e l g = some "java/lang/IllegalArgumentException") (by decide) ⟨by decide, by decide⟩ (Nat.le_of_ble_eq_true rfl) rfl (by decide)

def xaddF (V : Nat → Int32) (c e l g : Int32) : Option String := if withinV c 0 9 = 0 then some "java/lang/IllegalArgumentException" else if withinV e 2 5 = 0 then some "java/lang/IllegalArgumentException" else if termsV l g = 0 then some "java/lang/IllegalArgumentException" else if fullV V = 0 then none else some "java/lang/IllegalStateException"
set_option maxHeartbeats 4000000 in
set_option maxRecDepth 100000 in
theorem c_X11_addFreeItem (G : jG) (hG : G.1.stackTraces = false) (ad : Nat → Nat) (V : Nat → Int32) (M : Nat → Nat → Int32) (os : Nat → ofr) (o : Nat) (c e l g : Int32) (hso : V 4 = nI o) (ho6 : o ≤ 6) (hos : ∀ j, j < o → okO (os j)) : jT G 30 yX11_addFreeItem wsX11_addFreeItem [.ref (ad 0), .int c, .int e, .int l, .int g] (wC G ad V M (enO ad o) (wO ad os o)) 1 6 (fun rv w => xaddF V c e l g = none ∧ rv = some (.int (nI o)) ∧ ∃ q : Nat, w = wC G (adU ad o q) (appF (osU os o (ofr4 5 l g c e)) o (sV V 1 0, M)).1 (appF (osU os o (ofr4 5 l g c e)) o (sV V 1 0, M)).2 (enO (adU ad o q) (o + 1)) (wO (adU ad o q) (osU os o (ofr4 5 l g c e)) (o + 1))) (fun E => xaddF V c e l g = some E) := by
  refine jT.of hG (maxL := 5) (cc := cX11_addFreeItem) (ret := (some .int)) rfl (by decide) [some (.ref (ad 0)), some (.int c), some (.int e), some (.int l), some (.int g)] rfl (Nat.le_of_ble_eq_true rfl) (j_args rfl) (fun X hX hT => ?_)
  refine j_iload_n hX dX11_addFreeItem_0 rfl ?_
  refine j_iconst hX (v := 0) (by decide) dX11_addFreeItem_1 ?_
  refine j_bipush hX (v := 9) (by decide) dX11_addFreeItem_2 ?_
  refine j_dS hX (nA := 3) (As := [.int c, .int 0, .int 9]) (st := []) (st' := [.int (withinV c 0 9)]) dX11_addFreeItem_4 (c_isWithin G) gX11_addFreeItem_X11_isWithin rfl (by decide +kernel) (by decide) (Nat.le_of_ble_eq_true rfl) rfl (Nat.le_of_ble_eq_true rfl) rfl ⟨by decide, by decide⟩ rfl ?_
  refine j_if_eq hX (tgt := 28) dX11_addFreeItem_7 (by decide) (fun h7 => ?_) (fun h7 => ?_)
  · exact j_throw hX hT (cls := "java/lang/IllegalArgumentException") (text := "a number is out of range") (names := ["java/lang/RuntimeException", "java/lang/Exception"]) (ic := 56) (by decide +kernel) (by decide +kernel) (by decide +kernel) (by decide +kernel) (by decide +kernel) (by decide +kernel) (fun w (h : w ∈ (vx_atS RX11 56 "java/lang/IllegalArgumentException" ["java/lang/RuntimeException", "java/lang/Exception"]).filter goodWord) => by unfold wsX11_addFreeItem; simp only [List.mem_cons, List.mem_append, h, true_or, or_true]) x56_ng x56_good dX11_addFreeItem_28 dX11_addFreeItem_31 dX11_addFreeItem_32 dX11_addFreeItem_34 dX11_addFreeItem_37 ((if_pos h7) : xaddF V c e l g = some "java/lang/IllegalArgumentException") (by decide) ⟨by decide, by decide⟩ (Nat.le_of_ble_eq_true rfl) rfl (by decide)
  · refine j_iload_n hX dX11_addFreeItem_10 rfl ?_
    refine j_iconst hX (v := 2) (by decide) dX11_addFreeItem_11 ?_
    refine j_iconst hX (v := 5) (by decide) dX11_addFreeItem_12 ?_
    refine j_dS hX (nA := 3) (As := [.int e, .int 2, .int 5]) (st := []) (st' := [.int (withinV e 2 5)]) dX11_addFreeItem_13 (c_isWithin G) gX11_addFreeItem_X11_isWithin rfl (by decide +kernel) (by decide) (Nat.le_of_ble_eq_true rfl) rfl (Nat.le_of_ble_eq_true rfl) rfl ⟨by decide, by decide⟩ rfl ?_
    refine j_if_eq hX (tgt := 28) dX11_addFreeItem_16 (by decide) (fun h16 => ?_) (fun h16 => ?_)
    · exact j_throw hX hT (cls := "java/lang/IllegalArgumentException") (text := "a number is out of range") (names := ["java/lang/RuntimeException", "java/lang/Exception"]) (ic := 56) (by decide +kernel) (by decide +kernel) (by decide +kernel) (by decide +kernel) (by decide +kernel) (by decide +kernel) (fun w (h : w ∈ (vx_atS RX11 56 "java/lang/IllegalArgumentException" ["java/lang/RuntimeException", "java/lang/Exception"]).filter goodWord) => by unfold wsX11_addFreeItem; simp only [List.mem_cons, List.mem_append, h, true_or, or_true]) x56_ng x56_good dX11_addFreeItem_28 dX11_addFreeItem_31 dX11_addFreeItem_32 dX11_addFreeItem_34 dX11_addFreeItem_37 (((if_neg h7).trans (if_pos h16)) : xaddF V c e l g = some "java/lang/IllegalArgumentException") (by decide) ⟨by decide, by decide⟩ (Nat.le_of_ble_eq_true rfl) rfl (by decide)
    · refine j_iload_n hX dX11_addFreeItem_19 rfl ?_
      refine j_iload hX dX11_addFreeItem_20 rfl ?_
      refine j_dS hX (nA := 2) (As := [.int l, .int g]) (st := []) (st' := [.int (termsV l g)]) dX11_addFreeItem_22 (c_X11_areTerms G _ _) gX11_addFreeItem_X11_areTerms rfl (by decide +kernel) (by decide) (Nat.le_of_ble_eq_true rfl) rfl (Nat.le_of_ble_eq_true rfl) rfl ⟨by decide, by decide⟩ rfl ?_
      refine j_if_ne hX (tgt := 38) dX11_addFreeItem_25 (by decide) (fun h25 => ?_) (fun h25 => ?_)
      · refine j_aload_n hX dX11_addFreeItem_38 rfl ?_
        refine j_getf hX (v := .ref (ad 5)) dX11_addFreeItem_39 fX11_addFreeItem_19 0 (wCg0 _ _ _ _ _ _) rfl ?_
        refine j_dV hX (nA := 0) (cq := (RX6, TX6, 6)) (As := []) (st := []) (st' := [.int (fullV V)]) (ci := 7) rfl dX11_addFreeItem_42 (c_X6_isFull G _ _ _ _ _) gX11_addFreeItem_X6_isFull rfl (by decide +kernel) (q := 5) (wCg5 _ _ _ _ _ _) (by decide) (Nat.le_of_ble_eq_true rfl) rfl (Nat.le_of_ble_eq_true rfl) rfl ⟨by decide, by decide⟩ rfl ?_
        refine j_if_eq hX (tgt := 58) dX11_addFreeItem_45 (by decide) (fun h45 => ?_) (fun h45 => ?_)
        · refine j_aload_n hX dX11_addFreeItem_58 rfl ?_
          have ho5 : o < 6 := full_lt hso ho6 h45
          refine j_new hX (fs := [.int 0, .int 0, .int 0, .int 0]) tyX3 dX11_addFreeItem_59 (show vwCl[5]? = some (RX3, TX3, 4) from rfl) (by decide +kernel) tyX3_ok (by decide +kernel) (by decide +kernel) (by decide +kernel) (fun j hj => by rcases (show j = 0 ∨ j = 1 ∨ j = 2 ∨ j = 3 by omega) with rfl | rfl | rfl | rfl <;> rfl) ⟨by decide, by decide⟩ (fun q => ?_)
          refine j_dup hX dX11_addFreeItem_62 rfl ?_
          refine j_iload_n hX dX11_addFreeItem_63 rfl ?_
          refine j_iload_n hX dX11_addFreeItem_64 rfl ?_
          refine j_iload_n hX dX11_addFreeItem_65 rfl ?_
          refine j_iload hX dX11_addFreeItem_66 rfl ?_
          refine j_callI hX (nA := 4) (As := [.int c, .int e, .int l, .int g]) (st := [.ref q, .ref (ad 0)]) (wa := (wC G ad V M (enO ad o) (wO ad os o))) (w0 := [(q, .inr (5, [.int 0, .int 0, .int 0, .int 0]))]) (wb := []) dX11_addFreeItem_68 (c_X3_init G q c e l g) gX11_addFreeItem_X3_init rfl (by decide +kernel) (by decide +kernel) (by decide +kernel) rfl rfl (by decide +kernel) (by decide) (Nat.le_of_ble_eq_true rfl) rfl (Nat.le_of_ble_eq_true rfl) ⟨by decide, by decide⟩ rfl rfl (fun rv w1 hp => ?_)
          obtain ⟨rfl, rfl⟩ := hp
          refine jW.world (wC_new G ad V M os o q (ofr4 5 l g c e)) ?_
          refine jW.stk (st' := [.ref (adU ad o q (30 + o)), .ref (adU ad o q 0)]) (by rw [adU_self, adU_lt (by omega)]; rfl) ?_
          refine j_dV hX (nA := 1) (cq := (RX11, TX11, 7)) (As := [.ref (adU ad o q (30 + o))]) (st := []) (st' := [.int (nI o)]) (ci := 12) rfl dX11_addFreeItem_71 (c_X11_enter G (adU ad o q) V M (osU os o (ofr4 5 l g c e)) o ho5 (osU_ok hos (Or.inr (Or.inl rfl))) hso) gX11_addFreeItem_X11_enter rfl (by decide +kernel) (q := 0) (wCg0 _ _ _ _ _ _) (by decide) (Nat.le_of_ble_eq_true rfl) rfl (Nat.le_of_ble_eq_true rfl) rfl ⟨by decide, by decide⟩ rfl ?_
          refine jW.widen (k' := 1) (n' := 6) (by omega) (by omega) ?_
          exact j_iret hX dX11_addFreeItem_74 ⟨(((((if_neg h7).trans (if_neg h16)).trans (if_neg h25)).trans (if_pos h45)) : xaddF V c e l g = none), rfl, q, rfl⟩
        · exact j_throw hX hT (cls := "java/lang/IllegalStateException") (text := "there is no room for another offer") (names := ["java/lang/RuntimeException", "java/lang/Exception"]) (ic := 67) (by decide +kernel) (by decide +kernel) (by decide +kernel) (by decide +kernel) (by decide +kernel) (by decide +kernel) (fun w (h : w ∈ (vx_atS RX11 67 "java/lang/IllegalStateException" ["java/lang/RuntimeException", "java/lang/Exception"]).filter goodWord) => by unfold wsX11_addFreeItem; simp only [List.mem_cons, List.mem_append, h, true_or, or_true]) x67_ng x67_good dX11_addFreeItem_48 dX11_addFreeItem_51 dX11_addFreeItem_52 dX11_addFreeItem_54 dX11_addFreeItem_57 (((((if_neg h7).trans (if_neg h16)).trans (if_neg h25)).trans (if_neg h45)) : xaddF V c e l g = some "java/lang/IllegalStateException") (by decide) ⟨by decide, by decide⟩ (Nat.le_of_ble_eq_true rfl) rfl (by decide)
      · exact j_throw hX hT (cls := "java/lang/IllegalArgumentException") (text := "a number is out of range") (names := ["java/lang/RuntimeException", "java/lang/Exception"]) (ic := 56) (by decide +kernel) (by decide +kernel) (by decide +kernel) (by decide +kernel) (by decide +kernel) (by decide +kernel) (fun w (h : w ∈ (vx_atS RX11 56 "java/lang/IllegalArgumentException" ["java/lang/RuntimeException", "java/lang/Exception"]).filter goodWord) => by unfold wsX11_addFreeItem; simp only [List.mem_cons, List.mem_append, h, true_or, or_true]) x56_ng x56_good dX11_addFreeItem_28 dX11_addFreeItem_31 dX11_addFreeItem_32 dX11_addFreeItem_34 dX11_addFreeItem_37 ((((if_neg h7).trans (if_neg h16)).trans (if_pos h25)) : xaddF V c e l g = some "java/lang/IllegalArgumentException") (by decide) ⟨by decide, by decide⟩ (Nat.le_of_ble_eq_true rfl) rfl (by decide)

def xaddT (V : Nat → Int32) (c e l g : Int32) : Option String := if withinV c 1 9999 = 0 then some "java/lang/IllegalArgumentException" else if withinV e 1 9999 = 0 then some "java/lang/IllegalArgumentException" else if termsV l g = 0 then some "java/lang/IllegalArgumentException" else if fullV V = 0 then none else some "java/lang/IllegalStateException"
set_option maxHeartbeats 4000000 in
set_option maxRecDepth 100000 in
theorem c_X11_addThreshold (G : jG) (hG : G.1.stackTraces = false) (ad : Nat → Nat) (V : Nat → Int32) (M : Nat → Nat → Int32) (os : Nat → ofr) (o : Nat) (c e l g : Int32) (hso : V 4 = nI o) (ho6 : o ≤ 6) (hos : ∀ j, j < o → okO (os j)) : jT G 30 yX11_addThreshold wsX11_addThreshold [.ref (ad 0), .int c, .int e, .int l, .int g] (wC G ad V M (enO ad o) (wO ad os o)) 1 6 (fun rv w => xaddT V c e l g = none ∧ rv = some (.int (nI o)) ∧ ∃ q : Nat, w = wC G (adU ad o q) (appF (osU os o (ofr4 10 l g c e)) o (sV V 1 0, M)).1 (appF (osU os o (ofr4 10 l g c e)) o (sV V 1 0, M)).2 (enO (adU ad o q) (o + 1)) (wO (adU ad o q) (osU os o (ofr4 10 l g c e)) (o + 1))) (fun E => xaddT V c e l g = some E) := by
  refine jT.of hG (maxL := 5) (cc := cX11_addThreshold) (ret := (some .int)) rfl (by decide) [some (.ref (ad 0)), some (.int c), some (.int e), some (.int l), some (.int g)] rfl (Nat.le_of_ble_eq_true rfl) (j_args rfl) (fun X hX hT => ?_)
  refine j_iload_n hX dX11_addThreshold_0 rfl ?_
  refine j_iconst hX (v := 1) (by decide) dX11_addThreshold_1 ?_
  refine j_sipush hX (v := 9999) (by decide) dX11_addThreshold_2 ?_
  refine j_dS hX (nA := 3) (As := [.int c, .int 1, .int 9999]) (st := []) (st' := [.int (withinV c 1 9999)]) dX11_addThreshold_5 (c_isWithin G) gX11_addThreshold_X11_isWithin rfl (by decide +kernel) (by decide) (Nat.le_of_ble_eq_true rfl) rfl (Nat.le_of_ble_eq_true rfl) rfl ⟨by decide, by decide⟩ rfl ?_
  refine j_if_eq hX (tgt := 31) dX11_addThreshold_8 (by decide) (fun h8 => ?_) (fun h8 => ?_)
  · exact j_throw hX hT (cls := "java/lang/IllegalArgumentException") (text := "a number is out of range") (names := ["java/lang/RuntimeException", "java/lang/Exception"]) (ic := 56) (by decide +kernel) (by decide +kernel) (by decide +kernel) (by decide +kernel) (by decide +kernel) (by decide +kernel) (fun w (h : w ∈ (vx_atS RX11 56 "java/lang/IllegalArgumentException" ["java/lang/RuntimeException", "java/lang/Exception"]).filter goodWord) => by unfold wsX11_addThreshold; simp only [List.mem_cons, List.mem_append, h, true_or, or_true]) x56_ng x56_good dX11_addThreshold_31 dX11_addThreshold_34 dX11_addThreshold_35 dX11_addThreshold_37 dX11_addThreshold_40 ((if_pos h8) : xaddT V c e l g = some "java/lang/IllegalArgumentException") (by decide) ⟨by decide, by decide⟩ (Nat.le_of_ble_eq_true rfl) rfl (by decide)
  · refine j_iload_n hX dX11_addThreshold_11 rfl ?_
    refine j_iconst hX (v := 1) (by decide) dX11_addThreshold_12 ?_
    refine j_sipush hX (v := 9999) (by decide) dX11_addThreshold_13 ?_
    refine j_dS hX (nA := 3) (As := [.int e, .int 1, .int 9999]) (st := []) (st' := [.int (withinV e 1 9999)]) dX11_addThreshold_16 (c_isWithin G) gX11_addThreshold_X11_isWithin rfl (by decide +kernel) (by decide) (Nat.le_of_ble_eq_true rfl) rfl (Nat.le_of_ble_eq_true rfl) rfl ⟨by decide, by decide⟩ rfl ?_
    refine j_if_eq hX (tgt := 31) dX11_addThreshold_19 (by decide) (fun h19 => ?_) (fun h19 => ?_)
    · exact j_throw hX hT (cls := "java/lang/IllegalArgumentException") (text := "a number is out of range") (names := ["java/lang/RuntimeException", "java/lang/Exception"]) (ic := 56) (by decide +kernel) (by decide +kernel) (by decide +kernel) (by decide +kernel) (by decide +kernel) (by decide +kernel) (fun w (h : w ∈ (vx_atS RX11 56 "java/lang/IllegalArgumentException" ["java/lang/RuntimeException", "java/lang/Exception"]).filter goodWord) => by unfold wsX11_addThreshold; simp only [List.mem_cons, List.mem_append, h, true_or, or_true]) x56_ng x56_good dX11_addThreshold_31 dX11_addThreshold_34 dX11_addThreshold_35 dX11_addThreshold_37 dX11_addThreshold_40 (((if_neg h8).trans (if_pos h19)) : xaddT V c e l g = some "java/lang/IllegalArgumentException") (by decide) ⟨by decide, by decide⟩ (Nat.le_of_ble_eq_true rfl) rfl (by decide)
    · refine j_iload_n hX dX11_addThreshold_22 rfl ?_
      refine j_iload hX dX11_addThreshold_23 rfl ?_
      refine j_dS hX (nA := 2) (As := [.int l, .int g]) (st := []) (st' := [.int (termsV l g)]) dX11_addThreshold_25 (c_X11_areTerms G _ _) gX11_addThreshold_X11_areTerms rfl (by decide +kernel) (by decide) (Nat.le_of_ble_eq_true rfl) rfl (Nat.le_of_ble_eq_true rfl) rfl ⟨by decide, by decide⟩ rfl ?_
      refine j_if_ne hX (tgt := 41) dX11_addThreshold_28 (by decide) (fun h28 => ?_) (fun h28 => ?_)
      · refine j_aload_n hX dX11_addThreshold_41 rfl ?_
        refine j_getf hX (v := .ref (ad 5)) dX11_addThreshold_42 fX11_addThreshold_19 0 (wCg0 _ _ _ _ _ _) rfl ?_
        refine j_dV hX (nA := 0) (cq := (RX6, TX6, 6)) (As := []) (st := []) (st' := [.int (fullV V)]) (ci := 7) rfl dX11_addThreshold_45 (c_X6_isFull G _ _ _ _ _) gX11_addThreshold_X6_isFull rfl (by decide +kernel) (q := 5) (wCg5 _ _ _ _ _ _) (by decide) (Nat.le_of_ble_eq_true rfl) rfl (Nat.le_of_ble_eq_true rfl) rfl ⟨by decide, by decide⟩ rfl ?_
        refine j_if_eq hX (tgt := 61) dX11_addThreshold_48 (by decide) (fun h48 => ?_) (fun h48 => ?_)
        · refine j_aload_n hX dX11_addThreshold_61 rfl ?_
          have ho5 : o < 6 := full_lt hso ho6 h48
          refine j_new hX (fs := [.int 0, .int 0, .int 0, .int 0]) tyX9 dX11_addThreshold_62 (show vwCl[10]? = some (RX9, TX9, 4) from rfl) (by decide +kernel) tyX9_ok (by decide +kernel) (by decide +kernel) (by decide +kernel) (fun j hj => by rcases (show j = 0 ∨ j = 1 ∨ j = 2 ∨ j = 3 by omega) with rfl | rfl | rfl | rfl <;> rfl) ⟨by decide, by decide⟩ (fun q => ?_)
          refine j_dup hX dX11_addThreshold_65 rfl ?_
          refine j_iload_n hX dX11_addThreshold_66 rfl ?_
          refine j_iload_n hX dX11_addThreshold_67 rfl ?_
          refine j_iload_n hX dX11_addThreshold_68 rfl ?_
          refine j_iload hX dX11_addThreshold_69 rfl ?_
          refine j_callI hX (nA := 4) (As := [.int c, .int e, .int l, .int g]) (st := [.ref q, .ref (ad 0)]) (wa := (wC G ad V M (enO ad o) (wO ad os o))) (w0 := [(q, .inr (10, [.int 0, .int 0, .int 0, .int 0]))]) (wb := []) dX11_addThreshold_71 (c_X9_init G q c e l g) gX11_addThreshold_X9_init rfl (by decide +kernel) (by decide +kernel) (by decide +kernel) rfl rfl (by decide +kernel) (by decide) (Nat.le_of_ble_eq_true rfl) rfl (Nat.le_of_ble_eq_true rfl) ⟨by decide, by decide⟩ rfl rfl (fun rv w1 hp => ?_)
          obtain ⟨rfl, rfl⟩ := hp
          refine jW.world (wC_new G ad V M os o q (ofr4 10 l g c e)) ?_
          refine jW.stk (st' := [.ref (adU ad o q (30 + o)), .ref (adU ad o q 0)]) (by rw [adU_self, adU_lt (by omega)]; rfl) ?_
          refine j_dV hX (nA := 1) (cq := (RX11, TX11, 7)) (As := [.ref (adU ad o q (30 + o))]) (st := []) (st' := [.int (nI o)]) (ci := 12) rfl dX11_addThreshold_74 (c_X11_enter G (adU ad o q) V M (osU os o (ofr4 10 l g c e)) o ho5 (osU_ok hos (Or.inr (Or.inr (Or.inr rfl)))) hso) gX11_addThreshold_X11_enter rfl (by decide +kernel) (q := 0) (wCg0 _ _ _ _ _ _) (by decide) (Nat.le_of_ble_eq_true rfl) rfl (Nat.le_of_ble_eq_true rfl) rfl ⟨by decide, by decide⟩ rfl ?_
          refine jW.widen (k' := 1) (n' := 6) (by omega) (by omega) ?_
          exact j_iret hX dX11_addThreshold_77 ⟨(((((if_neg h8).trans (if_neg h19)).trans (if_neg h28)).trans (if_pos h48)) : xaddT V c e l g = none), rfl, q, rfl⟩
        · exact j_throw hX hT (cls := "java/lang/IllegalStateException") (text := "there is no room for another offer") (names := ["java/lang/RuntimeException", "java/lang/Exception"]) (ic := 67) (by decide +kernel) (by decide +kernel) (by decide +kernel) (by decide +kernel) (by decide +kernel) (by decide +kernel) (fun w (h : w ∈ (vx_atS RX11 67 "java/lang/IllegalStateException" ["java/lang/RuntimeException", "java/lang/Exception"]).filter goodWord) => by unfold wsX11_addThreshold; simp only [List.mem_cons, List.mem_append, h, true_or, or_true]) x67_ng x67_good dX11_addThreshold_51 dX11_addThreshold_54 dX11_addThreshold_55 dX11_addThreshold_57 dX11_addThreshold_60 (((((if_neg h8).trans (if_neg h19)).trans (if_neg h28)).trans (if_neg h48)) : xaddT V c e l g = some "java/lang/IllegalStateException") (by decide) ⟨by decide, by decide⟩ (Nat.le_of_ble_eq_true rfl) rfl (by decide)
      · exact j_throw hX hT (cls := "java/lang/IllegalArgumentException") (text := "a number is out of range") (names := ["java/lang/RuntimeException", "java/lang/Exception"]) (ic := 56) (by decide +kernel) (by decide +kernel) (by decide +kernel) (by decide +kernel) (by decide +kernel) (by decide +kernel) (fun w (h : w ∈ (vx_atS RX11 56 "java/lang/IllegalArgumentException" ["java/lang/RuntimeException", "java/lang/Exception"]).filter goodWord) => by unfold wsX11_addThreshold; simp only [List.mem_cons, List.mem_append, h, true_or, or_true]) x56_ng x56_good dX11_addThreshold_31 dX11_addThreshold_34 dX11_addThreshold_35 dX11_addThreshold_37 dX11_addThreshold_40 ((((if_neg h8).trans (if_neg h19)).trans (if_pos h28)) : xaddT V c e l g = some "java/lang/IllegalArgumentException") (by decide) ⟨by decide, by decide⟩ (Nat.le_of_ble_eq_true rfl) rfl (by decide)

def xaddB (V : Nat → Int32) (f s t p l g : Int32) : Option String := if withinV f 0 9 = 0 then some "java/lang/IllegalArgumentException" else if withinV s 0 9 = 0 then some "java/lang/IllegalArgumentException" else if withinV t (-1) 9 = 0 then some "java/lang/IllegalArgumentException" else if withinV p 1 9999 = 0 then some "java/lang/IllegalArgumentException" else if termsV l g = 0 then some "java/lang/IllegalArgumentException" else if fullV V = 0 then none else some "java/lang/IllegalStateException"
set_option maxHeartbeats 4000000 in
set_option maxRecDepth 100000 in
theorem c_X11_addBundle (G : jG) (hG : G.1.stackTraces = false) (ad : Nat → Nat) (V : Nat → Int32) (M : Nat → Nat → Int32) (os : Nat → ofr) (o : Nat) (f s t p l g : Int32) (hso : V 4 = nI o) (ho6 : o ≤ 6) (hos : ∀ j, j < o → okO (os j)) : jT G 30 yX11_addBundle wsX11_addBundle [.ref (ad 0), .int f, .int s, .int t, .int p, .int l, .int g] (wC G ad V M (enO ad o) (wO ad os o)) 1 9 (fun rv w => xaddB V f s t p l g = none ∧ rv = some (.int (nI o)) ∧ ∃ q : Nat, w = wC G (adU ad o q) (appF (osU os o (ofrB l g f s t p)) o (sV V 1 0, M)).1 (appF (osU os o (ofrB l g f s t p)) o (sV V 1 0, M)).2 (enO (adU ad o q) (o + 1)) (wO (adU ad o q) (osU os o (ofrB l g f s t p)) (o + 1))) (fun E => xaddB V f s t p l g = some E) := by
  refine jT.of hG (maxL := 7) (cc := cX11_addBundle) (ret := (some .int)) rfl (by decide) [some (.ref (ad 0)), some (.int f), some (.int s), some (.int t), some (.int p), some (.int l), some (.int g)] rfl (Nat.le_of_ble_eq_true rfl) (j_args rfl) (fun X hX hT => ?_)
  refine j_iload_n hX dX11_addBundle_0 rfl ?_
  refine j_iconst hX (v := 0) (by decide) dX11_addBundle_1 ?_
  refine j_bipush hX (v := 9) (by decide) dX11_addBundle_2 ?_
  refine j_dS hX (nA := 3) (As := [.int f, .int 0, .int 9]) (st := []) (st' := [.int (withinV f 0 9)]) dX11_addBundle_4 (c_isWithin G) gX11_addBundle_X11_isWithin rfl (by decide +kernel) (by decide) (Nat.le_of_ble_eq_true rfl) rfl (Nat.le_of_ble_eq_true rfl) rfl ⟨by decide, by decide⟩ rfl ?_
  refine j_if_eq hX (tgt := 52) dX11_addBundle_7 (by decide) (fun h7 => ?_) (fun h7 => ?_)
  · exact j_throw hX hT (cls := "java/lang/IllegalArgumentException") (text := "a number is out of range") (names := ["java/lang/RuntimeException", "java/lang/Exception"]) (ic := 56) (by decide +kernel) (by decide +kernel) (by decide +kernel) (by decide +kernel) (by decide +kernel) (by decide +kernel) (fun w (h : w ∈ (vx_atS RX11 56 "java/lang/IllegalArgumentException" ["java/lang/RuntimeException", "java/lang/Exception"]).filter goodWord) => by unfold wsX11_addBundle; simp only [List.mem_cons, List.mem_append, h, true_or, or_true]) x56_ng x56_good dX11_addBundle_52 dX11_addBundle_55 dX11_addBundle_56 dX11_addBundle_58 dX11_addBundle_61 ((if_pos h7) : xaddB V f s t p l g = some "java/lang/IllegalArgumentException") (by decide) ⟨by decide, by decide⟩ (Nat.le_of_ble_eq_true rfl) rfl (by decide)
  · refine j_iload_n hX dX11_addBundle_10 rfl ?_
    refine j_iconst hX (v := 0) (by decide) dX11_addBundle_11 ?_
    refine j_bipush hX (v := 9) (by decide) dX11_addBundle_12 ?_
    refine j_dS hX (nA := 3) (As := [.int s, .int 0, .int 9]) (st := []) (st' := [.int (withinV s 0 9)]) dX11_addBundle_14 (c_isWithin G) gX11_addBundle_X11_isWithin rfl (by decide +kernel) (by decide) (Nat.le_of_ble_eq_true rfl) rfl (Nat.le_of_ble_eq_true rfl) rfl ⟨by decide, by decide⟩ rfl ?_
    refine j_if_eq hX (tgt := 52) dX11_addBundle_17 (by decide) (fun h17 => ?_) (fun h17 => ?_)
    · exact j_throw hX hT (cls := "java/lang/IllegalArgumentException") (text := "a number is out of range") (names := ["java/lang/RuntimeException", "java/lang/Exception"]) (ic := 56) (by decide +kernel) (by decide +kernel) (by decide +kernel) (by decide +kernel) (by decide +kernel) (by decide +kernel) (fun w (h : w ∈ (vx_atS RX11 56 "java/lang/IllegalArgumentException" ["java/lang/RuntimeException", "java/lang/Exception"]).filter goodWord) => by unfold wsX11_addBundle; simp only [List.mem_cons, List.mem_append, h, true_or, or_true]) x56_ng x56_good dX11_addBundle_52 dX11_addBundle_55 dX11_addBundle_56 dX11_addBundle_58 dX11_addBundle_61 (((if_neg h7).trans (if_pos h17)) : xaddB V f s t p l g = some "java/lang/IllegalArgumentException") (by decide) ⟨by decide, by decide⟩ (Nat.le_of_ble_eq_true rfl) rfl (by decide)
    · refine j_iload_n hX dX11_addBundle_20 rfl ?_
      refine j_iconst hX (v := -1) (by decide) dX11_addBundle_21 ?_
      refine j_bipush hX (v := 9) (by decide) dX11_addBundle_22 ?_
      refine j_dS hX (nA := 3) (As := [.int t, .int (-1), .int 9]) (st := []) (st' := [.int (withinV t (-1) 9)]) dX11_addBundle_24 (c_isWithin G) gX11_addBundle_X11_isWithin rfl (by decide +kernel) (by decide) (Nat.le_of_ble_eq_true rfl) rfl (Nat.le_of_ble_eq_true rfl) rfl ⟨by decide, by decide⟩ rfl ?_
      refine j_if_eq hX (tgt := 52) dX11_addBundle_27 (by decide) (fun h27 => ?_) (fun h27 => ?_)
      · exact j_throw hX hT (cls := "java/lang/IllegalArgumentException") (text := "a number is out of range") (names := ["java/lang/RuntimeException", "java/lang/Exception"]) (ic := 56) (by decide +kernel) (by decide +kernel) (by decide +kernel) (by decide +kernel) (by decide +kernel) (by decide +kernel) (fun w (h : w ∈ (vx_atS RX11 56 "java/lang/IllegalArgumentException" ["java/lang/RuntimeException", "java/lang/Exception"]).filter goodWord) => by unfold wsX11_addBundle; simp only [List.mem_cons, List.mem_append, h, true_or, or_true]) x56_ng x56_good dX11_addBundle_52 dX11_addBundle_55 dX11_addBundle_56 dX11_addBundle_58 dX11_addBundle_61 ((((if_neg h7).trans (if_neg h17)).trans (if_pos h27)) : xaddB V f s t p l g = some "java/lang/IllegalArgumentException") (by decide) ⟨by decide, by decide⟩ (Nat.le_of_ble_eq_true rfl) rfl (by decide)
      · refine j_iload hX dX11_addBundle_30 rfl ?_
        refine j_iconst hX (v := 1) (by decide) dX11_addBundle_32 ?_
        refine j_sipush hX (v := 9999) (by decide) dX11_addBundle_33 ?_
        refine j_dS hX (nA := 3) (As := [.int p, .int 1, .int 9999]) (st := []) (st' := [.int (withinV p 1 9999)]) dX11_addBundle_36 (c_isWithin G) gX11_addBundle_X11_isWithin rfl (by decide +kernel) (by decide) (Nat.le_of_ble_eq_true rfl) rfl (Nat.le_of_ble_eq_true rfl) rfl ⟨by decide, by decide⟩ rfl ?_
        refine j_if_eq hX (tgt := 52) dX11_addBundle_39 (by decide) (fun h39 => ?_) (fun h39 => ?_)
        · exact j_throw hX hT (cls := "java/lang/IllegalArgumentException") (text := "a number is out of range") (names := ["java/lang/RuntimeException", "java/lang/Exception"]) (ic := 56) (by decide +kernel) (by decide +kernel) (by decide +kernel) (by decide +kernel) (by decide +kernel) (by decide +kernel) (fun w (h : w ∈ (vx_atS RX11 56 "java/lang/IllegalArgumentException" ["java/lang/RuntimeException", "java/lang/Exception"]).filter goodWord) => by unfold wsX11_addBundle; simp only [List.mem_cons, List.mem_append, h, true_or, or_true]) x56_ng x56_good dX11_addBundle_52 dX11_addBundle_55 dX11_addBundle_56 dX11_addBundle_58 dX11_addBundle_61 (((((if_neg h7).trans (if_neg h17)).trans (if_neg h27)).trans (if_pos h39)) : xaddB V f s t p l g = some "java/lang/IllegalArgumentException") (by decide) ⟨by decide, by decide⟩ (Nat.le_of_ble_eq_true rfl) rfl (by decide)
        · refine j_iload hX dX11_addBundle_42 rfl ?_
          refine j_iload hX dX11_addBundle_44 rfl ?_
          refine j_dS hX (nA := 2) (As := [.int l, .int g]) (st := []) (st' := [.int (termsV l g)]) dX11_addBundle_46 (c_X11_areTerms G _ _) gX11_addBundle_X11_areTerms rfl (by decide +kernel) (by decide) (Nat.le_of_ble_eq_true rfl) rfl (Nat.le_of_ble_eq_true rfl) rfl ⟨by decide, by decide⟩ rfl ?_
          refine j_if_ne hX (tgt := 62) dX11_addBundle_49 (by decide) (fun h49 => ?_) (fun h49 => ?_)
          · refine j_aload_n hX dX11_addBundle_62 rfl ?_
            refine j_getf hX (v := .ref (ad 5)) dX11_addBundle_63 fX11_addBundle_19 0 (wCg0 _ _ _ _ _ _) rfl ?_
            refine j_dV hX (nA := 0) (cq := (RX6, TX6, 6)) (As := []) (st := []) (st' := [.int (fullV V)]) (ci := 7) rfl dX11_addBundle_66 (c_X6_isFull G _ _ _ _ _) gX11_addBundle_X6_isFull rfl (by decide +kernel) (q := 5) (wCg5 _ _ _ _ _ _) (by decide) (Nat.le_of_ble_eq_true rfl) rfl (Nat.le_of_ble_eq_true rfl) rfl ⟨by decide, by decide⟩ rfl ?_
            refine j_if_eq hX (tgt := 82) dX11_addBundle_69 (by decide) (fun h69 => ?_) (fun h69 => ?_)
            · refine j_aload_n hX dX11_addBundle_82 rfl ?_
              have ho5 : o < 6 := full_lt hso ho6 h69
              refine j_new hX (fs := [.int 0, .int 0, .int 0, .int 0, .int 0, .int 0, .int 0, .int 0, .int 0]) tyX2 dX11_addBundle_83 (show vwCl[4]? = some (RX2, TX2, 9) from rfl) (by decide +kernel) tyX2_ok (by decide +kernel) (by decide +kernel) (by decide +kernel) (fun j hj => by rcases (show j = 0 ∨ j = 1 ∨ j = 2 ∨ j = 3 ∨ j = 4 ∨ j = 5 ∨ j = 6 ∨ j = 7 ∨ j = 8 by omega) with rfl | rfl | rfl | rfl | rfl | rfl | rfl | rfl | rfl <;> rfl) ⟨by decide, by decide⟩ (fun q => ?_)
              refine j_dup hX dX11_addBundle_86 rfl ?_
              refine j_iload_n hX dX11_addBundle_87 rfl ?_
              refine j_iload_n hX dX11_addBundle_88 rfl ?_
              refine j_iload_n hX dX11_addBundle_89 rfl ?_
              refine j_iload hX dX11_addBundle_90 rfl ?_
              refine j_iload hX dX11_addBundle_92 rfl ?_
              refine j_iload hX dX11_addBundle_94 rfl ?_
              refine j_callI hX (nA := 6) (As := [.int f, .int s, .int t, .int p, .int l, .int g]) (st := [.ref q, .ref (ad 0)]) (wa := (wC G ad V M (enO ad o) (wO ad os o))) (w0 := [(q, .inr (4, [.int 0, .int 0, .int 0, .int 0, .int 0, .int 0, .int 0, .int 0, .int 0]))]) (wb := []) dX11_addBundle_96 (c_X2_init G q f s t p l g) gX11_addBundle_X2_init rfl (by decide +kernel) (by decide +kernel) (by decide +kernel) rfl rfl (by decide +kernel) (by decide) (Nat.le_of_ble_eq_true rfl) rfl (Nat.le_of_ble_eq_true rfl) ⟨by decide, by decide⟩ rfl rfl (fun rv w1 hp => ?_)
              obtain ⟨rfl, rfl⟩ := hp
              refine jW.world (wC_new G ad V M os o q (ofrB l g f s t p)) ?_
              refine jW.stk (st' := [.ref (adU ad o q (30 + o)), .ref (adU ad o q 0)]) (by rw [adU_self, adU_lt (by omega)]; rfl) ?_
              refine j_dV hX (nA := 1) (cq := (RX11, TX11, 7)) (As := [.ref (adU ad o q (30 + o))]) (st := []) (st' := [.int (nI o)]) (ci := 12) rfl dX11_addBundle_99 (c_X11_enter G (adU ad o q) V M (osU os o (ofrB l g f s t p)) o ho5 (osU_ok hos (Or.inr (Or.inr (Or.inl rfl)))) hso) gX11_addBundle_X11_enter rfl (by decide +kernel) (q := 0) (wCg0 _ _ _ _ _ _) (by decide) (Nat.le_of_ble_eq_true rfl) rfl (Nat.le_of_ble_eq_true rfl) rfl ⟨by decide, by decide⟩ rfl ?_
              refine jW.widen (k' := 1) (n' := 9) (by omega) (by omega) ?_
              exact j_iret hX dX11_addBundle_102 ⟨(((((((if_neg h7).trans (if_neg h17)).trans (if_neg h27)).trans (if_neg h39)).trans (if_neg h49)).trans (if_pos h69)) : xaddB V f s t p l g = none), rfl, q, rfl⟩
            · exact j_throw hX hT (cls := "java/lang/IllegalStateException") (text := "there is no room for another offer") (names := ["java/lang/RuntimeException", "java/lang/Exception"]) (ic := 67) (by decide +kernel) (by decide +kernel) (by decide +kernel) (by decide +kernel) (by decide +kernel) (by decide +kernel) (fun w (h : w ∈ (vx_atS RX11 67 "java/lang/IllegalStateException" ["java/lang/RuntimeException", "java/lang/Exception"]).filter goodWord) => by unfold wsX11_addBundle; simp only [List.mem_cons, List.mem_append, h, true_or, or_true]) x67_ng x67_good dX11_addBundle_72 dX11_addBundle_75 dX11_addBundle_76 dX11_addBundle_78 dX11_addBundle_81 (((((((if_neg h7).trans (if_neg h17)).trans (if_neg h27)).trans (if_neg h39)).trans (if_neg h49)).trans (if_neg h69)) : xaddB V f s t p l g = some "java/lang/IllegalStateException") (by decide) ⟨by decide, by decide⟩ (Nat.le_of_ble_eq_true rfl) rfl (by decide)
          · exact j_throw hX hT (cls := "java/lang/IllegalArgumentException") (text := "a number is out of range") (names := ["java/lang/RuntimeException", "java/lang/Exception"]) (ic := 56) (by decide +kernel) (by decide +kernel) (by decide +kernel) (by decide +kernel) (by decide +kernel) (by decide +kernel) (fun w (h : w ∈ (vx_atS RX11 56 "java/lang/IllegalArgumentException" ["java/lang/RuntimeException", "java/lang/Exception"]).filter goodWord) => by unfold wsX11_addBundle; simp only [List.mem_cons, List.mem_append, h, true_or, or_true]) x56_ng x56_good dX11_addBundle_52 dX11_addBundle_55 dX11_addBundle_56 dX11_addBundle_58 dX11_addBundle_61 ((((((if_neg h7).trans (if_neg h17)).trans (if_neg h27)).trans (if_neg h39)).trans (if_pos h49)) : xaddB V f s t p l g = some "java/lang/IllegalArgumentException") (by decide) ⟨by decide, by decide⟩ (Nat.le_of_ble_eq_true rfl) rfl (by decide)

