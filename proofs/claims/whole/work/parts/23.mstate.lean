theorem fX12_looks_93 : jF wsX12_looks RX12 93 13 20 false .int := ⟨(RX12, TX12, 37), tyX12, rfl, by decide, by decide +kernel, by decide +kernel, tyX12_ok, nmX12, rfl, by decide +kernel, fun h => by cases h⟩
theorem fX12_looks_96 : jF wsX12_looks RX12 96 13 5 false .int := ⟨(RX12, TX12, 37), tyX12, rfl, by decide, by decide +kernel, by decide +kernel, tyX12_ok, nmX12, rfl, by decide +kernel, fun h => by cases h⟩
theorem fX12_looks_22 : jF wsX12_looks RX12 22 13 4 true (.array .char) := ⟨(RX12, TX12, 37), tyX12, rfl, by decide, by decide +kernel, by decide +kernel, tyX12_ok, nmX12, rfl, by decide +kernel, by decide +kernel⟩
theorem fX12_looks_52 : jF wsX12_looks RX12 52 13 19 true (.array .int) := ⟨(RX12, TX12, 37), tyX12, rfl, by decide, by decide +kernel, by decide +kernel, tyX12_ok, nmX12, rfl, by decide +kernel, by decide +kernel⟩
theorem fX12_isInBasket_96 : jF wsX12_isInBasket RX12 96 13 5 false .int := ⟨(RX12, TX12, 37), tyX12, rfl, by decide, by decide +kernel, by decide +kernel, tyX12_ok, nmX12, rfl, by decide +kernel, fun h => by cases h⟩
theorem fX12_isInBasket_22 : jF wsX12_isInBasket RX12 22 13 4 true (.array .char) := ⟨(RX12, TX12, 37), tyX12, rfl, by decide, by decide +kernel, by decide +kernel, tyX12_ok, nmX12, rfl, by decide +kernel, by decide +kernel⟩
theorem fX12_sumNow_93 : jF wsX12_sumNow RX12 93 13 20 false .int := ⟨(RX12, TX12, 37), tyX12, rfl, by decide, by decide +kernel, by decide +kernel, tyX12_ok, nmX12, rfl, by decide +kernel, fun h => by cases h⟩
theorem fX12_sumNow_13 : jF wsX12_sumNow RX12 13 13 1 true (.array .int) := ⟨(RX12, TX12, 37), tyX12, rfl, by decide, by decide +kernel, by decide +kernel, tyX12_ok, nmX12, rfl, by decide +kernel, by decide +kernel⟩
theorem fX12_sumNow_52 : jF wsX12_sumNow RX12 52 13 19 true (.array .int) := ⟨(RX12, TX12, 37), tyX12, rfl, by decide, by decide +kernel, by decide +kernel, tyX12_ok, nmX12, rfl, by decide +kernel, by decide +kernel⟩
theorem fX12_put_89 : jF wsX12_put RX12 89 13 18 false .int := ⟨(RX12, TX12, 37), tyX12, rfl, by decide, by decide +kernel, by decide +kernel, tyX12_ok, nmX12, rfl, by decide +kernel, fun h => by cases h⟩
theorem fX12_put_93 : jF wsX12_put RX12 93 13 20 false .int := ⟨(RX12, TX12, 37), tyX12, rfl, by decide, by decide +kernel, by decide +kernel, tyX12_ok, nmX12, rfl, by decide +kernel, fun h => by cases h⟩
theorem fX12_put_96 : jF wsX12_put RX12 96 13 5 false .int := ⟨(RX12, TX12, 37), tyX12, rfl, by decide, by decide +kernel, by decide +kernel, tyX12_ok, nmX12, rfl, by decide +kernel, fun h => by cases h⟩
theorem fX12_put_9 : jF wsX12_put RX12 9 13 0 true (.array .int) := ⟨(RX12, TX12, 37), tyX12, rfl, by decide, by decide +kernel, by decide +kernel, tyX12_ok, nmX12, rfl, by decide +kernel, by decide +kernel⟩
theorem fX12_put_13 : jF wsX12_put RX12 13 13 1 true (.array .int) := ⟨(RX12, TX12, 37), tyX12, rfl, by decide, by decide +kernel, by decide +kernel, tyX12_ok, nmX12, rfl, by decide +kernel, by decide +kernel⟩
theorem fX12_put_22 : jF wsX12_put RX12 22 13 4 true (.array .char) := ⟨(RX12, TX12, 37), tyX12, rfl, by decide, by decide +kernel, by decide +kernel, tyX12_ok, nmX12, rfl, by decide +kernel, by decide +kernel⟩
theorem fX12_put_106 : jF wsX12_put RX12 106 13 28 false .boolean := ⟨(RX12, TX12, 37), tyX12, rfl, by decide, by decide +kernel, by decide +kernel, tyX12_ok, nmX12, rfl, by decide +kernel, fun h => by cases h⟩
theorem fX12_takeOut_89 : jF wsX12_takeOut RX12 89 13 18 false .int := ⟨(RX12, TX12, 37), tyX12, rfl, by decide, by decide +kernel, by decide +kernel, tyX12_ok, nmX12, rfl, by decide +kernel, fun h => by cases h⟩
theorem fX12_takeOut_22 : jF wsX12_takeOut RX12 22 13 4 true (.array .char) := ⟨(RX12, TX12, 37), tyX12, rfl, by decide, by decide +kernel, by decide +kernel, tyX12_ok, nmX12, rfl, by decide +kernel, by decide +kernel⟩
theorem fX12_takeOut_106 : jF wsX12_takeOut RX12 106 13 28 false .boolean := ⟨(RX12, TX12, 37), tyX12, rfl, by decide, by decide +kernel, by decide +kernel, tyX12_ok, nmX12, rfl, by decide +kernel, fun h => by cases h⟩
theorem fX12_takeOut_93 : jF wsX12_takeOut RX12 93 13 20 false .int := ⟨(RX12, TX12, 37), tyX12, rfl, by decide, by decide +kernel, by decide +kernel, tyX12_ok, nmX12, rfl, by decide +kernel, fun h => by cases h⟩
theorem fX12_setCustomer_89 : jF wsX12_setCustomer RX12 89 13 18 false .int := ⟨(RX12, TX12, 37), tyX12, rfl, by decide, by decide +kernel, by decide +kernel, tyX12_ok, nmX12, rfl, by decide +kernel, fun h => by cases h⟩
theorem fX12_setCustomer_114 : jF wsX12_setCustomer RX12 114 13 6 false .int := ⟨(RX12, TX12, 37), tyX12, rfl, by decide, by decide +kernel, by decide +kernel, tyX12_ok, nmX12, rfl, by decide +kernel, fun h => by cases h⟩
theorem fX12_setCustomer_106 : jF wsX12_setCustomer RX12 106 13 28 false .boolean := ⟨(RX12, TX12, 37), tyX12, rfl, by decide, by decide +kernel, by decide +kernel, tyX12_ok, nmX12, rfl, by decide +kernel, fun h => by cases h⟩
theorem fX12_items_89 : jF wsX12_items RX12 89 13 18 false .int := ⟨(RX12, TX12, 37), tyX12, rfl, by decide, by decide +kernel, by decide +kernel, tyX12_ok, nmX12, rfl, by decide +kernel, fun h => by cases h⟩
theorem fX12_items_93 : jF wsX12_items RX12 93 13 20 false .int := ⟨(RX12, TX12, 37), tyX12, rfl, by decide, by decide +kernel, by decide +kernel, tyX12_ok, nmX12, rfl, by decide +kernel, fun h => by cases h⟩
theorem fX12_sum_89 : jF wsX12_sum RX12 89 13 18 false .int := ⟨(RX12, TX12, 37), tyX12, rfl, by decide, by decide +kernel, by decide +kernel, tyX12_ok, nmX12, rfl, by decide +kernel, fun h => by cases h⟩
theorem fX12_offers_89 : jF wsX12_offers RX12 89 13 18 false .int := ⟨(RX12, TX12, 37), tyX12, rfl, by decide, by decide +kernel, by decide +kernel, tyX12_ok, nmX12, rfl, by decide +kernel, fun h => by cases h⟩
theorem fX12_offers_121 : jF wsX12_offers RX12 121 13 14 false .int := ⟨(RX12, TX12, 37), tyX12, rfl, by decide, by decide +kernel, by decide +kernel, tyX12_ok, nmX12, rfl, by decide +kernel, fun h => by cases h⟩
theorem fX12_thrown_89 : jF wsX12_thrown RX12 89 13 18 false .int := ⟨(RX12, TX12, 37), tyX12, rfl, by decide, by decide +kernel, by decide +kernel, tyX12_ok, nmX12, rfl, by decide +kernel, fun h => by cases h⟩
theorem fX12_raises_89 : jF wsX12_raises RX12 89 13 18 false .int := ⟨(RX12, TX12, 37), tyX12, rfl, by decide, by decide +kernel, by decide +kernel, tyX12_ok, nmX12, rfl, by decide +kernel, fun h => by cases h⟩
/-! THE MODEL'S WORLD: its object at ad 0, its arrays at ad 1 .. ad 25, the four rows of used at ad 26 .. ad 29; V: numbers in fields (0 all, 1 customer, 2 offers, 3 usesInAll, 4 thrown, 5 items, 6 uses, 7 isFound, 8 best, 9 bestUses, 10 bestOff); M: arrays by place (1 kinds, 2 prices, 3 nets, 4 buyers, 5 states, 6 sorts, 7 firsts, 8 seconds, 9 thirds, 10 bundles, 11 limits, 12 groups, 13 used, 14 basket, 15 useOf, 16 counts, 17 owners, 18 useOffers, 19 useDiscounts, 20 hopes, 21 bestUseOf, 22 bestCounts, 23 bestOffers, 24 bestDiscounts, 25 isIn); t: the turnover. -/
def wM (G : jG) (ad : Nat → Nat) (V : Nat → Int32) (M : Nat → Nat → Int32) (t : Int64) : va_W :=
  [(ad 0, .inr (13, [.ref (ad 1), .ref (ad 2), .ref (ad 3), .ref (ad 4), .ref (ad 5), .int (V 0), .int (V 1), .ref (ad 6), .ref (ad 7), .ref (ad 8), .ref (ad 9), .ref (ad 10), .ref (ad 11), .ref (ad 12), .int (V 2), .ref (ad 13), .int (V 3), .long t, .int (V 4), .ref (ad 14), .int (V 5), .ref (ad 15), .ref (ad 16), .ref (ad 17), .ref (ad 18), .ref (ad 19), .int (V 6), .ref (ad 20), .int (V 7), .int (V 8), .ref (ad 21), .ref (ad 22), .ref (ad 23), .ref (ad 24), .int (V 9), .int (V 10), .ref (ad 25)])),
   (ad 1, .inl (G.2.2 0, 60, .inl (M 1))),
   (ad 2, .inl (G.2.2 0, 60, .inl (M 2))),
   (ad 3, .inl (G.2.2 0, 60, .inl (M 3))),
   (ad 4, .inl (G.2.2 0, 60, .inl (M 4))),
   (ad 5, .inl (G.2.2 1, 60, .inl (M 5))),
   (ad 6, .inl (G.2.2 1, 6, .inl (M 6))),
   (ad 7, .inl (G.2.2 0, 6, .inl (M 7))),
   (ad 8, .inl (G.2.2 0, 6, .inl (M 8))),
   (ad 9, .inl (G.2.2 0, 6, .inl (M 9))),
   (ad 10, .inl (G.2.2 0, 6, .inl (M 10))),
   (ad 11, .inl (G.2.2 0, 6, .inl (M 11))),
   (ad 12, .inl (G.2.2 0, 6, .inl (M 12))),
   (ad 13, .inl (G.2.2 4, 4, .inr (.inr (.inr (.inr fun i => if i < 4 then some (ad (i + 26)) else none))))),
   (ad 14, .inl (G.2.2 0, 7, .inl (M 14))),
   (ad 15, .inl (G.2.2 0, 7, .inl (M 15))),
   (ad 16, .inl (G.2.2 0, 6, .inl (M 16))),
   (ad 17, .inl (G.2.2 0, 4, .inl (M 17))),
   (ad 18, .inl (G.2.2 0, 7, .inl (M 18))),
   (ad 19, .inl (G.2.2 0, 7, .inl (M 19))),
   (ad 20, .inl (G.2.2 0, 8, .inl (M 20))),
   (ad 21, .inl (G.2.2 0, 7, .inl (M 21))),
   (ad 22, .inl (G.2.2 0, 6, .inl (M 22))),
   (ad 23, .inl (G.2.2 0, 7, .inl (M 23))),
   (ad 24, .inl (G.2.2 0, 7, .inl (M 24))),
   (ad 25, .inl (G.2.2 2, 6, .inl (M 25))),
   (ad 26, .inl (G.2.2 0, 6, .inl (M 26))),
   (ad 27, .inl (G.2.2 0, 6, .inl (M 27))),
   (ad 28, .inl (G.2.2 0, 6, .inl (M 28))),
   (ad 29, .inl (G.2.2 0, 6, .inl (M 29)))]
section WM
variable (G : jG) (ad : Nat → Nat) (V : Nat → Int32) (M : Nat → Nat → Int32) (t : Int64)
theorem wMg0 : (wM G ad V M t)[0]? = some (ad 0, .inr (13, [.ref (ad 1), .ref (ad 2), .ref (ad 3), .ref (ad 4), .ref (ad 5), .int (V 0), .int (V 1), .ref (ad 6), .ref (ad 7), .ref (ad 8), .ref (ad 9), .ref (ad 10), .ref (ad 11), .ref (ad 12), .int (V 2), .ref (ad 13), .int (V 3), .long t, .int (V 4), .ref (ad 14), .int (V 5), .ref (ad 15), .ref (ad 16), .ref (ad 17), .ref (ad 18), .ref (ad 19), .int (V 6), .ref (ad 20), .int (V 7), .int (V 8), .ref (ad 21), .ref (ad 22), .ref (ad 23), .ref (ad 24), .int (V 9), .int (V 10), .ref (ad 25)])) := rfl
theorem wMp0_5 (x : Int32) : (wM G ad V M t).set 0 (ad 0, .inr (13, [.ref (ad 1), .ref (ad 2), .ref (ad 3), .ref (ad 4), .ref (ad 5), .int x, .int (V 1), .ref (ad 6), .ref (ad 7), .ref (ad 8), .ref (ad 9), .ref (ad 10), .ref (ad 11), .ref (ad 12), .int (V 2), .ref (ad 13), .int (V 3), .long t, .int (V 4), .ref (ad 14), .int (V 5), .ref (ad 15), .ref (ad 16), .ref (ad 17), .ref (ad 18), .ref (ad 19), .int (V 6), .ref (ad 20), .int (V 7), .int (V 8), .ref (ad 21), .ref (ad 22), .ref (ad 23), .ref (ad 24), .int (V 9), .int (V 10), .ref (ad 25)])) = wM G ad (sV V 0 x) M t := rfl
theorem wMp0_6 (x : Int32) : (wM G ad V M t).set 0 (ad 0, .inr (13, [.ref (ad 1), .ref (ad 2), .ref (ad 3), .ref (ad 4), .ref (ad 5), .int (V 0), .int x, .ref (ad 6), .ref (ad 7), .ref (ad 8), .ref (ad 9), .ref (ad 10), .ref (ad 11), .ref (ad 12), .int (V 2), .ref (ad 13), .int (V 3), .long t, .int (V 4), .ref (ad 14), .int (V 5), .ref (ad 15), .ref (ad 16), .ref (ad 17), .ref (ad 18), .ref (ad 19), .int (V 6), .ref (ad 20), .int (V 7), .int (V 8), .ref (ad 21), .ref (ad 22), .ref (ad 23), .ref (ad 24), .int (V 9), .int (V 10), .ref (ad 25)])) = wM G ad (sV V 1 x) M t := rfl
theorem wMp0_14 (x : Int32) : (wM G ad V M t).set 0 (ad 0, .inr (13, [.ref (ad 1), .ref (ad 2), .ref (ad 3), .ref (ad 4), .ref (ad 5), .int (V 0), .int (V 1), .ref (ad 6), .ref (ad 7), .ref (ad 8), .ref (ad 9), .ref (ad 10), .ref (ad 11), .ref (ad 12), .int x, .ref (ad 13), .int (V 3), .long t, .int (V 4), .ref (ad 14), .int (V 5), .ref (ad 15), .ref (ad 16), .ref (ad 17), .ref (ad 18), .ref (ad 19), .int (V 6), .ref (ad 20), .int (V 7), .int (V 8), .ref (ad 21), .ref (ad 22), .ref (ad 23), .ref (ad 24), .int (V 9), .int (V 10), .ref (ad 25)])) = wM G ad (sV V 2 x) M t := rfl
theorem wMp0_16 (x : Int32) : (wM G ad V M t).set 0 (ad 0, .inr (13, [.ref (ad 1), .ref (ad 2), .ref (ad 3), .ref (ad 4), .ref (ad 5), .int (V 0), .int (V 1), .ref (ad 6), .ref (ad 7), .ref (ad 8), .ref (ad 9), .ref (ad 10), .ref (ad 11), .ref (ad 12), .int (V 2), .ref (ad 13), .int x, .long t, .int (V 4), .ref (ad 14), .int (V 5), .ref (ad 15), .ref (ad 16), .ref (ad 17), .ref (ad 18), .ref (ad 19), .int (V 6), .ref (ad 20), .int (V 7), .int (V 8), .ref (ad 21), .ref (ad 22), .ref (ad 23), .ref (ad 24), .int (V 9), .int (V 10), .ref (ad 25)])) = wM G ad (sV V 3 x) M t := rfl
theorem wMp0_17 (x : Int64) : (wM G ad V M t).set 0 (ad 0, .inr (13, [.ref (ad 1), .ref (ad 2), .ref (ad 3), .ref (ad 4), .ref (ad 5), .int (V 0), .int (V 1), .ref (ad 6), .ref (ad 7), .ref (ad 8), .ref (ad 9), .ref (ad 10), .ref (ad 11), .ref (ad 12), .int (V 2), .ref (ad 13), .int (V 3), .long x, .int (V 4), .ref (ad 14), .int (V 5), .ref (ad 15), .ref (ad 16), .ref (ad 17), .ref (ad 18), .ref (ad 19), .int (V 6), .ref (ad 20), .int (V 7), .int (V 8), .ref (ad 21), .ref (ad 22), .ref (ad 23), .ref (ad 24), .int (V 9), .int (V 10), .ref (ad 25)])) = wM G ad V M x := rfl
theorem wMp0_18 (x : Int32) : (wM G ad V M t).set 0 (ad 0, .inr (13, [.ref (ad 1), .ref (ad 2), .ref (ad 3), .ref (ad 4), .ref (ad 5), .int (V 0), .int (V 1), .ref (ad 6), .ref (ad 7), .ref (ad 8), .ref (ad 9), .ref (ad 10), .ref (ad 11), .ref (ad 12), .int (V 2), .ref (ad 13), .int (V 3), .long t, .int x, .ref (ad 14), .int (V 5), .ref (ad 15), .ref (ad 16), .ref (ad 17), .ref (ad 18), .ref (ad 19), .int (V 6), .ref (ad 20), .int (V 7), .int (V 8), .ref (ad 21), .ref (ad 22), .ref (ad 23), .ref (ad 24), .int (V 9), .int (V 10), .ref (ad 25)])) = wM G ad (sV V 4 x) M t := rfl
theorem wMp0_20 (x : Int32) : (wM G ad V M t).set 0 (ad 0, .inr (13, [.ref (ad 1), .ref (ad 2), .ref (ad 3), .ref (ad 4), .ref (ad 5), .int (V 0), .int (V 1), .ref (ad 6), .ref (ad 7), .ref (ad 8), .ref (ad 9), .ref (ad 10), .ref (ad 11), .ref (ad 12), .int (V 2), .ref (ad 13), .int (V 3), .long t, .int (V 4), .ref (ad 14), .int x, .ref (ad 15), .ref (ad 16), .ref (ad 17), .ref (ad 18), .ref (ad 19), .int (V 6), .ref (ad 20), .int (V 7), .int (V 8), .ref (ad 21), .ref (ad 22), .ref (ad 23), .ref (ad 24), .int (V 9), .int (V 10), .ref (ad 25)])) = wM G ad (sV V 5 x) M t := rfl
theorem wMp0_26 (x : Int32) : (wM G ad V M t).set 0 (ad 0, .inr (13, [.ref (ad 1), .ref (ad 2), .ref (ad 3), .ref (ad 4), .ref (ad 5), .int (V 0), .int (V 1), .ref (ad 6), .ref (ad 7), .ref (ad 8), .ref (ad 9), .ref (ad 10), .ref (ad 11), .ref (ad 12), .int (V 2), .ref (ad 13), .int (V 3), .long t, .int (V 4), .ref (ad 14), .int (V 5), .ref (ad 15), .ref (ad 16), .ref (ad 17), .ref (ad 18), .ref (ad 19), .int x, .ref (ad 20), .int (V 7), .int (V 8), .ref (ad 21), .ref (ad 22), .ref (ad 23), .ref (ad 24), .int (V 9), .int (V 10), .ref (ad 25)])) = wM G ad (sV V 6 x) M t := rfl
theorem wMp0_28 (x : Int32) : (wM G ad V M t).set 0 (ad 0, .inr (13, [.ref (ad 1), .ref (ad 2), .ref (ad 3), .ref (ad 4), .ref (ad 5), .int (V 0), .int (V 1), .ref (ad 6), .ref (ad 7), .ref (ad 8), .ref (ad 9), .ref (ad 10), .ref (ad 11), .ref (ad 12), .int (V 2), .ref (ad 13), .int (V 3), .long t, .int (V 4), .ref (ad 14), .int (V 5), .ref (ad 15), .ref (ad 16), .ref (ad 17), .ref (ad 18), .ref (ad 19), .int (V 6), .ref (ad 20), .int x, .int (V 8), .ref (ad 21), .ref (ad 22), .ref (ad 23), .ref (ad 24), .int (V 9), .int (V 10), .ref (ad 25)])) = wM G ad (sV V 7 x) M t := rfl
theorem wMp0_29 (x : Int32) : (wM G ad V M t).set 0 (ad 0, .inr (13, [.ref (ad 1), .ref (ad 2), .ref (ad 3), .ref (ad 4), .ref (ad 5), .int (V 0), .int (V 1), .ref (ad 6), .ref (ad 7), .ref (ad 8), .ref (ad 9), .ref (ad 10), .ref (ad 11), .ref (ad 12), .int (V 2), .ref (ad 13), .int (V 3), .long t, .int (V 4), .ref (ad 14), .int (V 5), .ref (ad 15), .ref (ad 16), .ref (ad 17), .ref (ad 18), .ref (ad 19), .int (V 6), .ref (ad 20), .int (V 7), .int x, .ref (ad 21), .ref (ad 22), .ref (ad 23), .ref (ad 24), .int (V 9), .int (V 10), .ref (ad 25)])) = wM G ad (sV V 8 x) M t := rfl
theorem wMp0_34 (x : Int32) : (wM G ad V M t).set 0 (ad 0, .inr (13, [.ref (ad 1), .ref (ad 2), .ref (ad 3), .ref (ad 4), .ref (ad 5), .int (V 0), .int (V 1), .ref (ad 6), .ref (ad 7), .ref (ad 8), .ref (ad 9), .ref (ad 10), .ref (ad 11), .ref (ad 12), .int (V 2), .ref (ad 13), .int (V 3), .long t, .int (V 4), .ref (ad 14), .int (V 5), .ref (ad 15), .ref (ad 16), .ref (ad 17), .ref (ad 18), .ref (ad 19), .int (V 6), .ref (ad 20), .int (V 7), .int (V 8), .ref (ad 21), .ref (ad 22), .ref (ad 23), .ref (ad 24), .int x, .int (V 10), .ref (ad 25)])) = wM G ad (sV V 9 x) M t := rfl
theorem wMp0_35 (x : Int32) : (wM G ad V M t).set 0 (ad 0, .inr (13, [.ref (ad 1), .ref (ad 2), .ref (ad 3), .ref (ad 4), .ref (ad 5), .int (V 0), .int (V 1), .ref (ad 6), .ref (ad 7), .ref (ad 8), .ref (ad 9), .ref (ad 10), .ref (ad 11), .ref (ad 12), .int (V 2), .ref (ad 13), .int (V 3), .long t, .int (V 4), .ref (ad 14), .int (V 5), .ref (ad 15), .ref (ad 16), .ref (ad 17), .ref (ad 18), .ref (ad 19), .int (V 6), .ref (ad 20), .int (V 7), .int (V 8), .ref (ad 21), .ref (ad 22), .ref (ad 23), .ref (ad 24), .int (V 9), .int x, .ref (ad 25)])) = wM G ad (sV V 10 x) M t := rfl
theorem wMg1 : (wM G ad V M t)[1]? = some (ad 1, .inl (G.2.2 0, 60, .inl (M 1))) := rfl
theorem wMp1 (f : Nat → Int32) : (wM G ad V M t).set 1 (ad 1, .inl (G.2.2 0, 60, .inl f)) = wM G ad V (sM M 1 f) t := rfl
theorem wMo1 (f g : Nat → Int32) : (wM G ad V (sM M 1 g) t).set 1 (ad 1, .inl (G.2.2 0, 60, .inl f)) = wM G ad V (sM M 1 f) t := (show (wM G ad V (sM M 1 g) t).set 1 (ad 1, .inl (G.2.2 0, 60, .inl f)) = wM G ad V (sM (sM M 1 g) 1 f) t from rfl).trans (by rw [sM_sM])
theorem wMg2 : (wM G ad V M t)[2]? = some (ad 2, .inl (G.2.2 0, 60, .inl (M 2))) := rfl
theorem wMp2 (f : Nat → Int32) : (wM G ad V M t).set 2 (ad 2, .inl (G.2.2 0, 60, .inl f)) = wM G ad V (sM M 2 f) t := rfl
theorem wMo2 (f g : Nat → Int32) : (wM G ad V (sM M 2 g) t).set 2 (ad 2, .inl (G.2.2 0, 60, .inl f)) = wM G ad V (sM M 2 f) t := (show (wM G ad V (sM M 2 g) t).set 2 (ad 2, .inl (G.2.2 0, 60, .inl f)) = wM G ad V (sM (sM M 2 g) 2 f) t from rfl).trans (by rw [sM_sM])
theorem wMg3 : (wM G ad V M t)[3]? = some (ad 3, .inl (G.2.2 0, 60, .inl (M 3))) := rfl
theorem wMp3 (f : Nat → Int32) : (wM G ad V M t).set 3 (ad 3, .inl (G.2.2 0, 60, .inl f)) = wM G ad V (sM M 3 f) t := rfl
theorem wMo3 (f g : Nat → Int32) : (wM G ad V (sM M 3 g) t).set 3 (ad 3, .inl (G.2.2 0, 60, .inl f)) = wM G ad V (sM M 3 f) t := (show (wM G ad V (sM M 3 g) t).set 3 (ad 3, .inl (G.2.2 0, 60, .inl f)) = wM G ad V (sM (sM M 3 g) 3 f) t from rfl).trans (by rw [sM_sM])
theorem wMg4 : (wM G ad V M t)[4]? = some (ad 4, .inl (G.2.2 0, 60, .inl (M 4))) := rfl
theorem wMp4 (f : Nat → Int32) : (wM G ad V M t).set 4 (ad 4, .inl (G.2.2 0, 60, .inl f)) = wM G ad V (sM M 4 f) t := rfl
theorem wMo4 (f g : Nat → Int32) : (wM G ad V (sM M 4 g) t).set 4 (ad 4, .inl (G.2.2 0, 60, .inl f)) = wM G ad V (sM M 4 f) t := (show (wM G ad V (sM M 4 g) t).set 4 (ad 4, .inl (G.2.2 0, 60, .inl f)) = wM G ad V (sM (sM M 4 g) 4 f) t from rfl).trans (by rw [sM_sM])
theorem wMg5 : (wM G ad V M t)[5]? = some (ad 5, .inl (G.2.2 1, 60, .inl (M 5))) := rfl
theorem wMp5 (f : Nat → Int32) : (wM G ad V M t).set 5 (ad 5, .inl (G.2.2 1, 60, .inl f)) = wM G ad V (sM M 5 f) t := rfl
theorem wMo5 (f g : Nat → Int32) : (wM G ad V (sM M 5 g) t).set 5 (ad 5, .inl (G.2.2 1, 60, .inl f)) = wM G ad V (sM M 5 f) t := (show (wM G ad V (sM M 5 g) t).set 5 (ad 5, .inl (G.2.2 1, 60, .inl f)) = wM G ad V (sM (sM M 5 g) 5 f) t from rfl).trans (by rw [sM_sM])
theorem wMg6 : (wM G ad V M t)[6]? = some (ad 6, .inl (G.2.2 1, 6, .inl (M 6))) := rfl
theorem wMp6 (f : Nat → Int32) : (wM G ad V M t).set 6 (ad 6, .inl (G.2.2 1, 6, .inl f)) = wM G ad V (sM M 6 f) t := rfl
theorem wMo6 (f g : Nat → Int32) : (wM G ad V (sM M 6 g) t).set 6 (ad 6, .inl (G.2.2 1, 6, .inl f)) = wM G ad V (sM M 6 f) t := (show (wM G ad V (sM M 6 g) t).set 6 (ad 6, .inl (G.2.2 1, 6, .inl f)) = wM G ad V (sM (sM M 6 g) 6 f) t from rfl).trans (by rw [sM_sM])
theorem wMg7 : (wM G ad V M t)[7]? = some (ad 7, .inl (G.2.2 0, 6, .inl (M 7))) := rfl
theorem wMp7 (f : Nat → Int32) : (wM G ad V M t).set 7 (ad 7, .inl (G.2.2 0, 6, .inl f)) = wM G ad V (sM M 7 f) t := rfl
theorem wMo7 (f g : Nat → Int32) : (wM G ad V (sM M 7 g) t).set 7 (ad 7, .inl (G.2.2 0, 6, .inl f)) = wM G ad V (sM M 7 f) t := (show (wM G ad V (sM M 7 g) t).set 7 (ad 7, .inl (G.2.2 0, 6, .inl f)) = wM G ad V (sM (sM M 7 g) 7 f) t from rfl).trans (by rw [sM_sM])
theorem wMg8 : (wM G ad V M t)[8]? = some (ad 8, .inl (G.2.2 0, 6, .inl (M 8))) := rfl
theorem wMp8 (f : Nat → Int32) : (wM G ad V M t).set 8 (ad 8, .inl (G.2.2 0, 6, .inl f)) = wM G ad V (sM M 8 f) t := rfl
theorem wMo8 (f g : Nat → Int32) : (wM G ad V (sM M 8 g) t).set 8 (ad 8, .inl (G.2.2 0, 6, .inl f)) = wM G ad V (sM M 8 f) t := (show (wM G ad V (sM M 8 g) t).set 8 (ad 8, .inl (G.2.2 0, 6, .inl f)) = wM G ad V (sM (sM M 8 g) 8 f) t from rfl).trans (by rw [sM_sM])
theorem wMg9 : (wM G ad V M t)[9]? = some (ad 9, .inl (G.2.2 0, 6, .inl (M 9))) := rfl
theorem wMp9 (f : Nat → Int32) : (wM G ad V M t).set 9 (ad 9, .inl (G.2.2 0, 6, .inl f)) = wM G ad V (sM M 9 f) t := rfl
theorem wMo9 (f g : Nat → Int32) : (wM G ad V (sM M 9 g) t).set 9 (ad 9, .inl (G.2.2 0, 6, .inl f)) = wM G ad V (sM M 9 f) t := (show (wM G ad V (sM M 9 g) t).set 9 (ad 9, .inl (G.2.2 0, 6, .inl f)) = wM G ad V (sM (sM M 9 g) 9 f) t from rfl).trans (by rw [sM_sM])
theorem wMg10 : (wM G ad V M t)[10]? = some (ad 10, .inl (G.2.2 0, 6, .inl (M 10))) := rfl
theorem wMp10 (f : Nat → Int32) : (wM G ad V M t).set 10 (ad 10, .inl (G.2.2 0, 6, .inl f)) = wM G ad V (sM M 10 f) t := rfl
theorem wMo10 (f g : Nat → Int32) : (wM G ad V (sM M 10 g) t).set 10 (ad 10, .inl (G.2.2 0, 6, .inl f)) = wM G ad V (sM M 10 f) t := (show (wM G ad V (sM M 10 g) t).set 10 (ad 10, .inl (G.2.2 0, 6, .inl f)) = wM G ad V (sM (sM M 10 g) 10 f) t from rfl).trans (by rw [sM_sM])
theorem wMg11 : (wM G ad V M t)[11]? = some (ad 11, .inl (G.2.2 0, 6, .inl (M 11))) := rfl
theorem wMp11 (f : Nat → Int32) : (wM G ad V M t).set 11 (ad 11, .inl (G.2.2 0, 6, .inl f)) = wM G ad V (sM M 11 f) t := rfl
theorem wMo11 (f g : Nat → Int32) : (wM G ad V (sM M 11 g) t).set 11 (ad 11, .inl (G.2.2 0, 6, .inl f)) = wM G ad V (sM M 11 f) t := (show (wM G ad V (sM M 11 g) t).set 11 (ad 11, .inl (G.2.2 0, 6, .inl f)) = wM G ad V (sM (sM M 11 g) 11 f) t from rfl).trans (by rw [sM_sM])
theorem wMg12 : (wM G ad V M t)[12]? = some (ad 12, .inl (G.2.2 0, 6, .inl (M 12))) := rfl
theorem wMp12 (f : Nat → Int32) : (wM G ad V M t).set 12 (ad 12, .inl (G.2.2 0, 6, .inl f)) = wM G ad V (sM M 12 f) t := rfl
theorem wMo12 (f g : Nat → Int32) : (wM G ad V (sM M 12 g) t).set 12 (ad 12, .inl (G.2.2 0, 6, .inl f)) = wM G ad V (sM M 12 f) t := (show (wM G ad V (sM M 12 g) t).set 12 (ad 12, .inl (G.2.2 0, 6, .inl f)) = wM G ad V (sM (sM M 12 g) 12 f) t from rfl).trans (by rw [sM_sM])
theorem wMg13 : (wM G ad V M t)[13]? = some (ad 13, .inl (G.2.2 4, 4, .inr (.inr (.inr (.inr fun i => if i < 4 then some (ad (i + 26)) else none))))) := rfl
theorem wMg14 : (wM G ad V M t)[14]? = some (ad 14, .inl (G.2.2 0, 7, .inl (M 14))) := rfl
theorem wMp14 (f : Nat → Int32) : (wM G ad V M t).set 14 (ad 14, .inl (G.2.2 0, 7, .inl f)) = wM G ad V (sM M 14 f) t := rfl
theorem wMo14 (f g : Nat → Int32) : (wM G ad V (sM M 14 g) t).set 14 (ad 14, .inl (G.2.2 0, 7, .inl f)) = wM G ad V (sM M 14 f) t := (show (wM G ad V (sM M 14 g) t).set 14 (ad 14, .inl (G.2.2 0, 7, .inl f)) = wM G ad V (sM (sM M 14 g) 14 f) t from rfl).trans (by rw [sM_sM])
theorem wMg15 : (wM G ad V M t)[15]? = some (ad 15, .inl (G.2.2 0, 7, .inl (M 15))) := rfl
theorem wMp15 (f : Nat → Int32) : (wM G ad V M t).set 15 (ad 15, .inl (G.2.2 0, 7, .inl f)) = wM G ad V (sM M 15 f) t := rfl
theorem wMo15 (f g : Nat → Int32) : (wM G ad V (sM M 15 g) t).set 15 (ad 15, .inl (G.2.2 0, 7, .inl f)) = wM G ad V (sM M 15 f) t := (show (wM G ad V (sM M 15 g) t).set 15 (ad 15, .inl (G.2.2 0, 7, .inl f)) = wM G ad V (sM (sM M 15 g) 15 f) t from rfl).trans (by rw [sM_sM])
theorem wMg16 : (wM G ad V M t)[16]? = some (ad 16, .inl (G.2.2 0, 6, .inl (M 16))) := rfl
theorem wMp16 (f : Nat → Int32) : (wM G ad V M t).set 16 (ad 16, .inl (G.2.2 0, 6, .inl f)) = wM G ad V (sM M 16 f) t := rfl
theorem wMo16 (f g : Nat → Int32) : (wM G ad V (sM M 16 g) t).set 16 (ad 16, .inl (G.2.2 0, 6, .inl f)) = wM G ad V (sM M 16 f) t := (show (wM G ad V (sM M 16 g) t).set 16 (ad 16, .inl (G.2.2 0, 6, .inl f)) = wM G ad V (sM (sM M 16 g) 16 f) t from rfl).trans (by rw [sM_sM])
theorem wMg17 : (wM G ad V M t)[17]? = some (ad 17, .inl (G.2.2 0, 4, .inl (M 17))) := rfl
theorem wMp17 (f : Nat → Int32) : (wM G ad V M t).set 17 (ad 17, .inl (G.2.2 0, 4, .inl f)) = wM G ad V (sM M 17 f) t := rfl
theorem wMo17 (f g : Nat → Int32) : (wM G ad V (sM M 17 g) t).set 17 (ad 17, .inl (G.2.2 0, 4, .inl f)) = wM G ad V (sM M 17 f) t := (show (wM G ad V (sM M 17 g) t).set 17 (ad 17, .inl (G.2.2 0, 4, .inl f)) = wM G ad V (sM (sM M 17 g) 17 f) t from rfl).trans (by rw [sM_sM])
theorem wMg18 : (wM G ad V M t)[18]? = some (ad 18, .inl (G.2.2 0, 7, .inl (M 18))) := rfl
theorem wMp18 (f : Nat → Int32) : (wM G ad V M t).set 18 (ad 18, .inl (G.2.2 0, 7, .inl f)) = wM G ad V (sM M 18 f) t := rfl
theorem wMo18 (f g : Nat → Int32) : (wM G ad V (sM M 18 g) t).set 18 (ad 18, .inl (G.2.2 0, 7, .inl f)) = wM G ad V (sM M 18 f) t := (show (wM G ad V (sM M 18 g) t).set 18 (ad 18, .inl (G.2.2 0, 7, .inl f)) = wM G ad V (sM (sM M 18 g) 18 f) t from rfl).trans (by rw [sM_sM])
theorem wMg19 : (wM G ad V M t)[19]? = some (ad 19, .inl (G.2.2 0, 7, .inl (M 19))) := rfl
theorem wMp19 (f : Nat → Int32) : (wM G ad V M t).set 19 (ad 19, .inl (G.2.2 0, 7, .inl f)) = wM G ad V (sM M 19 f) t := rfl
theorem wMo19 (f g : Nat → Int32) : (wM G ad V (sM M 19 g) t).set 19 (ad 19, .inl (G.2.2 0, 7, .inl f)) = wM G ad V (sM M 19 f) t := (show (wM G ad V (sM M 19 g) t).set 19 (ad 19, .inl (G.2.2 0, 7, .inl f)) = wM G ad V (sM (sM M 19 g) 19 f) t from rfl).trans (by rw [sM_sM])
theorem wMg20 : (wM G ad V M t)[20]? = some (ad 20, .inl (G.2.2 0, 8, .inl (M 20))) := rfl
theorem wMp20 (f : Nat → Int32) : (wM G ad V M t).set 20 (ad 20, .inl (G.2.2 0, 8, .inl f)) = wM G ad V (sM M 20 f) t := rfl
theorem wMo20 (f g : Nat → Int32) : (wM G ad V (sM M 20 g) t).set 20 (ad 20, .inl (G.2.2 0, 8, .inl f)) = wM G ad V (sM M 20 f) t := (show (wM G ad V (sM M 20 g) t).set 20 (ad 20, .inl (G.2.2 0, 8, .inl f)) = wM G ad V (sM (sM M 20 g) 20 f) t from rfl).trans (by rw [sM_sM])
theorem wMg21 : (wM G ad V M t)[21]? = some (ad 21, .inl (G.2.2 0, 7, .inl (M 21))) := rfl
theorem wMp21 (f : Nat → Int32) : (wM G ad V M t).set 21 (ad 21, .inl (G.2.2 0, 7, .inl f)) = wM G ad V (sM M 21 f) t := rfl
theorem wMo21 (f g : Nat → Int32) : (wM G ad V (sM M 21 g) t).set 21 (ad 21, .inl (G.2.2 0, 7, .inl f)) = wM G ad V (sM M 21 f) t := (show (wM G ad V (sM M 21 g) t).set 21 (ad 21, .inl (G.2.2 0, 7, .inl f)) = wM G ad V (sM (sM M 21 g) 21 f) t from rfl).trans (by rw [sM_sM])
theorem wMg22 : (wM G ad V M t)[22]? = some (ad 22, .inl (G.2.2 0, 6, .inl (M 22))) := rfl
theorem wMp22 (f : Nat → Int32) : (wM G ad V M t).set 22 (ad 22, .inl (G.2.2 0, 6, .inl f)) = wM G ad V (sM M 22 f) t := rfl
theorem wMo22 (f g : Nat → Int32) : (wM G ad V (sM M 22 g) t).set 22 (ad 22, .inl (G.2.2 0, 6, .inl f)) = wM G ad V (sM M 22 f) t := (show (wM G ad V (sM M 22 g) t).set 22 (ad 22, .inl (G.2.2 0, 6, .inl f)) = wM G ad V (sM (sM M 22 g) 22 f) t from rfl).trans (by rw [sM_sM])
theorem wMg23 : (wM G ad V M t)[23]? = some (ad 23, .inl (G.2.2 0, 7, .inl (M 23))) := rfl
theorem wMp23 (f : Nat → Int32) : (wM G ad V M t).set 23 (ad 23, .inl (G.2.2 0, 7, .inl f)) = wM G ad V (sM M 23 f) t := rfl
theorem wMo23 (f g : Nat → Int32) : (wM G ad V (sM M 23 g) t).set 23 (ad 23, .inl (G.2.2 0, 7, .inl f)) = wM G ad V (sM M 23 f) t := (show (wM G ad V (sM M 23 g) t).set 23 (ad 23, .inl (G.2.2 0, 7, .inl f)) = wM G ad V (sM (sM M 23 g) 23 f) t from rfl).trans (by rw [sM_sM])
theorem wMg24 : (wM G ad V M t)[24]? = some (ad 24, .inl (G.2.2 0, 7, .inl (M 24))) := rfl
theorem wMp24 (f : Nat → Int32) : (wM G ad V M t).set 24 (ad 24, .inl (G.2.2 0, 7, .inl f)) = wM G ad V (sM M 24 f) t := rfl
theorem wMo24 (f g : Nat → Int32) : (wM G ad V (sM M 24 g) t).set 24 (ad 24, .inl (G.2.2 0, 7, .inl f)) = wM G ad V (sM M 24 f) t := (show (wM G ad V (sM M 24 g) t).set 24 (ad 24, .inl (G.2.2 0, 7, .inl f)) = wM G ad V (sM (sM M 24 g) 24 f) t from rfl).trans (by rw [sM_sM])
theorem wMg25 : (wM G ad V M t)[25]? = some (ad 25, .inl (G.2.2 2, 6, .inl (M 25))) := rfl
theorem wMp25 (f : Nat → Int32) : (wM G ad V M t).set 25 (ad 25, .inl (G.2.2 2, 6, .inl f)) = wM G ad V (sM M 25 f) t := rfl
theorem wMo25 (f g : Nat → Int32) : (wM G ad V (sM M 25 g) t).set 25 (ad 25, .inl (G.2.2 2, 6, .inl f)) = wM G ad V (sM M 25 f) t := (show (wM G ad V (sM M 25 g) t).set 25 (ad 25, .inl (G.2.2 2, 6, .inl f)) = wM G ad V (sM (sM M 25 g) 25 f) t from rfl).trans (by rw [sM_sM])
theorem wMg26 : (wM G ad V M t)[26]? = some (ad 26, .inl (G.2.2 0, 6, .inl (M 26))) := rfl
theorem wMp26 (f : Nat → Int32) : (wM G ad V M t).set 26 (ad 26, .inl (G.2.2 0, 6, .inl f)) = wM G ad V (sM M 26 f) t := rfl
theorem wMo26 (f g : Nat → Int32) : (wM G ad V (sM M 26 g) t).set 26 (ad 26, .inl (G.2.2 0, 6, .inl f)) = wM G ad V (sM M 26 f) t := (show (wM G ad V (sM M 26 g) t).set 26 (ad 26, .inl (G.2.2 0, 6, .inl f)) = wM G ad V (sM (sM M 26 g) 26 f) t from rfl).trans (by rw [sM_sM])
theorem wMg27 : (wM G ad V M t)[27]? = some (ad 27, .inl (G.2.2 0, 6, .inl (M 27))) := rfl
theorem wMp27 (f : Nat → Int32) : (wM G ad V M t).set 27 (ad 27, .inl (G.2.2 0, 6, .inl f)) = wM G ad V (sM M 27 f) t := rfl
theorem wMo27 (f g : Nat → Int32) : (wM G ad V (sM M 27 g) t).set 27 (ad 27, .inl (G.2.2 0, 6, .inl f)) = wM G ad V (sM M 27 f) t := (show (wM G ad V (sM M 27 g) t).set 27 (ad 27, .inl (G.2.2 0, 6, .inl f)) = wM G ad V (sM (sM M 27 g) 27 f) t from rfl).trans (by rw [sM_sM])
theorem wMg28 : (wM G ad V M t)[28]? = some (ad 28, .inl (G.2.2 0, 6, .inl (M 28))) := rfl
theorem wMp28 (f : Nat → Int32) : (wM G ad V M t).set 28 (ad 28, .inl (G.2.2 0, 6, .inl f)) = wM G ad V (sM M 28 f) t := rfl
theorem wMo28 (f g : Nat → Int32) : (wM G ad V (sM M 28 g) t).set 28 (ad 28, .inl (G.2.2 0, 6, .inl f)) = wM G ad V (sM M 28 f) t := (show (wM G ad V (sM M 28 g) t).set 28 (ad 28, .inl (G.2.2 0, 6, .inl f)) = wM G ad V (sM (sM M 28 g) 28 f) t from rfl).trans (by rw [sM_sM])
theorem wMg29 : (wM G ad V M t)[29]? = some (ad 29, .inl (G.2.2 0, 6, .inl (M 29))) := rfl
theorem wMp29 (f : Nat → Int32) : (wM G ad V M t).set 29 (ad 29, .inl (G.2.2 0, 6, .inl f)) = wM G ad V (sM M 29 f) t := rfl
theorem wMo29 (f g : Nat → Int32) : (wM G ad V (sM M 29 g) t).set 29 (ad 29, .inl (G.2.2 0, 6, .inl f)) = wM G ad V (sM M 29 f) t := (show (wM G ad V (sM M 29 g) t).set 29 (ad 29, .inl (G.2.2 0, 6, .inl f)) = wM G ad V (sM (sM M 29 g) 29 f) t from rfl).trans (by rw [sM_sM])
end WM
/-- what the model's indices keep to: n items, o offers, customer c -/
def mI (n o c : Nat) (V : Nat → Int32) (M : Nat → Nat → Int32) : Prop := V 5 = nI n ∧ n ≤ 7 ∧ V 2 = nI o ∧ o ≤ 6 ∧ V 1 = nI c ∧ c < 4 ∧ (∀ k, k < n → vp_in (M 14 k) 60) ∧ (∀ j, j < o → M 12 j = -1 ∨ vp_in (M 12 j) 4)
theorem rdc {f : Nat → Int32} {i : Nat} (h : i < 2 ^ 31) : f (nI i).toNatClampNeg = f i := by rw [nI_clamp h]
theorem wMgU {G : jG} {ad : Nat → Nat} {V : Nat → Int32} {M : Nat → Nat → Int32} {t : Int64} {c : Nat} (hc : c < 4) : (wM G ad V M t)[c + 26]? = some (ad (c + 26), .inl (G.2.2 0, 6, .inl (M (c + 26)))) := by
  rcases (show c = 0 ∨ c = 1 ∨ c = 2 ∨ c = 3 by omega) with rfl | rfl | rfl | rfl <;> rfl
def cb (f : Nat → Int32) : Nat → Nat
  | 0 => 0
  | i + 1 => if f i = 98 then cb f i + 1 else cb f i
theorem cb_mono (f : Nat → Int32) {i j : Nat} (h : i ≤ j) : cb f i ≤ cb f j := by
  induction j with
  | zero => rw [show i = 0 by omega]; exact Nat.le_refl _
  | succ j ih =>
    by_cases e : i = j + 1
    · rw [e]; exact Nat.le_refl _
    · have h1 := ih (by omega)
      rw [cb]
      split
      · omega
      · exact h1
theorem cb_lt {f : Nat → Int32} {i a : Nat} (h : f i = 98) (hi : i < a) : cb f i < cb f a := by
  have h1 := cb_mono f (show i + 1 ≤ a by omega)
  rw [cb, if_pos h] at h1
  omega
theorem cb_le (f : Nat → Int32) : ∀ i, cb f i ≤ i
  | 0 => Nat.le_refl _
  | i + 1 => by
    have := cb_le f i
    rw [cb]
    split <;> omega
theorem cb_upd (f : Nat → Int32) {j : Nat} {x : Int32} (hx : ¬ x = 98) : ∀ a, cb (upd f j x) a ≤ cb f a
  | 0 => Nat.le_refl _
  | a + 1 => by
    have h1 := cb_upd f (j := j) hx a
    rw [cb, cb]
    by_cases e : a = j
    · rw [e] at h1 ⊢
      rw [if_neg (by unfold upd; simpa using hx)]
      split <;> omega
    · rw [show upd f j x a = f a by unfold upd; simp [e]]
      split <;> omega
def lkA (f b : Nat → Int32) (i : Nat) : Nat → Int32 := itr (fun i b => if f i = 98 then upd b (cb f i) (nI i) else b) i b
theorem lkA_s (f b : Nat → Int32) (i : Nat) : lkA f b (i + 1) = if f i = 98 then upd (lkA f b i) (cb f i) (nI i) else lkA f b i := rfl
theorem lkA_in {f b : Nat → Int32} : ∀ {i k : Nat}, i ≤ 60 → k < cb f i → vp_in (lkA f b i k) 60
  | 0, k, _, h => absurd h (Nat.not_lt_zero _)
  | i + 1, k, hi, h => by
    rw [lkA_s]
    rw [cb] at h
    split at h
    · rename_i e
      rw [if_pos e]
      unfold upd
      by_cases e2 : k = cb f i
      · rw [if_pos (by first | exact e2 | exact beq_iff_eq.mpr e2)]
        exact nI_in (by omega) (by decide)
      · rw [if_neg (by first | exact e2 | exact fun z => e2 (beq_iff_eq.mp z))]
        exact lkA_in (by omega) (by omega)
    · rename_i e
      rw [if_neg e]
      exact lkA_in (by omega) h
set_option maxHeartbeats 4000000 in
set_option maxRecDepth 100000 in
theorem c_X12_in (G : jG) {w : va_W} {v lo hi : Int32} : jD G 0 yX12_in wsX12_in [.int v, .int lo, .int hi] w (some (.int (withinV v lo hi))) w := by
  refine jC.of (maxL := 3) (cc := cX12_in) (ret := (some .boolean)) rfl (by decide) [some (.int v), some (.int lo), some (.int hi)] rfl (Nat.le_of_ble_eq_true rfl) (j_args rfl) (fun X hX => ?_)
  refine j_iload_n hX dX12_in_0 rfl ?_
  refine j_iload_n hX dX12_in_1 rfl ?_
  refine j_icmp_lt hX (tgt := 14) dX12_in_2 (by decide) (fun h2 => ?_) (fun h2 => ?_)
  · refine j_iconst hX (v := 0) (by decide) dX12_in_14 ?_
    exact j_zret hX (by decide) dX12_in_15 ⟨congrArg (fun z => some (Value.int z)) (show 0 = withinV v lo hi by simp only [withinV, if_pos h2]), rfl⟩
  · refine j_iload_n hX dX12_in_5 rfl ?_
    refine j_iload_n hX dX12_in_6 rfl ?_
    refine j_icmp_gt hX (tgt := 14) dX12_in_7 (by decide) (fun h7 => ?_) (fun h7 => ?_)
    · refine j_iconst hX (v := 0) (by decide) dX12_in_14 ?_
      exact j_zret hX (by decide) dX12_in_15 ⟨congrArg (fun z => some (Value.int z)) (show 0 = withinV v lo hi by simp only [withinV, if_neg h2, if_pos h7]), rfl⟩
    · refine j_iconst hX (v := 1) (by decide) dX12_in_10 ?_
      refine j_goto hX (tgt := 15) dX12_in_11 (by decide) ?_
      exact j_zret hX (by decide) dX12_in_15 ⟨congrArg (fun z => some (Value.int z)) (show 1 = withinV v lo hi by simp only [withinV, if_neg h2, if_neg h7]), rfl⟩

set_option maxHeartbeats 4000000 in
set_option maxRecDepth 100000 in
theorem c_X12_looks (G : jG) (ad : Nat → Nat) (V : Nat → Int32) (M : Nat → Nat → Int32) (t : Int64) (a : Nat) (ha : V 0 = nI a) (ha6 : a ≤ 60) (hcb : cb (M 5) a ≤ 7) : jD G 0 yX12_looks wsX12_looks [.ref (ad 0)] (wM G ad V M t) none (wM G ad (sV V 5 (nI (cb (M 5) a))) (sM M 14 (lkA (M 5) (M 14) a)) t) := by
  refine jC.of (maxL := 2) (cc := cX12_looks) (ret := none) rfl (by decide) [some (.ref (ad 0)), none] rfl (Nat.le_of_ble_eq_true rfl) (j_args rfl) (fun X hX => ?_)
  refine j_aload_n hX dX12_looks_0 rfl ?_
  refine j_iconst hX (v := 0) (by decide) dX12_looks_1 ?_
  refine j_putf hX (ws' := (wM G ad (sV V 5 0) M t)) dX12_looks_2 fX12_looks_93 0 (wMg0 _ _ _ _ _) (Nat.le_of_ble_eq_true rfl) rfl rfl (wMp0_20 _ _ _ _ _ _) ?_
  refine j_iconst hX (v := 0) (by decide) dX12_looks_5 ?_
  refine j_istore_n hX (ls' := [some (.ref (ad 0)), some (.int 0)]) dX12_looks_6 (Nat.le_of_ble_eq_true rfl) rfl rfl ?_
  have L7 : ∀ zi i : Nat, 0 ≤ i → i + zi = a → jW G X 0 0 7 [some (.ref (ad 0)), some (.int (nI i))] [] (wM G ad (sV V 5 (nI (cb (M 5) i))) (sM M 14 (lkA (M 5) (M 14) i)) t) := by
    intro zi
    induction zi with
    | zero =>
      intro i h0 hi
      have hin : i = a := by omega
      refine j_iload_n hX dX12_looks_7 rfl ?_
      refine j_aload_n hX dX12_looks_8 rfl ?_
      refine j_getf hX (v := .int (V 0)) dX12_looks_9 fX12_looks_96 0 (wMg0 _ _ _ _ _) rfl ?_
      refine jW.top ha ?_
      refine j_icmp_ge_t hX (tgt := 52) dX12_looks_12 (by decide) (by rw [hin]; exact nI_le (Nat.le_refl _) (by omega)) ?_
      exact j_vret hX dX12_looks_52 ⟨rfl, by rw [hin]⟩
    | succ zi ih =>
      intro i h0 hi
      have hin : i < a := by omega
      refine j_iload_n hX dX12_looks_7 rfl ?_
      refine j_aload_n hX dX12_looks_8 rfl ?_
      refine j_getf hX (v := .int (V 0)) dX12_looks_9 fX12_looks_96 0 (wMg0 _ _ _ _ _) rfl ?_
      refine jW.top ha ?_
      refine j_icmp_ge_f hX (tgt := 52) dX12_looks_12 (by decide) (nI_ge hin (by omega)) ?_
      refine j_aload_n hX dX12_looks_15 rfl ?_
      refine j_getf hX (v := .ref (ad 5)) dX12_looks_16 fX12_looks_22 0 (wMg0 _ _ _ _ _) rfl ?_
      refine j_iload_n hX dX12_looks_19 rfl ?_
      refine j_cald hX (v := (M 5) i) dX12_looks_20 5 (wMg5 _ _ _ _ _) (nI_in (by omega) (by decide)) (rdc (by omega)) ?_
      refine j_bipush hX (v := 98) (by decide) dX12_looks_21 ?_
      refine j_icmp_ne hX (tgt := 46) dX12_looks_23 (by decide) (fun h23 => ?_) (fun h23 => ?_)
      · refine j_iinc hX (v := nI (i + 1)) (ls' := [some (.ref (ad 0)), some (.int (nI (i + 1)))]) dX12_looks_46 rfl (j_inc1 _) rfl rfl ?_
        refine j_goto hX (tgt := 7) dX12_looks_49 (by decide) ?_
        refine jW.world (ws' := (wM G ad (sV V 5 (nI (cb (M 5) (i + 1)))) (sM M 14 (lkA (M 5) (M 14) (i + 1))) t)) (by rw [show cb (M 5) (i + 1) = (cb (M 5) i) by simp only [cb, if_neg h23], show lkA (M 5) (M 14) (i + 1) = lkA (M 5) (M 14) i by rw [lkA_s]; exact if_neg h23]) ?_
        exact ih (i + 1) (by omega) (by omega)
      · have hlt : cb (M 5) i < 7 := Nat.lt_of_lt_of_le (cb_lt h23 hin) hcb
        refine j_aload_n hX dX12_looks_26 rfl ?_
        refine j_getf hX (v := .ref (ad 14)) dX12_looks_27 fX12_looks_52 0 (wMg0 _ _ _ _ _) rfl ?_
        refine j_aload_n hX dX12_looks_30 rfl ?_
        refine j_getf hX (v := .int (nI (cb (M 5) i))) dX12_looks_31 fX12_looks_93 0 (wMg0 _ _ _ _ _) rfl ?_
        refine j_iload_n hX dX12_looks_34 rfl ?_
        refine j_iast hX (ws' := (wM G ad (sV V 5 (nI (cb (M 5) i))) (sM M 14 (upd (lkA (M 5) (M 14) i) (cb (M 5) i) (nI i))) t)) dX12_looks_35 14 (wMg14 _ _ _ _ _) (nI_in (by omega) (by decide)) (by rw [nI_clamp (by omega)]; exact (wMo14 _ _ _ _ _ _ _)) ?_
        refine j_aload_n hX dX12_looks_36 rfl ?_
        refine j_dup hX dX12_looks_37 rfl ?_
        refine j_getf hX (v := .int (nI (cb (M 5) i))) dX12_looks_38 fX12_looks_93 0 (wMg0 _ _ _ _ _) rfl ?_
        refine j_iconst hX (v := 1) (by decide) dX12_looks_41 ?_
        refine j_iadd hX dX12_looks_42 ?_
        refine jW.top (nI_1 _) ?_
        refine j_putf hX (ws' := (wM G ad (sV V 5 (nI (cb (M 5) i + 1))) (sM M 14 (upd (lkA (M 5) (M 14) i) (cb (M 5) i) (nI i))) t)) dX12_looks_43 fX12_looks_93 0 (wMg0 _ _ _ _ _) (Nat.le_of_ble_eq_true rfl) rfl rfl rfl ?_
        refine j_iinc hX (v := nI (i + 1)) (ls' := [some (.ref (ad 0)), some (.int (nI (i + 1)))]) dX12_looks_46 rfl (j_inc1 _) rfl rfl ?_
        refine j_goto hX (tgt := 7) dX12_looks_49 (by decide) ?_
        refine jW.world (ws' := (wM G ad (sV V 5 (nI (cb (M 5) (i + 1)))) (sM M 14 (lkA (M 5) (M 14) (i + 1))) t)) (by rw [show cb (M 5) (i + 1) = (cb (M 5) i + 1) by simp only [cb, if_pos h23], show lkA (M 5) (M 14) (i + 1) = upd (lkA (M 5) (M 14) i) (cb (M 5) i) (nI i) by rw [lkA_s]; exact if_pos h23]) ?_
        exact ih (i + 1) (by omega) (by omega)
  refine jW.world (ws' := (wM G ad (sV V 5 (nI (cb (M 5) 0))) (sM M 14 (lkA (M 5) (M 14) 0)) t)) rfl ?_
  exact L7 a 0 (Nat.le_refl _) (by omega)

def ibM (a : Nat) (f : Nat → Int32) (x : Int32) : Int32 := if withinV x 0 (nI a - 1) = 0 then 0 else if f x.toNatClampNeg = 98 then 1 else 0
theorem sub1 {a : Nat} (h : 0 < a) : nI a - 1 = nI (a - 1) := by
  obtain ⟨b, rfl⟩ := Nat.exists_eq_add_of_le h
  rw [Nat.add_comm, Nat.succ_eq_add_one, Nat.zero_add, nI_pred, Nat.add_sub_cancel]
theorem within_nat {a : Nat} {x : Int32} (ha : a ≤ 60) (h : ¬ withinV x 0 (nI a - 1) = 0) : ∃ j, j < a ∧ x = nI j := by
  unfold withinV at h
  by_cases h1 : x < 0
  · rw [if_pos h1] at h; exact absurd rfl h
  · rw [if_neg h1] at h
    by_cases h2 : nI a - 1 < x
    · rw [if_pos h2] at h; exact absurd rfl h
    · obtain ⟨j, hj, rfl⟩ := nI_of h1
      by_cases h0 : a = 0
      · subst h0
        exact absurd (show nI 0 - 1 < nI j from Int32.lt_iff_toInt_lt.mpr (by rw [nI_toInt hj, show (nI 0 - 1 : Int32).toInt = -1 by decide +kernel]; omega)) h2
      · rw [sub1 (by omega), nI_ltI (by omega) hj] at h2
        exact ⟨j, by omega, rfl⟩
theorem within_in {a : Nat} {x : Int32} (ha : a ≤ 60) (h : ¬ withinV x 0 (nI a - 1) = 0) : vp_in x 60 := by
  obtain ⟨j, hj, rfl⟩ := within_nat ha h
  exact nI_in (by omega) (by decide)
theorem ib_in {a : Nat} {f : Nat → Int32} {x : Int32} (ha : a ≤ 60) (h : ¬ ibM a f x = 0) : vp_in x 60 := by
  refine within_in ha fun e => h ?_
  unfold ibM
  rw [if_pos e]
set_option maxHeartbeats 4000000 in
set_option maxRecDepth 100000 in
theorem c_X12_isInBasket (G : jG) (ad : Nat → Nat) (V : Nat → Int32) (M : Nat → Nat → Int32) (t : Int64) (a : Nat) (ha : V 0 = nI a) (ha6 : a ≤ 60) (x : Int32) : jD G 1 yX12_isInBasket wsX12_isInBasket [.ref (ad 0), .int x] (wM G ad V M t) (some (.int (ibM a (M 5) x))) (wM G ad V M t) := by
  refine jC.of (maxL := 2) (cc := cX12_isInBasket) (ret := (some .boolean)) rfl (by decide) [some (.ref (ad 0)), some (.int x)] rfl (Nat.le_of_ble_eq_true rfl) (j_args rfl) (fun X hX => ?_)
  refine j_iload_n hX dX12_isInBasket_0 rfl ?_
  refine j_iconst hX (v := 0) (by decide) dX12_isInBasket_1 ?_
  refine j_aload_n hX dX12_isInBasket_2 rfl ?_
  refine j_getf hX (v := .int (V 0)) dX12_isInBasket_3 fX12_isInBasket_96 0 (wMg0 _ _ _ _ _) rfl ?_
  refine jW.top ha ?_
  refine j_iconst hX (v := 1) (by decide) dX12_isInBasket_6 ?_
  refine j_isub hX dX12_isInBasket_7 ?_
  refine j_dS hX (nA := 3) (As := [.int x, .int 0, .int ((nI a) - 1)]) (st := []) (st' := [.int (withinV x 0 ((nI a) - 1))]) dX12_isInBasket_8 (c_X12_in G) gX12_isInBasket_X12_in rfl (by decide +kernel) (by decide) (Nat.le_of_ble_eq_true rfl) rfl (Nat.le_of_ble_eq_true rfl) rfl ⟨Nat.le_refl _, Nat.le_refl _⟩ rfl ?_
  refine j_if_eq hX (tgt := 29) dX12_isInBasket_11 (by decide) (fun h11 => ?_) (fun h11 => ?_)
  · refine j_iconst hX (v := 0) (by decide) dX12_isInBasket_29 ?_
    exact j_zret hX (by decide) dX12_isInBasket_30 ⟨congrArg (fun z => some (Value.int z)) (show 0 = ibM a (M 5) x by simp only [ibM, if_pos h11]), rfl⟩
  · refine j_aload_n hX dX12_isInBasket_14 rfl ?_
    refine j_getf hX (v := .ref (ad 5)) dX12_isInBasket_15 fX12_isInBasket_22 0 (wMg0 _ _ _ _ _) rfl ?_
    refine j_iload_n hX dX12_isInBasket_18 rfl ?_
    refine j_cald hX (v := (M 5) x.toNatClampNeg) dX12_isInBasket_19 5 (wMg5 _ _ _ _ _) (within_in ha6 h11) rfl ?_
    refine j_bipush hX (v := 98) (by decide) dX12_isInBasket_20 ?_
    refine j_icmp_ne hX (tgt := 29) dX12_isInBasket_22 (by decide) (fun h22 => ?_) (fun h22 => ?_)
    · refine j_iconst hX (v := 0) (by decide) dX12_isInBasket_29 ?_
      exact j_zret hX (by decide) dX12_isInBasket_30 ⟨congrArg (fun z => some (Value.int z)) (show 0 = ibM a (M 5) x by simp only [ibM, if_neg h11, if_neg h22]), rfl⟩
    · refine j_iconst hX (v := 1) (by decide) dX12_isInBasket_25 ?_
      refine j_goto hX (tgt := 30) dX12_isInBasket_26 (by decide) ?_
      exact j_zret hX (by decide) dX12_isInBasket_30 ⟨congrArg (fun z => some (Value.int z)) (show 1 = ibM a (M 5) x by simp only [ibM, if_neg h11, if_pos h22]), rfl⟩

def sumB (pr b : Nat → Int32) (i : Nat) : Int32 := itr (fun k s => s + pr (b k).toNatClampNeg) i 0
def sumN (M : Nat → Nat → Int32) (a : Nat) : Int32 := sumB (M 2) (lkA (M 5) (M 14) a) (cb (M 5) a)
set_option maxHeartbeats 4000000 in
set_option maxRecDepth 100000 in
theorem c_X12_sumNow (G : jG) (ad : Nat → Nat) (V : Nat → Int32) (M : Nat → Nat → Int32) (t : Int64) (a : Nat) (ha : V 0 = nI a) (ha6 : a ≤ 60) (hcb : cb (M 5) a ≤ 7) : jD G 1 yX12_sumNow wsX12_sumNow [.ref (ad 0)] (wM G ad V M t) (some (.int (sumN M a))) (wM G ad (sV V 5 (nI (cb (M 5) a))) (sM M 14 (lkA (M 5) (M 14) a)) t) := by
  refine jC.of (maxL := 3) (cc := cX12_sumNow) (ret := (some .int)) rfl (by decide) [some (.ref (ad 0)), none, none] rfl (Nat.le_of_ble_eq_true rfl) (j_args rfl) (fun X hX => ?_)
  refine j_aload_n hX dX12_sumNow_0 rfl ?_
  refine j_dV hX (nA := 0) (cq := (RX12, TX12, 37)) (As := []) (st := []) (st' := []) (ci := 13) rfl dX12_sumNow_1 (c_X12_looks G _ V M _ a ha ha6 hcb) gX12_sumNow_X12_looks rfl (by decide +kernel) (q := 0) (wMg0 _ _ _ _ _) (by decide) (Nat.le_of_ble_eq_true rfl) rfl (Nat.le_of_ble_eq_true rfl) rfl ⟨Nat.le_refl _, Nat.le_refl _⟩ rfl ?_
  refine j_iconst hX (v := 0) (by decide) dX12_sumNow_4 ?_
  refine j_istore_n hX (ls' := [some (.ref (ad 0)), some (.int 0), none]) dX12_sumNow_5 (Nat.le_of_ble_eq_true rfl) rfl rfl ?_
  refine j_iconst hX (v := 0) (by decide) dX12_sumNow_6 ?_
  refine j_istore_n hX (ls' := [some (.ref (ad 0)), some (.int 0), some (.int 0)]) dX12_sumNow_7 (Nat.le_of_ble_eq_true rfl) rfl rfl ?_
  have L8 : ∀ zi i : Nat, 0 ≤ i → i + zi = (cb (M 5) a) → jW G X 0 0 8 [some (.ref (ad 0)), some (.int (sumB (M 2) (lkA (M 5) (M 14) a) i)), some (.int (nI i))] [] (wM G ad (sV V 5 (nI (cb (M 5) a))) (sM M 14 (lkA (M 5) (M 14) a)) t) := by
    intro zi
    induction zi with
    | zero =>
      intro i h0 hi
      have hin : i = (cb (M 5) a) := by omega
      refine j_iload_n hX dX12_sumNow_8 rfl ?_
      refine j_aload_n hX dX12_sumNow_9 rfl ?_
      refine j_getf hX (v := .int (nI (cb (M 5) a))) dX12_sumNow_10 fX12_sumNow_93 0 (wMg0 _ _ _ _ _) rfl ?_
      refine j_icmp_ge_t hX (tgt := 36) dX12_sumNow_13 (by decide) (by rw [hin]; exact nI_le (Nat.le_refl _) (by omega)) ?_
      refine j_iload_n hX dX12_sumNow_36 rfl ?_
      exact j_iret hX dX12_sumNow_37 ⟨by rw [hin]; rfl, rfl⟩
    | succ zi ih =>
      intro i h0 hi
      have hin : i < (cb (M 5) a) := by omega
      refine j_iload_n hX dX12_sumNow_8 rfl ?_
      refine j_aload_n hX dX12_sumNow_9 rfl ?_
      refine j_getf hX (v := .int (nI (cb (M 5) a))) dX12_sumNow_10 fX12_sumNow_93 0 (wMg0 _ _ _ _ _) rfl ?_
      refine j_icmp_ge_f hX (tgt := 36) dX12_sumNow_13 (by decide) (nI_ge hin (by omega)) ?_
      refine j_iload_n hX dX12_sumNow_16 rfl ?_
      refine j_aload_n hX dX12_sumNow_17 rfl ?_
      refine j_getf hX (v := .ref (ad 2)) dX12_sumNow_18 fX12_sumNow_13 0 (wMg0 _ _ _ _ _) rfl ?_
      refine j_aload_n hX dX12_sumNow_21 rfl ?_
      refine j_getf hX (v := .ref (ad 14)) dX12_sumNow_22 fX12_sumNow_52 0 (wMg0 _ _ _ _ _) rfl ?_
      refine j_iload_n hX dX12_sumNow_25 rfl ?_
      refine j_iald hX (v := lkA (M 5) (M 14) a i) dX12_sumNow_26 14 (wMg14 _ _ _ _ _) (nI_in (by omega) (by decide)) (rdc (by omega)) ?_
      refine j_iald hX (v := (M 2) ((lkA (M 5) (M 14) a i).toNatClampNeg)) dX12_sumNow_27 2 (wMg2 _ _ _ _ _) (lkA_in ha6 (by omega)) rfl ?_
      refine j_iadd hX dX12_sumNow_28 ?_
      refine j_istore_n hX (ls' := [some (.ref (ad 0)), some (.int ((sumB (M 2) (lkA (M 5) (M 14) a) i) + ((M 2) ((lkA (M 5) (M 14) a i).toNatClampNeg)))), some (.int (nI i))]) dX12_sumNow_29 (Nat.le_of_ble_eq_true rfl) rfl rfl ?_
      refine j_iinc hX (v := nI (i + 1)) (ls' := [some (.ref (ad 0)), some (.int ((sumB (M 2) (lkA (M 5) (M 14) a) i) + ((M 2) ((lkA (M 5) (M 14) a i).toNatClampNeg)))), some (.int (nI (i + 1)))]) dX12_sumNow_30 rfl (j_inc1 _) rfl rfl ?_
      refine j_goto hX (tgt := 8) dX12_sumNow_33 (by decide) ?_
      exact ih (i + 1) (by omega) (by omega)
  exact L8 (cb (M 5) a) 0 (Nat.le_refl _) (by omega)

def mputT (a n : Nat) (kind price : Int32) : Int32 := if withinV kind 0 9 = 0 then 1 else if withinV price 1 9999 = 0 then 1 else if nI n = 7 then 2 else if nI a = 60 then 2 else 0
def mput (a : Nat) (V : Nat → Int32) (M : Nat → Nat → Int32) (kind price : Int32) : Int32 × VM :=
  if mputT a (cb (M 5) a) kind price = 0 then (nI a, (sV (sV (sV (sV V 5 (nI (cb (M 5) a))) 4 0) 0 (nI (a + 1))) 7 0, sM (sM (sM (sM M 14 (lkA (M 5) (M 14) a)) 1 (upd (M 1) a kind)) 2 (upd (M 2) a price)) 5 (upd (M 5) a 98)))
  else (0, (sV (sV V 5 (nI (cb (M 5) a))) 4 (mputT a (cb (M 5) a) kind price), sM M 14 (lkA (M 5) (M 14) a)))
theorem a60 {a : Nat} (ha : a ≤ 60) (h : ¬ nI a = 60) : a < 60 := by
  rcases (show a < 60 ∨ a = 60 by omega) with h1 | h1
  · exact h1
  · subst h1; exact absurd (by decide +kernel) h
theorem o6 {a : Nat} (ha : a ≤ 6) (h : ¬ nI a = 6) : a < 6 := by
  rcases (show a < 6 ∨ a = 6 by omega) with h1 | h1
  · exact h1
  · subst h1; exact absurd (by decide +kernel) h
set_option maxHeartbeats 4000000 in
set_option maxRecDepth 100000 in
theorem c_X12_put (G : jG) (ad : Nat → Nat) (V : Nat → Int32) (M : Nat → Nat → Int32) (t : Int64) (a : Nat) (ha : V 0 = nI a) (ha6 : a ≤ 60) (hcb : cb (M 5) a ≤ 7) (kind price : Int32) : jD G 1 yX12_put wsX12_put [.ref (ad 0), .int kind, .int price] (wM G ad V M t) (some (.int (mput a V M kind price).1)) (wM G ad (mput a V M kind price).2.1 (mput a V M kind price).2.2 t) := by
  refine jC.of (maxL := 3) (cc := cX12_put) (ret := (some .int)) rfl (by decide) [some (.ref (ad 0)), some (.int kind), some (.int price)] rfl (Nat.le_of_ble_eq_true rfl) (j_args rfl) (fun X hX => ?_)
  refine j_aload_n hX dX12_put_0 rfl ?_
  refine j_dV hX (nA := 0) (cq := (RX12, TX12, 37)) (As := []) (st := []) (st' := []) (ci := 13) rfl dX12_put_1 (c_X12_looks G _ V M _ a ha ha6 hcb) gX12_put_X12_looks rfl (by decide +kernel) (q := 0) (wMg0 _ _ _ _ _) (by decide) (Nat.le_of_ble_eq_true rfl) rfl (Nat.le_of_ble_eq_true rfl) rfl ⟨Nat.le_refl _, Nat.le_refl _⟩ rfl ?_
  refine j_aload_n hX dX12_put_4 rfl ?_
  refine j_iload_n hX dX12_put_5 rfl ?_
  refine j_iconst hX (v := 0) (by decide) dX12_put_6 ?_
  refine j_bipush hX (v := 9) (by decide) dX12_put_7 ?_
  refine j_dS hX (nA := 3) (As := [.int kind, .int 0, .int 9]) (st := [.ref (ad 0)]) (st' := [.int (withinV kind 0 9), .ref (ad 0)]) dX12_put_9 (c_X12_in G) gX12_put_X12_in rfl (by decide +kernel) (by decide) (Nat.le_of_ble_eq_true rfl) rfl (Nat.le_of_ble_eq_true rfl) rfl ⟨Nat.le_refl _, Nat.le_refl _⟩ rfl ?_
  refine j_if_eq hX (tgt := 26) dX12_put_12 (by decide) (fun h12 => ?_) (fun h12 => ?_)
  · refine j_iconst hX (v := 1) (by decide) dX12_put_26 ?_
    refine j_goto hX (tgt := 53) dX12_put_27 (by decide) ?_
    refine j_putf hX (ws' := (wM G ad (sV (sV V 5 (nI (cb (M 5) a))) 4 1) (sM M 14 (lkA (M 5) (M 14) a)) t)) dX12_put_53 fX12_put_89 0 (wMg0 _ _ _ _ _) (Nat.le_of_ble_eq_true rfl) rfl rfl (wMp0_18 _ _ _ _ _ _) ?_
    refine j_aload_n hX dX12_put_56 rfl ?_
    refine j_getf hX (v := .int 1) dX12_put_57 fX12_put_89 0 (wMg0 _ _ _ _ _) rfl ?_
    refine j_if_le_f hX (tgt := 65) dX12_put_60 (by decide) (by decide) ?_
    refine j_iconst hX (v := 0) (by decide) dX12_put_63 ?_
    exact j_iret hX dX12_put_64 (by have e7 : mputT a (cb (M 5) a) kind price = 1 := (by simp only [mputT, if_pos h12]); have e8 : mput a V M kind price = (0, ((sV (sV V 5 (nI (cb (M 5) a))) 4 1), (sM M 14 (lkA (M 5) (M 14) a)))) := (by rw [mput, e7]; rfl); rw [e8]; exact ⟨rfl, rfl⟩)
  · refine j_iload_n hX dX12_put_15 rfl ?_
    refine j_iconst hX (v := 1) (by decide) dX12_put_16 ?_
    refine j_sipush hX (v := 9999) (by decide) dX12_put_17 ?_
    refine j_dS hX (nA := 3) (As := [.int price, .int 1, .int 9999]) (st := [.ref (ad 0)]) (st' := [.int (withinV price 1 9999), .ref (ad 0)]) dX12_put_20 (c_X12_in G) gX12_put_X12_in rfl (by decide +kernel) (by decide) (Nat.le_of_ble_eq_true rfl) rfl (Nat.le_of_ble_eq_true rfl) rfl ⟨Nat.le_refl _, Nat.le_refl _⟩ rfl ?_
    refine j_if_ne hX (tgt := 30) dX12_put_23 (by decide) (fun h23 => ?_) (fun h23 => ?_)
    · refine j_aload_n hX dX12_put_30 rfl ?_
      refine j_getf hX (v := .int (nI (cb (M 5) a))) dX12_put_31 fX12_put_93 0 (wMg0 _ _ _ _ _) rfl ?_
      refine j_bipush hX (v := 7) (by decide) dX12_put_34 ?_
      refine j_icmp_eq hX (tgt := 48) dX12_put_36 (by decide) (fun h36 => ?_) (fun h36 => ?_)
      · refine j_iconst hX (v := 2) (by decide) dX12_put_48 ?_
        refine j_goto hX (tgt := 53) dX12_put_49 (by decide) ?_
        refine j_putf hX (ws' := (wM G ad (sV (sV V 5 (nI (cb (M 5) a))) 4 2) (sM M 14 (lkA (M 5) (M 14) a)) t)) dX12_put_53 fX12_put_89 0 (wMg0 _ _ _ _ _) (Nat.le_of_ble_eq_true rfl) rfl rfl (wMp0_18 _ _ _ _ _ _) ?_
        refine j_aload_n hX dX12_put_56 rfl ?_
        refine j_getf hX (v := .int 2) dX12_put_57 fX12_put_89 0 (wMg0 _ _ _ _ _) rfl ?_
        refine j_if_le_f hX (tgt := 65) dX12_put_60 (by decide) (by decide) ?_
        refine j_iconst hX (v := 0) (by decide) dX12_put_63 ?_
        exact j_iret hX dX12_put_64 (by have e7 : mputT a (cb (M 5) a) kind price = 2 := (by simp only [mputT, if_neg h12, if_neg h23, if_pos h36]); have e8 : mput a V M kind price = (0, ((sV (sV V 5 (nI (cb (M 5) a))) 4 2), (sM M 14 (lkA (M 5) (M 14) a)))) := (by rw [mput, e7]; rfl); rw [e8]; exact ⟨rfl, rfl⟩)
      · refine j_aload_n hX dX12_put_39 rfl ?_
        refine j_getf hX (v := .int (V 0)) dX12_put_40 fX12_put_96 0 (wMg0 _ _ _ _ _) rfl ?_
        refine jW.top ha ?_
        refine j_bipush hX (v := 60) (by decide) dX12_put_43 ?_
        refine j_icmp_ne hX (tgt := 52) dX12_put_45 (by decide) (fun h45 => ?_) (fun h45 => ?_)
        · refine j_iconst hX (v := 0) (by decide) dX12_put_52 ?_
          refine j_putf hX (ws' := (wM G ad (sV (sV V 5 (nI (cb (M 5) a))) 4 0) (sM M 14 (lkA (M 5) (M 14) a)) t)) dX12_put_53 fX12_put_89 0 (wMg0 _ _ _ _ _) (Nat.le_of_ble_eq_true rfl) rfl rfl (wMp0_18 _ _ _ _ _ _) ?_
          refine j_aload_n hX dX12_put_56 rfl ?_
          refine j_getf hX (v := .int 0) dX12_put_57 fX12_put_89 0 (wMg0 _ _ _ _ _) rfl ?_
          refine j_if_le_t hX (tgt := 65) dX12_put_60 (by decide) (by decide) ?_
          have ha0 : a < 60 := a60 ha6 h45
          refine j_aload_n hX dX12_put_65 rfl ?_
          refine j_getf hX (v := .ref (ad 1)) dX12_put_66 fX12_put_9 0 (wMg0 _ _ _ _ _) rfl ?_
          refine j_aload_n hX dX12_put_69 rfl ?_
          refine j_getf hX (v := .int (V 0)) dX12_put_70 fX12_put_96 0 (wMg0 _ _ _ _ _) rfl ?_
          refine jW.top ha ?_
          refine j_iload_n hX dX12_put_73 rfl ?_
          refine j_iast hX (ws' := (wM G ad (sV (sV V 5 (nI (cb (M 5) a))) 4 0) (sM (sM M 14 (lkA (M 5) (M 14) a)) 1 (upd (M 1) a kind)) t)) dX12_put_74 1 (wMg1 _ _ _ _ _) (nI_in (by omega) (by decide)) (by rw [nI_clamp (by omega)]; exact (wMp1 _ _ _ _ _ _)) ?_
          refine j_aload_n hX dX12_put_75 rfl ?_
          refine j_getf hX (v := .ref (ad 2)) dX12_put_76 fX12_put_13 0 (wMg0 _ _ _ _ _) rfl ?_
          refine j_aload_n hX dX12_put_79 rfl ?_
          refine j_getf hX (v := .int (V 0)) dX12_put_80 fX12_put_96 0 (wMg0 _ _ _ _ _) rfl ?_
          refine jW.top ha ?_
          refine j_iload_n hX dX12_put_83 rfl ?_
          refine j_iast hX (ws' := (wM G ad (sV (sV V 5 (nI (cb (M 5) a))) 4 0) (sM (sM (sM M 14 (lkA (M 5) (M 14) a)) 1 (upd (M 1) a kind)) 2 (upd (M 2) a price)) t)) dX12_put_84 2 (wMg2 _ _ _ _ _) (nI_in (by omega) (by decide)) (by rw [nI_clamp (by omega)]; exact (wMp2 _ _ _ _ _ _)) ?_
          refine j_aload_n hX dX12_put_85 rfl ?_
          refine j_getf hX (v := .ref (ad 5)) dX12_put_86 fX12_put_22 0 (wMg0 _ _ _ _ _) rfl ?_
          refine j_aload_n hX dX12_put_89 rfl ?_
          refine j_getf hX (v := .int (V 0)) dX12_put_90 fX12_put_96 0 (wMg0 _ _ _ _ _) rfl ?_
          refine jW.top ha ?_
          refine j_bipush hX (v := 98) (by decide) dX12_put_93 ?_
          refine j_cast hX (ws' := (wM G ad (sV (sV V 5 (nI (cb (M 5) a))) 4 0) (sM (sM (sM (sM M 14 (lkA (M 5) (M 14) a)) 1 (upd (M 1) a kind)) 2 (upd (M 2) a price)) 5 (upd (M 5) a 98)) t)) dX12_put_95 5 (wMg5 _ _ _ _ _) (nI_in (by omega) (by decide)) (by rw [show vp_nar .char 98 = 98 from by decide +kernel, nI_clamp (by omega)]; exact (wMp5 _ _ _ _ _ _)) ?_
          refine j_aload_n hX dX12_put_96 rfl ?_
          refine j_dup hX dX12_put_97 rfl ?_
          refine j_getf hX (v := .int (V 0)) dX12_put_98 fX12_put_96 0 (wMg0 _ _ _ _ _) rfl ?_
          refine jW.top ha ?_
          refine j_iconst hX (v := 1) (by decide) dX12_put_101 ?_
          refine j_iadd hX dX12_put_102 ?_
          refine jW.top (nI_1 _) ?_
          refine j_putf hX (ws' := (wM G ad (sV (sV (sV V 5 (nI (cb (M 5) a))) 4 0) 0 (nI (a + 1))) (sM (sM (sM (sM M 14 (lkA (M 5) (M 14) a)) 1 (upd (M 1) a kind)) 2 (upd (M 2) a price)) 5 (upd (M 5) a 98)) t)) dX12_put_103 fX12_put_96 0 (wMg0 _ _ _ _ _) (Nat.le_of_ble_eq_true rfl) rfl rfl (wMp0_5 _ _ _ _ _ _) ?_
          refine j_aload_n hX dX12_put_106 rfl ?_
          refine j_iconst hX (v := 0) (by decide) dX12_put_107 ?_
          refine j_putf hX (ws' := (wM G ad (sV (sV (sV (sV V 5 (nI (cb (M 5) a))) 4 0) 0 (nI (a + 1))) 7 0) (sM (sM (sM (sM M 14 (lkA (M 5) (M 14) a)) 1 (upd (M 1) a kind)) 2 (upd (M 2) a price)) 5 (upd (M 5) a 98)) t)) dX12_put_108 fX12_put_106 0 (wMg0 _ _ _ _ _) (Nat.le_of_ble_eq_true rfl) (by decide) rfl (wMp0_28 _ _ _ _ _ _) ?_
          refine j_aload_n hX dX12_put_111 rfl ?_
          refine j_getf hX (v := .int (nI (a + 1))) dX12_put_112 fX12_put_96 0 (wMg0 _ _ _ _ _) rfl ?_
          refine j_iconst hX (v := 1) (by decide) dX12_put_115 ?_
          refine j_isub hX dX12_put_116 ?_
          refine jW.top (nI_pred a) ?_
          exact j_iret hX dX12_put_117 (by have e7 : mputT a (cb (M 5) a) kind price = 0 := (by simp only [mputT, if_neg h12, if_neg h23, if_neg h36, if_neg h45]); have e8 : mput a V M kind price = (nI a, ((sV (sV (sV (sV V 5 (nI (cb (M 5) a))) 4 0) 0 (nI (a + 1))) 7 0), (sM (sM (sM (sM M 14 (lkA (M 5) (M 14) a)) 1 (upd (M 1) a kind)) 2 (upd (M 2) a price)) 5 (upd (M 5) a 98)))) := (by simp only [mput, e7, if_true]); rw [e8]; exact ⟨rfl, rfl⟩)
        · refine j_iconst hX (v := 2) (by decide) dX12_put_48 ?_
          refine j_goto hX (tgt := 53) dX12_put_49 (by decide) ?_
          refine j_putf hX (ws' := (wM G ad (sV (sV V 5 (nI (cb (M 5) a))) 4 2) (sM M 14 (lkA (M 5) (M 14) a)) t)) dX12_put_53 fX12_put_89 0 (wMg0 _ _ _ _ _) (Nat.le_of_ble_eq_true rfl) rfl rfl (wMp0_18 _ _ _ _ _ _) ?_
          refine j_aload_n hX dX12_put_56 rfl ?_
          refine j_getf hX (v := .int 2) dX12_put_57 fX12_put_89 0 (wMg0 _ _ _ _ _) rfl ?_
          refine j_if_le_f hX (tgt := 65) dX12_put_60 (by decide) (by decide) ?_
          refine j_iconst hX (v := 0) (by decide) dX12_put_63 ?_
          exact j_iret hX dX12_put_64 (by have e7 : mputT a (cb (M 5) a) kind price = 2 := (by simp only [mputT, if_neg h12, if_neg h23, if_neg h36, if_pos h45]); have e8 : mput a V M kind price = (0, ((sV (sV V 5 (nI (cb (M 5) a))) 4 2), (sM M 14 (lkA (M 5) (M 14) a)))) := (by rw [mput, e7]; rfl); rw [e8]; exact ⟨rfl, rfl⟩)
    · refine j_iconst hX (v := 1) (by decide) dX12_put_26 ?_
      refine j_goto hX (tgt := 53) dX12_put_27 (by decide) ?_
      refine j_putf hX (ws' := (wM G ad (sV (sV V 5 (nI (cb (M 5) a))) 4 1) (sM M 14 (lkA (M 5) (M 14) a)) t)) dX12_put_53 fX12_put_89 0 (wMg0 _ _ _ _ _) (Nat.le_of_ble_eq_true rfl) rfl rfl (wMp0_18 _ _ _ _ _ _) ?_
      refine j_aload_n hX dX12_put_56 rfl ?_
      refine j_getf hX (v := .int 1) dX12_put_57 fX12_put_89 0 (wMg0 _ _ _ _ _) rfl ?_
      refine j_if_le_f hX (tgt := 65) dX12_put_60 (by decide) (by decide) ?_
      refine j_iconst hX (v := 0) (by decide) dX12_put_63 ?_
      exact j_iret hX dX12_put_64 (by have e7 : mputT a (cb (M 5) a) kind price = 1 := (by simp only [mputT, if_neg h12, if_pos h23]); have e8 : mput a V M kind price = (0, ((sV (sV V 5 (nI (cb (M 5) a))) 4 1), (sM M 14 (lkA (M 5) (M 14) a)))) := (by rw [mput, e7]; rfl); rw [e8]; exact ⟨rfl, rfl⟩)

def mtake (a : Nat) (V : Nat → Int32) (M : Nat → Nat → Int32) (x : Int32) : Int32 × VM :=
  if ibM a (M 5) x = 0 then (0, (sV V 4 1, M)) else
    (nI (cb (upd (M 5) x.toNatClampNeg 111) a), (sV (sV (sV V 4 0) 7 0) 5 (nI (cb (upd (M 5) x.toNatClampNeg 111) a)), sM (sM M 5 (upd (M 5) x.toNatClampNeg 111)) 14 (lkA (upd (M 5) x.toNatClampNeg 111) (M 14) a)))
set_option maxHeartbeats 4000000 in
set_option maxRecDepth 100000 in
theorem c_X12_takeOut (G : jG) (ad : Nat → Nat) (V : Nat → Int32) (M : Nat → Nat → Int32) (t : Int64) (a : Nat) (ha : V 0 = nI a) (ha6 : a ≤ 60) (hcb : cb (M 5) a ≤ 7) (x : Int32) : jD G 2 yX12_takeOut wsX12_takeOut [.ref (ad 0), .int x] (wM G ad V M t) (some (.int (mtake a V M x).1)) (wM G ad (mtake a V M x).2.1 (mtake a V M x).2.2 t) := by
  refine jC.of (maxL := 2) (cc := cX12_takeOut) (ret := (some .int)) rfl (by decide) [some (.ref (ad 0)), some (.int x)] rfl (Nat.le_of_ble_eq_true rfl) (j_args rfl) (fun X hX => ?_)
  refine j_aload_n hX dX12_takeOut_0 rfl ?_
  refine j_aload_n hX dX12_takeOut_1 rfl ?_
  refine j_iload_n hX dX12_takeOut_2 rfl ?_
  refine j_dV hX (nA := 1) (cq := (RX12, TX12, 37)) (As := [.int x]) (st := [.ref (ad 0)]) (st' := [.int (ibM a (M 5) x), .ref (ad 0)]) (ci := 13) rfl dX12_takeOut_3 (c_X12_isInBasket G _ V M _ a ha ha6 _) gX12_takeOut_X12_isInBasket rfl (by decide +kernel) (q := 0) (wMg0 _ _ _ _ _) (by decide) (Nat.le_of_ble_eq_true rfl) rfl (Nat.le_of_ble_eq_true rfl) rfl ⟨Nat.le_refl _, Nat.le_refl _⟩ rfl ?_
  refine j_if_eq hX (tgt := 13) dX12_takeOut_6 (by decide) (fun h6 => ?_) (fun h6 => ?_)
  · refine j_iconst hX (v := 1) (by decide) dX12_takeOut_13 ?_
    refine j_putf hX (ws' := (wM G ad (sV V 4 1) M t)) dX12_takeOut_14 fX12_takeOut_89 0 (wMg0 _ _ _ _ _) (Nat.le_of_ble_eq_true rfl) rfl rfl (wMp0_18 _ _ _ _ _ _) ?_
    refine j_aload_n hX dX12_takeOut_17 rfl ?_
    refine j_getf hX (v := .int 1) dX12_takeOut_18 fX12_takeOut_89 0 (wMg0 _ _ _ _ _) rfl ?_
    refine j_if_le_f hX (tgt := 26) dX12_takeOut_21 (by decide) (by decide) ?_
    refine j_iconst hX (v := 0) (by decide) dX12_takeOut_24 ?_
    exact j_iret hX dX12_takeOut_25 (by have e8 : mtake a V M x = (0, ((sV V 4 1), M)) := (by simp only [mtake, if_pos h6]); rw [e8]; exact ⟨rfl, rfl⟩)
  · refine j_iconst hX (v := 0) (by decide) dX12_takeOut_9 ?_
    refine j_goto hX (tgt := 14) dX12_takeOut_10 (by decide) ?_
    refine j_putf hX (ws' := (wM G ad (sV V 4 0) M t)) dX12_takeOut_14 fX12_takeOut_89 0 (wMg0 _ _ _ _ _) (Nat.le_of_ble_eq_true rfl) rfl rfl (wMp0_18 _ _ _ _ _ _) ?_
    refine j_aload_n hX dX12_takeOut_17 rfl ?_
    refine j_getf hX (v := .int 0) dX12_takeOut_18 fX12_takeOut_89 0 (wMg0 _ _ _ _ _) rfl ?_
    refine j_if_le_t hX (tgt := 26) dX12_takeOut_21 (by decide) (by decide) ?_
    refine j_aload_n hX dX12_takeOut_26 rfl ?_
    refine j_getf hX (v := .ref (ad 5)) dX12_takeOut_27 fX12_takeOut_22 0 (wMg0 _ _ _ _ _) rfl ?_
    refine j_iload_n hX dX12_takeOut_30 rfl ?_
    refine j_bipush hX (v := 111) (by decide) dX12_takeOut_31 ?_
    refine j_cast hX (ws' := (wM G ad (sV V 4 0) (sM M 5 (upd (M 5) x.toNatClampNeg 111)) t)) dX12_takeOut_33 5 (wMg5 _ _ _ _ _) (ib_in ha6 h6) (by rw [show vp_nar .char 111 = 111 from by decide +kernel]; exact (wMp5 _ _ _ _ _ _)) ?_
    refine j_aload_n hX dX12_takeOut_34 rfl ?_
    refine j_iconst hX (v := 0) (by decide) dX12_takeOut_35 ?_
    refine j_putf hX (ws' := (wM G ad (sV (sV V 4 0) 7 0) (sM M 5 (upd (M 5) x.toNatClampNeg 111)) t)) dX12_takeOut_36 fX12_takeOut_106 0 (wMg0 _ _ _ _ _) (Nat.le_of_ble_eq_true rfl) (by decide) rfl (wMp0_28 _ _ _ _ _ _) ?_
    refine j_aload_n hX dX12_takeOut_39 rfl ?_
    refine j_dV hX (nA := 0) (cq := (RX12, TX12, 37)) (As := []) (st := []) (st' := []) (ci := 13) rfl dX12_takeOut_40 (c_X12_looks G _ (sV (sV V 4 0) 7 0) (sM M 5 (upd (M 5) x.toNatClampNeg 111)) _ a ha ha6 (Nat.le_trans (cb_upd _ (by decide) _) hcb)) gX12_takeOut_X12_looks rfl (by decide +kernel) (q := 0) (wMg0 _ _ _ _ _) (by decide) (Nat.le_of_ble_eq_true rfl) rfl (Nat.le_of_ble_eq_true rfl) rfl ⟨Nat.le_refl _, Nat.le_refl _⟩ rfl ?_
    refine j_aload_n hX dX12_takeOut_43 rfl ?_
    refine j_getf hX (v := .int (nI (cb (upd (M 5) x.toNatClampNeg 111) a))) dX12_takeOut_44 fX12_takeOut_93 0 (wMg0 _ _ _ _ _) rfl ?_
    exact j_iret hX dX12_takeOut_47 (by have e8 : mtake a V M x = (nI (cb (upd (M 5) x.toNatClampNeg 111) a), ((sV (sV (sV V 4 0) 7 0) 5 (nI (cb (upd (M 5) x.toNatClampNeg 111) a))), (sM (sM M 5 (upd (M 5) x.toNatClampNeg 111)) 14 (lkA (upd (M 5) x.toNatClampNeg 111) (M 14) a)))) := (by simp only [mtake, if_neg h6]); rw [e8]; exact ⟨rfl, rfl⟩)

def mcust (V : Nat → Int32) (M : Nat → Nat → Int32) (x : Int32) : Int32 × VM := if withinV x 0 3 = 0 then (0, (sV V 4 1, M)) else (V 1, (sV (sV (sV V 4 0) 1 x) 7 0, M))
set_option maxHeartbeats 4000000 in
set_option maxRecDepth 100000 in
theorem c_X12_setCustomer (G : jG) (ad : Nat → Nat) (V : Nat → Int32) (M : Nat → Nat → Int32) (t : Int64) (x : Int32) : jD G 1 yX12_setCustomer wsX12_setCustomer [.ref (ad 0), .int x] (wM G ad V M t) (some (.int (mcust V M x).1)) (wM G ad (mcust V M x).2.1 (mcust V M x).2.2 t) := by
  refine jC.of (maxL := 3) (cc := cX12_setCustomer) (ret := (some .int)) rfl (by decide) [some (.ref (ad 0)), some (.int x), none] rfl (Nat.le_of_ble_eq_true rfl) (j_args rfl) (fun X hX => ?_)
  refine j_aload_n hX dX12_setCustomer_0 rfl ?_
  refine j_iload_n hX dX12_setCustomer_1 rfl ?_
  refine j_iconst hX (v := 0) (by decide) dX12_setCustomer_2 ?_
  refine j_iconst hX (v := 3) (by decide) dX12_setCustomer_3 ?_
  refine j_dS hX (nA := 3) (As := [.int x, .int 0, .int 3]) (st := [.ref (ad 0)]) (st' := [.int (withinV x 0 3), .ref (ad 0)]) dX12_setCustomer_4 (c_X12_in G) gX12_setCustomer_X12_in rfl (by decide +kernel) (by decide) (Nat.le_of_ble_eq_true rfl) rfl (Nat.le_of_ble_eq_true rfl) rfl ⟨Nat.le_refl _, Nat.le_refl _⟩ rfl ?_
  refine j_if_eq hX (tgt := 14) dX12_setCustomer_7 (by decide) (fun h7 => ?_) (fun h7 => ?_)
  · refine j_iconst hX (v := 1) (by decide) dX12_setCustomer_14 ?_
    refine j_putf hX (ws' := (wM G ad (sV V 4 1) M t)) dX12_setCustomer_15 fX12_setCustomer_89 0 (wMg0 _ _ _ _ _) (Nat.le_of_ble_eq_true rfl) rfl rfl (wMp0_18 _ _ _ _ _ _) ?_
    refine j_aload_n hX dX12_setCustomer_18 rfl ?_
    refine j_getf hX (v := .int 1) dX12_setCustomer_19 fX12_setCustomer_89 0 (wMg0 _ _ _ _ _) rfl ?_
    refine j_if_le_f hX (tgt := 27) dX12_setCustomer_22 (by decide) (by decide) ?_
    refine j_iconst hX (v := 0) (by decide) dX12_setCustomer_25 ?_
    exact j_iret hX dX12_setCustomer_26 (by have e8 : mcust V M x = (0, ((sV V 4 1), M)) := (by simp only [mcust, if_pos h7]); rw [e8]; exact ⟨rfl, rfl⟩)
  · refine j_iconst hX (v := 0) (by decide) dX12_setCustomer_10 ?_
    refine j_goto hX (tgt := 15) dX12_setCustomer_11 (by decide) ?_
    refine j_putf hX (ws' := (wM G ad (sV V 4 0) M t)) dX12_setCustomer_15 fX12_setCustomer_89 0 (wMg0 _ _ _ _ _) (Nat.le_of_ble_eq_true rfl) rfl rfl (wMp0_18 _ _ _ _ _ _) ?_
    refine j_aload_n hX dX12_setCustomer_18 rfl ?_
    refine j_getf hX (v := .int 0) dX12_setCustomer_19 fX12_setCustomer_89 0 (wMg0 _ _ _ _ _) rfl ?_
    refine j_if_le_t hX (tgt := 27) dX12_setCustomer_22 (by decide) (by decide) ?_
    refine j_aload_n hX dX12_setCustomer_27 rfl ?_
    refine j_getf hX (v := .int (V 1)) dX12_setCustomer_28 fX12_setCustomer_114 0 (wMg0 _ _ _ _ _) rfl ?_
    refine j_istore_n hX (ls' := [some (.ref (ad 0)), some (.int x), some (.int (V 1))]) dX12_setCustomer_31 (Nat.le_of_ble_eq_true rfl) rfl rfl ?_
    refine j_aload_n hX dX12_setCustomer_32 rfl ?_
    refine j_iload_n hX dX12_setCustomer_33 rfl ?_
    refine j_putf hX (ws' := (wM G ad (sV (sV V 4 0) 1 x) M t)) dX12_setCustomer_34 fX12_setCustomer_114 0 (wMg0 _ _ _ _ _) (Nat.le_of_ble_eq_true rfl) rfl rfl (wMp0_6 _ _ _ _ _ _) ?_
    refine j_aload_n hX dX12_setCustomer_37 rfl ?_
    refine j_iconst hX (v := 0) (by decide) dX12_setCustomer_38 ?_
    refine j_putf hX (ws' := (wM G ad (sV (sV (sV V 4 0) 1 x) 7 0) M t)) dX12_setCustomer_39 fX12_setCustomer_106 0 (wMg0 _ _ _ _ _) (Nat.le_of_ble_eq_true rfl) (by decide) rfl (wMp0_28 _ _ _ _ _ _) ?_
    refine j_iload_n hX dX12_setCustomer_42 rfl ?_
    exact j_iret hX dX12_setCustomer_43 (by have e8 : mcust V M x = ((V 1), ((sV (sV (sV V 4 0) 1 x) 7 0), M)) := (by simp only [mcust, if_neg h7]); rw [e8]; exact ⟨rfl, rfl⟩)

set_option maxHeartbeats 4000000 in
set_option maxRecDepth 100000 in
theorem c_X12_items (G : jG) (ad : Nat → Nat) (V : Nat → Int32) (M : Nat → Nat → Int32) (t : Int64) (a : Nat) (ha : V 0 = nI a) (ha6 : a ≤ 60) (hcb : cb (M 5) a ≤ 7) : jD G 1 yX12_items wsX12_items [.ref (ad 0)] (wM G ad V M t) (some (.int (nI (cb (M 5) a)))) (wM G ad (sV (sV V 4 0) 5 (nI (cb (M 5) a))) (sM M 14 (lkA (M 5) (M 14) a)) t) := by
  refine jC.of (maxL := 1) (cc := cX12_items) (ret := (some .int)) rfl (by decide) [some (.ref (ad 0))] rfl (Nat.le_of_ble_eq_true rfl) (j_args rfl) (fun X hX => ?_)
  refine j_aload_n hX dX12_items_0 rfl ?_
  refine j_iconst hX (v := 0) (by decide) dX12_items_1 ?_
  refine j_putf hX (ws' := (wM G ad (sV V 4 0) M t)) dX12_items_2 fX12_items_89 0 (wMg0 _ _ _ _ _) (Nat.le_of_ble_eq_true rfl) rfl rfl (wMp0_18 _ _ _ _ _ _) ?_
  refine j_aload_n hX dX12_items_5 rfl ?_
  refine j_dV hX (nA := 0) (cq := (RX12, TX12, 37)) (As := []) (st := []) (st' := []) (ci := 13) rfl dX12_items_6 (c_X12_looks G _ (sV V 4 0) M _ a ha ha6 hcb) gX12_items_X12_looks rfl (by decide +kernel) (q := 0) (wMg0 _ _ _ _ _) (by decide) (Nat.le_of_ble_eq_true rfl) rfl (Nat.le_of_ble_eq_true rfl) rfl ⟨Nat.le_refl _, Nat.le_refl _⟩ rfl ?_
  refine j_aload_n hX dX12_items_9 rfl ?_
  refine j_getf hX (v := .int (nI (cb (M 5) a))) dX12_items_10 fX12_items_93 0 (wMg0 _ _ _ _ _) rfl ?_
  exact j_iret hX dX12_items_13 ⟨rfl, rfl⟩

set_option maxHeartbeats 4000000 in
set_option maxRecDepth 100000 in
theorem c_X12_sum (G : jG) (ad : Nat → Nat) (V : Nat → Int32) (M : Nat → Nat → Int32) (t : Int64) (a : Nat) (ha : V 0 = nI a) (ha6 : a ≤ 60) (hcb : cb (M 5) a ≤ 7) : jD G 2 yX12_sum wsX12_sum [.ref (ad 0)] (wM G ad V M t) (some (.int (sumN M a))) (wM G ad (sV (sV V 4 0) 5 (nI (cb (M 5) a))) (sM M 14 (lkA (M 5) (M 14) a)) t) := by
  refine jC.of (maxL := 1) (cc := cX12_sum) (ret := (some .int)) rfl (by decide) [some (.ref (ad 0))] rfl (Nat.le_of_ble_eq_true rfl) (j_args rfl) (fun X hX => ?_)
  refine j_aload_n hX dX12_sum_0 rfl ?_
  refine j_iconst hX (v := 0) (by decide) dX12_sum_1 ?_
  refine j_putf hX (ws' := (wM G ad (sV V 4 0) M t)) dX12_sum_2 fX12_sum_89 0 (wMg0 _ _ _ _ _) (Nat.le_of_ble_eq_true rfl) rfl rfl (wMp0_18 _ _ _ _ _ _) ?_
  refine j_aload_n hX dX12_sum_5 rfl ?_
  refine j_dV hX (nA := 0) (cq := (RX12, TX12, 37)) (As := []) (st := []) (st' := [.int (sumN M a)]) (ci := 13) rfl dX12_sum_6 (c_X12_sumNow G _ (sV V 4 0) M _ a ha ha6 hcb) gX12_sum_X12_sumNow rfl (by decide +kernel) (q := 0) (wMg0 _ _ _ _ _) (by decide) (Nat.le_of_ble_eq_true rfl) rfl (Nat.le_of_ble_eq_true rfl) rfl ⟨Nat.le_refl _, Nat.le_refl _⟩ rfl ?_
  exact j_iret hX dX12_sum_9 ⟨rfl, rfl⟩

set_option maxHeartbeats 4000000 in
set_option maxRecDepth 100000 in
theorem c_X12_offers (G : jG) (ad : Nat → Nat) (V : Nat → Int32) (M : Nat → Nat → Int32) (t : Int64) : jD G 0 yX12_offers wsX12_offers [.ref (ad 0)] (wM G ad V M t) (some (.int (V 2))) (wM G ad (sV V 4 0) M t) := by
  refine jC.of (maxL := 1) (cc := cX12_offers) (ret := (some .int)) rfl (by decide) [some (.ref (ad 0))] rfl (Nat.le_of_ble_eq_true rfl) (j_args rfl) (fun X hX => ?_)
  refine j_aload_n hX dX12_offers_0 rfl ?_
  refine j_iconst hX (v := 0) (by decide) dX12_offers_1 ?_
  refine j_putf hX (ws' := (wM G ad (sV V 4 0) M t)) dX12_offers_2 fX12_offers_89 0 (wMg0 _ _ _ _ _) (Nat.le_of_ble_eq_true rfl) rfl rfl (wMp0_18 _ _ _ _ _ _) ?_
  refine j_aload_n hX dX12_offers_5 rfl ?_
  refine j_getf hX (v := .int (V 2)) dX12_offers_6 fX12_offers_121 0 (wMg0 _ _ _ _ _) rfl ?_
  exact j_iret hX dX12_offers_9 ⟨rfl, rfl⟩

set_option maxHeartbeats 4000000 in
set_option maxRecDepth 100000 in
theorem c_X12_thrown (G : jG) (ad : Nat → Nat) (V : Nat → Int32) (M : Nat → Nat → Int32) (t : Int64) : jD G 0 yX12_thrown wsX12_thrown [.ref (ad 0)] (wM G ad V M t) (some (.int (V 4))) (wM G ad V M t) := by
  refine jC.of (maxL := 1) (cc := cX12_thrown) (ret := (some .int)) rfl (by decide) [some (.ref (ad 0))] rfl (Nat.le_of_ble_eq_true rfl) (j_args rfl) (fun X hX => ?_)
  refine j_aload_n hX dX12_thrown_0 rfl ?_
  refine j_getf hX (v := .int (V 4)) dX12_thrown_1 fX12_thrown_89 0 (wMg0 _ _ _ _ _) rfl ?_
  exact j_iret hX dX12_thrown_4 ⟨rfl, rfl⟩

set_option maxHeartbeats 4000000 in
set_option maxRecDepth 100000 in
theorem c_X12_raises (G : jG) (ad : Nat → Nat) (V : Nat → Int32) (M : Nat → Nat → Int32) (t : Int64) (x : Int32) : jD G 0 yX12_raises wsX12_raises [.ref (ad 0), .int x] (wM G ad V M t) (some (.int 0)) (wM G ad (sV V 4 x) M t) := by
  refine jC.of (maxL := 2) (cc := cX12_raises) (ret := (some .int)) rfl (by decide) [some (.ref (ad 0)), some (.int x)] rfl (Nat.le_of_ble_eq_true rfl) (j_args rfl) (fun X hX => ?_)
  refine j_aload_n hX dX12_raises_0 rfl ?_
  refine j_iload_n hX dX12_raises_1 rfl ?_
  refine j_putf hX (ws' := (wM G ad (sV V 4 x) M t)) dX12_raises_2 fX12_raises_89 0 (wMg0 _ _ _ _ _) (Nat.le_of_ble_eq_true rfl) rfl rfl (wMp0_18 _ _ _ _ _ _) ?_
  refine j_iconst hX (v := 0) (by decide) dX12_raises_5 ?_
  exact j_iret hX dX12_raises_6 ⟨rfl, rfl⟩

