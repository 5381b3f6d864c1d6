theorem fX11_findBest_68 : jF wsX11_findBest RX11 68 12 6 false .boolean := ⟨(RX11, TX11, 7), tyX11, rfl, by decide, by decide +kernel, by decide +kernel, tyX11_ok, nmX11, rfl, by decide +kernel, fun h => by cases h⟩
theorem fX11_findBest_28 : jF wsX11_findBest RX11 28 12 2 true (.object "BasketOffers$Search") := ⟨(RX11, TX11, 7), tyX11, rfl, by decide, by decide +kernel, by decide +kernel, tyX11_ok, nmX11, rfl, by decide +kernel, by decide +kernel⟩
theorem fX11_findBest_95 : jF wsX11_findBest RX11 95 12 5 false .int := ⟨(RX11, TX11, 7), tyX11, rfl, by decide, by decide +kernel, by decide +kernel, tyX11_ok, nmX11, rfl, by decide +kernel, fun h => by cases h⟩
theorem fX11_findBest_37 : jF wsX11_findBest RX11 37 12 3 true (.object "BasketOffers$Bill") := ⟨(RX11, TX11, 7), tyX11, rfl, by decide, by decide +kernel, by decide +kernel, tyX11_ok, nmX11, rfl, by decide +kernel, by decide +kernel⟩
theorem fX11_items_10 : jF wsX11_items RX11 10 12 0 true (.object "BasketOffers$Basket") := ⟨(RX11, TX11, 7), tyX11, rfl, by decide, by decide +kernel, by decide +kernel, tyX11_ok, nmX11, rfl, by decide +kernel, by decide +kernel⟩
theorem fX11_sum_10 : jF wsX11_sum RX11 10 12 0 true (.object "BasketOffers$Basket") := ⟨(RX11, TX11, 7), tyX11, rfl, by decide, by decide +kernel, by decide +kernel, tyX11_ok, nmX11, rfl, by decide +kernel, by decide +kernel⟩
theorem fX11_offers_19 : jF wsX11_offers RX11 19 12 1 true (.object "BasketOffers$OfferBook") := ⟨(RX11, TX11, 7), tyX11, rfl, by decide, by decide +kernel, by decide +kernel, tyX11_ok, nmX11, rfl, by decide +kernel, by decide +kernel⟩
theorem fX11_usesInAll_44 : jF wsX11_usesInAll RX11 44 12 4 true (.object "BasketOffers$Ledger") := ⟨(RX11, TX11, 7), tyX11, rfl, by decide, by decide +kernel, by decide +kernel, tyX11_ok, nmX11, rfl, by decide +kernel, by decide +kernel⟩
theorem fX11_turnover_44 : jF wsX11_turnover RX11 44 12 4 true (.object "BasketOffers$Ledger") := ⟨(RX11, TX11, 7), tyX11, rfl, by decide, by decide +kernel, by decide +kernel, tyX11_ok, nmX11, rfl, by decide +kernel, by decide +kernel⟩
theorem fX11_bestDiscount_28 : jF wsX11_bestDiscount RX11 28 12 2 true (.object "BasketOffers$Search") := ⟨(RX11, TX11, 7), tyX11, rfl, by decide, by decide +kernel, by decide +kernel, tyX11_ok, nmX11, rfl, by decide +kernel, by decide +kernel⟩
theorem fX11_toPay_37 : jF wsX11_toPay RX11 37 12 3 true (.object "BasketOffers$Bill") := ⟨(RX11, TX11, 7), tyX11, rfl, by decide, by decide +kernel, by decide +kernel, tyX11_ok, nmX11, rfl, by decide +kernel, by decide +kernel⟩
theorem fX11_put_10 : jF wsX11_put RX11 10 12 0 true (.object "BasketOffers$Basket") := ⟨(RX11, TX11, 7), tyX11, rfl, by decide, by decide +kernel, by decide +kernel, tyX11_ok, nmX11, rfl, by decide +kernel, by decide +kernel⟩
theorem fX11_put_68 : jF wsX11_put RX11 68 12 6 false .boolean := ⟨(RX11, TX11, 7), tyX11, rfl, by decide, by decide +kernel, by decide +kernel, tyX11_ok, nmX11, rfl, by decide +kernel, fun h => by cases h⟩
theorem fX11_setCustomer_95 : jF wsX11_setCustomer RX11 95 12 5 false .int := ⟨(RX11, TX11, 7), tyX11, rfl, by decide, by decide +kernel, by decide +kernel, tyX11_ok, nmX11, rfl, by decide +kernel, fun h => by cases h⟩
theorem fX11_setCustomer_68 : jF wsX11_setCustomer RX11 68 12 6 false .boolean := ⟨(RX11, TX11, 7), tyX11, rfl, by decide, by decide +kernel, by decide +kernel, tyX11_ok, nmX11, rfl, by decide +kernel, fun h => by cases h⟩
theorem fX11_takeOut_10 : jF wsX11_takeOut RX11 10 12 0 true (.object "BasketOffers$Basket") := ⟨(RX11, TX11, 7), tyX11, rfl, by decide, by decide +kernel, by decide +kernel, tyX11_ok, nmX11, rfl, by decide +kernel, by decide +kernel⟩
theorem fX11_takeOut_68 : jF wsX11_takeOut RX11 68 12 6 false .boolean := ⟨(RX11, TX11, 7), tyX11, rfl, by decide, by decide +kernel, by decide +kernel, tyX11_ok, nmX11, rfl, by decide +kernel, fun h => by cases h⟩
theorem fX11_left_19 : jF wsX11_left RX11 19 12 1 true (.object "BasketOffers$OfferBook") := ⟨(RX11, TX11, 7), tyX11, rfl, by decide, by decide +kernel, by decide +kernel, tyX11_ok, nmX11, rfl, by decide +kernel, by decide +kernel⟩
theorem fX11_left_95 : jF wsX11_left RX11 95 12 5 false .int := ⟨(RX11, TX11, 7), tyX11, rfl, by decide, by decide +kernel, by decide +kernel, tyX11_ok, nmX11, rfl, by decide +kernel, fun h => by cases h⟩
theorem fX11_uses_19 : jF wsX11_uses RX11 19 12 1 true (.object "BasketOffers$OfferBook") := ⟨(RX11, TX11, 7), tyX11, rfl, by decide, by decide +kernel, by decide +kernel, tyX11_ok, nmX11, rfl, by decide +kernel, by decide +kernel⟩
theorem fX11_uses_28 : jF wsX11_uses RX11 28 12 2 true (.object "BasketOffers$Search") := ⟨(RX11, TX11, 7), tyX11, rfl, by decide, by decide +kernel, by decide +kernel, tyX11_ok, nmX11, rfl, by decide +kernel, by decide +kernel⟩
theorem fX11_offerOf_10 : jF wsX11_offerOf RX11 10 12 0 true (.object "BasketOffers$Basket") := ⟨(RX11, TX11, 7), tyX11, rfl, by decide, by decide +kernel, by decide +kernel, tyX11_ok, nmX11, rfl, by decide +kernel, by decide +kernel⟩
theorem fX11_offerOf_28 : jF wsX11_offerOf RX11 28 12 2 true (.object "BasketOffers$Search") := ⟨(RX11, TX11, 7), tyX11, rfl, by decide, by decide +kernel, by decide +kernel, tyX11_ok, nmX11, rfl, by decide +kernel, by decide +kernel⟩
theorem fX11_netPrice_10 : jF wsX11_netPrice RX11 10 12 0 true (.object "BasketOffers$Basket") := ⟨(RX11, TX11, 7), tyX11, rfl, by decide, by decide +kernel, by decide +kernel, tyX11_ok, nmX11, rfl, by decide +kernel, by decide +kernel⟩
theorem fX11_netPrice_37 : jF wsX11_netPrice RX11 37 12 3 true (.object "BasketOffers$Bill") := ⟨(RX11, TX11, 7), tyX11, rfl, by decide, by decide +kernel, by decide +kernel, tyX11_ok, nmX11, rfl, by decide +kernel, by decide +kernel⟩
theorem fX11_soldTo_44 : jF wsX11_soldTo RX11 44 12 4 true (.object "BasketOffers$Ledger") := ⟨(RX11, TX11, 7), tyX11, rfl, by decide, by decide +kernel, by decide +kernel, tyX11_ok, nmX11, rfl, by decide +kernel, by decide +kernel⟩
theorem fX11_giveBack_44 : jF wsX11_giveBack RX11 44 12 4 true (.object "BasketOffers$Ledger") := ⟨(RX11, TX11, 7), tyX11, rfl, by decide, by decide +kernel, by decide +kernel, tyX11_ok, nmX11, rfl, by decide +kernel, by decide +kernel⟩
/-! METHODS THAT RETURN OR THROW: the contract jT, its walk, the rule of a throw site (new X; dup; ldc; <init>; athrow). -/
def jStrL : List (String × Nat × String) := [("BasketOffers", 54, "the kind or the price is out of range"), ("BasketOffers", 65, "there is no room for another item"), ("BasketOffers", 82, "the item is not in the basket"), ("BasketOffers", 93, "there is no such customer"), ("BasketOffers", 109, "a number is out of range"), ("BasketOffers", 114, "there is no room for another offer"), ("BasketOffers", 142, "there is no such offer"), ("BasketOffers", 157, "there are too many items in the basket"), ("BasketOffers", 181, "the basket is empty"), ("BasketOffers", 204, "the item was never sold"), ("BasketOffers", 209, "the item was given back"), ("BasketOffers", 229, "nothing was sold")]
def jExcL : List String := ["java/lang/IllegalArgumentException", "java/lang/IllegalStateException", "java/util/NoSuchElementException", "java/lang/IndexOutOfBoundsException", "java/lang/UnsupportedOperationException", "java/lang/ArithmeticException"]
def jDeclL : List MethodName := [⟨"java/lang/RuntimeException", "<init>", "(Ljava/lang/String;)V"⟩, ⟨"java/lang/Exception", "<init>", "(Ljava/lang/String;)V"⟩, ⟨"java/lang/Throwable", "<init>", "(Ljava/lang/String;)V"⟩]
def jNg (cls : String) : List Cond := Cond.castable cls cls :: jDeclL.map Cond.declares
def jThr (A : Nat → Prop) (U : State) : Prop := vx_Zq Bundle.tN "UNASSIGNED_STACK" Bundle.steD A U U.heap ∧ vx_Zq Bundle.tN "SUPPRESSED_SENTINEL" Bundle.listD A U U.heap ∧ (∀ q ∈ jStrL, ∃ sa, vk_R q.1 q.2.1 q.2.2 sa U) ∧ (∀ C ∈ jExcL, va_Nw (.castable C C) U) ∧ (∀ y ∈ jDeclL, va_Nw (.declares y) U)
def jXC (D : va_G) (w0 : va_W) (postX : String → Prop) (A : Nat → Prop) : String → State → State → Prop := fun E st t => postX E ∧ va_P D vwCl w0 t.heap ∧ va_F A st t
def jPt (G : jG) (As : List Value) (w0 : va_W) (sz : Nat) : Array Value → State → Prop := va_Pc As (fun U => U.heap.size = sz ∧ va_P G.2.1 vwCl w0 U.heap ∧ va_K G.2.1 vwCl (jtys G.2.2) U ∧ va_D (fun _ => True) w0 ∧ jNests U ∧ jThr (va_A w0 sz) U)
/-- a contract that returns with post, or throws with postX and changes nothing -/
def jT (G : jG) (d : Nat) (y : MethodName) (Ts : List Cond) (As : List Value) (w0 : va_W) (mc ms : Nat) (post : Option Value → va_W → Prop) (postX : String → Prop) : Prop :=
  ∀ sz : Nat, vx_Met G.1 y Ts (jRm d mc ms) (jPt G As w0 sz) (jQ G.2.1 post (va_A w0 sz)) (jXC G.2.1 w0 postX (va_A w0 sz)) mc ms (va_A w0 sz)
def jTK (G : jG) (X : jX) (w0 : va_W) (mc ms : Nat) (post : Option Value → va_W → Prop) (postX : String → Prop) : Prop := match X with
  | (p, e, R, s, m, args, below, meth, c, A, Q) => (∀ x ∈ c.exceptionTable.toList, False) ∧ jThr A s ∧ (∀ t : State, vx_MQ below (jQ G.2.1 post A) (jXC G.2.1 w0 postX A) args s mc ms A t → Q t) ∧ G.1.stackTraces = false
theorem jT.of {G : jG} (hG : G.1.stackTraces = false) {d mc ms maxL : Nat} {y : MethodName} {Ts Ts' : List Cond} {cc : ByteArray} {ret : Option FieldType} {As : List Value} {w0 : va_W} {post : Option Value → va_W → Prop} {postX : String → Prop} (hTs : Ts = Cond.code y cc maxL ret :: Ts') (hy : plainName y.cls = true) (ls : List (Option Value)) (hls : ls.length = maxL) (hlen : (lg_sl As).length ≤ maxL) (hargs : ∀ (i : Nat) (v : Value), ls[i]? = some (some v) → (i, v) ∈ lv_args 0 As)
    (body : ∀ X : jX, jOK G X y.cls cc Ts ret maxL d mc ms post → jTK G X w0 mc ms post postX → jW G X 0 0 0 ls [] w0) : jT G d y Ts As w0 mc ms post postX := by
  intro sz
  refine vx_ofW (cc := cc) (maxL := maxL) (ret := ret) hy hTs ?_
  intro p e s m args below meth c s₁ B hml htb hv
  obtain ⟨rfl, hsz, hP, hK, hD0, hN, hThr⟩ := hv
  have hts := atoms_spec (ws := Ts) B.pre
  have hown : s.vm.findClass y.cls = some m.cls := findClass_of_methodNamed B.named
  have hlocks := B.notSynchronized
  subst hsz
  have hD := hD0.self (sz := s.heap.size)
  have hl := lv_entry As (n := maxL) hlen
  rw [lg_entry_eq]
  generalize (lg_sl As ++ List.replicate (maxL - (lg_sl As).length) Slot.unset).toArray = la at hl ⊢
  refine body (p, e, (headSpec Ts (jRm d mc ms)).room, s, m, As.toArray, below, meth, c, va_A w0 s.heap.size, vx_MQ below (jQ G.2.1 post (va_A w0 s.heap.size)) (jXC G.2.1 w0 postX (va_A w0 s.heap.size)) As.toArray s mc ms (va_A w0 s.heap.size)) ⟨B.exec, B.bytes, B.returns, hml, hown, hts, hlocks, hK, fun q h => Or.inr h, hN, ⟨Nat.le_refl _, Nat.le_refl _⟩, ⟨rfl, rfl⟩, fun t h => ?_⟩ ⟨htb, hThr, fun t h => h, hG⟩ s.heap [] la hP hD va_S.rf ⟨by rw [hls]; exact hl.1, hl.2.1, fun i v h => hl.2.2 (i, v) (hargs i v h)⟩
  obtain ⟨o, h1, h2, h3, h4⟩ := h
  exact ⟨o, h1, h2, Or.inl ⟨h3, h4⟩⟩
theorem j_throw {G : jG} {X : jX} {own : String} {cc : ByteArray} {Ts : List Cond} {ret : Option FieldType} {nL d mc ms k n pc : Nat} {post : Option Value → va_W → Prop} {postX : String → Prop} {ls : List (Option Value)} {st : List Value} {w0 : va_W} (hX : jOK G X own cc Ts ret nL d mc ms post) (hT : jTK G X w0 mc ms post postX)
    {cls text : String} {names : List String} {ik is ic : Nat} (hcls : Bundle.fit cls = true) (hnames : ∀ n ∈ names, Bundle.fit n = true) (hk : Cond.classLink own ik cls ∈ Ts) (hini : Cond.initialized cls ∈ Ts) (hstr : (own, is, text) ∈ jStrL) (hexc : cls ∈ jExcL)
    (hat : ∀ w ∈ (vx_atS own ic cls names).filter goodWord, w ∈ Ts) (hng : ∀ w ∈ (vx_atS own ic cls names).filter (fun w => !goodWord w), w ∈ jNg cls) (hgood : ∀ w ∈ Cond.classLink own ik cls :: Cond.initialized cls :: vx_atS own ic cls names, vx_ot w = true)
    (d0 : decode cc pc = .ok (.new ik, 3)) (d3 : decode cc (pc + 3) = .ok (.dup, 1)) (d4 : decode cc (pc + 4) = .ok (.ldc is, 2)) (d6 : decode cc (pc + 6) = .ok (.invokespecial ic, 3)) (d9 : decode cc (pc + 9) = .ok (.athrow, 1))
    (hpx : postX cls) (hd : names.length + 4 ≤ d) (hcs : k + 1 ≤ mc ∧ n + 6 ≤ ms) (hcat : (st.map fun v => v.category).sum ≤ 8) (hlen : ls.length = nL) (hn3 : names.length ≤ 3) : jW G X k n pc ls st w0 := by
  obtain ⟨p, e, R, s, m, args, below, meth, c, A, Q⟩ := X
  obtain ⟨hx, hb, hr, hml, hown, hts, hlocks, hK, hA, hN, hRoom, hCell, hQ⟩ := hX
  obtain ⟨htb, ⟨hU, hNN, hst, hex, hdc⟩, hTQ, hl⟩ := hT
  have hB : ∀ w ∈ jNg cls, w.before args s = true := fun w hw => by
    rcases List.mem_cons.mp hw with rfl | hw
    · exact va_Nw.use rfl (hex _ hexc)
    · obtain ⟨y, hy, rfl⟩ := List.mem_map.mp hw
      exact va_Nw.use rfl (hdc y hy)
  intro H locs la hP hD hS hL T hT XT
  obtain ⟨sa, hsa⟩ := hst _ hstr
  obtain ⟨t, h1, h2⟩ := vx_throwS (Qc := jQ G.2.1 post A) (XC := jXC G.2.1 w0 postX A) (mc := mc) (ms := ms) (free := A) (A := A) (text := text) (names := names) (rest := st) hx hb hl hown hcls hnames (hts _ hk) (hts _ hini) hsa (vx_hat (fun w hw => hts w (hat w hw)) hng hB) hgood hU hNN hS (hml ▸ hL.1.trans hlen) d0 d3 d4 d6 d9 (fun x hx => (htb x hx).elim) (by have := hRoom.1; omega) (by have := hRoom.2; omega) (by rw [hCell.1]; exact hcs.1) (by rw [hCell.2]; exact hcs.2) hlocks (fun t _ g1 g2 => ⟨hpx, hP.kept (fun k q hk => g2 _ (hP k q hk).lt), ⟨Nat.le_trans hS.1 g1, fun q hq hqA => (g2 q (Nat.lt_of_lt_of_le hq hS.1)).trans (hS.2.1 q hq hqA)⟩⟩) hS.2.2 hcs.1 hcs.2 T hT XT
  exact ⟨t, h1, hTQ t h2⟩
theorem j_throwN {G : jG} {X : jX} {cc : ByteArray} {Ts : List Cond} {ret : Option FieldType} {nL d mc ms k n pc : Nat} {post : Option Value → va_W → Prop} {postX : String → Prop} {ls : List (Option Value)} {st : List Value} {w0 : va_W} (hX : jOK G X RX11 cc Ts ret nL d mc ms post) (hT : jTK G X w0 mc ms post postX)
    {text : String} {ik is : Nat} (hk : Cond.classLink RX11 ik "java/util/NoSuchElementException" ∈ Ts) (hini : Cond.initialized "java/util/NoSuchElementException" ∈ Ts) (hstr : (RX11, is, text) ∈ jStrL) (hexc : "java/util/NoSuchElementException" ∈ jExcL)
    (hat : ∀ w ∈ nx_at.filter goodWord, w ∈ Ts) (hng : ∀ w ∈ nx_at.filter (fun w => !goodWord w), w ∈ jNg "java/util/NoSuchElementException") (hgood : ∀ w ∈ Cond.classLink RX11 ik "java/util/NoSuchElementException" :: Cond.initialized "java/util/NoSuchElementException" :: nx_at, vx_ot w = true)
    (d0 : decode cc pc = .ok (.new ik, 3)) (d3 : decode cc (pc + 3) = .ok (.dup, 1)) (d4 : decode cc (pc + 4) = .ok (.ldc is, 2)) (d6 : decode cc (pc + 6) = .ok (.invokespecial 84, 3)) (d9 : decode cc (pc + 9) = .ok (.athrow, 1))
    (hpx : postX "java/util/NoSuchElementException") (hd : 6 ≤ d) (hcs : k + 1 ≤ mc ∧ n + 6 ≤ ms) (hcat : (st.map fun v => v.category).sum ≤ 8) (hlen : ls.length = nL) : jW G X k n pc ls st w0 := by
  obtain ⟨p, e, R, s, m, args, below, meth, c, A, Q⟩ := X
  obtain ⟨hx, hb, hr, hml, hown, hts, hlocks, hK, hA, hN, hRoom, hCell, hQ⟩ := hX
  obtain ⟨htb, ⟨hU, hNN, hst, hex, hdc⟩, hTQ, hl⟩ := hT
  have hB : ∀ w ∈ jNg "java/util/NoSuchElementException", w.before args s = true := fun w hw => by
    rcases List.mem_cons.mp hw with rfl | hw
    · exact va_Nw.use rfl (hex _ hexc)
    · obtain ⟨y, hy, rfl⟩ := List.mem_map.mp hw
      exact va_Nw.use rfl (hdc y hy)
  intro H locs la hP hD hS hL T hT XT
  obtain ⟨sa, hsa⟩ := hst _ hstr
  obtain ⟨t, h1, h2⟩ := nx_throw (Qc := jQ G.2.1 post A) (XC := jXC G.2.1 w0 postX A) (mc := mc) (ms := ms) (free := A) (A := A) (text := text) (ik := ik) (is := is) (rest := st) hx hb hl hown (hts _ hk) (hts _ hini) hsa (vx_hat (fun w hw => hts w (hat w hw)) hng hB) hgood hU hNN hS (hml ▸ hL.1.trans hlen) d0 d3 d4 d6 d9 (fun x hx => (htb x hx).elim) (by have := hRoom.1; omega) (by have := hRoom.2; omega) (by rw [hCell.1]; exact hcs.1) (by rw [hCell.2]; exact hcs.2) hlocks (fun t _ g1 g2 => ⟨hpx, hP.kept (fun k q hk => g2 _ (hP k q hk).lt), ⟨Nat.le_trans hS.1 g1, fun q hq hqA => (g2 q (Nat.lt_of_lt_of_le hq hS.1)).trans (hS.2.1 q hq hqA)⟩⟩) hS.2.2 hcs.1 hcs.2 T hT XT
  exact ⟨t, h1, hTQ t h2⟩
theorem x56_ng : ∀ w ∈ (vx_atS RX11 56 "java/lang/IllegalArgumentException" ["java/lang/RuntimeException", "java/lang/Exception"]).filter (fun w => !goodWord w), w ∈ jNg "java/lang/IllegalArgumentException" := by decide +kernel
theorem x56_good : ∀ w ∈ Cond.classLink RX11 52 "java/lang/IllegalArgumentException" :: Cond.initialized "java/lang/IllegalArgumentException" :: vx_atS RX11 56 "java/lang/IllegalArgumentException" ["java/lang/RuntimeException", "java/lang/Exception"], vx_ot w = true := by decide +kernel
theorem x67_ng : ∀ w ∈ (vx_atS RX11 67 "java/lang/IllegalStateException" ["java/lang/RuntimeException", "java/lang/Exception"]).filter (fun w => !goodWord w), w ∈ jNg "java/lang/IllegalStateException" := by decide +kernel
theorem x67_good : ∀ w ∈ Cond.classLink RX11 63 "java/lang/IllegalStateException" :: Cond.initialized "java/lang/IllegalStateException" :: vx_atS RX11 67 "java/lang/IllegalStateException" ["java/lang/RuntimeException", "java/lang/Exception"], vx_ot w = true := by decide +kernel
theorem x84_ng : ∀ w ∈ nx_at.filter (fun w => !goodWord w), w ∈ jNg "java/util/NoSuchElementException" := by decide +kernel
theorem x84_good : ∀ w ∈ Cond.classLink RX11 80 "java/util/NoSuchElementException" :: Cond.initialized "java/util/NoSuchElementException" :: nx_at, vx_ot w = true := by decide +kernel
theorem x144_ng : ∀ w ∈ (vx_atS RX11 144 "java/lang/IndexOutOfBoundsException" ["java/lang/RuntimeException", "java/lang/Exception"]).filter (fun w => !goodWord w), w ∈ jNg "java/lang/IndexOutOfBoundsException" := by decide +kernel
theorem x144_good : ∀ w ∈ Cond.classLink RX11 140 "java/lang/IndexOutOfBoundsException" :: Cond.initialized "java/lang/IndexOutOfBoundsException" :: vx_atS RX11 144 "java/lang/IndexOutOfBoundsException" ["java/lang/RuntimeException", "java/lang/Exception"], vx_ot w = true := by decide +kernel
theorem x159_ng : ∀ w ∈ (vx_atS RX11 159 "java/lang/UnsupportedOperationException" ["java/lang/RuntimeException", "java/lang/Exception"]).filter (fun w => !goodWord w), w ∈ jNg "java/lang/UnsupportedOperationException" := by decide +kernel
theorem x159_good : ∀ w ∈ Cond.classLink RX11 155 "java/lang/UnsupportedOperationException" :: Cond.initialized "java/lang/UnsupportedOperationException" :: vx_atS RX11 159 "java/lang/UnsupportedOperationException" ["java/lang/RuntimeException", "java/lang/Exception"], vx_ot w = true := by decide +kernel
theorem x231_ng : ∀ w ∈ (vx_atS RX11 231 "java/lang/ArithmeticException" ["java/lang/RuntimeException", "java/lang/Exception"]).filter (fun w => !goodWord w), w ∈ jNg "java/lang/ArithmeticException" := by decide +kernel
theorem x231_good : ∀ w ∈ Cond.classLink RX11 227 "java/lang/ArithmeticException" :: Cond.initialized "java/lang/ArithmeticException" :: vx_atS RX11 231 "java/lang/ArithmeticException" ["java/lang/RuntimeException", "java/lang/Exception"], vx_ot w = true := by decide +kernel
theorem keepF_V (s : VM) (d o : Int32) {k : Nat} (h5 : Nat.beq k 5 = false) (h6 : Nat.beq k 6 = false) : (keepF s d o).1 k = s.1 k := (sV_ne h5).trans (sV_ne h6)
theorem decF_V (st : Nat → Nat) {k : Nat} (h5 : Nat.beq k 5 = false) (h6 : Nat.beq k 6 = false) : ∀ (f p : Nat) (free disc taken : Int32) (s : VM), (decF st f p free disc taken s).1 k = s.1 k
  | 0, _, _, _, _, _ => rfl
  | f + 1, p, free, disc, taken, s => by
    have hE : ∀ s : VM, (decE (decF st f) p free disc taken s).1 k = s.1 k := fun s => decF_V st h5 h6 f _ _ _ _ _
    have hS : ∀ i (s : VM), (decS (decF st f) st p free disc taken i s).1 k = s.1 k := by
      intro i s
      unfold decS
      split
      · rfl
      · exact decF_V st h5 h6 f _ _ _ _ _
    rw [decF]
    split
    · split
      · split
        · exact hE s
        · exact (hE _).trans (itr_V hS s _)
      · exact keepF_V _ _ _ h5 h6
    · rfl
theorem preF_V (os : Nat → ofr) (o n : Nat) (c : Int32) (s : VM) {k : Nat} (h6 : Nat.beq k 6 = false) (h7 : Nat.beq k 7 = false) (h8 : Nat.beq k 8 = false) : (preF os o n c s).1 k = s.1 k := (sV_ne h6).trans ((sV_ne h7).trans (sV_ne h8))
theorem runF_V (os : Nat → ofr) (o n : Nat) (c : Int32) (s : VM) {k : Nat} (h5 : Nat.beq k 5 = false) (h6 : Nat.beq k 6 = false) (h7 : Nat.beq k 7 = false) (h8 : Nat.beq k 8 = false) (h9 : Nat.beq k 9 = false) : (runF os o n c s).1 k = s.1 k := (decF_V _ h5 h6 _ _ _ _ _ _).trans ((preF_V os o n c _ h6 h7 h8).trans (fillF_V os o n c s k h9))
set_option maxHeartbeats 4000000 in
set_option maxRecDepth 100000 in
theorem c_X11_findBest (G : jG) (ad : Nat → Nat) (V : Nat → Int32) (M : Nat → Nat → Int32) (os : Nat → ofr) (o : Nat) (n : Nat) (hsz : V 2 = nI n) (hn : n ≤ 7) (hso : V 4 = nI o) (ho6 : o ≤ 6) (hos : ∀ j, j < o → okO (os j)) : jD G 13 yX11_findBest wsX11_findBest [.ref (ad 0)] (wC G ad V M (enO ad o) (wO ad os o)) none (wC G ad (findF os o n (V, M)).1 (findF os o n (V, M)).2 (enO ad o) (wO ad os o)) := by
  refine jC.of (maxL := 1) (cc := cX11_findBest) (ret := none) rfl (by decide) [some (.ref (ad 0))] rfl (Nat.le_of_ble_eq_true rfl) (j_args rfl) (fun X hX => ?_)
  refine j_aload_n hX dX11_findBest_0 rfl ?_
  refine j_getf hX (v := .int (V 1)) dX11_findBest_1 fX11_findBest_68 0 (wCg0 _ _ _ _ _ _) rfl ?_
  refine j_if_eq hX (tgt := 8) dX11_findBest_4 (by decide) (fun h4 => ?_) (fun h4 => ?_)
  · refine j_aload_n hX dX11_findBest_8 rfl ?_
    refine j_getf hX (v := .ref (ad 11)) dX11_findBest_9 fX11_findBest_28 0 (wCg0 _ _ _ _ _ _) rfl ?_
    refine j_aload_n hX dX11_findBest_12 rfl ?_
    refine j_getf hX (v := .int (V 0)) dX11_findBest_13 fX11_findBest_95 0 (wCg0 _ _ _ _ _ _) rfl ?_
    refine j_dV hX (nA := 1) (cq := (RX8, TX8, 12)) (As := [.int (V 0)]) (st := []) (st' := []) (ci := 9) rfl dX11_findBest_16 (c_X8_run G _ _ _ _ _ _ n hsz hn hso ho6 hos) gX11_findBest_X8_run rfl (by decide +kernel) (q := 11) (wCg11 _ _ _ _ _ _) (by omega) (Nat.le_of_ble_eq_true rfl) rfl (Nat.le_of_ble_eq_true rfl) rfl ⟨Nat.le_refl _, Nat.le_refl _⟩ rfl ?_
    refine j_aload_n hX dX11_findBest_19 rfl ?_
    refine j_getf hX (v := .ref (ad 22)) dX11_findBest_20 fX11_findBest_37 0 (wCg0 _ _ _ _ _ _) rfl ?_
    refine j_dV hX (nA := 0) (cq := (RX1, TX1, 4)) (As := []) (st := []) (st' := []) (ci := 3) rfl dX11_findBest_23 (c_X1_write G _ _ _ _ _ n ((runF_V _ _ _ _ _ rfl rfl rfl rfl rfl).trans hsz) hn) gX11_findBest_X1_write rfl (by decide +kernel) (q := 22) (wCg22 _ _ _ _ _ _) (by omega) (Nat.le_of_ble_eq_true rfl) rfl (Nat.le_of_ble_eq_true rfl) rfl ⟨Nat.le_refl _, Nat.le_refl _⟩ rfl ?_
    refine j_aload_n hX dX11_findBest_26 rfl ?_
    refine j_iconst hX (v := 1) (by decide) dX11_findBest_27 ?_
    refine j_putf hX (ws' := (wC G ad (sV (runF os o n (V 0) (V, M)).1 1 1) (writeM ((runF os o n (V 0) (V, M)).1) ((runF os o n (V 0) (V, M)).2) n) (enO ad o) (wO ad os o))) dX11_findBest_28 fX11_findBest_68 0 (wCg0 _ _ _ _ _ _) (Nat.le_of_ble_eq_true rfl) (by decide) rfl (wCp0_6 _ _ _ _ _ _ _) ?_
    exact j_vret hX dX11_findBest_31 ⟨rfl, by rw [show findF os o n (V, M) = ((sV (runF os o n (V 0) (V, M)).1 1 1), (writeM ((runF os o n (V 0) (V, M)).1) ((runF os o n (V 0) (V, M)).2) n)) from (if_pos h4)]⟩
  · exact j_vret hX dX11_findBest_7 ⟨rfl, by rw [show findF os o n (V, M) = (V, M) from (if_neg h4)]⟩

theorem findF_V (os : Nat → ofr) (o n : Nat) (s : VM) {k : Nat} (h1 : Nat.beq k 1 = false) (h5 : Nat.beq k 5 = false) (h6 : Nat.beq k 6 = false) (h7 : Nat.beq k 7 = false) (h8 : Nat.beq k 8 = false) (h9 : Nat.beq k 9 = false) : (findF os o n s).1 k = s.1 k := by
  unfold findF
  split
  · exact (sV_ne h1).trans (runF_V os o n _ s h5 h6 h7 h8 h9)
  · rfl
def termsV (l g : Int32) : Int32 := if withinV l 1 9 = 0 then 0 else if withinV g (-1) 3 = 0 then 0 else 1
set_option maxHeartbeats 4000000 in
set_option maxRecDepth 100000 in
theorem c_X11_areTerms (G : jG) {w : va_W} (l g : Int32) : jD G 1 yX11_areTerms wsX11_areTerms [.int l, .int g] w (some (.int (termsV l g))) w := by
  refine jC.of (maxL := 2) (cc := cX11_areTerms) (ret := (some .boolean)) rfl (by decide) [some (.int l), some (.int g)] rfl (Nat.le_of_ble_eq_true rfl) (j_args rfl) (fun X hX => ?_)
  refine j_iload_n hX dX11_areTerms_0 rfl ?_
  refine j_iconst hX (v := 1) (by decide) dX11_areTerms_1 ?_
  refine j_bipush hX (v := 9) (by decide) dX11_areTerms_2 ?_
  refine j_dS hX (nA := 3) (As := [.int l, .int 1, .int 9]) (st := []) (st' := [.int (withinV l 1 9)]) dX11_areTerms_4 (c_isWithin G) gX11_areTerms_X11_isWithin rfl (by decide +kernel) (by omega) (Nat.le_of_ble_eq_true rfl) rfl (Nat.le_of_ble_eq_true rfl) rfl ⟨Nat.le_refl _, Nat.le_refl _⟩ rfl ?_
  refine j_if_eq hX (tgt := 23) dX11_areTerms_7 (by decide) (fun h7 => ?_) (fun h7 => ?_)
  · refine j_iconst hX (v := 0) (by decide) dX11_areTerms_23 ?_
    exact j_zret hX (by decide) dX11_areTerms_24 ⟨(congrArg (fun z => some (Value.int z)) (show termsV l g = 0 from (if_pos h7))).symm, rfl⟩
  · refine j_iload_n hX dX11_areTerms_10 rfl ?_
    refine j_iconst hX (v := -1) (by decide) dX11_areTerms_11 ?_
    refine j_iconst hX (v := 3) (by decide) dX11_areTerms_12 ?_
    refine j_dS hX (nA := 3) (As := [.int g, .int (-1), .int 3]) (st := []) (st' := [.int (withinV g (-1) 3)]) dX11_areTerms_13 (c_isWithin G) gX11_areTerms_X11_isWithin rfl (by decide +kernel) (by omega) (Nat.le_of_ble_eq_true rfl) rfl (Nat.le_of_ble_eq_true rfl) rfl ⟨Nat.le_refl _, Nat.le_refl _⟩ rfl ?_
    refine j_if_eq hX (tgt := 23) dX11_areTerms_16 (by decide) (fun h16 => ?_) (fun h16 => ?_)
    · refine j_iconst hX (v := 0) (by decide) dX11_areTerms_23 ?_
      exact j_zret hX (by decide) dX11_areTerms_24 ⟨(congrArg (fun z => some (Value.int z)) (show termsV l g = 0 from ((if_neg h7).trans (if_pos h16)))).symm, rfl⟩
    · refine j_iconst hX (v := 1) (by decide) dX11_areTerms_19 ?_
      refine j_goto hX (tgt := 24) dX11_areTerms_20 (by decide) ?_
      exact j_zret hX (by decide) dX11_areTerms_24 ⟨(congrArg (fun z => some (Value.int z)) (show termsV l g = 1 from ((if_neg h7).trans (if_neg h16)))).symm, rfl⟩

set_option maxHeartbeats 4000000 in
set_option maxRecDepth 100000 in
theorem c_X11_items (G : jG) (ad : Nat → Nat) (V : Nat → Int32) (M : Nat → Nat → Int32) (en : Nat → Option Nat) (wo : va_W) : jD G 1 yX11_items wsX11_items [.ref (ad 0)] (wC G ad V M en wo) (some (.int (V 2))) (wC G ad V M en wo) := by
  refine jC.of (maxL := 1) (cc := cX11_items) (ret := (some .int)) rfl (by decide) [some (.ref (ad 0))] rfl (Nat.le_of_ble_eq_true rfl) (j_args rfl) (fun X hX => ?_)
  refine j_aload_n hX dX11_items_0 rfl ?_
  refine j_getf hX (v := .ref (ad 1)) dX11_items_1 fX11_items_10 0 (wCg0 _ _ _ _ _ _) rfl ?_
  refine j_dV hX (nA := 0) (cq := (RX0, TX0, 5)) (As := []) (st := []) (st' := [.int (V 2)]) (ci := 2) rfl dX11_items_4 (c_X0_size G _ _ _ _ _) gX11_items_X0_size rfl (by decide +kernel) (q := 1) (wCg1 _ _ _ _ _ _) (by omega) (Nat.le_of_ble_eq_true rfl) rfl (Nat.le_of_ble_eq_true rfl) rfl ⟨Nat.le_refl _, Nat.le_refl _⟩ rfl ?_
  exact j_iret hX dX11_items_7 ⟨rfl, rfl⟩

set_option maxHeartbeats 4000000 in
set_option maxRecDepth 100000 in
theorem c_X11_sum (G : jG) (ad : Nat → Nat) (V : Nat → Int32) (M : Nat → Nat → Int32) (en : Nat → Option Nat) (wo : va_W) (n : Nat) (hsz : V 2 = nI n) (hn : n ≤ 7) : jD G 2 yX11_sum wsX11_sum [.ref (ad 0)] (wC G ad V M en wo) (some (.int (priceOfF (M 4) (maskF n) n))) (wC G ad V M en wo) := by
  refine jC.of (maxL := 1) (cc := cX11_sum) (ret := (some .int)) rfl (by decide) [some (.ref (ad 0))] rfl (Nat.le_of_ble_eq_true rfl) (j_args rfl) (fun X hX => ?_)
  refine j_aload_n hX dX11_sum_0 rfl ?_
  refine j_getf hX (v := .ref (ad 1)) dX11_sum_1 fX11_sum_10 0 (wCg0 _ _ _ _ _ _) rfl ?_
  refine j_aload_n hX dX11_sum_4 rfl ?_
  refine j_getf hX (v := .ref (ad 1)) dX11_sum_5 fX11_sum_10 0 (wCg0 _ _ _ _ _ _) rfl ?_
  refine j_dV hX (nA := 0) (cq := (RX0, TX0, 5)) (As := []) (st := [.ref (ad 1)]) (st' := [.int (maskF n), .ref (ad 1)]) (ci := 2) rfl dX11_sum_8 (c_X0_mask G _ _ _ _ _ n hsz hn) gX11_sum_X0_mask rfl (by decide +kernel) (q := 1) (wCg1 _ _ _ _ _ _) (by omega) (Nat.le_of_ble_eq_true rfl) rfl (Nat.le_of_ble_eq_true rfl) rfl ⟨Nat.le_refl _, Nat.le_refl _⟩ rfl ?_
  refine j_dV hX (nA := 1) (cq := (RX0, TX0, 5)) (As := [.int (maskF n)]) (st := []) (st' := [.int (priceOfF (M 4) (maskF n) n)]) (ci := 2) rfl dX11_sum_11 (c_X0_priceOf G _ _ _ _ _ _ n hsz hn) gX11_sum_X0_priceOf rfl (by decide +kernel) (q := 1) (wCg1 _ _ _ _ _ _) (by omega) (Nat.le_of_ble_eq_true rfl) rfl (Nat.le_of_ble_eq_true rfl) rfl ⟨Nat.le_refl _, Nat.le_refl _⟩ rfl ?_
  exact j_iret hX dX11_sum_14 ⟨rfl, rfl⟩

set_option maxHeartbeats 4000000 in
set_option maxRecDepth 100000 in
theorem c_X11_offers (G : jG) (ad : Nat → Nat) (V : Nat → Int32) (M : Nat → Nat → Int32) (en : Nat → Option Nat) (wo : va_W) : jD G 1 yX11_offers wsX11_offers [.ref (ad 0)] (wC G ad V M en wo) (some (.int (V 4))) (wC G ad V M en wo) := by
  refine jC.of (maxL := 1) (cc := cX11_offers) (ret := (some .int)) rfl (by decide) [some (.ref (ad 0))] rfl (Nat.le_of_ble_eq_true rfl) (j_args rfl) (fun X hX => ?_)
  refine j_aload_n hX dX11_offers_0 rfl ?_
  refine j_getf hX (v := .ref (ad 5)) dX11_offers_1 fX11_offers_19 0 (wCg0 _ _ _ _ _ _) rfl ?_
  refine j_dV hX (nA := 0) (cq := (RX6, TX6, 6)) (As := []) (st := []) (st' := [.int (V 4)]) (ci := 7) rfl dX11_offers_4 (c_X6_size G _ _ _ _ _) gX11_offers_X6_size rfl (by decide +kernel) (q := 5) (wCg5 _ _ _ _ _ _) (by omega) (Nat.le_of_ble_eq_true rfl) rfl (Nat.le_of_ble_eq_true rfl) rfl ⟨Nat.le_refl _, Nat.le_refl _⟩ rfl ?_
  exact j_iret hX dX11_offers_7 ⟨rfl, rfl⟩

set_option maxHeartbeats 4000000 in
set_option maxRecDepth 100000 in
theorem c_X11_usesInAll (G : jG) (ad : Nat → Nat) (V : Nat → Int32) (M : Nat → Nat → Int32) (en : Nat → Option Nat) (wo : va_W) : jD G 1 yX11_usesInAll wsX11_usesInAll [.ref (ad 0)] (wC G ad V M en wo) (some (.int (V 14))) (wC G ad V M en wo) := by
  refine jC.of (maxL := 1) (cc := cX11_usesInAll) (ret := (some .int)) rfl (by decide) [some (.ref (ad 0))] rfl (Nat.le_of_ble_eq_true rfl) (j_args rfl) (fun X hX => ?_)
  refine j_aload_n hX dX11_usesInAll_0 rfl ?_
  refine j_getf hX (v := .ref (ad 25)) dX11_usesInAll_1 fX11_usesInAll_44 0 (wCg0 _ _ _ _ _ _) rfl ?_
  refine j_dV hX (nA := 0) (cq := (RX4, TX4, 9)) (As := []) (st := []) (st' := [.int (V 14)]) (ci := 6) rfl dX11_usesInAll_4 (c_X4_usesCounted G _ _ _ _ _) gX11_usesInAll_X4_usesCounted rfl (by decide +kernel) (q := 25) (wCg25 _ _ _ _ _ _) (by omega) (Nat.le_of_ble_eq_true rfl) rfl (Nat.le_of_ble_eq_true rfl) rfl ⟨Nat.le_refl _, Nat.le_refl _⟩ rfl ?_
  exact j_iret hX dX11_usesInAll_7 ⟨rfl, rfl⟩

set_option maxHeartbeats 4000000 in
set_option maxRecDepth 100000 in
theorem c_X11_turnover (G : jG) (ad : Nat → Nat) (V : Nat → Int32) (M : Nat → Nat → Int32) (en : Nat → Option Nat) (wo : va_W) : jD G 1 yX11_turnover wsX11_turnover [.ref (ad 0)] (wC G ad V M en wo) (some (.long ((V 12).toInt64 - (V 13).toInt64))) (wC G ad V M en wo) := by
  refine jC.of (maxL := 1) (cc := cX11_turnover) (ret := (some .long)) rfl (by decide) [some (.ref (ad 0))] rfl (Nat.le_of_ble_eq_true rfl) (j_args rfl) (fun X hX => ?_)
  refine j_aload_n hX dX11_turnover_0 rfl ?_
  refine j_getf hX (v := .ref (ad 25)) dX11_turnover_1 fX11_turnover_44 0 (wCg0 _ _ _ _ _ _) rfl ?_
  refine j_dV hX (nA := 0) (cq := (RX4, TX4, 9)) (As := []) (st := []) (st' := [.long ((V 12).toInt64 - (V 13).toInt64)]) (ci := 6) rfl dX11_turnover_4 (c_X4_kept G _ _ _ _ _) gX11_turnover_X4_kept rfl (by decide +kernel) (q := 25) (wCg25 _ _ _ _ _ _) (by omega) (Nat.le_of_ble_eq_true rfl) rfl (Nat.le_of_ble_eq_true rfl) rfl ⟨Nat.le_refl _, Nat.le_refl _⟩ rfl ?_
  exact j_lret hX dX11_turnover_7 ⟨rfl, rfl⟩

set_option maxHeartbeats 4000000 in
set_option maxRecDepth 100000 in
theorem c_X11_bestDiscount (G : jG) (ad : Nat → Nat) (V : Nat → Int32) (M : Nat → Nat → Int32) (os : Nat → ofr) (o : Nat) (n : Nat) (hsz : V 2 = nI n) (hn : n ≤ 7) (hso : V 4 = nI o) (ho6 : o ≤ 6) (hos : ∀ j, j < o → okO (os j)) : jD G 14 yX11_bestDiscount wsX11_bestDiscount [.ref (ad 0)] (wC G ad V M (enO ad o) (wO ad os o)) (some (.int ((findF os o n (V, M)).1 6))) (wC G ad (findF os o n (V, M)).1 (findF os o n (V, M)).2 (enO ad o) (wO ad os o)) := by
  refine jC.of (maxL := 1) (cc := cX11_bestDiscount) (ret := (some .int)) rfl (by decide) [some (.ref (ad 0))] rfl (Nat.le_of_ble_eq_true rfl) (j_args rfl) (fun X hX => ?_)
  refine j_aload_n hX dX11_bestDiscount_0 rfl ?_
  refine j_dV hX (nA := 0) (cq := (RX11, TX11, 7)) (As := []) (st := []) (st' := []) (ci := 12) rfl dX11_bestDiscount_1 (c_X11_findBest G _ _ _ _ _ n hsz hn hso ho6 hos) gX11_bestDiscount_X11_findBest rfl (by decide +kernel) (q := 0) (wCg0 _ _ _ _ _ _) (by omega) (Nat.le_of_ble_eq_true rfl) rfl (Nat.le_of_ble_eq_true rfl) rfl ⟨Nat.le_refl _, Nat.le_refl _⟩ rfl ?_
  refine j_aload_n hX dX11_bestDiscount_4 rfl ?_
  refine j_getf hX (v := .ref (ad 11)) dX11_bestDiscount_5 fX11_bestDiscount_28 0 (wCg0 _ _ _ _ _ _) rfl ?_
  refine j_dV hX (nA := 0) (cq := (RX8, TX8, 12)) (As := []) (st := []) (st' := [.int ((findF os o n (V, M)).1 6)]) (ci := 9) rfl dX11_bestDiscount_8 (c_X8_discount G _ _ _ _ _) gX11_bestDiscount_X8_discount rfl (by decide +kernel) (q := 11) (wCg11 _ _ _ _ _ _) (by omega) (Nat.le_of_ble_eq_true rfl) rfl (Nat.le_of_ble_eq_true rfl) rfl ⟨Nat.le_refl _, Nat.le_refl _⟩ rfl ?_
  exact j_iret hX dX11_bestDiscount_11 ⟨rfl, rfl⟩

set_option maxHeartbeats 4000000 in
set_option maxRecDepth 100000 in
theorem c_X11_toPay (G : jG) (ad : Nat → Nat) (V : Nat → Int32) (M : Nat → Nat → Int32) (os : Nat → ofr) (o : Nat) (n : Nat) (hsz : V 2 = nI n) (hn : n ≤ 7) (hso : V 4 = nI o) (ho6 : o ≤ 6) (hos : ∀ j, j < o → okO (os j)) : jD G 14 yX11_toPay wsX11_toPay [.ref (ad 0)] (wC G ad V M (enO ad o) (wO ad os o)) (some (.int (mostSum ((findF os o n (V, M)).2 23) (maskF n) 7))) (wC G ad (findF os o n (V, M)).1 (findF os o n (V, M)).2 (enO ad o) (wO ad os o)) := by
  refine jC.of (maxL := 1) (cc := cX11_toPay) (ret := (some .int)) rfl (by decide) [some (.ref (ad 0))] rfl (Nat.le_of_ble_eq_true rfl) (j_args rfl) (fun X hX => ?_)
  refine j_aload_n hX dX11_toPay_0 rfl ?_
  refine j_dV hX (nA := 0) (cq := (RX11, TX11, 7)) (As := []) (st := []) (st' := []) (ci := 12) rfl dX11_toPay_1 (c_X11_findBest G _ _ _ _ _ n hsz hn hso ho6 hos) gX11_toPay_X11_findBest rfl (by decide +kernel) (q := 0) (wCg0 _ _ _ _ _ _) (by omega) (Nat.le_of_ble_eq_true rfl) rfl (Nat.le_of_ble_eq_true rfl) rfl ⟨Nat.le_refl _, Nat.le_refl _⟩ rfl ?_
  refine j_aload_n hX dX11_toPay_4 rfl ?_
  refine j_getf hX (v := .ref (ad 22)) dX11_toPay_5 fX11_toPay_37 0 (wCg0 _ _ _ _ _ _) rfl ?_
  refine j_dV hX (nA := 0) (cq := (RX1, TX1, 4)) (As := []) (st := []) (st' := [.int (mostSum ((findF os o n (V, M)).2 23) (maskF n) 7)]) (ci := 3) rfl dX11_toPay_8 (c_X1_total G _ _ _ _ _ n ((findF_V _ _ _ _ rfl rfl rfl rfl rfl rfl).trans hsz) hn) gX11_toPay_X1_total rfl (by decide +kernel) (q := 22) (wCg22 _ _ _ _ _ _) (by omega) (Nat.le_of_ble_eq_true rfl) rfl (Nat.le_of_ble_eq_true rfl) rfl ⟨Nat.le_refl _, Nat.le_refl _⟩ rfl ?_
  exact j_iret hX dX11_toPay_11 ⟨rfl, rfl⟩

def xput (V : Nat → Int32) (kind price : Int32) : Option String := if withinV kind 0 9 = 0 then some "java/lang/IllegalArgumentException" else if withinV price 1 9999 = 0 then some "java/lang/IllegalArgumentException" else if hasRoomV (V 2) (V 3) = 0 then some "java/lang/IllegalStateException" else none
set_option maxHeartbeats 4000000 in
set_option maxRecDepth 100000 in
theorem c_X11_put (G : jG) (hG : G.1.stackTraces = false) (ad : Nat → Nat) (V : Nat → Int32) (M : Nat → Nat → Int32) (en : Nat → Option Nat) (wo : va_W) (kind price : Int32) : jT G 30 yX11_put wsX11_put [.ref (ad 0), .int kind, .int price] (wC G ad V M en wo) 1 6 (fun rv w => xput V kind price = none ∧ rv = some (.int (V 3)) ∧ w = (wC G ad (sV (sV (sV V 1 0) 2 (V 2 + 1)) 3 (V 3 + 1)) (sM (sM (sM M 2 (setF 7 (M 2) (V 2) (V 3))) 3 (setF 7 (M 3) (V 2) kind)) 4 (setF 7 (M 4) (V 2) price)) en wo)) (fun E => xput V kind price = some E) := by
  refine jT.of hG (maxL := 3) (cc := cX11_put) (ret := (some .int)) rfl (by decide) [some (.ref (ad 0)), some (.int kind), some (.int price)] rfl (Nat.le_of_ble_eq_true rfl) (j_args rfl) (fun X hX hT => ?_)
  refine j_iload_n hX dX11_put_0 rfl ?_
  refine j_iconst hX (v := 0) (by decide) dX11_put_1 ?_
  refine j_bipush hX (v := 9) (by decide) dX11_put_2 ?_
  refine j_dS hX (nA := 3) (As := [.int kind, .int 0, .int 9]) (st := []) (st' := [.int (withinV kind 0 9)]) dX11_put_4 (c_isWithin G) gX11_put_X11_isWithin rfl (by decide +kernel) (by decide) (Nat.le_of_ble_eq_true rfl) rfl (Nat.le_of_ble_eq_true rfl) rfl ⟨by decide, by decide⟩ rfl ?_
  refine j_if_eq hX (tgt := 21) dX11_put_7 (by decide) (fun h7 => ?_) (fun h7 => ?_)
  · exact j_throw hX hT (cls := "java/lang/IllegalArgumentException") (text := "the kind or the price is out of range") (names := ["java/lang/RuntimeException", "java/lang/Exception"]) (ic := 56) (by decide +kernel) (by decide +kernel) (by decide +kernel) (by decide +kernel) (by decide +kernel) (by decide +kernel) (fun w (h : w ∈ (vx_atS RX11 56 "java/lang/IllegalArgumentException" ["java/lang/RuntimeException", "java/lang/Exception"]).filter goodWord) => by unfold wsX11_put; simp only [List.mem_cons, List.mem_append, h, true_or, or_true]) x56_ng x56_good dX11_put_21 dX11_put_24 dX11_put_25 dX11_put_27 dX11_put_30 ((if_pos h7) : xput V kind price = some "java/lang/IllegalArgumentException") (by decide) ⟨by decide, by decide⟩ (Nat.le_of_ble_eq_true rfl) rfl (by decide)
  · refine j_iload_n hX dX11_put_10 rfl ?_
    refine j_iconst hX (v := 1) (by decide) dX11_put_11 ?_
    refine j_sipush hX (v := 9999) (by decide) dX11_put_12 ?_
    refine j_dS hX (nA := 3) (As := [.int price, .int 1, .int 9999]) (st := []) (st' := [.int (withinV price 1 9999)]) dX11_put_15 (c_isWithin G) gX11_put_X11_isWithin rfl (by decide +kernel) (by decide) (Nat.le_of_ble_eq_true rfl) rfl (Nat.le_of_ble_eq_true rfl) rfl ⟨by decide, by decide⟩ rfl ?_
    refine j_if_ne hX (tgt := 31) dX11_put_18 (by decide) (fun h18 => ?_) (fun h18 => ?_)
    · refine j_aload_n hX dX11_put_31 rfl ?_
      refine j_getf hX (v := .ref (ad 1)) dX11_put_32 fX11_put_10 0 (wCg0 _ _ _ _ _ _) rfl ?_
      refine j_dV hX (nA := 0) (cq := (RX0, TX0, 5)) (As := []) (st := []) (st' := [.int (hasRoomV (V 2) (V 3))]) (ci := 2) rfl dX11_put_35 (c_X0_hasRoom G _ _ _ _ _) gX11_put_X0_hasRoom rfl (by decide +kernel) (q := 1) (wCg1 _ _ _ _ _ _) (by decide) (Nat.le_of_ble_eq_true rfl) rfl (Nat.le_of_ble_eq_true rfl) rfl ⟨by decide, by decide⟩ rfl ?_
      refine j_if_ne hX (tgt := 51) dX11_put_38 (by decide) (fun h38 => ?_) (fun h38 => ?_)
      · refine j_aload_n hX dX11_put_51 rfl ?_
        refine j_iconst hX (v := 0) (by decide) dX11_put_52 ?_
        refine j_putf hX (ws' := (wC G ad (sV V 1 0) M en wo)) dX11_put_53 fX11_put_68 0 (wCg0 _ _ _ _ _ _) (Nat.le_of_ble_eq_true rfl) (by decide) rfl (wCp0_6 _ _ _ _ _ _ _) ?_
        refine j_aload_n hX dX11_put_56 rfl ?_
        refine j_getf hX (v := .ref (ad 1)) dX11_put_57 fX11_put_10 0 (wCg0 _ _ _ _ _ _) rfl ?_
        refine j_iload_n hX dX11_put_60 rfl ?_
        refine j_iload_n hX dX11_put_61 rfl ?_
        refine j_dV hX (nA := 2) (cq := (RX0, TX0, 5)) (As := [.int kind, .int price]) (st := []) (st' := [.int (V 3)]) (ci := 2) rfl dX11_put_62 (c_X0_append G _ _ _ _ _ _ _) gX11_put_X0_append rfl (by decide +kernel) (q := 1) (wCg1 _ _ _ _ _ _) (by decide) (Nat.le_of_ble_eq_true rfl) rfl (Nat.le_of_ble_eq_true rfl) rfl ⟨by decide, by decide⟩ rfl ?_
        refine jW.widen (k' := 1) (n' := 6) (by omega) (by omega) ?_
        exact j_iret hX dX11_put_65 ⟨((((if_neg h7).trans (if_neg h18)).trans (if_neg h38)) : xput V kind price = none), rfl, rfl⟩
      · exact j_throw hX hT (cls := "java/lang/IllegalStateException") (text := "there is no room for another item") (names := ["java/lang/RuntimeException", "java/lang/Exception"]) (ic := 67) (by decide +kernel) (by decide +kernel) (by decide +kernel) (by decide +kernel) (by decide +kernel) (by decide +kernel) (fun w (h : w ∈ (vx_atS RX11 67 "java/lang/IllegalStateException" ["java/lang/RuntimeException", "java/lang/Exception"]).filter goodWord) => by unfold wsX11_put; simp only [List.mem_cons, List.mem_append, h, true_or, or_true]) x67_ng x67_good dX11_put_41 dX11_put_44 dX11_put_45 dX11_put_47 dX11_put_50 ((((if_neg h7).trans (if_neg h18)).trans (if_pos h38)) : xput V kind price = some "java/lang/IllegalStateException") (by decide) ⟨by decide, by decide⟩ (Nat.le_of_ble_eq_true rfl) rfl (by decide)
    · exact j_throw hX hT (cls := "java/lang/IllegalArgumentException") (text := "the kind or the price is out of range") (names := ["java/lang/RuntimeException", "java/lang/Exception"]) (ic := 56) (by decide +kernel) (by decide +kernel) (by decide +kernel) (by decide +kernel) (by decide +kernel) (by decide +kernel) (fun w (h : w ∈ (vx_atS RX11 56 "java/lang/IllegalArgumentException" ["java/lang/RuntimeException", "java/lang/Exception"]).filter goodWord) => by unfold wsX11_put; simp only [List.mem_cons, List.mem_append, h, true_or, or_true]) x56_ng x56_good dX11_put_21 dX11_put_24 dX11_put_25 dX11_put_27 dX11_put_30 (((if_neg h7).trans (if_pos h18)) : xput V kind price = some "java/lang/IllegalArgumentException") (by decide) ⟨by decide, by decide⟩ (Nat.le_of_ble_eq_true rfl) rfl (by decide)

def xcust (c : Int32) : Option String := if withinV c 0 3 = 0 then some "java/lang/IllegalArgumentException" else none
set_option maxHeartbeats 4000000 in
set_option maxRecDepth 100000 in
theorem c_X11_setCustomer (G : jG) (hG : G.1.stackTraces = false) (ad : Nat → Nat) (V : Nat → Int32) (M : Nat → Nat → Int32) (en : Nat → Option Nat) (wo : va_W) (c : Int32) : jT G 30 yX11_setCustomer wsX11_setCustomer [.ref (ad 0), .int c] (wC G ad V M en wo) 1 6 (fun rv w => xcust c = none ∧ rv = some (.int (V 0)) ∧ w = (wC G ad (sV (sV V 1 0) 0 c) M en wo)) (fun E => xcust c = some E) := by
  refine jT.of hG (maxL := 3) (cc := cX11_setCustomer) (ret := (some .int)) rfl (by decide) [some (.ref (ad 0)), some (.int c), none] rfl (Nat.le_of_ble_eq_true rfl) (j_args rfl) (fun X hX hT => ?_)
  refine j_iload_n hX dX11_setCustomer_0 rfl ?_
  refine j_iconst hX (v := 0) (by decide) dX11_setCustomer_1 ?_
  refine j_iconst hX (v := 3) (by decide) dX11_setCustomer_2 ?_
  refine j_dS hX (nA := 3) (As := [.int c, .int 0, .int 3]) (st := []) (st' := [.int (withinV c 0 3)]) dX11_setCustomer_3 (c_isWithin G) gX11_setCustomer_X11_isWithin rfl (by decide +kernel) (by decide) (Nat.le_of_ble_eq_true rfl) rfl (Nat.le_of_ble_eq_true rfl) rfl ⟨by decide, by decide⟩ rfl ?_
  refine j_if_ne hX (tgt := 19) dX11_setCustomer_6 (by decide) (fun h6 => ?_) (fun h6 => ?_)
  · refine j_aload_n hX dX11_setCustomer_19 rfl ?_
    refine j_getf hX (v := .int (V 0)) dX11_setCustomer_20 fX11_setCustomer_95 0 (wCg0 _ _ _ _ _ _) rfl ?_
    refine j_istore_n hX (ls' := [some (.ref (ad 0)), some (.int c), some (.int (V 0))]) dX11_setCustomer_23 (Nat.le_of_ble_eq_true rfl) rfl rfl ?_
    refine j_aload_n hX dX11_setCustomer_24 rfl ?_
    refine j_iconst hX (v := 0) (by decide) dX11_setCustomer_25 ?_
    refine j_putf hX (ws' := (wC G ad (sV V 1 0) M en wo)) dX11_setCustomer_26 fX11_setCustomer_68 0 (wCg0 _ _ _ _ _ _) (Nat.le_of_ble_eq_true rfl) (by decide) rfl (wCp0_6 _ _ _ _ _ _ _) ?_
    refine j_aload_n hX dX11_setCustomer_29 rfl ?_
    refine j_iload_n hX dX11_setCustomer_30 rfl ?_
    refine j_putf hX (ws' := (wC G ad (sV (sV V 1 0) 0 c) M en wo)) dX11_setCustomer_31 fX11_setCustomer_95 0 (wCg0 _ _ _ _ _ _) (Nat.le_of_ble_eq_true rfl) rfl rfl (wCp0_5 _ _ _ _ _ _ _) ?_
    refine j_iload_n hX dX11_setCustomer_34 rfl ?_
    refine jW.widen (k' := 1) (n' := 6) (by omega) (by omega) ?_
    exact j_iret hX dX11_setCustomer_35 ⟨((if_neg h6) : xcust c = none), rfl, rfl⟩
  · exact j_throw hX hT (cls := "java/lang/IllegalArgumentException") (text := "there is no such customer") (names := ["java/lang/RuntimeException", "java/lang/Exception"]) (ic := 56) (by decide +kernel) (by decide +kernel) (by decide +kernel) (by decide +kernel) (by decide +kernel) (by decide +kernel) (fun w (h : w ∈ (vx_atS RX11 56 "java/lang/IllegalArgumentException" ["java/lang/RuntimeException", "java/lang/Exception"]).filter goodWord) => by unfold wsX11_setCustomer; simp only [List.mem_cons, List.mem_append, h, true_or, or_true]) x56_ng x56_good dX11_setCustomer_9 dX11_setCustomer_12 dX11_setCustomer_13 dX11_setCustomer_15 dX11_setCustomer_18 ((if_pos h6) : xcust c = some "java/lang/IllegalArgumentException") (by decide) ⟨by decide, by decide⟩ (Nat.le_of_ble_eq_true rfl) rfl (by decide)

theorem posF_cases (f : Nat → Int32) (x : Int32) : ∀ (k i : Nat), posF f x i k = -1 ∨ ∃ p, i ≤ p ∧ p < i + k ∧ posF f x i k = nI p
  | 0, i => Or.inl rfl
  | k + 1, i => by
    rw [posF]
    split
    · exact Or.inr ⟨i, Nat.le_refl _, by omega, rfl⟩
    · rcases posF_cases f x k (i + 1) with h | ⟨p, h1, h2, h3⟩
      · exact Or.inl h
      · exact Or.inr ⟨p, by omega, by omega, h3⟩
theorem posF_at {f : Nat → Int32} {x : Int32} {n : Nat} (h : ¬ posF f x 0 n = -1) (hn : n ≤ 7) : (posF f x 0 n).toNatClampNeg < n ∧ posF f x 0 n = nI (posF f x 0 n).toNatClampNeg := by
  rcases posF_cases f x n 0 with h1 | ⟨p, h1, h2, h3⟩
  · exact absurd h1 h
  · rw [h3, nI_clamp (by omega)]
    exact ⟨by omega, rfl⟩
def xpos (M : Nat → Nat → Int32) (x : Int32) (n : Nat) : Option String := if posF (M 2) x 0 n = -1 then some "java/util/NoSuchElementException" else none
set_option maxHeartbeats 4000000 in
set_option maxRecDepth 100000 in
theorem c_X11_takeOut (G : jG) (hG : G.1.stackTraces = false) (ad : Nat → Nat) (V : Nat → Int32) (M : Nat → Nat → Int32) (en : Nat → Option Nat) (wo : va_W) (x : Int32) (n : Nat) (hsz : V 2 = nI n) (hn : n ≤ 7) : jT G 30 yX11_takeOut wsX11_takeOut [.ref (ad 0), .int x] (wC G ad V M en wo) 1 6 (fun rv w => xpos M x n = none ∧ rv = some (.int (V 2 - 1)) ∧ w = (wC G ad (sV (sV V 1 0) 2 (V 2 - 1)) (sM (sM (sM M 2 (shiftF (M 2) (posF (M 2) x 0 n).toNatClampNeg (n - ((posF (M 2) x 0 n).toNatClampNeg + 1)))) 3 (shiftF (M 3) (posF (M 2) x 0 n).toNatClampNeg (n - ((posF (M 2) x 0 n).toNatClampNeg + 1)))) 4 (shiftF (M 4) (posF (M 2) x 0 n).toNatClampNeg (n - ((posF (M 2) x 0 n).toNatClampNeg + 1)))) en wo)) (fun E => xpos M x n = some E) := by
  refine jT.of hG (maxL := 3) (cc := cX11_takeOut) (ret := (some .int)) rfl (by decide) [some (.ref (ad 0)), some (.int x), none] rfl (Nat.le_of_ble_eq_true rfl) (j_args rfl) (fun X hX hT => ?_)
  refine j_aload_n hX dX11_takeOut_0 rfl ?_
  refine j_getf hX (v := .ref (ad 1)) dX11_takeOut_1 fX11_takeOut_10 0 (wCg0 _ _ _ _ _ _) rfl ?_
  refine j_iload_n hX dX11_takeOut_4 rfl ?_
  refine j_dV hX (nA := 1) (cq := (RX0, TX0, 5)) (As := [.int x]) (st := []) (st' := [.int (posF (M 2) x 0 n)]) (ci := 2) rfl dX11_takeOut_5 (c_X0_positionOf G _ _ _ _ _ _ n hsz hn) gX11_takeOut_X0_positionOf rfl (by decide +kernel) (q := 1) (wCg1 _ _ _ _ _ _) (by decide) (Nat.le_of_ble_eq_true rfl) rfl (Nat.le_of_ble_eq_true rfl) rfl ⟨by decide, by decide⟩ rfl ?_
  refine j_istore_n hX (ls' := [some (.ref (ad 0)), some (.int x), some (.int (posF (M 2) x 0 n))]) dX11_takeOut_8 (Nat.le_of_ble_eq_true rfl) rfl rfl ?_
  refine j_iload_n hX dX11_takeOut_9 rfl ?_
  refine j_iconst hX (v := -1) (by decide) dX11_takeOut_10 ?_
  refine j_icmp_ne hX (tgt := 24) dX11_takeOut_11 (by decide) (fun h11 => ?_) (fun h11 => ?_)
  · refine jW.locals (ls' := [some (.ref (ad 0)), some (.int x), some (.int (nI (posF (M 2) x 0 n).toNatClampNeg))]) (by rw [← (posF_at h11 hn).2]) ?_
    refine j_aload_n hX dX11_takeOut_24 rfl ?_
    refine j_iconst hX (v := 0) (by decide) dX11_takeOut_25 ?_
    refine j_putf hX (ws' := (wC G ad (sV V 1 0) M en wo)) dX11_takeOut_26 fX11_takeOut_68 0 (wCg0 _ _ _ _ _ _) (Nat.le_of_ble_eq_true rfl) (by decide) rfl (wCp0_6 _ _ _ _ _ _ _) ?_
    refine j_aload_n hX dX11_takeOut_29 rfl ?_
    refine j_getf hX (v := .ref (ad 1)) dX11_takeOut_30 fX11_takeOut_10 0 (wCg0 _ _ _ _ _ _) rfl ?_
    refine j_iload_n hX dX11_takeOut_33 rfl ?_
    refine j_dV hX (nA := 1) (cq := (RX0, TX0, 5)) (As := [.int (nI (posF (M 2) x 0 n).toNatClampNeg)]) (st := []) (st' := []) (ci := 2) rfl dX11_takeOut_34 (c_X0_remove G _ _ _ _ _ (posF (M 2) x 0 n).toNatClampNeg n (posF_at h11 hn).1 hsz hn) gX11_takeOut_X0_remove rfl (by decide +kernel) (q := 1) (wCg1 _ _ _ _ _ _) (by decide) (Nat.le_of_ble_eq_true rfl) rfl (Nat.le_of_ble_eq_true rfl) rfl ⟨by decide, by decide⟩ rfl ?_
    refine j_aload_n hX dX11_takeOut_37 rfl ?_
    refine j_getf hX (v := .ref (ad 1)) dX11_takeOut_38 fX11_takeOut_10 0 (wCg0 _ _ _ _ _ _) rfl ?_
    refine j_dV hX (nA := 0) (cq := (RX0, TX0, 5)) (As := []) (st := []) (st' := [.int ((V 2) - 1)]) (ci := 2) rfl dX11_takeOut_41 (c_X0_size G _ _ _ _ _) gX11_takeOut_X0_size rfl (by decide +kernel) (q := 1) (wCg1 _ _ _ _ _ _) (by decide) (Nat.le_of_ble_eq_true rfl) rfl (Nat.le_of_ble_eq_true rfl) rfl ⟨by decide, by decide⟩ rfl ?_
    refine jW.widen (k' := 1) (n' := 6) (by omega) (by omega) ?_
    exact j_iret hX dX11_takeOut_44 ⟨((if_neg h11) : xpos M x n = none), rfl, rfl⟩
  · exact j_throwN hX hT (text := "the item is not in the basket") (by decide +kernel) (by decide +kernel) (by decide +kernel) (by decide +kernel) (fun w (h : w ∈ nx_at.filter goodWord) => by unfold wsX11_takeOut; simp only [List.mem_cons, List.mem_append, h, true_or, or_true]) x84_ng x84_good dX11_takeOut_14 dX11_takeOut_17 dX11_takeOut_18 dX11_takeOut_20 dX11_takeOut_23 ((if_pos h11) : xpos M x n = some "java/util/NoSuchElementException") (by decide) ⟨by decide, by decide⟩ (Nat.le_of_ble_eq_true rfl) rfl

def xoff (V : Nat → Int32) (x : Int32) : Option String := if (if x < 0 then 0 else if V 4 ≤ x then 0 else 1 : Int32) = 0 then some "java/lang/IndexOutOfBoundsException" else none
theorem xoff_at {V : Nat → Int32} {x : Int32} {o : Nat} (hso : V 4 = nI o) (ho : o ≤ 6) (h : ¬ (if x < 0 then 0 else if V 4 ≤ x then 0 else 1 : Int32) = 0) : x.toNatClampNeg < o ∧ x = nI x.toNatClampNeg := by
  rw [hso] at h
  rcases pk_ix x (n := o) (by omega) with h1 | h1 | ⟨j, hj, rfl⟩
  · rw [if_pos h1] at h
    exact absurd rfl h
  · by_cases h0 : x < 0
    · rw [if_pos h0] at h
      exact absurd rfl h
    · rw [if_neg h0, if_pos h1] at h
      exact absurd rfl h
  · rw [nI_clamp (by omega)]
    exact ⟨hj, rfl⟩
set_option maxHeartbeats 4000000 in
set_option maxRecDepth 100000 in
theorem c_X11_left (G : jG) (hG : G.1.stackTraces = false) (ad : Nat → Nat) (V : Nat → Int32) (M : Nat → Nat → Int32) (os : Nat → ofr) (o : Nat) (x : Int32) (hso : V 4 = nI o) (ho6 : o ≤ 6) (hos : ∀ j, j < o → okO (os j)) : jT G 30 yX11_left wsX11_left [.ref (ad 0), .int x] (wC G ad V M (enO ad o) (wO ad os o)) 1 6 (fun rv w => xoff V x = none ∧ rv = some (.int (leftF os o (M 10) (V 0) x.toNatClampNeg)) ∧ w = (wC G ad V M (enO ad o) (wO ad os o))) (fun E => xoff V x = some E) := by
  refine jT.of hG (maxL := 2) (cc := cX11_left) (ret := (some .int)) rfl (by decide) [some (.ref (ad 0)), some (.int x)] rfl (Nat.le_of_ble_eq_true rfl) (j_args rfl) (fun X hX hT => ?_)
  refine j_aload_n hX dX11_left_0 rfl ?_
  refine j_getf hX (v := .ref (ad 5)) dX11_left_1 fX11_left_19 0 (wCg0 _ _ _ _ _ _) rfl ?_
  refine j_iload_n hX dX11_left_4 rfl ?_
  refine j_dV hX (nA := 1) (cq := (RX6, TX6, 6)) (As := [.int x]) (st := []) (st' := [.int (if x < 0 then 0 else if (V 4) ≤ x then 0 else 1)]) (ci := 7) rfl dX11_left_5 (c_X6_has G _ _ _ _ _ _) gX11_left_X6_has rfl (by decide +kernel) (q := 5) (wCg5 _ _ _ _ _ _) (by decide) (Nat.le_of_ble_eq_true rfl) rfl (Nat.le_of_ble_eq_true rfl) rfl ⟨by decide, by decide⟩ rfl ?_
  refine j_if_ne hX (tgt := 21) dX11_left_8 (by decide) (fun h8 => ?_) (fun h8 => ?_)
  · have hxo := xoff_at hso ho6 h8
    refine jW.locals (ls' := [some (.ref (ad 0)), some (.int (nI x.toNatClampNeg))]) (by rw [← hxo.2]) ?_
    refine j_aload_n hX dX11_left_21 rfl ?_
    refine j_getf hX (v := .ref (ad 5)) dX11_left_22 fX11_left_19 0 (wCg0 _ _ _ _ _ _) rfl ?_
    refine j_aload_n hX dX11_left_25 rfl ?_
    refine j_getf hX (v := .int (V 0)) dX11_left_26 fX11_left_95 0 (wCg0 _ _ _ _ _ _) rfl ?_
    refine j_iload_n hX dX11_left_29 rfl ?_
    refine j_dV hX (nA := 2) (cq := (RX6, TX6, 6)) (As := [.int (V 0), .int (nI x.toNatClampNeg)]) (st := []) (st' := [.int (leftF os o (M 10) (V 0) x.toNatClampNeg)]) (ci := 7) rfl dX11_left_30 (c_X6_leftFor G _ _ _ _ _ _ x.toNatClampNeg (by have := hxo.1; omega) ho6 hos) gX11_left_X6_leftFor rfl (by decide +kernel) (q := 5) (wCg5 _ _ _ _ _ _) (by decide) (Nat.le_of_ble_eq_true rfl) rfl (Nat.le_of_ble_eq_true rfl) rfl ⟨by decide, by decide⟩ rfl ?_
    refine jW.widen (k' := 1) (n' := 6) (by omega) (by omega) ?_
    exact j_iret hX dX11_left_33 ⟨((if_neg h8) : xoff V x = none), rfl, rfl⟩
  · exact j_throw hX hT (cls := "java/lang/IndexOutOfBoundsException") (text := "there is no such offer") (names := ["java/lang/RuntimeException", "java/lang/Exception"]) (ic := 144) (by decide +kernel) (by decide +kernel) (by decide +kernel) (by decide +kernel) (by decide +kernel) (by decide +kernel) (fun w (h : w ∈ (vx_atS RX11 144 "java/lang/IndexOutOfBoundsException" ["java/lang/RuntimeException", "java/lang/Exception"]).filter goodWord) => by unfold wsX11_left; simp only [List.mem_cons, List.mem_append, h, true_or, or_true]) x144_ng x144_good dX11_left_11 dX11_left_14 dX11_left_15 dX11_left_17 dX11_left_20 ((if_pos h8) : xoff V x = some "java/lang/IndexOutOfBoundsException") (by decide) ⟨by decide, by decide⟩ (Nat.le_of_ble_eq_true rfl) rfl (by decide)

set_option maxHeartbeats 4000000 in
set_option maxRecDepth 100000 in
theorem c_X11_uses (G : jG) (hG : G.1.stackTraces = false) (ad : Nat → Nat) (V : Nat → Int32) (M : Nat → Nat → Int32) (os : Nat → ofr) (o : Nat) (x : Int32) (n : Nat) (hsz : V 2 = nI n) (hn : n ≤ 7) (hso : V 4 = nI o) (ho6 : o ≤ 6) (hos : ∀ j, j < o → okO (os j)) : jT G 30 yX11_uses wsX11_uses [.ref (ad 0), .int x] (wC G ad V M (enO ad o) (wO ad os o)) 1 6 (fun rv w => xoff V x = none ∧ rv = some (.int (timesV (findF os o n (V, M)).1 (findF os o n (V, M)).2 x)) ∧ w = (wC G ad (findF os o n (V, M)).1 (findF os o n (V, M)).2 (enO ad o) (wO ad os o))) (fun E => xoff V x = some E) := by
  refine jT.of hG (maxL := 2) (cc := cX11_uses) (ret := (some .int)) rfl (by decide) [some (.ref (ad 0)), some (.int x)] rfl (Nat.le_of_ble_eq_true rfl) (j_args rfl) (fun X hX hT => ?_)
  refine j_aload_n hX dX11_uses_0 rfl ?_
  refine j_getf hX (v := .ref (ad 5)) dX11_uses_1 fX11_uses_19 0 (wCg0 _ _ _ _ _ _) rfl ?_
  refine j_iload_n hX dX11_uses_4 rfl ?_
  refine j_dV hX (nA := 1) (cq := (RX6, TX6, 6)) (As := [.int x]) (st := []) (st' := [.int (if x < 0 then 0 else if (V 4) ≤ x then 0 else 1)]) (ci := 7) rfl dX11_uses_5 (c_X6_has G _ _ _ _ _ _) gX11_uses_X6_has rfl (by decide +kernel) (q := 5) (wCg5 _ _ _ _ _ _) (by decide) (Nat.le_of_ble_eq_true rfl) rfl (Nat.le_of_ble_eq_true rfl) rfl ⟨by decide, by decide⟩ rfl ?_
  refine j_if_ne hX (tgt := 21) dX11_uses_8 (by decide) (fun h8 => ?_) (fun h8 => ?_)
  · refine j_aload_n hX dX11_uses_21 rfl ?_
    refine j_dV hX (nA := 0) (cq := (RX11, TX11, 7)) (As := []) (st := []) (st' := []) (ci := 12) rfl dX11_uses_22 (c_X11_findBest G _ _ _ _ _ n hsz hn hso ho6 hos) gX11_uses_X11_findBest rfl (by decide +kernel) (q := 0) (wCg0 _ _ _ _ _ _) (by decide) (Nat.le_of_ble_eq_true rfl) rfl (Nat.le_of_ble_eq_true rfl) rfl ⟨by decide, by decide⟩ rfl ?_
    refine j_aload_n hX dX11_uses_25 rfl ?_
    refine j_getf hX (v := .ref (ad 11)) dX11_uses_26 fX11_uses_28 0 (wCg0 _ _ _ _ _ _) rfl ?_
    refine j_iload_n hX dX11_uses_29 rfl ?_
    refine j_dV hX (nA := 1) (cq := (RX8, TX8, 12)) (As := [.int x]) (st := []) (st' := [.int (timesV ((findF os o n (V, M)).1) ((findF os o n (V, M)).2) x)]) (ci := 9) rfl dX11_uses_30 (c_X8_timesOf G _ _ _ _ _ _) gX11_uses_X8_timesOf rfl (by decide +kernel) (q := 11) (wCg11 _ _ _ _ _ _) (by decide) (Nat.le_of_ble_eq_true rfl) rfl (Nat.le_of_ble_eq_true rfl) rfl ⟨by decide, by decide⟩ rfl ?_
    refine jW.widen (k' := 1) (n' := 6) (by omega) (by omega) ?_
    exact j_iret hX dX11_uses_33 ⟨((if_neg h8) : xoff V x = none), rfl, rfl⟩
  · exact j_throw hX hT (cls := "java/lang/IndexOutOfBoundsException") (text := "there is no such offer") (names := ["java/lang/RuntimeException", "java/lang/Exception"]) (ic := 144) (by decide +kernel) (by decide +kernel) (by decide +kernel) (by decide +kernel) (by decide +kernel) (by decide +kernel) (fun w (h : w ∈ (vx_atS RX11 144 "java/lang/IndexOutOfBoundsException" ["java/lang/RuntimeException", "java/lang/Exception"]).filter goodWord) => by unfold wsX11_uses; simp only [List.mem_cons, List.mem_append, h, true_or, or_true]) x144_ng x144_good dX11_uses_11 dX11_uses_14 dX11_uses_15 dX11_uses_17 dX11_uses_20 ((if_pos h8) : xoff V x = some "java/lang/IndexOutOfBoundsException") (by decide) ⟨by decide, by decide⟩ (Nat.le_of_ble_eq_true rfl) rfl (by decide)

set_option maxHeartbeats 4000000 in
set_option maxRecDepth 100000 in
theorem c_X11_offerOf (G : jG) (hG : G.1.stackTraces = false) (ad : Nat → Nat) (V : Nat → Int32) (M : Nat → Nat → Int32) (os : Nat → ofr) (o : Nat) (x : Int32) (n : Nat) (hsz : V 2 = nI n) (hn : n ≤ 7) (hso : V 4 = nI o) (ho6 : o ≤ 6) (hos : ∀ j, j < o → okO (os j)) : jT G 30 yX11_offerOf wsX11_offerOf [.ref (ad 0), .int x] (wC G ad V M (enO ad o) (wO ad os o)) 1 6 (fun rv w => xpos M x n = none ∧ rv = some (.int (onF (findF os o n (V, M)).2 (posF (M 2) x 0 n) 0 7)) ∧ w = (wC G ad (findF os o n (V, M)).1 (findF os o n (V, M)).2 (enO ad o) (wO ad os o))) (fun E => xpos M x n = some E) := by
  refine jT.of hG (maxL := 3) (cc := cX11_offerOf) (ret := (some .int)) rfl (by decide) [some (.ref (ad 0)), some (.int x), none] rfl (Nat.le_of_ble_eq_true rfl) (j_args rfl) (fun X hX hT => ?_)
  refine j_aload_n hX dX11_offerOf_0 rfl ?_
  refine j_getf hX (v := .ref (ad 1)) dX11_offerOf_1 fX11_offerOf_10 0 (wCg0 _ _ _ _ _ _) rfl ?_
  refine j_iload_n hX dX11_offerOf_4 rfl ?_
  refine j_dV hX (nA := 1) (cq := (RX0, TX0, 5)) (As := [.int x]) (st := []) (st' := [.int (posF (M 2) x 0 n)]) (ci := 2) rfl dX11_offerOf_5 (c_X0_positionOf G _ _ _ _ _ _ n hsz hn) gX11_offerOf_X0_positionOf rfl (by decide +kernel) (q := 1) (wCg1 _ _ _ _ _ _) (by decide) (Nat.le_of_ble_eq_true rfl) rfl (Nat.le_of_ble_eq_true rfl) rfl ⟨by decide, by decide⟩ rfl ?_
  refine j_istore_n hX (ls' := [some (.ref (ad 0)), some (.int x), some (.int (posF (M 2) x 0 n))]) dX11_offerOf_8 (Nat.le_of_ble_eq_true rfl) rfl rfl ?_
  refine j_iload_n hX dX11_offerOf_9 rfl ?_
  refine j_iconst hX (v := -1) (by decide) dX11_offerOf_10 ?_
  refine j_icmp_ne hX (tgt := 24) dX11_offerOf_11 (by decide) (fun h11 => ?_) (fun h11 => ?_)
  · refine j_aload_n hX dX11_offerOf_24 rfl ?_
    refine j_dV hX (nA := 0) (cq := (RX11, TX11, 7)) (As := []) (st := []) (st' := []) (ci := 12) rfl dX11_offerOf_25 (c_X11_findBest G _ _ _ _ _ n hsz hn hso ho6 hos) gX11_offerOf_X11_findBest rfl (by decide +kernel) (q := 0) (wCg0 _ _ _ _ _ _) (by decide) (Nat.le_of_ble_eq_true rfl) rfl (Nat.le_of_ble_eq_true rfl) rfl ⟨by decide, by decide⟩ rfl ?_
    refine j_aload_n hX dX11_offerOf_28 rfl ?_
    refine j_getf hX (v := .ref (ad 11)) dX11_offerOf_29 fX11_offerOf_28 0 (wCg0 _ _ _ _ _ _) rfl ?_
    refine j_iload_n hX dX11_offerOf_32 rfl ?_
    refine j_dV hX (nA := 1) (cq := (RX8, TX8, 12)) (As := [.int (posF (M 2) x 0 n)]) (st := []) (st' := [.int (onF ((findF os o n (V, M)).2) (posF (M 2) x 0 n) 0 7)]) (ci := 9) rfl dX11_offerOf_33 (c_X8_offerOn G _ _ _ _ _ _) gX11_offerOf_X8_offerOn rfl (by decide +kernel) (q := 11) (wCg11 _ _ _ _ _ _) (by decide) (Nat.le_of_ble_eq_true rfl) rfl (Nat.le_of_ble_eq_true rfl) rfl ⟨by decide, by decide⟩ rfl ?_
    refine jW.widen (k' := 1) (n' := 6) (by omega) (by omega) ?_
    exact j_iret hX dX11_offerOf_36 ⟨((if_neg h11) : xpos M x n = none), rfl, rfl⟩
  · exact j_throwN hX hT (text := "the item is not in the basket") (by decide +kernel) (by decide +kernel) (by decide +kernel) (by decide +kernel) (fun w (h : w ∈ nx_at.filter goodWord) => by unfold wsX11_offerOf; simp only [List.mem_cons, List.mem_append, h, true_or, or_true]) x84_ng x84_good dX11_offerOf_14 dX11_offerOf_17 dX11_offerOf_18 dX11_offerOf_20 dX11_offerOf_23 ((if_pos h11) : xpos M x n = some "java/util/NoSuchElementException") (by decide) ⟨by decide, by decide⟩ (Nat.le_of_ble_eq_true rfl) rfl

set_option maxHeartbeats 4000000 in
set_option maxRecDepth 100000 in
theorem c_X11_netPrice (G : jG) (hG : G.1.stackTraces = false) (ad : Nat → Nat) (V : Nat → Int32) (M : Nat → Nat → Int32) (os : Nat → ofr) (o : Nat) (x : Int32) (n : Nat) (hsz : V 2 = nI n) (hn : n ≤ 7) (hso : V 4 = nI o) (ho6 : o ≤ 6) (hos : ∀ j, j < o → okO (os j)) : jT G 30 yX11_netPrice wsX11_netPrice [.ref (ad 0), .int x] (wC G ad V M (enO ad o) (wO ad os o)) 1 6 (fun rv w => xpos M x n = none ∧ rv = some (.int (atF 7 ((findF os o n (V, M)).2 23) (posF (M 2) x 0 n))) ∧ w = (wC G ad (findF os o n (V, M)).1 (findF os o n (V, M)).2 (enO ad o) (wO ad os o))) (fun E => xpos M x n = some E) := by
  refine jT.of hG (maxL := 3) (cc := cX11_netPrice) (ret := (some .int)) rfl (by decide) [some (.ref (ad 0)), some (.int x), none] rfl (Nat.le_of_ble_eq_true rfl) (j_args rfl) (fun X hX hT => ?_)
  refine j_aload_n hX dX11_netPrice_0 rfl ?_
  refine j_getf hX (v := .ref (ad 1)) dX11_netPrice_1 fX11_netPrice_10 0 (wCg0 _ _ _ _ _ _) rfl ?_
  refine j_iload_n hX dX11_netPrice_4 rfl ?_
  refine j_dV hX (nA := 1) (cq := (RX0, TX0, 5)) (As := [.int x]) (st := []) (st' := [.int (posF (M 2) x 0 n)]) (ci := 2) rfl dX11_netPrice_5 (c_X0_positionOf G _ _ _ _ _ _ n hsz hn) gX11_netPrice_X0_positionOf rfl (by decide +kernel) (q := 1) (wCg1 _ _ _ _ _ _) (by decide) (Nat.le_of_ble_eq_true rfl) rfl (Nat.le_of_ble_eq_true rfl) rfl ⟨by decide, by decide⟩ rfl ?_
  refine j_istore_n hX (ls' := [some (.ref (ad 0)), some (.int x), some (.int (posF (M 2) x 0 n))]) dX11_netPrice_8 (Nat.le_of_ble_eq_true rfl) rfl rfl ?_
  refine j_iload_n hX dX11_netPrice_9 rfl ?_
  refine j_iconst hX (v := -1) (by decide) dX11_netPrice_10 ?_
  refine j_icmp_ne hX (tgt := 24) dX11_netPrice_11 (by decide) (fun h11 => ?_) (fun h11 => ?_)
  · refine j_aload_n hX dX11_netPrice_24 rfl ?_
    refine j_dV hX (nA := 0) (cq := (RX11, TX11, 7)) (As := []) (st := []) (st' := []) (ci := 12) rfl dX11_netPrice_25 (c_X11_findBest G _ _ _ _ _ n hsz hn hso ho6 hos) gX11_netPrice_X11_findBest rfl (by decide +kernel) (q := 0) (wCg0 _ _ _ _ _ _) (by decide) (Nat.le_of_ble_eq_true rfl) rfl (Nat.le_of_ble_eq_true rfl) rfl ⟨by decide, by decide⟩ rfl ?_
    refine j_aload_n hX dX11_netPrice_28 rfl ?_
    refine j_getf hX (v := .ref (ad 22)) dX11_netPrice_29 fX11_netPrice_37 0 (wCg0 _ _ _ _ _ _) rfl ?_
    refine j_iload_n hX dX11_netPrice_32 rfl ?_
    refine j_dV hX (nA := 1) (cq := (RX1, TX1, 4)) (As := [.int (posF (M 2) x 0 n)]) (st := []) (st' := [.int (atF 7 ((findF os o n (V, M)).2 23) (posF (M 2) x 0 n))]) (ci := 3) rfl dX11_netPrice_33 (c_X1_netAt G _ _ _ _ _ _) gX11_netPrice_X1_netAt rfl (by decide +kernel) (q := 22) (wCg22 _ _ _ _ _ _) (by decide) (Nat.le_of_ble_eq_true rfl) rfl (Nat.le_of_ble_eq_true rfl) rfl ⟨by decide, by decide⟩ rfl ?_
    refine jW.widen (k' := 1) (n' := 6) (by omega) (by omega) ?_
    exact j_iret hX dX11_netPrice_36 ⟨((if_neg h11) : xpos M x n = none), rfl, rfl⟩
  · exact j_throwN hX hT (text := "the item is not in the basket") (by decide +kernel) (by decide +kernel) (by decide +kernel) (by decide +kernel) (fun w (h : w ∈ nx_at.filter goodWord) => by unfold wsX11_netPrice; simp only [List.mem_cons, List.mem_append, h, true_or, or_true]) x84_ng x84_good dX11_netPrice_14 dX11_netPrice_17 dX11_netPrice_18 dX11_netPrice_20 dX11_netPrice_23 ((if_pos h11) : xpos M x n = some "java/util/NoSuchElementException") (by decide) ⟨by decide, by decide⟩ (Nat.le_of_ble_eq_true rfl) rfl

def xsold (M : Nat → Nat → Int32) (x : Int32) : Option String := if zAt (M 26) x = 0 then some "java/util/NoSuchElementException" else none
def xback (M : Nat → Nat → Int32) (x : Int32) : Option String := if zAt (M 26) x = 0 then some "java/util/NoSuchElementException" else if zAt (M 27) x = 0 then none else some "java/lang/IllegalStateException"
set_option maxHeartbeats 4000000 in
set_option maxRecDepth 100000 in
theorem c_X11_soldTo (G : jG) (hG : G.1.stackTraces = false) (ad : Nat → Nat) (V : Nat → Int32) (M : Nat → Nat → Int32) (en : Nat → Option Nat) (wo : va_W) (x : Int32) : jT G 30 yX11_soldTo wsX11_soldTo [.ref (ad 0), .int x] (wC G ad V M en wo) 1 6 (fun rv w => xsold M x = none ∧ rv = some (.int (atF 60 (M 28) x)) ∧ w = (wC G ad V M en wo)) (fun E => xsold M x = some E) := by
  refine jT.of hG (maxL := 2) (cc := cX11_soldTo) (ret := (some .int)) rfl (by decide) [some (.ref (ad 0)), some (.int x)] rfl (Nat.le_of_ble_eq_true rfl) (j_args rfl) (fun X hX hT => ?_)
  refine j_aload_n hX dX11_soldTo_0 rfl ?_
  refine j_getf hX (v := .ref (ad 25)) dX11_soldTo_1 fX11_soldTo_44 0 (wCg0 _ _ _ _ _ _) rfl ?_
  refine j_iload_n hX dX11_soldTo_4 rfl ?_
  refine j_dV hX (nA := 1) (cq := (RX4, TX4, 9)) (As := [.int x]) (st := []) (st' := [.int (zAt (M 26) x)]) (ci := 6) rfl dX11_soldTo_5 (c_X4_wasSold G _ _ _ _ _ _) gX11_soldTo_X4_wasSold rfl (by decide +kernel) (q := 25) (wCg25 _ _ _ _ _ _) (by decide) (Nat.le_of_ble_eq_true rfl) rfl (Nat.le_of_ble_eq_true rfl) rfl ⟨by decide, by decide⟩ rfl ?_
  refine j_if_ne hX (tgt := 21) dX11_soldTo_8 (by decide) (fun h8 => ?_) (fun h8 => ?_)
  · refine j_aload_n hX dX11_soldTo_21 rfl ?_
    refine j_getf hX (v := .ref (ad 25)) dX11_soldTo_22 fX11_soldTo_44 0 (wCg0 _ _ _ _ _ _) rfl ?_
    refine j_iload_n hX dX11_soldTo_25 rfl ?_
    refine j_dV hX (nA := 1) (cq := (RX4, TX4, 9)) (As := [.int x]) (st := []) (st' := [.int (atF 60 (M 28) x)]) (ci := 6) rfl dX11_soldTo_26 (c_X4_buyerOf G _ _ _ _ _ _) gX11_soldTo_X4_buyerOf rfl (by decide +kernel) (q := 25) (wCg25 _ _ _ _ _ _) (by decide) (Nat.le_of_ble_eq_true rfl) rfl (Nat.le_of_ble_eq_true rfl) rfl ⟨by decide, by decide⟩ rfl ?_
    refine jW.widen (k' := 1) (n' := 6) (by omega) (by omega) ?_
    exact j_iret hX dX11_soldTo_29 ⟨((if_neg h8) : xsold M x = none), rfl, rfl⟩
  · exact j_throwN hX hT (text := "the item was never sold") (by decide +kernel) (by decide +kernel) (by decide +kernel) (by decide +kernel) (fun w (h : w ∈ nx_at.filter goodWord) => by unfold wsX11_soldTo; simp only [List.mem_cons, List.mem_append, h, true_or, or_true]) x84_ng x84_good dX11_soldTo_11 dX11_soldTo_14 dX11_soldTo_15 dX11_soldTo_17 dX11_soldTo_20 ((if_pos h8) : xsold M x = some "java/util/NoSuchElementException") (by decide) ⟨by decide, by decide⟩ (Nat.le_of_ble_eq_true rfl) rfl

set_option maxHeartbeats 4000000 in
set_option maxRecDepth 100000 in
theorem c_X11_giveBack (G : jG) (hG : G.1.stackTraces = false) (ad : Nat → Nat) (V : Nat → Int32) (M : Nat → Nat → Int32) (en : Nat → Option Nat) (wo : va_W) (x : Int32) : jT G 30 yX11_giveBack wsX11_giveBack [.ref (ad 0), .int x] (wC G ad V M en wo) 1 6 (fun rv w => xback M x = none ∧ rv = some (.int (atF 60 (M 29) x)) ∧ w = (wC G ad (backF (V, M) x).1 (backF (V, M) x).2 en wo)) (fun E => xback M x = some E) := by
  refine jT.of hG (maxL := 2) (cc := cX11_giveBack) (ret := (some .int)) rfl (by decide) [some (.ref (ad 0)), some (.int x)] rfl (Nat.le_of_ble_eq_true rfl) (j_args rfl) (fun X hX hT => ?_)
  refine j_aload_n hX dX11_giveBack_0 rfl ?_
  refine j_getf hX (v := .ref (ad 25)) dX11_giveBack_1 fX11_giveBack_44 0 (wCg0 _ _ _ _ _ _) rfl ?_
  refine j_iload_n hX dX11_giveBack_4 rfl ?_
  refine j_dV hX (nA := 1) (cq := (RX4, TX4, 9)) (As := [.int x]) (st := []) (st' := [.int (zAt (M 26) x)]) (ci := 6) rfl dX11_giveBack_5 (c_X4_wasSold G _ _ _ _ _ _) gX11_giveBack_X4_wasSold rfl (by decide +kernel) (q := 25) (wCg25 _ _ _ _ _ _) (by decide) (Nat.le_of_ble_eq_true rfl) rfl (Nat.le_of_ble_eq_true rfl) rfl ⟨by decide, by decide⟩ rfl ?_
  refine j_if_ne hX (tgt := 21) dX11_giveBack_8 (by decide) (fun h8 => ?_) (fun h8 => ?_)
  · refine j_aload_n hX dX11_giveBack_21 rfl ?_
    refine j_getf hX (v := .ref (ad 25)) dX11_giveBack_22 fX11_giveBack_44 0 (wCg0 _ _ _ _ _ _) rfl ?_
    refine j_iload_n hX dX11_giveBack_25 rfl ?_
    refine j_dV hX (nA := 1) (cq := (RX4, TX4, 9)) (As := [.int x]) (st := []) (st' := [.int (zAt (M 27) x)]) (ci := 6) rfl dX11_giveBack_26 (c_X4_wasGivenBack G _ _ _ _ _ _) gX11_giveBack_X4_wasGivenBack rfl (by decide +kernel) (q := 25) (wCg25 _ _ _ _ _ _) (by decide) (Nat.le_of_ble_eq_true rfl) rfl (Nat.le_of_ble_eq_true rfl) rfl ⟨by decide, by decide⟩ rfl ?_
    refine j_if_eq hX (tgt := 42) dX11_giveBack_29 (by decide) (fun h29 => ?_) (fun h29 => ?_)
    · refine j_aload_n hX dX11_giveBack_42 rfl ?_
      refine j_getf hX (v := .ref (ad 25)) dX11_giveBack_43 fX11_giveBack_44 0 (wCg0 _ _ _ _ _ _) rfl ?_
      refine j_iload_n hX dX11_giveBack_46 rfl ?_
      refine j_dV hX (nA := 1) (cq := (RX4, TX4, 9)) (As := [.int x]) (st := []) (st' := [.int (atF 60 (M 29) x)]) (ci := 6) rfl dX11_giveBack_47 (c_X4_enterReturn G _ _ _ _ _ _) gX11_giveBack_X4_enterReturn rfl (by decide +kernel) (q := 25) (wCg25 _ _ _ _ _ _) (by decide) (Nat.le_of_ble_eq_true rfl) rfl (Nat.le_of_ble_eq_true rfl) rfl ⟨by decide, by decide⟩ rfl ?_
      refine jW.widen (k' := 1) (n' := 6) (by omega) (by omega) ?_
      exact j_iret hX dX11_giveBack_50 ⟨(((if_neg h8).trans (if_pos h29)) : xback M x = none), rfl, rfl⟩
    · exact j_throw hX hT (cls := "java/lang/IllegalStateException") (text := "the item was given back") (names := ["java/lang/RuntimeException", "java/lang/Exception"]) (ic := 67) (by decide +kernel) (by decide +kernel) (by decide +kernel) (by decide +kernel) (by decide +kernel) (by decide +kernel) (fun w (h : w ∈ (vx_atS RX11 67 "java/lang/IllegalStateException" ["java/lang/RuntimeException", "java/lang/Exception"]).filter goodWord) => by unfold wsX11_giveBack; simp only [List.mem_cons, List.mem_append, h, true_or, or_true]) x67_ng x67_good dX11_giveBack_32 dX11_giveBack_35 dX11_giveBack_36 dX11_giveBack_38 dX11_giveBack_41 (((if_neg h8).trans (if_neg h29)) : xback M x = some "java/lang/IllegalStateException") (by decide) ⟨by decide, by decide⟩ (Nat.le_of_ble_eq_true rfl) rfl (by decide)
  · exact j_throwN hX hT (text := "the item was never sold") (by decide +kernel) (by decide +kernel) (by decide +kernel) (by decide +kernel) (fun w (h : w ∈ nx_at.filter goodWord) => by unfold wsX11_giveBack; simp only [List.mem_cons, List.mem_append, h, true_or, or_true]) x84_ng x84_good dX11_giveBack_11 dX11_giveBack_14 dX11_giveBack_15 dX11_giveBack_17 dX11_giveBack_20 ((if_pos h8) : xback M x = some "java/util/NoSuchElementException") (by decide) ⟨by decide, by decide⟩ (Nat.le_of_ble_eq_true rfl) rfl

