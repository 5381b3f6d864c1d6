theorem fX0_init_9 : jF wsX0_init RX0 9 2 0 true (.array .int) := ⟨(RX0, TX0, 5), tyX0, rfl, by decide, by decide +kernel, by decide +kernel, tyX0_ok, nmX0, rfl, by decide +kernel, by decide +kernel⟩
theorem fX0_init_15 : jF wsX0_init RX0 15 2 1 true (.array .int) := ⟨(RX0, TX0, 5), tyX0, rfl, by decide, by decide +kernel, by decide +kernel, tyX0_ok, nmX0, rfl, by decide +kernel, by decide +kernel⟩
theorem fX0_init_18 : jF wsX0_init RX0 18 2 2 true (.array .int) := ⟨(RX0, TX0, 5), tyX0, rfl, by decide, by decide +kernel, by decide +kernel, tyX0_ok, nmX0, rfl, by decide +kernel, by decide +kernel⟩
theorem fX1_init_9 : jF wsX1_init RX1 9 3 2 true (.array .int) := ⟨(RX1, TX1, 4), tyX1, rfl, by decide, by decide +kernel, by decide +kernel, tyX1_ok, nmX1, rfl, by decide +kernel, by decide +kernel⟩
theorem fX1_init_15 : jF wsX1_init RX1 15 3 3 true (.array .int) := ⟨(RX1, TX1, 4), tyX1, rfl, by decide, by decide +kernel, by decide +kernel, tyX1_ok, nmX1, rfl, by decide +kernel, by decide +kernel⟩
theorem fX1_init_18 : jF wsX1_init RX1 18 3 0 true (.object "BasketOffers$Basket") := ⟨(RX1, TX1, 4), tyX1, rfl, by decide, by decide +kernel, by decide +kernel, tyX1_ok, nmX1, rfl, by decide +kernel, by decide +kernel⟩
theorem fX1_init_22 : jF wsX1_init RX1 22 3 1 true (.object "BasketOffers$Search") := ⟨(RX1, TX1, 4), tyX1, rfl, by decide, by decide +kernel, by decide +kernel, tyX1_ok, nmX1, rfl, by decide +kernel, by decide +kernel⟩
theorem fX4_init_9 : jF wsX4_init RX4 9 6 0 true (.array .boolean) := ⟨(RX4, TX4, 9), tyX4, rfl, by decide, by decide +kernel, by decide +kernel, tyX4_ok, nmX4, rfl, by decide +kernel, by decide +kernel⟩
theorem fX4_init_15 : jF wsX4_init RX4 15 6 1 true (.array .boolean) := ⟨(RX4, TX4, 9), tyX4, rfl, by decide, by decide +kernel, by decide +kernel, tyX4_ok, nmX4, rfl, by decide +kernel, by decide +kernel⟩
theorem fX4_init_18 : jF wsX4_init RX4 18 6 2 true (.array .int) := ⟨(RX4, TX4, 9), tyX4, rfl, by decide, by decide +kernel, by decide +kernel, tyX4_ok, nmX4, rfl, by decide +kernel, by decide +kernel⟩
theorem fX4_init_22 : jF wsX4_init RX4 22 6 3 true (.array .int) := ⟨(RX4, TX4, 9), tyX4, rfl, by decide, by decide +kernel, by decide +kernel, tyX4_ok, nmX4, rfl, by decide +kernel, by decide +kernel⟩
theorem fX6_init_11 : jF wsX6_init RX6 11 7 0 true (.array (.object "BasketOffers$Offer")) := ⟨(RX6, TX6, 6), tyX6, rfl, by decide, by decide +kernel, by decide +kernel, tyX6_ok, nmX6, rfl, by decide +kernel, by decide +kernel⟩
theorem fX6_init_17 : jF wsX6_init RX6 17 7 1 true (.array .int) := ⟨(RX6, TX6, 6), tyX6, rfl, by decide, by decide +kernel, by decide +kernel, tyX6_ok, nmX6, rfl, by decide +kernel, by decide +kernel⟩
theorem fX6_init_21 : jF wsX6_init RX6 21 7 2 true (.array .int) := ⟨(RX6, TX6, 6), tyX6, rfl, by decide, by decide +kernel, by decide +kernel, tyX6_ok, nmX6, rfl, by decide +kernel, by decide +kernel⟩
theorem fX6_init_24 : jF wsX6_init RX6 24 7 3 true (.array .int) := ⟨(RX6, TX6, 6), tyX6, rfl, by decide, by decide +kernel, by decide +kernel, tyX6_ok, nmX6, rfl, by decide +kernel, by decide +kernel⟩
theorem fX6_init_27 : jF wsX6_init RX6 27 7 4 true (.array .int) := ⟨(RX6, TX6, 6), tyX6, rfl, by decide, by decide +kernel, by decide +kernel, tyX6_ok, nmX6, rfl, by decide +kernel, by decide +kernel⟩
theorem fX10_init_11 : jF wsX10_init RX10 11 11 0 true (.array .int) := ⟨(RX10, TX10, 5), tyX10, rfl, by decide, by decide +kernel, by decide +kernel, tyX10_ok, nmX10, rfl, by decide +kernel, by decide +kernel⟩
theorem fX10_init_15 : jF wsX10_init RX10 15 11 1 true (.array .int) := ⟨(RX10, TX10, 5), tyX10, rfl, by decide, by decide +kernel, by decide +kernel, tyX10_ok, nmX10, rfl, by decide +kernel, by decide +kernel⟩
theorem fX10_init_18 : jF wsX10_init RX10 18 11 2 true (.array .int) := ⟨(RX10, TX10, 5), tyX10, rfl, by decide, by decide +kernel, by decide +kernel, tyX10_ok, nmX10, rfl, by decide +kernel, by decide +kernel⟩
theorem fX10_init_21 : jF wsX10_init RX10 21 11 3 true (.array .int) := ⟨(RX10, TX10, 5), tyX10, rfl, by decide, by decide +kernel, by decide +kernel, tyX10_ok, nmX10, rfl, by decide +kernel, by decide +kernel⟩
theorem fX8_init_12 : jF wsX8_init RX8 12 9 2 true (.object "BasketOffers$UseList") := ⟨(RX8, TX8, 12), tyX8, rfl, by decide, by decide +kernel, by decide +kernel, tyX8_ok, nmX8, rfl, by decide +kernel, by decide +kernel⟩
theorem fX8_init_18 : jF wsX8_init RX8 18 9 3 true (.array .int) := ⟨(RX8, TX8, 12), tyX8, rfl, by decide, by decide +kernel, by decide +kernel, tyX8_ok, nmX8, rfl, by decide +kernel, by decide +kernel⟩
theorem fX8_init_22 : jF wsX8_init RX8 22 9 4 true (.array .int) := ⟨(RX8, TX8, 12), tyX8, rfl, by decide, by decide +kernel, by decide +kernel, tyX8_ok, nmX8, rfl, by decide +kernel, by decide +kernel⟩
theorem fX8_init_25 : jF wsX8_init RX8 25 9 5 true (.array .int) := ⟨(RX8, TX8, 12), tyX8, rfl, by decide, by decide +kernel, by decide +kernel, tyX8_ok, nmX8, rfl, by decide +kernel, by decide +kernel⟩
theorem fX8_init_28 : jF wsX8_init RX8 28 9 6 true (.array .int) := ⟨(RX8, TX8, 12), tyX8, rfl, by decide, by decide +kernel, by decide +kernel, tyX8_ok, nmX8, rfl, by decide +kernel, by decide +kernel⟩
theorem fX8_init_31 : jF wsX8_init RX8 31 9 7 true (.array .int) := ⟨(RX8, TX8, 12), tyX8, rfl, by decide, by decide +kernel, by decide +kernel, tyX8_ok, nmX8, rfl, by decide +kernel, by decide +kernel⟩
theorem fX8_init_34 : jF wsX8_init RX8 34 9 0 true (.object "BasketOffers$Basket") := ⟨(RX8, TX8, 12), tyX8, rfl, by decide, by decide +kernel, by decide +kernel, tyX8_ok, nmX8, rfl, by decide +kernel, by decide +kernel⟩
theorem fX8_init_38 : jF wsX8_init RX8 38 9 1 true (.object "BasketOffers$OfferBook") := ⟨(RX8, TX8, 12), tyX8, rfl, by decide, by decide +kernel, by decide +kernel, tyX8_ok, nmX8, rfl, by decide +kernel, by decide +kernel⟩
theorem fX11_init_10 : jF wsX11_init RX11 10 12 0 true (.object "BasketOffers$Basket") := ⟨(RX11, TX11, 7), tyX11, rfl, by decide, by decide +kernel, by decide +kernel, tyX11_ok, nmX11, rfl, by decide +kernel, by decide +kernel⟩
theorem fX11_init_19 : jF wsX11_init RX11 19 12 1 true (.object "BasketOffers$OfferBook") := ⟨(RX11, TX11, 7), tyX11, rfl, by decide, by decide +kernel, by decide +kernel, tyX11_ok, nmX11, rfl, by decide +kernel, by decide +kernel⟩
theorem fX11_init_28 : jF wsX11_init RX11 28 12 2 true (.object "BasketOffers$Search") := ⟨(RX11, TX11, 7), tyX11, rfl, by decide, by decide +kernel, by decide +kernel, tyX11_ok, nmX11, rfl, by decide +kernel, by decide +kernel⟩
theorem fX11_init_37 : jF wsX11_init RX11 37 12 3 true (.object "BasketOffers$Bill") := ⟨(RX11, TX11, 7), tyX11, rfl, by decide, by decide +kernel, by decide +kernel, tyX11_ok, nmX11, rfl, by decide +kernel, by decide +kernel⟩
theorem fX11_init_44 : jF wsX11_init RX11 44 12 4 true (.object "BasketOffers$Ledger") := ⟨(RX11, TX11, 7), tyX11, rfl, by decide, by decide +kernel, by decide +kernel, tyX11_ok, nmX11, rfl, by decide +kernel, by decide +kernel⟩
/-! MAKING: new cells stand behind the others; constructors write final fields. -/
def jNm (X : jX) (nm : String) : Prop := match X with
  | (p, e, R, s, m, args, below, meth, c, A, Q) => meth.name = nm
theorem jC.ofI {G : jG} {d mc ms maxL : Nat} {y : MethodName} {Ts Ts' : List Cond} {cc : ByteArray} {ret : Option FieldType} {As : List Value} {w0 : va_W} {post : Option Value → va_W → Prop} (hTs : Ts = Cond.code y cc maxL ret :: Ts') (hy : plainName y.cls = true) (ls : List (Option Value)) (hls : ls.length = maxL) (hlen : (lg_sl As).length ≤ maxL) (hargs : ∀ (i : Nat) (v : Value), ls[i]? = some (some v) → (i, v) ∈ lv_args 0 As)
    (body : ∀ X : jX, jOK G X y.cls cc Ts ret maxL d mc ms post → jNm X y.name → jW G X 0 0 0 ls [] w0) : jC G d y Ts As w0 mc ms post := by
  intro sz
  refine Met.ofW (cc := cc) (maxL := maxL) (ret := ret) hy hTs ?_
  intro p e s m args below meth c s₁ B hml hv
  obtain ⟨rfl, hsz, hP, hK, hD0, hN⟩ := hv
  have hts := atoms_spec (ws := Ts) B.pre
  have hown : s.vm.findClass y.cls = some m.cls := findClass_of_methodNamed B.named
  have hin : meth.name = y.name := (name_of_methodNamed B.named B.method).1
  have hlocks := B.notSynchronized
  subst hsz
  have hD := hD0.self (sz := s.heap.size)
  have hl := lv_entry As (n := maxL) hlen
  rw [lg_entry_eq]
  generalize (lg_sl As ++ List.replicate (maxL - (lg_sl As).length) Slot.unset).toArray = la at hl ⊢
  refine body (p, e, (headSpec Ts (jRm d mc ms)).room, s, m, As.toArray, below, meth, c, va_A w0 s.heap.size, MQ below (jQ G.2.1 post (va_A w0 s.heap.size)) As.toArray s mc ms (va_A w0 s.heap.size)) ⟨B.exec, B.bytes, B.returns, hml, hown, hts, hlocks, hK, fun q h => Or.inr h, hN, ⟨Nat.le_refl _, Nat.le_refl _⟩, ⟨rfl, rfl⟩, fun t h => h⟩ hin s.heap [] la hP hD va_S.rf ⟨by rw [hls]; exact hl.1, hl.2.1, fun i v h => hl.2.2 (i, v) (hargs i v h)⟩
section JMK
variable {G : jG} {X : jX} {own : String} {cc : ByteArray} {Ts : List Cond} {ret : Option FieldType} {nL d mc ms k n pc : Nat} {post : Option Value → va_W → Prop} {ls : List (Option Value)} {st : List Value} {ws : va_W}
theorem jW.stk {st' : List Value} (h : st = st') (kk : jW G X k n pc ls st' ws) : jW G X k n pc ls st ws := h ▸ kk
theorem j_objInit (hX : jOK G X own cc Ts ret nL d mc ms post) {idx a : Nat} (hd : decode cc pc = .ok (.invokespecial idx, 3)) (h1 : Cond.methodLink own idx objectInit ∈ Ts) (h2 : Cond.instanceMethod objectInit ∈ Ts) (h3 : Cond.code objectInit ⟨#[0xb1]⟩ 1 none ∈ Ts) (hdd : 1 ≤ d) (hlen : ls.length = nL) (hcat : (st.map fun v => v.category).sum ≤ 8) (kk : jW G X k n (pc + 3) ls st ws) : jW G X k n pc ls (.ref a :: st) ws := by
  obtain ⟨p, e, R, s, m, args, below, meth, c, A, Q⟩ := X
  obtain ⟨hx, hb, hr, hml, hown, hts, hlocks, hK, hA, hN, hRoom, hCell, hQ⟩ := hX
  intro H locs la hP hD hS hL
  refine W.objInit hx hb hown (hts _ h1) (hts _ h2) (hts _ h3) rfl (by rw [hml]; exact hL.1.trans hlen) rfl hd (Nat.le_trans hdd hRoom.1) (by have := hRoom.2; show 2 * 0 + _ + 12 ≤ _; omega) ?_
  exact kk H locs la hP hD hS hL
theorem j_new (hX : jOK G X own cc Ts ret nL d mc ms post) {idx ci N : Nat} {C : String} {T : u_T} {fs : List Value} (ty : Nat → FieldType) (hd : decode cc pc = .ok (.new idx, 3)) (hc : vwCl[ci]? = some (C, T, N)) (hin : ∀ w ∈ u_ws C T N, w ∈ Ts) (hty : ∀ k, k < N → parseFieldDescriptor (T k).2.2.1 = some (ty k)) (hcl : Cond.classLink own idx C ∈ Ts) (hinst : Cond.instantiable C N ∈ Ts) (hini : Cond.initialized C ∈ Ts) (hfs : ∀ j, j < N → defaultValue (ty j) = vp_V fs j) (hcs : k + 1 ≤ mc ∧ n + N ≤ ms)
    (kk : ∀ q : Nat, jW G X (k + 1) (n + N) (pc + 3) ls (.ref q :: st) (ws ++ [(q, .inr (ci, fs))])) : jW G X k n pc ls st ws := by
  obtain ⟨p, e, R, s, m, args, below, meth, c, A, Q⟩ := X
  obtain ⟨hx, hb, hr, hml, hown, hts, hlocks, hK, hA, hN, hRoom, hCell, hQ⟩ := hX
  intro H locs la hP hD hS hL
  exact va_new hx hb hts hin ty hty hown (hts _ hcl) (hts _ hinst) (hts _ hini) hK hP hD hS hA hc hfs (by rw [hCell.1]; exact hcs.1) (by rw [hCell.2]; exact hcs.2) hd (fun q H1 hP1 hD1 hS1 => kk q H1 locs la hP1 hD1 hS1 hL)
theorem j_newai (hX : jOK G X own cc Ts ret nL d mc ms post) {x : Int32} {N : Nat} (hd : decode cc pc = .ok (.newarray .int, 2)) (harr : Cond.arrayClass .int ∈ Ts) (hn : ¬ x < 0) (hN0 : x.toNatClampNeg = N) (hbytes : N * componentBytes .int ≤ 536870912) (hcs : k + 1 ≤ mc ∧ n + N ≤ ms)
    (kk : ∀ q : Nat, jW G X (k + 1) (n + N) (pc + 2) ls (.ref q :: st) (ws ++ [(q, .inl (G.2.2 0, N, .inl (fun _ => 0)))])) : jW G X k n pc ls (.int x :: st) ws := by
  obtain ⟨p, e, R, s, m, args, below, meth, c, A, Q⟩ := X
  obtain ⟨hx, hb, hr, hml, hown, hts, hlocks, hK, hA, hN, hRoom, hCell, hQ⟩ := hX
  intro H locs la hP hD hS hL
  refine va_newa (atype := .int) (ty := .int) (N' := N) (a0 := (N, .inl (fun _ => 0))) hx hb (hts _ harr) rfl hK hP hD hS hA (fun _ => rfl) hn hN0 hbytes (by rw [hCell.1]; exact hcs.1) (by rw [hCell.2]; exact hcs.2) hd (fun q cA H1 hK1 hP1 hD1 hS1 => ?_)
  have e1 : s.vm.findClass _ = some cA := (hK1.2 7 (cA, .int) rfl).2
  have e2 : s.vm.findClass _ = some (G.2.2 0) := (hK.2 0 (G.2.2 0, .int) rfl).2
  have e3 : cA = G.2.2 0 := Option.some.inj (e1.symm.trans e2)
  subst e3
  exact kk q H1 locs la hP1 hD1 hS1 hL
theorem j_newaz (hX : jOK G X own cc Ts ret nL d mc ms post) {x : Int32} {N : Nat} (hd : decode cc pc = .ok (.newarray .boolean, 2)) (harr : Cond.arrayClass .boolean ∈ Ts) (hn : ¬ x < 0) (hN0 : x.toNatClampNeg = N) (hbytes : N * componentBytes .boolean ≤ 536870912) (hcs : k + 1 ≤ mc ∧ n + N ≤ ms)
    (kk : ∀ q : Nat, jW G X (k + 1) (n + N) (pc + 2) ls (.ref q :: st) (ws ++ [(q, .inl (G.2.2 2, N, .inl (fun _ => 0)))])) : jW G X k n pc ls (.int x :: st) ws := by
  obtain ⟨p, e, R, s, m, args, below, meth, c, A, Q⟩ := X
  obtain ⟨hx, hb, hr, hml, hown, hts, hlocks, hK, hA, hN, hRoom, hCell, hQ⟩ := hX
  intro H locs la hP hD hS hL
  refine va_newa (atype := .boolean) (ty := .boolean) (N' := N) (a0 := (N, .inl (fun _ => 0))) hx hb (hts _ harr) rfl hK hP hD hS hA (fun _ => rfl) hn hN0 hbytes (by rw [hCell.1]; exact hcs.1) (by rw [hCell.2]; exact hcs.2) hd (fun q cA H1 hK1 hP1 hD1 hS1 => ?_)
  have e1 : s.vm.findClass _ = some cA := (hK1.2 7 (cA, .boolean) rfl).2
  have e2 : s.vm.findClass _ = some (G.2.2 2) := (hK.2 2 (G.2.2 2, .boolean) rfl).2
  have e3 : cA = G.2.2 2 := Option.some.inj (e1.symm.trans e2)
  subst e3
  exact kk q H1 locs la hP1 hD1 hS1 hL
theorem j_newac (hX : jOK G X own cc Ts ret nL d mc ms post) {x : Int32} {N : Nat} (hd : decode cc pc = .ok (.newarray .char, 2)) (harr : Cond.arrayClass .char ∈ Ts) (hn : ¬ x < 0) (hN0 : x.toNatClampNeg = N) (hbytes : N * componentBytes .char ≤ 536870912) (hcs : k + 1 ≤ mc ∧ n + N ≤ ms)
    (kk : ∀ q : Nat, jW G X (k + 1) (n + N) (pc + 2) ls (.ref q :: st) (ws ++ [(q, .inl (G.2.2 1, N, .inl (fun _ => 0)))])) : jW G X k n pc ls (.int x :: st) ws := by
  obtain ⟨p, e, R, s, m, args, below, meth, c, A, Q⟩ := X
  obtain ⟨hx, hb, hr, hml, hown, hts, hlocks, hK, hA, hN, hRoom, hCell, hQ⟩ := hX
  intro H locs la hP hD hS hL
  refine va_newa (atype := .char) (ty := .char) (N' := N) (a0 := (N, .inl (fun _ => 0))) hx hb (hts _ harr) rfl hK hP hD hS hA (fun _ => rfl) hn hN0 hbytes (by rw [hCell.1]; exact hcs.1) (by rw [hCell.2]; exact hcs.2) hd (fun q cA H1 hK1 hP1 hD1 hS1 => ?_)
  have e1 : s.vm.findClass _ = some cA := (hK1.2 7 (cA, .char) rfl).2
  have e2 : s.vm.findClass _ = some (G.2.2 1) := (hK.2 1 (G.2.2 1, .char) rfl).2
  have e3 : cA = G.2.2 1 := Option.some.inj (e1.symm.trans e2)
  subst e3
  exact kk q H1 locs la hP1 hD1 hS1 hL
theorem j_newal (hX : jOK G X own cc Ts ret nL d mc ms post) {x : Int32} {N : Nat} (hd : decode cc pc = .ok (.newarray .long, 2)) (harr : Cond.arrayClass .long ∈ Ts) (hn : ¬ x < 0) (hN0 : x.toNatClampNeg = N) (hbytes : N * componentBytes .long ≤ 536870912) (hcs : k + 1 ≤ mc ∧ n + N ≤ ms)
    (kk : ∀ q : Nat, jW G X (k + 1) (n + N) (pc + 2) ls (.ref q :: st) (ws ++ [(q, .inl (G.2.2 5, N, .inr (.inl (fun _ => 0))))])) : jW G X k n pc ls (.int x :: st) ws := by
  obtain ⟨p, e, R, s, m, args, below, meth, c, A, Q⟩ := X
  obtain ⟨hx, hb, hr, hml, hown, hts, hlocks, hK, hA, hN, hRoom, hCell, hQ⟩ := hX
  intro H locs la hP hD hS hL
  refine va_newa (atype := .long) (ty := .long) (N' := N) (a0 := (N, .inr (.inl (fun _ => 0)))) hx hb (hts _ harr) rfl hK hP hD hS hA (fun _ => rfl) hn hN0 hbytes (by rw [hCell.1]; exact hcs.1) (by rw [hCell.2]; exact hcs.2) hd (fun q cA H1 hK1 hP1 hD1 hS1 => ?_)
  have e1 : s.vm.findClass _ = some cA := (hK1.2 7 (cA, .long) rfl).2
  have e2 : s.vm.findClass _ = some (G.2.2 5) := (hK.2 5 (G.2.2 5, .long) rfl).2
  have e3 : cA = G.2.2 5 := Option.some.inj (e1.symm.trans e2)
  subst e3
  exact kk q H1 locs la hP1 hD1 hS1 hL
theorem j_newad (hX : jOK G X own cc Ts ret nL d mc ms post) {x : Int32} {N : Nat} (hd : decode cc pc = .ok (.newarray .double, 2)) (harr : Cond.arrayClass .double ∈ Ts) (hn : ¬ x < 0) (hN0 : x.toNatClampNeg = N) (hbytes : N * componentBytes .double ≤ 536870912) (hcs : k + 1 ≤ mc ∧ n + N ≤ ms)
    (kk : ∀ q : Nat, jW G X (k + 1) (n + N) (pc + 2) ls (.ref q :: st) (ws ++ [(q, .inl (G.2.2 6, N, .inr (.inr (.inr (.inl (fun _ => 0))))))])) : jW G X k n pc ls (.int x :: st) ws := by
  obtain ⟨p, e, R, s, m, args, below, meth, c, A, Q⟩ := X
  obtain ⟨hx, hb, hr, hml, hown, hts, hlocks, hK, hA, hN, hRoom, hCell, hQ⟩ := hX
  intro H locs la hP hD hS hL
  refine va_newa (atype := .double) (ty := .double) (N' := N) (a0 := (N, .inr (.inr (.inr (.inl (fun _ => 0)))))) hx hb (hts _ harr) rfl hK hP hD hS hA (fun _ => rfl) hn hN0 hbytes (by rw [hCell.1]; exact hcs.1) (by rw [hCell.2]; exact hcs.2) hd (fun q cA H1 hK1 hP1 hD1 hS1 => ?_)
  have e1 : s.vm.findClass _ = some cA := (hK1.2 7 (cA, .double) rfl).2
  have e2 : s.vm.findClass _ = some (G.2.2 6) := (hK.2 6 (G.2.2 6, .double) rfl).2
  have e3 : cA = G.2.2 6 := Option.some.inj (e1.symm.trans e2)
  subst e3
  exact kk q H1 locs la hP1 hD1 hS1 hL
theorem j_newq (hX : jOK G X own cc Ts ret nL d mc ms post) {idx : Nat} {x : Int32} {N : Nat} (hd : decode cc pc = .ok (.anewarray idx, 3)) (hcl : Cond.classLink own idx "BasketOffers$Offer" ∈ Ts) (hn : ¬ x < 0) (hN0 : x.toNatClampNeg = N) (hbytes : N * 4 ≤ 536870912) (hcs : k + 1 ≤ mc ∧ n + N ≤ ms)
    (kk : ∀ q : Nat, jW G X (k + 1) (n + N) (pc + 3) ls (.ref q :: st) (ws ++ [(q, .inl (G.2.2 3, N, .inr (.inr (.inr (.inr (fun _ => none))))))])) : jW G X k n pc ls (.int x :: st) ws := by
  obtain ⟨p, e, R, s, m, args, below, meth, c, A, Q⟩ := X
  obtain ⟨hx, hb, hr, hml, hown, hts, hlocks, hK, hA, hN, hRoom, hCell, hQ⟩ := hX
  intro H locs la hP hD hS hL
  refine va_newq (C := "BasketOffers$Offer") (N' := N) hx hb hown (hts _ hcl) hN.2.2.1 hK hP hD hS hA hn hN0 hbytes (by rw [hCell.1]; exact hcs.1) (by rw [hCell.2]; exact hcs.2) hd (fun q cA H1 hK1 hP1 hD1 hS1 => ?_)
  obtain ⟨_, _, _, _, _, e1⟩ := (hK1.2 7 (cA, .object "BasketOffers$Offer") rfl).2
  obtain ⟨_, _, _, _, _, e2⟩ := (hK.2 3 (G.2.2 3, .object "BasketOffers$Offer") rfl).2
  have e3 : cA = G.2.2 3 := Option.some.inj (e1.symm.trans e2)
  subst e3
  exact kk q H1 locs la hP1 hD1 hS1 hL
theorem j_putF (hX : jOK G X own cc Ts ret nL d mc ms post) (hNm : jNm X "<init>") {idx ci f a : Nat} {ty : FieldType} {fs : List Value} {v : Value} {ws' : va_W} (hd : decode cc pc = .ok (.putfield idx, 3)) (hF : jF Ts own idx ci f true ty) (q : Nat) (he : ws[q]? = some (a, .inr (ci, fs))) (hl : f < fs.length) (hn : narrow ty v = v) (hfit : fits ty v = true) (hw : ws.set q (a, .inr (ci, fs.set f v)) = ws') (kk : jW G X k n (pc + 3) ls st ws') : jW G X k n pc ls (v :: .ref a :: st) ws := by
  obtain ⟨p, e, R, s, m, args, below, meth, c, A, Q⟩ := X
  obtain ⟨hx, hb, hr, hml, hown, hts, hlocks, hK, hA, hN, hRoom, hCell, hQ⟩ := hX
  intro H locs la hP hD hS hL
  subst hw
  obtain ⟨⟨C, T, N⟩, ty0, f1, f2, f3, f4, f5, f6, f7, f8, f9⟩ := hF
  exact va_putF hx hb hts f3 ty0 f5 f6 hown hK hP hD hS q he f1 f f2 (hts _ f4) (fun _ h9 => h9) f7 hNm (f9 rfl) f8 hn hfit hl hd (fun H1 locs1 hP1 hD1 hS1 => kk H1 locs1 la hP1 hD1 hS1 hL)
end JMK
set_option maxHeartbeats 4000000 in
set_option maxRecDepth 100000 in
theorem c_X0_init (G : jG) (b : Nat)  : jC G 1 yX0_init wsX0_init [.ref b] [(b, .inr (2, [.null, .null, .null, .int 0, .int 0]))] 3 21 (fun rv w => ∃ q1 q2 q3 : Nat, rv = none ∧ w = [(b, .inr (2, [.ref q1, .ref q2, .ref q3, .int 0, .int 0])), (q1, .inl (G.2.2 0, 7, .inl (fun _ => 0))), (q2, .inl (G.2.2 0, 7, .inl (fun _ => 0))), (q3, .inl (G.2.2 0, 7, .inl (fun _ => 0)))]) := by
  refine jC.ofI (maxL := 1) (cc := cX0_init) (ret := none) rfl (by decide) [some (.ref b)] rfl (Nat.le_of_ble_eq_true rfl) (j_args rfl) (fun X hX hNm => ?_)
  refine j_aload_n hX dX0_init_0 rfl ?_
  refine j_objInit hX dX0_init_1 (by decide +kernel) (by decide +kernel) (by decide +kernel) (by decide) rfl (Nat.le_of_ble_eq_true rfl) ?_
  refine j_aload_n hX dX0_init_4 rfl ?_
  refine j_bipush hX (v := 7) (by decide) dX0_init_5 ?_
  refine j_newai hX (N := 7) dX0_init_7 (by decide +kernel) (by decide) (by decide) (by decide) ⟨by decide, by decide⟩ (fun q1 => ?_)
  refine jW.world (ws' := [(b, .inr (2, [.null, .null, .null, .int 0, .int 0])), (q1, .inl (G.2.2 0, 7, .inl (fun _ => 0)))]) rfl ?_
  refine j_putF hX hNm (ws' := [(b, .inr (2, [.ref q1, .null, .null, .int 0, .int 0])), (q1, .inl (G.2.2 0, 7, .inl (fun _ => 0)))]) dX0_init_9 fX0_init_9 0 rfl (Nat.le_of_ble_eq_true rfl) rfl rfl rfl ?_
  refine j_aload_n hX dX0_init_12 rfl ?_
  refine j_bipush hX (v := 7) (by decide) dX0_init_13 ?_
  refine j_newai hX (N := 7) dX0_init_15 (by decide +kernel) (by decide) (by decide) (by decide) ⟨by decide, by decide⟩ (fun q2 => ?_)
  refine jW.world (ws' := [(b, .inr (2, [.ref q1, .null, .null, .int 0, .int 0])), (q1, .inl (G.2.2 0, 7, .inl (fun _ => 0))), (q2, .inl (G.2.2 0, 7, .inl (fun _ => 0)))]) rfl ?_
  refine j_putF hX hNm (ws' := [(b, .inr (2, [.ref q1, .ref q2, .null, .int 0, .int 0])), (q1, .inl (G.2.2 0, 7, .inl (fun _ => 0))), (q2, .inl (G.2.2 0, 7, .inl (fun _ => 0)))]) dX0_init_17 fX0_init_15 0 rfl (Nat.le_of_ble_eq_true rfl) rfl rfl rfl ?_
  refine j_aload_n hX dX0_init_20 rfl ?_
  refine j_bipush hX (v := 7) (by decide) dX0_init_21 ?_
  refine j_newai hX (N := 7) dX0_init_23 (by decide +kernel) (by decide) (by decide) (by decide) ⟨by decide, by decide⟩ (fun q3 => ?_)
  refine jW.world (ws' := [(b, .inr (2, [.ref q1, .ref q2, .null, .int 0, .int 0])), (q1, .inl (G.2.2 0, 7, .inl (fun _ => 0))), (q2, .inl (G.2.2 0, 7, .inl (fun _ => 0))), (q3, .inl (G.2.2 0, 7, .inl (fun _ => 0)))]) rfl ?_
  refine j_putF hX hNm (ws' := [(b, .inr (2, [.ref q1, .ref q2, .ref q3, .int 0, .int 0])), (q1, .inl (G.2.2 0, 7, .inl (fun _ => 0))), (q2, .inl (G.2.2 0, 7, .inl (fun _ => 0))), (q3, .inl (G.2.2 0, 7, .inl (fun _ => 0)))]) dX0_init_25 fX0_init_18 0 rfl (Nat.le_of_ble_eq_true rfl) rfl rfl rfl ?_
  exact j_vret hX dX0_init_28 ⟨q1, q2, q3, rfl, rfl⟩

set_option maxHeartbeats 4000000 in
set_option maxRecDepth 100000 in
theorem c_X1_init (G : jG) (b : Nat) (c : Nat) (e : Nat) : jC G 1 yX1_init wsX1_init [.ref b, .ref c, .ref e] [(b, .inr (3, [.null, .null, .null, .null]))] 2 14 (fun rv w => ∃ q1 q2 : Nat, rv = none ∧ w = [(b, .inr (3, [.ref c, .ref e, .ref q1, .ref q2])), (q1, .inl (G.2.2 0, 7, .inl (fun _ => 0))), (q2, .inl (G.2.2 0, 7, .inl (fun _ => 0)))]) := by
  refine jC.ofI (maxL := 3) (cc := cX1_init) (ret := none) rfl (by decide) [some (.ref b), some (.ref c), some (.ref e)] rfl (Nat.le_of_ble_eq_true rfl) (j_args rfl) (fun X hX hNm => ?_)
  refine j_aload_n hX dX1_init_0 rfl ?_
  refine j_objInit hX dX1_init_1 (by decide +kernel) (by decide +kernel) (by decide +kernel) (by decide) rfl (Nat.le_of_ble_eq_true rfl) ?_
  refine j_aload_n hX dX1_init_4 rfl ?_
  refine j_bipush hX (v := 7) (by decide) dX1_init_5 ?_
  refine j_newai hX (N := 7) dX1_init_7 (by decide +kernel) (by decide) (by decide) (by decide) ⟨by decide, by decide⟩ (fun q1 => ?_)
  refine jW.world (ws' := [(b, .inr (3, [.null, .null, .null, .null])), (q1, .inl (G.2.2 0, 7, .inl (fun _ => 0)))]) rfl ?_
  refine j_putF hX hNm (ws' := [(b, .inr (3, [.null, .null, .ref q1, .null])), (q1, .inl (G.2.2 0, 7, .inl (fun _ => 0)))]) dX1_init_9 fX1_init_9 0 rfl (Nat.le_of_ble_eq_true rfl) rfl rfl rfl ?_
  refine j_aload_n hX dX1_init_12 rfl ?_
  refine j_bipush hX (v := 7) (by decide) dX1_init_13 ?_
  refine j_newai hX (N := 7) dX1_init_15 (by decide +kernel) (by decide) (by decide) (by decide) ⟨by decide, by decide⟩ (fun q2 => ?_)
  refine jW.world (ws' := [(b, .inr (3, [.null, .null, .ref q1, .null])), (q1, .inl (G.2.2 0, 7, .inl (fun _ => 0))), (q2, .inl (G.2.2 0, 7, .inl (fun _ => 0)))]) rfl ?_
  refine j_putF hX hNm (ws' := [(b, .inr (3, [.null, .null, .ref q1, .ref q2])), (q1, .inl (G.2.2 0, 7, .inl (fun _ => 0))), (q2, .inl (G.2.2 0, 7, .inl (fun _ => 0)))]) dX1_init_17 fX1_init_15 0 rfl (Nat.le_of_ble_eq_true rfl) rfl rfl rfl ?_
  refine j_aload_n hX dX1_init_20 rfl ?_
  refine j_aload_n hX dX1_init_21 rfl ?_
  refine j_putF hX hNm (ws' := [(b, .inr (3, [.ref c, .null, .ref q1, .ref q2])), (q1, .inl (G.2.2 0, 7, .inl (fun _ => 0))), (q2, .inl (G.2.2 0, 7, .inl (fun _ => 0)))]) dX1_init_22 fX1_init_18 0 rfl (Nat.le_of_ble_eq_true rfl) rfl rfl rfl ?_
  refine j_aload_n hX dX1_init_25 rfl ?_
  refine j_aload_n hX dX1_init_26 rfl ?_
  refine j_putF hX hNm (ws' := [(b, .inr (3, [.ref c, .ref e, .ref q1, .ref q2])), (q1, .inl (G.2.2 0, 7, .inl (fun _ => 0))), (q2, .inl (G.2.2 0, 7, .inl (fun _ => 0)))]) dX1_init_27 fX1_init_22 0 rfl (Nat.le_of_ble_eq_true rfl) rfl rfl rfl ?_
  exact j_vret hX dX1_init_30 ⟨q1, q2, rfl, rfl⟩

set_option maxHeartbeats 4000000 in
set_option maxRecDepth 100000 in
theorem c_X4_init (G : jG) (b : Nat)  : jC G 1 yX4_init wsX4_init [.ref b] [(b, .inr (6, [.null, .null, .null, .null, .int 0, .int 0, .int 0, .int 0, .int 0]))] 4 240 (fun rv w => ∃ q1 q2 q3 q4 : Nat, rv = none ∧ w = [(b, .inr (6, [.ref q1, .ref q2, .ref q3, .ref q4, .int 0, .int 0, .int 0, .int 0, .int 0])), (q1, .inl (G.2.2 2, 60, .inl (fun _ => 0))), (q2, .inl (G.2.2 2, 60, .inl (fun _ => 0))), (q3, .inl (G.2.2 0, 60, .inl (fun _ => 0))), (q4, .inl (G.2.2 0, 60, .inl (fun _ => 0)))]) := by
  refine jC.ofI (maxL := 1) (cc := cX4_init) (ret := none) rfl (by decide) [some (.ref b)] rfl (Nat.le_of_ble_eq_true rfl) (j_args rfl) (fun X hX hNm => ?_)
  refine j_aload_n hX dX4_init_0 rfl ?_
  refine j_objInit hX dX4_init_1 (by decide +kernel) (by decide +kernel) (by decide +kernel) (by decide) rfl (Nat.le_of_ble_eq_true rfl) ?_
  refine j_aload_n hX dX4_init_4 rfl ?_
  refine j_bipush hX (v := 60) (by decide) dX4_init_5 ?_
  refine j_newaz hX (N := 60) dX4_init_7 (by decide +kernel) (by decide) (by decide) (by decide) ⟨by decide, by decide⟩ (fun q1 => ?_)
  refine jW.world (ws' := [(b, .inr (6, [.null, .null, .null, .null, .int 0, .int 0, .int 0, .int 0, .int 0])), (q1, .inl (G.2.2 2, 60, .inl (fun _ => 0)))]) rfl ?_
  refine j_putF hX hNm (ws' := [(b, .inr (6, [.ref q1, .null, .null, .null, .int 0, .int 0, .int 0, .int 0, .int 0])), (q1, .inl (G.2.2 2, 60, .inl (fun _ => 0)))]) dX4_init_9 fX4_init_9 0 rfl (Nat.le_of_ble_eq_true rfl) rfl rfl rfl ?_
  refine j_aload_n hX dX4_init_12 rfl ?_
  refine j_bipush hX (v := 60) (by decide) dX4_init_13 ?_
  refine j_newaz hX (N := 60) dX4_init_15 (by decide +kernel) (by decide) (by decide) (by decide) ⟨by decide, by decide⟩ (fun q2 => ?_)
  refine jW.world (ws' := [(b, .inr (6, [.ref q1, .null, .null, .null, .int 0, .int 0, .int 0, .int 0, .int 0])), (q1, .inl (G.2.2 2, 60, .inl (fun _ => 0))), (q2, .inl (G.2.2 2, 60, .inl (fun _ => 0)))]) rfl ?_
  refine j_putF hX hNm (ws' := [(b, .inr (6, [.ref q1, .ref q2, .null, .null, .int 0, .int 0, .int 0, .int 0, .int 0])), (q1, .inl (G.2.2 2, 60, .inl (fun _ => 0))), (q2, .inl (G.2.2 2, 60, .inl (fun _ => 0)))]) dX4_init_17 fX4_init_15 0 rfl (Nat.le_of_ble_eq_true rfl) rfl rfl rfl ?_
  refine j_aload_n hX dX4_init_20 rfl ?_
  refine j_bipush hX (v := 60) (by decide) dX4_init_21 ?_
  refine j_newai hX (N := 60) dX4_init_23 (by decide +kernel) (by decide) (by decide) (by decide) ⟨by decide, by decide⟩ (fun q3 => ?_)
  refine jW.world (ws' := [(b, .inr (6, [.ref q1, .ref q2, .null, .null, .int 0, .int 0, .int 0, .int 0, .int 0])), (q1, .inl (G.2.2 2, 60, .inl (fun _ => 0))), (q2, .inl (G.2.2 2, 60, .inl (fun _ => 0))), (q3, .inl (G.2.2 0, 60, .inl (fun _ => 0)))]) rfl ?_
  refine j_putF hX hNm (ws' := [(b, .inr (6, [.ref q1, .ref q2, .ref q3, .null, .int 0, .int 0, .int 0, .int 0, .int 0])), (q1, .inl (G.2.2 2, 60, .inl (fun _ => 0))), (q2, .inl (G.2.2 2, 60, .inl (fun _ => 0))), (q3, .inl (G.2.2 0, 60, .inl (fun _ => 0)))]) dX4_init_25 fX4_init_18 0 rfl (Nat.le_of_ble_eq_true rfl) rfl rfl rfl ?_
  refine j_aload_n hX dX4_init_28 rfl ?_
  refine j_bipush hX (v := 60) (by decide) dX4_init_29 ?_
  refine j_newai hX (N := 60) dX4_init_31 (by decide +kernel) (by decide) (by decide) (by decide) ⟨by decide, by decide⟩ (fun q4 => ?_)
  refine jW.world (ws' := [(b, .inr (6, [.ref q1, .ref q2, .ref q3, .null, .int 0, .int 0, .int 0, .int 0, .int 0])), (q1, .inl (G.2.2 2, 60, .inl (fun _ => 0))), (q2, .inl (G.2.2 2, 60, .inl (fun _ => 0))), (q3, .inl (G.2.2 0, 60, .inl (fun _ => 0))), (q4, .inl (G.2.2 0, 60, .inl (fun _ => 0)))]) rfl ?_
  refine j_putF hX hNm (ws' := [(b, .inr (6, [.ref q1, .ref q2, .ref q3, .ref q4, .int 0, .int 0, .int 0, .int 0, .int 0])), (q1, .inl (G.2.2 2, 60, .inl (fun _ => 0))), (q2, .inl (G.2.2 2, 60, .inl (fun _ => 0))), (q3, .inl (G.2.2 0, 60, .inl (fun _ => 0))), (q4, .inl (G.2.2 0, 60, .inl (fun _ => 0)))]) dX4_init_33 fX4_init_22 0 rfl (Nat.le_of_ble_eq_true rfl) rfl rfl rfl ?_
  exact j_vret hX dX4_init_36 ⟨q1, q2, q3, q4, rfl, rfl⟩

set_option maxHeartbeats 4000000 in
set_option maxRecDepth 100000 in
theorem c_X6_init (G : jG) (b : Nat)  : jC G 1 yX6_init wsX6_init [.ref b] [(b, .inr (7, [.null, .null, .null, .null, .null, .int 0]))] 5 48 (fun rv w => ∃ q1 q2 q3 q4 q5 : Nat, rv = none ∧ w = [(b, .inr (7, [.ref q1, .ref q2, .ref q3, .ref q4, .ref q5, .int 0])), (q1, .inl (G.2.2 3, 6, .inr (.inr (.inr (.inr (fun _ => none)))))), (q2, .inl (G.2.2 0, 6, .inl (fun _ => 0))), (q3, .inl (G.2.2 0, 6, .inl (fun _ => 0))), (q4, .inl (G.2.2 0, 6, .inl (fun _ => 0))), (q5, .inl (G.2.2 0, 24, .inl (fun _ => 0)))]) := by
  refine jC.ofI (maxL := 1) (cc := cX6_init) (ret := none) rfl (by decide) [some (.ref b)] rfl (Nat.le_of_ble_eq_true rfl) (j_args rfl) (fun X hX hNm => ?_)
  refine j_aload_n hX dX6_init_0 rfl ?_
  refine j_objInit hX dX6_init_1 (by decide +kernel) (by decide +kernel) (by decide +kernel) (by decide) rfl (Nat.le_of_ble_eq_true rfl) ?_
  refine j_aload_n hX dX6_init_4 rfl ?_
  refine j_bipush hX (v := 6) (by decide) dX6_init_5 ?_
  refine j_newq hX (N := 6) dX6_init_7 (by decide +kernel) (by decide) (by decide) (by decide) ⟨by decide, by decide⟩ (fun q1 => ?_)
  refine jW.world (ws' := [(b, .inr (7, [.null, .null, .null, .null, .null, .int 0])), (q1, .inl (G.2.2 3, 6, .inr (.inr (.inr (.inr (fun _ => none))))))]) rfl ?_
  refine j_putF hX hNm (ws' := [(b, .inr (7, [.ref q1, .null, .null, .null, .null, .int 0])), (q1, .inl (G.2.2 3, 6, .inr (.inr (.inr (.inr (fun _ => none))))))]) dX6_init_10 fX6_init_11 0 rfl (Nat.le_of_ble_eq_true rfl) rfl rfl rfl ?_
  refine j_aload_n hX dX6_init_13 rfl ?_
  refine j_bipush hX (v := 6) (by decide) dX6_init_14 ?_
  refine j_newai hX (N := 6) dX6_init_16 (by decide +kernel) (by decide) (by decide) (by decide) ⟨by decide, by decide⟩ (fun q2 => ?_)
  refine jW.world (ws' := [(b, .inr (7, [.ref q1, .null, .null, .null, .null, .int 0])), (q1, .inl (G.2.2 3, 6, .inr (.inr (.inr (.inr (fun _ => none)))))), (q2, .inl (G.2.2 0, 6, .inl (fun _ => 0)))]) rfl ?_
  refine j_putF hX hNm (ws' := [(b, .inr (7, [.ref q1, .ref q2, .null, .null, .null, .int 0])), (q1, .inl (G.2.2 3, 6, .inr (.inr (.inr (.inr (fun _ => none)))))), (q2, .inl (G.2.2 0, 6, .inl (fun _ => 0)))]) dX6_init_18 fX6_init_17 0 rfl (Nat.le_of_ble_eq_true rfl) rfl rfl rfl ?_
  refine j_aload_n hX dX6_init_21 rfl ?_
  refine j_bipush hX (v := 6) (by decide) dX6_init_22 ?_
  refine j_newai hX (N := 6) dX6_init_24 (by decide +kernel) (by decide) (by decide) (by decide) ⟨by decide, by decide⟩ (fun q3 => ?_)
  refine jW.world (ws' := [(b, .inr (7, [.ref q1, .ref q2, .null, .null, .null, .int 0])), (q1, .inl (G.2.2 3, 6, .inr (.inr (.inr (.inr (fun _ => none)))))), (q2, .inl (G.2.2 0, 6, .inl (fun _ => 0))), (q3, .inl (G.2.2 0, 6, .inl (fun _ => 0)))]) rfl ?_
  refine j_putF hX hNm (ws' := [(b, .inr (7, [.ref q1, .ref q2, .ref q3, .null, .null, .int 0])), (q1, .inl (G.2.2 3, 6, .inr (.inr (.inr (.inr (fun _ => none)))))), (q2, .inl (G.2.2 0, 6, .inl (fun _ => 0))), (q3, .inl (G.2.2 0, 6, .inl (fun _ => 0)))]) dX6_init_26 fX6_init_21 0 rfl (Nat.le_of_ble_eq_true rfl) rfl rfl rfl ?_
  refine j_aload_n hX dX6_init_29 rfl ?_
  refine j_bipush hX (v := 6) (by decide) dX6_init_30 ?_
  refine j_newai hX (N := 6) dX6_init_32 (by decide +kernel) (by decide) (by decide) (by decide) ⟨by decide, by decide⟩ (fun q4 => ?_)
  refine jW.world (ws' := [(b, .inr (7, [.ref q1, .ref q2, .ref q3, .null, .null, .int 0])), (q1, .inl (G.2.2 3, 6, .inr (.inr (.inr (.inr (fun _ => none)))))), (q2, .inl (G.2.2 0, 6, .inl (fun _ => 0))), (q3, .inl (G.2.2 0, 6, .inl (fun _ => 0))), (q4, .inl (G.2.2 0, 6, .inl (fun _ => 0)))]) rfl ?_
  refine j_putF hX hNm (ws' := [(b, .inr (7, [.ref q1, .ref q2, .ref q3, .ref q4, .null, .int 0])), (q1, .inl (G.2.2 3, 6, .inr (.inr (.inr (.inr (fun _ => none)))))), (q2, .inl (G.2.2 0, 6, .inl (fun _ => 0))), (q3, .inl (G.2.2 0, 6, .inl (fun _ => 0))), (q4, .inl (G.2.2 0, 6, .inl (fun _ => 0)))]) dX6_init_34 fX6_init_24 0 rfl (Nat.le_of_ble_eq_true rfl) rfl rfl rfl ?_
  refine j_aload_n hX dX6_init_37 rfl ?_
  refine j_bipush hX (v := 24) (by decide) dX6_init_38 ?_
  refine j_newai hX (N := 24) dX6_init_40 (by decide +kernel) (by decide) (by decide) (by decide) ⟨by decide, by decide⟩ (fun q5 => ?_)
  refine jW.world (ws' := [(b, .inr (7, [.ref q1, .ref q2, .ref q3, .ref q4, .null, .int 0])), (q1, .inl (G.2.2 3, 6, .inr (.inr (.inr (.inr (fun _ => none)))))), (q2, .inl (G.2.2 0, 6, .inl (fun _ => 0))), (q3, .inl (G.2.2 0, 6, .inl (fun _ => 0))), (q4, .inl (G.2.2 0, 6, .inl (fun _ => 0))), (q5, .inl (G.2.2 0, 24, .inl (fun _ => 0)))]) rfl ?_
  refine j_putF hX hNm (ws' := [(b, .inr (7, [.ref q1, .ref q2, .ref q3, .ref q4, .ref q5, .int 0])), (q1, .inl (G.2.2 3, 6, .inr (.inr (.inr (.inr (fun _ => none)))))), (q2, .inl (G.2.2 0, 6, .inl (fun _ => 0))), (q3, .inl (G.2.2 0, 6, .inl (fun _ => 0))), (q4, .inl (G.2.2 0, 6, .inl (fun _ => 0))), (q5, .inl (G.2.2 0, 24, .inl (fun _ => 0)))]) dX6_init_42 fX6_init_27 0 rfl (Nat.le_of_ble_eq_true rfl) rfl rfl rfl ?_
  exact j_vret hX dX6_init_45 ⟨q1, q2, q3, q4, q5, rfl, rfl⟩

set_option maxHeartbeats 4000000 in
set_option maxRecDepth 100000 in
theorem c_X10_init (G : jG) (b : Nat)  : jC G 1 yX10_init wsX10_init [.ref b] [(b, .inr (11, [.null, .null, .null, .null, .int 0]))] 4 638 (fun rv w => ∃ q1 q2 q3 q4 : Nat, rv = none ∧ w = [(b, .inr (11, [.ref q1, .ref q2, .ref q3, .ref q4, .int 0])), (q1, .inl (G.2.2 0, 210, .inl (fun _ => 0))), (q2, .inl (G.2.2 0, 210, .inl (fun _ => 0))), (q3, .inl (G.2.2 0, 210, .inl (fun _ => 0))), (q4, .inl (G.2.2 0, 8, .inl (fun _ => 0)))]) := by
  refine jC.ofI (maxL := 1) (cc := cX10_init) (ret := none) rfl (by decide) [some (.ref b)] rfl (Nat.le_of_ble_eq_true rfl) (j_args rfl) (fun X hX hNm => ?_)
  refine j_aload_n hX dX10_init_0 rfl ?_
  refine j_objInit hX dX10_init_1 (by decide +kernel) (by decide +kernel) (by decide +kernel) (by decide) rfl (Nat.le_of_ble_eq_true rfl) ?_
  refine j_aload_n hX dX10_init_4 rfl ?_
  refine j_sipush hX (v := 210) (by decide) dX10_init_5 ?_
  refine j_newai hX (N := 210) dX10_init_8 (by decide +kernel) (by decide) (by decide) (by decide) ⟨by decide, by decide⟩ (fun q1 => ?_)
  refine jW.world (ws' := [(b, .inr (11, [.null, .null, .null, .null, .int 0])), (q1, .inl (G.2.2 0, 210, .inl (fun _ => 0)))]) rfl ?_
  refine j_putF hX hNm (ws' := [(b, .inr (11, [.ref q1, .null, .null, .null, .int 0])), (q1, .inl (G.2.2 0, 210, .inl (fun _ => 0)))]) dX10_init_10 fX10_init_11 0 rfl (Nat.le_of_ble_eq_true rfl) rfl rfl rfl ?_
  refine j_aload_n hX dX10_init_13 rfl ?_
  refine j_sipush hX (v := 210) (by decide) dX10_init_14 ?_
  refine j_newai hX (N := 210) dX10_init_17 (by decide +kernel) (by decide) (by decide) (by decide) ⟨by decide, by decide⟩ (fun q2 => ?_)
  refine jW.world (ws' := [(b, .inr (11, [.ref q1, .null, .null, .null, .int 0])), (q1, .inl (G.2.2 0, 210, .inl (fun _ => 0))), (q2, .inl (G.2.2 0, 210, .inl (fun _ => 0)))]) rfl ?_
  refine j_putF hX hNm (ws' := [(b, .inr (11, [.ref q1, .ref q2, .null, .null, .int 0])), (q1, .inl (G.2.2 0, 210, .inl (fun _ => 0))), (q2, .inl (G.2.2 0, 210, .inl (fun _ => 0)))]) dX10_init_19 fX10_init_15 0 rfl (Nat.le_of_ble_eq_true rfl) rfl rfl rfl ?_
  refine j_aload_n hX dX10_init_22 rfl ?_
  refine j_sipush hX (v := 210) (by decide) dX10_init_23 ?_
  refine j_newai hX (N := 210) dX10_init_26 (by decide +kernel) (by decide) (by decide) (by decide) ⟨by decide, by decide⟩ (fun q3 => ?_)
  refine jW.world (ws' := [(b, .inr (11, [.ref q1, .ref q2, .null, .null, .int 0])), (q1, .inl (G.2.2 0, 210, .inl (fun _ => 0))), (q2, .inl (G.2.2 0, 210, .inl (fun _ => 0))), (q3, .inl (G.2.2 0, 210, .inl (fun _ => 0)))]) rfl ?_
  refine j_putF hX hNm (ws' := [(b, .inr (11, [.ref q1, .ref q2, .ref q3, .null, .int 0])), (q1, .inl (G.2.2 0, 210, .inl (fun _ => 0))), (q2, .inl (G.2.2 0, 210, .inl (fun _ => 0))), (q3, .inl (G.2.2 0, 210, .inl (fun _ => 0)))]) dX10_init_28 fX10_init_18 0 rfl (Nat.le_of_ble_eq_true rfl) rfl rfl rfl ?_
  refine j_aload_n hX dX10_init_31 rfl ?_
  refine j_bipush hX (v := 8) (by decide) dX10_init_32 ?_
  refine j_newai hX (N := 8) dX10_init_34 (by decide +kernel) (by decide) (by decide) (by decide) ⟨by decide, by decide⟩ (fun q4 => ?_)
  refine jW.world (ws' := [(b, .inr (11, [.ref q1, .ref q2, .ref q3, .null, .int 0])), (q1, .inl (G.2.2 0, 210, .inl (fun _ => 0))), (q2, .inl (G.2.2 0, 210, .inl (fun _ => 0))), (q3, .inl (G.2.2 0, 210, .inl (fun _ => 0))), (q4, .inl (G.2.2 0, 8, .inl (fun _ => 0)))]) rfl ?_
  refine j_putF hX hNm (ws' := [(b, .inr (11, [.ref q1, .ref q2, .ref q3, .ref q4, .int 0])), (q1, .inl (G.2.2 0, 210, .inl (fun _ => 0))), (q2, .inl (G.2.2 0, 210, .inl (fun _ => 0))), (q3, .inl (G.2.2 0, 210, .inl (fun _ => 0))), (q4, .inl (G.2.2 0, 8, .inl (fun _ => 0)))]) dX10_init_36 fX10_init_21 0 rfl (Nat.le_of_ble_eq_true rfl) rfl rfl rfl ?_
  exact j_vret hX dX10_init_39 ⟨q1, q2, q3, q4, rfl, rfl⟩

set_option maxHeartbeats 4000000 in
set_option maxRecDepth 100000 in
theorem c_X8_init (G : jG) (b : Nat) (c : Nat) (e : Nat) : jC G 3 yX8_init wsX8_init [.ref b, .ref c, .ref e] [(b, .inr (9, [.null, .null, .null, .null, .null, .null, .null, .null, .int 0, .int 0, .int 0, .int 0]))] 10 676 (fun rv w => ∃ q1 q2 q3 q4 q5 q6 q7 q8 q9 q10 : Nat, rv = none ∧ w = [(b, .inr (9, [.ref c, .ref e, .ref q1, .ref q6, .ref q7, .ref q8, .ref q9, .ref q10, .int 0, .int 0, .int 0, .int 0])), (q1, .inr (11, [.ref q2, .ref q3, .ref q4, .ref q5, .int 0])), (q2, .inl (G.2.2 0, 210, .inl (fun _ => 0))), (q3, .inl (G.2.2 0, 210, .inl (fun _ => 0))), (q4, .inl (G.2.2 0, 210, .inl (fun _ => 0))), (q5, .inl (G.2.2 0, 8, .inl (fun _ => 0))), (q6, .inl (G.2.2 0, 6, .inl (fun _ => 0))), (q7, .inl (G.2.2 0, 6, .inl (fun _ => 0))), (q8, .inl (G.2.2 0, 7, .inl (fun _ => 0))), (q9, .inl (G.2.2 0, 7, .inl (fun _ => 0))), (q10, .inl (G.2.2 0, 7, .inl (fun _ => 0)))]) := by
  refine jC.ofI (maxL := 3) (cc := cX8_init) (ret := none) rfl (by decide) [some (.ref b), some (.ref c), some (.ref e)] rfl (Nat.le_of_ble_eq_true rfl) (j_args rfl) (fun X hX hNm => ?_)
  refine j_aload_n hX dX8_init_0 rfl ?_
  refine j_objInit hX dX8_init_1 (by decide +kernel) (by decide +kernel) (by decide +kernel) (by decide) rfl (Nat.le_of_ble_eq_true rfl) ?_
  refine j_aload_n hX dX8_init_4 rfl ?_
  refine j_new hX (fs := [.null, .null, .null, .null, .int 0]) tyX10 dX8_init_5 (show vwCl[11]? = some (RX10, TX10, 5) from rfl) (by decide +kernel) tyX10_ok (by decide +kernel) (by decide +kernel) (by decide +kernel) (fun j hj => by rcases (show j = 0 ∨ j = 1 ∨ j = 2 ∨ j = 3 ∨ j = 4 by omega) with rfl | rfl | rfl | rfl | rfl <;> rfl) ⟨by decide, by decide⟩ (fun q1 => ?_)
  refine jW.world (ws' := [(b, .inr (9, [.null, .null, .null, .null, .null, .null, .null, .null, .int 0, .int 0, .int 0, .int 0])), (q1, .inr (11, [.null, .null, .null, .null, .int 0]))]) rfl ?_
  refine j_dup hX dX8_init_8 rfl ?_
  refine j_callIN hX (nA := 0) (As := []) (st := [.ref q1, .ref b]) (wa := [(b, .inr (9, [.null, .null, .null, .null, .null, .null, .null, .null, .int 0, .int 0, .int 0, .int 0]))]) (w0 := [(q1, .inr (11, [.null, .null, .null, .null, .int 0]))]) (wb := []) dX8_init_9 (c_X10_init G q1  ) gX8_init_X10_init_n11 rfl (by decide +kernel) (host := "BasketOffers") (by decide +kernel) (by decide +kernel) rfl rfl (by decide +kernel) (by decide) (Nat.le_of_ble_eq_true rfl) rfl (Nat.le_of_ble_eq_true rfl) ⟨by decide, by decide⟩ rfl rfl (fun rv w1 hp => ?_)
  obtain ⟨q2, q3, q4, q5, rfl, rfl⟩ := hp
  refine jW.world (ws' := [(b, .inr (9, [.null, .null, .null, .null, .null, .null, .null, .null, .int 0, .int 0, .int 0, .int 0])), (q1, .inr (11, [.ref q2, .ref q3, .ref q4, .ref q5, .int 0])), (q2, .inl (G.2.2 0, 210, .inl (fun _ => 0))), (q3, .inl (G.2.2 0, 210, .inl (fun _ => 0))), (q4, .inl (G.2.2 0, 210, .inl (fun _ => 0))), (q5, .inl (G.2.2 0, 8, .inl (fun _ => 0)))]) rfl ?_
  refine jW.stk (st' := [.ref q1, .ref b]) rfl ?_
  refine j_putF hX hNm (ws' := [(b, .inr (9, [.null, .null, .ref q1, .null, .null, .null, .null, .null, .int 0, .int 0, .int 0, .int 0])), (q1, .inr (11, [.ref q2, .ref q3, .ref q4, .ref q5, .int 0])), (q2, .inl (G.2.2 0, 210, .inl (fun _ => 0))), (q3, .inl (G.2.2 0, 210, .inl (fun _ => 0))), (q4, .inl (G.2.2 0, 210, .inl (fun _ => 0))), (q5, .inl (G.2.2 0, 8, .inl (fun _ => 0)))]) dX8_init_12 fX8_init_12 0 rfl (Nat.le_of_ble_eq_true rfl) rfl rfl rfl ?_
  refine j_aload_n hX dX8_init_15 rfl ?_
  refine j_bipush hX (v := 6) (by decide) dX8_init_16 ?_
  refine j_newai hX (N := 6) dX8_init_18 (by decide +kernel) (by decide) (by decide) (by decide) ⟨by decide, by decide⟩ (fun q6 => ?_)
  refine jW.world (ws' := [(b, .inr (9, [.null, .null, .ref q1, .null, .null, .null, .null, .null, .int 0, .int 0, .int 0, .int 0])), (q1, .inr (11, [.ref q2, .ref q3, .ref q4, .ref q5, .int 0])), (q2, .inl (G.2.2 0, 210, .inl (fun _ => 0))), (q3, .inl (G.2.2 0, 210, .inl (fun _ => 0))), (q4, .inl (G.2.2 0, 210, .inl (fun _ => 0))), (q5, .inl (G.2.2 0, 8, .inl (fun _ => 0))), (q6, .inl (G.2.2 0, 6, .inl (fun _ => 0)))]) rfl ?_
  refine j_putF hX hNm (ws' := [(b, .inr (9, [.null, .null, .ref q1, .ref q6, .null, .null, .null, .null, .int 0, .int 0, .int 0, .int 0])), (q1, .inr (11, [.ref q2, .ref q3, .ref q4, .ref q5, .int 0])), (q2, .inl (G.2.2 0, 210, .inl (fun _ => 0))), (q3, .inl (G.2.2 0, 210, .inl (fun _ => 0))), (q4, .inl (G.2.2 0, 210, .inl (fun _ => 0))), (q5, .inl (G.2.2 0, 8, .inl (fun _ => 0))), (q6, .inl (G.2.2 0, 6, .inl (fun _ => 0)))]) dX8_init_20 fX8_init_18 0 rfl (Nat.le_of_ble_eq_true rfl) rfl rfl rfl ?_
  refine j_aload_n hX dX8_init_23 rfl ?_
  refine j_bipush hX (v := 6) (by decide) dX8_init_24 ?_
  refine j_newai hX (N := 6) dX8_init_26 (by decide +kernel) (by decide) (by decide) (by decide) ⟨by decide, by decide⟩ (fun q7 => ?_)
  refine jW.world (ws' := [(b, .inr (9, [.null, .null, .ref q1, .ref q6, .null, .null, .null, .null, .int 0, .int 0, .int 0, .int 0])), (q1, .inr (11, [.ref q2, .ref q3, .ref q4, .ref q5, .int 0])), (q2, .inl (G.2.2 0, 210, .inl (fun _ => 0))), (q3, .inl (G.2.2 0, 210, .inl (fun _ => 0))), (q4, .inl (G.2.2 0, 210, .inl (fun _ => 0))), (q5, .inl (G.2.2 0, 8, .inl (fun _ => 0))), (q6, .inl (G.2.2 0, 6, .inl (fun _ => 0))), (q7, .inl (G.2.2 0, 6, .inl (fun _ => 0)))]) rfl ?_
  refine j_putF hX hNm (ws' := [(b, .inr (9, [.null, .null, .ref q1, .ref q6, .ref q7, .null, .null, .null, .int 0, .int 0, .int 0, .int 0])), (q1, .inr (11, [.ref q2, .ref q3, .ref q4, .ref q5, .int 0])), (q2, .inl (G.2.2 0, 210, .inl (fun _ => 0))), (q3, .inl (G.2.2 0, 210, .inl (fun _ => 0))), (q4, .inl (G.2.2 0, 210, .inl (fun _ => 0))), (q5, .inl (G.2.2 0, 8, .inl (fun _ => 0))), (q6, .inl (G.2.2 0, 6, .inl (fun _ => 0))), (q7, .inl (G.2.2 0, 6, .inl (fun _ => 0)))]) dX8_init_28 fX8_init_22 0 rfl (Nat.le_of_ble_eq_true rfl) rfl rfl rfl ?_
  refine j_aload_n hX dX8_init_31 rfl ?_
  refine j_bipush hX (v := 7) (by decide) dX8_init_32 ?_
  refine j_newai hX (N := 7) dX8_init_34 (by decide +kernel) (by decide) (by decide) (by decide) ⟨by decide, by decide⟩ (fun q8 => ?_)
  refine jW.world (ws' := [(b, .inr (9, [.null, .null, .ref q1, .ref q6, .ref q7, .null, .null, .null, .int 0, .int 0, .int 0, .int 0])), (q1, .inr (11, [.ref q2, .ref q3, .ref q4, .ref q5, .int 0])), (q2, .inl (G.2.2 0, 210, .inl (fun _ => 0))), (q3, .inl (G.2.2 0, 210, .inl (fun _ => 0))), (q4, .inl (G.2.2 0, 210, .inl (fun _ => 0))), (q5, .inl (G.2.2 0, 8, .inl (fun _ => 0))), (q6, .inl (G.2.2 0, 6, .inl (fun _ => 0))), (q7, .inl (G.2.2 0, 6, .inl (fun _ => 0))), (q8, .inl (G.2.2 0, 7, .inl (fun _ => 0)))]) rfl ?_
  refine j_putF hX hNm (ws' := [(b, .inr (9, [.null, .null, .ref q1, .ref q6, .ref q7, .ref q8, .null, .null, .int 0, .int 0, .int 0, .int 0])), (q1, .inr (11, [.ref q2, .ref q3, .ref q4, .ref q5, .int 0])), (q2, .inl (G.2.2 0, 210, .inl (fun _ => 0))), (q3, .inl (G.2.2 0, 210, .inl (fun _ => 0))), (q4, .inl (G.2.2 0, 210, .inl (fun _ => 0))), (q5, .inl (G.2.2 0, 8, .inl (fun _ => 0))), (q6, .inl (G.2.2 0, 6, .inl (fun _ => 0))), (q7, .inl (G.2.2 0, 6, .inl (fun _ => 0))), (q8, .inl (G.2.2 0, 7, .inl (fun _ => 0)))]) dX8_init_36 fX8_init_25 0 rfl (Nat.le_of_ble_eq_true rfl) rfl rfl rfl ?_
  refine j_aload_n hX dX8_init_39 rfl ?_
  refine j_bipush hX (v := 7) (by decide) dX8_init_40 ?_
  refine j_newai hX (N := 7) dX8_init_42 (by decide +kernel) (by decide) (by decide) (by decide) ⟨by decide, by decide⟩ (fun q9 => ?_)
  refine jW.world (ws' := [(b, .inr (9, [.null, .null, .ref q1, .ref q6, .ref q7, .ref q8, .null, .null, .int 0, .int 0, .int 0, .int 0])), (q1, .inr (11, [.ref q2, .ref q3, .ref q4, .ref q5, .int 0])), (q2, .inl (G.2.2 0, 210, .inl (fun _ => 0))), (q3, .inl (G.2.2 0, 210, .inl (fun _ => 0))), (q4, .inl (G.2.2 0, 210, .inl (fun _ => 0))), (q5, .inl (G.2.2 0, 8, .inl (fun _ => 0))), (q6, .inl (G.2.2 0, 6, .inl (fun _ => 0))), (q7, .inl (G.2.2 0, 6, .inl (fun _ => 0))), (q8, .inl (G.2.2 0, 7, .inl (fun _ => 0))), (q9, .inl (G.2.2 0, 7, .inl (fun _ => 0)))]) rfl ?_
  refine j_putF hX hNm (ws' := [(b, .inr (9, [.null, .null, .ref q1, .ref q6, .ref q7, .ref q8, .ref q9, .null, .int 0, .int 0, .int 0, .int 0])), (q1, .inr (11, [.ref q2, .ref q3, .ref q4, .ref q5, .int 0])), (q2, .inl (G.2.2 0, 210, .inl (fun _ => 0))), (q3, .inl (G.2.2 0, 210, .inl (fun _ => 0))), (q4, .inl (G.2.2 0, 210, .inl (fun _ => 0))), (q5, .inl (G.2.2 0, 8, .inl (fun _ => 0))), (q6, .inl (G.2.2 0, 6, .inl (fun _ => 0))), (q7, .inl (G.2.2 0, 6, .inl (fun _ => 0))), (q8, .inl (G.2.2 0, 7, .inl (fun _ => 0))), (q9, .inl (G.2.2 0, 7, .inl (fun _ => 0)))]) dX8_init_44 fX8_init_28 0 rfl (Nat.le_of_ble_eq_true rfl) rfl rfl rfl ?_
  refine j_aload_n hX dX8_init_47 rfl ?_
  refine j_bipush hX (v := 7) (by decide) dX8_init_48 ?_
  refine j_newai hX (N := 7) dX8_init_50 (by decide +kernel) (by decide) (by decide) (by decide) ⟨by decide, by decide⟩ (fun q10 => ?_)
  refine jW.world (ws' := [(b, .inr (9, [.null, .null, .ref q1, .ref q6, .ref q7, .ref q8, .ref q9, .null, .int 0, .int 0, .int 0, .int 0])), (q1, .inr (11, [.ref q2, .ref q3, .ref q4, .ref q5, .int 0])), (q2, .inl (G.2.2 0, 210, .inl (fun _ => 0))), (q3, .inl (G.2.2 0, 210, .inl (fun _ => 0))), (q4, .inl (G.2.2 0, 210, .inl (fun _ => 0))), (q5, .inl (G.2.2 0, 8, .inl (fun _ => 0))), (q6, .inl (G.2.2 0, 6, .inl (fun _ => 0))), (q7, .inl (G.2.2 0, 6, .inl (fun _ => 0))), (q8, .inl (G.2.2 0, 7, .inl (fun _ => 0))), (q9, .inl (G.2.2 0, 7, .inl (fun _ => 0))), (q10, .inl (G.2.2 0, 7, .inl (fun _ => 0)))]) rfl ?_
  refine j_putF hX hNm (ws' := [(b, .inr (9, [.null, .null, .ref q1, .ref q6, .ref q7, .ref q8, .ref q9, .ref q10, .int 0, .int 0, .int 0, .int 0])), (q1, .inr (11, [.ref q2, .ref q3, .ref q4, .ref q5, .int 0])), (q2, .inl (G.2.2 0, 210, .inl (fun _ => 0))), (q3, .inl (G.2.2 0, 210, .inl (fun _ => 0))), (q4, .inl (G.2.2 0, 210, .inl (fun _ => 0))), (q5, .inl (G.2.2 0, 8, .inl (fun _ => 0))), (q6, .inl (G.2.2 0, 6, .inl (fun _ => 0))), (q7, .inl (G.2.2 0, 6, .inl (fun _ => 0))), (q8, .inl (G.2.2 0, 7, .inl (fun _ => 0))), (q9, .inl (G.2.2 0, 7, .inl (fun _ => 0))), (q10, .inl (G.2.2 0, 7, .inl (fun _ => 0)))]) dX8_init_52 fX8_init_31 0 rfl (Nat.le_of_ble_eq_true rfl) rfl rfl rfl ?_
  refine j_aload_n hX dX8_init_55 rfl ?_
  refine j_aload_n hX dX8_init_56 rfl ?_
  refine j_putF hX hNm (ws' := [(b, .inr (9, [.ref c, .null, .ref q1, .ref q6, .ref q7, .ref q8, .ref q9, .ref q10, .int 0, .int 0, .int 0, .int 0])), (q1, .inr (11, [.ref q2, .ref q3, .ref q4, .ref q5, .int 0])), (q2, .inl (G.2.2 0, 210, .inl (fun _ => 0))), (q3, .inl (G.2.2 0, 210, .inl (fun _ => 0))), (q4, .inl (G.2.2 0, 210, .inl (fun _ => 0))), (q5, .inl (G.2.2 0, 8, .inl (fun _ => 0))), (q6, .inl (G.2.2 0, 6, .inl (fun _ => 0))), (q7, .inl (G.2.2 0, 6, .inl (fun _ => 0))), (q8, .inl (G.2.2 0, 7, .inl (fun _ => 0))), (q9, .inl (G.2.2 0, 7, .inl (fun _ => 0))), (q10, .inl (G.2.2 0, 7, .inl (fun _ => 0)))]) dX8_init_57 fX8_init_34 0 rfl (Nat.le_of_ble_eq_true rfl) rfl rfl rfl ?_
  refine j_aload_n hX dX8_init_60 rfl ?_
  refine j_aload_n hX dX8_init_61 rfl ?_
  refine j_putF hX hNm (ws' := [(b, .inr (9, [.ref c, .ref e, .ref q1, .ref q6, .ref q7, .ref q8, .ref q9, .ref q10, .int 0, .int 0, .int 0, .int 0])), (q1, .inr (11, [.ref q2, .ref q3, .ref q4, .ref q5, .int 0])), (q2, .inl (G.2.2 0, 210, .inl (fun _ => 0))), (q3, .inl (G.2.2 0, 210, .inl (fun _ => 0))), (q4, .inl (G.2.2 0, 210, .inl (fun _ => 0))), (q5, .inl (G.2.2 0, 8, .inl (fun _ => 0))), (q6, .inl (G.2.2 0, 6, .inl (fun _ => 0))), (q7, .inl (G.2.2 0, 6, .inl (fun _ => 0))), (q8, .inl (G.2.2 0, 7, .inl (fun _ => 0))), (q9, .inl (G.2.2 0, 7, .inl (fun _ => 0))), (q10, .inl (G.2.2 0, 7, .inl (fun _ => 0)))]) dX8_init_62 fX8_init_38 0 rfl (Nat.le_of_ble_eq_true rfl) rfl rfl rfl ?_
  exact j_vret hX dX8_init_65 ⟨q1, q2, q3, q4, q5, q6, q7, q8, q9, q10, rfl, rfl⟩

set_option maxHeartbeats 4000000 in
set_option maxRecDepth 100000 in
theorem c_X11_init (G : jG) (b : Nat)  : jC G 5 yX11_init wsX11_init [.ref b] [(b, .inr (12, [.null, .null, .null, .null, .null, .int 0, .int 0]))] 29 1035 (fun rv w => ∃ q1 q2 q3 q4 q5 q6 q7 q8 q9 q10 q11 q12 q13 q14 q15 q16 q17 q18 q19 q20 q21 q22 q23 q24 q25 q26 q27 q28 q29 : Nat, rv = none ∧ w = [(b, .inr (12, [.ref q1, .ref q5, .ref q11, .ref q22, .ref q25, .int 0, .int 0])), (q1, .inr (2, [.ref q2, .ref q3, .ref q4, .int 0, .int 0])), (q2, .inl (G.2.2 0, 7, .inl (fun _ => 0))), (q3, .inl (G.2.2 0, 7, .inl (fun _ => 0))), (q4, .inl (G.2.2 0, 7, .inl (fun _ => 0))), (q5, .inr (7, [.ref q6, .ref q7, .ref q8, .ref q9, .ref q10, .int 0])), (q6, .inl (G.2.2 3, 6, .inr (.inr (.inr (.inr (fun _ => none)))))), (q7, .inl (G.2.2 0, 6, .inl (fun _ => 0))), (q8, .inl (G.2.2 0, 6, .inl (fun _ => 0))), (q9, .inl (G.2.2 0, 6, .inl (fun _ => 0))), (q10, .inl (G.2.2 0, 24, .inl (fun _ => 0))), (q11, .inr (9, [.ref q1, .ref q5, .ref q12, .ref q17, .ref q18, .ref q19, .ref q20, .ref q21, .int 0, .int 0, .int 0, .int 0])), (q12, .inr (11, [.ref q13, .ref q14, .ref q15, .ref q16, .int 0])), (q13, .inl (G.2.2 0, 210, .inl (fun _ => 0))), (q14, .inl (G.2.2 0, 210, .inl (fun _ => 0))), (q15, .inl (G.2.2 0, 210, .inl (fun _ => 0))), (q16, .inl (G.2.2 0, 8, .inl (fun _ => 0))), (q17, .inl (G.2.2 0, 6, .inl (fun _ => 0))), (q18, .inl (G.2.2 0, 6, .inl (fun _ => 0))), (q19, .inl (G.2.2 0, 7, .inl (fun _ => 0))), (q20, .inl (G.2.2 0, 7, .inl (fun _ => 0))), (q21, .inl (G.2.2 0, 7, .inl (fun _ => 0))), (q22, .inr (3, [.ref q1, .ref q11, .ref q23, .ref q24])), (q23, .inl (G.2.2 0, 7, .inl (fun _ => 0))), (q24, .inl (G.2.2 0, 7, .inl (fun _ => 0))), (q25, .inr (6, [.ref q26, .ref q27, .ref q28, .ref q29, .int 0, .int 0, .int 0, .int 0, .int 0])), (q26, .inl (G.2.2 2, 60, .inl (fun _ => 0))), (q27, .inl (G.2.2 2, 60, .inl (fun _ => 0))), (q28, .inl (G.2.2 0, 60, .inl (fun _ => 0))), (q29, .inl (G.2.2 0, 60, .inl (fun _ => 0)))]) := by
  refine jC.ofI (maxL := 1) (cc := cX11_init) (ret := none) rfl (by decide) [some (.ref b)] rfl (Nat.le_of_ble_eq_true rfl) (j_args rfl) (fun X hX hNm => ?_)
  refine j_aload_n hX dX11_init_0 rfl ?_
  refine j_objInit hX dX11_init_1 (by decide +kernel) (by decide +kernel) (by decide +kernel) (by decide) rfl (Nat.le_of_ble_eq_true rfl) ?_
  refine j_aload_n hX dX11_init_4 rfl ?_
  refine j_new hX (fs := [.null, .null, .null, .int 0, .int 0]) tyX0 dX11_init_5 (show vwCl[2]? = some (RX0, TX0, 5) from rfl) (by decide +kernel) tyX0_ok (by decide +kernel) (by decide +kernel) (by decide +kernel) (fun j hj => by rcases (show j = 0 ∨ j = 1 ∨ j = 2 ∨ j = 3 ∨ j = 4 by omega) with rfl | rfl | rfl | rfl | rfl <;> rfl) ⟨by decide, by decide⟩ (fun q1 => ?_)
  refine jW.world (ws' := [(b, .inr (12, [.null, .null, .null, .null, .null, .int 0, .int 0])), (q1, .inr (2, [.null, .null, .null, .int 0, .int 0]))]) rfl ?_
  refine j_dup hX dX11_init_8 rfl ?_
  refine j_callIN hX (nA := 0) (As := []) (st := [.ref q1, .ref b]) (wa := [(b, .inr (12, [.null, .null, .null, .null, .null, .int 0, .int 0]))]) (w0 := [(q1, .inr (2, [.null, .null, .null, .int 0, .int 0]))]) (wb := []) dX11_init_9 (c_X0_init G q1  ) gX11_init_X0_init_n9 rfl (by decide +kernel) (host := "BasketOffers") (by decide +kernel) (by decide +kernel) rfl rfl (by decide +kernel) (by decide) (Nat.le_of_ble_eq_true rfl) rfl (Nat.le_of_ble_eq_true rfl) ⟨by decide, by decide⟩ rfl rfl (fun rv w1 hp => ?_)
  obtain ⟨q2, q3, q4, rfl, rfl⟩ := hp
  refine jW.world (ws' := [(b, .inr (12, [.null, .null, .null, .null, .null, .int 0, .int 0])), (q1, .inr (2, [.ref q2, .ref q3, .ref q4, .int 0, .int 0])), (q2, .inl (G.2.2 0, 7, .inl (fun _ => 0))), (q3, .inl (G.2.2 0, 7, .inl (fun _ => 0))), (q4, .inl (G.2.2 0, 7, .inl (fun _ => 0)))]) rfl ?_
  refine jW.stk (st' := [.ref q1, .ref b]) rfl ?_
  refine j_putF hX hNm (ws' := [(b, .inr (12, [.ref q1, .null, .null, .null, .null, .int 0, .int 0])), (q1, .inr (2, [.ref q2, .ref q3, .ref q4, .int 0, .int 0])), (q2, .inl (G.2.2 0, 7, .inl (fun _ => 0))), (q3, .inl (G.2.2 0, 7, .inl (fun _ => 0))), (q4, .inl (G.2.2 0, 7, .inl (fun _ => 0)))]) dX11_init_12 fX11_init_10 0 rfl (Nat.le_of_ble_eq_true rfl) rfl rfl rfl ?_
  refine j_aload_n hX dX11_init_15 rfl ?_
  refine j_new hX (fs := [.null, .null, .null, .null, .null, .int 0]) tyX6 dX11_init_16 (show vwCl[7]? = some (RX6, TX6, 6) from rfl) (by decide +kernel) tyX6_ok (by decide +kernel) (by decide +kernel) (by decide +kernel) (fun j hj => by rcases (show j = 0 ∨ j = 1 ∨ j = 2 ∨ j = 3 ∨ j = 4 ∨ j = 5 by omega) with rfl | rfl | rfl | rfl | rfl | rfl <;> rfl) ⟨by decide, by decide⟩ (fun q5 => ?_)
  refine jW.world (ws' := [(b, .inr (12, [.ref q1, .null, .null, .null, .null, .int 0, .int 0])), (q1, .inr (2, [.ref q2, .ref q3, .ref q4, .int 0, .int 0])), (q2, .inl (G.2.2 0, 7, .inl (fun _ => 0))), (q3, .inl (G.2.2 0, 7, .inl (fun _ => 0))), (q4, .inl (G.2.2 0, 7, .inl (fun _ => 0))), (q5, .inr (7, [.null, .null, .null, .null, .null, .int 0]))]) rfl ?_
  refine j_dup hX dX11_init_19 rfl ?_
  refine j_callIN hX (nA := 0) (As := []) (st := [.ref q5, .ref b]) (wa := [(b, .inr (12, [.ref q1, .null, .null, .null, .null, .int 0, .int 0])), (q1, .inr (2, [.ref q2, .ref q3, .ref q4, .int 0, .int 0])), (q2, .inl (G.2.2 0, 7, .inl (fun _ => 0))), (q3, .inl (G.2.2 0, 7, .inl (fun _ => 0))), (q4, .inl (G.2.2 0, 7, .inl (fun _ => 0)))]) (w0 := [(q5, .inr (7, [.null, .null, .null, .null, .null, .int 0]))]) (wb := []) dX11_init_20 (c_X6_init G q5  ) gX11_init_X6_init_n18 rfl (by decide +kernel) (host := "BasketOffers") (by decide +kernel) (by decide +kernel) rfl rfl (by decide +kernel) (by decide) (Nat.le_of_ble_eq_true rfl) rfl (Nat.le_of_ble_eq_true rfl) ⟨by decide, by decide⟩ rfl rfl (fun rv w1 hp => ?_)
  obtain ⟨q6, q7, q8, q9, q10, rfl, rfl⟩ := hp
  refine jW.world (ws' := [(b, .inr (12, [.ref q1, .null, .null, .null, .null, .int 0, .int 0])), (q1, .inr (2, [.ref q2, .ref q3, .ref q4, .int 0, .int 0])), (q2, .inl (G.2.2 0, 7, .inl (fun _ => 0))), (q3, .inl (G.2.2 0, 7, .inl (fun _ => 0))), (q4, .inl (G.2.2 0, 7, .inl (fun _ => 0))), (q5, .inr (7, [.ref q6, .ref q7, .ref q8, .ref q9, .ref q10, .int 0])), (q6, .inl (G.2.2 3, 6, .inr (.inr (.inr (.inr (fun _ => none)))))), (q7, .inl (G.2.2 0, 6, .inl (fun _ => 0))), (q8, .inl (G.2.2 0, 6, .inl (fun _ => 0))), (q9, .inl (G.2.2 0, 6, .inl (fun _ => 0))), (q10, .inl (G.2.2 0, 24, .inl (fun _ => 0)))]) rfl ?_
  refine jW.stk (st' := [.ref q5, .ref b]) rfl ?_
  refine j_putF hX hNm (ws' := [(b, .inr (12, [.ref q1, .ref q5, .null, .null, .null, .int 0, .int 0])), (q1, .inr (2, [.ref q2, .ref q3, .ref q4, .int 0, .int 0])), (q2, .inl (G.2.2 0, 7, .inl (fun _ => 0))), (q3, .inl (G.2.2 0, 7, .inl (fun _ => 0))), (q4, .inl (G.2.2 0, 7, .inl (fun _ => 0))), (q5, .inr (7, [.ref q6, .ref q7, .ref q8, .ref q9, .ref q10, .int 0])), (q6, .inl (G.2.2 3, 6, .inr (.inr (.inr (.inr (fun _ => none)))))), (q7, .inl (G.2.2 0, 6, .inl (fun _ => 0))), (q8, .inl (G.2.2 0, 6, .inl (fun _ => 0))), (q9, .inl (G.2.2 0, 6, .inl (fun _ => 0))), (q10, .inl (G.2.2 0, 24, .inl (fun _ => 0)))]) dX11_init_23 fX11_init_19 0 rfl (Nat.le_of_ble_eq_true rfl) rfl rfl rfl ?_
  refine j_aload_n hX dX11_init_26 rfl ?_
  refine j_new hX (fs := [.null, .null, .null, .null, .null, .null, .null, .null, .int 0, .int 0, .int 0, .int 0]) tyX8 dX11_init_27 (show vwCl[9]? = some (RX8, TX8, 12) from rfl) (by decide +kernel) tyX8_ok (by decide +kernel) (by decide +kernel) (by decide +kernel) (fun j hj => by rcases (show j = 0 ∨ j = 1 ∨ j = 2 ∨ j = 3 ∨ j = 4 ∨ j = 5 ∨ j = 6 ∨ j = 7 ∨ j = 8 ∨ j = 9 ∨ j = 10 ∨ j = 11 by omega) with rfl | rfl | rfl | rfl | rfl | rfl | rfl | rfl | rfl | rfl | rfl | rfl <;> rfl) ⟨by decide, by decide⟩ (fun q11 => ?_)
  refine jW.world (ws' := [(b, .inr (12, [.ref q1, .ref q5, .null, .null, .null, .int 0, .int 0])), (q1, .inr (2, [.ref q2, .ref q3, .ref q4, .int 0, .int 0])), (q2, .inl (G.2.2 0, 7, .inl (fun _ => 0))), (q3, .inl (G.2.2 0, 7, .inl (fun _ => 0))), (q4, .inl (G.2.2 0, 7, .inl (fun _ => 0))), (q5, .inr (7, [.ref q6, .ref q7, .ref q8, .ref q9, .ref q10, .int 0])), (q6, .inl (G.2.2 3, 6, .inr (.inr (.inr (.inr (fun _ => none)))))), (q7, .inl (G.2.2 0, 6, .inl (fun _ => 0))), (q8, .inl (G.2.2 0, 6, .inl (fun _ => 0))), (q9, .inl (G.2.2 0, 6, .inl (fun _ => 0))), (q10, .inl (G.2.2 0, 24, .inl (fun _ => 0))), (q11, .inr (9, [.null, .null, .null, .null, .null, .null, .null, .null, .int 0, .int 0, .int 0, .int 0]))]) rfl ?_
  refine j_dup hX dX11_init_30 rfl ?_
  refine j_aload_n hX dX11_init_31 rfl ?_
  refine j_getf hX (v := .ref q1) dX11_init_32 fX11_init_10 0 rfl rfl ?_
  refine j_aload_n hX dX11_init_35 rfl ?_
  refine j_getf hX (v := .ref q5) dX11_init_36 fX11_init_19 0 rfl rfl ?_
  refine j_callI hX (nA := 2) (As := [.ref q1, .ref q5]) (st := [.ref q11, .ref b]) (wa := [(b, .inr (12, [.ref q1, .ref q5, .null, .null, .null, .int 0, .int 0])), (q1, .inr (2, [.ref q2, .ref q3, .ref q4, .int 0, .int 0])), (q2, .inl (G.2.2 0, 7, .inl (fun _ => 0))), (q3, .inl (G.2.2 0, 7, .inl (fun _ => 0))), (q4, .inl (G.2.2 0, 7, .inl (fun _ => 0))), (q5, .inr (7, [.ref q6, .ref q7, .ref q8, .ref q9, .ref q10, .int 0])), (q6, .inl (G.2.2 3, 6, .inr (.inr (.inr (.inr (fun _ => none)))))), (q7, .inl (G.2.2 0, 6, .inl (fun _ => 0))), (q8, .inl (G.2.2 0, 6, .inl (fun _ => 0))), (q9, .inl (G.2.2 0, 6, .inl (fun _ => 0))), (q10, .inl (G.2.2 0, 24, .inl (fun _ => 0)))]) (w0 := [(q11, .inr (9, [.null, .null, .null, .null, .null, .null, .null, .null, .int 0, .int 0, .int 0, .int 0]))]) (wb := []) dX11_init_39 (c_X8_init G q11 q1 q5 ) gX11_init_X8_init rfl (by decide +kernel) (by decide +kernel) (by decide +kernel) rfl rfl (by decide +kernel) (by decide) (Nat.le_of_ble_eq_true rfl) rfl (Nat.le_of_ble_eq_true rfl) ⟨by decide, by decide⟩ rfl rfl (fun rv w1 hp => ?_)
  obtain ⟨q12, q13, q14, q15, q16, q17, q18, q19, q20, q21, rfl, rfl⟩ := hp
  refine jW.world (ws' := [(b, .inr (12, [.ref q1, .ref q5, .null, .null, .null, .int 0, .int 0])), (q1, .inr (2, [.ref q2, .ref q3, .ref q4, .int 0, .int 0])), (q2, .inl (G.2.2 0, 7, .inl (fun _ => 0))), (q3, .inl (G.2.2 0, 7, .inl (fun _ => 0))), (q4, .inl (G.2.2 0, 7, .inl (fun _ => 0))), (q5, .inr (7, [.ref q6, .ref q7, .ref q8, .ref q9, .ref q10, .int 0])), (q6, .inl (G.2.2 3, 6, .inr (.inr (.inr (.inr (fun _ => none)))))), (q7, .inl (G.2.2 0, 6, .inl (fun _ => 0))), (q8, .inl (G.2.2 0, 6, .inl (fun _ => 0))), (q9, .inl (G.2.2 0, 6, .inl (fun _ => 0))), (q10, .inl (G.2.2 0, 24, .inl (fun _ => 0))), (q11, .inr (9, [.ref q1, .ref q5, .ref q12, .ref q17, .ref q18, .ref q19, .ref q20, .ref q21, .int 0, .int 0, .int 0, .int 0])), (q12, .inr (11, [.ref q13, .ref q14, .ref q15, .ref q16, .int 0])), (q13, .inl (G.2.2 0, 210, .inl (fun _ => 0))), (q14, .inl (G.2.2 0, 210, .inl (fun _ => 0))), (q15, .inl (G.2.2 0, 210, .inl (fun _ => 0))), (q16, .inl (G.2.2 0, 8, .inl (fun _ => 0))), (q17, .inl (G.2.2 0, 6, .inl (fun _ => 0))), (q18, .inl (G.2.2 0, 6, .inl (fun _ => 0))), (q19, .inl (G.2.2 0, 7, .inl (fun _ => 0))), (q20, .inl (G.2.2 0, 7, .inl (fun _ => 0))), (q21, .inl (G.2.2 0, 7, .inl (fun _ => 0)))]) rfl ?_
  refine jW.stk (st' := [.ref q11, .ref b]) rfl ?_
  refine j_putF hX hNm (ws' := [(b, .inr (12, [.ref q1, .ref q5, .ref q11, .null, .null, .int 0, .int 0])), (q1, .inr (2, [.ref q2, .ref q3, .ref q4, .int 0, .int 0])), (q2, .inl (G.2.2 0, 7, .inl (fun _ => 0))), (q3, .inl (G.2.2 0, 7, .inl (fun _ => 0))), (q4, .inl (G.2.2 0, 7, .inl (fun _ => 0))), (q5, .inr (7, [.ref q6, .ref q7, .ref q8, .ref q9, .ref q10, .int 0])), (q6, .inl (G.2.2 3, 6, .inr (.inr (.inr (.inr (fun _ => none)))))), (q7, .inl (G.2.2 0, 6, .inl (fun _ => 0))), (q8, .inl (G.2.2 0, 6, .inl (fun _ => 0))), (q9, .inl (G.2.2 0, 6, .inl (fun _ => 0))), (q10, .inl (G.2.2 0, 24, .inl (fun _ => 0))), (q11, .inr (9, [.ref q1, .ref q5, .ref q12, .ref q17, .ref q18, .ref q19, .ref q20, .ref q21, .int 0, .int 0, .int 0, .int 0])), (q12, .inr (11, [.ref q13, .ref q14, .ref q15, .ref q16, .int 0])), (q13, .inl (G.2.2 0, 210, .inl (fun _ => 0))), (q14, .inl (G.2.2 0, 210, .inl (fun _ => 0))), (q15, .inl (G.2.2 0, 210, .inl (fun _ => 0))), (q16, .inl (G.2.2 0, 8, .inl (fun _ => 0))), (q17, .inl (G.2.2 0, 6, .inl (fun _ => 0))), (q18, .inl (G.2.2 0, 6, .inl (fun _ => 0))), (q19, .inl (G.2.2 0, 7, .inl (fun _ => 0))), (q20, .inl (G.2.2 0, 7, .inl (fun _ => 0))), (q21, .inl (G.2.2 0, 7, .inl (fun _ => 0)))]) dX11_init_42 fX11_init_28 0 rfl (Nat.le_of_ble_eq_true rfl) rfl rfl rfl ?_
  refine j_aload_n hX dX11_init_45 rfl ?_
  refine j_new hX (fs := [.null, .null, .null, .null]) tyX1 dX11_init_46 (show vwCl[3]? = some (RX1, TX1, 4) from rfl) (by decide +kernel) tyX1_ok (by decide +kernel) (by decide +kernel) (by decide +kernel) (fun j hj => by rcases (show j = 0 ∨ j = 1 ∨ j = 2 ∨ j = 3 by omega) with rfl | rfl | rfl | rfl <;> rfl) ⟨by decide, by decide⟩ (fun q22 => ?_)
  refine jW.world (ws' := [(b, .inr (12, [.ref q1, .ref q5, .ref q11, .null, .null, .int 0, .int 0])), (q1, .inr (2, [.ref q2, .ref q3, .ref q4, .int 0, .int 0])), (q2, .inl (G.2.2 0, 7, .inl (fun _ => 0))), (q3, .inl (G.2.2 0, 7, .inl (fun _ => 0))), (q4, .inl (G.2.2 0, 7, .inl (fun _ => 0))), (q5, .inr (7, [.ref q6, .ref q7, .ref q8, .ref q9, .ref q10, .int 0])), (q6, .inl (G.2.2 3, 6, .inr (.inr (.inr (.inr (fun _ => none)))))), (q7, .inl (G.2.2 0, 6, .inl (fun _ => 0))), (q8, .inl (G.2.2 0, 6, .inl (fun _ => 0))), (q9, .inl (G.2.2 0, 6, .inl (fun _ => 0))), (q10, .inl (G.2.2 0, 24, .inl (fun _ => 0))), (q11, .inr (9, [.ref q1, .ref q5, .ref q12, .ref q17, .ref q18, .ref q19, .ref q20, .ref q21, .int 0, .int 0, .int 0, .int 0])), (q12, .inr (11, [.ref q13, .ref q14, .ref q15, .ref q16, .int 0])), (q13, .inl (G.2.2 0, 210, .inl (fun _ => 0))), (q14, .inl (G.2.2 0, 210, .inl (fun _ => 0))), (q15, .inl (G.2.2 0, 210, .inl (fun _ => 0))), (q16, .inl (G.2.2 0, 8, .inl (fun _ => 0))), (q17, .inl (G.2.2 0, 6, .inl (fun _ => 0))), (q18, .inl (G.2.2 0, 6, .inl (fun _ => 0))), (q19, .inl (G.2.2 0, 7, .inl (fun _ => 0))), (q20, .inl (G.2.2 0, 7, .inl (fun _ => 0))), (q21, .inl (G.2.2 0, 7, .inl (fun _ => 0))), (q22, .inr (3, [.null, .null, .null, .null]))]) rfl ?_
  refine j_dup hX dX11_init_49 rfl ?_
  refine j_aload_n hX dX11_init_50 rfl ?_
  refine j_getf hX (v := .ref q1) dX11_init_51 fX11_init_10 0 rfl rfl ?_
  refine j_aload_n hX dX11_init_54 rfl ?_
  refine j_getf hX (v := .ref q11) dX11_init_55 fX11_init_28 0 rfl rfl ?_
  refine j_callI hX (nA := 2) (As := [.ref q1, .ref q11]) (st := [.ref q22, .ref b]) (wa := [(b, .inr (12, [.ref q1, .ref q5, .ref q11, .null, .null, .int 0, .int 0])), (q1, .inr (2, [.ref q2, .ref q3, .ref q4, .int 0, .int 0])), (q2, .inl (G.2.2 0, 7, .inl (fun _ => 0))), (q3, .inl (G.2.2 0, 7, .inl (fun _ => 0))), (q4, .inl (G.2.2 0, 7, .inl (fun _ => 0))), (q5, .inr (7, [.ref q6, .ref q7, .ref q8, .ref q9, .ref q10, .int 0])), (q6, .inl (G.2.2 3, 6, .inr (.inr (.inr (.inr (fun _ => none)))))), (q7, .inl (G.2.2 0, 6, .inl (fun _ => 0))), (q8, .inl (G.2.2 0, 6, .inl (fun _ => 0))), (q9, .inl (G.2.2 0, 6, .inl (fun _ => 0))), (q10, .inl (G.2.2 0, 24, .inl (fun _ => 0))), (q11, .inr (9, [.ref q1, .ref q5, .ref q12, .ref q17, .ref q18, .ref q19, .ref q20, .ref q21, .int 0, .int 0, .int 0, .int 0])), (q12, .inr (11, [.ref q13, .ref q14, .ref q15, .ref q16, .int 0])), (q13, .inl (G.2.2 0, 210, .inl (fun _ => 0))), (q14, .inl (G.2.2 0, 210, .inl (fun _ => 0))), (q15, .inl (G.2.2 0, 210, .inl (fun _ => 0))), (q16, .inl (G.2.2 0, 8, .inl (fun _ => 0))), (q17, .inl (G.2.2 0, 6, .inl (fun _ => 0))), (q18, .inl (G.2.2 0, 6, .inl (fun _ => 0))), (q19, .inl (G.2.2 0, 7, .inl (fun _ => 0))), (q20, .inl (G.2.2 0, 7, .inl (fun _ => 0))), (q21, .inl (G.2.2 0, 7, .inl (fun _ => 0)))]) (w0 := [(q22, .inr (3, [.null, .null, .null, .null]))]) (wb := []) dX11_init_58 (c_X1_init G q22 q1 q11 ) gX11_init_X1_init rfl (by decide +kernel) (by decide +kernel) (by decide +kernel) rfl rfl (by decide +kernel) (by decide) (Nat.le_of_ble_eq_true rfl) rfl (Nat.le_of_ble_eq_true rfl) ⟨by decide, by decide⟩ rfl rfl (fun rv w1 hp => ?_)
  obtain ⟨q23, q24, rfl, rfl⟩ := hp
  refine jW.world (ws' := [(b, .inr (12, [.ref q1, .ref q5, .ref q11, .null, .null, .int 0, .int 0])), (q1, .inr (2, [.ref q2, .ref q3, .ref q4, .int 0, .int 0])), (q2, .inl (G.2.2 0, 7, .inl (fun _ => 0))), (q3, .inl (G.2.2 0, 7, .inl (fun _ => 0))), (q4, .inl (G.2.2 0, 7, .inl (fun _ => 0))), (q5, .inr (7, [.ref q6, .ref q7, .ref q8, .ref q9, .ref q10, .int 0])), (q6, .inl (G.2.2 3, 6, .inr (.inr (.inr (.inr (fun _ => none)))))), (q7, .inl (G.2.2 0, 6, .inl (fun _ => 0))), (q8, .inl (G.2.2 0, 6, .inl (fun _ => 0))), (q9, .inl (G.2.2 0, 6, .inl (fun _ => 0))), (q10, .inl (G.2.2 0, 24, .inl (fun _ => 0))), (q11, .inr (9, [.ref q1, .ref q5, .ref q12, .ref q17, .ref q18, .ref q19, .ref q20, .ref q21, .int 0, .int 0, .int 0, .int 0])), (q12, .inr (11, [.ref q13, .ref q14, .ref q15, .ref q16, .int 0])), (q13, .inl (G.2.2 0, 210, .inl (fun _ => 0))), (q14, .inl (G.2.2 0, 210, .inl (fun _ => 0))), (q15, .inl (G.2.2 0, 210, .inl (fun _ => 0))), (q16, .inl (G.2.2 0, 8, .inl (fun _ => 0))), (q17, .inl (G.2.2 0, 6, .inl (fun _ => 0))), (q18, .inl (G.2.2 0, 6, .inl (fun _ => 0))), (q19, .inl (G.2.2 0, 7, .inl (fun _ => 0))), (q20, .inl (G.2.2 0, 7, .inl (fun _ => 0))), (q21, .inl (G.2.2 0, 7, .inl (fun _ => 0))), (q22, .inr (3, [.ref q1, .ref q11, .ref q23, .ref q24])), (q23, .inl (G.2.2 0, 7, .inl (fun _ => 0))), (q24, .inl (G.2.2 0, 7, .inl (fun _ => 0)))]) rfl ?_
  refine jW.stk (st' := [.ref q22, .ref b]) rfl ?_
  refine j_putF hX hNm (ws' := [(b, .inr (12, [.ref q1, .ref q5, .ref q11, .ref q22, .null, .int 0, .int 0])), (q1, .inr (2, [.ref q2, .ref q3, .ref q4, .int 0, .int 0])), (q2, .inl (G.2.2 0, 7, .inl (fun _ => 0))), (q3, .inl (G.2.2 0, 7, .inl (fun _ => 0))), (q4, .inl (G.2.2 0, 7, .inl (fun _ => 0))), (q5, .inr (7, [.ref q6, .ref q7, .ref q8, .ref q9, .ref q10, .int 0])), (q6, .inl (G.2.2 3, 6, .inr (.inr (.inr (.inr (fun _ => none)))))), (q7, .inl (G.2.2 0, 6, .inl (fun _ => 0))), (q8, .inl (G.2.2 0, 6, .inl (fun _ => 0))), (q9, .inl (G.2.2 0, 6, .inl (fun _ => 0))), (q10, .inl (G.2.2 0, 24, .inl (fun _ => 0))), (q11, .inr (9, [.ref q1, .ref q5, .ref q12, .ref q17, .ref q18, .ref q19, .ref q20, .ref q21, .int 0, .int 0, .int 0, .int 0])), (q12, .inr (11, [.ref q13, .ref q14, .ref q15, .ref q16, .int 0])), (q13, .inl (G.2.2 0, 210, .inl (fun _ => 0))), (q14, .inl (G.2.2 0, 210, .inl (fun _ => 0))), (q15, .inl (G.2.2 0, 210, .inl (fun _ => 0))), (q16, .inl (G.2.2 0, 8, .inl (fun _ => 0))), (q17, .inl (G.2.2 0, 6, .inl (fun _ => 0))), (q18, .inl (G.2.2 0, 6, .inl (fun _ => 0))), (q19, .inl (G.2.2 0, 7, .inl (fun _ => 0))), (q20, .inl (G.2.2 0, 7, .inl (fun _ => 0))), (q21, .inl (G.2.2 0, 7, .inl (fun _ => 0))), (q22, .inr (3, [.ref q1, .ref q11, .ref q23, .ref q24])), (q23, .inl (G.2.2 0, 7, .inl (fun _ => 0))), (q24, .inl (G.2.2 0, 7, .inl (fun _ => 0)))]) dX11_init_61 fX11_init_37 0 rfl (Nat.le_of_ble_eq_true rfl) rfl rfl rfl ?_
  refine j_aload_n hX dX11_init_64 rfl ?_
  refine j_new hX (fs := [.null, .null, .null, .null, .int 0, .int 0, .int 0, .int 0, .int 0]) tyX4 dX11_init_65 (show vwCl[6]? = some (RX4, TX4, 9) from rfl) (by decide +kernel) tyX4_ok (by decide +kernel) (by decide +kernel) (by decide +kernel) (fun j hj => by rcases (show j = 0 ∨ j = 1 ∨ j = 2 ∨ j = 3 ∨ j = 4 ∨ j = 5 ∨ j = 6 ∨ j = 7 ∨ j = 8 by omega) with rfl | rfl | rfl | rfl | rfl | rfl | rfl | rfl | rfl <;> rfl) ⟨by decide, by decide⟩ (fun q25 => ?_)
  refine jW.world (ws' := [(b, .inr (12, [.ref q1, .ref q5, .ref q11, .ref q22, .null, .int 0, .int 0])), (q1, .inr (2, [.ref q2, .ref q3, .ref q4, .int 0, .int 0])), (q2, .inl (G.2.2 0, 7, .inl (fun _ => 0))), (q3, .inl (G.2.2 0, 7, .inl (fun _ => 0))), (q4, .inl (G.2.2 0, 7, .inl (fun _ => 0))), (q5, .inr (7, [.ref q6, .ref q7, .ref q8, .ref q9, .ref q10, .int 0])), (q6, .inl (G.2.2 3, 6, .inr (.inr (.inr (.inr (fun _ => none)))))), (q7, .inl (G.2.2 0, 6, .inl (fun _ => 0))), (q8, .inl (G.2.2 0, 6, .inl (fun _ => 0))), (q9, .inl (G.2.2 0, 6, .inl (fun _ => 0))), (q10, .inl (G.2.2 0, 24, .inl (fun _ => 0))), (q11, .inr (9, [.ref q1, .ref q5, .ref q12, .ref q17, .ref q18, .ref q19, .ref q20, .ref q21, .int 0, .int 0, .int 0, .int 0])), (q12, .inr (11, [.ref q13, .ref q14, .ref q15, .ref q16, .int 0])), (q13, .inl (G.2.2 0, 210, .inl (fun _ => 0))), (q14, .inl (G.2.2 0, 210, .inl (fun _ => 0))), (q15, .inl (G.2.2 0, 210, .inl (fun _ => 0))), (q16, .inl (G.2.2 0, 8, .inl (fun _ => 0))), (q17, .inl (G.2.2 0, 6, .inl (fun _ => 0))), (q18, .inl (G.2.2 0, 6, .inl (fun _ => 0))), (q19, .inl (G.2.2 0, 7, .inl (fun _ => 0))), (q20, .inl (G.2.2 0, 7, .inl (fun _ => 0))), (q21, .inl (G.2.2 0, 7, .inl (fun _ => 0))), (q22, .inr (3, [.ref q1, .ref q11, .ref q23, .ref q24])), (q23, .inl (G.2.2 0, 7, .inl (fun _ => 0))), (q24, .inl (G.2.2 0, 7, .inl (fun _ => 0))), (q25, .inr (6, [.null, .null, .null, .null, .int 0, .int 0, .int 0, .int 0, .int 0]))]) rfl ?_
  refine j_dup hX dX11_init_68 rfl ?_
  refine j_callIN hX (nA := 0) (As := []) (st := [.ref q25, .ref b]) (wa := [(b, .inr (12, [.ref q1, .ref q5, .ref q11, .ref q22, .null, .int 0, .int 0])), (q1, .inr (2, [.ref q2, .ref q3, .ref q4, .int 0, .int 0])), (q2, .inl (G.2.2 0, 7, .inl (fun _ => 0))), (q3, .inl (G.2.2 0, 7, .inl (fun _ => 0))), (q4, .inl (G.2.2 0, 7, .inl (fun _ => 0))), (q5, .inr (7, [.ref q6, .ref q7, .ref q8, .ref q9, .ref q10, .int 0])), (q6, .inl (G.2.2 3, 6, .inr (.inr (.inr (.inr (fun _ => none)))))), (q7, .inl (G.2.2 0, 6, .inl (fun _ => 0))), (q8, .inl (G.2.2 0, 6, .inl (fun _ => 0))), (q9, .inl (G.2.2 0, 6, .inl (fun _ => 0))), (q10, .inl (G.2.2 0, 24, .inl (fun _ => 0))), (q11, .inr (9, [.ref q1, .ref q5, .ref q12, .ref q17, .ref q18, .ref q19, .ref q20, .ref q21, .int 0, .int 0, .int 0, .int 0])), (q12, .inr (11, [.ref q13, .ref q14, .ref q15, .ref q16, .int 0])), (q13, .inl (G.2.2 0, 210, .inl (fun _ => 0))), (q14, .inl (G.2.2 0, 210, .inl (fun _ => 0))), (q15, .inl (G.2.2 0, 210, .inl (fun _ => 0))), (q16, .inl (G.2.2 0, 8, .inl (fun _ => 0))), (q17, .inl (G.2.2 0, 6, .inl (fun _ => 0))), (q18, .inl (G.2.2 0, 6, .inl (fun _ => 0))), (q19, .inl (G.2.2 0, 7, .inl (fun _ => 0))), (q20, .inl (G.2.2 0, 7, .inl (fun _ => 0))), (q21, .inl (G.2.2 0, 7, .inl (fun _ => 0))), (q22, .inr (3, [.ref q1, .ref q11, .ref q23, .ref q24])), (q23, .inl (G.2.2 0, 7, .inl (fun _ => 0))), (q24, .inl (G.2.2 0, 7, .inl (fun _ => 0)))]) (w0 := [(q25, .inr (6, [.null, .null, .null, .null, .int 0, .int 0, .int 0, .int 0, .int 0]))]) (wb := []) dX11_init_69 (c_X4_init G q25  ) gX11_init_X4_init_n43 rfl (by decide +kernel) (host := "BasketOffers") (by decide +kernel) (by decide +kernel) rfl rfl (by decide +kernel) (by decide) (Nat.le_of_ble_eq_true rfl) rfl (Nat.le_of_ble_eq_true rfl) ⟨by decide, by decide⟩ rfl rfl (fun rv w1 hp => ?_)
  obtain ⟨q26, q27, q28, q29, rfl, rfl⟩ := hp
  refine jW.world (ws' := [(b, .inr (12, [.ref q1, .ref q5, .ref q11, .ref q22, .null, .int 0, .int 0])), (q1, .inr (2, [.ref q2, .ref q3, .ref q4, .int 0, .int 0])), (q2, .inl (G.2.2 0, 7, .inl (fun _ => 0))), (q3, .inl (G.2.2 0, 7, .inl (fun _ => 0))), (q4, .inl (G.2.2 0, 7, .inl (fun _ => 0))), (q5, .inr (7, [.ref q6, .ref q7, .ref q8, .ref q9, .ref q10, .int 0])), (q6, .inl (G.2.2 3, 6, .inr (.inr (.inr (.inr (fun _ => none)))))), (q7, .inl (G.2.2 0, 6, .inl (fun _ => 0))), (q8, .inl (G.2.2 0, 6, .inl (fun _ => 0))), (q9, .inl (G.2.2 0, 6, .inl (fun _ => 0))), (q10, .inl (G.2.2 0, 24, .inl (fun _ => 0))), (q11, .inr (9, [.ref q1, .ref q5, .ref q12, .ref q17, .ref q18, .ref q19, .ref q20, .ref q21, .int 0, .int 0, .int 0, .int 0])), (q12, .inr (11, [.ref q13, .ref q14, .ref q15, .ref q16, .int 0])), (q13, .inl (G.2.2 0, 210, .inl (fun _ => 0))), (q14, .inl (G.2.2 0, 210, .inl (fun _ => 0))), (q15, .inl (G.2.2 0, 210, .inl (fun _ => 0))), (q16, .inl (G.2.2 0, 8, .inl (fun _ => 0))), (q17, .inl (G.2.2 0, 6, .inl (fun _ => 0))), (q18, .inl (G.2.2 0, 6, .inl (fun _ => 0))), (q19, .inl (G.2.2 0, 7, .inl (fun _ => 0))), (q20, .inl (G.2.2 0, 7, .inl (fun _ => 0))), (q21, .inl (G.2.2 0, 7, .inl (fun _ => 0))), (q22, .inr (3, [.ref q1, .ref q11, .ref q23, .ref q24])), (q23, .inl (G.2.2 0, 7, .inl (fun _ => 0))), (q24, .inl (G.2.2 0, 7, .inl (fun _ => 0))), (q25, .inr (6, [.ref q26, .ref q27, .ref q28, .ref q29, .int 0, .int 0, .int 0, .int 0, .int 0])), (q26, .inl (G.2.2 2, 60, .inl (fun _ => 0))), (q27, .inl (G.2.2 2, 60, .inl (fun _ => 0))), (q28, .inl (G.2.2 0, 60, .inl (fun _ => 0))), (q29, .inl (G.2.2 0, 60, .inl (fun _ => 0)))]) rfl ?_
  refine jW.stk (st' := [.ref q25, .ref b]) rfl ?_
  refine j_putF hX hNm (ws' := [(b, .inr (12, [.ref q1, .ref q5, .ref q11, .ref q22, .ref q25, .int 0, .int 0])), (q1, .inr (2, [.ref q2, .ref q3, .ref q4, .int 0, .int 0])), (q2, .inl (G.2.2 0, 7, .inl (fun _ => 0))), (q3, .inl (G.2.2 0, 7, .inl (fun _ => 0))), (q4, .inl (G.2.2 0, 7, .inl (fun _ => 0))), (q5, .inr (7, [.ref q6, .ref q7, .ref q8, .ref q9, .ref q10, .int 0])), (q6, .inl (G.2.2 3, 6, .inr (.inr (.inr (.inr (fun _ => none)))))), (q7, .inl (G.2.2 0, 6, .inl (fun _ => 0))), (q8, .inl (G.2.2 0, 6, .inl (fun _ => 0))), (q9, .inl (G.2.2 0, 6, .inl (fun _ => 0))), (q10, .inl (G.2.2 0, 24, .inl (fun _ => 0))), (q11, .inr (9, [.ref q1, .ref q5, .ref q12, .ref q17, .ref q18, .ref q19, .ref q20, .ref q21, .int 0, .int 0, .int 0, .int 0])), (q12, .inr (11, [.ref q13, .ref q14, .ref q15, .ref q16, .int 0])), (q13, .inl (G.2.2 0, 210, .inl (fun _ => 0))), (q14, .inl (G.2.2 0, 210, .inl (fun _ => 0))), (q15, .inl (G.2.2 0, 210, .inl (fun _ => 0))), (q16, .inl (G.2.2 0, 8, .inl (fun _ => 0))), (q17, .inl (G.2.2 0, 6, .inl (fun _ => 0))), (q18, .inl (G.2.2 0, 6, .inl (fun _ => 0))), (q19, .inl (G.2.2 0, 7, .inl (fun _ => 0))), (q20, .inl (G.2.2 0, 7, .inl (fun _ => 0))), (q21, .inl (G.2.2 0, 7, .inl (fun _ => 0))), (q22, .inr (3, [.ref q1, .ref q11, .ref q23, .ref q24])), (q23, .inl (G.2.2 0, 7, .inl (fun _ => 0))), (q24, .inl (G.2.2 0, 7, .inl (fun _ => 0))), (q25, .inr (6, [.ref q26, .ref q27, .ref q28, .ref q29, .int 0, .int 0, .int 0, .int 0, .int 0])), (q26, .inl (G.2.2 2, 60, .inl (fun _ => 0))), (q27, .inl (G.2.2 2, 60, .inl (fun _ => 0))), (q28, .inl (G.2.2 0, 60, .inl (fun _ => 0))), (q29, .inl (G.2.2 0, 60, .inl (fun _ => 0)))]) dX11_init_72 fX11_init_44 0 rfl (Nat.le_of_ble_eq_true rfl) rfl rfl rfl ?_
  exact j_vret hX dX11_init_75 ⟨q1, q2, q3, q4, q5, q6, q7, q8, q9, q10, q11, q12, q13, q14, q15, q16, q17, q18, q19, q20, q21, q22, q23, q24, q25, q26, q27, q28, q29, rfl, rfl⟩

