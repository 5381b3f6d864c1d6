/-! CATCHING: a method with an exception table calls one that returns or throws; the handler goes on with the callee's world as it was. -/
def jNcs (U : State) : Prop := va_Nc "java/lang/IllegalStateException" "java/lang/IllegalArgumentException" U ∧ va_Nc "java/lang/IllegalStateException" "java/util/NoSuchElementException" U
theorem jNcs.moved {u U : State} (h : u.vm.Alike U.vm) (hn : jNcs u) : jNcs U := ⟨hn.1.moved h, hn.2.moved h⟩
theorem jThr.call {A B : Nat → Prop} {s U : State} {H : Heap} {locs : List Loc} (h : jThr A s) (hS : va_S A s.heap H locs) (hAB : ∀ q, B q → A q) (hU : U.heap = H) (hW : s.WarmedH U.vm) : jThr B U := by
  obtain ⟨h1, h2, h3, h4, h5⟩ := h
  refine ⟨?_, ?_, fun q hq => ?_, fun C hC => va_Nw.warmC hW (h4 C hC), fun y hy => va_Nw.warmD hW (h5 y hy)⟩
  · rw [hU]
    exact ((h1.kept hS.2.1).moved hW.alike).narrow hAB
  · rw [hU]
    exact ((h2.kept hS.2.1).moved hW.alike).narrow hAB
  · obtain ⟨sa, hsa⟩ := h3 q hq
    exact ⟨sa, hsa.warm hW⟩
theorem jThr.same {A : Nat → Prop} {u U : State} (hv : u.vm = U.vm) (hh : u.heap = U.heap) (h : jThr A u) : jThr A U := by
  obtain ⟨h1, h2, h3, h4, h5⟩ := h
  refine ⟨?_, ?_, fun q hq => ?_, fun C hC => va_Nw.same rfl hv (h4 C hC), fun y hy => va_Nw.same rfl hv (h5 y hy)⟩
  · rw [← hh]
    exact h1.moved (hv ▸ Vm.Alike.refl u.vm)
  · rw [← hh]
    exact h2.moved (hv ▸ Vm.Alike.refl u.vm)
  · obtain ⟨sa, hsa⟩ := h3 q hq
    exact ⟨sa, hsa.same hv.symm⟩
def jPh (G : jG) (As : List Value) (w0 : va_W) (sz : Nat) : Array Value → State → Prop := va_Pc As (fun U => U.heap.size = sz ∧ va_P G.2.1 vwCl w0 U.heap ∧ va_K G.2.1 vwCl (jtys G.2.2) U ∧ va_D (fun _ => True) w0 ∧ jNests U ∧ jThr (va_A w0 sz) U ∧ jNcs U)
/-- a contract of a method that handles all that its callee throws -/
def jH (G : jG) (d : Nat) (y : MethodName) (Ts : List Cond) (As : List Value) (w0 : va_W) (mc ms : Nat) (post : Option Value → va_W → Prop) : Prop :=
  ∀ sz : Nat, vx_Met G.1 y Ts (jRm d mc ms) (jPh G As w0 sz) (jQ G.2.1 post (va_A w0 sz)) (fun _ _ _ => False) mc ms (va_A w0 sz)
def jTH (X : jX) (tb : List ExceptionTableEntry) : Prop := match X with
  | (p, e, R, s, m, args, below, meth, c, A, Q) => c.exceptionTable.toList = tb ∧ jThr A s ∧ jNcs s
theorem jH.of {G : jG} {d mc ms maxL : Nat} {y : MethodName} {Ts Ts' : List Cond} {cc : ByteArray} {ret : Option FieldType} {hh : List (Nat × Nat × Nat × Nat)} {As : List Value} {w0 : va_W} {post : Option Value → va_W → Prop} (hTs : Ts = Cond.codeWith y cc maxL ret hh :: Ts') (hy : plainName y.cls = true) (ls : List (Option Value)) (hls : ls.length = maxL) (hlen : (lg_sl As).length ≤ maxL) (hargs : ∀ (i : Nat) (v : Value), ls[i]? = some (some v) → (i, v) ∈ lv_args 0 As)
    (body : ∀ X : jX, jOK G X y.cls cc Ts ret maxL d mc ms post → jTH X (tableOf hh) → jW G X 0 0 0 ls [] w0) : jH G d y Ts As w0 mc ms post := by
  intro sz
  refine vx_ofWH (cc := cc) (maxL := maxL) (ret := ret) hy hTs ?_
  intro p e s m args below meth c s₁ B hml hv
  obtain ⟨rfl, hsz, hP, hK, hD0, hN, hThr, hNc⟩ := hv
  have hts := atoms_spec (ws := Ts) B.pre
  have hown : s.vm.findClass y.cls = some m.cls := findClass_of_methodNamed B.named
  have hlocks := B.notSynchronized
  have htb := vx_table (x := y) B (hts _ (by rw [hTs]; exact List.mem_cons_self))
  subst hsz
  have hD := hD0.self (sz := s.heap.size)
  have hl := lv_entry As (n := maxL) hlen
  rw [lg_entry_eq]
  generalize (lg_sl As ++ List.replicate (maxL - (lg_sl As).length) Slot.unset).toArray = la at hl ⊢
  refine body (p, e, (headSpec Ts (jRm d mc ms)).room, s, m, As.toArray, below, meth, c, va_A w0 s.heap.size, vx_MQ below (jQ G.2.1 post (va_A w0 s.heap.size)) (fun _ _ _ => False) As.toArray s mc ms (va_A w0 s.heap.size)) ⟨B.exec, B.bytes, B.returns, hml, hown, hts, hlocks, hK, fun q h => Or.inr h, hN, ⟨Nat.le_refl _, Nat.le_refl _⟩, ⟨rfl, rfl⟩, fun t h => ?_⟩ ⟨htb, hThr, hNc⟩ s.heap [] la hP hD va_S.rf ⟨by rw [hls]; exact hl.1, hl.2.1, fun i v h => hl.2.2 (i, v) (hargs i v h)⟩
  obtain ⟨o, h1, h2, h3, h4⟩ := h
  exact ⟨o, h1, h2, Or.inl ⟨h3, h4⟩⟩
theorem j_blindT {G : jG} {As : List Value} {w0 : va_W} {sz : Nat} : FrameBlind (jPt G As w0 sz) := by
  intro a U g mk h
  obtain ⟨e, h1, h2, h3, h4, h5, h6⟩ := h
  exact ⟨e, h1, h2, va_K.moved (u := U) (U := U.calling g mk a) (Vm.Alike.refl U.vm) h3, h4, jNests.same (s := U) rfl h5, jThr.same rfl rfl h6⟩
theorem j_preT {G : jG} {As : List Value} {wa w0 wb : va_W} {A : Nat → Prop} {s : State} {H : Heap} {locs : List Loc} (hP : va_P G.2.1 vwCl (wa ++ (w0 ++ wb)) H) (hD : va_D A (wa ++ (w0 ++ wb))) (hK : va_K G.2.1 vwCl (jtys G.2.2) s) (hN : jNests s) (hT : jThr A s) (hS : va_S A s.heap H locs) (hA : ∀ q : Nat, s.heap.size ≤ q → A q) : ∀ U : State, U.heap = H → s.WarmedH U.vm → jPt G As w0 H.size As.toArray U := by
  intro U hU hW
  obtain ⟨e, h1, h2, h3, h4, h5⟩ := j_pre (As := As) hP hD hK hN U hU hW
  exact ⟨e, h1, h2, h3, h4, h5, hT.call hS (j_free hD hS hA) hU hW⟩
section JTRY
variable {G : jG} {X : jX} {own : String} {cc : ByteArray} {Ts : List Cond} {ret : Option FieldType} {nL d mc ms k n pc : Nat} {post : Option Value → va_W → Prop} {ls : List (Option Value)} {st : List Value} {ws : va_W}
theorem j_tryV (hX : jOK G X own cc Ts ret nL d mc ms post) {tb : List ExceptionTableEntry} (hH : jTH X tb) {idx d' maxL mc' ms' nA : Nat} {y : MethodName} {bytes : ByteArray} {rt : Option FieldType} {Ws Ws' : List Cond} {wa w0 wb : va_W} {post' : Option Value → va_W → Prop} {postX' : String → Prop} {b q ci : Nat} {As fs : List Value} {cq : vw_C} (hci : vwCl[ci]? = some cq) (hd : decode cc pc = .ok (.invokevirtual idx, 3)) (hC : jT G d' y Ws (.ref b :: As) w0 mc' ms' post' postX') (hG : GoodIn Ts (wsV own idx cq.1 y Ws)) (hWs : Ws = Cond.code y bytes maxL rt :: Ws') (hdd0 : y.cls = cq.1 ∧ y.cls ≠ "java/lang/invoke/MethodHandle" ∧ y.cls ≠ "java/lang/invoke/VarHandle" ∧ (parseMethodDescriptor y.desc).map (fun d => d.parameters.length) = some nA) (he : ws[q]? = some (b, .inr (ci, fs))) (hdd : d' + 1 ≤ d) (hmx : maxL ≤ 21) (hnA : As.length = nA) (hcat : (st.map fun v => v.category).sum ≤ 8) (hcs : k + mc' ≤ mc ∧ n + ms' ≤ ms) (hlen : ls.length = nL) (hw : ws = wa ++ (w0 ++ wb))
    (kk : ∀ (rv : Option Value) (w1 : va_W), post' rv w1 → jW G X (k + mc') (n + ms') (pc + 3) ls (rv.toList ++ st) (wa ++ (w1 ++ wb)))
    (kx : ∀ E, postX' E → ∃ (pre : List ExceptionTableEntry) (x : ExceptionTableEntry) (suf : List ExceptionTableEntry), tb = pre ++ x :: suf ∧ (∀ z ∈ pre, z.catchType ≠ 0 ∧ E = "java/lang/IllegalStateException" ∧ ∃ nm, Cond.classLink own z.catchType nm ∈ Ts ∧ (nm = "java/lang/IllegalArgumentException" ∨ nm = "java/util/NoSuchElementException")) ∧ covers x pc = true ∧ x.catchType ≠ 0 ∧ Cond.classLink own x.catchType E ∈ Ts ∧ E ∈ jExcL ∧ ∀ qx : Nat, jW G X (k + mc') (n + ms') x.handlerPc ls [.ref qx] (wa ++ (w0 ++ wb))) : jW G X k n pc ls (As.reverse ++ (.ref b :: st)) ws := by
  subst hw
  obtain ⟨p, e, R, s, m, args, below, meth, c, A, Q⟩ := X
  obtain ⟨hx, hb, hr, hml, hown, hts, hlocks, hK, hA, hN, hRoom, hCell, hQ⟩ := hX
  obtain ⟨htb, hThr, hNc⟩ := hH
  intro H locs la hP hD hS hL
  have hF := j_free hD hS hA
  have hrun := vx_runV (e := e) (below := below) (meth := meth) (As := As) (rest := st) (H := H) (locs := locs) (cells := k) (slots := n) (g := F0 m pc la (As.reverse ++ (.ref b :: st))) ⟨hx, hb, hml, hown, hts⟩ (hC H.size) (cwV nA hts hG hWs rfl rfl hdd0 (j_room hRoom hdd hmx)) ⟨j_blindT, va_recv hK hP hci he, fun U hU hW => j_preT (As := .ref b :: As) hP hD hK hN hThr hS hA U hU hW⟩ rfl hnA (hL.1.trans hlen) rfl (lv_room hcat) hd (by rw [hCell.1, hCell.2]; exact hcs)
  intro T hT XT
  rcases hrun T hT XT with ⟨v, st₀, t, T', L, h0, X', hL', e1, ev, ⟨⟨rv, w1, hv, hp, hP1, hD1⟩, hz, hk⟩, stp⟩ | ⟨qx, st₀, t, T', L, E, ce, h0, X', hL', e1, ev, ⟨hpx, hP1, hz, hk⟩, hce, hcv, hcl, stp⟩
  · have e9 : v = rv := by cases hv; rfl
    subst e9
    rw [h0] at hz hk
    obtain ⟨j1, j2⟩ := j_frame hP hD (H1 := t.heap) (fun q q1 q2 => hk q q1 q2) hF hP1 hD1
    obtain ⟨t2, a1, b1⟩ := kk v w1 hp T'.heap (locs ++ L) la (by rw [e1]; exact j1) j2
      ⟨Nat.le_trans hS.1 (by rw [e1]; exact hz), fun q h1 h2 => by rw [e1, hk q (Nat.lt_of_lt_of_le h1 hS.1) (fun z => h2 (hF q z))]; exact hS.2.1 q h1 h2, fun q hq => by
        rcases List.mem_append.mp hq with h | h
        · exact hS.2.2 q h
        · exact hF _ (hL' q h)⟩ hL T' rfl X'
    exact ⟨t2, stp t2 a1, b1⟩
  · rw [h0] at hz hk
    have hD0 : va_D (va_A w0 H.size) w0 := by
      have h := (j_D_iff.mp hD).1
      rw [List.map_append, List.map_append, List.nodup_append, List.nodup_append] at h
      exact va_D.self (sz := H.size) (j_D_iff.mpr ⟨h.2.1.1, fun _ _ => trivial⟩ : va_D (fun _ => True) w0)
    obtain ⟨j1, j2⟩ := j_frame hP hD (H1 := t.heap) (fun q q1 q2 => hk q q1 q2) hF hP1 hD0
    obtain ⟨pre, x, suf, g1, g2, g3, g4, g5, g6, g7⟩ := kx E hpx
    have kW := g7 qx T'.heap (locs ++ L) la (by rw [e1]; exact j1) j2
      ⟨Nat.le_trans hS.1 (by rw [e1]; exact hz), fun q h1 h2 => by rw [e1, hk q (Nat.lt_of_lt_of_le h1 hS.1) (fun z => h2 (hF q z))]; exact hS.2.1 q h1 h2, fun q hq => by
        rcases List.mem_append.mp hq with h | h
        · exact hS.2.2 q h
        · exact hF _ (hL' q h)⟩ hL
    have kC := vx_catch (rest := st) hown pre x suf (htb.trans g1) (fun z hz => Or.inr (by
        obtain ⟨z1, z2, nm, z3, z4⟩ := g2 z hz
        refine ⟨z1, nm, hts _ z3, ?_⟩
        subst z2
        rcases z4 with rfl | rfl
        · exact hNc.1
        · exact hNc.2)) g3 g4 (hts _ g5) (va_Nw.use rfl (hThr.2.2.2.1 E g6)) (by rw [e1]; exact hce) hcv hcl kW
    obtain ⟨t2, a1, b1⟩ := kC T' rfl X'
    exact ⟨t2, stp.trans a1, b1⟩
end JTRY
