/-! OLD KNOWLEDGE: the script's array and the law's one literal, which lie in no world; contracts that rest on them. -/
/-- the script's cell, its length and ints; the literal's cell, its bytes' cell -/
abbrev kO : Type := Nat × Nat × (Nat → Int32) × Nat × Nat
def bP : Nat → Int32 := fun j => if j = 0 then 112 else if j = 1 then 102 else if j = 2 then 98 else 116
def kK (o : kO) (A : Nat → Prop) (U : State) : Prop := (va_X o.1 o.2.1 o.2.2.1 U U.heap ∧ o.1 < U.heap.size ∧ ¬ A o.1) ∧ va_O "java/lang/String" o.2.2.2.1 A U U.heap ∧ va_OF "java/lang/String" "coder" "B" (.int 0) o.2.2.2.1 A U U.heap ∧ va_OF "java/lang/String" "value" "[B" (.ref o.2.2.2.2) o.2.2.2.1 A U U.heap ∧ va_T .byte o.2.2.2.2 4 (fun j => .int (bP j)) A U U.heap ∧ va_Z "java/lang/String" "COMPACT_STRINGS" "Z" (.int 1) A U U.heap ∧ va_Zq "jdk/internal/util/Preconditions" "SIOOBE_FORMATTER" "Ljava/util/function/BiFunction;" A U U.heap ∧ vk_R RL 161 "pfbt" o.2.2.2.1 U
theorem kK.call {o : kO} {A B : Nat → Prop} {s U : State} {H : Heap} {locs : List Loc} (h : kK o A s) (hS : va_S A s.heap H locs) (hAB : ∀ q, B q → A q) (hU : U.heap = H) (hW : s.WarmedH U.vm) : kK o B U := by
  obtain ⟨⟨h1, h2, h3⟩, h4, h5, h6, h7, h8, h9, h10⟩ := h
  refine ⟨⟨?_, ?_, fun z => h3 (hAB _ z)⟩, ?_, ?_, ?_, ?_, ?_, ?_, h10.warm hW⟩
  · rw [hU]; exact va_X.moved hW.alike (h1.kept (hS.2.1 _ h2 h3))
  · rw [hU]; exact Nat.lt_of_lt_of_le h2 hS.1
  · rw [hU]; exact (va_O.moved hW.alike (h4.kept hS.2.1)).narrow hAB
  · rw [hU]; exact (va_OF.moved hW.alike (h5.kept hS.2.1)).narrow hAB
  · rw [hU]; exact (va_OF.moved hW.alike (h6.kept hS.2.1)).narrow hAB
  · rw [hU]; exact (va_T.moved hW.alike (h7.kept hS.2.1)).narrow hAB
  · rw [hU]; exact (va_Z.moved hW.alike (h8.kept hS.2.1)).narrow hAB
  · rw [hU]; exact (va_Zq.moved hW.alike (h9.kept hS.2.1)).narrow hAB
theorem kK.same {o : kO} {A : Nat → Prop} {u U : State} (hv : u.vm = U.vm) (hh : u.heap = U.heap) (h : kK o A u) : kK o A U := by
  obtain ⟨⟨h1, h2, h3⟩, h4, h5, h6, h7, h8, h9, h10⟩ := h
  have ha : u.vm.Alike U.vm := hv ▸ Vm.Alike.refl u.vm
  refine ⟨⟨?_, ?_, h3⟩, ?_, ?_, ?_, ?_, ?_, ?_, h10.same hv.symm⟩
  · rw [← hh]; exact va_X.moved ha h1
  · rw [← hh]; exact h2
  · rw [← hh]; exact va_O.moved ha h4
  · rw [← hh]; exact va_OF.moved ha h5
  · rw [← hh]; exact va_OF.moved ha h6
  · rw [← hh]; exact va_T.moved ha h7
  · rw [← hh]; exact va_Z.moved ha h8
  · rw [← hh]; exact va_Zq.moved ha h9
def kX (o : kO) (X : jX) : Prop := match X with
  | (p, e, R, s, m, args, below, meth, c, A, Q) => kK o A s
def kPc (o : kO) (G : jG) (As : List Value) (w0 : va_W) (sz : Nat) : Array Value → State → Prop := va_Pc As (fun U => U.heap.size = sz ∧ va_P G.2.1 vwCl w0 U.heap ∧ va_K G.2.1 vwCl (jtys G.2.2) U ∧ va_D (fun _ => True) w0 ∧ jNests U ∧ kK o (va_A w0 sz) U)
/-- a contract that rests on the old cells -/
def jK (o : kO) (G : jG) (d : Nat) (y : MethodName) (Ts : List Cond) (As : List Value) (w0 : va_W) (post : Option Value → Prop) : Prop :=
  ∀ sz : Nat, Met G.1 y Ts (jRm d 0 0) (kPc o G As w0 sz) (jQ G.2.1 (fun rv w => post rv ∧ w = w0) (va_A w0 sz)) 0 0 (va_A w0 sz)
theorem k_blind {o : kO} {G : jG} {As : List Value} {w0 : va_W} {sz : Nat} : FrameBlind (kPc o G As w0 sz) := by
  intro a U g mk h
  obtain ⟨e, h1, h2, h3, h4, h5, h6⟩ := h
  exact ⟨e, h1, h2, va_K.moved (u := U) (U := U.calling g mk a) (Vm.Alike.refl U.vm) h3, h4, jNests.same (s := U) rfl h5, kK.same (u := U) rfl rfl h6⟩
theorem jK.of {o : kO} {G : jG} {d maxL : Nat} {y : MethodName} {Ts Ts' : List Cond} {cc : ByteArray} {ret : Option FieldType} {As : List Value} {w0 : va_W} {post : Option Value → Prop} (hTs : Ts = Cond.code y cc maxL ret :: Ts') (hy : plainName y.cls = true) (ls : List (Option Value)) (hls : ls.length = maxL) (hlen : (lg_sl As).length ≤ maxL) (hargs : ∀ (i : Nat) (v : Value), ls[i]? = some (some v) → (i, v) ∈ lv_args 0 As)
    (body : ∀ X : jX, jOK G X y.cls cc Ts ret maxL d 0 0 (fun rv w => post rv ∧ w = w0) → kX o X → jW G X 0 0 0 ls [] w0) : jK o G d y Ts As w0 post := by
  intro sz
  refine Met.ofW (cc := cc) (maxL := maxL) (ret := ret) hy hTs ?_
  intro p e s m args below meth c s₁ B hml hv
  obtain ⟨rfl, hsz, hP, hK, hD0, hN, hk⟩ := hv
  have hts := atoms_spec (ws := Ts) B.pre
  have hown : s.vm.findClass y.cls = some m.cls := findClass_of_methodNamed B.named
  have hlocks := B.notSynchronized
  subst hsz
  have hD := hD0.self (sz := s.heap.size)
  have hl := lv_entry As (n := maxL) hlen
  rw [lg_entry_eq]
  generalize (lg_sl As ++ List.replicate (maxL - (lg_sl As).length) Slot.unset).toArray = la at hl ⊢
  exact body (p, e, (headSpec Ts (jRm d 0 0)).room, s, m, As.toArray, below, meth, c, va_A w0 s.heap.size, MQ below (jQ G.2.1 (fun rv w => post rv ∧ w = w0) (va_A w0 s.heap.size)) As.toArray s 0 0 (va_A w0 s.heap.size)) ⟨B.exec, B.bytes, B.returns, hml, hown, hts, hlocks, hK, fun q h => Or.inr h, hN, ⟨Nat.le_refl _, Nat.le_refl _⟩, ⟨rfl, rfl⟩, fun t h => h⟩ hk s.heap [] la hP hD va_S.rf ⟨by rw [hls]; exact hl.1, hl.2.1, fun i v h => hl.2.2 (i, v) (hargs i v h)⟩
section JOLD
variable {G : jG} {X : jX} {own : String} {cc : ByteArray} {Ts : List Cond} {ret : Option FieldType} {nL d mc ms k n pc : Nat} {post : Option Value → va_W → Prop} {ls : List (Option Value)} {st : List Value} {ws : va_W}
def jOld (P : (Nat → Prop) → State → Heap → Prop) (X : jX) : Prop := match X with
  | (p, e, R, s, m, args, below, meth, c, A, Q) => P A s s.heap
theorem kX.scr {o : kO} (h : kX o X) : jScr X o.1 o.2.1 o.2.2.1 := by
  obtain ⟨p, e, R, s, m, args, below, meth, c, A, Q⟩ := X
  exact h.1
theorem kX.coder {o : kO} (h : kX o X) : jOld (va_OF "java/lang/String" "coder" "B" (.int 0) o.2.2.2.1) X := by
  obtain ⟨p, e, R, s, m, args, below, meth, c, A, Q⟩ := X
  exact h.2.2.1
theorem kX.value {o : kO} (h : kX o X) : jOld (va_OF "java/lang/String" "value" "[B" (.ref o.2.2.2.2) o.2.2.2.1) X := by
  obtain ⟨p, e, R, s, m, args, below, meth, c, A, Q⟩ := X
  exact h.2.2.2.1
theorem kX.bytes {o : kO} (h : kX o X) : jOld (va_T .byte o.2.2.2.2 4 (fun j => .int (bP j))) X := by
  obtain ⟨p, e, R, s, m, args, below, meth, c, A, Q⟩ := X
  exact h.2.2.2.2.1
theorem kX.compact {o : kO} (h : kX o X) : jOld (va_Z "java/lang/String" "COMPACT_STRINGS" "Z" (.int 1)) X := by
  obtain ⟨p, e, R, s, m, args, below, meth, c, A, Q⟩ := X
  exact h.2.2.2.2.2.1
theorem kX.form {o : kO} (h : kX o X) : jOld (va_Z "jdk/internal/util/Preconditions" "SIOOBE_FORMATTER" "Ljava/util/function/BiFunction;" .null) X ∨ ∃ t : Nat, jOld (va_Z "jdk/internal/util/Preconditions" "SIOOBE_FORMATTER" "Ljava/util/function/BiFunction;" (.ref t)) X := by
  obtain ⟨p, e, R, s, m, args, below, meth, c, A, Q⟩ := X
  exact h.2.2.2.2.2.2.1
theorem j_gets (hX : jOK G X own cc Ts ret nL d mc ms post) {fn fd ref : String} {v : Value} {idx : Nat} (hZ : jOld (va_Z ref fn fd v) X) (hl : Cond.fieldLink own idx ref fn fd ∈ Ts) (hd : decode cc pc = .ok (.getstatic idx, 3)) (kk : jW G X k n (pc + 3) ls (v :: st) ws) : jW G X k n pc ls st ws := by
  obtain ⟨p, e, R, s, m, args, below, meth, c, A, Q⟩ := X
  obtain ⟨hx, hb, hr, hml, hown, hts, hlocks, hK, hA, hN, hRoom, hCell, hQ⟩ := hX
  intro H locs la hP hD hS hL
  exact va_gets hx hb hZ hS hown (hts _ hl) (fun x h => h) hd (kk H locs la hP hD hS hL)
theorem j_getO (hX : jOK G X own cc Ts ret nL d mc ms post) {fn fd ref : String} {v : Value} {idx q : Nat} (hZ : jOld (va_OF ref fn fd v q) X) (hl : Cond.fieldLink own idx ref fn fd ∈ Ts) (hd : decode cc pc = .ok (.getfield idx, 3)) (kk : jW G X k n (pc + 3) ls (v :: st) ws) : jW G X k n pc ls (.ref q :: st) ws := by
  obtain ⟨p, e, R, s, m, args, below, meth, c, A, Q⟩ := X
  obtain ⟨hx, hb, hr, hml, hown, hts, hlocks, hK, hA, hN, hRoom, hCell, hQ⟩ := hX
  intro H locs la hP hD hS hL
  exact vk_getf hx hb hZ hS hown (hts _ hl) (fun x h => h) hd (kk H locs la hP hD hS hL)
theorem j_tlen (hX : jOK G X own cc Ts ret nL d mc ms post) {ty : FieldType} {t N : Nat} {f : Nat → Value} {v : Int32} (hT : jOld (va_T ty t N f) X) (hv : Int32.ofNat N = v) (hd : decode cc pc = .ok (.arraylength, 1)) (kk : jW G X k n (pc + 1) ls (.int v :: st) ws) : jW G X k n pc ls (.ref t :: st) ws := by
  obtain ⟨p, e, R, s, m, args, below, meth, c, A, Q⟩ := X
  obtain ⟨hx, hb, hr, hml, hown, hts, hlocks, hK, hA, hN, hRoom, hCell, hQ⟩ := hX
  intro H locs la hP hD hS hL
  exact va_tlen hx hb hT hS hv hd (kk H locs la hP hD hS hL)
theorem j_tb (hX : jOK G X own cc Ts ret nL d mc ms post) {t N : Nat} {f : Nat → Value} {i : Int32} {v : Value} (hT : jOld (va_T .byte t N f) X) (hin : vp_in i N) (hv : f i.toNatClampNeg = v) (hd : decode cc pc = .ok (.baload, 1)) (kk : jW G X k n (pc + 1) ls (v :: st) ws) : jW G X k n pc ls (.int i :: .ref t :: st) ws := by
  obtain ⟨p, e, R, s, m, args, below, meth, c, A, Q⟩ := X
  obtain ⟨hx, hb, hr, hml, hown, hts, hlocks, hK, hA, hN, hRoom, hCell, hQ⟩ := hX
  intro H locs la hP hD hS hL
  exact va_tb hx hb hT hS hin hv hd (kk H locs la hP hD hS hL)
theorem j_i2c (hX : jOK G X own cc Ts ret nL d mc ms post) {x v : Int32} (hv : (x.toUInt32 % 65536).toInt32 = v) (hd : decode cc pc = .ok (.i2c, 1)) (kk : jW G X k n (pc + 1) ls (.int v :: st) ws) : jW G X k n pc ls (.int x :: st) ws := by
  obtain ⟨p, e, R, s, m, args, below, meth, c, A, Q⟩ := X
  obtain ⟨hx, hb, hr, hml, hown, hts, hlocks, hK, hA, hN, hRoom, hCell, hQ⟩ := hX
  intro H locs la hP hD hS hL
  exact lv_i2c hx hb hd hv (kk H locs la hP hD hS hL)
theorem j_ldcS (hX : jOK G X own cc Ts ret nL d mc ms post) {o : kO} (hk : kX o X) (hw : own = RL) (hd : decode cc pc = .ok (.ldc 161, 2)) (kk : jW G X k n (pc + 2) ls (.ref o.2.2.2.1 :: st) ws) : jW G X k n pc ls st ws := by
  subst hw
  obtain ⟨p, e, R, s, m, args, below, meth, c, A, Q⟩ := X
  obtain ⟨hx, hb, hr, hml, hown, hts, hlocks, hK, hA, hN, hRoom, hCell, hQ⟩ := hX
  intro H locs la hP hD hS hL
  exact va_ldcS hx hb hown hk.2.2.2.2.2.2.2 hd (kk H locs la hP hD hS hL)
theorem j_callKS (hX : jOK G X own cc Ts ret nL d mc ms post) {o : kO} (hk : kX o X) {idx d' maxL nA : Nat} {y : MethodName} {bytes : ByteArray} {rt : Option FieldType} {Ws Ws' : List Cond} {post' : Option Value → Prop} {As : List Value} (hd : decode cc pc = .ok (.invokestatic idx, 3)) (hC : jK o G d' y Ws As ws post') (hG : GoodIn Ts (va_wsS own idx y Ws)) (hWs : Ws = Cond.code y bytes maxL rt :: Ws') (hdd0 : y.cls ≠ "java/lang/invoke/MethodHandle" ∧ y.cls ≠ "java/lang/invoke/VarHandle" ∧ (parseMethodDescriptor y.desc).map (fun d => d.parameters.length) = some nA) (hdd : d' + 1 ≤ d) (hmx : maxL ≤ 21) (hnA : As.length = nA) (hcat : (st.map fun v => v.category).sum ≤ 8) (hlen : ls.length = nL) (hkn : k ≤ mc ∧ n ≤ ms) (kk : ∀ rv : Option Value, post' rv → jW G X k n (pc + 3) ls (rv.toList ++ st) ws) : jW G X k n pc ls (As.reverse ++ st) ws := by
  obtain ⟨p, e, R, s, m, args, below, meth, c, A, Q⟩ := X
  obtain ⟨hx, hb, hr, hml, hown, hts, hlocks, hK, hA, hN, hRoom, hCell, hQ⟩ := hX
  intro H locs la hP hD hS hL
  refine j_after (wa := []) (w0 := ws) (wb := []) (va_runS (As := As) (rest := st) ⟨hx, hb, hml, hown, hts⟩ (hC H.size) (va_cwS nA hts hG hWs rfl rfl hdd0 (j_room hRoom hdd hmx)) ⟨k_blind, fun U hU hW => ?_⟩ rfl hnA (hL.1.trans hlen) rfl (lv_room hcat) hd (by rw [hCell.1, hCell.2]; exact hkn)) (by rw [List.nil_append, List.append_nil]; exact hP) (by rw [List.nil_append, List.append_nil]; exact hD) hS hL hA (fun rv w1 hp => ?_)
  · obtain ⟨e, h1, h2, h3, h4, h5⟩ := j_pre (As := As) (wa := []) (w0 := ws) (wb := []) (by rw [List.nil_append, List.append_nil]; exact hP) (by rw [List.nil_append, List.append_nil]; exact hD) hK hN U hU hW
    exact ⟨e, h1, h2, h3, h4, h5, kK.call hk hS (j_free (wa := []) (w0 := ws) (wb := []) (by rw [List.nil_append, List.append_nil]; exact hD) hS hA) hU hW⟩
  · obtain ⟨hp1, rfl⟩ := hp
    have := kk rv hp1
    rw [List.nil_append, List.append_nil]
    exact this
theorem j_callKV (hX : jOK G X own cc Ts ret nL d mc ms post) {o : kO} (hk : kX o X) {idx d' maxL nA : Nat} {y : MethodName} {bytes : ByteArray} {rt : Option FieldType} {Ws Ws' : List Cond} {post' : Option Value → Prop} {As : List Value} (hd : decode cc pc = .ok (.invokevirtual idx, 3)) (hC : jK o G d' y Ws (.ref o.2.2.2.1 :: As) ws post') (hG : GoodIn Ts (wsV own idx "java/lang/String" y Ws)) (hWs : Ws = Cond.code y bytes maxL rt :: Ws') (hdd0 : y.cls = "java/lang/String" ∧ y.cls ≠ "java/lang/invoke/MethodHandle" ∧ y.cls ≠ "java/lang/invoke/VarHandle" ∧ (parseMethodDescriptor y.desc).map (fun d => d.parameters.length) = some nA) (hdd : d' + 1 ≤ d) (hmx : maxL ≤ 21) (hnA : As.length = nA) (hcat : (st.map fun v => v.category).sum ≤ 8) (hlen : ls.length = nL) (hkn : k ≤ mc ∧ n ≤ ms) (kk : ∀ rv : Option Value, post' rv → jW G X k n (pc + 3) ls (rv.toList ++ st) ws) : jW G X k n pc ls (As.reverse ++ (.ref o.2.2.2.1 :: st)) ws := by
  obtain ⟨p, e, R, s, m, args, below, meth, c, A, Q⟩ := X
  obtain ⟨hx, hb, hr, hml, hown, hts, hlocks, hK, hA, hN, hRoom, hCell, hQ⟩ := hX
  intro H locs la hP hD hS hL
  have hrecv : ∃ cell : Cell, H[o.2.2.2.1]? = some cell ∧ cell.vm.isStatics = false ∧ s.vm.findClass "java/lang/String" = some cell.cls := by
    obtain ⟨cell, h1, h2, h3, -⟩ := hk.2.1.kept hS.2.1
    exact ⟨cell, h1, h2, h3⟩
  refine j_after (wa := []) (w0 := ws) (wb := []) (va_runV (As := As) (rest := st) ⟨hx, hb, hml, hown, hts⟩ (hC H.size) (cwV nA hts hG hWs rfl rfl hdd0 (j_room hRoom hdd hmx)) ⟨k_blind, hrecv, fun U hU hW => ?_⟩ rfl hnA (hL.1.trans hlen) rfl (lv_room hcat) hd (by rw [hCell.1, hCell.2]; exact hkn)) (by rw [List.nil_append, List.append_nil]; exact hP) (by rw [List.nil_append, List.append_nil]; exact hD) hS hL hA (fun rv w1 hp => ?_)
  · obtain ⟨e, h1, h2, h3, h4, h5⟩ := j_pre (As := .ref o.2.2.2.1 :: As) (wa := []) (w0 := ws) (wb := []) (by rw [List.nil_append, List.append_nil]; exact hP) (by rw [List.nil_append, List.append_nil]; exact hD) hK hN U hU hW
    exact ⟨e, h1, h2, h3, h4, h5, kK.call hk hS (j_free (wa := []) (w0 := ws) (wb := []) (by rw [List.nil_append, List.append_nil]; exact hD) hS hA) hU hW⟩
  · obtain ⟨hp1, rfl⟩ := hp
    have := kk rv hp1
    rw [List.nil_append, List.append_nil]
    exact this
end JOLD
set_option maxHeartbeats 4000000 in
set_option maxRecDepth 100000 in
theorem c_J3_checkIndex_n (G : jG) {w : va_W} (i n : Nat) (h : i < n) (hn : n < 2 ^ 31) : jD G 0 yJ3_checkIndex_8e157 wsJ3_checkIndex_8e157 [.int (nI i), .int (nI n), .null] w (some (.int (nI i))) w := by
  refine jC.of (maxL := 3) (cc := cJ3_checkIndex_8e157) (ret := some .int) rfl (by decide) [some (.int (nI i)), some (.int (nI n)), some (.null)] rfl (Nat.le_of_ble_eq_true rfl) (j_args rfl) (fun X hX => ?_)
  refine j_iload_n hX dJ3_checkIndex_8e157_0 rfl ?_
  refine j_if_lt_f hX (tgt := 9) dJ3_checkIndex_8e157_1 (by decide) (nI_pos (by omega)) ?_
  refine j_iload_n hX dJ3_checkIndex_8e157_4 rfl ?_
  refine j_iload_n hX dJ3_checkIndex_8e157_5 rfl ?_
  refine j_icmp_lt_t hX (tgt := 16) dJ3_checkIndex_8e157_6 (by decide) (nI_lt h hn) ?_
  refine j_iload_n hX dJ3_checkIndex_8e157_16 rfl ?_
  exact j_iret hX dJ3_checkIndex_8e157_17 ⟨rfl, rfl⟩
set_option maxHeartbeats 4000000 in
set_option maxRecDepth 100000 in
theorem c_J3_checkIndex_r (G : jG) {w : va_W} (i n : Nat) (h : i < n) (hn : n < 2 ^ 31) (t : Nat) : jD G 0 yJ3_checkIndex_8e157 wsJ3_checkIndex_8e157 [.int (nI i), .int (nI n), .ref t] w (some (.int (nI i))) w := by
  refine jC.of (maxL := 3) (cc := cJ3_checkIndex_8e157) (ret := some .int) rfl (by decide) [some (.int (nI i)), some (.int (nI n)), some (.ref t)] rfl (Nat.le_of_ble_eq_true rfl) (j_args rfl) (fun X hX => ?_)
  refine j_iload_n hX dJ3_checkIndex_8e157_0 rfl ?_
  refine j_if_lt_f hX (tgt := 9) dJ3_checkIndex_8e157_1 (by decide) (nI_pos (by omega)) ?_
  refine j_iload_n hX dJ3_checkIndex_8e157_4 rfl ?_
  refine j_iload_n hX dJ3_checkIndex_8e157_5 rfl ?_
  refine j_icmp_lt_t hX (tgt := 16) dJ3_checkIndex_8e157_6 (by decide) (nI_lt h hn) ?_
  refine j_iload_n hX dJ3_checkIndex_8e157_16 rfl ?_
  exact j_iret hX dJ3_checkIndex_8e157_17 ⟨rfl, rfl⟩
set_option maxHeartbeats 4000000 in
set_option maxRecDepth 100000 in
theorem c_J0_checkIndex (o : kO) (G : jG) {w : va_W} (i n : Nat) (h : i < n) (hn : n < 2 ^ 31) : jK o G 1 yJ0_checkIndex_df160 wsJ0_checkIndex_df160 [.int (nI i), .int (nI n)] w (fun rv => rv = none) := by
  refine jK.of (maxL := 2) (cc := cJ0_checkIndex_df160) (ret := none) rfl (by decide) [some (.int (nI i)), some (.int (nI n))] rfl (Nat.le_of_ble_eq_true rfl) (j_args rfl) (fun X hX hk => ?_)
  refine j_iload_n hX dJ0_checkIndex_df160_0 rfl ?_
  refine j_iload_n hX dJ0_checkIndex_df160_1 rfl ?_
  rcases kX.form hk with hZ | ⟨t, hZ⟩
  · refine j_gets hX hZ (by decide +kernel) dJ0_checkIndex_df160_2 ?_
    refine j_dS hX (nA := 3) (As := [.int (nI i), .int (nI n), .null]) (st := []) (st' := [.int (nI i)]) dJ0_checkIndex_df160_5 (c_J3_checkIndex_n G i n h hn) gJ0_checkIndex_df160_J3_checkIndex_8e157 rfl (by decide +kernel) (by omega) (Nat.le_of_ble_eq_true rfl) rfl (Nat.le_of_ble_eq_true rfl) rfl ⟨Nat.le_refl _, Nat.le_refl _⟩ rfl ?_
    refine j_pop hX dJ0_checkIndex_df160_8 rfl ?_
    exact j_vret hX dJ0_checkIndex_df160_9 ⟨rfl, rfl⟩
  · refine j_gets hX hZ (by decide +kernel) dJ0_checkIndex_df160_2 ?_
    refine j_dS hX (nA := 3) (As := [.int (nI i), .int (nI n), .ref t]) (st := []) (st' := [.int (nI i)]) dJ0_checkIndex_df160_5 (c_J3_checkIndex_r G i n h hn t) gJ0_checkIndex_df160_J3_checkIndex_8e157 rfl (by decide +kernel) (by omega) (Nat.le_of_ble_eq_true rfl) rfl (Nat.le_of_ble_eq_true rfl) rfl ⟨Nat.le_refl _, Nat.le_refl _⟩ rfl ?_
    refine j_pop hX dJ0_checkIndex_df160_8 rfl ?_
    exact j_vret hX dJ0_checkIndex_df160_9 ⟨rfl, rfl⟩
set_option maxHeartbeats 4000000 in
set_option maxRecDepth 100000 in
theorem c_J1_charAt (o : kO) (G : jG) {w : va_W} (i : Nat) (hi : i < 4) (hc : ((bP i &&& 255).toUInt32 % 65536).toInt32 = bP i) (hn : narrow .char (.int (bP i)) = .int (bP i)) : jK o G 2 yJ1_charAt_3b067 wsJ1_charAt_3b067 [.ref o.2.2.2.2, .int (nI i)] w (fun rv => rv = some (.int (bP i))) := by
  refine jK.of (maxL := 2) (cc := cJ1_charAt_3b067) (ret := some .char) rfl (by decide) [some (.ref o.2.2.2.2), some (.int (nI i))] rfl (Nat.le_of_ble_eq_true rfl) (j_args rfl) (fun X hX hk => ?_)
  refine j_iload_n hX dJ1_charAt_3b067_0 rfl ?_
  refine j_aload_n hX dJ1_charAt_3b067_1 rfl ?_
  refine j_tlen hX (kX.bytes hk) (v := nI 4) rfl dJ1_charAt_3b067_2 ?_
  refine j_callKS hX hk (nA := 2) (As := [.int (nI i), .int (nI 4)]) (st := []) dJ1_charAt_3b067_3 (c_J0_checkIndex o G i 4 hi (by decide)) gJ1_charAt_3b067_J0_checkIndex_df160 rfl (by decide +kernel) (by omega) (Nat.le_of_ble_eq_true rfl) rfl (Nat.le_of_ble_eq_true rfl) rfl ⟨Nat.le_refl _, Nat.le_refl _⟩ (fun rv hp => ?_)
  subst hp
  refine j_aload_n hX dJ1_charAt_3b067_6 rfl ?_
  refine j_iload_n hX dJ1_charAt_3b067_7 rfl ?_
  refine j_tb hX (kX.bytes hk) (v := .int (bP i)) (nI_in hi (by decide)) (by rw [nI_clamp (by omega)]) dJ1_charAt_3b067_8 ?_
  refine j_sipush hX (v := 255) (by decide) dJ1_charAt_3b067_9 ?_
  refine j_iand hX dJ1_charAt_3b067_12 ?_
  refine j_i2c hX hc dJ1_charAt_3b067_13 ?_
  exact j_zret hX hn dJ1_charAt_3b067_14 ⟨rfl, rfl⟩
set_option maxHeartbeats 4000000 in
set_option maxRecDepth 100000 in
theorem c_J0_isLatin1 (o : kO) (G : jG) {w : va_W} : jK o G 0 yJ0_isLatin1_aae02 wsJ0_isLatin1_aae02 [.ref o.2.2.2.1] w (fun rv => rv = some (.int 1)) := by
  refine jK.of (maxL := 1) (cc := cJ0_isLatin1_aae02) (ret := some .boolean) rfl (by decide) [some (.ref o.2.2.2.1)] rfl (Nat.le_of_ble_eq_true rfl) (j_args rfl) (fun X hX hk => ?_)
  refine j_gets hX (kX.compact hk) (by decide +kernel) dJ0_isLatin1_aae02_0 ?_
  refine j_if_eq_f hX (tgt := 17) dJ0_isLatin1_aae02_3 (by decide) (by decide) ?_
  refine j_aload_n hX dJ0_isLatin1_aae02_6 rfl ?_
  refine j_getO hX (kX.coder hk) (by decide +kernel) dJ0_isLatin1_aae02_7 ?_
  refine j_if_ne_f hX (tgt := 17) dJ0_isLatin1_aae02_10 (by decide) rfl ?_
  refine j_iconst hX (v := 1) (by decide) dJ0_isLatin1_aae02_13 ?_
  refine j_goto hX (tgt := 18) dJ0_isLatin1_aae02_14 (by decide) ?_
  exact j_zret hX (by decide) dJ0_isLatin1_aae02_18 ⟨rfl, rfl⟩
set_option maxHeartbeats 4000000 in
set_option maxRecDepth 100000 in
theorem c_J0_charAt (o : kO) (G : jG) {w : va_W} (i : Nat) (hi : i < 4) : jK o G 3 yJ0_charAt_5068e wsJ0_charAt_5068e [.ref o.2.2.2.1, .int (nI i)] w (fun rv => rv = some (.int (bP i))) := by
  have hc : ((bP i &&& 255).toUInt32 % 65536).toInt32 = bP i := by
    rcases (show i = 0 ∨ i = 1 ∨ i = 2 ∨ i = 3 by omega) with rfl | rfl | rfl | rfl <;> decide +kernel
  have hn : narrow .char (.int (bP i)) = .int (bP i) := by
    rcases (show i = 0 ∨ i = 1 ∨ i = 2 ∨ i = 3 by omega) with rfl | rfl | rfl | rfl <;> decide +kernel
  refine jK.of (maxL := 2) (cc := cJ0_charAt_5068e) (ret := some .char) rfl (by decide) [some (.ref o.2.2.2.1), some (.int (nI i))] rfl (Nat.le_of_ble_eq_true rfl) (j_args rfl) (fun X hX hk => ?_)
  refine j_aload_n hX dJ0_charAt_5068e_0 rfl ?_
  refine j_callKV hX hk (nA := 0) (As := []) (st := []) dJ0_charAt_5068e_1 (c_J0_isLatin1 o G) gJ0_charAt_5068e_J0_isLatin1_aae02 rfl (by decide +kernel) (by omega) (Nat.le_of_ble_eq_true rfl) rfl (Nat.le_of_ble_eq_true rfl) rfl ⟨Nat.le_refl _, Nat.le_refl _⟩ (fun rv hp => ?_)
  subst hp
  refine j_if_eq_f hX (tgt := 16) dJ0_charAt_5068e_4 (by decide) (by decide) ?_
  refine j_aload_n hX dJ0_charAt_5068e_7 rfl ?_
  refine j_getO hX (kX.value hk) (by decide +kernel) dJ0_charAt_5068e_8 ?_
  refine j_iload_n hX dJ0_charAt_5068e_11 rfl ?_
  refine j_callKS hX hk (nA := 2) (As := [.ref o.2.2.2.2, .int (nI i)]) (st := []) dJ0_charAt_5068e_12 (c_J1_charAt o G i hi hc hn) gJ0_charAt_5068e_J1_charAt_3b067 rfl (by decide +kernel) (by omega) (Nat.le_of_ble_eq_true rfl) rfl (Nat.le_of_ble_eq_true rfl) rfl ⟨Nat.le_refl _, Nat.le_refl _⟩ (fun rv hp => ?_)
  subst hp
  exact j_zret hX hn dJ0_charAt_5068e_15 ⟨rfl, rfl⟩
set_option maxHeartbeats 4000000 in
set_option maxRecDepth 100000 in
theorem c_L_at (o : kO) (G : jG) {w : va_W} (i : Nat) (hi : i < 2 ^ 31) (hL : o.2.1 < 2 ^ 31) : jK o G 0 yL_at wsL_at [.ref o.1, .int (nI i)] w (fun rv => ∃ v : Int32, rv = some (.int v)) := by
  refine jK.of (maxL := 2) (cc := cL_at) (ret := some .int) rfl (by decide) [some (.ref o.1), some (.int (nI i))] rfl (Nat.le_of_ble_eq_true rfl) (j_args rfl) (fun X hX hk => ?_)
  refine j_iload_n hX dL_at_0 rfl ?_
  refine j_aload_n hX dL_at_1 rfl ?_
  refine j_slen hX (kX.scr hk) dL_at_2 ?_
  refine j_icmp_ge hX (tgt := 12) dL_at_3 (by decide) (fun h3 => ?_) (fun h3 => ?_)
  · refine j_iconst hX (v := 0) (by decide) dL_at_12 ?_
    exact j_iret hX dL_at_13 ⟨⟨_, rfl⟩, rfl⟩
  · have hlt : i < o.2.1 := by
      rcases Nat.lt_or_ge i o.2.1 with h | h
      · exact h
      · exact absurd (nI_le h hi) h3
    refine j_aload_n hX dL_at_6 rfl ?_
    refine j_iload_n hX dL_at_7 rfl ?_
    refine j_scr hX (kX.scr hk) dL_at_8 (nI_in hlt hL) rfl ?_
    refine j_goto hX (tgt := 13) dL_at_9 (by decide) ?_
    exact j_iret hX dL_at_13 ⟨⟨_, rfl⟩, rfl⟩
/-- the rest, made not less than 0 -/
def some9 (v n : Int32) : Int32 := if 0 ≤ rm9 v n then rm9 v n else rm9 v n + n
theorem rm9_toInt {v : Int32} {n : Nat} (hn0 : 0 < n) (hn : n < 2 ^ 31) : (rm9 v (nI n)).toInt = v.toInt.tmod n := by
  have h1 := Int32.le_toInt v
  have h2 := Int32.toInt_lt v
  have hd : (v.toInt.tdiv n).natAbs ≤ v.toInt.natAbs := Int.natAbs_tdiv_le_natAbs _ _
  have hm : v.toInt.tmod n + n * v.toInt.tdiv n = v.toInt := Int.tmod_add_mul_tdiv _ _
  have ha : (v.toInt.tmod n).natAbs < n := by
    have := Int.natAbs_tmod v.toInt n
    rw [this]
    exact Nat.mod_lt _ (by simpa using hn0)
  have ha2 : (v.toInt.tmod n).natAbs ≤ v.toInt.natAbs := by
    have := Int.natAbs_tmod v.toInt n
    rw [this]
    exact Nat.mod_le _ _
  have hb : (n * v.toInt.tdiv n).natAbs ≤ v.toInt.natAbs := by
    rw [Int.natAbs_mul, Int.natAbs_tdiv, Int.natAbs_natCast]
    exact Nat.mul_div_le v.toInt.natAbs n
  unfold rm9
  rw [Int32.toInt_sub, Int32.toInt_mul, Int32.toInt_div, nI_toInt hn]
  by_cases hmin : v.toInt.tdiv n = 2 ^ 31
  · exfalso
    rw [hmin] at hm
    omega
  · rw [Int.bmod_eq_of_le (n := v.toInt.tdiv n) (by omega) (by omega), Int.mul_comm, Int.bmod_eq_of_le (n := (n : Int) * v.toInt.tdiv n) (by omega) (by omega), Int.bmod_eq_of_le (by omega) (by omega)]
    omega
theorem some9_lt {v : Int32} {n : Nat} (hn0 : 0 < n) (hn : n < 2 ^ 31) : ∃ m, m < n ∧ some9 v (nI n) = nI m := by
  have h1 := rm9_toInt (v := v) hn0 hn
  have ha : (v.toInt.tmod n).natAbs < n := by
    have := Int.natAbs_tmod v.toInt n
    rw [this]
    exact Nat.mod_lt _ (by simpa using hn0)
  unfold some9
  by_cases e : 0 ≤ rm9 v (nI n)
  · rw [if_pos e]
    have e2 : (0 : Int) ≤ (rm9 v (nI n)).toInt := by simpa using Int32.le_iff_toInt_le.mp e
    refine ⟨(rm9 v (nI n)).toInt.toNat, by omega, Int32.toInt_inj.mp ?_⟩
    rw [nI_toInt (by omega)]
    omega
  · rw [if_neg e]
    have e2 : (rm9 v (nI n)).toInt < 0 := by
      have := mt Int32.le_iff_toInt_le.mpr e
      have h0 : (0 : Int32).toInt = 0 := by decide
      omega
    refine ⟨((rm9 v (nI n)).toInt + n).toNat, by omega, Int32.toInt_inj.mp ?_⟩
    rw [nI_toInt (by omega), Int32.toInt_add, nI_toInt hn, Int.bmod_eq_of_le (by omega) (by omega)]
    omega
set_option maxHeartbeats 4000000 in
set_option maxRecDepth 100000 in
theorem c_L_some (G : jG) {w : va_W} (v n : Int32) (h : ¬ n = 0) : jD G 0 yL_some wsL_some [.int v, .int n] w (some (.int (some9 v n))) w := by
  refine jC.of (maxL := 3) (cc := cL_some) (ret := some .int) rfl (by decide) [some (.int v), some (.int n), none] rfl (Nat.le_of_ble_eq_true rfl) (j_args rfl) (fun X hX => ?_)
  refine j_iload_n hX dL_some_0 rfl ?_
  refine j_iload_n hX dL_some_1 rfl ?_
  refine j_irem hX dL_some_2 h ?_
  refine j_istore_n hX (ls' := [some (.int v), some (.int n), some (.int (rm9 v n))]) dL_some_3 (Nat.le_of_ble_eq_true rfl) rfl rfl ?_
  refine j_iload_n hX dL_some_4 rfl ?_
  refine j_if_ge hX (tgt := 14) dL_some_5 (by decide) (fun h5 => ?_) (fun h5 => ?_)
  · refine j_iload_n hX dL_some_14 rfl ?_
    exact j_iret hX dL_some_15 ⟨congrArg (fun z => some (Value.int z)) (show some9 v n = rm9 v n from if_pos h5).symm, rfl⟩
  · refine j_iload_n hX dL_some_8 rfl ?_
    refine j_iload_n hX dL_some_9 rfl ?_
    refine j_iadd hX dL_some_10 ?_
    refine j_goto hX (tgt := 15) dL_some_11 (by decide) ?_
    exact j_iret hX dL_some_15 ⟨congrArg (fun z => some (Value.int z)) (show some9 v n = rm9 v n + n from if_neg h5).symm, rfl⟩
