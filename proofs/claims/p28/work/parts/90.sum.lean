/-! CALLS behind some arrays of the law's own. -/
section JVA
variable {G : jG} {X : jX} {own : String} {cc : ByteArray} {Ts : List Cond} {ret : Option FieldType} {nL d mc ms k n pc : Nat} {post : Option Value → va_W → Prop} {ls : List (Option Value)} {st : List Value} {ws : va_W}
theorem j_dVa (hX : jOK G X own cc Ts ret nL d mc ms post) {idx d' maxL nA : Nat} {y : MethodName} {bytes : ByteArray} {rt : Option FieldType} {Ws Ws' : List Cond} {r : Option Value} {wa w0 w1 : va_W} {st' : List Value} {b ci : Nat} {As fs : List Value} {cq : vw_C} (hci : vwCl[ci]? = some cq) (hd : decode cc pc = .ok (.invokevirtual idx, 3)) (hC : jD G d' y Ws (.ref b :: As) w0 r w1) (hG : GoodIn Ts (wsV own idx cq.1 y Ws)) (hWs : Ws = Cond.code y bytes maxL rt :: Ws') (hdd0 : y.cls = cq.1 ∧ y.cls ≠ "java/lang/invoke/MethodHandle" ∧ y.cls ≠ "java/lang/invoke/VarHandle" ∧ (parseMethodDescriptor y.desc).map (fun d => d.parameters.length) = some nA) (he : w0[0]? = some (b, .inr (ci, fs))) (hdd : d' + 1 ≤ d) (hmx : maxL ≤ 21) (hnA : As.length = nA) (hcat : (st.map fun v => v.category).sum ≤ 8) (hlen : ls.length = nL) (hkn : k ≤ mc ∧ n ≤ ms) (hst : r.toList ++ st = st') (hw : ws = wa ++ w0) (kk : jW G X k n (pc + 3) ls st' (wa ++ w1)) : jW G X k n pc ls (As.reverse ++ (.ref b :: st)) ws := by
  have he' : ws[wa.length]? = some (b, .inr (ci, fs)) := by
    rw [hw, List.getElem?_append_right (Nat.le_refl _), Nat.sub_self]
    exact he
  refine j_callV hX (wa := wa) (w0 := w0) (wb := []) (q := wa.length) hci hd hC hG hWs hdd0 he' hdd hmx hnA hcat hkn hlen (by rw [List.append_nil]; exact hw) (fun rv w h => ?_)
  obtain ⟨rfl, rfl⟩ := h
  rw [List.append_nil, hst]
  exact kk
theorem j_callHa (hX : jOK G X own cc Ts ret nL d mc ms post) (hH : jTL X) {idx d' maxL mc' ms' nA : Nat} {y : MethodName} {bytes : ByteArray} {rt : Option FieldType} {hh : List (Nat × Nat × Nat × Nat)} {Ws Ws' : List Cond} {wa w0 : va_W} {post' : Option Value → va_W → Prop} {As : List Value} (hd : decode cc pc = .ok (.invokestatic idx, 3)) (hC : jH G d' y Ws As w0 mc' ms' post') (hG : GoodIn Ts (va_wsS own idx y Ws)) (hWs : Ws = Cond.codeWith y bytes maxL rt hh :: Ws') (hdd0 : y.cls ≠ "java/lang/invoke/MethodHandle" ∧ y.cls ≠ "java/lang/invoke/VarHandle" ∧ (parseMethodDescriptor y.desc).map (fun d => d.parameters.length) = some nA) (hdd : d' + 1 ≤ d) (hmx : maxL ≤ 21) (hnA : As.length = nA) (hcat : (st.map fun v => v.category).sum ≤ 8) (hcs : k + mc' ≤ mc ∧ n + ms' ≤ ms) (hlen : ls.length = nL) (hw : ws = wa ++ w0)
    (kk : ∀ (rv : Option Value) (w1 : va_W), post' rv w1 → jW G X (k + mc') (n + ms') (pc + 3) ls (rv.toList ++ st) (wa ++ w1)) : jW G X k n pc ls (As.reverse ++ st) ws :=
  j_callH hX hH (wa := wa) (w0 := w0) (wb := []) hd hC hG hWs hdd0 hdd hmx hnA hcat hcs hlen (by rw [List.append_nil]; exact hw) (fun rv w1 h => by rw [List.append_nil]; exact kk rv w1 h)
theorem j_callHPa (hX : jOK G X own cc Ts ret nL d mc ms post) (hH : jTL X) {idx d' maxL mc' ms' nA : Nat} {y : MethodName} {bytes : ByteArray} {rt : Option FieldType} {Ws Ws' : List Cond} {wa w0 : va_W} {post' : Option Value → va_W → Prop} {As : List Value} (hd : decode cc pc = .ok (.invokestatic idx, 3)) (hC : jH G d' y Ws As w0 mc' ms' post') (hG : GoodIn Ts (va_wsS own idx y Ws)) (hWs : Ws = Cond.code y bytes maxL rt :: Ws') (hdd0 : y.cls ≠ "java/lang/invoke/MethodHandle" ∧ y.cls ≠ "java/lang/invoke/VarHandle" ∧ (parseMethodDescriptor y.desc).map (fun d => d.parameters.length) = some nA) (hdd : d' + 1 ≤ d) (hmx : maxL ≤ 21) (hnA : As.length = nA) (hcat : (st.map fun v => v.category).sum ≤ 8) (hcs : k + mc' ≤ mc ∧ n + ms' ≤ ms) (hlen : ls.length = nL) (hw : ws = wa ++ w0)
    (kk : ∀ (rv : Option Value) (w1 : va_W), post' rv w1 → jW G X (k + mc') (n + ms') (pc + 3) ls (rv.toList ++ st) (wa ++ w1)) : jW G X k n pc ls (As.reverse ++ st) ws :=
  j_callHP hX hH (wa := wa) (w0 := w0) (wb := []) hd hC hG hWs hdd0 hdd hmx hnA hcat hcs hlen (by rw [List.append_nil]; exact hw) (fun rv w1 h => by rw [List.append_nil]; exact kk rv w1 h)
end JVA
/-! THE LAW'S SUM over all that is told: a function of the state. -/
def sum0 (s : VM) (n : Nat) : Int64 := (s.1 2).toInt64 + 31 * (priceOfF (s.2 4) (maskF n) n).toInt64 + 961 * (s.1 4).toInt64 + 7 * ((s.1 12).toInt64 - (s.1 13).toInt64) + 11 * (s.1 14).toInt64 + 13 * (s.1 6).toInt64
def sum1 (os : Nat → ofr) (o : Nat) (s : VM) (x : Int64) : Nat → Int64
  | 0 => x
  | j + 1 => 31 * sum1 os o s x j + (ansL os o s (nI j)).toInt64 + 3 * (ansR os o s (nI j)).toInt64
def sum2 (s : VM) (n : Nat) (x : Int64) : Nat → Int64
  | 0 => x
  | j + 1 => 31 * sum2 s n x j + (ansN s n (nI j)).toInt64 + 3 * (ansB s (nI j)).toInt64
def sumF (os : Nat → ofr) (o n m : Nat) (s : VM) : Int64 := sum2 s n (sum1 os o s (sum0 s n) o) m
set_option maxHeartbeats 4000000 in
set_option maxRecDepth 100000 in
theorem c_L_sum (G : jG) (hG : G.1.stackTraces = false) (ad : Nat → Nat) {V W : Nat → Int32} {M N : Nat → Nat → Int32} {os : Nat → ofr} {o n : Nat} (hK : KS V os o n) (hf : findF os o n (V, M) = (W, N)) (hZ : ZS W N os o n) (e2 : W 2 = V 2) (e4 : W 4 = V 4) (e12 : W 12 = V 12) (e13 : W 13 = V 13) (e14 : W 14 = V 14) (eM : N 4 = M 4) (m : Nat) (hm : m ≤ 60) : jH G 32 yL_sum wsL_sum [.ref (ad 0), .int (nI m)] (wC G ad V M (enO ad o) (wO ad os o)) 140 840 (fun rv w => rv = some (.long (sumF os o n m (W, N))) ∧ w = wC G ad W N (enO ad o) (wO ad os o)) := by
  obtain ⟨hsz, hn, hso, ho6, hos⟩ := hK
  refine jH.ofP (maxL := 5) (cc := cL_sum) (ret := (some .long)) rfl (by decide) [some (.ref (ad 0)), some (.int (nI m)), none, none, none] rfl (Nat.le_of_ble_eq_true rfl) (j_args rfl) (fun X hX hH => ?_)
  obtain ⟨⟨hsz2, -, hso2, -, -⟩, hid, -⟩ := id hZ
  have hbest : jD G 14 yX11_bestDiscount wsX11_bestDiscount [.ref (ad 0)] (wC G ad V M (enO ad o) (wO ad os o)) (some (.int (W 6))) (wC G ad W N (enO ad o) (wO ad os o)) := by
    have hb := c_X11_bestDiscount G ad V M os o n hsz hn hso ho6 hos
    rw [hf] at hb
    exact hb
  refine j_aload_n hX dL_sum_0 rfl ?_
  refine j_dVa hX (nA := 0) (cq := (RX11, TX11, 7)) (As := []) (st := []) (st' := [.int (V 2)]) (ci := 12) (wa := []) (w0 := (wC G ad V M (enO ad o) (wO ad os o))) (w1 := (wC G ad V M (enO ad o) (wO ad os o))) rfl dL_sum_1 (c_X11_items G ad V M (enO ad o) (wO ad os o)) gL_sum_X11_items rfl (by decide +kernel) (wCg0 G ad V M (enO ad o) (wO ad os o)) (by decide) (Nat.le_of_ble_eq_true rfl) rfl (Nat.le_of_ble_eq_true rfl) rfl ⟨by omega, by omega⟩ rfl rfl ?_
  refine j_i2l hX dL_sum_4 ?_
  refine j_ldc2 hX (v := 31) dL_sum_5 (by decide +kernel) ?_
  refine j_aload_n hX dL_sum_8 rfl ?_
  refine j_dVa hX (nA := 0) (cq := (RX11, TX11, 7)) (As := []) (st := [.long 31, .long ((V 2).toInt64)]) (st' := [.int (priceOfF (M 4) (maskF n) n), .long 31, .long ((V 2).toInt64)]) (ci := 12) (wa := []) (w0 := (wC G ad V M (enO ad o) (wO ad os o))) (w1 := (wC G ad V M (enO ad o) (wO ad os o))) rfl dL_sum_9 (c_X11_sum G ad V M (enO ad o) (wO ad os o) n hsz hn) gL_sum_X11_sum rfl (by decide +kernel) (wCg0 G ad V M (enO ad o) (wO ad os o)) (by decide) (Nat.le_of_ble_eq_true rfl) rfl (Nat.le_of_ble_eq_true rfl) rfl ⟨by omega, by omega⟩ rfl rfl ?_
  refine j_i2l hX dL_sum_12 ?_
  refine j_lmul hX dL_sum_13 ?_
  refine j_ladd hX dL_sum_14 ?_
  refine j_ldc2 hX (v := 961) dL_sum_15 (by decide +kernel) ?_
  refine j_aload_n hX dL_sum_18 rfl ?_
  refine j_dVa hX (nA := 0) (cq := (RX11, TX11, 7)) (As := []) (st := [.long 961, .long (((V 2).toInt64) + (31 * ((priceOfF (M 4) (maskF n) n).toInt64)))]) (st' := [.int (V 4), .long 961, .long (((V 2).toInt64) + (31 * ((priceOfF (M 4) (maskF n) n).toInt64)))]) (ci := 12) (wa := []) (w0 := (wC G ad V M (enO ad o) (wO ad os o))) (w1 := (wC G ad V M (enO ad o) (wO ad os o))) rfl dL_sum_19 (c_X11_offers G ad V M (enO ad o) (wO ad os o)) gL_sum_X11_offers rfl (by decide +kernel) (wCg0 G ad V M (enO ad o) (wO ad os o)) (by decide) (Nat.le_of_ble_eq_true rfl) rfl (Nat.le_of_ble_eq_true rfl) rfl ⟨by omega, by omega⟩ rfl rfl ?_
  refine j_i2l hX dL_sum_22 ?_
  refine j_lmul hX dL_sum_23 ?_
  refine j_ladd hX dL_sum_24 ?_
  refine j_ldc2 hX (v := 7) dL_sum_25 (by decide +kernel) ?_
  refine j_aload_n hX dL_sum_28 rfl ?_
  refine j_dVa hX (nA := 0) (cq := (RX11, TX11, 7)) (As := []) (st := [.long 7, .long ((((V 2).toInt64) + (31 * ((priceOfF (M 4) (maskF n) n).toInt64))) + (961 * ((V 4).toInt64)))]) (st' := [.long ((V 12).toInt64 - (V 13).toInt64), .long 7, .long ((((V 2).toInt64) + (31 * ((priceOfF (M 4) (maskF n) n).toInt64))) + (961 * ((V 4).toInt64)))]) (ci := 12) (wa := []) (w0 := (wC G ad V M (enO ad o) (wO ad os o))) (w1 := (wC G ad V M (enO ad o) (wO ad os o))) rfl dL_sum_29 (c_X11_turnover G ad V M (enO ad o) (wO ad os o)) gL_sum_X11_turnover rfl (by decide +kernel) (wCg0 G ad V M (enO ad o) (wO ad os o)) (by decide) (Nat.le_of_ble_eq_true rfl) rfl (Nat.le_of_ble_eq_true rfl) rfl ⟨by omega, by omega⟩ rfl rfl ?_
  refine j_lmul hX dL_sum_32 ?_
  refine j_ladd hX dL_sum_33 ?_
  refine j_ldc2 hX (v := 11) dL_sum_34 (by decide +kernel) ?_
  refine j_aload_n hX dL_sum_37 rfl ?_
  refine j_dVa hX (nA := 0) (cq := (RX11, TX11, 7)) (As := []) (st := [.long 11, .long (((((V 2).toInt64) + (31 * ((priceOfF (M 4) (maskF n) n).toInt64))) + (961 * ((V 4).toInt64))) + (7 * ((V 12).toInt64 - (V 13).toInt64)))]) (st' := [.int (V 14), .long 11, .long (((((V 2).toInt64) + (31 * ((priceOfF (M 4) (maskF n) n).toInt64))) + (961 * ((V 4).toInt64))) + (7 * ((V 12).toInt64 - (V 13).toInt64)))]) (ci := 12) (wa := []) (w0 := (wC G ad V M (enO ad o) (wO ad os o))) (w1 := (wC G ad V M (enO ad o) (wO ad os o))) rfl dL_sum_38 (c_X11_usesInAll G ad V M (enO ad o) (wO ad os o)) gL_sum_X11_usesInAll rfl (by decide +kernel) (wCg0 G ad V M (enO ad o) (wO ad os o)) (by decide) (Nat.le_of_ble_eq_true rfl) rfl (Nat.le_of_ble_eq_true rfl) rfl ⟨by omega, by omega⟩ rfl rfl ?_
  refine j_i2l hX dL_sum_41 ?_
  refine j_lmul hX dL_sum_42 ?_
  refine j_ladd hX dL_sum_43 ?_
  refine j_ldc2 hX (v := 13) dL_sum_44 (by decide +kernel) ?_
  refine j_aload_n hX dL_sum_47 rfl ?_
  refine j_dVa hX (nA := 0) (cq := (RX11, TX11, 7)) (As := []) (st := [.long 13, .long ((((((V 2).toInt64) + (31 * ((priceOfF (M 4) (maskF n) n).toInt64))) + (961 * ((V 4).toInt64))) + (7 * ((V 12).toInt64 - (V 13).toInt64))) + (11 * ((V 14).toInt64)))]) (st' := [.int (W 6), .long 13, .long ((((((V 2).toInt64) + (31 * ((priceOfF (M 4) (maskF n) n).toInt64))) + (961 * ((V 4).toInt64))) + (7 * ((V 12).toInt64 - (V 13).toInt64))) + (11 * ((V 14).toInt64)))]) (ci := 12) (wa := []) (w0 := (wC G ad V M (enO ad o) (wO ad os o))) (w1 := (wC G ad W N (enO ad o) (wO ad os o))) rfl dL_sum_48 hbest gL_sum_X11_bestDiscount rfl (by decide +kernel) (wCg0 G ad V M (enO ad o) (wO ad os o)) (by decide) (Nat.le_of_ble_eq_true rfl) rfl (Nat.le_of_ble_eq_true rfl) rfl ⟨by omega, by omega⟩ rfl rfl ?_
  refine j_i2l hX dL_sum_51 ?_
  refine j_lmul hX dL_sum_52 ?_
  refine j_ladd hX dL_sum_53 ?_
  have eX : ((((((V 2).toInt64) + (31 * ((priceOfF (M 4) (maskF n) n).toInt64))) + (961 * ((V 4).toInt64))) + (7 * ((V 12).toInt64 - (V 13).toInt64))) + (11 * ((V 14).toInt64))) + (13 * ((W 6).toInt64)) = (sum0 (W, N) n) := by
    show _ = (W 2).toInt64 + 31 * (priceOfF (N 4) (maskF n) n).toInt64 + 961 * (W 4).toInt64 + 7 * ((W 12).toInt64 - (W 13).toInt64) + 11 * (W 14).toInt64 + 13 * (W 6).toInt64
    rw [e2, e4, e12, e13, e14, eM]
  refine jW.stk (st' := [.long (sum0 (W, N) n)]) (by rw [eX]) ?_
  have L2 : ∀ z j : Nat, j + z = m → jW G X (2 * o + 2 * j) (12 * o + 12 * j) 106 [some (.ref (ad 0)), some (.int (nI m)), some (.long (sum2 (W, N) n (sum1 os o (W, N) (sum0 (W, N) n) o) j)), none, some (.int (nI j))] [] (wC G ad W N (enO ad o) (wO ad os o)) := by
    intro z
    induction z with
    | zero =>
      intro j hj
      have hin : j = m := by omega
      refine j_iload hX dL_sum_106 rfl ?_
      refine j_iload_n hX dL_sum_108 rfl ?_
      refine j_icmp_ge_t hX (tgt := 145) dL_sum_109 (by decide) (by rw [hin]; exact nI_le (Nat.le_refl _) (by omega)) ?_
      rw [hin]
      refine j_lload_n hX dL_sum_145 rfl ?_
      refine jW.widen (k' := 140) (n' := 840) (by omega) (by omega) ?_
      exact j_lret hX dL_sum_146 ⟨rfl, rfl⟩
    | succ z ih =>
      intro j hj
      have hin : j < m := by omega
      refine j_iload hX dL_sum_106 rfl ?_
      refine j_iload_n hX dL_sum_108 rfl ?_
      refine j_icmp_ge_f hX (tgt := 145) dL_sum_109 (by decide) (nI_ge hin (by omega)) ?_
      refine j_ldc2 hX (v := 31) dL_sum_112 (by decide +kernel) ?_
      refine j_lload_n hX dL_sum_115 rfl ?_
      refine j_lmul hX dL_sum_116 ?_
      refine j_aload_n hX dL_sum_117 rfl ?_
      refine j_iload hX dL_sum_118 rfl ?_
      refine j_iconst hX (v := 1) (by decide) dL_sum_120 ?_
      refine j_callHa hX hH (nA := 3) (As := [.ref (ad 0), .int (nI j), .int 1]) (st := [.long (31 * (sum2 (W, N) n (sum1 os o (W, N) (sum0 (W, N) n) o) j))]) (wa := []) (w0 := (wC G ad W N (enO ad o) (wO ad os o))) dL_sum_121 (d_item_n G hG ad hZ (nI j)) gL_sum_L_item rfl (by decide +kernel) (by decide) (Nat.le_of_ble_eq_true rfl) rfl (Nat.le_of_ble_eq_true rfl) ⟨by omega, by omega⟩ rfl rfl (fun rv121 w121 hp121 => ?_)
      obtain ⟨rfl, rfl⟩ := hp121
      show jW G X (2 * o + 2 * j + 1) (12 * o + 12 * j + 6) 124 [some (.ref (ad 0)), some (.int (nI m)), some (.long (sum2 (W, N) n (sum1 os o (W, N) (sum0 (W, N) n) o) j)), none, some (.int (nI j))] [.int (ansN (W, N) n (nI j)), .long (31 * (sum2 (W, N) n (sum1 os o (W, N) (sum0 (W, N) n) o) j))] (wC G ad W N (enO ad o) (wO ad os o))
      refine j_i2l hX dL_sum_124 ?_
      refine j_ladd hX dL_sum_125 ?_
      refine j_ldc2 hX (v := 3) dL_sum_126 (by decide +kernel) ?_
      refine j_aload_n hX dL_sum_129 rfl ?_
      refine j_iload hX dL_sum_130 rfl ?_
      refine j_callHa hX hH (nA := 2) (As := [.ref (ad 0), .int (nI j)]) (st := [.long 3, .long ((31 * (sum2 (W, N) n (sum1 os o (W, N) (sum0 (W, N) n) o) j)) + ((ansN (W, N) n (nI j)).toInt64))]) (wa := []) (w0 := (wC G ad W N (enO ad o) (wO ad os o))) dL_sum_132 (d_buyer G hG ad hZ (nI j)) gL_sum_L_buyer rfl (by decide +kernel) (by decide) (Nat.le_of_ble_eq_true rfl) rfl (Nat.le_of_ble_eq_true rfl) ⟨by omega, by omega⟩ rfl rfl (fun rv132 w132 hp132 => ?_)
      obtain ⟨rfl, rfl⟩ := hp132
      show jW G X (2 * o + 2 * j + 1 + 1) (12 * o + 12 * j + 6 + 6) 135 [some (.ref (ad 0)), some (.int (nI m)), some (.long (sum2 (W, N) n (sum1 os o (W, N) (sum0 (W, N) n) o) j)), none, some (.int (nI j))] [.int (ansB (W, N) (nI j)), .long 3, .long ((31 * (sum2 (W, N) n (sum1 os o (W, N) (sum0 (W, N) n) o) j)) + ((ansN (W, N) n (nI j)).toInt64))] (wC G ad W N (enO ad o) (wO ad os o))
      refine j_i2l hX dL_sum_135 ?_
      refine j_lmul hX dL_sum_136 ?_
      refine j_ladd hX dL_sum_137 ?_
      refine j_lstore_n hX (ls' := [some (.ref (ad 0)), some (.int (nI m)), some (.long (((31 * (sum2 (W, N) n (sum1 os o (W, N) (sum0 (W, N) n) o) j)) + ((ansN (W, N) n (nI j)).toInt64)) + (3 * ((ansB (W, N) (nI j)).toInt64)))), none, some (.int (nI j))]) dL_sum_138 rfl (Nat.le_of_ble_eq_true rfl) rfl rfl ?_
      refine j_iinc hX (v := nI (j + 1)) (ls' := [some (.ref (ad 0)), some (.int (nI m)), some (.long (((31 * (sum2 (W, N) n (sum1 os o (W, N) (sum0 (W, N) n) o) j)) + ((ansN (W, N) n (nI j)).toInt64)) + (3 * ((ansB (W, N) (nI j)).toInt64)))), none, some (.int (nI (j + 1)))]) dL_sum_139 rfl (j_inc1 _) rfl rfl ?_
      refine j_goto hX (tgt := 106) dL_sum_142 (by decide) ?_
      refine jW.widen (k' := 2 * o + 2 * (j + 1)) (n' := 12 * o + 12 * (j + 1)) (by omega) (by omega) ?_
      exact ih (j + 1) (by omega)
  have L1 : ∀ z j : Nat, j + z = o → jW G X (2 * j) (12 * j) 58 [some (.ref (ad 0)), some (.int (nI m)), some (.long (sum1 os o (W, N) (sum0 (W, N) n) j)), none, some (.int (nI j))] [] (wC G ad W N (enO ad o) (wO ad os o)) := by
    intro z
    induction z with
    | zero =>
      intro j hj
      have hin : j = o := by omega
      refine j_iload hX dL_sum_58 rfl ?_
      refine j_aload_n hX dL_sum_60 rfl ?_
      refine j_dVa hX (nA := 0) (cq := (RX11, TX11, 7)) (As := []) (st := [.int (nI j)]) (st' := [.int (W 4), .int (nI j)]) (ci := 12) (wa := []) (w0 := (wC G ad W N (enO ad o) (wO ad os o))) (w1 := (wC G ad W N (enO ad o) (wO ad os o))) rfl dL_sum_61 (c_X11_offers G ad W N (enO ad o) (wO ad os o)) gL_sum_X11_offers rfl (by decide +kernel) (wCg0 G ad W N (enO ad o) (wO ad os o)) (by decide) (Nat.le_of_ble_eq_true rfl) rfl (Nat.le_of_ble_eq_true rfl) rfl ⟨by omega, by omega⟩ rfl rfl ?_
      refine j_icmp_ge_t hX (tgt := 103) dL_sum_64 (by decide) (by rw [hso2, hin]; exact nI_le (Nat.le_refl _) (by omega)) ?_
      refine j_iconst hX (v := 0) (by decide) dL_sum_103 ?_
      refine j_istore hX (ls' := [some (.ref (ad 0)), some (.int (nI m)), some (.long (sum1 os o (W, N) (sum0 (W, N) n) j)), none, some (.int 0)]) dL_sum_104 (Nat.le_of_ble_eq_true rfl) rfl rfl ?_
      rw [hin]
      exact L2 m 0 (by omega)
    | succ z ih =>
      intro j hj
      have hin : j < o := by omega
      refine j_iload hX dL_sum_58 rfl ?_
      refine j_aload_n hX dL_sum_60 rfl ?_
      refine j_dVa hX (nA := 0) (cq := (RX11, TX11, 7)) (As := []) (st := [.int (nI j)]) (st' := [.int (W 4), .int (nI j)]) (ci := 12) (wa := []) (w0 := (wC G ad W N (enO ad o) (wO ad os o))) (w1 := (wC G ad W N (enO ad o) (wO ad os o))) rfl dL_sum_61 (c_X11_offers G ad W N (enO ad o) (wO ad os o)) gL_sum_X11_offers rfl (by decide +kernel) (wCg0 G ad W N (enO ad o) (wO ad os o)) (by decide) (Nat.le_of_ble_eq_true rfl) rfl (Nat.le_of_ble_eq_true rfl) rfl ⟨by omega, by omega⟩ rfl rfl ?_
      refine j_icmp_ge_f hX (tgt := 103) dL_sum_64 (by decide) (by rw [hso2]; exact nI_ge hin (by omega)) ?_
      refine j_ldc2 hX (v := 31) dL_sum_67 (by decide +kernel) ?_
      refine j_lload_n hX dL_sum_70 rfl ?_
      refine j_lmul hX dL_sum_71 ?_
      refine j_aload_n hX dL_sum_72 rfl ?_
      refine j_iload hX dL_sum_73 rfl ?_
      refine j_bipush hX (v := 108) (by decide) dL_sum_75 ?_
      refine j_callHa hX hH (nA := 3) (As := [.ref (ad 0), .int (nI j), .int 108]) (st := [.long (31 * (sum1 os o (W, N) (sum0 (W, N) n) j))]) (wa := []) (w0 := (wC G ad W N (enO ad o) (wO ad os o))) dL_sum_77 (d_of_l G hG ad hZ (nI j)) gL_sum_L_of rfl (by decide +kernel) (by decide) (Nat.le_of_ble_eq_true rfl) rfl (Nat.le_of_ble_eq_true rfl) ⟨by omega, by omega⟩ rfl rfl (fun rv77 w77 hp77 => ?_)
      obtain ⟨rfl, rfl⟩ := hp77
      show jW G X (2 * j + 1) (12 * j + 6) 80 [some (.ref (ad 0)), some (.int (nI m)), some (.long (sum1 os o (W, N) (sum0 (W, N) n) j)), none, some (.int (nI j))] [.int (ansL os o (W, N) (nI j)), .long (31 * (sum1 os o (W, N) (sum0 (W, N) n) j))] (wC G ad W N (enO ad o) (wO ad os o))
      refine j_i2l hX dL_sum_80 ?_
      refine j_ladd hX dL_sum_81 ?_
      refine j_ldc2 hX (v := 3) dL_sum_82 (by decide +kernel) ?_
      refine j_aload_n hX dL_sum_85 rfl ?_
      refine j_iload hX dL_sum_86 rfl ?_
      refine j_bipush hX (v := 114) (by decide) dL_sum_88 ?_
      refine j_callHa hX hH (nA := 3) (As := [.ref (ad 0), .int (nI j), .int 114]) (st := [.long 3, .long ((31 * (sum1 os o (W, N) (sum0 (W, N) n) j)) + ((ansL os o (W, N) (nI j)).toInt64))]) (wa := []) (w0 := (wC G ad W N (enO ad o) (wO ad os o))) dL_sum_90 (d_of_r G hG ad hZ (nI j)) gL_sum_L_of rfl (by decide +kernel) (by decide) (Nat.le_of_ble_eq_true rfl) rfl (Nat.le_of_ble_eq_true rfl) ⟨by omega, by omega⟩ rfl rfl (fun rv90 w90 hp90 => ?_)
      obtain ⟨rfl, rfl⟩ := hp90
      show jW G X (2 * j + 1 + 1) (12 * j + 6 + 6) 93 [some (.ref (ad 0)), some (.int (nI m)), some (.long (sum1 os o (W, N) (sum0 (W, N) n) j)), none, some (.int (nI j))] [.int (ansR os o (W, N) (nI j)), .long 3, .long ((31 * (sum1 os o (W, N) (sum0 (W, N) n) j)) + ((ansL os o (W, N) (nI j)).toInt64))] (wC G ad W N (enO ad o) (wO ad os o))
      refine j_i2l hX dL_sum_93 ?_
      refine j_lmul hX dL_sum_94 ?_
      refine j_ladd hX dL_sum_95 ?_
      refine j_lstore_n hX (ls' := [some (.ref (ad 0)), some (.int (nI m)), some (.long (((31 * (sum1 os o (W, N) (sum0 (W, N) n) j)) + ((ansL os o (W, N) (nI j)).toInt64)) + (3 * ((ansR os o (W, N) (nI j)).toInt64)))), none, some (.int (nI j))]) dL_sum_96 rfl (Nat.le_of_ble_eq_true rfl) rfl rfl ?_
      refine j_iinc hX (v := nI (j + 1)) (ls' := [some (.ref (ad 0)), some (.int (nI m)), some (.long (((31 * (sum1 os o (W, N) (sum0 (W, N) n) j)) + ((ansL os o (W, N) (nI j)).toInt64)) + (3 * ((ansR os o (W, N) (nI j)).toInt64)))), none, some (.int (nI (j + 1)))]) dL_sum_97 rfl (j_inc1 _) rfl rfl ?_
      refine j_goto hX (tgt := 58) dL_sum_100 (by decide) ?_
      refine jW.widen (k' := 2 * (j + 1)) (n' := 12 * (j + 1)) (by omega) (by omega) ?_
      exact ih (j + 1) (by omega)
  refine j_lstore_n hX (ls' := [some (.ref (ad 0)), some (.int (nI m)), some (.long (sum0 (W, N) n)), none, none]) dL_sum_54 rfl (Nat.le_of_ble_eq_true rfl) rfl rfl ?_
  refine j_iconst hX (v := 0) (by decide) dL_sum_55 ?_
  refine j_istore hX (ls' := [some (.ref (ad 0)), some (.int (nI m)), some (.long (sum0 (W, N) n)), none, some (.int 0)]) dL_sum_56 (Nat.le_of_ble_eq_true rfl) rfl rfl ?_
  exact L1 o 0 (by omega)
