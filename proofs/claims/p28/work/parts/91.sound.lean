/-! ISSOUND, over a state that is related: it answers 1. -/
section SND
variable {V : Nat → Int32} {M : Nat → Nat → Int32} {os : Nat → ofr} {V' : Nat → Int32} {M' : Nat → Nat → Int32} {t : Int64} {a o c : Nat}
theorem d_pay (G : jG) (ad : Nat → Nat) (h : ST V M os V' M' t a o c) : jD G 14 yX11_toPay wsX11_toPay [.ref (ad 0)] (wC G ad V M (enO ad o) (wO ad os o)) (some (.int (nI (sm (fl a o c M') (cb (M' 5) a))))) (wC G ad V M (enO ad o) (wO ad os o)) := by
  obtain ⟨⟨hsz, hn, hso, ho6, hos⟩, hid, -⟩ := st_ZS h
  have hb := c_X11_toPay G ad V M os o (cb (M' 5) a) hsz hn hso ho6 hos
  rw [hid] at hb
  rw [show mostSum ((V, M).2 23) (maskF (cb (M' 5) a)) 7 = nI (sm (fl a o c M') (cb (M' 5) a)) from st_pay h] at hb
  exact hb
theorem d_psum (G : jG) (ad : Nat → Nat) (h : ST V M os V' M' t a o c) : jD G 2 yX11_sum wsX11_sum [.ref (ad 0)] (wC G ad V M (enO ad o) (wO ad os o)) (some (.int (nI (sm (prX (cb (M' 5) a) (BX a M')) 7)))) (wC G ad V M (enO ad o) (wO ad os o)) := by
  obtain ⟨⟨hsz, hn, hso, ho6, hos⟩, hid, -⟩ := st_ZS h
  have hb := c_X11_sum G ad V M (enO ad o) (wO ad os o) (cb (M' 5) a) hsz hn
  rw [(bs_sum h.1.1).1] at hb
  exact hb
/-- how the law sees an item -/
theorem st_ansN (h : ST V M os V' M' t a o c) {z : Nat} (hz : z < a) : ansN (V, M) (cb (M' 5) a) (nI z) = if M' 5 z = 98 then nI (fl a o c M' (cb (M' 5) z)) else -1001 := by
  obtain ⟨g1, g2⟩ := st_net h hz
  unfold ansN
  by_cases e : M' 5 z = 98
  · obtain ⟨k1, -, k3, -⟩ := g1 e
    rw [if_pos e]
    exact (if_pos k1).trans k3
  · rw [if_neg e]
    exact if_neg (some_nn (g2 e))
theorem st_ansO (h : ST V M os V' M' t a o c) {z : Nat} (hz : z < a) (h98 : M' 5 z = 98) : ansO (V, M) (cb (M' 5) a) (nI z) = -1 ∨ ∃ j, j < o ∧ ansO (V, M) (cb (M' 5) a) (nI z) = nI j ∧ uO (LX (cb (M' 5) a) o c (BX a M')) j = true := by
  obtain ⟨g1, -⟩ := st_net h hz
  obtain ⟨k1, k2, -, k4⟩ := g1 h98
  have e : ansO (V, M) (cb (M' 5) a) (nI z) = onF M (nI (cb (M' 5) z)) 0 7 := by
    unfold ansO
    rw [if_pos (show xpos (V, M).2 (nI z) (cb (M' 5) a) = none from k1)]
    show onF M (posF (M 2) (nI z) 0 (cb (M' 5) a)) 0 7 = _
    rw [k2]
  rw [e]
  exact st_off h k4
theorem xoff_in {j : Nat} (hso : V 4 = nI o) (ho : o ≤ 6) (hj : j < o) : xoff V (nI j) = none := by
  unfold xoff
  rw [if_neg (nI_pos (by omega)), hso, if_neg (nI_ge hj (by omega)), if_neg (by decide)]
/-- how the law sees an offer -/
theorem st_ansU (h : ST V M os V' M' t a o c) {j : Nat} (hj : j < o) : ∃ w, ansU (V, M) (nI j) = nI w ∧ w ≤ qL (qX (cb (M' 5) a) o c (BX a M')) j ∧ qL (qX (cb (M' 5) a) o c (BX a M')) j ≤ 9 ∧ ansL os o (V, M) (nI j) = nI (qL (qX (cb (M' 5) a) o c (BX a M')) j) ∧ (0 < w ↔ (uO (LX (cb (M' 5) a) o c (BX a M')) j = true ∨ sel (qX (cb (M' 5) a) o c (BX a M')) (LX (cb (M' 5) a) o c (BX a M')) j = true)) ∧ (0 < w → ansR os o (V, M) (nI j) = 117) ∧ (w = 0 → ¬ ansR os o (V, M) (nI j) = 117) ∧ (ansR os o (V, M) (nI j) = 108 → qL (qX (cb (M' 5) a) o c (BX a M')) j = 0) := by
  obtain ⟨w, e1, e2, e3, e4, e5⟩ := st_uses h hj
  have ho := h.1.1.2.2.2.1
  have hx : xoff V (nI j) = none := xoff_in ho.1 ho.2.2 hj
  have eU : ansU (V, M) (nI j) = nI w := (if_pos hx).trans e1
  have eL : ansL os o (V, M) (nI j) = nI (qL (qX (cb (M' 5) a) o c (BX a M')) j) := by
    refine (if_pos hx).trans ?_
    show leftF os o (M 10) (V 0) (nI j).toNatClampNeg = _
    rw [nI_clamp (by omega)]
    exact e4
  have eR : ansR os o (V, M) (nI j) = whyV os o (V, M) j (V 9).toNatClampNeg := by
    refine (if_pos hx).trans ?_
    show whyV os o (V, M) (nI j).toNatClampNeg (V 9).toNatClampNeg = _
    rw [nI_clamp (by omega)]
  have eW : whyV os o (V, M) j (V 9).toNatClampNeg = if timesV V M (nI j) ≤ 0 then (if 0 < leftF os o (M 10) (V 0) j then (if ipF V M (nI j) 0 (V 9).toNatClampNeg = 0 then 99 else if atF 6 (M 7) (nI j) &&& V 5 = 0 then 98 else 103) else 108) else 117 := rfl
  rw [e1, e4] at eW
  refine ⟨w, eU, e2, e3, eL, e5, fun hw => ?_, fun hw => ?_, fun hr => ?_⟩
  · rw [eR, eW, if_neg (by rw [nI_le0 (by omega)]; omega)]
  · rw [eR, eW, if_pos (by rw [nI_le0 (by omega)]; exact hw)]
    split
    · split
      · decide
      · split <;> decide
    · decide
  · rw [eR, eW] at hr
    by_cases hw : nI w ≤ 0
    · rw [if_pos hw] at hr
      by_cases hl : 0 < nI (qL (qX (cb (M' 5) a) o c (BX a M')) j)
      · rw [if_pos hl] at hr
        exfalso
        split at hr
        · exact absurd hr (by decide)
        · split at hr <;> exact absurd hr (by decide)
      · by_cases h0 : qL (qX (cb (M' 5) a) o c (BX a M')) j = 0
        · exact h0
        · exfalso
          refine hl ?_
          rw [Int32.lt_iff_toInt_lt, nI_toInt (by omega)]
          show (0 : Int) < _
          omega
    · rw [if_neg hw] at hr
      exact absurd hr (by decide)
/-- used, and of group g -/
def usG (os : Nat → ofr) (q : tq) (L : List us3) (g j : Nat) : Bool := (uO L j || sel q L j) && decide ((os j).2 1 = nI g)
theorem usG_le (h : ST V M os V' M' t a o c) (g n : Nat) (hg : g < 4) (hn : n ≤ o) : sm (fun j => if usG os (qX (cb (M' 5) a) o c (BX a M')) (LX (cb (M' 5) a) o c (BX a M')) g j = true then 1 else 0) n ≤ 1 := by
  refine sm_one (P := usG os (qX (cb (M' 5) a) o c (BX a M')) (LX (cb (M' 5) a) o c (BX a M')) g) (fun i j hi hj h1 h2 => ?_)
  unfold usG at h1 h2
  rw [Bool.and_eq_true, Bool.or_eq_true, decide_eq_true_eq] at h1 h2
  by_cases e : i = j
  · exact e
  · exfalso
    have h3 := st_alone h (by omega) (by omega) e h1.1 h2.1 (h1.2.trans h2.2.symm)
    rw [h2.2] at h3
    exact nI_neg1 (by omega) h3
theorem gr_cases (h : ST V M os V' M' t a o c) {j : Nat} (hj : j < o) : (os j).2 1 = -1 ∨ ∃ g, g < 4 ∧ (os j).2 1 = nI g := by
  have e : M' 12 j = (os j).2 1 := (h.1.1.2.2.2.2.2.1 j hj).2.1
  rw [← e]
  exact fm_g h.1.1 hj
end SND
theorem ne_1001 {n : Nat} (h : n < 2 ^ 31) : ¬ nI n = -1001 := fun e => by
  have h1 := congrArg Int32.toInt e
  rw [nI_toInt h] at h1
  have h2 : (-1001 : Int32).toInt = -1001 := by decide
  omega
set_option maxHeartbeats 4000000 in
set_option maxRecDepth 100000 in
theorem c_L_isSound (G : jG) (hG : G.1.stackTraces = false) (ad : Nat → Nat) {V : Nat → Int32} {M : Nat → Nat → Int32} {os : Nat → ofr} {V' : Nat → Int32} {M' : Nat → Nat → Int32} {t : Int64} {a o c : Nat} (h : RX V M os V' M' t a o c) (hL : LE9 V) {bg : Nat} {gs : Nat → Int32} (hg : ∀ j, j < o → gs j = (os j).2 1) : jH G 33 yL_isSound wsL_isSound [.ref (ad 0), .int (nI a), .ref bg] ((bg, .inl (G.2.2 0, 6, .inl gs)) :: (wC G ad V M (enO ad o) (wO ad os o))) 220 1320 (fun rv w => rv = some (.int 1) ∧ ∃ (W : Nat → Int32) (N : Nat → Nat → Int32) (W' : Nat → Int32) (N' : Nat → Nat → Int32) (t' : Int64) (uu : Nat) (uf : Nat → Int32), w = (uu, .inl (G.2.2 0, 4, .inl uf)) :: ((bg, .inl (G.2.2 0, 6, .inl gs)) :: (wC G ad W N (enO ad o) (wO ad os o))) ∧ ST W N os W' N' t' a o c ∧ LE9 W) := by
  refine jH.ofP (maxL := 12) (cc := cL_isSound) (ret := (some .boolean)) rfl (by decide) [some (.ref (ad 0)), some (.int (nI a)), some (.ref bg), none, none, none, none, none, none, none, none, none] rfl (Nat.le_of_ble_eq_true rfl) (j_args rfl) (fun X hX hH => ?_)
  obtain ⟨hszV, hnV, hsoV, ho6V, hosV⟩ := rx_KS h
  obtain ⟨hS0, h5, hB⟩ := st_find h
  have hL0 : LE9 (findF os o (cb (M' 5) a) (V, M)).1 := by
    obtain ⟨-, -, -, -, e1, e2, -, -⟩ := st_V os o (cb (M' 5) a) (V, M)
    exact LE9_of hL e1 e2
  have hnn : (cb ((fdF a o c (V', M')).2 5) a) = (cb (M' 5) a) := by rw [h5]
  have hbest : jD G 14 yX11_bestDiscount wsX11_bestDiscount [.ref (ad 0)] (wC G ad V M (enO ad o) (wO ad os o)) (some (.int ((findF os o (cb (M' 5) a) (V, M)).1 6))) (wC G ad (findF os o (cb (M' 5) a) (V, M)).1 (findF os o (cb (M' 5) a) (V, M)).2 (enO ad o) (wO ad os o)) := c_X11_bestDiscount G ad V M os o (cb (M' 5) a) hszV hnV hsoV ho6V hosV
  generalize (findF os o (cb (M' 5) a) (V, M)).1 = W0 at hS0 hL0 hbest
  generalize (findF os o (cb (M' 5) a) (V, M)).2 = N0 at hS0 hbest
  generalize (fdF a o c (V', M')).1 = W' at hS0
  generalize (fdF a o c (V', M')).2 = N' at hS0 hnn
  refine j_iconst hX (v := 0) (by decide) dL_isSound_0 ?_
  refine j_istore_n hX (ls' := [some (.ref (ad 0)), some (.int (nI a)), some (.ref bg), some (.int 0), none, none, none, none, none, none, none, none]) dL_isSound_1 (Nat.le_of_ble_eq_true rfl) rfl rfl ?_
  refine j_aload_n hX dL_isSound_2 rfl ?_
  refine j_dVa hX (nA := 0) (cq := (RX11, TX11, 7)) (As := []) (st := []) (st' := [.int (W0 6)]) (ci := 12) (wa := [(bg, .inl (G.2.2 0, 6, .inl gs))]) (w0 := (wC G ad V M (enO ad o) (wO ad os o))) (w1 := (wC G ad W0 N0 (enO ad o) (wO ad os o))) rfl dL_isSound_3 hbest gL_isSound_X11_bestDiscount rfl (by decide +kernel) (wCg0 G ad V M (enO ad o) (wO ad os o)) (by decide) (Nat.le_of_ble_eq_true rfl) rfl (Nat.le_of_ble_eq_true rfl) rfl ⟨by omega, by omega⟩ rfl rfl ?_
  refine j_istore hX (ls' := [some (.ref (ad 0)), some (.int (nI a)), some (.ref bg), some (.int 0), some (.int (W0 6)), none, none, none, none, none, none, none]) dL_isSound_6 (Nat.le_of_ble_eq_true rfl) rfl rfl ?_
  refine j_aload_n hX dL_isSound_8 rfl ?_
  refine j_callHa hX hH (nA := 1) (As := [.ref (ad 0)]) (st := []) (wa := [(bg, .inl (G.2.2 0, 6, .inl gs))]) (w0 := (wC G ad W0 N0 (enO ad o) (wO ad os o))) dL_isSound_9 (d_tries G hG ad hS0) gL_isSound_L_tries rfl (by decide +kernel) (by decide) (Nat.le_of_ble_eq_true rfl) rfl (Nat.le_of_ble_eq_true rfl) ⟨by omega, by omega⟩ rfl rfl (fun rv9 w9 hp9 => ?_)
  obtain ⟨W, N, rfl, rfl, hS⟩ := hp9
  show jW G X (0 + 1) (0 + 6) 12 [some (.ref (ad 0)), some (.int (nI a)), some (.ref bg), some (.int 0), some (.int (W0 6)), none, none, none, none, none, none, none] [.int (if (cb (N' 5) a) ≤ 5 then W0 6 else -1001)] ((bg, .inl (G.2.2 0, 6, .inl gs)) :: (wC G ad W N (enO ad o) (wO ad os o)))
  refine j_istore hX (ls' := [some (.ref (ad 0)), some (.int (nI a)), some (.ref bg), some (.int 0), some (.int (W0 6)), some (.int (if (cb (N' 5) a) ≤ 5 then W0 6 else -1001)), none, none, none, none, none, none]) dL_isSound_12 (Nat.le_of_ble_eq_true rfl) rfl rfl ?_
  have hZ := st_ZS hS
  obtain ⟨⟨hsz, hn, hso, ho6, hos⟩, hid, -⟩ := id hZ
  obtain ⟨e6, b6⟩ := st_best hS0
  have ha := hS.1.1.2.1.2.2
  have LT : ∀ (uu : Nat) (uf : Nat → Int32), jW G X (2 + 3 * a + 5 * o) (10 + 18 * a + 30 * o) 275 [some (.ref (ad 0)), some (.int (nI a)), some (.ref bg), some (.int (nI (sm (fl a o c N') (cb (N' 5) a)))), some (.int (W0 6)), some (.int (if (cb (N' 5) a) ≤ 5 then W0 6 else -1001)), some (.int (nI (cb (N' 5) a))), none, none, none, none, none] [] ((uu, .inl (G.2.2 0, 4, .inl uf)) :: (bg, .inl (G.2.2 0, 6, .inl gs)) :: (wC G ad W N (enO ad o) (wO ad os o))) := by
    intro uu uf
    refine j_iload hX dL_isSound_275 rfl ?_
    refine j_aload_n hX dL_isSound_277 rfl ?_
    refine j_dVa hX (nA := 0) (cq := (RX11, TX11, 7)) (As := []) (st := [.int (nI (cb (N' 5) a))]) (st' := [.int (W 2), .int (nI (cb (N' 5) a))]) (ci := 12) (wa := [(uu, .inl (G.2.2 0, 4, .inl uf)), (bg, .inl (G.2.2 0, 6, .inl gs))]) (w0 := (wC G ad W N (enO ad o) (wO ad os o))) (w1 := (wC G ad W N (enO ad o) (wO ad os o))) rfl dL_isSound_278 (c_X11_items G ad W N (enO ad o) (wO ad os o)) gL_isSound_X11_items rfl (by decide +kernel) (wCg0 G ad W N (enO ad o) (wO ad os o)) (by decide) (Nat.le_of_ble_eq_true rfl) rfl (Nat.le_of_ble_eq_true rfl) rfl ⟨by omega, by omega⟩ rfl rfl ?_
    refine jW.top (y := nI (cb (N' 5) a)) hsz ?_
    refine j_icmp_ne_f hX (tgt := 330) dL_isSound_281 (by decide) rfl ?_
    refine j_iload hX dL_isSound_284 rfl ?_
    refine j_iload hX dL_isSound_286 rfl ?_
    refine j_iconst hX (v := 5) (by decide) dL_isSound_288 ?_
    have key : jW G X (2 + 3 * a + 5 * o) (10 + 18 * a + 30 * o) 300 [some (.ref (ad 0)), some (.int (nI a)), some (.ref bg), some (.int (nI (sm (fl a o c N') (cb (N' 5) a)))), some (.int (W0 6)), some (.int (if (cb (N' 5) a) ≤ 5 then W0 6 else -1001)), some (.int (nI (cb (N' 5) a))), none, none, none, none, none] [.int (if (cb (N' 5) a) ≤ 5 then W0 6 else -1001), .int (if (cb (N' 5) a) ≤ 5 then W0 6 else -1001)] ((uu, .inl (G.2.2 0, 4, .inl uf)) :: (bg, .inl (G.2.2 0, 6, .inl gs)) :: (wC G ad W N (enO ad o) (wO ad os o))) := by
      refine j_icmp_ne_f hX (tgt := 330) dL_isSound_300 (by decide) rfl ?_
      refine j_iload_n hX dL_isSound_303 rfl ?_
      refine j_aload_n hX dL_isSound_304 rfl ?_
      refine j_dVa hX (nA := 0) (cq := (RX11, TX11, 7)) (As := []) (st := [.int (nI (sm (fl a o c N') (cb (N' 5) a)))]) (st' := [.int (nI (sm (fl a o c N') (cb (N' 5) a))), .int (nI (sm (fl a o c N') (cb (N' 5) a)))]) (ci := 12) (wa := [(uu, .inl (G.2.2 0, 4, .inl uf)), (bg, .inl (G.2.2 0, 6, .inl gs))]) (w0 := (wC G ad W N (enO ad o) (wO ad os o))) (w1 := (wC G ad W N (enO ad o) (wO ad os o))) rfl dL_isSound_305 (d_pay G ad hS) gL_isSound_X11_toPay rfl (by decide +kernel) (wCg0 G ad W N (enO ad o) (wO ad os o)) (by decide) (Nat.le_of_ble_eq_true rfl) rfl (Nat.le_of_ble_eq_true rfl) rfl ⟨by omega, by omega⟩ rfl rfl ?_
      refine j_icmp_ne_f hX (tgt := 330) dL_isSound_308 (by decide) rfl ?_
      refine j_iload_n hX dL_isSound_311 rfl ?_
      refine j_iconst hX (v := 0) (by decide) dL_isSound_312 ?_
      refine j_aload_n hX dL_isSound_313 rfl ?_
      refine j_dVa hX (nA := 0) (cq := (RX11, TX11, 7)) (As := []) (st := [.int 0, .int (nI (sm (fl a o c N') (cb (N' 5) a)))]) (st' := [.int (nI (sm (prX (cb (N' 5) a) (BX a N')) 7)), .int 0, .int (nI (sm (fl a o c N') (cb (N' 5) a)))]) (ci := 12) (wa := [(uu, .inl (G.2.2 0, 4, .inl uf)), (bg, .inl (G.2.2 0, 6, .inl gs))]) (w0 := (wC G ad W N (enO ad o) (wO ad os o))) (w1 := (wC G ad W N (enO ad o) (wO ad os o))) rfl dL_isSound_314 (d_psum G ad hS) gL_isSound_X11_sum rfl (by decide +kernel) (wCg0 G ad W N (enO ad o) (wO ad os o)) (by decide) (Nat.le_of_ble_eq_true rfl) rfl (Nat.le_of_ble_eq_true rfl) rfl ⟨by omega, by omega⟩ rfl rfl ?_
      refine j_iload hX dL_isSound_317 rfl ?_
      refine j_isub hX dL_isSound_319 ?_
      refine j_mmax hX dL_isSound_320 (by decide +kernel) (by decide +kernel) (by decide +kernel) (by decide +kernel) (by decide) rfl (Nat.le_of_ble_eq_true rfl) ⟨by omega, by omega⟩ ?_
      refine jW.top (y := nI (sm (fl a o c N') (cb (N' 5) a))) (by rw [e6, st_sum hS]; exact mx_sub (bs_sum hS.1.1).2.2 b6) ?_
      refine j_icmp_ne_f hX (tgt := 330) dL_isSound_323 (by decide) rfl ?_
      refine j_iconst hX (v := 1) (by decide) dL_isSound_326 ?_
      refine j_goto hX (tgt := 331) dL_isSound_327 (by decide) ?_
      refine jW.widen (k' := 220) (n' := 1320) (by omega) (by omega) ?_
      exact j_zret hX (by decide) dL_isSound_331 ⟨rfl, W, N, W', N', t, uu, uf, rfl, hS, LE9_rx hL0 hS0.1 hS.1⟩
    by_cases h55 : (cb (N' 5) a) ≤ 5
    · refine j_icmp_le_t hX (tgt := 298) dL_isSound_289 (by decide) (show nI (cb (N' 5) a) ≤ nI 5 from nI_le h55 (by decide)) ?_
      refine j_iload hX dL_isSound_298 rfl ?_
      refine jW.stk (st' := [.int (if (cb (N' 5) a) ≤ 5 then W0 6 else -1001), .int (if (cb (N' 5) a) ≤ 5 then W0 6 else -1001)]) (by rw [if_pos h55]) ?_
      exact key
    · refine j_icmp_le_f hX (tgt := 298) dL_isSound_289 (by decide) (show ¬ nI (cb (N' 5) a) ≤ nI 5 from nI_ge (show 5 < (cb (N' 5) a) by omega) (by omega)) ?_
      refine j_sipush hX (v := -1001) (by decide) dL_isSound_292 ?_
      refine j_goto hX (tgt := 300) dL_isSound_295 (by decide) ?_
      refine jW.stk (st' := [.int (if (cb (N' 5) a) ≤ 5 then W0 6 else -1001), .int (if (cb (N' 5) a) ≤ 5 then W0 6 else -1001)]) (by rw [if_neg h55]) ?_
      exact key
  have L3 : ∀ (uu : Nat) (uf : Nat → Int32), (∀ g, g < 4 → uf g = nI (sm (fun j => if usG os (qX (cb (N' 5) a) o c (BX a N')) (LX (cb (N' 5) a) o c (BX a N')) g j = true then 1 else 0) o)) → jW G X (2 + 3 * a + 5 * o) (10 + 18 * a + 30 * o) 235 [some (.ref (ad 0)), some (.int (nI a)), some (.ref bg), some (.int (nI (sm (fl a o c N') (cb (N' 5) a)))), some (.int (W0 6)), some (.int (if (cb (N' 5) a) ≤ 5 then W0 6 else -1001)), some (.int (nI (cb (N' 5) a))), some (.ref uu), none, none, none, none] [] ((uu, .inl (G.2.2 0, 4, .inl uf)) :: (bg, .inl (G.2.2 0, 6, .inl gs)) :: (wC G ad W N (enO ad o) (wO ad os o))) := by
    intro uu uf hu
    have hle : ∀ g, g < 4 → uf g ≤ 1 := fun g hg => by
      rw [hu g hg]
      show nI _ ≤ nI 1
      exact nI_le (usG_le hS g o hg (Nat.le_refl o)) (by decide)
    refine j_aload hX dL_isSound_235 rfl ?_
    refine j_astore hX (ls' := [some (.ref (ad 0)), some (.int (nI a)), some (.ref bg), some (.int (nI (sm (fl a o c N') (cb (N' 5) a)))), some (.int (W0 6)), some (.int (if (cb (N' 5) a) ≤ 5 then W0 6 else -1001)), some (.int (nI (cb (N' 5) a))), some (.ref uu), some (.ref uu), none, none, none]) dL_isSound_237 (Nat.le_of_ble_eq_true rfl) rfl rfl ?_
    refine j_aload hX dL_isSound_239 rfl ?_
    refine j_alen hX (v := 4) dL_isSound_241 0 rfl 0 rfl rfl ?_
    refine j_istore hX (ls' := [some (.ref (ad 0)), some (.int (nI a)), some (.ref bg), some (.int (nI (sm (fl a o c N') (cb (N' 5) a)))), some (.int (W0 6)), some (.int (if (cb (N' 5) a) ≤ 5 then W0 6 else -1001)), some (.int (nI (cb (N' 5) a))), some (.ref uu), some (.ref uu), some (.int 4), none, none]) dL_isSound_242 (Nat.le_of_ble_eq_true rfl) rfl rfl ?_
    refine j_iconst hX (v := 0) (by decide) dL_isSound_244 ?_
    refine j_istore hX (ls' := [some (.ref (ad 0)), some (.int (nI a)), some (.ref bg), some (.int (nI (sm (fl a o c N') (cb (N' 5) a)))), some (.int (W0 6)), some (.int (if (cb (N' 5) a) ≤ 5 then W0 6 else -1001)), some (.int (nI (cb (N' 5) a))), some (.ref uu), some (.ref uu), some (.int 4), some (.int 0), none]) dL_isSound_245 (Nat.le_of_ble_eq_true rfl) rfl rfl ?_
    refine jW.locals (ls' := [some (.ref (ad 0)), some (.int (nI a)), some (.ref bg), some (.int (nI (sm (fl a o c N') (cb (N' 5) a)))), some (.int (W0 6)), some (.int (if (cb (N' 5) a) ≤ 5 then W0 6 else -1001)), some (.int (nI (cb (N' 5) a))), some (.ref uu), some (.ref uu), some (.int 4), some (.int (nI 0)), none]) rfl ?_
    refine j_iload hX dL_isSound_247 rfl ?_
    refine j_iload hX dL_isSound_249 rfl ?_
    refine j_icmp_ge_f hX (tgt := 275) dL_isSound_251 (by decide) (by decide) ?_
    refine j_aload hX dL_isSound_254 rfl ?_
    refine j_iload hX dL_isSound_256 rfl ?_
    refine j_iald hX (v := uf 0) dL_isSound_258 0 rfl (by unfold vp_in; decide +kernel) (congrArg uf (by decide +kernel)) ?_
    refine j_istore hX (ls' := [some (.ref (ad 0)), some (.int (nI a)), some (.ref bg), some (.int (nI (sm (fl a o c N') (cb (N' 5) a)))), some (.int (W0 6)), some (.int (if (cb (N' 5) a) ≤ 5 then W0 6 else -1001)), some (.int (nI (cb (N' 5) a))), some (.ref uu), some (.ref uu), some (.int 4), some (.int (nI 0)), some (.int (uf 0))]) dL_isSound_259 (Nat.le_of_ble_eq_true rfl) rfl rfl ?_
    refine j_iload hX dL_isSound_261 rfl ?_
    refine j_iconst hX (v := 1) (by decide) dL_isSound_263 ?_
    refine j_icmp_le_t hX (tgt := 269) dL_isSound_264 (by decide) (hle 0 (by decide)) ?_
    refine j_iinc hX (v := nI 1) (ls' := [some (.ref (ad 0)), some (.int (nI a)), some (.ref bg), some (.int (nI (sm (fl a o c N') (cb (N' 5) a)))), some (.int (W0 6)), some (.int (if (cb (N' 5) a) ≤ 5 then W0 6 else -1001)), some (.int (nI (cb (N' 5) a))), some (.ref uu), some (.ref uu), some (.int 4), some (.int (nI 1)), some (.int (uf 0))]) dL_isSound_269 rfl (by decide) rfl rfl ?_
    refine j_goto hX (tgt := 247) dL_isSound_272 (by decide) ?_
    refine j_iload hX dL_isSound_247 rfl ?_
    refine j_iload hX dL_isSound_249 rfl ?_
    refine j_icmp_ge_f hX (tgt := 275) dL_isSound_251 (by decide) (by decide) ?_
    refine j_aload hX dL_isSound_254 rfl ?_
    refine j_iload hX dL_isSound_256 rfl ?_
    refine j_iald hX (v := uf 1) dL_isSound_258 0 rfl (by unfold vp_in; decide +kernel) (congrArg uf (by decide +kernel)) ?_
    refine j_istore hX (ls' := [some (.ref (ad 0)), some (.int (nI a)), some (.ref bg), some (.int (nI (sm (fl a o c N') (cb (N' 5) a)))), some (.int (W0 6)), some (.int (if (cb (N' 5) a) ≤ 5 then W0 6 else -1001)), some (.int (nI (cb (N' 5) a))), some (.ref uu), some (.ref uu), some (.int 4), some (.int (nI 1)), some (.int (uf 1))]) dL_isSound_259 (Nat.le_of_ble_eq_true rfl) rfl rfl ?_
    refine j_iload hX dL_isSound_261 rfl ?_
    refine j_iconst hX (v := 1) (by decide) dL_isSound_263 ?_
    refine j_icmp_le_t hX (tgt := 269) dL_isSound_264 (by decide) (hle 1 (by decide)) ?_
    refine j_iinc hX (v := nI 2) (ls' := [some (.ref (ad 0)), some (.int (nI a)), some (.ref bg), some (.int (nI (sm (fl a o c N') (cb (N' 5) a)))), some (.int (W0 6)), some (.int (if (cb (N' 5) a) ≤ 5 then W0 6 else -1001)), some (.int (nI (cb (N' 5) a))), some (.ref uu), some (.ref uu), some (.int 4), some (.int (nI 2)), some (.int (uf 1))]) dL_isSound_269 rfl (by decide) rfl rfl ?_
    refine j_goto hX (tgt := 247) dL_isSound_272 (by decide) ?_
    refine j_iload hX dL_isSound_247 rfl ?_
    refine j_iload hX dL_isSound_249 rfl ?_
    refine j_icmp_ge_f hX (tgt := 275) dL_isSound_251 (by decide) (by decide) ?_
    refine j_aload hX dL_isSound_254 rfl ?_
    refine j_iload hX dL_isSound_256 rfl ?_
    refine j_iald hX (v := uf 2) dL_isSound_258 0 rfl (by unfold vp_in; decide +kernel) (congrArg uf (by decide +kernel)) ?_
    refine j_istore hX (ls' := [some (.ref (ad 0)), some (.int (nI a)), some (.ref bg), some (.int (nI (sm (fl a o c N') (cb (N' 5) a)))), some (.int (W0 6)), some (.int (if (cb (N' 5) a) ≤ 5 then W0 6 else -1001)), some (.int (nI (cb (N' 5) a))), some (.ref uu), some (.ref uu), some (.int 4), some (.int (nI 2)), some (.int (uf 2))]) dL_isSound_259 (Nat.le_of_ble_eq_true rfl) rfl rfl ?_
    refine j_iload hX dL_isSound_261 rfl ?_
    refine j_iconst hX (v := 1) (by decide) dL_isSound_263 ?_
    refine j_icmp_le_t hX (tgt := 269) dL_isSound_264 (by decide) (hle 2 (by decide)) ?_
    refine j_iinc hX (v := nI 3) (ls' := [some (.ref (ad 0)), some (.int (nI a)), some (.ref bg), some (.int (nI (sm (fl a o c N') (cb (N' 5) a)))), some (.int (W0 6)), some (.int (if (cb (N' 5) a) ≤ 5 then W0 6 else -1001)), some (.int (nI (cb (N' 5) a))), some (.ref uu), some (.ref uu), some (.int 4), some (.int (nI 3)), some (.int (uf 2))]) dL_isSound_269 rfl (by decide) rfl rfl ?_
    refine j_goto hX (tgt := 247) dL_isSound_272 (by decide) ?_
    refine j_iload hX dL_isSound_247 rfl ?_
    refine j_iload hX dL_isSound_249 rfl ?_
    refine j_icmp_ge_f hX (tgt := 275) dL_isSound_251 (by decide) (by decide) ?_
    refine j_aload hX dL_isSound_254 rfl ?_
    refine j_iload hX dL_isSound_256 rfl ?_
    refine j_iald hX (v := uf 3) dL_isSound_258 0 rfl (by unfold vp_in; decide +kernel) (congrArg uf (by decide +kernel)) ?_
    refine j_istore hX (ls' := [some (.ref (ad 0)), some (.int (nI a)), some (.ref bg), some (.int (nI (sm (fl a o c N') (cb (N' 5) a)))), some (.int (W0 6)), some (.int (if (cb (N' 5) a) ≤ 5 then W0 6 else -1001)), some (.int (nI (cb (N' 5) a))), some (.ref uu), some (.ref uu), some (.int 4), some (.int (nI 3)), some (.int (uf 3))]) dL_isSound_259 (Nat.le_of_ble_eq_true rfl) rfl rfl ?_
    refine j_iload hX dL_isSound_261 rfl ?_
    refine j_iconst hX (v := 1) (by decide) dL_isSound_263 ?_
    refine j_icmp_le_t hX (tgt := 269) dL_isSound_264 (by decide) (hle 3 (by decide)) ?_
    refine j_iinc hX (v := nI 4) (ls' := [some (.ref (ad 0)), some (.int (nI a)), some (.ref bg), some (.int (nI (sm (fl a o c N') (cb (N' 5) a)))), some (.int (W0 6)), some (.int (if (cb (N' 5) a) ≤ 5 then W0 6 else -1001)), some (.int (nI (cb (N' 5) a))), some (.ref uu), some (.ref uu), some (.int 4), some (.int (nI 4)), some (.int (uf 3))]) dL_isSound_269 rfl (by decide) rfl rfl ?_
    refine j_goto hX (tgt := 247) dL_isSound_272 (by decide) ?_
    refine j_iload hX dL_isSound_247 rfl ?_
    refine j_iload hX dL_isSound_249 rfl ?_
    refine j_icmp_ge_t hX (tgt := 275) dL_isSound_251 (by decide) (by decide) ?_
    refine jW.drop (ls' := [some (.ref (ad 0)), some (.int (nI a)), some (.ref bg), some (.int (nI (sm (fl a o c N') (cb (N' 5) a)))), some (.int (W0 6)), some (.int (if (cb (N' 5) a) ≤ 5 then W0 6 else -1001)), some (.int (nI (cb (N' 5) a))), none, none, none, none, none]) ⟨Or.inr rfl, Or.inr rfl, Or.inr rfl, Or.inr rfl, Or.inr rfl, Or.inr rfl, Or.inr rfl, Or.inl rfl, Or.inl rfl, Or.inl rfl, Or.inl rfl, Or.inl rfl, trivial⟩ ?_
    exact LT uu uf
  have L2 : ∀ z j : Nat, j + z = o → ∀ (uu : Nat) (uf : Nat → Int32), (∀ g, g < 4 → uf g = nI (sm (fun j => if usG os (qX (cb (N' 5) a) o c (BX a N')) (LX (cb (N' 5) a) o c (BX a N')) g j = true then 1 else 0) j)) → jW G X (2 + 3 * a + 5 * j) (10 + 18 * a + 30 * j) 117 [some (.ref (ad 0)), some (.int (nI a)), some (.ref bg), some (.int (nI (sm (fl a o c N') (cb (N' 5) a)))), some (.int (W0 6)), some (.int (if (cb (N' 5) a) ≤ 5 then W0 6 else -1001)), some (.int (nI (cb (N' 5) a))), some (.ref uu), some (.int (nI j)), none, none, none] [] ((uu, .inl (G.2.2 0, 4, .inl uf)) :: (bg, .inl (G.2.2 0, 6, .inl gs)) :: (wC G ad W N (enO ad o) (wO ad os o))) := by
    intro z
    induction z with
    | zero =>
      intro j hj uu uf hu
      have hin : j = o := by omega
      rw [hin] at hu ⊢
      refine j_iload hX dL_isSound_117 rfl ?_
      refine j_aload_n hX dL_isSound_119 rfl ?_
      refine j_dVa hX (nA := 0) (cq := (RX11, TX11, 7)) (As := []) (st := [.int (nI o)]) (st' := [.int (W 4), .int (nI o)]) (ci := 12) (wa := [(uu, .inl (G.2.2 0, 4, .inl uf)), (bg, .inl (G.2.2 0, 6, .inl gs))]) (w0 := (wC G ad W N (enO ad o) (wO ad os o))) (w1 := (wC G ad W N (enO ad o) (wO ad os o))) rfl dL_isSound_120 (c_X11_offers G ad W N (enO ad o) (wO ad os o)) gL_isSound_X11_offers rfl (by decide +kernel) (wCg0 G ad W N (enO ad o) (wO ad os o)) (by decide) (Nat.le_of_ble_eq_true rfl) rfl (Nat.le_of_ble_eq_true rfl) rfl ⟨by omega, by omega⟩ rfl rfl ?_
      refine jW.top (y := nI o) hso ?_
      refine j_icmp_ge_t hX (tgt := 235) dL_isSound_123 (by decide) (nI_le (Nat.le_refl _) (by omega)) ?_
      refine jW.drop (ls' := [some (.ref (ad 0)), some (.int (nI a)), some (.ref bg), some (.int (nI (sm (fl a o c N') (cb (N' 5) a)))), some (.int (W0 6)), some (.int (if (cb (N' 5) a) ≤ 5 then W0 6 else -1001)), some (.int (nI (cb (N' 5) a))), some (.ref uu), none, none, none, none]) ⟨Or.inr rfl, Or.inr rfl, Or.inr rfl, Or.inr rfl, Or.inr rfl, Or.inr rfl, Or.inr rfl, Or.inr rfl, Or.inl rfl, Or.inr rfl, Or.inr rfl, Or.inr rfl, trivial⟩ ?_
      exact L3 uu uf hu
    | succ z ih =>
      intro j hj uu uf hu
      have hin : j < o := by omega
      obtain ⟨w, eU, w1, w2, eL, wS, wR, wR0, wR8⟩ := st_ansU hS hin
      have hgs := hg j hin
      refine j_iload hX dL_isSound_117 rfl ?_
      refine j_aload_n hX dL_isSound_119 rfl ?_
      refine j_dVa hX (nA := 0) (cq := (RX11, TX11, 7)) (As := []) (st := [.int (nI j)]) (st' := [.int (W 4), .int (nI j)]) (ci := 12) (wa := [(uu, .inl (G.2.2 0, 4, .inl uf)), (bg, .inl (G.2.2 0, 6, .inl gs))]) (w0 := (wC G ad W N (enO ad o) (wO ad os o))) (w1 := (wC G ad W N (enO ad o) (wO ad os o))) rfl dL_isSound_120 (c_X11_offers G ad W N (enO ad o) (wO ad os o)) gL_isSound_X11_offers rfl (by decide +kernel) (wCg0 G ad W N (enO ad o) (wO ad os o)) (by decide) (Nat.le_of_ble_eq_true rfl) rfl (Nat.le_of_ble_eq_true rfl) rfl ⟨by omega, by omega⟩ rfl rfl ?_
      refine jW.top (y := nI o) hso ?_
      refine j_icmp_ge_f hX (tgt := 235) dL_isSound_123 (by decide) (nI_ge hin (by omega)) ?_
      refine j_aload_n hX dL_isSound_126 rfl ?_
      refine j_iload hX dL_isSound_127 rfl ?_
      refine j_bipush hX (v := 117) (by decide) dL_isSound_129 ?_
      refine j_callHa hX hH (nA := 3) (As := [.ref (ad 0), .int (nI j), .int 117]) (st := []) (wa := [(uu, .inl (G.2.2 0, 4, .inl uf)), (bg, .inl (G.2.2 0, 6, .inl gs))]) (w0 := (wC G ad W N (enO ad o) (wO ad os o))) dL_isSound_131 (d_of_u G hG ad hZ (nI j)) gL_isSound_L_of rfl (by decide +kernel) (by decide) (Nat.le_of_ble_eq_true rfl) rfl (Nat.le_of_ble_eq_true rfl) ⟨by omega, by omega⟩ rfl rfl (fun rv131 w131 hp131 => ?_)
      obtain ⟨rfl, rfl⟩ := hp131
      show jW G X (2 + 3 * a + 5 * j + 1) (10 + 18 * a + 30 * j + 6) 134 [some (.ref (ad 0)), some (.int (nI a)), some (.ref bg), some (.int (nI (sm (fl a o c N') (cb (N' 5) a)))), some (.int (W0 6)), some (.int (if (cb (N' 5) a) ≤ 5 then W0 6 else -1001)), some (.int (nI (cb (N' 5) a))), some (.ref uu), some (.int (nI j)), none, none, none] [.int (ansU (W, N) (nI j))] ((uu, .inl (G.2.2 0, 4, .inl uf)) :: (bg, .inl (G.2.2 0, 6, .inl gs)) :: (wC G ad W N (enO ad o) (wO ad os o)))
      refine jW.top (y := nI w) eU ?_
      refine j_istore hX (ls' := [some (.ref (ad 0)), some (.int (nI a)), some (.ref bg), some (.int (nI (sm (fl a o c N') (cb (N' 5) a)))), some (.int (W0 6)), some (.int (if (cb (N' 5) a) ≤ 5 then W0 6 else -1001)), some (.int (nI (cb (N' 5) a))), some (.ref uu), some (.int (nI j)), some (.int (nI w)), none, none]) dL_isSound_134 (Nat.le_of_ble_eq_true rfl) rfl rfl ?_
      refine j_iload hX dL_isSound_136 rfl ?_
      refine j_aload_n hX dL_isSound_138 rfl ?_
      refine j_iload hX dL_isSound_139 rfl ?_
      refine j_bipush hX (v := 108) (by decide) dL_isSound_141 ?_
      refine j_callHa hX hH (nA := 3) (As := [.ref (ad 0), .int (nI j), .int 108]) (st := [.int (nI w)]) (wa := [(uu, .inl (G.2.2 0, 4, .inl uf)), (bg, .inl (G.2.2 0, 6, .inl gs))]) (w0 := (wC G ad W N (enO ad o) (wO ad os o))) dL_isSound_143 (d_of_l G hG ad hZ (nI j)) gL_isSound_L_of rfl (by decide +kernel) (by decide) (Nat.le_of_ble_eq_true rfl) rfl (Nat.le_of_ble_eq_true rfl) ⟨by omega, by omega⟩ rfl rfl (fun rv143 w143 hp143 => ?_)
      obtain ⟨rfl, rfl⟩ := hp143
      show jW G X (2 + 3 * a + 5 * j + 1 + 1) (10 + 18 * a + 30 * j + 6 + 6) 146 [some (.ref (ad 0)), some (.int (nI a)), some (.ref bg), some (.int (nI (sm (fl a o c N') (cb (N' 5) a)))), some (.int (W0 6)), some (.int (if (cb (N' 5) a) ≤ 5 then W0 6 else -1001)), some (.int (nI (cb (N' 5) a))), some (.ref uu), some (.int (nI j)), some (.int (nI w)), none, none] [.int (ansL os o (W, N) (nI j)), .int (nI w)] ((uu, .inl (G.2.2 0, 4, .inl uf)) :: (bg, .inl (G.2.2 0, 6, .inl gs)) :: (wC G ad W N (enO ad o) (wO ad os o)))
      refine jW.top (y := nI (qL (qX (cb (N' 5) a) o c (BX a N')) j)) eL ?_
      refine j_icmp_gt_f hX (tgt := 204) dL_isSound_146 (by decide) (nI_nlt w1 (by omega)) ?_
      refine j_iload hX dL_isSound_149 rfl ?_
      have hend : ∀ (uf' : Nat → Int32), (∀ g, g < 4 → uf' g = nI (sm (fun j => if usG os (qX (cb (N' 5) a) o c (BX a N')) (LX (cb (N' 5) a) o c (BX a N')) g j = true then 1 else 0) (j + 1))) → jW G X (2 + 3 * a + 5 * (j + 1)) (10 + 18 * a + 30 * (j + 1)) 229 [some (.ref (ad 0)), some (.int (nI a)), some (.ref bg), some (.int (nI (sm (fl a o c N') (cb (N' 5) a)))), some (.int (W0 6)), some (.int (if (cb (N' 5) a) ≤ 5 then W0 6 else -1001)), some (.int (nI (cb (N' 5) a))), some (.ref uu), some (.int (nI j)), some (.int (nI w)), none, none] [] ((uu, .inl (G.2.2 0, 4, .inl uf')) :: (bg, .inl (G.2.2 0, 6, .inl gs)) :: (wC G ad W N (enO ad o) (wO ad os o))) := by
        intro uf' hu'
        refine j_iinc hX (v := nI (j + 1)) (ls' := [some (.ref (ad 0)), some (.int (nI a)), some (.ref bg), some (.int (nI (sm (fl a o c N') (cb (N' 5) a)))), some (.int (W0 6)), some (.int (if (cb (N' 5) a) ≤ 5 then W0 6 else -1001)), some (.int (nI (cb (N' 5) a))), some (.ref uu), some (.int (nI (j + 1))), some (.int (nI w)), none, none]) dL_isSound_229 rfl (j_inc1 _) rfl rfl ?_
        refine j_goto hX (tgt := 117) dL_isSound_232 (by decide) ?_
        refine jW.drop (ls' := [some (.ref (ad 0)), some (.int (nI a)), some (.ref bg), some (.int (nI (sm (fl a o c N') (cb (N' 5) a)))), some (.int (W0 6)), some (.int (if (cb (N' 5) a) ≤ 5 then W0 6 else -1001)), some (.int (nI (cb (N' 5) a))), some (.ref uu), some (.int (nI (j + 1))), none, none, none]) ⟨Or.inr rfl, Or.inr rfl, Or.inr rfl, Or.inr rfl, Or.inr rfl, Or.inr rfl, Or.inr rfl, Or.inr rfl, Or.inr rfl, Or.inl rfl, Or.inr rfl, Or.inr rfl, trivial⟩ ?_
        exact ih (j + 1) (by omega) uu uf' hu'
      have h206 : jW G X (2 + 3 * a + 5 * (j + 1)) (10 + 18 * a + 30 * (j + 1)) 206 [some (.ref (ad 0)), some (.int (nI a)), some (.ref bg), some (.int (nI (sm (fl a o c N') (cb (N' 5) a)))), some (.int (W0 6)), some (.int (if (cb (N' 5) a) ≤ 5 then W0 6 else -1001)), some (.int (nI (cb (N' 5) a))), some (.ref uu), some (.int (nI j)), some (.int (nI w)), none, none] [] ((uu, .inl (G.2.2 0, 4, .inl uf)) :: (bg, .inl (G.2.2 0, 6, .inl gs)) :: (wC G ad W N (enO ad o) (wO ad os o))) := by
        refine j_iload hX dL_isSound_206 rfl ?_
        by_cases hw : w = 0
        · refine j_if_le_t hX (tgt := 229) dL_isSound_208 (by decide) (by rw [nI_le0 (by omega)]; exact hw) ?_
          refine hend uf (fun g hg4 => ?_)
          have hno : ¬ usG os (qX (cb (N' 5) a) o c (BX a N')) (LX (cb (N' 5) a) o c (BX a N')) g j = true := fun hh => by
            unfold usG at hh
            rw [Bool.and_eq_true, Bool.or_eq_true, decide_eq_true_eq] at hh
            have := wS.mpr hh.1
            omega
          rw [hu g hg4, sm, if_neg hno, Nat.add_zero]
        · refine j_if_le_f hX (tgt := 229) dL_isSound_208 (by decide) (by rw [nI_le0 (by omega)]; exact hw) ?_
          refine j_aload_n hX dL_isSound_211 rfl ?_
          refine j_iload hX dL_isSound_212 rfl ?_
          refine j_iald hX (v := (os j).2 1) dL_isSound_214 1 rfl (nI_in (by omega) (by decide)) (by rw [nI_clamp (by omega)]; exact hgs) ?_
          rcases gr_cases hS hin with eg | ⟨g0, hg0, eg⟩
          · refine j_if_lt_t hX (tgt := 229) dL_isSound_215 (by decide) (by rw [eg]; decide) ?_
            refine hend uf (fun g hg4 => ?_)
            have hno : ¬ usG os (qX (cb (N' 5) a) o c (BX a N')) (LX (cb (N' 5) a) o c (BX a N')) g j = true := fun hh => by
              unfold usG at hh
              rw [Bool.and_eq_true, Bool.or_eq_true, decide_eq_true_eq] at hh
              have e9 := hh.2
              rw [eg] at e9
              exact nI_neg1 (by omega) e9.symm
            rw [hu g hg4, sm, if_neg hno, Nat.add_zero]
          · refine j_if_lt_f hX (tgt := 229) dL_isSound_215 (by decide) (by rw [eg]; exact nI_pos (by omega)) ?_
            refine j_aload hX dL_isSound_218 rfl ?_
            refine j_aload_n hX dL_isSound_220 rfl ?_
            refine j_iload hX dL_isSound_221 rfl ?_
            refine j_iald hX (v := nI g0) dL_isSound_223 1 rfl (nI_in (by omega) (by decide)) (by rw [nI_clamp (by omega), hgs]; exact eg) ?_
            refine j_dup2 hX dL_isSound_224 rfl rfl ?_
            refine j_iald hX (v := uf g0) dL_isSound_225 0 rfl (nI_in hg0 (by decide)) (by rw [nI_clamp (by omega)]) ?_
            refine j_iconst hX (v := 1) (by decide) dL_isSound_226 ?_
            refine j_iadd hX dL_isSound_227 ?_
            refine j_iast hX (ws' := ((uu, .inl (G.2.2 0, 4, .inl (upd uf g0 (uf g0 + 1)))) :: (bg, .inl (G.2.2 0, 6, .inl gs)) :: (wC G ad W N (enO ad o) (wO ad os o)))) dL_isSound_228 0 rfl (nI_in hg0 (by decide)) (by rw [nI_clamp (by omega)]; rfl) ?_
            refine hend (upd uf g0 (uf g0 + 1)) (fun g hg4 => ?_)
            by_cases e9 : g = g0
            · rw [e9, upd_self9, hu g0 hg0, sm, if_pos (show usG os (qX (cb (N' 5) a) o c (BX a N')) (LX (cb (N' 5) a) o c (BX a N')) g0 j = true by
              unfold usG
              rw [Bool.and_eq_true, Bool.or_eq_true, decide_eq_true_eq]
              exact ⟨wS.mp (by omega), eg⟩)]
              exact nI_1 _
            · have hno : ¬ usG os (qX (cb (N' 5) a) o c (BX a N')) (LX (cb (N' 5) a) o c (BX a N')) g j = true := fun hh => by
                unfold usG at hh
                rw [Bool.and_eq_true, decide_eq_true_eq] at hh
                exact e9 ((nI_eq (by omega) (by omega)).mp (hh.2.symm.trans eg))
              rw [upd_ne9 e9, hu g hg4, sm, if_neg hno, Nat.add_zero]
      have h180 : jW G X (2 + 3 * a + 5 * j + 1 + 1 + 1) (10 + 18 * a + 30 * j + 6 + 6 + 6) 180 [some (.ref (ad 0)), some (.int (nI a)), some (.ref bg), some (.int (nI (sm (fl a o c N') (cb (N' 5) a)))), some (.int (W0 6)), some (.int (if (cb (N' 5) a) ≤ 5 then W0 6 else -1001)), some (.int (nI (cb (N' 5) a))), some (.ref uu), some (.int (nI j)), some (.int (nI w)), none, none] [] ((uu, .inl (G.2.2 0, 4, .inl uf)) :: (bg, .inl (G.2.2 0, 6, .inl gs)) :: (wC G ad W N (enO ad o) (wO ad os o))) := by
        refine j_aload_n hX dL_isSound_180 rfl ?_
        refine j_iload hX dL_isSound_181 rfl ?_
        refine j_bipush hX (v := 114) (by decide) dL_isSound_183 ?_
        refine j_callHa hX hH (nA := 3) (As := [.ref (ad 0), .int (nI j), .int 114]) (st := []) (wa := [(uu, .inl (G.2.2 0, 4, .inl uf)), (bg, .inl (G.2.2 0, 6, .inl gs))]) (w0 := (wC G ad W N (enO ad o) (wO ad os o))) dL_isSound_185 (d_of_r G hG ad hZ (nI j)) gL_isSound_L_of rfl (by decide +kernel) (by decide) (Nat.le_of_ble_eq_true rfl) rfl (Nat.le_of_ble_eq_true rfl) ⟨by omega, by omega⟩ rfl rfl (fun rv185 w185 hp185 => ?_)
        obtain ⟨rfl, rfl⟩ := hp185
        show jW G X (2 + 3 * a + 5 * j + 1 + 1 + 1 + 1) (10 + 18 * a + 30 * j + 6 + 6 + 6 + 6) 188 [some (.ref (ad 0)), some (.int (nI a)), some (.ref bg), some (.int (nI (sm (fl a o c N') (cb (N' 5) a)))), some (.int (W0 6)), some (.int (if (cb (N' 5) a) ≤ 5 then W0 6 else -1001)), some (.int (nI (cb (N' 5) a))), some (.ref uu), some (.int (nI j)), some (.int (nI w)), none, none] [.int (ansR os o (W, N) (nI j))] ((uu, .inl (G.2.2 0, 4, .inl uf)) :: (bg, .inl (G.2.2 0, 6, .inl gs)) :: (wC G ad W N (enO ad o) (wO ad os o)))
        refine j_bipush hX (v := 108) (by decide) dL_isSound_188 ?_
        by_cases h8 : ansR os o (W, N) (nI j) = 108
        · refine j_icmp_ne_f hX (tgt := 206) dL_isSound_190 (by decide) h8 ?_
          refine j_aload_n hX dL_isSound_193 rfl ?_
          refine j_iload hX dL_isSound_194 rfl ?_
          refine j_bipush hX (v := 108) (by decide) dL_isSound_196 ?_
          refine j_callHa hX hH (nA := 3) (As := [.ref (ad 0), .int (nI j), .int 108]) (st := []) (wa := [(uu, .inl (G.2.2 0, 4, .inl uf)), (bg, .inl (G.2.2 0, 6, .inl gs))]) (w0 := (wC G ad W N (enO ad o) (wO ad os o))) dL_isSound_198 (d_of_l G hG ad hZ (nI j)) gL_isSound_L_of rfl (by decide +kernel) (by decide) (Nat.le_of_ble_eq_true rfl) rfl (Nat.le_of_ble_eq_true rfl) ⟨by omega, by omega⟩ rfl rfl (fun rv198 w198 hp198 => ?_)
          obtain ⟨rfl, rfl⟩ := hp198
          show jW G X (2 + 3 * a + 5 * j + 1 + 1 + 1 + 1 + 1) (10 + 18 * a + 30 * j + 6 + 6 + 6 + 6 + 6) 201 [some (.ref (ad 0)), some (.int (nI a)), some (.ref bg), some (.int (nI (sm (fl a o c N') (cb (N' 5) a)))), some (.int (W0 6)), some (.int (if (cb (N' 5) a) ≤ 5 then W0 6 else -1001)), some (.int (nI (cb (N' 5) a))), some (.ref uu), some (.int (nI j)), some (.int (nI w)), none, none] [.int (ansL os o (W, N) (nI j))] ((uu, .inl (G.2.2 0, 4, .inl uf)) :: (bg, .inl (G.2.2 0, 6, .inl gs)) :: (wC G ad W N (enO ad o) (wO ad os o)))
          refine jW.top (y := nI (qL (qX (cb (N' 5) a) o c (BX a N')) j)) eL ?_
          refine j_if_eq_t hX (tgt := 206) dL_isSound_201 (by decide) (by rw [wR8 h8]; exact nI_0) ?_
          exact jW.widen (k' := 2 + 3 * a + 5 * (j + 1)) (n' := 10 + 18 * a + 30 * (j + 1)) (by omega) (by omega) h206
        · refine j_icmp_ne_t hX (tgt := 206) dL_isSound_190 (by decide) h8 ?_
          exact jW.widen (k' := 2 + 3 * a + 5 * (j + 1)) (n' := 10 + 18 * a + 30 * (j + 1)) (by omega) (by omega) h206
      by_cases hw : w = 0
      · refine j_if_le_t hX (tgt := 158) dL_isSound_151 (by decide) (by rw [nI_le0 (by omega)]; exact hw) ?_
        refine j_iconst hX (v := 0) (by decide) dL_isSound_158 ?_
        refine j_aload_n hX dL_isSound_159 rfl ?_
        refine j_iload hX dL_isSound_160 rfl ?_
        refine j_bipush hX (v := 114) (by decide) dL_isSound_162 ?_
        refine j_callHa hX hH (nA := 3) (As := [.ref (ad 0), .int (nI j), .int 114]) (st := [.int 0]) (wa := [(uu, .inl (G.2.2 0, 4, .inl uf)), (bg, .inl (G.2.2 0, 6, .inl gs))]) (w0 := (wC G ad W N (enO ad o) (wO ad os o))) dL_isSound_164 (d_of_r G hG ad hZ (nI j)) gL_isSound_L_of rfl (by decide +kernel) (by decide) (Nat.le_of_ble_eq_true rfl) rfl (Nat.le_of_ble_eq_true rfl) ⟨by omega, by omega⟩ rfl rfl (fun rv164 w164 hp164 => ?_)
        obtain ⟨rfl, rfl⟩ := hp164
        show jW G X (2 + 3 * a + 5 * j + 1 + 1 + 1) (10 + 18 * a + 30 * j + 6 + 6 + 6) 167 [some (.ref (ad 0)), some (.int (nI a)), some (.ref bg), some (.int (nI (sm (fl a o c N') (cb (N' 5) a)))), some (.int (W0 6)), some (.int (if (cb (N' 5) a) ≤ 5 then W0 6 else -1001)), some (.int (nI (cb (N' 5) a))), some (.ref uu), some (.int (nI j)), some (.int (nI w)), none, none] [.int (ansR os o (W, N) (nI j)), .int 0] ((uu, .inl (G.2.2 0, 4, .inl uf)) :: (bg, .inl (G.2.2 0, 6, .inl gs)) :: (wC G ad W N (enO ad o) (wO ad os o)))
        refine j_bipush hX (v := 117) (by decide) dL_isSound_167 ?_
        refine j_icmp_ne_t hX (tgt := 176) dL_isSound_169 (by decide) (wR0 hw) ?_
        refine j_iconst hX (v := 0) (by decide) dL_isSound_176 ?_
        refine j_icmp_ne_f hX (tgt := 204) dL_isSound_177 (by decide) rfl ?_
        exact h180
      · refine j_if_le_f hX (tgt := 158) dL_isSound_151 (by decide) (by rw [nI_le0 (by omega)]; exact hw) ?_
        refine j_iconst hX (v := 1) (by decide) dL_isSound_154 ?_
        refine j_goto hX (tgt := 159) dL_isSound_155 (by decide) ?_
        refine j_aload_n hX dL_isSound_159 rfl ?_
        refine j_iload hX dL_isSound_160 rfl ?_
        refine j_bipush hX (v := 114) (by decide) dL_isSound_162 ?_
        refine j_callHa hX hH (nA := 3) (As := [.ref (ad 0), .int (nI j), .int 114]) (st := [.int 1]) (wa := [(uu, .inl (G.2.2 0, 4, .inl uf)), (bg, .inl (G.2.2 0, 6, .inl gs))]) (w0 := (wC G ad W N (enO ad o) (wO ad os o))) dL_isSound_164 (d_of_r G hG ad hZ (nI j)) gL_isSound_L_of rfl (by decide +kernel) (by decide) (Nat.le_of_ble_eq_true rfl) rfl (Nat.le_of_ble_eq_true rfl) ⟨by omega, by omega⟩ rfl rfl (fun rv164 w164 hp164 => ?_)
        obtain ⟨rfl, rfl⟩ := hp164
        show jW G X (2 + 3 * a + 5 * j + 1 + 1 + 1) (10 + 18 * a + 30 * j + 6 + 6 + 6) 167 [some (.ref (ad 0)), some (.int (nI a)), some (.ref bg), some (.int (nI (sm (fl a o c N') (cb (N' 5) a)))), some (.int (W0 6)), some (.int (if (cb (N' 5) a) ≤ 5 then W0 6 else -1001)), some (.int (nI (cb (N' 5) a))), some (.ref uu), some (.int (nI j)), some (.int (nI w)), none, none] [.int (ansR os o (W, N) (nI j)), .int 1] ((uu, .inl (G.2.2 0, 4, .inl uf)) :: (bg, .inl (G.2.2 0, 6, .inl gs)) :: (wC G ad W N (enO ad o) (wO ad os o)))
        refine j_bipush hX (v := 117) (by decide) dL_isSound_167 ?_
        refine j_icmp_ne_f hX (tgt := 176) dL_isSound_169 (by decide) (wR (by omega)) ?_
        refine j_iconst hX (v := 1) (by decide) dL_isSound_172 ?_
        refine j_goto hX (tgt := 177) dL_isSound_173 (by decide) ?_
        refine j_icmp_ne_f hX (tgt := 204) dL_isSound_177 (by decide) rfl ?_
        exact h180
  have L1 : ∀ z j : Nat, j + z = a → jW G X (1 + 3 * j) (6 + 18 * j) 20 [some (.ref (ad 0)), some (.int (nI a)), some (.ref bg), some (.int (nI (sm (fun z => if N' 5 z = 98 then fl a o c N' (cb (N' 5) z) else 0) j))), some (.int (W0 6)), some (.int (if (cb (N' 5) a) ≤ 5 then W0 6 else -1001)), some (.int (nI (cb (N' 5) j))), some (.int (nI j)), none, none, none, none] [] ((bg, .inl (G.2.2 0, 6, .inl gs)) :: (wC G ad W N (enO ad o) (wO ad os o))) := by
    intro z
    induction z with
    | zero =>
      intro j hj
      have hin : j = a := by omega
      rw [hin]
      refine j_iload hX dL_isSound_20 rfl ?_
      refine j_iload_n hX dL_isSound_22 rfl ?_
      refine j_icmp_ge_t hX (tgt := 93) dL_isSound_23 (by decide) (nI_le (Nat.le_refl _) (by omega)) ?_
      refine j_iconst hX (v := 4) (by decide) dL_isSound_93 ?_
      refine j_newai hX (N := 4) dL_isSound_94 (by decide +kernel) (by decide) (by decide +kernel) (by decide) ⟨by omega, by omega⟩ (fun uu => ?_)
      refine jW.pm (ws' := ((uu, .inl (G.2.2 0, 4, .inl (fun _ => 0))) :: (bg, .inl (G.2.2 0, 6, .inl gs)) :: (wC G ad W N (enO ad o) (wO ad os o)))) (List.perm_append_singleton _ _) ?_
      refine j_dup hX dL_isSound_96 rfl ?_
      refine j_iconst hX (v := 0) (by decide) dL_isSound_97 ?_
      refine j_iconst hX (v := 0) (by decide) dL_isSound_98 ?_
      refine j_iast hX (ws' := ((uu, .inl (G.2.2 0, 4, .inl (upd (fun _ => 0) 0 0))) :: (bg, .inl (G.2.2 0, 6, .inl gs)) :: (wC G ad W N (enO ad o) (wO ad os o)))) dL_isSound_99 0 rfl (by unfold vp_in; decide +kernel) rfl ?_
      refine j_dup hX dL_isSound_100 rfl ?_
      refine j_iconst hX (v := 1) (by decide) dL_isSound_101 ?_
      refine j_iconst hX (v := 0) (by decide) dL_isSound_102 ?_
      refine j_iast hX (ws' := ((uu, .inl (G.2.2 0, 4, .inl (upd (upd (fun _ => 0) 0 0) 1 0))) :: (bg, .inl (G.2.2 0, 6, .inl gs)) :: (wC G ad W N (enO ad o) (wO ad os o)))) dL_isSound_103 0 rfl (by unfold vp_in; decide +kernel) rfl ?_
      refine j_dup hX dL_isSound_104 rfl ?_
      refine j_iconst hX (v := 2) (by decide) dL_isSound_105 ?_
      refine j_iconst hX (v := 0) (by decide) dL_isSound_106 ?_
      refine j_iast hX (ws' := ((uu, .inl (G.2.2 0, 4, .inl (upd (upd (upd (fun _ => 0) 0 0) 1 0) 2 0))) :: (bg, .inl (G.2.2 0, 6, .inl gs)) :: (wC G ad W N (enO ad o) (wO ad os o)))) dL_isSound_107 0 rfl (by unfold vp_in; decide +kernel) rfl ?_
      refine j_dup hX dL_isSound_108 rfl ?_
      refine j_iconst hX (v := 3) (by decide) dL_isSound_109 ?_
      refine j_iconst hX (v := 0) (by decide) dL_isSound_110 ?_
      refine j_iast hX (ws' := ((uu, .inl (G.2.2 0, 4, .inl (upd (upd (upd (upd (fun _ => 0) 0 0) 1 0) 2 0) 3 0))) :: (bg, .inl (G.2.2 0, 6, .inl gs)) :: (wC G ad W N (enO ad o) (wO ad os o)))) dL_isSound_111 0 rfl (by unfold vp_in; decide +kernel) rfl ?_
      refine j_astore hX (ls' := [some (.ref (ad 0)), some (.int (nI a)), some (.ref bg), some (.int (nI (sm (fun z => if N' 5 z = 98 then fl a o c N' (cb (N' 5) z) else 0) a))), some (.int (W0 6)), some (.int (if (cb (N' 5) a) ≤ 5 then W0 6 else -1001)), some (.int (nI (cb (N' 5) a))), some (.ref uu), none, none, none, none]) dL_isSound_112 (Nat.le_of_ble_eq_true rfl) rfl rfl ?_
      refine j_iconst hX (v := 0) (by decide) dL_isSound_114 ?_
      refine j_istore hX (ls' := [some (.ref (ad 0)), some (.int (nI a)), some (.ref bg), some (.int (nI (sm (fun z => if N' 5 z = 98 then fl a o c N' (cb (N' 5) z) else 0) a))), some (.int (W0 6)), some (.int (if (cb (N' 5) a) ≤ 5 then W0 6 else -1001)), some (.int (nI (cb (N' 5) a))), some (.ref uu), some (.int 0), none, none, none]) dL_isSound_115 (Nat.le_of_ble_eq_true rfl) rfl rfl ?_
      refine jW.locals (ls' := [some (.ref (ad 0)), some (.int (nI a)), some (.ref bg), some (.int (nI (sm (fl a o c N') (cb (N' 5) a)))), some (.int (W0 6)), some (.int (if (cb (N' 5) a) ≤ 5 then W0 6 else -1001)), some (.int (nI (cb (N' 5) a))), some (.ref uu), some (.int (nI 0)), none, none, none]) (by rw [st_psum hS.1.1]; rfl) ?_
      refine jW.widen (k' := 2 + 3 * a + 5 * 0) (n' := 10 + 18 * a + 30 * 0) (by omega) (by omega) ?_
      exact L2 o 0 (Nat.zero_add o) uu (upd (upd (upd (upd (fun _ => 0) 0 0) 1 0) 2 0) 3 0) (fun g hg4 => by
        rcases (show g = 0 ∨ g = 1 ∨ g = 2 ∨ g = 3 by omega) with rfl | rfl | rfl | rfl <;> rfl)
    | succ z ih =>
      intro j hj
      have hin : j < a := by omega
      have eN := st_ansN hS hin
      refine j_iload hX dL_isSound_20 rfl ?_
      refine j_iload_n hX dL_isSound_22 rfl ?_
      refine j_icmp_ge_f hX (tgt := 93) dL_isSound_23 (by decide) (nI_ge hin (by omega)) ?_
      refine j_aload_n hX dL_isSound_26 rfl ?_
      refine j_iload hX dL_isSound_27 rfl ?_
      refine j_iconst hX (v := 1) (by decide) dL_isSound_29 ?_
      refine j_callHa hX hH (nA := 3) (As := [.ref (ad 0), .int (nI j), .int 1]) (st := []) (wa := [(bg, .inl (G.2.2 0, 6, .inl gs))]) (w0 := (wC G ad W N (enO ad o) (wO ad os o))) dL_isSound_30 (d_item_n G hG ad hZ (nI j)) gL_isSound_L_item rfl (by decide +kernel) (by decide) (Nat.le_of_ble_eq_true rfl) rfl (Nat.le_of_ble_eq_true rfl) ⟨by omega, by omega⟩ rfl rfl (fun rv30 w30 hp30 => ?_)
      obtain ⟨rfl, rfl⟩ := hp30
      show jW G X (1 + 3 * j + 1) (6 + 18 * j + 6) 33 [some (.ref (ad 0)), some (.int (nI a)), some (.ref bg), some (.int (nI (sm (fun z => if N' 5 z = 98 then fl a o c N' (cb (N' 5) z) else 0) j))), some (.int (W0 6)), some (.int (if (cb (N' 5) a) ≤ 5 then W0 6 else -1001)), some (.int (nI (cb (N' 5) j))), some (.int (nI j)), none, none, none, none] [.int (ansN (W, N) (cb (N' 5) a) (nI j))] ((bg, .inl (G.2.2 0, 6, .inl gs)) :: (wC G ad W N (enO ad o) (wO ad os o)))
      have h87 : ∀ p i : Int32, p = nI (sm (fun z => if N' 5 z = 98 then fl a o c N' (cb (N' 5) z) else 0) (j + 1)) → i = nI (cb (N' 5) (j + 1)) → jW G X (1 + 3 * (j + 1)) (6 + 18 * (j + 1)) 87 [some (.ref (ad 0)), some (.int (nI a)), some (.ref bg), some (.int p), some (.int (W0 6)), some (.int (if (cb (N' 5) a) ≤ 5 then W0 6 else -1001)), some (.int i), some (.int (nI j)), none, none, none, none] [] ((bg, .inl (G.2.2 0, 6, .inl gs)) :: (wC G ad W N (enO ad o) (wO ad os o))) := by
        rintro p i rfl rfl
        refine j_iinc hX (v := nI (j + 1)) (ls' := [some (.ref (ad 0)), some (.int (nI a)), some (.ref bg), some (.int (nI (sm (fun z => if N' 5 z = 98 then fl a o c N' (cb (N' 5) z) else 0) (j + 1)))), some (.int (W0 6)), some (.int (if (cb (N' 5) a) ≤ 5 then W0 6 else -1001)), some (.int (nI (cb (N' 5) (j + 1)))), some (.int (nI (j + 1))), none, none, none, none]) dL_isSound_87 rfl (j_inc1 _) rfl rfl ?_
        refine j_goto hX (tgt := 20) dL_isSound_90 (by decide) ?_
        exact ih (j + 1) (by omega)
      by_cases h98 : N' 5 j = 98
      · rw [if_pos h98] at eN
        have hF : (fl a o c N' (cb (N' 5) j)) ≤ 9999 := fl_le hS.1.1 ((st_net hS hin).1 h98).2.2.2
        refine jW.top (y := nI (fl a o c N' (cb (N' 5) j))) eN ?_
        refine j_istore hX (ls' := [some (.ref (ad 0)), some (.int (nI a)), some (.ref bg), some (.int (nI (sm (fun z => if N' 5 z = 98 then fl a o c N' (cb (N' 5) z) else 0) j))), some (.int (W0 6)), some (.int (if (cb (N' 5) a) ≤ 5 then W0 6 else -1001)), some (.int (nI (cb (N' 5) j))), some (.int (nI j)), some (.int (nI (fl a o c N' (cb (N' 5) j)))), none, none, none]) dL_isSound_33 (Nat.le_of_ble_eq_true rfl) rfl rfl ?_
        refine j_iload hX dL_isSound_35 rfl ?_
        refine j_sipush hX (v := -1001) (by decide) dL_isSound_37 ?_
        refine j_icmp_ne_t hX (tgt := 46) dL_isSound_40 (by decide) (ne_1001 (by omega)) ?_
        refine j_iinc hX (v := nI (cb (N' 5) j + 1)) (ls' := [some (.ref (ad 0)), some (.int (nI a)), some (.ref bg), some (.int (nI (sm (fun z => if N' 5 z = 98 then fl a o c N' (cb (N' 5) z) else 0) j))), some (.int (W0 6)), some (.int (if (cb (N' 5) a) ≤ 5 then W0 6 else -1001)), some (.int (nI (cb (N' 5) j + 1))), some (.int (nI j)), some (.int (nI (fl a o c N' (cb (N' 5) j)))), none, none, none]) dL_isSound_46 rfl (j_inc1 _) rfl rfl ?_
        refine j_aload_n hX dL_isSound_49 rfl ?_
        refine j_iload hX dL_isSound_50 rfl ?_
        refine j_iconst hX (v := 0) (by decide) dL_isSound_52 ?_
        refine j_callHa hX hH (nA := 3) (As := [.ref (ad 0), .int (nI j), .int 0]) (st := []) (wa := [(bg, .inl (G.2.2 0, 6, .inl gs))]) (w0 := (wC G ad W N (enO ad o) (wO ad os o))) dL_isSound_53 (d_item_o G hG ad hZ (nI j)) gL_isSound_L_item rfl (by decide +kernel) (by decide) (Nat.le_of_ble_eq_true rfl) rfl (Nat.le_of_ble_eq_true rfl) ⟨by omega, by omega⟩ rfl rfl (fun rv53 w53 hp53 => ?_)
        obtain ⟨rfl, rfl⟩ := hp53
        show jW G X (1 + 3 * j + 1 + 1) (6 + 18 * j + 6 + 6) 56 [some (.ref (ad 0)), some (.int (nI a)), some (.ref bg), some (.int (nI (sm (fun z => if N' 5 z = 98 then fl a o c N' (cb (N' 5) z) else 0) j))), some (.int (W0 6)), some (.int (if (cb (N' 5) a) ≤ 5 then W0 6 else -1001)), some (.int (nI (cb (N' 5) j + 1))), some (.int (nI j)), some (.int (nI (fl a o c N' (cb (N' 5) j)))), none, none, none] [.int (ansO (W, N) (cb (N' 5) a) (nI j))] ((bg, .inl (G.2.2 0, 6, .inl gs)) :: (wC G ad W N (enO ad o) (wO ad os o)))
        rcases st_ansO hS hin h98 with eo | ⟨j2, hj2, eo, hu2⟩
        · refine jW.top (y := -1) eo ?_
          refine j_istore hX (ls' := [some (.ref (ad 0)), some (.int (nI a)), some (.ref bg), some (.int (nI (sm (fun z => if N' 5 z = 98 then fl a o c N' (cb (N' 5) z) else 0) j))), some (.int (W0 6)), some (.int (if (cb (N' 5) a) ≤ 5 then W0 6 else -1001)), some (.int (nI (cb (N' 5) j + 1))), some (.int (nI j)), some (.int (nI (fl a o c N' (cb (N' 5) j)))), some (.int (-1)), none, none]) dL_isSound_56 (Nat.le_of_ble_eq_true rfl) rfl rfl ?_
          refine j_iload hX dL_isSound_58 rfl ?_
          refine j_if_lt_f hX (tgt := 80) dL_isSound_60 (by decide) (nI_pos (by omega)) ?_
          refine j_iload hX dL_isSound_63 rfl ?_
          refine j_if_lt_t hX (tgt := 82) dL_isSound_65 (by decide) (by decide) ?_
          refine j_iload_n hX dL_isSound_82 rfl ?_
          refine j_iload hX dL_isSound_83 rfl ?_
          refine j_iadd hX dL_isSound_85 ?_
          refine j_istore_n hX (ls' := [some (.ref (ad 0)), some (.int (nI a)), some (.ref bg), some (.int ((nI (sm (fun z => if N' 5 z = 98 then fl a o c N' (cb (N' 5) z) else 0) j)) + (nI (fl a o c N' (cb (N' 5) j))))), some (.int (W0 6)), some (.int (if (cb (N' 5) a) ≤ 5 then W0 6 else -1001)), some (.int (nI (cb (N' 5) j + 1))), some (.int (nI j)), some (.int (nI (fl a o c N' (cb (N' 5) j)))), some (.int (-1)), none, none]) dL_isSound_86 (Nat.le_of_ble_eq_true rfl) rfl rfl ?_
          refine jW.drop (ls' := [some (.ref (ad 0)), some (.int (nI a)), some (.ref bg), some (.int ((nI (sm (fun z => if N' 5 z = 98 then fl a o c N' (cb (N' 5) z) else 0) j)) + (nI (fl a o c N' (cb (N' 5) j))))), some (.int (W0 6)), some (.int (if (cb (N' 5) a) ≤ 5 then W0 6 else -1001)), some (.int (nI (cb (N' 5) j + 1))), some (.int (nI j)), none, none, none, none]) ⟨Or.inr rfl, Or.inr rfl, Or.inr rfl, Or.inr rfl, Or.inr rfl, Or.inr rfl, Or.inr rfl, Or.inr rfl, Or.inl rfl, Or.inl rfl, Or.inr rfl, Or.inr rfl, trivial⟩ ?_
          refine jW.widen (k' := 1 + 3 * (j + 1)) (n' := 6 + 18 * (j + 1)) (by omega) (by omega) ?_
          exact h87 _ _ (by rw [nI_add, sm, if_pos h98]) (by rw [cb, if_pos h98])
        · refine jW.top (y := nI j2) eo ?_
          obtain ⟨w, eU, w1, w2, -, wS, -⟩ := st_ansU hS hj2
          refine j_istore hX (ls' := [some (.ref (ad 0)), some (.int (nI a)), some (.ref bg), some (.int (nI (sm (fun z => if N' 5 z = 98 then fl a o c N' (cb (N' 5) z) else 0) j))), some (.int (W0 6)), some (.int (if (cb (N' 5) a) ≤ 5 then W0 6 else -1001)), some (.int (nI (cb (N' 5) j + 1))), some (.int (nI j)), some (.int (nI (fl a o c N' (cb (N' 5) j)))), some (.int (nI j2)), none, none]) dL_isSound_56 (Nat.le_of_ble_eq_true rfl) rfl rfl ?_
          refine j_iload hX dL_isSound_58 rfl ?_
          refine j_if_lt_f hX (tgt := 80) dL_isSound_60 (by decide) (nI_pos (by omega)) ?_
          refine j_iload hX dL_isSound_63 rfl ?_
          refine j_if_lt_f hX (tgt := 82) dL_isSound_65 (by decide) (nI_pos (by omega)) ?_
          refine j_aload_n hX dL_isSound_68 rfl ?_
          refine j_iload hX dL_isSound_69 rfl ?_
          refine j_bipush hX (v := 117) (by decide) dL_isSound_71 ?_
          refine j_callHa hX hH (nA := 3) (As := [.ref (ad 0), .int (nI j2), .int 117]) (st := []) (wa := [(bg, .inl (G.2.2 0, 6, .inl gs))]) (w0 := (wC G ad W N (enO ad o) (wO ad os o))) dL_isSound_73 (d_of_u G hG ad hZ (nI j2)) gL_isSound_L_of rfl (by decide +kernel) (by decide) (Nat.le_of_ble_eq_true rfl) rfl (Nat.le_of_ble_eq_true rfl) ⟨by omega, by omega⟩ rfl rfl (fun rv73 w73 hp73 => ?_)
          obtain ⟨rfl, rfl⟩ := hp73
          show jW G X (1 + 3 * j + 1 + 1 + 1) (6 + 18 * j + 6 + 6 + 6) 76 [some (.ref (ad 0)), some (.int (nI a)), some (.ref bg), some (.int (nI (sm (fun z => if N' 5 z = 98 then fl a o c N' (cb (N' 5) z) else 0) j))), some (.int (W0 6)), some (.int (if (cb (N' 5) a) ≤ 5 then W0 6 else -1001)), some (.int (nI (cb (N' 5) j + 1))), some (.int (nI j)), some (.int (nI (fl a o c N' (cb (N' 5) j)))), some (.int (nI j2)), none, none] [.int (ansU (W, N) (nI j2))] ((bg, .inl (G.2.2 0, 6, .inl gs)) :: (wC G ad W N (enO ad o) (wO ad os o)))
          refine jW.top (y := nI w) eU ?_
          refine j_iconst hX (v := 1) (by decide) dL_isSound_76 ?_
          have hw1 : 1 ≤ w := wS.mpr (Or.inl hu2)
          refine j_icmp_ge_t hX (tgt := 82) dL_isSound_77 (by decide) (show (1 : Int32) ≤ nI w from nI_le (a := 1) hw1 (by omega)) ?_
          refine j_iload_n hX dL_isSound_82 rfl ?_
          refine j_iload hX dL_isSound_83 rfl ?_
          refine j_iadd hX dL_isSound_85 ?_
          refine j_istore_n hX (ls' := [some (.ref (ad 0)), some (.int (nI a)), some (.ref bg), some (.int ((nI (sm (fun z => if N' 5 z = 98 then fl a o c N' (cb (N' 5) z) else 0) j)) + (nI (fl a o c N' (cb (N' 5) j))))), some (.int (W0 6)), some (.int (if (cb (N' 5) a) ≤ 5 then W0 6 else -1001)), some (.int (nI (cb (N' 5) j + 1))), some (.int (nI j)), some (.int (nI (fl a o c N' (cb (N' 5) j)))), some (.int (nI j2)), none, none]) dL_isSound_86 (Nat.le_of_ble_eq_true rfl) rfl rfl ?_
          refine jW.drop (ls' := [some (.ref (ad 0)), some (.int (nI a)), some (.ref bg), some (.int ((nI (sm (fun z => if N' 5 z = 98 then fl a o c N' (cb (N' 5) z) else 0) j)) + (nI (fl a o c N' (cb (N' 5) j))))), some (.int (W0 6)), some (.int (if (cb (N' 5) a) ≤ 5 then W0 6 else -1001)), some (.int (nI (cb (N' 5) j + 1))), some (.int (nI j)), none, none, none, none]) ⟨Or.inr rfl, Or.inr rfl, Or.inr rfl, Or.inr rfl, Or.inr rfl, Or.inr rfl, Or.inr rfl, Or.inr rfl, Or.inl rfl, Or.inl rfl, Or.inr rfl, Or.inr rfl, trivial⟩ ?_
          refine jW.widen (k' := 1 + 3 * (j + 1)) (n' := 6 + 18 * (j + 1)) (by omega) (by omega) ?_
          exact h87 _ _ (by rw [nI_add, sm, if_pos h98]) (by rw [cb, if_pos h98])
      · rw [if_neg h98] at eN
        refine jW.top (y := -1001) eN ?_
        refine j_istore hX (ls' := [some (.ref (ad 0)), some (.int (nI a)), some (.ref bg), some (.int (nI (sm (fun z => if N' 5 z = 98 then fl a o c N' (cb (N' 5) z) else 0) j))), some (.int (W0 6)), some (.int (if (cb (N' 5) a) ≤ 5 then W0 6 else -1001)), some (.int (nI (cb (N' 5) j))), some (.int (nI j)), some (.int (-1001)), none, none, none]) dL_isSound_33 (Nat.le_of_ble_eq_true rfl) rfl rfl ?_
        refine j_iload hX dL_isSound_35 rfl ?_
        refine j_sipush hX (v := -1001) (by decide) dL_isSound_37 ?_
        refine j_icmp_ne_f hX (tgt := 46) dL_isSound_40 (by decide) rfl ?_
        refine j_goto hX (tgt := 87) dL_isSound_43 (by decide) ?_
        refine jW.drop (ls' := [some (.ref (ad 0)), some (.int (nI a)), some (.ref bg), some (.int (nI (sm (fun z => if N' 5 z = 98 then fl a o c N' (cb (N' 5) z) else 0) j))), some (.int (W0 6)), some (.int (if (cb (N' 5) a) ≤ 5 then W0 6 else -1001)), some (.int (nI (cb (N' 5) j))), some (.int (nI j)), none, none, none, none]) ⟨Or.inr rfl, Or.inr rfl, Or.inr rfl, Or.inr rfl, Or.inr rfl, Or.inr rfl, Or.inr rfl, Or.inr rfl, Or.inl rfl, Or.inr rfl, Or.inr rfl, Or.inr rfl, trivial⟩ ?_
        refine jW.widen (k' := 1 + 3 * (j + 1)) (n' := 6 + 18 * (j + 1)) (by omega) (by omega) ?_
        exact h87 _ _ (by rw [sm, if_neg h98, Nat.add_zero]) (by rw [cb, if_neg h98])
  refine j_iconst hX (v := 0) (by decide) dL_isSound_14 ?_
  refine j_istore hX (ls' := [some (.ref (ad 0)), some (.int (nI a)), some (.ref bg), some (.int 0), some (.int (W0 6)), some (.int (if (cb (N' 5) a) ≤ 5 then W0 6 else -1001)), some (.int 0), none, none, none, none, none]) dL_isSound_15 (Nat.le_of_ble_eq_true rfl) rfl rfl ?_
  refine j_iconst hX (v := 0) (by decide) dL_isSound_17 ?_
  refine j_istore hX (ls' := [some (.ref (ad 0)), some (.int (nI a)), some (.ref bg), some (.int 0), some (.int (W0 6)), some (.int (if (cb (N' 5) a) ≤ 5 then W0 6 else -1001)), some (.int 0), some (.int 0), none, none, none, none]) dL_isSound_18 (Nat.le_of_ble_eq_true rfl) rfl rfl ?_
  exact L1 a 0 (Nat.zero_add a)
