/-! THE LAW'S LOOP: one step and all of them. -/
set_option maxHeartbeats 4000000 in
set_option maxRecDepth 100000 in
theorem lc_tail {G : jG} {X : jX} {k n : Nat} {post : Option Value → va_W → Prop} (hX : jOK G X RL cL_law wsL_law (some .boolean) 18 2048 603079 7285465 post) (hH : jTL X) (hG : G.1.stackTraces = false) (hk : k + 140 ≤ 603079 ∧ n + 840 ≤ 7285465) {b bg bx m : Nat} {sS kI vI wat its : Int32} {bef : Int64} {wn : Nat} {ws : va_W} (hW : HW G bx bg m ws) (hz : ¬ its < -1000 ∨ wat = 0 ∨ HZ G bx bg m bef ws) (kk : ∀ ws, HW G bx bg m ws → jW G X (k + 140) (n + 840) 720 [some (.ref b), some (.ref bx), some (.ref bg), some (.int (nI m)), some (.int sS), some (.int kI), none, none, none, none, none, none, none, none, none, none, none, none] [] ws) : jW G X k n 694 [some (.ref b), some (.ref bx), some (.ref bg), some (.int (nI m)), some (.int sS), some (.int kI), some (.int vI), some (.int (nI wn)), some (.int wat), some (.long bef), none, some (.int its), none, none, none, none, none, none] [] ws := by
  have hend : ∀ ws, HW G bx bg m ws → jW G X k n 720 [some (.ref b), some (.ref bx), some (.ref bg), some (.int (nI m)), some (.int sS), some (.int kI), some (.int vI), some (.int (nI wn)), some (.int wat), some (.long bef), none, some (.int its), none, none, none, none, none, none] [] ws := fun ws hw => jW.drop (ls' := [some (.ref b), some (.ref bx), some (.ref bg), some (.int (nI m)), some (.int sS), some (.int kI), none, none, none, none, none, none, none, none, none, none, none, none]) ⟨Or.inr rfl, Or.inr rfl, Or.inr rfl, Or.inr rfl, Or.inr rfl, Or.inr rfl, Or.inl rfl, Or.inl rfl, Or.inl rfl, Or.inl rfl, Or.inr rfl, Or.inl rfl, Or.inr rfl, Or.inr rfl, Or.inr rfl, Or.inr rfl, Or.inr rfl, Or.inr rfl, trivial⟩ (jW.widen (k' := k + 140) (n' := n + 840) (by omega) (by omega) (kk ws hw))
  refine j_iload hX dL_law_694 rfl ?_
  refine j_sipush hX (v := -1000) (by decide) dL_law_696 ?_
  refine j_icmp_ge hX (tgt := 720) dL_law_699 (by decide) (fun _ => hend ws hW) (fun hge => ?_)
  refine j_iload hX dL_law_702 rfl ?_
  refine j_if_eq hX (tgt := 720) dL_law_704 (by decide) (fun _ => hend ws hW) (fun hwat => ?_)
  rcases hz with h0 | h0 | ⟨V, M, os, o, ad, gs, V', M', t, c, hS, hL, hg, rfl, rfl, hb⟩
  · exact absurd (Int32.not_lt.mp h0) hge
  · exact absurd h0 hwat
  · refine j_aload_n hX dL_law_707 rfl ?_
    refine j_iload_n hX dL_law_708 rfl ?_
    refine j_callHPa hX hH (nA := 2) (As := [.ref (ad 0), .int (nI m)]) (st := []) (wa := [(bg, .inl (G.2.2 0, 6, .inl gs))]) (w0 := (wC G ad V M (enO ad o) (wO ad os o))) dL_law_709 (c_L_sum G hG ad (rx_KS hS.1) (st_id hS _) (st_ZS hS) rfl rfl rfl rfl rfl rfl m hS.1.1.2.1.2.2) gL_law_L_sum rfl (by decide +kernel) (by decide) (Nat.le_of_ble_eq_true rfl) rfl (Nat.le_of_ble_eq_true rfl) ⟨by omega, by omega⟩ rfl rfl (fun rv709 w709 hp709 => ?_)
    obtain ⟨rfl, rfl⟩ := hp709
    show jW G X (k + 140) (n + 840) 712 [some (.ref b), some (.ref (ad 0)), some (.ref bg), some (.int (nI m)), some (.int sS), some (.int kI), some (.int vI), some (.int (nI wn)), some (.int wat), some (.long bef), none, some (.int its), none, none, none, none, none, none] [.long (sumF os o (cb (M' 5) m) m (V, M))] ((bg, .inl (G.2.2 0, 6, .inl gs)) :: (wC G ad V M (enO ad o) (wO ad os o)))
    refine j_lload hX dL_law_712 rfl ?_
    refine j_lcmp hX dL_law_714 ?_
    refine j_if_eq_t hX (tgt := 720) dL_law_715 (by decide) (by rw [hb]; exact lg_self _) ?_
    refine jW.drop (ls' := [some (.ref b), some (.ref (ad 0)), some (.ref bg), some (.int (nI m)), some (.int sS), some (.int kI), none, none, none, none, none, none, none, none, none, none, none, none]) ⟨Or.inr rfl, Or.inr rfl, Or.inr rfl, Or.inr rfl, Or.inr rfl, Or.inr rfl, Or.inl rfl, Or.inl rfl, Or.inl rfl, Or.inl rfl, Or.inr rfl, Or.inl rfl, Or.inr rfl, Or.inr rfl, Or.inr rfl, Or.inr rfl, Or.inr rfl, Or.inr rfl, trivial⟩ ?_
    exact kk _ ⟨V, M, os, o, ad, gs, V', M', t, c, hS.1, hL, hg, rfl, rfl⟩

set_option maxHeartbeats 4000000 in
set_option maxRecDepth 100000 in
theorem lc_watch {G : jG} {X : jX} {k n : Nat} {post : Option Value → va_W → Prop} (hX : jOK G X RL cL_law wsL_law (some .boolean) 18 2048 603079 7285465 post) (hH : jTL X) (hG : G.1.stackTraces = false) (hk : k + 140 ≤ 603079 ∧ n + 840 ≤ 7285465) {b bg : Nat} {sS kI vI wat : Int32} {wn : Nat} {gs : Nat → Int32} {V : Nat → Int32} {M : Nat → Nat → Int32} {os : Nat → ofr} {V' : Nat → Int32} {M' : Nat → Nat → Int32} {t : Int64} {a o c : Nat} (ad : Nat → Nat) (h : RX V M os V' M' t a o c) (hL : LE9 V) (kk : ∀ (W : Nat → Int32) (N : Nat → Nat → Int32) (W' : Nat → Int32) (N' : Nat → Nat → Int32) (bef : Int64), RX W N os W' N' t a o c → LE9 W → (wat = 0 ∨ (ST W N os W' N' t a o c ∧ bef = sumF os o (cb (N' 5) a) a (W, N))) → jW G X (k + 140) (n + 840) 92 [some (.ref b), some (.ref (ad 0)), some (.ref bg), some (.int (nI a)), some (.int sS), some (.int kI), some (.int vI), some (.int (nI wn)), some (.int wat), some (.long bef), none, some (.int 0), none, none, none, none, none, none] [] ((bg, .inl (G.2.2 0, 6, .inl gs)) :: (wC G ad W N (enO ad o) (wO ad os o)))) : jW G X k n 73 [some (.ref b), some (.ref (ad 0)), some (.ref bg), some (.int (nI a)), some (.int sS), some (.int kI), some (.int vI), some (.int (nI wn)), some (.int wat), none, none, none, none, none, none, none, none, none] [] ((bg, .inl (G.2.2 0, 6, .inl gs)) :: (wC G ad V M (enO ad o) (wO ad os o))) := by
  refine j_iload hX dL_law_73 rfl ?_
  refine j_if_eq hX (tgt := 86) dL_law_75 (by decide) (fun hw0 => ?_) (fun hw0 => ?_)
  · refine j_lconst hX (v := 0) rfl dL_law_86 ?_
    refine j_lstore hX (ls' := [some (.ref b), some (.ref (ad 0)), some (.ref bg), some (.int (nI a)), some (.int sS), some (.int kI), some (.int vI), some (.int (nI wn)), some (.int wat), some (.long 0), none, none, none, none, none, none, none, none]) dL_law_87 (Nat.le_of_ble_eq_true rfl) rfl rfl ?_
    refine j_iconst hX (v := 0) (by decide) dL_law_89 ?_
    refine j_istore hX (ls' := [some (.ref b), some (.ref (ad 0)), some (.ref bg), some (.int (nI a)), some (.int sS), some (.int kI), some (.int vI), some (.int (nI wn)), some (.int wat), some (.long 0), none, some (.int 0), none, none, none, none, none, none]) dL_law_90 (Nat.le_of_ble_eq_true rfl) rfl rfl ?_
    refine jW.widen (k' := k + 140) (n' := n + 840) (by omega) (by omega) ?_
    exact kk V M V' M' 0 h hL (Or.inl hw0)
  · obtain ⟨g1, g2, -⟩ := st_find h
    obtain ⟨q0, q2, q3, q4, q11, q12, q13, q14⟩ := st_V os o (cb (M' 5) a) (V, M)
    have hZ9 := st_ZS g1
    rw [g2] at hZ9
    refine j_aload_n hX dL_law_78 rfl ?_
    refine j_iload_n hX dL_law_79 rfl ?_
    refine j_callHPa hX hH (nA := 2) (As := [.ref (ad 0), .int (nI a)]) (st := []) (wa := [(bg, .inl (G.2.2 0, 6, .inl gs))]) (w0 := (wC G ad V M (enO ad o) (wO ad os o))) dL_law_80 (c_L_sum G hG ad (rx_KS h) rfl hZ9 q2 q4 q12 q13 q14 (st_M4 h) a h.1.2.1.2.2) gL_law_L_sum rfl (by decide +kernel) (by decide) (Nat.le_of_ble_eq_true rfl) rfl (Nat.le_of_ble_eq_true rfl) ⟨by omega, by omega⟩ rfl rfl (fun rv80 w80 hp80 => ?_)
    obtain ⟨rfl, rfl⟩ := hp80
    show jW G X (k + 140) (n + 840) 83 [some (.ref b), some (.ref (ad 0)), some (.ref bg), some (.int (nI a)), some (.int sS), some (.int kI), some (.int vI), some (.int (nI wn)), some (.int wat), none, none, none, none, none, none, none, none, none] [.long (sumF os o (cb (M' 5) a) a ((findF os o (cb (M' 5) a) (V, M)).1, (findF os o (cb (M' 5) a) (V, M)).2))] ((bg, .inl (G.2.2 0, 6, .inl gs)) :: (wC G ad ((findF os o (cb (M' 5) a) (V, M)).1) ((findF os o (cb (M' 5) a) (V, M)).2) (enO ad o) (wO ad os o)))
    refine j_goto hX (tgt := 87) dL_law_83 (by decide) ?_
    refine j_lstore hX (ls' := [some (.ref b), some (.ref (ad 0)), some (.ref bg), some (.int (nI a)), some (.int sS), some (.int kI), some (.int vI), some (.int (nI wn)), some (.int wat), some (.long (sumF os o (cb (M' 5) a) a ((findF os o (cb (M' 5) a) (V, M)).1, (findF os o (cb (M' 5) a) (V, M)).2))), none, none, none, none, none, none, none, none]) dL_law_87 (Nat.le_of_ble_eq_true rfl) rfl rfl ?_
    refine j_iconst hX (v := 0) (by decide) dL_law_89 ?_
    refine j_istore hX (ls' := [some (.ref b), some (.ref (ad 0)), some (.ref bg), some (.int (nI a)), some (.int sS), some (.int kI), some (.int vI), some (.int (nI wn)), some (.int wat), some (.long (sumF os o (cb (M' 5) a) a ((findF os o (cb (M' 5) a) (V, M)).1, (findF os o (cb (M' 5) a) (V, M)).2))), none, some (.int 0), none, none, none, none, none, none]) dL_law_90 (Nat.le_of_ble_eq_true rfl) rfl rfl ?_
    exact kk _ _ _ _ _ g1.1 (LE9_find hL _) (Or.inr ⟨g1, by rw [g2]⟩)

set_option maxHeartbeats 4000000 in
set_option maxRecDepth 100000 in
theorem lc_disp {G : jG} {X : jX} {k n : Nat} {post : Option Value → va_W → Prop} (hX : jOK G X RL cL_law wsL_law (some .boolean) 18 2048 603079 7285465 post) (hH : jTL X) (hG : G.1.stackTraces = false) (hk : k + 440 ≤ 603079 ∧ n + 3000 ≤ 7285465) {b bg : Nat} {sS kI vI wat : Int32} {bef : Int64} {wn : Nat} (hwn : wn < 2 ^ 30) {gs : Nat → Int32} {V : Nat → Int32} {M : Nat → Nat → Int32} {os : Nat → ofr} {V' : Nat → Int32} {M' : Nat → Nat → Int32} {t : Int64} {a o c : Nat} (ad : Nat → Nat) (h : RX V M os V' M' t a o c) (hL : LE9 V) (hg : ∀ j, j < o → gs j = (os j).2 1) (hZ : wat = 0 ∨ (ST V M os V' M' t a o c ∧ bef = sumF os o (cb (M' 5) a) a (V, M))) {q : kO} (hq : kX q X) (kk : ∀ (m : Nat) (its : Int32) (ws : va_W), HW G (ad 0) bg m ws → (¬ its < -1000 ∨ wat = 0 ∨ HZ G (ad 0) bg m bef ws) → jW G X (k + 300) (n + 2000) 694 [some (.ref b), some (.ref (ad 0)), some (.ref bg), some (.int (nI m)), some (.int sS), some (.int kI), some (.int vI), some (.int (nI wn)), some (.int wat), some (.long bef), none, some (.int its), none, none, none, none, none, none] [] ws) (kd : Int32) : jW G X k n 120 [some (.ref b), some (.ref (ad 0)), some (.ref bg), some (.int (nI a)), some (.int sS), some (.int kI), some (.int vI), some (.int (nI wn)), some (.int wat), some (.long bef), none, some (.int 0), some (.int kd), none, none, none, none, none] [] ((bg, .inl (G.2.2 0, 6, .inl gs)) :: (wC G ad V M (enO ad o) (wO ad os o))) := by
  have hoff : jW G X k n 241 [some (.ref b), some (.ref (ad 0)), some (.ref bg), some (.int (nI a)), some (.int sS), some (.int kI), some (.int vI), some (.int (nI wn)), some (.int wat), some (.long bef), none, some (.int 0), some (.int kd), none, none, none, none, none] [] ((bg, .inl (G.2.2 0, 6, .inl gs)) :: (wC G ad V M (enO ad o) (wO ad os o))) := by
    refine j_ldcS hX hq rfl dL_law_241 ?_
    refine j_iload hX dL_law_243 rfl ?_
    refine j_iconst hX (v := 4) (by decide) dL_law_245 ?_
    refine j_irem hX dL_law_246 (by decide) ?_
    refine jW.top (y := nI (wn % 4)) (show rm9 (nI wn) (nI 4) = _ from rm9_nI (by omega) (by decide) (by decide)) ?_
    have hi4 : wn % 4 < 4 := Nat.mod_lt _ (by decide)
    refine j_callKV hX hq (nA := 1) (As := [.int (nI (wn % 4))]) (st := []) dL_law_247 (c_J0_charAt q G (wn % 4) hi4) gL_law_J0_charAt_5068e rfl (by decide +kernel) (by decide) (Nat.le_of_ble_eq_true rfl) rfl (Nat.le_of_ble_eq_true rfl) rfl ⟨by omega, by omega⟩ (fun rv hp => ?_)
    subst hp
    refine j_istore hX (ls' := [some (.ref b), some (.ref (ad 0)), some (.ref bg), some (.int (nI a)), some (.int sS), some (.int kI), some (.int vI), some (.int (nI wn)), some (.int wat), some (.long bef), none, some (.int 0), some (.int kd), some (.int (bP (wn % 4))), none, none, none, none]) dL_law_250 (Nat.le_of_ble_eq_true rfl) rfl rfl ?_
    rcases bP_cases hi4 with ⟨-, e⟩ | ⟨-, e⟩ | ⟨-, e⟩ | ⟨-, e⟩
    · exact jW.locals (ls' := [some (.ref b), some (.ref (ad 0)), some (.ref bg), some (.int (nI a)), some (.int sS), some (.int kI), some (.int vI), some (.int (nI wn)), some (.int wat), some (.long bef), none, some (.int 0), some (.int kd), some (.int 112), none, none, none, none]) (by rw [e]) (lc_off_p hX hH hG hk hwn ad h hL hg hZ kk)
    · exact jW.locals (ls' := [some (.ref b), some (.ref (ad 0)), some (.ref bg), some (.int (nI a)), some (.int sS), some (.int kI), some (.int vI), some (.int (nI wn)), some (.int wat), some (.long bef), none, some (.int 0), some (.int kd), some (.int 102), none, none, none, none]) (by rw [e]) (lc_off_f hX hH hG hk hwn ad h hL hg hZ kk)
    · exact jW.locals (ls' := [some (.ref b), some (.ref (ad 0)), some (.ref bg), some (.int (nI a)), some (.int sS), some (.int kI), some (.int vI), some (.int (nI wn)), some (.int wat), some (.long bef), none, some (.int 0), some (.int kd), some (.int 98), none, none, none, none]) (by rw [e]) (lc_off_b hX hH hG hk hwn ad h hL hg hZ kk)
    · exact jW.locals (ls' := [some (.ref b), some (.ref (ad 0)), some (.ref bg), some (.int (nI a)), some (.int sS), some (.int kI), some (.int vI), some (.int (nI wn)), some (.int wat), some (.long bef), none, some (.int 0), some (.int kd), some (.int 116), none, none, none, none]) (by rw [e]) (lc_off_t hX hH hG hk hwn ad h hL hg hZ kk)
  refine j_iload hX dL_law_120 rfl ?_
  refine j_iconst hX (v := 5) (by decide) dL_law_122 ?_
  refine j_icmp_ge hX (tgt := 210) dL_law_123 (by decide) (fun _ => ?_) (fun _ => lc_put hX hH hG hk hwn ad h hL hg hZ kk)
  refine j_iload hX dL_law_210 rfl ?_
  refine j_bipush hX (v := 6) (by decide) dL_law_212 ?_
  refine j_icmp_ge hX (tgt := 234) dL_law_214 (by decide) (fun _ => ?_) (fun _ => lc_out hX hH hG hk hwn ad h hL hg hZ kk)
  refine j_iload hX dL_law_234 rfl ?_
  refine j_bipush hX (v := 9) (by decide) dL_law_236 ?_
  refine j_icmp_ge hX (tgt := 474) dL_law_238 (by decide) (fun _ => ?_) (fun _ => hoff)
  refine j_iload hX dL_law_474 rfl ?_
  refine j_bipush hX (v := 10) (by decide) dL_law_476 ?_
  refine j_icmp_ge hX (tgt := 494) dL_law_478 (by decide) (fun _ => ?_) (fun _ => lc_cust hX hH hG hk hwn ad h hL hg hZ kk)
  refine j_iload hX dL_law_494 rfl ?_
  refine j_bipush hX (v := 12) (by decide) dL_law_496 ?_
  refine j_icmp_ge hX (tgt := 616) dL_law_498 (by decide) (fun _ => ?_) (fun _ => lc_sell hX hH hG hk hwn ad h hL hg hZ kk)
  refine j_iload hX dL_law_616 rfl ?_
  refine j_bipush hX (v := 13) (by decide) dL_law_618 ?_
  refine j_icmp_ge hX (tgt := 683) dL_law_620 (by decide) (fun _ => ?_) (fun _ => lc_back hX hH hG hk hwn ad h hL hg hZ kk)
  exact lc_snd hX hH hG hk hwn ad h hL hg hZ kk

set_option maxHeartbeats 4000000 in
set_option maxRecDepth 100000 in
theorem lc_loop {G : jG} {X : jX} {post : Option Value → va_W → Prop} (hX : jOK G X RL cL_law wsL_law (some .boolean) 18 2048 603079 7285465 post) (hH : jTL X) (hG : G.1.stackTraces = false) {q : kO} (hq : kX q X) (hq2 : q.2.1 < 2 ^ 31) {bg bx S k0 n0 : Nat} (hS50 : S < 50) (hk0 : k0 + 600 * S ≤ 603079 ∧ n0 + 4000 * S ≤ 7285465) (kk : ∀ (m : Nat) (ws : va_W), HW G bx bg m ws → jW G X (k0 + 600 * S) (n0 + 4000 * S) 726 [some (.ref q.1), some (.ref bx), some (.ref bg), some (.int (nI m)), none, none, none, none, none, none, none, none, none, none, none, none, none, none] [] ws) : ∀ z j : Nat, j + z = S → ∀ (m : Nat) (ws : va_W), HW G bx bg m ws → jW G X (k0 + 600 * j) (n0 + 4000 * j) 30 [some (.ref q.1), some (.ref bx), some (.ref bg), some (.int (nI m)), some (.int (nI S)), some (.int (nI j)), none, none, none, none, none, none, none, none, none, none, none, none] [] ws := by
  intro z
  induction z with
  | zero =>
    intro j hj m ws hW
    have hin : j = S := by omega
    subst hin
    refine j_iload hX dL_law_30 rfl ?_
    refine j_iload hX dL_law_32 rfl ?_
    refine j_icmp_ge_t hX (tgt := 726) dL_law_34 (by decide) (nI_le (Nat.le_refl _) (by omega)) ?_
    refine jW.drop (ls' := [some (.ref q.1), some (.ref bx), some (.ref bg), some (.int (nI m)), none, none, none, none, none, none, none, none, none, none, none, none, none, none]) ⟨Or.inr rfl, Or.inr rfl, Or.inr rfl, Or.inr rfl, Or.inl rfl, Or.inl rfl, Or.inr rfl, Or.inr rfl, Or.inr rfl, Or.inr rfl, Or.inr rfl, Or.inr rfl, Or.inr rfl, Or.inr rfl, Or.inr rfl, Or.inr rfl, Or.inr rfl, Or.inr rfl, trivial⟩ ?_
    exact kk m ws hW
  | succ z ih =>
    intro j hj m ws hW
    have hin : j < S := by omega
    refine j_iload hX dL_law_30 rfl ?_
    refine j_iload hX dL_law_32 rfl ?_
    refine j_icmp_ge_f hX (tgt := 726) dL_law_34 (by decide) (nI_ge hin (by omega)) ?_
    refine j_aload_n hX dL_law_37 rfl ?_
    refine j_iconst hX (v := 1) (by decide) dL_law_38 ?_
    refine j_iload hX dL_law_39 rfl ?_
    refine j_iadd hX dL_law_41 ?_
    refine jW.top (y := nI (j + 1)) ((Int32.add_comm _ _).trans (nI_1 j)) ?_
    refine j_callKS hX hq (nA := 2) (As := [.ref q.1, .int (nI (j + 1))]) (st := []) dL_law_42 (c_L_at q G (j + 1) (by omega) hq2) gL_law_L_at rfl (by decide +kernel) (by decide) (Nat.le_of_ble_eq_true rfl) rfl (Nat.le_of_ble_eq_true rfl) rfl ⟨by omega, by omega⟩ (fun rv hp => ?_)
    obtain ⟨v0, rfl⟩ := hp
    show jW G X (k0 + 600 * j) (n0 + 4000 * j) 45 [some (.ref q.1), some (.ref bx), some (.ref bg), some (.int (nI m)), some (.int (nI S)), some (.int (nI j)), none, none, none, none, none, none, none, none, none, none, none, none] [.int v0] ws
    refine j_ldc hX (v := 100000000) dL_law_45 (by decide +kernel) ?_
    obtain ⟨v9, hv9, e9⟩ := some9_lt (v := v0) (n := 100000000) (by decide) (by decide)
    refine j_dS hX (nA := 2) (As := [.int v0, .int 100000000]) (st := []) (st' := [.int (nI v9)]) dL_law_47 (c_L_some G v0 100000000 (by decide)) gL_law_L_some rfl (by decide +kernel) (by decide) (Nat.le_of_ble_eq_true rfl) rfl (Nat.le_of_ble_eq_true rfl) rfl ⟨by omega, by omega⟩ (show [Value.int (some9 v0 (nI 100000000))] = _ by rw [e9]) ?_
    refine j_istore hX (ls' := [some (.ref q.1), some (.ref bx), some (.ref bg), some (.int (nI m)), some (.int (nI S)), some (.int (nI j)), some (.int (nI v9)), none, none, none, none, none, none, none, none, none, none, none]) dL_law_50 (Nat.le_of_ble_eq_true rfl) rfl rfl ?_
    refine j_iload hX dL_law_52 rfl ?_
    refine j_bipush hX (v := 16) (by decide) dL_law_54 ?_
    refine j_idiv hX dL_law_56 (by decide) ?_
    refine jW.top (y := nI (v9 / 16)) (show nI v9 / nI 16 = _ from nI_div (by omega) (by decide) (by decide)) ?_
    refine j_istore hX (ls' := [some (.ref q.1), some (.ref bx), some (.ref bg), some (.int (nI m)), some (.int (nI S)), some (.int (nI j)), some (.int (nI v9)), some (.int (nI (v9 / 16))), none, none, none, none, none, none, none, none, none, none]) dL_law_57 (Nat.le_of_ble_eq_true rfl) rfl rfl ?_
    refine j_iload hX dL_law_59 rfl ?_
    refine j_iconst hX (v := 4) (by decide) dL_law_61 ?_
    refine j_irem hX dL_law_62 (by decide) ?_
    have h71 : ∀ wat : Int32, jW G X (k0 + 600 * j) (n0 + 4000 * j) 71 [some (.ref q.1), some (.ref bx), some (.ref bg), some (.int (nI m)), some (.int (nI S)), some (.int (nI j)), some (.int (nI v9)), some (.int (nI (v9 / 16))), none, none, none, none, none, none, none, none, none, none] [.int wat] ws := by
      intro wat
      refine j_istore hX (ls' := [some (.ref q.1), some (.ref bx), some (.ref bg), some (.int (nI m)), some (.int (nI S)), some (.int (nI j)), some (.int (nI v9)), some (.int (nI (v9 / 16))), some (.int wat), none, none, none, none, none, none, none, none, none]) dL_law_71 (Nat.le_of_ble_eq_true rfl) rfl rfl ?_
      obtain ⟨V, M, os, o, ad, gs, V', M', t, c, h, hL, hg, hbx, rfl⟩ := hW
      subst hbx
      refine lc_watch hX hH hG (by omega) ad h hL (fun W N W' N' bef hR hLW hZ => ?_)
      have hd : ∀ kd : Int32, jW G X (k0 + 600 * j + 140) (n0 + 4000 * j + 840) 118 [some (.ref q.1), some (.ref (ad 0)), some (.ref bg), some (.int (nI m)), some (.int (nI S)), some (.int (nI j)), some (.int (nI v9)), some (.int (nI (v9 / 16))), some (.int wat), some (.long bef), none, some (.int 0), none, none, none, none, none, none] [.int kd] ((bg, .inl (G.2.2 0, 6, .inl gs)) :: (wC G ad W N (enO ad o) (wO ad os o))) := by
        intro kd
        refine j_istore hX (ls' := [some (.ref q.1), some (.ref (ad 0)), some (.ref bg), some (.int (nI m)), some (.int (nI S)), some (.int (nI j)), some (.int (nI v9)), some (.int (nI (v9 / 16))), some (.int wat), some (.long bef), none, some (.int 0), some (.int kd), none, none, none, none, none]) dL_law_118 (Nat.le_of_ble_eq_true rfl) rfl rfl ?_
        refine lc_disp hX hH hG (by omega) (show v9 / 16 < 2 ^ 30 by omega) ad hR hLW hg hZ hq (fun m2 its ws2 hW2 hz2 => ?_) kd
        refine lc_tail hX hH hG (by omega) hW2 hz2 (fun ws3 hW3 => ?_)
        refine j_iinc hX (v := nI (j + 1)) (ls' := [some (.ref q.1), some (.ref (ad 0)), some (.ref bg), some (.int (nI m2)), some (.int (nI S)), some (.int (nI (j + 1))), none, none, none, none, none, none, none, none, none, none, none, none]) dL_law_720 rfl (j_inc1 _) rfl rfl ?_
        refine j_goto hX (tgt := 30) dL_law_723 (by decide) ?_
        refine jW.widen (k' := k0 + 600 * (j + 1)) (n' := n0 + 4000 * (j + 1)) (by omega) (by omega) ?_
        exact ih (j + 1) (by omega) m2 ws3 hW3
      refine j_iload hX dL_law_92 rfl ?_
      refine j_iconst hX (v := 2) (by decide) dL_law_94 ?_
      refine j_icmp_ge hX (tgt := 103) dL_law_95 (by decide) (fun _ => ?_) (fun _ => ?_)
      · refine j_iload hX dL_law_103 rfl ?_
        refine j_iconst hX (v := 5) (by decide) dL_law_105 ?_
        refine j_icmp_ge hX (tgt := 113) dL_law_106 (by decide) (fun _ => ?_) (fun _ => ?_)
        · refine j_iload hX dL_law_113 rfl ?_
          refine j_bipush hX (v := 16) (by decide) dL_law_115 ?_
          refine j_irem hX dL_law_117 (by decide) ?_
          exact hd _
        · refine j_iconst hX (v := 0) (by decide) dL_law_109 ?_
          refine j_goto hX (tgt := 118) dL_law_110 (by decide) ?_
          exact hd _
      · refine j_bipush hX (v := 6) (by decide) dL_law_98 ?_
        refine j_goto hX (tgt := 118) dL_law_100 (by decide) ?_
        exact hd _
    refine j_if_ne hX (tgt := 70) dL_law_63 (by decide) (fun _ => ?_) (fun _ => ?_)
    · refine j_iconst hX (v := 0) (by decide) dL_law_70 ?_
      exact h71 0
    · refine j_iconst hX (v := 1) (by decide) dL_law_66 ?_
      refine j_goto hX (tgt := 71) dL_law_67 (by decide) ?_
      exact h71 1
