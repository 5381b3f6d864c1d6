/-! THE LAW'S END: what must be refused, the shares, the sum again. -/
theorem zAt_60 (f : Nat → Int32) : zAt f 60 = 0 := by
  unfold zAt
  rw [if_neg (by decide), if_pos (by decide)]
theorem zAt_neg (f : Nat → Int32) : zAt f (-1) = 0 := by
  unfold zAt
  rw [if_pos (by decide)]
theorem xback_60 (M : Nat → Nat → Int32) : xback M 60 = some "java/util/NoSuchElementException" := if_pos (zAt_60 _)
theorem xsold_neg (M : Nat → Nat → Int32) : xsold M (-1) = some "java/util/NoSuchElementException" := if_pos (zAt_neg _)
theorem xoff_neg (V : Nat → Int32) : xoff V (-1) = some eIOB := by
  unfold xoff
  rw [if_pos (show (-1 : Int32) < 0 by decide)]
  exact if_pos rfl
theorem xoff_ge {V : Nat → Int32} {o z : Nat} (hso : V 4 = nI o) (h : o ≤ z) (hz : z < 2 ^ 31) : xoff V (nI z) = some eIOB := by
  unfold xoff
  rw [if_neg (nI_pos hz), if_pos (show V 4 ≤ nI z by rw [hso]; exact nI_le h hz)]
  exact if_pos rfl
theorem st_neg {V : Nat → Int32} {M : Nat → Nat → Int32} {os : Nat → ofr} {V' : Nat → Int32} {M' : Nat → Nat → Int32} {t : Int64} {a o c : Nat} (h : RX V M os V' M' t a o c) : xpos M (-1) (cb (M' 5) a) = some "java/util/NoSuchElementException" := by
  have ha := h.1.2.1.2.2
  rcases pos_two h (-1) with ⟨-, hx⟩ | ⟨-, -, y, hy, e, -⟩
  · exact hx
  · exact absurd e.symm (nI_neg1 (by omega))

set_option maxHeartbeats 4000000 in
set_option maxRecDepth 100000 in
theorem lc_end {G : jG} {X : jX} {k n : Nat} {post : Option Value → va_W → Prop} (hX : jOK G X RL cL_law wsL_law (some .boolean) 18 2048 603079 7285465 post) (hH : jTL X) (hG : G.1.stackTraces = false) (hk : k + 700 ≤ 603079 ∧ n + 5000 ≤ 7285465) (hE : ∀ (k n : Nat) (ls : List (Option Value)) (ws : va_W), k ≤ 603079 → n ≤ 7285465 → jW G X k n 1262 ls [.int 1] ws) {b bg bx m : Nat} {ws : va_W} (hW : HW G bx bg m ws) : jW G X k n 726 [some (.ref b), some (.ref bx), some (.ref bg), some (.int (nI m)), none, none, none, none, none, none, none, none, none, none, none, none, none, none] [] ws := by
  obtain ⟨V, M, os, o, ad, gs, V', M', t, c, h, hL, hg, hbx, rfl⟩ := hW
  subst hbx
  have ha := h.1.2.1.2.2
  refine j_aload_n hX dL_law_726 rfl ?_
  refine j_iload_n hX dL_law_727 rfl ?_
  refine j_aload_n hX dL_law_728 rfl ?_
  refine j_callHPa hX hH (nA := 3) (As := [.ref (ad 0), .int (nI m), .ref bg]) (st := []) (wa := []) (w0 := ((bg, .inl (G.2.2 0, 6, .inl gs)) :: (wC G ad V M (enO ad o) (wO ad os o)))) dL_law_729 (c_L_isSound G hG ad h hL hg) gL_law_L_isSound rfl (by decide +kernel) (by decide) (Nat.le_of_ble_eq_true rfl) rfl (Nat.le_of_ble_eq_true rfl) ⟨by omega, by omega⟩ rfl rfl (fun rv729 w729 hp729 => ?_)
  obtain ⟨rfl, W, N, W', N', t', uu, uf, rfl, hS, hLW⟩ := hp729
  show jW G X (k + 220) (n + 1320) 732 [some (.ref b), some (.ref (ad 0)), some (.ref bg), some (.int (nI m)), none, none, none, none, none, none, none, none, none, none, none, none, none, none] [.int 1] ((uu, .inl (G.2.2 0, 4, .inl uf)) :: (bg, .inl (G.2.2 0, 6, .inl gs)) :: (wC G ad W N (enO ad o) (wO ad os o)))
  refine jW.fewer (ws' := (wC G ad W N (enO ad o) (wO ad os o))) (List.Sublist.cons _ (List.Sublist.cons _ (List.Sublist.refl _))) ?_
  refine j_if_ne_t hX (tgt := 737) dL_law_732 (by decide) (by decide) ?_
  refine j_aload_n hX dL_law_737 rfl ?_
  refine j_iload_n hX dL_law_738 rfl ?_
  refine j_callHPa hX hH (nA := 2) (As := [.ref (ad 0), .int (nI m)]) (st := []) (wa := []) (w0 := (wC G ad W N (enO ad o) (wO ad os o))) dL_law_739 (c_L_sum G hG ad (rx_KS hS.1) (st_id hS _) (st_ZS hS) rfl rfl rfl rfl rfl rfl m hS.1.1.2.1.2.2) gL_law_L_sum rfl (by decide +kernel) (by decide) (Nat.le_of_ble_eq_true rfl) rfl (Nat.le_of_ble_eq_true rfl) ⟨by omega, by omega⟩ rfl rfl (fun rv739 w739 hp739 => ?_)
  obtain ⟨rfl, rfl⟩ := hp739
  show jW G X (k + 220 + 140) (n + 1320 + 840) 742 [some (.ref b), some (.ref (ad 0)), some (.ref bg), some (.int (nI m)), none, none, none, none, none, none, none, none, none, none, none, none, none, none] [.long (sumF os o (cb (N' 5) m) m (W, N))] (wC G ad W N (enO ad o) (wO ad os o))
  refine j_lstore hX (ls' := [some (.ref b), some (.ref (ad 0)), some (.ref bg), some (.int (nI m)), none, some (.long (sumF os o (cb (N' 5) m) m (W, N))), none, none, none, none, none, none, none, none, none, none, none, none]) dL_law_742 (Nat.le_of_ble_eq_true rfl) rfl rfl ?_
  have hZ := st_ZS hS
  obtain ⟨hsz, hn, hso, ho6, hos⟩ := rx_KS hS.1
  obtain ⟨p9, e9, hp9, he9, hep, hp20⟩ := id hLW
  refine j_iconst hX (v := 4) (by decide) dL_law_744 ?_
  refine j_newai hX (N := 4) dL_law_745 (by decide +kernel) (by decide) (by decide +kernel) (by decide) ⟨by omega, by omega⟩ (fun lo => ?_)
  refine jW.pm (ws' := ((lo, .inl (G.2.2 0, 4, .inl (fun _ => 0))) :: (wC G ad W N (enO ad o) (wO ad os o)))) (List.perm_append_singleton _ _) ?_
  refine j_dup hX dL_law_747 rfl ?_
  refine j_iconst hX (v := 0) (by decide) dL_law_748 ?_
  refine j_iconst hX (v := 0) (by decide) dL_law_749 ?_
  refine j_iast hX (ws' := ((lo, .inl (G.2.2 0, 4, .inl (upd (fun _ => 0) 0 0))) :: (wC G ad W N (enO ad o) (wO ad os o)))) dL_law_750 0 rfl (by unfold vp_in; decide +kernel) rfl ?_
  refine j_dup hX dL_law_751 rfl ?_
  refine j_iconst hX (v := 1) (by decide) dL_law_752 ?_
  refine j_iconst hX (v := 0) (by decide) dL_law_753 ?_
  refine j_iast hX (ws' := ((lo, .inl (G.2.2 0, 4, .inl (upd (upd (fun _ => 0) 0 0) 1 0))) :: (wC G ad W N (enO ad o) (wO ad os o)))) dL_law_754 0 rfl (by unfold vp_in; decide +kernel) rfl ?_
  refine j_dup hX dL_law_755 rfl ?_
  refine j_iconst hX (v := 2) (by decide) dL_law_756 ?_
  refine j_iconst hX (v := -1) (by decide) dL_law_757 ?_
  refine j_iast hX (ws' := ((lo, .inl (G.2.2 0, 4, .inl (upd (upd (upd (fun _ => 0) 0 0) 1 0) 2 (-1)))) :: (wC G ad W N (enO ad o) (wO ad os o)))) dL_law_758 0 rfl (by unfold vp_in; decide +kernel) rfl ?_
  refine j_dup hX dL_law_759 rfl ?_
  refine j_iconst hX (v := 3) (by decide) dL_law_760 ?_
  refine j_iconst hX (v := 0) (by decide) dL_law_761 ?_
  refine j_iast hX (ws' := ((lo, .inl (G.2.2 0, 4, .inl (upd (upd (upd (upd (fun _ => 0) 0 0) 1 0) 2 (-1)) 3 0))) :: (wC G ad W N (enO ad o) (wO ad os o)))) dL_law_762 0 rfl (by unfold vp_in; decide +kernel) rfl ?_
  refine j_astore hX (ls' := [some (.ref b), some (.ref (ad 0)), some (.ref bg), some (.int (nI m)), none, some (.long (sumF os o (cb (N' 5) m) m (W, N))), none, some (.ref lo), none, none, none, none, none, none, none, none, none, none]) dL_law_763 (Nat.le_of_ble_eq_true rfl) rfl rfl ?_
  refine j_iconst hX (v := 4) (by decide) dL_law_765 ?_
  refine j_newai hX (N := 4) dL_law_766 (by decide +kernel) (by decide) (by decide +kernel) (by decide) ⟨by omega, by omega⟩ (fun hi => ?_)
  refine jW.pm (ws' := ((hi, .inl (G.2.2 0, 4, .inl (fun _ => 0))) :: (lo, .inl (G.2.2 0, 4, .inl (upd (upd (upd (upd (fun _ => 0) 0 0) 1 0) 2 (-1)) 3 0))) :: (wC G ad W N (enO ad o) (wO ad os o)))) (List.perm_append_singleton _ _) ?_
  refine j_dup hX dL_law_768 rfl ?_
  refine j_iconst hX (v := 0) (by decide) dL_law_769 ?_
  refine j_bipush hX (v := 10) (by decide) dL_law_770 ?_
  refine j_iast hX (ws' := ((hi, .inl (G.2.2 0, 4, .inl (upd (fun _ => 0) 0 10))) :: (lo, .inl (G.2.2 0, 4, .inl (upd (upd (upd (upd (fun _ => 0) 0 0) 1 0) 2 (-1)) 3 0))) :: (wC G ad W N (enO ad o) (wO ad os o)))) dL_law_772 0 rfl (by unfold vp_in; decide +kernel) rfl ?_
  refine j_dup hX dL_law_773 rfl ?_
  refine j_iconst hX (v := 1) (by decide) dL_law_774 ?_
  refine j_bipush hX (v := 6) (by decide) dL_law_775 ?_
  refine j_iast hX (ws' := ((hi, .inl (G.2.2 0, 4, .inl (upd (upd (fun _ => 0) 0 10) 1 6))) :: (lo, .inl (G.2.2 0, 4, .inl (upd (upd (upd (upd (fun _ => 0) 0 0) 1 0) 2 (-1)) 3 0))) :: (wC G ad W N (enO ad o) (wO ad os o)))) dL_law_777 0 rfl (by unfold vp_in; decide +kernel) rfl ?_
  refine j_dup hX dL_law_778 rfl ?_
  refine j_iconst hX (v := 2) (by decide) dL_law_779 ?_
  refine j_bipush hX (v := -2) (by decide) dL_law_780 ?_
  refine j_iast hX (ws' := ((hi, .inl (G.2.2 0, 4, .inl (upd (upd (upd (fun _ => 0) 0 10) 1 6) 2 (-2)))) :: (lo, .inl (G.2.2 0, 4, .inl (upd (upd (upd (upd (fun _ => 0) 0 0) 1 0) 2 (-1)) 3 0))) :: (wC G ad W N (enO ad o) (wO ad os o)))) dL_law_782 0 rfl (by unfold vp_in; decide +kernel) rfl ?_
  refine j_dup hX dL_law_783 rfl ?_
  refine j_iconst hX (v := 3) (by decide) dL_law_784 ?_
  refine j_sipush hX (v := 10000) (by decide) dL_law_785 ?_
  refine j_iast hX (ws' := ((hi, .inl (G.2.2 0, 4, .inl (upd (upd (upd (upd (fun _ => 0) 0 10) 1 6) 2 (-2)) 3 10000))) :: (lo, .inl (G.2.2 0, 4, .inl (upd (upd (upd (upd (fun _ => 0) 0 0) 1 0) 2 (-1)) 3 0))) :: (wC G ad W N (enO ad o) (wO ad os o)))) dL_law_788 0 rfl (by unfold vp_in; decide +kernel) rfl ?_
  refine j_astore hX (ls' := [some (.ref b), some (.ref (ad 0)), some (.ref bg), some (.int (nI m)), none, some (.long (sumF os o (cb (N' 5) m) m (W, N))), none, some (.ref lo), some (.ref hi), none, none, none, none, none, none, none, none, none]) dL_law_789 (Nat.le_of_ble_eq_true rfl) rfl rfl ?_
  obtain ⟨R, hR⟩ : ∃ R : UInt32, R = (if 0 < W 11 then FP.fdiv (FP.i2f (W 11 - W 12)) (FP.i2f (W 11)) else 3212836864) := ⟨_, rfl⟩
  have hRf : R = 3212836864 ∨ (¬ Op.cmpValue (FP.fcmp R FP.fconst0) .l < 0 ∧ ¬ 0 < Op.cmpValue (FP.fcmp R FP.fconst1) .g) := by
    by_cases h0 : 0 < W 11
    · rw [if_pos h0, hp9, he9] at hR
      rw [hR]
      refine Or.inr (fl_share hep ?_ hp20)
      rw [hp9] at h0
      have h1 : (0 : Int) < (nI p9).toInt := by simpa using Int32.lt_iff_toInt_lt.mp h0
      rw [nI_toInt (by omega)] at h1
      omega
    · rw [if_neg h0] at hR
      exact Or.inl hR
  have hshare : jH G 31 yL_share wsL_share [.ref (ad 0)] (wC G ad W N (enO ad o) (wO ad os o)) 1 6 (fun rv w => rv = some (.float R) ∧ w = (wC G ad W N (enO ad o) (wO ad os o))) := by
    rw [hR]
    exact d_share G hG ad
  obtain ⟨D, hD⟩ : ∃ D : UInt64, D = (if 0 < W 10 then FP.ddiv (FP.i2d (W 12)) (FP.i2d (W 10)) else 13830554455654793216) := ⟨_, rfl⟩
  have hDf : D = 13830554455654793216 ∨ ¬ Op.cmpValue (FP.dcmp D FP.dconst0) .l < 0 := by
    by_cases h0 : 0 < W 10
    · rw [if_pos h0] at hD
      rw [hD]
      refine Or.inr (fl_mean ?_ h0)
      rw [he9, nI_toInt (by omega)]
      omega
    · rw [if_neg h0] at hD
      exact Or.inl hD
  have hmean : jH G 31 yL_mean wsL_mean [.ref (ad 0)] (wC G ad W N (enO ad o) (wO ad os o)) 1 6 (fun rv w => rv = some (.double D) ∧ w = (wC G ad W N (enO ad o) (wO ad os o))) := by
    rw [hD]
    exact d_mean G hG ad
  have h1246 : jW G X (k + 470) (n + 3200) 1246 [some (.ref b), some (.ref (ad 0)), none, some (.int (nI m)), none, some (.long (sumF os o (cb (N' 5) m) m (W, N))), none, none, none, none, none, none, none, none, none, none, none, none] [] (wC G ad W N (enO ad o) (wO ad os o)) := by
    refine j_aload_n hX dL_law_1246 rfl ?_
    refine j_iload_n hX dL_law_1247 rfl ?_
    refine j_callHPa hX hH (nA := 2) (As := [.ref (ad 0), .int (nI m)]) (st := []) (wa := []) (w0 := (wC G ad W N (enO ad o) (wO ad os o))) dL_law_1248 (c_L_sum G hG ad (rx_KS hS.1) (st_id hS _) (st_ZS hS) rfl rfl rfl rfl rfl rfl m hS.1.1.2.1.2.2) gL_law_L_sum rfl (by decide +kernel) (by decide) (Nat.le_of_ble_eq_true rfl) rfl (Nat.le_of_ble_eq_true rfl) ⟨by omega, by omega⟩ rfl rfl (fun rv1248 w1248 hp1248 => ?_)
    obtain ⟨rfl, rfl⟩ := hp1248
    show jW G X (k + 470 + 140) (n + 3200 + 840) 1251 [some (.ref b), some (.ref (ad 0)), none, some (.int (nI m)), none, some (.long (sumF os o (cb (N' 5) m) m (W, N))), none, none, none, none, none, none, none, none, none, none, none, none] [.long (sumF os o (cb (N' 5) m) m (W, N))] (wC G ad W N (enO ad o) (wO ad os o))
    refine j_lload hX dL_law_1251 rfl ?_
    refine j_lcmp hX dL_law_1253 ?_
    refine j_if_ne_f hX (tgt := 1261) dL_law_1254 (by decide) (lg_self _) ?_
    refine j_iconst hX (v := 1) (by decide) dL_law_1257 ?_
    refine j_goto hX (tgt := 1262) dL_law_1258 (by decide) ?_
    exact hE _ _ _ _ (by omega) (by omega)
  have h1226 : jW G X (k + 460) (n + 3100) 1226 [some (.ref b), some (.ref (ad 0)), none, some (.int (nI m)), none, some (.long (sumF os o (cb (N' 5) m) m (W, N))), none, none, none, none, none, none, none, none, none, none, none, none] [] (wC G ad W N (enO ad o) (wO ad os o)) := by
    refine j_aload_n hX dL_law_1226 rfl ?_
    refine j_callHa hX hH (nA := 1) (As := [.ref (ad 0)]) (st := []) (wa := []) (w0 := (wC G ad W N (enO ad o) (wO ad os o))) dL_law_1227 hmean gL_law_L_mean rfl (by decide +kernel) (by decide) (Nat.le_of_ble_eq_true rfl) rfl (Nat.le_of_ble_eq_true rfl) ⟨by omega, by omega⟩ rfl rfl (fun rv1227 w1227 hp1227 => ?_)
    obtain ⟨rfl, rfl⟩ := hp1227
    show jW G X (k + 460 + 1) (n + 3100 + 6) 1230 [some (.ref b), some (.ref (ad 0)), none, some (.int (nI m)), none, some (.long (sumF os o (cb (N' 5) m) m (W, N))), none, none, none, none, none, none, none, none, none, none, none, none] [.double D] (wC G ad W N (enO ad o) (wO ad os o))
    refine j_ldc2d hX (v := 13830554455654793216) dL_law_1230 (by decide +kernel) ?_
    refine j_dcmp hX dL_law_1233 ?_
    refine j_if_eq hX (tgt := 1246) dL_law_1234 (by decide) (fun _ => jW.widen (k' := k + 470) (n' := n + 3200) (by omega) (by omega) h1246) (fun hne => ?_)
    have hD0 : ¬ Op.cmpValue (FP.dcmp D FP.dconst0) .l < 0 := hDf.resolve_left (fun e => hne (by rw [e]; decide +kernel))
    refine j_aload_n hX dL_law_1237 rfl ?_
    refine j_callHa hX hH (nA := 1) (As := [.ref (ad 0)]) (st := []) (wa := []) (w0 := (wC G ad W N (enO ad o) (wO ad os o))) dL_law_1238 hmean gL_law_L_mean rfl (by decide +kernel) (by decide) (Nat.le_of_ble_eq_true rfl) rfl (Nat.le_of_ble_eq_true rfl) ⟨by omega, by omega⟩ rfl rfl (fun rv1238 w1238 hp1238 => ?_)
    obtain ⟨rfl, rfl⟩ := hp1238
    show jW G X (k + 460 + 1 + 1) (n + 3100 + 6 + 6) 1241 [some (.ref b), some (.ref (ad 0)), none, some (.int (nI m)), none, some (.long (sumF os o (cb (N' 5) m) m (W, N))), none, none, none, none, none, none, none, none, none, none, none, none] [.double D] (wC G ad W N (enO ad o) (wO ad os o))
    refine j_dconst0 hX dL_law_1241 ?_
    refine j_dcmp hX dL_law_1242 ?_
    refine j_if_lt_f hX (tgt := 1261) dL_law_1243 (by decide) hD0 ?_
    exact jW.widen (k' := k + 470) (n' := n + 3200) (by omega) (by omega) h1246
  have h1198 : jW G X (k + 450) (n + 3000) 1198 [some (.ref b), some (.ref (ad 0)), none, some (.int (nI m)), none, some (.long (sumF os o (cb (N' 5) m) m (W, N))), none, none, none, none, none, none, none, none, none, none, none, none] [] (wC G ad W N (enO ad o) (wO ad os o)) := by
    refine j_aload_n hX dL_law_1198 rfl ?_
    refine j_callHa hX hH (nA := 1) (As := [.ref (ad 0)]) (st := []) (wa := []) (w0 := (wC G ad W N (enO ad o) (wO ad os o))) dL_law_1199 hshare gL_law_L_share rfl (by decide +kernel) (by decide) (Nat.le_of_ble_eq_true rfl) rfl (Nat.le_of_ble_eq_true rfl) ⟨by omega, by omega⟩ rfl rfl (fun rv1199 w1199 hp1199 => ?_)
    obtain ⟨rfl, rfl⟩ := hp1199
    show jW G X (k + 450 + 1) (n + 3000 + 6) 1202 [some (.ref b), some (.ref (ad 0)), none, some (.int (nI m)), none, some (.long (sumF os o (cb (N' 5) m) m (W, N))), none, none, none, none, none, none, none, none, none, none, none, none] [.float R] (wC G ad W N (enO ad o) (wO ad os o))
    refine j_ldcf hX (v := 3212836864) dL_law_1202 (by decide +kernel) ?_
    refine j_fcmp hX dL_law_1204 ?_
    refine j_if_eq hX (tgt := 1226) dL_law_1205 (by decide) (fun _ => jW.widen (k' := k + 460) (n' := n + 3100) (by omega) (by omega) h1226) (fun hne => ?_)
    obtain ⟨hR0, hR1⟩ := hRf.resolve_left (fun e => hne (by rw [e]; decide +kernel))
    refine j_aload_n hX dL_law_1208 rfl ?_
    refine j_callHa hX hH (nA := 1) (As := [.ref (ad 0)]) (st := []) (wa := []) (w0 := (wC G ad W N (enO ad o) (wO ad os o))) dL_law_1209 hshare gL_law_L_share rfl (by decide +kernel) (by decide) (Nat.le_of_ble_eq_true rfl) rfl (Nat.le_of_ble_eq_true rfl) ⟨by omega, by omega⟩ rfl rfl (fun rv1209 w1209 hp1209 => ?_)
    obtain ⟨rfl, rfl⟩ := hp1209
    show jW G X (k + 450 + 1 + 1) (n + 3000 + 6 + 6) 1212 [some (.ref b), some (.ref (ad 0)), none, some (.int (nI m)), none, some (.long (sumF os o (cb (N' 5) m) m (W, N))), none, none, none, none, none, none, none, none, none, none, none, none] [.float R] (wC G ad W N (enO ad o) (wO ad os o))
    refine j_fconst0 hX dL_law_1212 ?_
    refine j_fcmp hX dL_law_1213 ?_
    refine j_if_lt_f hX (tgt := 1261) dL_law_1214 (by decide) hR0 ?_
    refine j_aload_n hX dL_law_1217 rfl ?_
    refine j_callHa hX hH (nA := 1) (As := [.ref (ad 0)]) (st := []) (wa := []) (w0 := (wC G ad W N (enO ad o) (wO ad os o))) dL_law_1218 hshare gL_law_L_share rfl (by decide +kernel) (by decide) (Nat.le_of_ble_eq_true rfl) rfl (Nat.le_of_ble_eq_true rfl) ⟨by omega, by omega⟩ rfl rfl (fun rv1218 w1218 hp1218 => ?_)
    obtain ⟨rfl, rfl⟩ := hp1218
    show jW G X (k + 450 + 1 + 1 + 1) (n + 3000 + 6 + 6 + 6) 1221 [some (.ref b), some (.ref (ad 0)), none, some (.int (nI m)), none, some (.long (sumF os o (cb (N' 5) m) m (W, N))), none, none, none, none, none, none, none, none, none, none, none, none] [.float R] (wC G ad W N (enO ad o) (wO ad os o))
    refine j_fconst1 hX dL_law_1221 ?_
    refine j_fcmp hX dL_law_1222 ?_
    refine j_if_gt_f hX (tgt := 1261) dL_law_1223 (by decide) hR1 ?_
    exact jW.widen (k' := k + 460) (n' := n + 3100) (by omega) (by omega) h1226
  refine j_aload_n hX dL_law_791 rfl ?_
  refine j_bipush hX (v := 10) (by decide) dL_law_792 ?_
  refine j_iconst hX (v := 1) (by decide) dL_law_794 ?_
  refine j_callHa hX hH (nA := 3) (As := [.ref (ad 0), .int 10, .int 1]) (st := []) (wa := [(hi, .inl (G.2.2 0, 4, .inl (upd (upd (upd (upd (fun _ => 0) 0 10) 1 6) 2 (-2)) 3 10000))), (lo, .inl (G.2.2 0, 4, .inl (upd (upd (upd (upd (fun _ => 0) 0 0) 1 0) 2 (-1)) 3 0)))]) (w0 := (wC G ad W N (enO ad o) (wO ad os o))) dL_law_795 (d_put_no G hG ad 10 1 (show xput W 10 1 = some "java/lang/IllegalArgumentException" by unfold xput; rw [if_pos (by decide)])) gL_law_L_put rfl (by decide +kernel) (by decide) (Nat.le_of_ble_eq_true rfl) rfl (Nat.le_of_ble_eq_true rfl) ⟨by omega, by omega⟩ rfl rfl (fun rv795 w795 hp795 => ?_)
  obtain ⟨rfl, rfl⟩ := hp795
  show jW G X (k + 220 + 140 + 1 + 1 + 1) (n + 1320 + 840 + 4 + 4 + 6) 798 [some (.ref b), some (.ref (ad 0)), some (.ref bg), some (.int (nI m)), none, some (.long (sumF os o (cb (N' 5) m) m (W, N))), none, some (.ref lo), some (.ref hi), none, none, none, none, none, none, none, none, none] [.int (-1001)] ((hi, .inl (G.2.2 0, 4, .inl (upd (upd (upd (upd (fun _ => 0) 0 10) 1 6) 2 (-2)) 3 10000))) :: (lo, .inl (G.2.2 0, 4, .inl (upd (upd (upd (upd (fun _ => 0) 0 0) 1 0) 2 (-1)) 3 0))) :: (wC G ad W N (enO ad o) (wO ad os o)))
  refine j_sipush hX (v := -1001) (by decide) dL_law_798 ?_
  refine j_icmp_ne_f hX (tgt := 999) dL_law_801 (by decide) rfl ?_
  refine j_aload_n hX dL_law_804 rfl ?_
  refine j_iconst hX (v := -1) (by decide) dL_law_805 ?_
  refine j_iconst hX (v := 1) (by decide) dL_law_806 ?_
  refine j_callHa hX hH (nA := 3) (As := [.ref (ad 0), .int (-1), .int 1]) (st := []) (wa := [(hi, .inl (G.2.2 0, 4, .inl (upd (upd (upd (upd (fun _ => 0) 0 10) 1 6) 2 (-2)) 3 10000))), (lo, .inl (G.2.2 0, 4, .inl (upd (upd (upd (upd (fun _ => 0) 0 0) 1 0) 2 (-1)) 3 0)))]) (w0 := (wC G ad W N (enO ad o) (wO ad os o))) dL_law_807 (d_put_no G hG ad (-1) 1 (show xput W (-1) 1 = some "java/lang/IllegalArgumentException" by unfold xput; rw [if_pos (by decide)])) gL_law_L_put rfl (by decide +kernel) (by decide) (Nat.le_of_ble_eq_true rfl) rfl (Nat.le_of_ble_eq_true rfl) ⟨by omega, by omega⟩ rfl rfl (fun rv807 w807 hp807 => ?_)
  obtain ⟨rfl, rfl⟩ := hp807
  show jW G X (k + 220 + 140 + 1 + 1 + 1 + 1) (n + 1320 + 840 + 4 + 4 + 6 + 6) 810 [some (.ref b), some (.ref (ad 0)), some (.ref bg), some (.int (nI m)), none, some (.long (sumF os o (cb (N' 5) m) m (W, N))), none, some (.ref lo), some (.ref hi), none, none, none, none, none, none, none, none, none] [.int (-1001)] ((hi, .inl (G.2.2 0, 4, .inl (upd (upd (upd (upd (fun _ => 0) 0 10) 1 6) 2 (-2)) 3 10000))) :: (lo, .inl (G.2.2 0, 4, .inl (upd (upd (upd (upd (fun _ => 0) 0 0) 1 0) 2 (-1)) 3 0))) :: (wC G ad W N (enO ad o) (wO ad os o)))
  refine j_sipush hX (v := -1001) (by decide) dL_law_810 ?_
  refine j_icmp_ne_f hX (tgt := 999) dL_law_813 (by decide) rfl ?_
  refine j_aload_n hX dL_law_816 rfl ?_
  refine j_iconst hX (v := 0) (by decide) dL_law_817 ?_
  refine j_iconst hX (v := 0) (by decide) dL_law_818 ?_
  refine j_callHa hX hH (nA := 3) (As := [.ref (ad 0), .int 0, .int 0]) (st := []) (wa := [(hi, .inl (G.2.2 0, 4, .inl (upd (upd (upd (upd (fun _ => 0) 0 10) 1 6) 2 (-2)) 3 10000))), (lo, .inl (G.2.2 0, 4, .inl (upd (upd (upd (upd (fun _ => 0) 0 0) 1 0) 2 (-1)) 3 0)))]) (w0 := (wC G ad W N (enO ad o) (wO ad os o))) dL_law_819 (d_put_no G hG ad 0 0 (show xput W 0 0 = some "java/lang/IllegalArgumentException" by unfold xput; rw [if_neg (by decide), if_pos (by decide)])) gL_law_L_put rfl (by decide +kernel) (by decide) (Nat.le_of_ble_eq_true rfl) rfl (Nat.le_of_ble_eq_true rfl) ⟨by omega, by omega⟩ rfl rfl (fun rv819 w819 hp819 => ?_)
  obtain ⟨rfl, rfl⟩ := hp819
  show jW G X (k + 220 + 140 + 1 + 1 + 1 + 1 + 1) (n + 1320 + 840 + 4 + 4 + 6 + 6 + 6) 822 [some (.ref b), some (.ref (ad 0)), some (.ref bg), some (.int (nI m)), none, some (.long (sumF os o (cb (N' 5) m) m (W, N))), none, some (.ref lo), some (.ref hi), none, none, none, none, none, none, none, none, none] [.int (-1001)] ((hi, .inl (G.2.2 0, 4, .inl (upd (upd (upd (upd (fun _ => 0) 0 10) 1 6) 2 (-2)) 3 10000))) :: (lo, .inl (G.2.2 0, 4, .inl (upd (upd (upd (upd (fun _ => 0) 0 0) 1 0) 2 (-1)) 3 0))) :: (wC G ad W N (enO ad o) (wO ad os o)))
  refine j_sipush hX (v := -1001) (by decide) dL_law_822 ?_
  refine j_icmp_ne_f hX (tgt := 999) dL_law_825 (by decide) rfl ?_
  refine j_aload_n hX dL_law_828 rfl ?_
  refine j_iconst hX (v := 0) (by decide) dL_law_829 ?_
  refine j_sipush hX (v := 10000) (by decide) dL_law_830 ?_
  refine j_callHa hX hH (nA := 3) (As := [.ref (ad 0), .int 0, .int 10000]) (st := []) (wa := [(hi, .inl (G.2.2 0, 4, .inl (upd (upd (upd (upd (fun _ => 0) 0 10) 1 6) 2 (-2)) 3 10000))), (lo, .inl (G.2.2 0, 4, .inl (upd (upd (upd (upd (fun _ => 0) 0 0) 1 0) 2 (-1)) 3 0)))]) (w0 := (wC G ad W N (enO ad o) (wO ad os o))) dL_law_833 (d_put_no G hG ad 0 10000 (show xput W 0 10000 = some "java/lang/IllegalArgumentException" by unfold xput; rw [if_neg (by decide), if_pos (by decide)])) gL_law_L_put rfl (by decide +kernel) (by decide) (Nat.le_of_ble_eq_true rfl) rfl (Nat.le_of_ble_eq_true rfl) ⟨by omega, by omega⟩ rfl rfl (fun rv833 w833 hp833 => ?_)
  obtain ⟨rfl, rfl⟩ := hp833
  show jW G X (k + 220 + 140 + 1 + 1 + 1 + 1 + 1 + 1) (n + 1320 + 840 + 4 + 4 + 6 + 6 + 6 + 6) 836 [some (.ref b), some (.ref (ad 0)), some (.ref bg), some (.int (nI m)), none, some (.long (sumF os o (cb (N' 5) m) m (W, N))), none, some (.ref lo), some (.ref hi), none, none, none, none, none, none, none, none, none] [.int (-1001)] ((hi, .inl (G.2.2 0, 4, .inl (upd (upd (upd (upd (fun _ => 0) 0 10) 1 6) 2 (-2)) 3 10000))) :: (lo, .inl (G.2.2 0, 4, .inl (upd (upd (upd (upd (fun _ => 0) 0 0) 1 0) 2 (-1)) 3 0))) :: (wC G ad W N (enO ad o) (wO ad os o)))
  refine j_sipush hX (v := -1001) (by decide) dL_law_836 ?_
  refine j_icmp_ne_f hX (tgt := 999) dL_law_839 (by decide) rfl ?_
  refine j_aload_n hX dL_law_842 rfl ?_
  refine j_bipush hX (v := 60) (by decide) dL_law_843 ?_
  refine j_callHa hX hH (nA := 2) (As := [.ref (ad 0), .int 60]) (st := []) (wa := [(hi, .inl (G.2.2 0, 4, .inl (upd (upd (upd (upd (fun _ => 0) 0 10) 1 6) 2 (-2)) 3 10000))), (lo, .inl (G.2.2 0, 4, .inl (upd (upd (upd (upd (fun _ => 0) 0 0) 1 0) 2 (-1)) 3 0)))]) (w0 := (wC G ad W N (enO ad o) (wO ad os o))) dL_law_845 (d_out_no G hG ad (rx_KS hS.1) 60 (st_out hS.1 (z := 60) ha (by decide))) gL_law_L_out rfl (by decide +kernel) (by decide) (Nat.le_of_ble_eq_true rfl) rfl (Nat.le_of_ble_eq_true rfl) ⟨by omega, by omega⟩ rfl rfl (fun rv845 w845 hp845 => ?_)
  obtain ⟨rfl, rfl⟩ := hp845
  show jW G X (k + 220 + 140 + 1 + 1 + 1 + 1 + 1 + 1 + 1) (n + 1320 + 840 + 4 + 4 + 6 + 6 + 6 + 6 + 6) 848 [some (.ref b), some (.ref (ad 0)), some (.ref bg), some (.int (nI m)), none, some (.long (sumF os o (cb (N' 5) m) m (W, N))), none, some (.ref lo), some (.ref hi), none, none, none, none, none, none, none, none, none] [.int (-1001)] ((hi, .inl (G.2.2 0, 4, .inl (upd (upd (upd (upd (fun _ => 0) 0 10) 1 6) 2 (-2)) 3 10000))) :: (lo, .inl (G.2.2 0, 4, .inl (upd (upd (upd (upd (fun _ => 0) 0 0) 1 0) 2 (-1)) 3 0))) :: (wC G ad W N (enO ad o) (wO ad os o)))
  refine j_sipush hX (v := -1001) (by decide) dL_law_848 ?_
  refine j_icmp_ne_f hX (tgt := 999) dL_law_851 (by decide) rfl ?_
  refine j_aload_n hX dL_law_854 rfl ?_
  refine j_iconst hX (v := -1) (by decide) dL_law_855 ?_
  refine j_callHa hX hH (nA := 2) (As := [.ref (ad 0), .int (-1)]) (st := []) (wa := [(hi, .inl (G.2.2 0, 4, .inl (upd (upd (upd (upd (fun _ => 0) 0 10) 1 6) 2 (-2)) 3 10000))), (lo, .inl (G.2.2 0, 4, .inl (upd (upd (upd (upd (fun _ => 0) 0 0) 1 0) 2 (-1)) 3 0)))]) (w0 := (wC G ad W N (enO ad o) (wO ad os o))) dL_law_856 (d_out_no G hG ad (rx_KS hS.1) (-1) (st_neg hS.1)) gL_law_L_out rfl (by decide +kernel) (by decide) (Nat.le_of_ble_eq_true rfl) rfl (Nat.le_of_ble_eq_true rfl) ⟨by omega, by omega⟩ rfl rfl (fun rv856 w856 hp856 => ?_)
  obtain ⟨rfl, rfl⟩ := hp856
  show jW G X (k + 220 + 140 + 1 + 1 + 1 + 1 + 1 + 1 + 1 + 1) (n + 1320 + 840 + 4 + 4 + 6 + 6 + 6 + 6 + 6 + 6) 859 [some (.ref b), some (.ref (ad 0)), some (.ref bg), some (.int (nI m)), none, some (.long (sumF os o (cb (N' 5) m) m (W, N))), none, some (.ref lo), some (.ref hi), none, none, none, none, none, none, none, none, none] [.int (-1001)] ((hi, .inl (G.2.2 0, 4, .inl (upd (upd (upd (upd (fun _ => 0) 0 10) 1 6) 2 (-2)) 3 10000))) :: (lo, .inl (G.2.2 0, 4, .inl (upd (upd (upd (upd (fun _ => 0) 0 0) 1 0) 2 (-1)) 3 0))) :: (wC G ad W N (enO ad o) (wO ad os o)))
  refine j_sipush hX (v := -1001) (by decide) dL_law_859 ?_
  refine j_icmp_ne_f hX (tgt := 999) dL_law_862 (by decide) rfl ?_
  refine j_aload_n hX dL_law_865 rfl ?_
  refine j_iconst hX (v := 4) (by decide) dL_law_866 ?_
  refine j_callHa hX hH (nA := 2) (As := [.ref (ad 0), .int 4]) (st := []) (wa := [(hi, .inl (G.2.2 0, 4, .inl (upd (upd (upd (upd (fun _ => 0) 0 10) 1 6) 2 (-2)) 3 10000))), (lo, .inl (G.2.2 0, 4, .inl (upd (upd (upd (upd (fun _ => 0) 0 0) 1 0) 2 (-1)) 3 0)))]) (w0 := (wC G ad W N (enO ad o) (wO ad os o))) dL_law_867 (d_cust_no G hG ad 4 (show xcust 4 = some "java/lang/IllegalArgumentException" by unfold xcust; rw [if_pos (by decide)])) gL_law_L_customer rfl (by decide +kernel) (by decide) (Nat.le_of_ble_eq_true rfl) rfl (Nat.le_of_ble_eq_true rfl) ⟨by omega, by omega⟩ rfl rfl (fun rv867 w867 hp867 => ?_)
  obtain ⟨rfl, rfl⟩ := hp867
  show jW G X (k + 220 + 140 + 1 + 1 + 1 + 1 + 1 + 1 + 1 + 1 + 1) (n + 1320 + 840 + 4 + 4 + 6 + 6 + 6 + 6 + 6 + 6 + 6) 870 [some (.ref b), some (.ref (ad 0)), some (.ref bg), some (.int (nI m)), none, some (.long (sumF os o (cb (N' 5) m) m (W, N))), none, some (.ref lo), some (.ref hi), none, none, none, none, none, none, none, none, none] [.int (-1001)] ((hi, .inl (G.2.2 0, 4, .inl (upd (upd (upd (upd (fun _ => 0) 0 10) 1 6) 2 (-2)) 3 10000))) :: (lo, .inl (G.2.2 0, 4, .inl (upd (upd (upd (upd (fun _ => 0) 0 0) 1 0) 2 (-1)) 3 0))) :: (wC G ad W N (enO ad o) (wO ad os o)))
  refine j_sipush hX (v := -1001) (by decide) dL_law_870 ?_
  refine j_icmp_ne_f hX (tgt := 999) dL_law_873 (by decide) rfl ?_
  refine j_aload_n hX dL_law_876 rfl ?_
  refine j_iconst hX (v := -1) (by decide) dL_law_877 ?_
  refine j_callHa hX hH (nA := 2) (As := [.ref (ad 0), .int (-1)]) (st := []) (wa := [(hi, .inl (G.2.2 0, 4, .inl (upd (upd (upd (upd (fun _ => 0) 0 10) 1 6) 2 (-2)) 3 10000))), (lo, .inl (G.2.2 0, 4, .inl (upd (upd (upd (upd (fun _ => 0) 0 0) 1 0) 2 (-1)) 3 0)))]) (w0 := (wC G ad W N (enO ad o) (wO ad os o))) dL_law_878 (d_cust_no G hG ad (-1) (show xcust (-1) = some "java/lang/IllegalArgumentException" by unfold xcust; rw [if_pos (by decide)])) gL_law_L_customer rfl (by decide +kernel) (by decide) (Nat.le_of_ble_eq_true rfl) rfl (Nat.le_of_ble_eq_true rfl) ⟨by omega, by omega⟩ rfl rfl (fun rv878 w878 hp878 => ?_)
  obtain ⟨rfl, rfl⟩ := hp878
  show jW G X (k + 220 + 140 + 1 + 1 + 1 + 1 + 1 + 1 + 1 + 1 + 1 + 1) (n + 1320 + 840 + 4 + 4 + 6 + 6 + 6 + 6 + 6 + 6 + 6 + 6) 881 [some (.ref b), some (.ref (ad 0)), some (.ref bg), some (.int (nI m)), none, some (.long (sumF os o (cb (N' 5) m) m (W, N))), none, some (.ref lo), some (.ref hi), none, none, none, none, none, none, none, none, none] [.int (-1001)] ((hi, .inl (G.2.2 0, 4, .inl (upd (upd (upd (upd (fun _ => 0) 0 10) 1 6) 2 (-2)) 3 10000))) :: (lo, .inl (G.2.2 0, 4, .inl (upd (upd (upd (upd (fun _ => 0) 0 0) 1 0) 2 (-1)) 3 0))) :: (wC G ad W N (enO ad o) (wO ad os o)))
  refine j_sipush hX (v := -1001) (by decide) dL_law_881 ?_
  refine j_icmp_ne_f hX (tgt := 999) dL_law_884 (by decide) rfl ?_
  refine j_aload_n hX dL_law_887 rfl ?_
  refine j_bipush hX (v := 112) (by decide) dL_law_888 ?_
  refine j_aload hX dL_law_890 rfl ?_
  refine j_iconst hX (v := 1) (by decide) dL_law_892 ?_
  refine j_iconst hX (v := 0) (by decide) dL_law_893 ?_
  refine j_callHa hX hH (nA := 5) (As := [.ref (ad 0), .int 112, .ref lo, .int 1, .int 0]) (st := []) (wa := [(hi, .inl (G.2.2 0, 4, .inl (upd (upd (upd (upd (fun _ => 0) 0 10) 1 6) 2 (-2)) 3 10000)))]) (w0 := ((lo, .inl (G.2.2 0, 4, .inl (upd (upd (upd (upd (fun _ => 0) 0 0) 1 0) 2 (-1)) 3 0))) :: (wC G ad W N (enO ad o) (wO ad os o)))) dL_law_894 (d_offer_p_no G hG ad (rx_KS hS.1) (by unfold vp_in; decide +kernel) (by unfold vp_in; decide +kernel) 1 0 (show xaddP W 0 0 1 0 = some "java/lang/IllegalArgumentException" by unfold xaddP; rw [if_neg (by decide), if_pos (by decide)])) gL_law_L_offer rfl (by decide +kernel) (by decide) (Nat.le_of_ble_eq_true rfl) rfl (Nat.le_of_ble_eq_true rfl) ⟨by omega, by omega⟩ rfl rfl (fun rv894 w894 hp894 => ?_)
  obtain ⟨rfl, rfl⟩ := hp894
  show jW G X (k + 220 + 140 + 1 + 1 + 1 + 1 + 1 + 1 + 1 + 1 + 1 + 1 + 1) (n + 1320 + 840 + 4 + 4 + 6 + 6 + 6 + 6 + 6 + 6 + 6 + 6 + 6) 897 [some (.ref b), some (.ref (ad 0)), some (.ref bg), some (.int (nI m)), none, some (.long (sumF os o (cb (N' 5) m) m (W, N))), none, some (.ref lo), some (.ref hi), none, none, none, none, none, none, none, none, none] [.int (-1001)] ((hi, .inl (G.2.2 0, 4, .inl (upd (upd (upd (upd (fun _ => 0) 0 10) 1 6) 2 (-2)) 3 10000))) :: (lo, .inl (G.2.2 0, 4, .inl (upd (upd (upd (upd (fun _ => 0) 0 0) 1 0) 2 (-1)) 3 0))) :: (wC G ad W N (enO ad o) (wO ad os o)))
  refine j_sipush hX (v := -1001) (by decide) dL_law_897 ?_
  refine j_icmp_ne_f hX (tgt := 999) dL_law_900 (by decide) rfl ?_
  refine j_aload_n hX dL_law_903 rfl ?_
  refine j_bipush hX (v := 112) (by decide) dL_law_904 ?_
  refine j_aload hX dL_law_906 rfl ?_
  refine j_iconst hX (v := 1) (by decide) dL_law_908 ?_
  refine j_iconst hX (v := 0) (by decide) dL_law_909 ?_
  refine jW.pm (ws' := ((lo, .inl (G.2.2 0, 4, .inl (upd (upd (upd (upd (fun _ => 0) 0 0) 1 0) 2 (-1)) 3 0))) :: (hi, .inl (G.2.2 0, 4, .inl (upd (upd (upd (upd (fun _ => 0) 0 10) 1 6) 2 (-2)) 3 10000))) :: (wC G ad W N (enO ad o) (wO ad os o)))) (List.Perm.swap _ _ _) ?_
  refine j_callHa hX hH (nA := 5) (As := [.ref (ad 0), .int 112, .ref hi, .int 1, .int 0]) (st := []) (wa := [(lo, .inl (G.2.2 0, 4, .inl (upd (upd (upd (upd (fun _ => 0) 0 0) 1 0) 2 (-1)) 3 0)))]) (w0 := ((hi, .inl (G.2.2 0, 4, .inl (upd (upd (upd (upd (fun _ => 0) 0 10) 1 6) 2 (-2)) 3 10000))) :: (wC G ad W N (enO ad o) (wO ad os o)))) dL_law_910 (d_offer_p_no G hG ad (rx_KS hS.1) (by unfold vp_in; decide +kernel) (by unfold vp_in; decide +kernel) 1 0 (show xaddP W 10 6 1 0 = some "java/lang/IllegalArgumentException" by unfold xaddP; rw [if_pos (by decide)])) gL_law_L_offer rfl (by decide +kernel) (by decide) (Nat.le_of_ble_eq_true rfl) rfl (Nat.le_of_ble_eq_true rfl) ⟨by omega, by omega⟩ rfl rfl (fun rv910 w910 hp910 => ?_)
  obtain ⟨rfl, rfl⟩ := hp910
  show jW G X (k + 220 + 140 + 1 + 1 + 1 + 1 + 1 + 1 + 1 + 1 + 1 + 1 + 1 + 1) (n + 1320 + 840 + 4 + 4 + 6 + 6 + 6 + 6 + 6 + 6 + 6 + 6 + 6 + 6) 913 [some (.ref b), some (.ref (ad 0)), some (.ref bg), some (.int (nI m)), none, some (.long (sumF os o (cb (N' 5) m) m (W, N))), none, some (.ref lo), some (.ref hi), none, none, none, none, none, none, none, none, none] [.int (-1001)] ((lo, .inl (G.2.2 0, 4, .inl (upd (upd (upd (upd (fun _ => 0) 0 0) 1 0) 2 (-1)) 3 0))) :: (hi, .inl (G.2.2 0, 4, .inl (upd (upd (upd (upd (fun _ => 0) 0 10) 1 6) 2 (-2)) 3 10000))) :: (wC G ad W N (enO ad o) (wO ad os o)))
  refine j_sipush hX (v := -1001) (by decide) dL_law_913 ?_
  refine j_icmp_ne_f hX (tgt := 999) dL_law_916 (by decide) rfl ?_
  refine j_aload_n hX dL_law_919 rfl ?_
  refine j_bipush hX (v := 102) (by decide) dL_law_920 ?_
  refine j_aload hX dL_law_922 rfl ?_
  refine j_iconst hX (v := 1) (by decide) dL_law_924 ?_
  refine j_iconst hX (v := 0) (by decide) dL_law_925 ?_
  refine jW.pm (ws' := ((hi, .inl (G.2.2 0, 4, .inl (upd (upd (upd (upd (fun _ => 0) 0 10) 1 6) 2 (-2)) 3 10000))) :: (lo, .inl (G.2.2 0, 4, .inl (upd (upd (upd (upd (fun _ => 0) 0 0) 1 0) 2 (-1)) 3 0))) :: (wC G ad W N (enO ad o) (wO ad os o)))) (List.Perm.swap _ _ _) ?_
  refine j_callHa hX hH (nA := 5) (As := [.ref (ad 0), .int 102, .ref lo, .int 1, .int 0]) (st := []) (wa := [(hi, .inl (G.2.2 0, 4, .inl (upd (upd (upd (upd (fun _ => 0) 0 10) 1 6) 2 (-2)) 3 10000)))]) (w0 := ((lo, .inl (G.2.2 0, 4, .inl (upd (upd (upd (upd (fun _ => 0) 0 0) 1 0) 2 (-1)) 3 0))) :: (wC G ad W N (enO ad o) (wO ad os o)))) dL_law_926 (d_offer_f_no G hG ad (rx_KS hS.1) (by unfold vp_in; decide +kernel) (by unfold vp_in; decide +kernel) 1 0 (show xaddF W 0 0 1 0 = some "java/lang/IllegalArgumentException" by unfold xaddF; rw [if_neg (by decide), if_pos (by decide)])) gL_law_L_offer rfl (by decide +kernel) (by decide) (Nat.le_of_ble_eq_true rfl) rfl (Nat.le_of_ble_eq_true rfl) ⟨by omega, by omega⟩ rfl rfl (fun rv926 w926 hp926 => ?_)
  obtain ⟨rfl, rfl⟩ := hp926
  show jW G X (k + 220 + 140 + 1 + 1 + 1 + 1 + 1 + 1 + 1 + 1 + 1 + 1 + 1 + 1 + 1) (n + 1320 + 840 + 4 + 4 + 6 + 6 + 6 + 6 + 6 + 6 + 6 + 6 + 6 + 6 + 6) 929 [some (.ref b), some (.ref (ad 0)), some (.ref bg), some (.int (nI m)), none, some (.long (sumF os o (cb (N' 5) m) m (W, N))), none, some (.ref lo), some (.ref hi), none, none, none, none, none, none, none, none, none] [.int (-1001)] ((hi, .inl (G.2.2 0, 4, .inl (upd (upd (upd (upd (fun _ => 0) 0 10) 1 6) 2 (-2)) 3 10000))) :: (lo, .inl (G.2.2 0, 4, .inl (upd (upd (upd (upd (fun _ => 0) 0 0) 1 0) 2 (-1)) 3 0))) :: (wC G ad W N (enO ad o) (wO ad os o)))
  refine j_sipush hX (v := -1001) (by decide) dL_law_929 ?_
  refine j_icmp_ne_f hX (tgt := 999) dL_law_932 (by decide) rfl ?_
  refine j_aload_n hX dL_law_935 rfl ?_
  refine j_bipush hX (v := 102) (by decide) dL_law_936 ?_
  refine j_aload hX dL_law_938 rfl ?_
  refine j_iconst hX (v := 1) (by decide) dL_law_940 ?_
  refine j_iconst hX (v := 0) (by decide) dL_law_941 ?_
  refine jW.pm (ws' := ((lo, .inl (G.2.2 0, 4, .inl (upd (upd (upd (upd (fun _ => 0) 0 0) 1 0) 2 (-1)) 3 0))) :: (hi, .inl (G.2.2 0, 4, .inl (upd (upd (upd (upd (fun _ => 0) 0 10) 1 6) 2 (-2)) 3 10000))) :: (wC G ad W N (enO ad o) (wO ad os o)))) (List.Perm.swap _ _ _) ?_
  refine j_callHa hX hH (nA := 5) (As := [.ref (ad 0), .int 102, .ref hi, .int 1, .int 0]) (st := []) (wa := [(lo, .inl (G.2.2 0, 4, .inl (upd (upd (upd (upd (fun _ => 0) 0 0) 1 0) 2 (-1)) 3 0)))]) (w0 := ((hi, .inl (G.2.2 0, 4, .inl (upd (upd (upd (upd (fun _ => 0) 0 10) 1 6) 2 (-2)) 3 10000))) :: (wC G ad W N (enO ad o) (wO ad os o)))) dL_law_942 (d_offer_f_no G hG ad (rx_KS hS.1) (by unfold vp_in; decide +kernel) (by unfold vp_in; decide +kernel) 1 0 (show xaddF W 10 6 1 0 = some "java/lang/IllegalArgumentException" by unfold xaddF; rw [if_pos (by decide)])) gL_law_L_offer rfl (by decide +kernel) (by decide) (Nat.le_of_ble_eq_true rfl) rfl (Nat.le_of_ble_eq_true rfl) ⟨by omega, by omega⟩ rfl rfl (fun rv942 w942 hp942 => ?_)
  obtain ⟨rfl, rfl⟩ := hp942
  show jW G X (k + 220 + 140 + 1 + 1 + 1 + 1 + 1 + 1 + 1 + 1 + 1 + 1 + 1 + 1 + 1 + 1) (n + 1320 + 840 + 4 + 4 + 6 + 6 + 6 + 6 + 6 + 6 + 6 + 6 + 6 + 6 + 6 + 6) 945 [some (.ref b), some (.ref (ad 0)), some (.ref bg), some (.int (nI m)), none, some (.long (sumF os o (cb (N' 5) m) m (W, N))), none, some (.ref lo), some (.ref hi), none, none, none, none, none, none, none, none, none] [.int (-1001)] ((lo, .inl (G.2.2 0, 4, .inl (upd (upd (upd (upd (fun _ => 0) 0 0) 1 0) 2 (-1)) 3 0))) :: (hi, .inl (G.2.2 0, 4, .inl (upd (upd (upd (upd (fun _ => 0) 0 10) 1 6) 2 (-2)) 3 10000))) :: (wC G ad W N (enO ad o) (wO ad os o)))
  refine j_sipush hX (v := -1001) (by decide) dL_law_945 ?_
  refine j_icmp_ne_f hX (tgt := 999) dL_law_948 (by decide) rfl ?_
  refine j_aload_n hX dL_law_951 rfl ?_
  refine j_bipush hX (v := 98) (by decide) dL_law_952 ?_
  refine j_aload hX dL_law_954 rfl ?_
  refine j_iconst hX (v := 1) (by decide) dL_law_956 ?_
  refine j_iconst hX (v := 0) (by decide) dL_law_957 ?_
  refine jW.pm (ws' := ((hi, .inl (G.2.2 0, 4, .inl (upd (upd (upd (upd (fun _ => 0) 0 10) 1 6) 2 (-2)) 3 10000))) :: (lo, .inl (G.2.2 0, 4, .inl (upd (upd (upd (upd (fun _ => 0) 0 0) 1 0) 2 (-1)) 3 0))) :: (wC G ad W N (enO ad o) (wO ad os o)))) (List.Perm.swap _ _ _) ?_
  refine j_callHa hX hH (nA := 5) (As := [.ref (ad 0), .int 98, .ref lo, .int 1, .int 0]) (st := []) (wa := [(hi, .inl (G.2.2 0, 4, .inl (upd (upd (upd (upd (fun _ => 0) 0 10) 1 6) 2 (-2)) 3 10000)))]) (w0 := ((lo, .inl (G.2.2 0, 4, .inl (upd (upd (upd (upd (fun _ => 0) 0 0) 1 0) 2 (-1)) 3 0))) :: (wC G ad W N (enO ad o) (wO ad os o)))) dL_law_958 (d_offer_b_no G hG ad (rx_KS hS.1) (by unfold vp_in; decide +kernel) (by unfold vp_in; decide +kernel) (by unfold vp_in; decide +kernel) (by unfold vp_in; decide +kernel) 1 0 (show xaddB W 0 0 (-1) 0 1 0 = some "java/lang/IllegalArgumentException" by unfold xaddB; rw [if_neg (by decide), if_neg (by decide), if_neg (by decide), if_pos (by decide)])) gL_law_L_offer rfl (by decide +kernel) (by decide) (Nat.le_of_ble_eq_true rfl) rfl (Nat.le_of_ble_eq_true rfl) ⟨by omega, by omega⟩ rfl rfl (fun rv958 w958 hp958 => ?_)
  obtain ⟨rfl, rfl⟩ := hp958
  show jW G X (k + 220 + 140 + 1 + 1 + 1 + 1 + 1 + 1 + 1 + 1 + 1 + 1 + 1 + 1 + 1 + 1 + 1) (n + 1320 + 840 + 4 + 4 + 6 + 6 + 6 + 6 + 6 + 6 + 6 + 6 + 6 + 6 + 6 + 6 + 9) 961 [some (.ref b), some (.ref (ad 0)), some (.ref bg), some (.int (nI m)), none, some (.long (sumF os o (cb (N' 5) m) m (W, N))), none, some (.ref lo), some (.ref hi), none, none, none, none, none, none, none, none, none] [.int (-1001)] ((hi, .inl (G.2.2 0, 4, .inl (upd (upd (upd (upd (fun _ => 0) 0 10) 1 6) 2 (-2)) 3 10000))) :: (lo, .inl (G.2.2 0, 4, .inl (upd (upd (upd (upd (fun _ => 0) 0 0) 1 0) 2 (-1)) 3 0))) :: (wC G ad W N (enO ad o) (wO ad os o)))
  refine j_sipush hX (v := -1001) (by decide) dL_law_961 ?_
  refine j_icmp_ne_f hX (tgt := 999) dL_law_964 (by decide) rfl ?_
  refine j_aload_n hX dL_law_967 rfl ?_
  refine j_bipush hX (v := 98) (by decide) dL_law_968 ?_
  refine j_aload hX dL_law_970 rfl ?_
  refine j_iconst hX (v := 1) (by decide) dL_law_972 ?_
  refine j_iconst hX (v := 0) (by decide) dL_law_973 ?_
  refine jW.pm (ws' := ((lo, .inl (G.2.2 0, 4, .inl (upd (upd (upd (upd (fun _ => 0) 0 0) 1 0) 2 (-1)) 3 0))) :: (hi, .inl (G.2.2 0, 4, .inl (upd (upd (upd (upd (fun _ => 0) 0 10) 1 6) 2 (-2)) 3 10000))) :: (wC G ad W N (enO ad o) (wO ad os o)))) (List.Perm.swap _ _ _) ?_
  refine j_callHa hX hH (nA := 5) (As := [.ref (ad 0), .int 98, .ref hi, .int 1, .int 0]) (st := []) (wa := [(lo, .inl (G.2.2 0, 4, .inl (upd (upd (upd (upd (fun _ => 0) 0 0) 1 0) 2 (-1)) 3 0)))]) (w0 := ((hi, .inl (G.2.2 0, 4, .inl (upd (upd (upd (upd (fun _ => 0) 0 10) 1 6) 2 (-2)) 3 10000))) :: (wC G ad W N (enO ad o) (wO ad os o)))) dL_law_974 (d_offer_b_no G hG ad (rx_KS hS.1) (by unfold vp_in; decide +kernel) (by unfold vp_in; decide +kernel) (by unfold vp_in; decide +kernel) (by unfold vp_in; decide +kernel) 1 0 (show xaddB W 10 6 (-2) 10000 1 0 = some "java/lang/IllegalArgumentException" by unfold xaddB; rw [if_pos (by decide)])) gL_law_L_offer rfl (by decide +kernel) (by decide) (Nat.le_of_ble_eq_true rfl) rfl (Nat.le_of_ble_eq_true rfl) ⟨by omega, by omega⟩ rfl rfl (fun rv974 w974 hp974 => ?_)
  obtain ⟨rfl, rfl⟩ := hp974
  show jW G X (k + 220 + 140 + 1 + 1 + 1 + 1 + 1 + 1 + 1 + 1 + 1 + 1 + 1 + 1 + 1 + 1 + 1 + 1) (n + 1320 + 840 + 4 + 4 + 6 + 6 + 6 + 6 + 6 + 6 + 6 + 6 + 6 + 6 + 6 + 6 + 9 + 9) 977 [some (.ref b), some (.ref (ad 0)), some (.ref bg), some (.int (nI m)), none, some (.long (sumF os o (cb (N' 5) m) m (W, N))), none, some (.ref lo), some (.ref hi), none, none, none, none, none, none, none, none, none] [.int (-1001)] ((lo, .inl (G.2.2 0, 4, .inl (upd (upd (upd (upd (fun _ => 0) 0 0) 1 0) 2 (-1)) 3 0))) :: (hi, .inl (G.2.2 0, 4, .inl (upd (upd (upd (upd (fun _ => 0) 0 10) 1 6) 2 (-2)) 3 10000))) :: (wC G ad W N (enO ad o) (wO ad os o)))
  refine j_sipush hX (v := -1001) (by decide) dL_law_977 ?_
  refine j_icmp_ne_f hX (tgt := 999) dL_law_980 (by decide) rfl ?_
  refine j_aload_n hX dL_law_983 rfl ?_
  refine j_bipush hX (v := 116) (by decide) dL_law_984 ?_
  refine j_aload hX dL_law_986 rfl ?_
  refine j_iconst hX (v := 1) (by decide) dL_law_988 ?_
  refine j_iconst hX (v := 0) (by decide) dL_law_989 ?_
  refine jW.pm (ws' := ((hi, .inl (G.2.2 0, 4, .inl (upd (upd (upd (upd (fun _ => 0) 0 10) 1 6) 2 (-2)) 3 10000))) :: (lo, .inl (G.2.2 0, 4, .inl (upd (upd (upd (upd (fun _ => 0) 0 0) 1 0) 2 (-1)) 3 0))) :: (wC G ad W N (enO ad o) (wO ad os o)))) (List.Perm.swap _ _ _) ?_
  refine j_callHa hX hH (nA := 5) (As := [.ref (ad 0), .int 116, .ref lo, .int 1, .int 0]) (st := []) (wa := [(hi, .inl (G.2.2 0, 4, .inl (upd (upd (upd (upd (fun _ => 0) 0 10) 1 6) 2 (-2)) 3 10000)))]) (w0 := ((lo, .inl (G.2.2 0, 4, .inl (upd (upd (upd (upd (fun _ => 0) 0 0) 1 0) 2 (-1)) 3 0))) :: (wC G ad W N (enO ad o) (wO ad os o)))) dL_law_990 (d_offer_t_no G hG ad (rx_KS hS.1) (by unfold vp_in; decide +kernel) (by unfold vp_in; decide +kernel) 1 0 (show xaddT W 0 0 1 0 = some "java/lang/IllegalArgumentException" by unfold xaddT; rw [if_pos (by decide)])) gL_law_L_offer rfl (by decide +kernel) (by decide) (Nat.le_of_ble_eq_true rfl) rfl (Nat.le_of_ble_eq_true rfl) ⟨by omega, by omega⟩ rfl rfl (fun rv990 w990 hp990 => ?_)
  obtain ⟨rfl, rfl⟩ := hp990
  show jW G X (k + 220 + 140 + 1 + 1 + 1 + 1 + 1 + 1 + 1 + 1 + 1 + 1 + 1 + 1 + 1 + 1 + 1 + 1 + 1) (n + 1320 + 840 + 4 + 4 + 6 + 6 + 6 + 6 + 6 + 6 + 6 + 6 + 6 + 6 + 6 + 6 + 9 + 9 + 6) 993 [some (.ref b), some (.ref (ad 0)), some (.ref bg), some (.int (nI m)), none, some (.long (sumF os o (cb (N' 5) m) m (W, N))), none, some (.ref lo), some (.ref hi), none, none, none, none, none, none, none, none, none] [.int (-1001)] ((hi, .inl (G.2.2 0, 4, .inl (upd (upd (upd (upd (fun _ => 0) 0 10) 1 6) 2 (-2)) 3 10000))) :: (lo, .inl (G.2.2 0, 4, .inl (upd (upd (upd (upd (fun _ => 0) 0 0) 1 0) 2 (-1)) 3 0))) :: (wC G ad W N (enO ad o) (wO ad os o)))
  refine j_sipush hX (v := -1001) (by decide) dL_law_993 ?_
  refine j_icmp_eq_t hX (tgt := 1001) dL_law_996 (by decide) rfl ?_
  refine jW.fewer (ws' := (wC G ad W N (enO ad o) (wO ad os o))) (List.Sublist.cons _ (List.Sublist.cons _ (List.Sublist.refl _))) ?_
  refine j_iconst hX (v := 4) (by decide) dL_law_1001 ?_
  refine j_newai hX (N := 4) dL_law_1002 (by decide +kernel) (by decide) (by decide +kernel) (by decide) ⟨by omega, by omega⟩ (fun on => ?_)
  refine jW.pm (ws' := ((on, .inl (G.2.2 0, 4, .inl (fun _ => 0))) :: (wC G ad W N (enO ad o) (wO ad os o)))) (List.perm_append_singleton _ _) ?_
  refine j_dup hX dL_law_1004 rfl ?_
  refine j_iconst hX (v := 0) (by decide) dL_law_1005 ?_
  refine j_iconst hX (v := 1) (by decide) dL_law_1006 ?_
  refine j_iast hX (ws' := ((on, .inl (G.2.2 0, 4, .inl (upd (fun _ => 0) 0 1))) :: (wC G ad W N (enO ad o) (wO ad os o)))) dL_law_1007 0 rfl (by unfold vp_in; decide +kernel) rfl ?_
  refine j_dup hX dL_law_1008 rfl ?_
  refine j_iconst hX (v := 1) (by decide) dL_law_1009 ?_
  refine j_iconst hX (v := 1) (by decide) dL_law_1010 ?_
  refine j_iast hX (ws' := ((on, .inl (G.2.2 0, 4, .inl (upd (upd (fun _ => 0) 0 1) 1 1))) :: (wC G ad W N (enO ad o) (wO ad os o)))) dL_law_1011 0 rfl (by unfold vp_in; decide +kernel) rfl ?_
  refine j_dup hX dL_law_1012 rfl ?_
  refine j_iconst hX (v := 2) (by decide) dL_law_1013 ?_
  refine j_iconst hX (v := 1) (by decide) dL_law_1014 ?_
  refine j_iast hX (ws' := ((on, .inl (G.2.2 0, 4, .inl (upd (upd (upd (fun _ => 0) 0 1) 1 1) 2 1))) :: (wC G ad W N (enO ad o) (wO ad os o)))) dL_law_1015 0 rfl (by unfold vp_in; decide +kernel) rfl ?_
  refine j_dup hX dL_law_1016 rfl ?_
  refine j_iconst hX (v := 3) (by decide) dL_law_1017 ?_
  refine j_iconst hX (v := 1) (by decide) dL_law_1018 ?_
  refine j_iast hX (ws' := ((on, .inl (G.2.2 0, 4, .inl (upd (upd (upd (upd (fun _ => 0) 0 1) 1 1) 2 1) 3 1))) :: (wC G ad W N (enO ad o) (wO ad os o)))) dL_law_1019 0 rfl (by unfold vp_in; decide +kernel) rfl ?_
  refine j_astore hX (ls' := [some (.ref b), some (.ref (ad 0)), some (.ref bg), some (.int (nI m)), none, some (.long (sumF os o (cb (N' 5) m) m (W, N))), none, some (.ref lo), some (.ref hi), some (.ref on), none, none, none, none, none, none, none, none]) dL_law_1020 (Nat.le_of_ble_eq_true rfl) rfl rfl ?_
  refine j_aload_n hX dL_law_1022 rfl ?_
  refine j_bipush hX (v := 112) (by decide) dL_law_1023 ?_
  refine j_aload hX dL_law_1025 rfl ?_
  refine j_iconst hX (v := 0) (by decide) dL_law_1027 ?_
  refine j_iconst hX (v := 0) (by decide) dL_law_1028 ?_
  refine j_callHa hX hH (nA := 5) (As := [.ref (ad 0), .int 112, .ref on, .int 0, .int 0]) (st := []) (wa := []) (w0 := ((on, .inl (G.2.2 0, 4, .inl (upd (upd (upd (upd (fun _ => 0) 0 1) 1 1) 2 1) 3 1))) :: (wC G ad W N (enO ad o) (wO ad os o)))) dL_law_1029 (d_offer_p_no G hG ad (rx_KS hS.1) (by unfold vp_in; decide +kernel) (by unfold vp_in; decide +kernel) 0 0 (show xaddP W 1 1 0 0 = some "java/lang/IllegalArgumentException" by unfold xaddP; rw [if_neg (by decide), if_neg (by decide), if_pos (by decide)])) gL_law_L_offer rfl (by decide +kernel) (by decide) (Nat.le_of_ble_eq_true rfl) rfl (Nat.le_of_ble_eq_true rfl) ⟨by omega, by omega⟩ rfl rfl (fun rv1029 w1029 hp1029 => ?_)
  obtain ⟨rfl, rfl⟩ := hp1029
  show jW G X (k + 220 + 140 + 1 + 1 + 1 + 1 + 1 + 1 + 1 + 1 + 1 + 1 + 1 + 1 + 1 + 1 + 1 + 1 + 1 + 1 + 1) (n + 1320 + 840 + 4 + 4 + 6 + 6 + 6 + 6 + 6 + 6 + 6 + 6 + 6 + 6 + 6 + 6 + 9 + 9 + 6 + 4 + 6) 1032 [some (.ref b), some (.ref (ad 0)), some (.ref bg), some (.int (nI m)), none, some (.long (sumF os o (cb (N' 5) m) m (W, N))), none, some (.ref lo), some (.ref hi), some (.ref on), none, none, none, none, none, none, none, none] [.int (-1001)] ((on, .inl (G.2.2 0, 4, .inl (upd (upd (upd (upd (fun _ => 0) 0 1) 1 1) 2 1) 3 1))) :: (wC G ad W N (enO ad o) (wO ad os o)))
  refine j_sipush hX (v := -1001) (by decide) dL_law_1032 ?_
  refine j_icmp_ne_f hX (tgt := 1196) dL_law_1035 (by decide) rfl ?_
  refine j_aload_n hX dL_law_1038 rfl ?_
  refine j_bipush hX (v := 116) (by decide) dL_law_1039 ?_
  refine j_aload hX dL_law_1041 rfl ?_
  refine j_bipush hX (v := 10) (by decide) dL_law_1043 ?_
  refine j_iconst hX (v := 0) (by decide) dL_law_1045 ?_
  refine j_callHa hX hH (nA := 5) (As := [.ref (ad 0), .int 116, .ref on, .int 10, .int 0]) (st := []) (wa := []) (w0 := ((on, .inl (G.2.2 0, 4, .inl (upd (upd (upd (upd (fun _ => 0) 0 1) 1 1) 2 1) 3 1))) :: (wC G ad W N (enO ad o) (wO ad os o)))) dL_law_1046 (d_offer_t_no G hG ad (rx_KS hS.1) (by unfold vp_in; decide +kernel) (by unfold vp_in; decide +kernel) 10 0 (show xaddT W 1 1 10 0 = some "java/lang/IllegalArgumentException" by unfold xaddT; rw [if_neg (by decide), if_neg (by decide), if_pos (by decide)])) gL_law_L_offer rfl (by decide +kernel) (by decide) (Nat.le_of_ble_eq_true rfl) rfl (Nat.le_of_ble_eq_true rfl) ⟨by omega, by omega⟩ rfl rfl (fun rv1046 w1046 hp1046 => ?_)
  obtain ⟨rfl, rfl⟩ := hp1046
  show jW G X (k + 220 + 140 + 1 + 1 + 1 + 1 + 1 + 1 + 1 + 1 + 1 + 1 + 1 + 1 + 1 + 1 + 1 + 1 + 1 + 1 + 1 + 1) (n + 1320 + 840 + 4 + 4 + 6 + 6 + 6 + 6 + 6 + 6 + 6 + 6 + 6 + 6 + 6 + 6 + 9 + 9 + 6 + 4 + 6 + 6) 1049 [some (.ref b), some (.ref (ad 0)), some (.ref bg), some (.int (nI m)), none, some (.long (sumF os o (cb (N' 5) m) m (W, N))), none, some (.ref lo), some (.ref hi), some (.ref on), none, none, none, none, none, none, none, none] [.int (-1001)] ((on, .inl (G.2.2 0, 4, .inl (upd (upd (upd (upd (fun _ => 0) 0 1) 1 1) 2 1) 3 1))) :: (wC G ad W N (enO ad o) (wO ad os o)))
  refine j_sipush hX (v := -1001) (by decide) dL_law_1049 ?_
  refine j_icmp_ne_f hX (tgt := 1196) dL_law_1052 (by decide) rfl ?_
  refine j_aload_n hX dL_law_1055 rfl ?_
  refine j_bipush hX (v := 98) (by decide) dL_law_1056 ?_
  refine j_aload hX dL_law_1058 rfl ?_
  refine j_iconst hX (v := 1) (by decide) dL_law_1060 ?_
  refine j_iconst hX (v := 4) (by decide) dL_law_1061 ?_
  refine j_callHa hX hH (nA := 5) (As := [.ref (ad 0), .int 98, .ref on, .int 1, .int 4]) (st := []) (wa := []) (w0 := ((on, .inl (G.2.2 0, 4, .inl (upd (upd (upd (upd (fun _ => 0) 0 1) 1 1) 2 1) 3 1))) :: (wC G ad W N (enO ad o) (wO ad os o)))) dL_law_1062 (d_offer_b_no G hG ad (rx_KS hS.1) (by unfold vp_in; decide +kernel) (by unfold vp_in; decide +kernel) (by unfold vp_in; decide +kernel) (by unfold vp_in; decide +kernel) 1 4 (show xaddB W 1 1 1 1 1 4 = some "java/lang/IllegalArgumentException" by unfold xaddB; rw [if_neg (by decide), if_neg (by decide), if_neg (by decide), if_neg (by decide), if_pos (by decide)])) gL_law_L_offer rfl (by decide +kernel) (by decide) (Nat.le_of_ble_eq_true rfl) rfl (Nat.le_of_ble_eq_true rfl) ⟨by omega, by omega⟩ rfl rfl (fun rv1062 w1062 hp1062 => ?_)
  obtain ⟨rfl, rfl⟩ := hp1062
  show jW G X (k + 220 + 140 + 1 + 1 + 1 + 1 + 1 + 1 + 1 + 1 + 1 + 1 + 1 + 1 + 1 + 1 + 1 + 1 + 1 + 1 + 1 + 1 + 1) (n + 1320 + 840 + 4 + 4 + 6 + 6 + 6 + 6 + 6 + 6 + 6 + 6 + 6 + 6 + 6 + 6 + 9 + 9 + 6 + 4 + 6 + 6 + 9) 1065 [some (.ref b), some (.ref (ad 0)), some (.ref bg), some (.int (nI m)), none, some (.long (sumF os o (cb (N' 5) m) m (W, N))), none, some (.ref lo), some (.ref hi), some (.ref on), none, none, none, none, none, none, none, none] [.int (-1001)] ((on, .inl (G.2.2 0, 4, .inl (upd (upd (upd (upd (fun _ => 0) 0 1) 1 1) 2 1) 3 1))) :: (wC G ad W N (enO ad o) (wO ad os o)))
  refine j_sipush hX (v := -1001) (by decide) dL_law_1065 ?_
  refine j_icmp_ne_f hX (tgt := 1196) dL_law_1068 (by decide) rfl ?_
  refine j_aload_n hX dL_law_1071 rfl ?_
  refine j_bipush hX (v := 112) (by decide) dL_law_1072 ?_
  refine j_aload hX dL_law_1074 rfl ?_
  refine j_iconst hX (v := 1) (by decide) dL_law_1076 ?_
  refine j_bipush hX (v := -2) (by decide) dL_law_1077 ?_
  refine j_callHa hX hH (nA := 5) (As := [.ref (ad 0), .int 112, .ref on, .int 1, .int (-2)]) (st := []) (wa := []) (w0 := ((on, .inl (G.2.2 0, 4, .inl (upd (upd (upd (upd (fun _ => 0) 0 1) 1 1) 2 1) 3 1))) :: (wC G ad W N (enO ad o) (wO ad os o)))) dL_law_1079 (d_offer_p_no G hG ad (rx_KS hS.1) (by unfold vp_in; decide +kernel) (by unfold vp_in; decide +kernel) 1 (-2) (show xaddP W 1 1 1 (-2) = some "java/lang/IllegalArgumentException" by unfold xaddP; rw [if_neg (by decide), if_neg (by decide), if_pos (by decide)])) gL_law_L_offer rfl (by decide +kernel) (by decide) (Nat.le_of_ble_eq_true rfl) rfl (Nat.le_of_ble_eq_true rfl) ⟨by omega, by omega⟩ rfl rfl (fun rv1079 w1079 hp1079 => ?_)
  obtain ⟨rfl, rfl⟩ := hp1079
  show jW G X (k + 220 + 140 + 1 + 1 + 1 + 1 + 1 + 1 + 1 + 1 + 1 + 1 + 1 + 1 + 1 + 1 + 1 + 1 + 1 + 1 + 1 + 1 + 1 + 1) (n + 1320 + 840 + 4 + 4 + 6 + 6 + 6 + 6 + 6 + 6 + 6 + 6 + 6 + 6 + 6 + 6 + 9 + 9 + 6 + 4 + 6 + 6 + 9 + 6) 1082 [some (.ref b), some (.ref (ad 0)), some (.ref bg), some (.int (nI m)), none, some (.long (sumF os o (cb (N' 5) m) m (W, N))), none, some (.ref lo), some (.ref hi), some (.ref on), none, none, none, none, none, none, none, none] [.int (-1001)] ((on, .inl (G.2.2 0, 4, .inl (upd (upd (upd (upd (fun _ => 0) 0 1) 1 1) 2 1) 3 1))) :: (wC G ad W N (enO ad o) (wO ad os o)))
  refine j_sipush hX (v := -1001) (by decide) dL_law_1082 ?_
  refine j_icmp_ne_f hX (tgt := 1196) dL_law_1085 (by decide) rfl ?_
  refine j_aload_n hX dL_law_1088 rfl ?_
  refine j_aload_n hX dL_law_1089 rfl ?_
  refine j_dVa hX (nA := 0) (cq := (RX11, TX11, 7)) (As := []) (st := [.ref (ad 0)]) (st' := [.int (W 4), .ref (ad 0)]) (ci := 12) (wa := [(on, .inl (G.2.2 0, 4, .inl (upd (upd (upd (upd (fun _ => 0) 0 1) 1 1) 2 1) 3 1)))]) (w0 := (wC G ad W N (enO ad o) (wO ad os o))) (w1 := (wC G ad W N (enO ad o) (wO ad os o))) rfl dL_law_1090 (c_X11_offers G ad W N (enO ad o) (wO ad os o)) gL_law_X11_offers rfl (by decide +kernel) (wCg0 G ad W N (enO ad o) (wO ad os o)) (by decide) (Nat.le_of_ble_eq_true rfl) rfl (Nat.le_of_ble_eq_true rfl) rfl ⟨by omega, by omega⟩ rfl rfl ?_
  refine jW.top (y := nI o) hso ?_
  refine j_bipush hX (v := 117) (by decide) dL_law_1093 ?_
  refine j_callHa hX hH (nA := 3) (As := [.ref (ad 0), .int (nI o), .int 117]) (st := []) (wa := [(on, .inl (G.2.2 0, 4, .inl (upd (upd (upd (upd (fun _ => 0) 0 1) 1 1) 2 1) 3 1)))]) (w0 := (wC G ad W N (enO ad o) (wO ad os o))) dL_law_1095 (d_of_u G hG ad hZ (nI o)) gL_law_L_of rfl (by decide +kernel) (by decide) (Nat.le_of_ble_eq_true rfl) rfl (Nat.le_of_ble_eq_true rfl) ⟨by omega, by omega⟩ rfl rfl (fun rv1095 w1095 hp1095 => ?_)
  obtain ⟨rfl, rfl⟩ := hp1095
  show jW G X (k + 220 + 140 + 1 + 1 + 1 + 1 + 1 + 1 + 1 + 1 + 1 + 1 + 1 + 1 + 1 + 1 + 1 + 1 + 1 + 1 + 1 + 1 + 1 + 1 + 1) (n + 1320 + 840 + 4 + 4 + 6 + 6 + 6 + 6 + 6 + 6 + 6 + 6 + 6 + 6 + 6 + 6 + 9 + 9 + 6 + 4 + 6 + 6 + 9 + 6 + 6) 1098 [some (.ref b), some (.ref (ad 0)), some (.ref bg), some (.int (nI m)), none, some (.long (sumF os o (cb (N' 5) m) m (W, N))), none, some (.ref lo), some (.ref hi), some (.ref on), none, none, none, none, none, none, none, none] [.int (ansU (W, N) (nI o))] ((on, .inl (G.2.2 0, 4, .inl (upd (upd (upd (upd (fun _ => 0) 0 1) 1 1) 2 1) 3 1))) :: (wC G ad W N (enO ad o) (wO ad os o)))
  refine jW.top (y := -1001) (if_neg (some_nn (xoff_ge hso (Nat.le_refl o) (by omega)))) ?_
  refine j_sipush hX (v := -1001) (by decide) dL_law_1098 ?_
  refine j_icmp_ne_f hX (tgt := 1196) dL_law_1101 (by decide) rfl ?_
  refine j_aload_n hX dL_law_1104 rfl ?_
  refine j_iconst hX (v := -1) (by decide) dL_law_1105 ?_
  refine j_bipush hX (v := 108) (by decide) dL_law_1106 ?_
  refine j_callHa hX hH (nA := 3) (As := [.ref (ad 0), .int (-1), .int 108]) (st := []) (wa := [(on, .inl (G.2.2 0, 4, .inl (upd (upd (upd (upd (fun _ => 0) 0 1) 1 1) 2 1) 3 1)))]) (w0 := (wC G ad W N (enO ad o) (wO ad os o))) dL_law_1108 (d_of_l G hG ad hZ (-1)) gL_law_L_of rfl (by decide +kernel) (by decide) (Nat.le_of_ble_eq_true rfl) rfl (Nat.le_of_ble_eq_true rfl) ⟨by omega, by omega⟩ rfl rfl (fun rv1108 w1108 hp1108 => ?_)
  obtain ⟨rfl, rfl⟩ := hp1108
  show jW G X (k + 220 + 140 + 1 + 1 + 1 + 1 + 1 + 1 + 1 + 1 + 1 + 1 + 1 + 1 + 1 + 1 + 1 + 1 + 1 + 1 + 1 + 1 + 1 + 1 + 1 + 1) (n + 1320 + 840 + 4 + 4 + 6 + 6 + 6 + 6 + 6 + 6 + 6 + 6 + 6 + 6 + 6 + 6 + 9 + 9 + 6 + 4 + 6 + 6 + 9 + 6 + 6 + 6) 1111 [some (.ref b), some (.ref (ad 0)), some (.ref bg), some (.int (nI m)), none, some (.long (sumF os o (cb (N' 5) m) m (W, N))), none, some (.ref lo), some (.ref hi), some (.ref on), none, none, none, none, none, none, none, none] [.int (ansL os o (W, N) (-1))] ((on, .inl (G.2.2 0, 4, .inl (upd (upd (upd (upd (fun _ => 0) 0 1) 1 1) 2 1) 3 1))) :: (wC G ad W N (enO ad o) (wO ad os o)))
  refine jW.top (y := -1001) (if_neg (some_nn (xoff_neg _))) ?_
  refine j_sipush hX (v := -1001) (by decide) dL_law_1111 ?_
  refine j_icmp_ne_f hX (tgt := 1196) dL_law_1114 (by decide) rfl ?_
  refine j_aload_n hX dL_law_1117 rfl ?_
  refine j_bipush hX (v := 6) (by decide) dL_law_1118 ?_
  refine j_bipush hX (v := 114) (by decide) dL_law_1120 ?_
  refine j_callHa hX hH (nA := 3) (As := [.ref (ad 0), .int 6, .int 114]) (st := []) (wa := [(on, .inl (G.2.2 0, 4, .inl (upd (upd (upd (upd (fun _ => 0) 0 1) 1 1) 2 1) 3 1)))]) (w0 := (wC G ad W N (enO ad o) (wO ad os o))) dL_law_1122 (d_of_r G hG ad hZ 6) gL_law_L_of rfl (by decide +kernel) (by decide) (Nat.le_of_ble_eq_true rfl) rfl (Nat.le_of_ble_eq_true rfl) ⟨by omega, by omega⟩ rfl rfl (fun rv1122 w1122 hp1122 => ?_)
  obtain ⟨rfl, rfl⟩ := hp1122
  show jW G X (k + 220 + 140 + 1 + 1 + 1 + 1 + 1 + 1 + 1 + 1 + 1 + 1 + 1 + 1 + 1 + 1 + 1 + 1 + 1 + 1 + 1 + 1 + 1 + 1 + 1 + 1 + 1) (n + 1320 + 840 + 4 + 4 + 6 + 6 + 6 + 6 + 6 + 6 + 6 + 6 + 6 + 6 + 6 + 6 + 9 + 9 + 6 + 4 + 6 + 6 + 9 + 6 + 6 + 6 + 6) 1125 [some (.ref b), some (.ref (ad 0)), some (.ref bg), some (.int (nI m)), none, some (.long (sumF os o (cb (N' 5) m) m (W, N))), none, some (.ref lo), some (.ref hi), some (.ref on), none, none, none, none, none, none, none, none] [.int (ansR os o (W, N) 6)] ((on, .inl (G.2.2 0, 4, .inl (upd (upd (upd (upd (fun _ => 0) 0 1) 1 1) 2 1) 3 1))) :: (wC G ad W N (enO ad o) (wO ad os o)))
  refine jW.top (y := -1001) (if_neg (some_nn (xoff_ge (z := 6) hso ho6 (by decide)))) ?_
  refine j_sipush hX (v := -1001) (by decide) dL_law_1125 ?_
  refine j_icmp_ne_f hX (tgt := 1196) dL_law_1128 (by decide) rfl ?_
  refine j_aload_n hX dL_law_1131 rfl ?_
  refine j_bipush hX (v := 60) (by decide) dL_law_1132 ?_
  refine j_iconst hX (v := 0) (by decide) dL_law_1134 ?_
  refine j_callHa hX hH (nA := 3) (As := [.ref (ad 0), .int 60, .int 0]) (st := []) (wa := [(on, .inl (G.2.2 0, 4, .inl (upd (upd (upd (upd (fun _ => 0) 0 1) 1 1) 2 1) 3 1)))]) (w0 := (wC G ad W N (enO ad o) (wO ad os o))) dL_law_1135 (d_item_o G hG ad hZ 60) gL_law_L_item rfl (by decide +kernel) (by decide) (Nat.le_of_ble_eq_true rfl) rfl (Nat.le_of_ble_eq_true rfl) ⟨by omega, by omega⟩ rfl rfl (fun rv1135 w1135 hp1135 => ?_)
  obtain ⟨rfl, rfl⟩ := hp1135
  show jW G X (k + 220 + 140 + 1 + 1 + 1 + 1 + 1 + 1 + 1 + 1 + 1 + 1 + 1 + 1 + 1 + 1 + 1 + 1 + 1 + 1 + 1 + 1 + 1 + 1 + 1 + 1 + 1 + 1) (n + 1320 + 840 + 4 + 4 + 6 + 6 + 6 + 6 + 6 + 6 + 6 + 6 + 6 + 6 + 6 + 6 + 9 + 9 + 6 + 4 + 6 + 6 + 9 + 6 + 6 + 6 + 6 + 6) 1138 [some (.ref b), some (.ref (ad 0)), some (.ref bg), some (.int (nI m)), none, some (.long (sumF os o (cb (N' 5) m) m (W, N))), none, some (.ref lo), some (.ref hi), some (.ref on), none, none, none, none, none, none, none, none] [.int (ansO (W, N) (cb (N' 5) m) 60)] ((on, .inl (G.2.2 0, 4, .inl (upd (upd (upd (upd (fun _ => 0) 0 1) 1 1) 2 1) 3 1))) :: (wC G ad W N (enO ad o) (wO ad os o)))
  refine jW.top (y := -1001) (if_neg (some_nn (st_out hS.1 (z := 60) ha (by decide)))) ?_
  refine j_sipush hX (v := -1001) (by decide) dL_law_1138 ?_
  refine j_icmp_ne_f hX (tgt := 1196) dL_law_1141 (by decide) rfl ?_
  refine j_aload_n hX dL_law_1144 rfl ?_
  refine j_iconst hX (v := -1) (by decide) dL_law_1145 ?_
  refine j_iconst hX (v := 1) (by decide) dL_law_1146 ?_
  refine j_callHa hX hH (nA := 3) (As := [.ref (ad 0), .int (-1), .int 1]) (st := []) (wa := [(on, .inl (G.2.2 0, 4, .inl (upd (upd (upd (upd (fun _ => 0) 0 1) 1 1) 2 1) 3 1)))]) (w0 := (wC G ad W N (enO ad o) (wO ad os o))) dL_law_1147 (d_item_n G hG ad hZ (-1)) gL_law_L_item rfl (by decide +kernel) (by decide) (Nat.le_of_ble_eq_true rfl) rfl (Nat.le_of_ble_eq_true rfl) ⟨by omega, by omega⟩ rfl rfl (fun rv1147 w1147 hp1147 => ?_)
  obtain ⟨rfl, rfl⟩ := hp1147
  show jW G X (k + 220 + 140 + 1 + 1 + 1 + 1 + 1 + 1 + 1 + 1 + 1 + 1 + 1 + 1 + 1 + 1 + 1 + 1 + 1 + 1 + 1 + 1 + 1 + 1 + 1 + 1 + 1 + 1 + 1) (n + 1320 + 840 + 4 + 4 + 6 + 6 + 6 + 6 + 6 + 6 + 6 + 6 + 6 + 6 + 6 + 6 + 9 + 9 + 6 + 4 + 6 + 6 + 9 + 6 + 6 + 6 + 6 + 6 + 6) 1150 [some (.ref b), some (.ref (ad 0)), some (.ref bg), some (.int (nI m)), none, some (.long (sumF os o (cb (N' 5) m) m (W, N))), none, some (.ref lo), some (.ref hi), some (.ref on), none, none, none, none, none, none, none, none] [.int (ansN (W, N) (cb (N' 5) m) (-1))] ((on, .inl (G.2.2 0, 4, .inl (upd (upd (upd (upd (fun _ => 0) 0 1) 1 1) 2 1) 3 1))) :: (wC G ad W N (enO ad o) (wO ad os o)))
  refine jW.top (y := -1001) (if_neg (some_nn (st_neg hS.1))) ?_
  refine j_sipush hX (v := -1001) (by decide) dL_law_1150 ?_
  refine j_icmp_ne_f hX (tgt := 1196) dL_law_1153 (by decide) rfl ?_
  refine j_aload_n hX dL_law_1156 rfl ?_
  refine j_bipush hX (v := 60) (by decide) dL_law_1157 ?_
  refine j_callHa hX hH (nA := 2) (As := [.ref (ad 0), .int 60]) (st := []) (wa := [(on, .inl (G.2.2 0, 4, .inl (upd (upd (upd (upd (fun _ => 0) 0 1) 1 1) 2 1) 3 1)))]) (w0 := (wC G ad W N (enO ad o) (wO ad os o))) dL_law_1159 (d_back_no G hG ad 60 (xback_60 _)) gL_law_L_back rfl (by decide +kernel) (by decide) (Nat.le_of_ble_eq_true rfl) rfl (Nat.le_of_ble_eq_true rfl) ⟨by omega, by omega⟩ rfl rfl (fun rv1159 w1159 hp1159 => ?_)
  obtain ⟨rfl, rfl⟩ := hp1159
  show jW G X (k + 220 + 140 + 1 + 1 + 1 + 1 + 1 + 1 + 1 + 1 + 1 + 1 + 1 + 1 + 1 + 1 + 1 + 1 + 1 + 1 + 1 + 1 + 1 + 1 + 1 + 1 + 1 + 1 + 1 + 1) (n + 1320 + 840 + 4 + 4 + 6 + 6 + 6 + 6 + 6 + 6 + 6 + 6 + 6 + 6 + 6 + 6 + 9 + 9 + 6 + 4 + 6 + 6 + 9 + 6 + 6 + 6 + 6 + 6 + 6 + 6) 1162 [some (.ref b), some (.ref (ad 0)), some (.ref bg), some (.int (nI m)), none, some (.long (sumF os o (cb (N' 5) m) m (W, N))), none, some (.ref lo), some (.ref hi), some (.ref on), none, none, none, none, none, none, none, none] [.int (-1001)] ((on, .inl (G.2.2 0, 4, .inl (upd (upd (upd (upd (fun _ => 0) 0 1) 1 1) 2 1) 3 1))) :: (wC G ad W N (enO ad o) (wO ad os o)))
  refine j_sipush hX (v := -1001) (by decide) dL_law_1162 ?_
  refine j_icmp_ne_f hX (tgt := 1196) dL_law_1165 (by decide) rfl ?_
  refine j_aload_n hX dL_law_1168 rfl ?_
  refine j_iconst hX (v := -1) (by decide) dL_law_1169 ?_
  refine j_callHa hX hH (nA := 2) (As := [.ref (ad 0), .int (-1)]) (st := []) (wa := [(on, .inl (G.2.2 0, 4, .inl (upd (upd (upd (upd (fun _ => 0) 0 1) 1 1) 2 1) 3 1)))]) (w0 := (wC G ad W N (enO ad o) (wO ad os o))) dL_law_1170 (d_buyer G hG ad hZ (-1)) gL_law_L_buyer rfl (by decide +kernel) (by decide) (Nat.le_of_ble_eq_true rfl) rfl (Nat.le_of_ble_eq_true rfl) ⟨by omega, by omega⟩ rfl rfl (fun rv1170 w1170 hp1170 => ?_)
  obtain ⟨rfl, rfl⟩ := hp1170
  show jW G X (k + 220 + 140 + 1 + 1 + 1 + 1 + 1 + 1 + 1 + 1 + 1 + 1 + 1 + 1 + 1 + 1 + 1 + 1 + 1 + 1 + 1 + 1 + 1 + 1 + 1 + 1 + 1 + 1 + 1 + 1 + 1) (n + 1320 + 840 + 4 + 4 + 6 + 6 + 6 + 6 + 6 + 6 + 6 + 6 + 6 + 6 + 6 + 6 + 9 + 9 + 6 + 4 + 6 + 6 + 9 + 6 + 6 + 6 + 6 + 6 + 6 + 6 + 6) 1173 [some (.ref b), some (.ref (ad 0)), some (.ref bg), some (.int (nI m)), none, some (.long (sumF os o (cb (N' 5) m) m (W, N))), none, some (.ref lo), some (.ref hi), some (.ref on), none, none, none, none, none, none, none, none] [.int (ansB (W, N) (-1))] ((on, .inl (G.2.2 0, 4, .inl (upd (upd (upd (upd (fun _ => 0) 0 1) 1 1) 2 1) 3 1))) :: (wC G ad W N (enO ad o) (wO ad os o)))
  refine jW.top (y := -1001) (if_neg (some_nn (xsold_neg _))) ?_
  refine j_sipush hX (v := -1001) (by decide) dL_law_1173 ?_
  refine j_icmp_ne_f hX (tgt := 1196) dL_law_1176 (by decide) rfl ?_
  refine j_aload_n hX dL_law_1179 rfl ?_
  refine j_dVa hX (nA := 0) (cq := (RX11, TX11, 7)) (As := []) (st := []) (st' := [.int (W 2)]) (ci := 12) (wa := [(on, .inl (G.2.2 0, 4, .inl (upd (upd (upd (upd (fun _ => 0) 0 1) 1 1) 2 1) 3 1)))]) (w0 := (wC G ad W N (enO ad o) (wO ad os o))) (w1 := (wC G ad W N (enO ad o) (wO ad os o))) rfl dL_law_1180 (c_X11_items G ad W N (enO ad o) (wO ad os o)) gL_law_X11_items rfl (by decide +kernel) (wCg0 G ad W N (enO ad o) (wO ad os o)) (by decide) (Nat.le_of_ble_eq_true rfl) rfl (Nat.le_of_ble_eq_true rfl) rfl ⟨by omega, by omega⟩ rfl rfl ?_
  have hj : ∀ k' n' : Nat, k' ≤ k + 450 → n' ≤ n + 3000 → jW G X k' n' 1198 [some (.ref b), some (.ref (ad 0)), some (.ref bg), some (.int (nI m)), none, some (.long (sumF os o (cb (N' 5) m) m (W, N))), none, some (.ref lo), some (.ref hi), some (.ref on), none, none, none, none, none, none, none, none] [] ((on, .inl (G.2.2 0, 4, .inl (upd (upd (upd (upd (fun _ => 0) 0 1) 1 1) 2 1) 3 1))) :: (wC G ad W N (enO ad o) (wO ad os o))) := by
    intro k' n' h1 h2
    refine jW.fewer (ws' := (wC G ad W N (enO ad o) (wO ad os o))) (List.sublist_cons_self _ _) ?_
    refine jW.drop (ls' := [some (.ref b), some (.ref (ad 0)), none, some (.int (nI m)), none, some (.long (sumF os o (cb (N' 5) m) m (W, N))), none, none, none, none, none, none, none, none, none, none, none, none]) ⟨Or.inr rfl, Or.inr rfl, Or.inl rfl, Or.inr rfl, Or.inr rfl, Or.inr rfl, Or.inr rfl, Or.inl rfl, Or.inl rfl, Or.inl rfl, Or.inr rfl, Or.inr rfl, Or.inr rfl, Or.inr rfl, Or.inr rfl, Or.inr rfl, Or.inr rfl, Or.inr rfl, trivial⟩ ?_
    exact jW.widen (k' := k + 450) (n' := n + 3000) h1 h2 h1198
  refine j_if_ne hX (tgt := 1198) dL_law_1183 (by decide) (fun _ => hj _ _ (by omega) (by omega)) (fun h2 => ?_)
  refine j_aload_n hX dL_law_1186 rfl ?_
  refine j_callHa hX hH (nA := 1) (As := [.ref (ad 0)]) (st := []) (wa := [(on, .inl (G.2.2 0, 4, .inl (upd (upd (upd (upd (fun _ => 0) 0 1) 1 1) 2 1) 3 1)))]) (w0 := (wC G ad W N (enO ad o) (wO ad os o))) dL_law_1187 (d_sell_no G hG ad (rx_KS hS.1) (if_pos h2)) gL_law_L_sell rfl (by decide +kernel) (by decide) (Nat.le_of_ble_eq_true rfl) rfl (Nat.le_of_ble_eq_true rfl) ⟨by omega, by omega⟩ rfl rfl (fun rv1187 w1187 hp1187 => ?_)
  obtain ⟨rfl, rfl⟩ := hp1187
  show jW G X (k + 220 + 140 + 1 + 1 + 1 + 1 + 1 + 1 + 1 + 1 + 1 + 1 + 1 + 1 + 1 + 1 + 1 + 1 + 1 + 1 + 1 + 1 + 1 + 1 + 1 + 1 + 1 + 1 + 1 + 1 + 1 + 1) (n + 1320 + 840 + 4 + 4 + 6 + 6 + 6 + 6 + 6 + 6 + 6 + 6 + 6 + 6 + 6 + 6 + 9 + 9 + 6 + 4 + 6 + 6 + 9 + 6 + 6 + 6 + 6 + 6 + 6 + 6 + 6 + 6) 1190 [some (.ref b), some (.ref (ad 0)), some (.ref bg), some (.int (nI m)), none, some (.long (sumF os o (cb (N' 5) m) m (W, N))), none, some (.ref lo), some (.ref hi), some (.ref on), none, none, none, none, none, none, none, none] [.int (-1001)] ((on, .inl (G.2.2 0, 4, .inl (upd (upd (upd (upd (fun _ => 0) 0 1) 1 1) 2 1) 3 1))) :: (wC G ad W N (enO ad o) (wO ad os o)))
  refine j_sipush hX (v := -1001) (by decide) dL_law_1190 ?_
  refine j_icmp_eq_t hX (tgt := 1198) dL_law_1193 (by decide) rfl ?_
  exact hj _ _ (by omega) (by omega)
