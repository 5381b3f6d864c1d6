/-! THE LAW'S CASES. -/
set_option maxHeartbeats 4000000 in
set_option maxRecDepth 100000 in
theorem lc_0 {G : jG} {X : jX} {k n : Nat} {post : Option Value → va_W → Prop} (hX : jOK G X RL cL_law wsL_law (some .boolean) 9 2048 603072 7194730 post) (hH : jTL X) (hG : G.1.stackTraces = false) {b L : Nat} {xs : Nat → Int32} (hs : jScr X b L xs) (hL : L ≤ 3584) {bx bm bo bd i : Nat} (hi : i + 7 ≤ L) (hk : k + 1 ≤ 603072 ∧ n + 9 ≤ 7194730) {ws : va_W} (hw : LW G bm bd bo bx ws) (kk : ∀ ws' : va_W, LW G bm bd bo bx ws' → jW G X (k + 1) (n + 9) 1437 [some (.ref b), some (.ref bx), some (.ref bm), some (.ref bo), some (.ref bd), some (.int (nI i)), none, none, none] [] ws') : jW G X k n 160 [some (.ref b), some (.ref bx), some (.ref bm), some (.ref bo), some (.ref bd), some (.int (nI i)), none, none, none] [] ws := by
  obtain ⟨V', M', t, ad', fd, fo, w, ⟨V, M, os, a, o, c, ad, h, rfl, rfl⟩, rfl, rfl⟩ := hw
  have hJ := RX_mJ h
  obtain ⟨ha, ha6, hcb, ho2, ho, hc1, hc, -⟩ := id hJ
  have hsz := h.1.2.2.1.1
  have hn := h.1.2.2.1.2
  have hso := h.1.2.2.2.1.1
  have hos := RX_okO h
  refine j_aload_n hX dL_law_160 rfl ?_
  refine lw_ld hX hs dL_law_161 dL_law_162 dL_law_164 dL_law_165 dL_law_166 (zi := 1) (by decide) rfl rfl (by omega) hL ?_
  refine lw_ld hX hs dL_law_167 dL_law_168 dL_law_170 dL_law_171 dL_law_172 (zi := 2) (by decide) rfl rfl (by omega) hL ?_
  refine j_aload_n hX dL_law_173 rfl ?_
  refine j_callH hX hH (nA := 4) (As := [.ref (ad 0), .int (xs (i + 1)), .int (xs (i + 2)), .ref bo]) (st := []) (wa := wM G ad' V' M' t ++ [(bd, .inl (G.2.2 6, 1, .inr (.inr (.inr (.inl fd)))))]) (w0 := (bo, .inl (G.2.2 5, 1, .inr (.inl fo))) :: wC G ad V M (enO ad o) (wO ad os o)) (wb := []) dL_law_174 (c_L_put G (wCg0 G ad V M (enO ad o) (wO ad os o)) (xs (i + 1)) (xs (i + 2)) (c_X11_put G hG ad V M (enO ad o) (wO ad os o) (xs (i + 1)) (xs (i + 2))) (fun rv w1 hp => ⟨_, hp.2.1⟩) (fun E hE => ((cl_put h (xs (i + 1)) (xs (i + 2))).2 E hE).1.elim (fun q => Or.inl q.1) (fun q => Or.inr q.1)) bo fo) gL_law_L_put rfl (by decide +kernel) (by decide) (Nat.le_of_ble_eq_true rfl) rfl (Nat.le_of_ble_eq_true rfl) ⟨by omega, by omega⟩ rfl (by simp) (fun rv w2 hp => ?_)
  have hU : ∃ (fo2 : Nat → Int64) (w3 : va_W), rv = some (.int ((mput a V' M' (xs (i + 1)) (xs (i + 2))).2.1 4)) ∧ w2 = (bo, .inl (G.2.2 5, 1, .inr (.inl fo2))) :: w3 ∧ (((mput a V' M' (xs (i + 1)) (xs (i + 2))).2.1 4) = 0 → fo2 0 = ((mput a V' M' (xs (i + 1)) (xs (i + 2))).1).toInt64) ∧ CW G (ad 0) w3 (mput a V' M' (xs (i + 1)) (xs (i + 2))).2.1 (mput a V' M' (xs (i + 1)) (xs (i + 2))).2.2 t := by
    rcases hp with ⟨v, w1, ⟨p1, p2, p3⟩, h2, h3⟩ | ⟨E, hE, h2, h3⟩
    · obtain ⟨g1, g2, g3⟩ := (cl_put h (xs (i + 1)) (xs (i + 2))).1 p1
      have e9 : v = _ := Value.int.inj (Option.some.inj p2)
      exact lu_a g1 (e9.trans g2) h2 h3 ⟨_, _, _, _, _, _, ad, g3, rfl, p3⟩
    · obtain ⟨q1, g3⟩ := (cl_put h (xs (i + 1)) (xs (i + 2))).2 E hE
      obtain ⟨z, hz, z1, z2⟩ := lu_2 (e1 := "java/lang/IllegalArgumentException") (e2 := "java/lang/IllegalStateException") (by decide) q1 h2
      exact lu_b hz z1 z2 h3 ⟨_, _, _, _, _, _, ad, g3, rfl, rfl⟩
  obtain ⟨fo2, w3, rfl, rfl, hr, hC⟩ := hU
  refine jW.world (ws' := wM G ad' V' M' t ++ ((bd, .inl (G.2.2 6, 1, .inr (.inr (.inr (.inl fd))))) :: (bo, .inl (G.2.2 5, 1, .inr (.inl fo2))) :: w3)) (by simp) ?_
  refine jW.stk (st' := [.int ((mput a V' M' (xs (i + 1)) (xs (i + 2))).2.1 4)]) rfl ?_
  refine j_istore hX (ls' := [some (.ref b), some (.ref (ad 0)), some (.ref (ad' 0)), some (.ref bo), some (.ref bd), some (.int (nI i)), some (.int ((mput a V' M' (xs (i + 1)) (xs (i + 2))).2.1 4)), none, none]) dL_law_177 (Nat.le_of_ble_eq_true rfl) rfl rfl ?_
  refine j_aload_n hX dL_law_179 rfl ?_
  refine lw_ld hX hs dL_law_180 dL_law_181 dL_law_183 dL_law_184 dL_law_185 (zi := 1) (by decide) rfl rfl (by omega) hL ?_
  refine lw_ld hX hs dL_law_186 dL_law_187 dL_law_189 dL_law_190 dL_law_191 (zi := 2) (by decide) rfl rfl (by omega) hL ?_
  refine j_callV hX (nA := 2) (cq := (RX12, TX12, 37)) (As := [.int (xs (i + 1)), .int (xs (i + 2))]) (st := []) (ci := 13) (wa := []) (w0 := wM G ad' V' M' t) (wb := (bd, .inl (G.2.2 6, 1, .inr (.inr (.inr (.inl fd))))) :: (bo, .inl (G.2.2 5, 1, .inr (.inl fo2))) :: w3) rfl dL_law_192 (c_X12_put G ad' V' M' t a ha ha6 hcb (xs (i + 1)) (xs (i + 2))) gL_law_X12_put rfl (by decide +kernel) (q := 0) rfl (by decide) (Nat.le_of_ble_eq_true rfl) rfl (Nat.le_of_ble_eq_true rfl) ⟨by omega, by omega⟩ rfl rfl (fun rv4 w4 hp4 => ?_)
  obtain ⟨rfl, rfl⟩ := hp4
  refine jW.world (ws' := wM G ad' (mput a V' M' (xs (i + 1)) (xs (i + 2))).2.1 (mput a V' M' (xs (i + 1)) (xs (i + 2))).2.2 t ++ ((bd, .inl (G.2.2 6, 1, .inr (.inr (.inr (.inl fd))))) :: (bo, .inl (G.2.2 5, 1, .inr (.inl fo2))) :: w3)) rfl ?_
  refine jW.stk (st' := [.int (mput a V' M' (xs (i + 1)) (xs (i + 2))).1]) rfl ?_
  exact lw_tl hX (V' := (mput a V' M' (xs (i + 1)) (xs (i + 2))).2.1) (M' := (mput a V' M' (xs (i + 1)) (xs (i + 2))).2.2) (t := t) rfl hr ⟨by omega, by omega⟩ dL_law_195 dL_law_197 dL_law_198 dL_law_201 dL_law_203 dL_law_208 dL_law_210 dL_law_213 dL_law_214 dL_law_215 dL_law_216 dL_law_218 dL_law_219 dL_law_220 dL_law_225 (by decide) (jW.widen (k' := k + 1) (n' := n + 9) (by omega) (by omega) (kk _ ⟨(mput a V' M' (xs (i + 1)) (xs (i + 2))).2.1, (mput a V' M' (xs (i + 1)) (xs (i + 2))).2.2, t, ad', fd, fo2, w3, hC, rfl, rfl⟩))
set_option maxHeartbeats 4000000 in
set_option maxRecDepth 100000 in
theorem lc_1 {G : jG} {X : jX} {k n : Nat} {post : Option Value → va_W → Prop} (hX : jOK G X RL cL_law wsL_law (some .boolean) 9 2048 603072 7194730 post) (hH : jTL X) (hG : G.1.stackTraces = false) {b L : Nat} {xs : Nat → Int32} (hs : jScr X b L xs) (hL : L ≤ 3584) {bx bm bo bd i : Nat} (hi : i + 7 ≤ L) (hk : k + 1 ≤ 603072 ∧ n + 9 ≤ 7194730) {ws : va_W} (hw : LW G bm bd bo bx ws) (kk : ∀ ws' : va_W, LW G bm bd bo bx ws' → jW G X (k + 1) (n + 9) 1437 [some (.ref b), some (.ref bx), some (.ref bm), some (.ref bo), some (.ref bd), some (.int (nI i)), none, none, none] [] ws') : jW G X k n 228 [some (.ref b), some (.ref bx), some (.ref bm), some (.ref bo), some (.ref bd), some (.int (nI i)), none, none, none] [] ws := by
  obtain ⟨V', M', t, ad', fd, fo, w, ⟨V, M, os, a, o, c, ad, h, rfl, rfl⟩, rfl, rfl⟩ := hw
  have hJ := RX_mJ h
  obtain ⟨ha, ha6, hcb, ho2, ho, hc1, hc, -⟩ := id hJ
  have hsz := h.1.2.2.1.1
  have hn := h.1.2.2.1.2
  have hso := h.1.2.2.2.1.1
  have hos := RX_okO h
  refine j_aload_n hX dL_law_228 rfl ?_
  refine lw_ld hX hs dL_law_229 dL_law_230 dL_law_232 dL_law_233 dL_law_234 (zi := 1) (by decide) rfl rfl (by omega) hL ?_
  refine j_aload_n hX dL_law_235 rfl ?_
  refine j_callH hX hH (nA := 3) (As := [.ref (ad 0), .int (xs (i + 1)), .ref bo]) (st := []) (wa := wM G ad' V' M' t ++ [(bd, .inl (G.2.2 6, 1, .inr (.inr (.inr (.inl fd)))))]) (w0 := (bo, .inl (G.2.2 5, 1, .inr (.inl fo))) :: wC G ad V M (enO ad o) (wO ad os o)) (wb := []) dL_law_236 (c_L_takeOut G (wCg0 G ad V M (enO ad o) (wO ad os o)) (xs (i + 1)) (c_X11_takeOut G hG ad V M (enO ad o) (wO ad os o) (xs (i + 1)) (cb (M' 5) a) hsz hn) (fun rv w1 hp => ⟨_, hp.2.1⟩) (fun E hE => ((cl_take h (xs (i + 1))).2 E hE).1.1) bo fo) gL_law_L_takeOut rfl (by decide +kernel) (by decide) (Nat.le_of_ble_eq_true rfl) rfl (Nat.le_of_ble_eq_true rfl) ⟨by omega, by omega⟩ rfl (by simp) (fun rv w2 hp => ?_)
  have hU : ∃ (fo2 : Nat → Int64) (w3 : va_W), rv = some (.int ((mtake a V' M' (xs (i + 1))).2.1 4)) ∧ w2 = (bo, .inl (G.2.2 5, 1, .inr (.inl fo2))) :: w3 ∧ (((mtake a V' M' (xs (i + 1))).2.1 4) = 0 → fo2 0 = ((mtake a V' M' (xs (i + 1))).1).toInt64) ∧ CW G (ad 0) w3 (mtake a V' M' (xs (i + 1))).2.1 (mtake a V' M' (xs (i + 1))).2.2 t := by
    rcases hp with ⟨v, w1, ⟨p1, p2, p3⟩, h2, h3⟩ | ⟨E, hE, h2, h3⟩
    · obtain ⟨g1, g2, g3⟩ := (cl_take h (xs (i + 1))).1 p1
      have e9 : v = _ := Value.int.inj (Option.some.inj p2)
      exact lu_a g1 (e9.trans g2) h2 h3 ⟨_, _, _, _, _, _, ad, g3, rfl, p3⟩
    · obtain ⟨⟨q1, q2⟩, g3⟩ := (cl_take h (xs (i + 1))).2 E hE
      exact lu_b (z := 1) (by decide) q2 h2.2 h3 ⟨_, _, _, _, _, _, ad, g3, rfl, rfl⟩
  obtain ⟨fo2, w3, rfl, rfl, hr, hC⟩ := hU
  refine jW.world (ws' := wM G ad' V' M' t ++ ((bd, .inl (G.2.2 6, 1, .inr (.inr (.inr (.inl fd))))) :: (bo, .inl (G.2.2 5, 1, .inr (.inl fo2))) :: w3)) (by simp) ?_
  refine jW.stk (st' := [.int ((mtake a V' M' (xs (i + 1))).2.1 4)]) rfl ?_
  refine j_istore hX (ls' := [some (.ref b), some (.ref (ad 0)), some (.ref (ad' 0)), some (.ref bo), some (.ref bd), some (.int (nI i)), some (.int ((mtake a V' M' (xs (i + 1))).2.1 4)), none, none]) dL_law_239 (Nat.le_of_ble_eq_true rfl) rfl rfl ?_
  refine j_aload_n hX dL_law_241 rfl ?_
  refine lw_ld hX hs dL_law_242 dL_law_243 dL_law_245 dL_law_246 dL_law_247 (zi := 1) (by decide) rfl rfl (by omega) hL ?_
  refine j_callV hX (nA := 1) (cq := (RX12, TX12, 37)) (As := [.int (xs (i + 1))]) (st := []) (ci := 13) (wa := []) (w0 := wM G ad' V' M' t) (wb := (bd, .inl (G.2.2 6, 1, .inr (.inr (.inr (.inl fd))))) :: (bo, .inl (G.2.2 5, 1, .inr (.inl fo2))) :: w3) rfl dL_law_248 (c_X12_takeOut G ad' V' M' t a ha ha6 hcb (xs (i + 1))) gL_law_X12_takeOut rfl (by decide +kernel) (q := 0) rfl (by decide) (Nat.le_of_ble_eq_true rfl) rfl (Nat.le_of_ble_eq_true rfl) ⟨by omega, by omega⟩ rfl rfl (fun rv4 w4 hp4 => ?_)
  obtain ⟨rfl, rfl⟩ := hp4
  refine jW.world (ws' := wM G ad' (mtake a V' M' (xs (i + 1))).2.1 (mtake a V' M' (xs (i + 1))).2.2 t ++ ((bd, .inl (G.2.2 6, 1, .inr (.inr (.inr (.inl fd))))) :: (bo, .inl (G.2.2 5, 1, .inr (.inl fo2))) :: w3)) rfl ?_
  refine jW.stk (st' := [.int (mtake a V' M' (xs (i + 1))).1]) rfl ?_
  exact lw_tl hX (V' := (mtake a V' M' (xs (i + 1))).2.1) (M' := (mtake a V' M' (xs (i + 1))).2.2) (t := t) rfl hr ⟨by omega, by omega⟩ dL_law_251 dL_law_253 dL_law_254 dL_law_257 dL_law_259 dL_law_264 dL_law_266 dL_law_269 dL_law_270 dL_law_271 dL_law_272 dL_law_274 dL_law_275 dL_law_276 dL_law_281 (by decide) (jW.widen (k' := k + 1) (n' := n + 9) (by omega) (by omega) (kk _ ⟨(mtake a V' M' (xs (i + 1))).2.1, (mtake a V' M' (xs (i + 1))).2.2, t, ad', fd, fo2, w3, hC, rfl, rfl⟩))
set_option maxHeartbeats 4000000 in
set_option maxRecDepth 100000 in
theorem lc_2 {G : jG} {X : jX} {k n : Nat} {post : Option Value → va_W → Prop} (hX : jOK G X RL cL_law wsL_law (some .boolean) 9 2048 603072 7194730 post) (hH : jTL X) (hG : G.1.stackTraces = false) {b L : Nat} {xs : Nat → Int32} (hs : jScr X b L xs) (hL : L ≤ 3584) {bx bm bo bd i : Nat} (hi : i + 7 ≤ L) (hk : k + 1 ≤ 603072 ∧ n + 9 ≤ 7194730) {ws : va_W} (hw : LW G bm bd bo bx ws) (kk : ∀ ws' : va_W, LW G bm bd bo bx ws' → jW G X (k + 1) (n + 9) 1437 [some (.ref b), some (.ref bx), some (.ref bm), some (.ref bo), some (.ref bd), some (.int (nI i)), none, none, none] [] ws') : jW G X k n 284 [some (.ref b), some (.ref bx), some (.ref bm), some (.ref bo), some (.ref bd), some (.int (nI i)), none, none, none] [] ws := by
  obtain ⟨V', M', t, ad', fd, fo, w, ⟨V, M, os, a, o, c, ad, h, rfl, rfl⟩, rfl, rfl⟩ := hw
  have hJ := RX_mJ h
  obtain ⟨ha, ha6, hcb, ho2, ho, hc1, hc, -⟩ := id hJ
  have hsz := h.1.2.2.1.1
  have hn := h.1.2.2.1.2
  have hso := h.1.2.2.2.1.1
  have hos := RX_okO h
  refine j_aload_n hX dL_law_284 rfl ?_
  refine lw_ld hX hs dL_law_285 dL_law_286 dL_law_288 dL_law_289 dL_law_290 (zi := 1) (by decide) rfl rfl (by omega) hL ?_
  refine j_aload_n hX dL_law_291 rfl ?_
  refine j_callH hX hH (nA := 3) (As := [.ref (ad 0), .int (xs (i + 1)), .ref bo]) (st := []) (wa := wM G ad' V' M' t ++ [(bd, .inl (G.2.2 6, 1, .inr (.inr (.inr (.inl fd)))))]) (w0 := (bo, .inl (G.2.2 5, 1, .inr (.inl fo))) :: wC G ad V M (enO ad o) (wO ad os o)) (wb := []) dL_law_292 (c_L_setCustomer G (wCg0 G ad V M (enO ad o) (wO ad os o)) (xs (i + 1)) (c_X11_setCustomer G hG ad V M (enO ad o) (wO ad os o) (xs (i + 1))) (fun rv w1 hp => ⟨_, hp.2.1⟩) (fun E hE => ((cl_cust h (xs (i + 1))).2 E hE).1.1) bo fo) gL_law_L_setCustomer rfl (by decide +kernel) (by decide) (Nat.le_of_ble_eq_true rfl) rfl (Nat.le_of_ble_eq_true rfl) ⟨by omega, by omega⟩ rfl (by simp) (fun rv w2 hp => ?_)
  have hU : ∃ (fo2 : Nat → Int64) (w3 : va_W), rv = some (.int ((mcust V' M' (xs (i + 1))).2.1 4)) ∧ w2 = (bo, .inl (G.2.2 5, 1, .inr (.inl fo2))) :: w3 ∧ (((mcust V' M' (xs (i + 1))).2.1 4) = 0 → fo2 0 = ((mcust V' M' (xs (i + 1))).1).toInt64) ∧ CW G (ad 0) w3 (mcust V' M' (xs (i + 1))).2.1 (mcust V' M' (xs (i + 1))).2.2 t := by
    rcases hp with ⟨v, w1, ⟨p1, p2, p3⟩, h2, h3⟩ | ⟨E, hE, h2, h3⟩
    · obtain ⟨g1, g2, c9, g3⟩ := (cl_cust h (xs (i + 1))).1 p1
      have e9 : v = _ := Value.int.inj (Option.some.inj p2)
      exact lu_a g1 (e9.trans g2) h2 h3 ⟨_, _, _, _, _, _, ad, g3, rfl, p3⟩
    · obtain ⟨⟨q1, q2⟩, g3⟩ := (cl_cust h (xs (i + 1))).2 E hE
      exact lu_b (z := 1) (by decide) q2 h2.2 h3 ⟨_, _, _, _, _, _, ad, g3, rfl, rfl⟩
  obtain ⟨fo2, w3, rfl, rfl, hr, hC⟩ := hU
  refine jW.world (ws' := wM G ad' V' M' t ++ ((bd, .inl (G.2.2 6, 1, .inr (.inr (.inr (.inl fd))))) :: (bo, .inl (G.2.2 5, 1, .inr (.inl fo2))) :: w3)) (by simp) ?_
  refine jW.stk (st' := [.int ((mcust V' M' (xs (i + 1))).2.1 4)]) rfl ?_
  refine j_istore hX (ls' := [some (.ref b), some (.ref (ad 0)), some (.ref (ad' 0)), some (.ref bo), some (.ref bd), some (.int (nI i)), some (.int ((mcust V' M' (xs (i + 1))).2.1 4)), none, none]) dL_law_295 (Nat.le_of_ble_eq_true rfl) rfl rfl ?_
  refine j_aload_n hX dL_law_297 rfl ?_
  refine lw_ld hX hs dL_law_298 dL_law_299 dL_law_301 dL_law_302 dL_law_303 (zi := 1) (by decide) rfl rfl (by omega) hL ?_
  refine j_callV hX (nA := 1) (cq := (RX12, TX12, 37)) (As := [.int (xs (i + 1))]) (st := []) (ci := 13) (wa := []) (w0 := wM G ad' V' M' t) (wb := (bd, .inl (G.2.2 6, 1, .inr (.inr (.inr (.inl fd))))) :: (bo, .inl (G.2.2 5, 1, .inr (.inl fo2))) :: w3) rfl dL_law_304 (c_X12_setCustomer G ad' V' M' t (xs (i + 1))) gL_law_X12_setCustomer rfl (by decide +kernel) (q := 0) rfl (by decide) (Nat.le_of_ble_eq_true rfl) rfl (Nat.le_of_ble_eq_true rfl) ⟨by omega, by omega⟩ rfl rfl (fun rv4 w4 hp4 => ?_)
  obtain ⟨rfl, rfl⟩ := hp4
  refine jW.world (ws' := wM G ad' (mcust V' M' (xs (i + 1))).2.1 (mcust V' M' (xs (i + 1))).2.2 t ++ ((bd, .inl (G.2.2 6, 1, .inr (.inr (.inr (.inl fd))))) :: (bo, .inl (G.2.2 5, 1, .inr (.inl fo2))) :: w3)) rfl ?_
  refine jW.stk (st' := [.int (mcust V' M' (xs (i + 1))).1]) rfl ?_
  exact lw_tl hX (V' := (mcust V' M' (xs (i + 1))).2.1) (M' := (mcust V' M' (xs (i + 1))).2.2) (t := t) rfl hr ⟨by omega, by omega⟩ dL_law_307 dL_law_309 dL_law_310 dL_law_313 dL_law_315 dL_law_320 dL_law_322 dL_law_325 dL_law_326 dL_law_327 dL_law_328 dL_law_330 dL_law_331 dL_law_332 dL_law_337 (by decide) (jW.widen (k' := k + 1) (n' := n + 9) (by omega) (by omega) (kk _ ⟨(mcust V' M' (xs (i + 1))).2.1, (mcust V' M' (xs (i + 1))).2.2, t, ad', fd, fo2, w3, hC, rfl, rfl⟩))
set_option maxHeartbeats 4000000 in
set_option maxRecDepth 100000 in
theorem lc_3 {G : jG} {X : jX} {k n : Nat} {post : Option Value → va_W → Prop} (hX : jOK G X RL cL_law wsL_law (some .boolean) 9 2048 603072 7194730 post) (hH : jTL X) (hG : G.1.stackTraces = false) {b L : Nat} {xs : Nat → Int32} (hs : jScr X b L xs) (hL : L ≤ 3584) {bx bm bo bd i : Nat} (hi : i + 7 ≤ L) (hk : k + 1 ≤ 603072 ∧ n + 9 ≤ 7194730) {ws : va_W} (hw : LW G bm bd bo bx ws) (kk : ∀ ws' : va_W, LW G bm bd bo bx ws' → jW G X (k + 1) (n + 9) 1437 [some (.ref b), some (.ref bx), some (.ref bm), some (.ref bo), some (.ref bd), some (.int (nI i)), none, none, none] [] ws') : jW G X k n 340 [some (.ref b), some (.ref bx), some (.ref bm), some (.ref bo), some (.ref bd), some (.int (nI i)), none, none, none] [] ws := by
  obtain ⟨V', M', t, ad', fd, fo, w, ⟨V, M, os, a, o, c, ad, h, rfl, rfl⟩, rfl, rfl⟩ := hw
  have hJ := RX_mJ h
  obtain ⟨ha, ha6, hcb, ho2, ho, hc1, hc, -⟩ := id hJ
  have hsz := h.1.2.2.1.1
  have hn := h.1.2.2.1.2
  have hso := h.1.2.2.2.1.1
  have hos := RX_okO h
  refine j_aload_n hX dL_law_340 rfl ?_
  refine j_callV hX (nA := 0) (cq := (RX11, TX11, 7)) (As := []) (st := []) (ci := 12) (wa := wM G ad' V' M' t ++ [(bd, .inl (G.2.2 6, 1, .inr (.inr (.inr (.inl fd))))), (bo, .inl (G.2.2 5, 1, .inr (.inl fo)))]) (w0 := wC G ad V M (enO ad o) (wO ad os o)) (wb := []) rfl dL_law_341 (c_X11_items G ad V M (enO ad o) (wO ad os o)) gL_law_X11_items rfl (by decide +kernel) (q := 32) rfl (by decide) (Nat.le_of_ble_eq_true rfl) rfl (Nat.le_of_ble_eq_true rfl) ⟨by omega, by omega⟩ rfl (by simp) (fun rv w2 hp => ?_)
  obtain ⟨rfl, rfl⟩ := hp
  refine jW.world (ws' := wM G ad' V' M' t ++ ((bd, .inl (G.2.2 6, 1, .inr (.inr (.inr (.inl fd))))) :: (bo, .inl (G.2.2 5, 1, .inr (.inl fo))) :: wC G ad V M (enO ad o) (wO ad os o))) (by simp) ?_
  refine jW.stk (st' := [.int (V 2)]) rfl ?_
  refine j_aload_n hX dL_law_344 rfl ?_
  refine j_callV hX (nA := 0) (cq := (RX12, TX12, 37)) (As := []) (st := [.int (V 2)]) (ci := 13) (wa := []) (w0 := wM G ad' V' M' t) (wb := (bd, .inl (G.2.2 6, 1, .inr (.inr (.inr (.inl fd))))) :: (bo, .inl (G.2.2 5, 1, .inr (.inl fo))) :: wC G ad V M (enO ad o) (wO ad os o)) rfl dL_law_345 (c_X12_items G ad' V' M' t a ha ha6 hcb) gL_law_X12_items rfl (by decide +kernel) (q := 0) rfl (by decide) (Nat.le_of_ble_eq_true rfl) rfl (Nat.le_of_ble_eq_true rfl) ⟨by omega, by omega⟩ rfl rfl (fun rv4 w4 hp4 => ?_)
  obtain ⟨rfl, rfl⟩ := hp4
  refine jW.world (ws' := wM G ad' (sV (sV V' 4 0) 5 (nI (cb (M' 5) a))) (sM M' 14 (lkA (M' 5) (M' 14) a)) t ++ ((bd, .inl (G.2.2 6, 1, .inr (.inr (.inr (.inl fd))))) :: (bo, .inl (G.2.2 5, 1, .inr (.inl fo))) :: wC G ad V M (enO ad o) (wO ad os o))) rfl ?_
  refine jW.stk (st' := [.int (nI (cb (M' 5) a)), .int (V 2)]) rfl ?_
  exact j_icmp_eq_t hX (tgt := 1437) dL_law_348 (by decide) (cl_items h).1 (jW.widen (k' := k + 1) (n' := n + 9) (by omega) (by omega) (kk _ ⟨(sV (sV V' 4 0) 5 (nI (cb (M' 5) a))), (sM M' 14 (lkA (M' 5) (M' 14) a)), t, ad', fd, fo, _, ⟨_, _, os, a, o, c, ad, (cl_items h).2, rfl, rfl⟩, rfl, rfl⟩))
set_option maxHeartbeats 4000000 in
set_option maxRecDepth 100000 in
theorem lc_4 {G : jG} {X : jX} {k n : Nat} {post : Option Value → va_W → Prop} (hX : jOK G X RL cL_law wsL_law (some .boolean) 9 2048 603072 7194730 post) (hH : jTL X) (hG : G.1.stackTraces = false) {b L : Nat} {xs : Nat → Int32} (hs : jScr X b L xs) (hL : L ≤ 3584) {bx bm bo bd i : Nat} (hi : i + 7 ≤ L) (hk : k + 1 ≤ 603072 ∧ n + 9 ≤ 7194730) {ws : va_W} (hw : LW G bm bd bo bx ws) (kk : ∀ ws' : va_W, LW G bm bd bo bx ws' → jW G X (k + 1) (n + 9) 1437 [some (.ref b), some (.ref bx), some (.ref bm), some (.ref bo), some (.ref bd), some (.int (nI i)), none, none, none] [] ws') : jW G X k n 353 [some (.ref b), some (.ref bx), some (.ref bm), some (.ref bo), some (.ref bd), some (.int (nI i)), none, none, none] [] ws := by
  obtain ⟨V', M', t, ad', fd, fo, w, ⟨V, M, os, a, o, c, ad, h, rfl, rfl⟩, rfl, rfl⟩ := hw
  have hJ := RX_mJ h
  obtain ⟨ha, ha6, hcb, ho2, ho, hc1, hc, -⟩ := id hJ
  have hsz := h.1.2.2.1.1
  have hn := h.1.2.2.1.2
  have hso := h.1.2.2.2.1.1
  have hos := RX_okO h
  refine j_aload_n hX dL_law_353 rfl ?_
  refine j_callV hX (nA := 0) (cq := (RX11, TX11, 7)) (As := []) (st := []) (ci := 12) (wa := wM G ad' V' M' t ++ [(bd, .inl (G.2.2 6, 1, .inr (.inr (.inr (.inl fd))))), (bo, .inl (G.2.2 5, 1, .inr (.inl fo)))]) (w0 := wC G ad V M (enO ad o) (wO ad os o)) (wb := []) rfl dL_law_354 (c_X11_sum G ad V M (enO ad o) (wO ad os o) (cb (M' 5) a) hsz hn) gL_law_X11_sum rfl (by decide +kernel) (q := 32) rfl (by decide) (Nat.le_of_ble_eq_true rfl) rfl (Nat.le_of_ble_eq_true rfl) ⟨by omega, by omega⟩ rfl (by simp) (fun rv w2 hp => ?_)
  obtain ⟨rfl, rfl⟩ := hp
  refine jW.world (ws' := wM G ad' V' M' t ++ ((bd, .inl (G.2.2 6, 1, .inr (.inr (.inr (.inl fd))))) :: (bo, .inl (G.2.2 5, 1, .inr (.inl fo))) :: wC G ad V M (enO ad o) (wO ad os o))) (by simp) ?_
  refine jW.stk (st' := [.int (priceOfF (M 4) (maskF (cb (M' 5) a)) (cb (M' 5) a))]) rfl ?_
  refine j_aload_n hX dL_law_357 rfl ?_
  refine j_callV hX (nA := 0) (cq := (RX12, TX12, 37)) (As := []) (st := [.int (priceOfF (M 4) (maskF (cb (M' 5) a)) (cb (M' 5) a))]) (ci := 13) (wa := []) (w0 := wM G ad' V' M' t) (wb := (bd, .inl (G.2.2 6, 1, .inr (.inr (.inr (.inl fd))))) :: (bo, .inl (G.2.2 5, 1, .inr (.inl fo))) :: wC G ad V M (enO ad o) (wO ad os o)) rfl dL_law_358 (c_X12_sum G ad' V' M' t a ha ha6 hcb) gL_law_X12_sum rfl (by decide +kernel) (q := 0) rfl (by decide) (Nat.le_of_ble_eq_true rfl) rfl (Nat.le_of_ble_eq_true rfl) ⟨by omega, by omega⟩ rfl rfl (fun rv4 w4 hp4 => ?_)
  obtain ⟨rfl, rfl⟩ := hp4
  refine jW.world (ws' := wM G ad' (sV (sV V' 4 0) 5 (nI (cb (M' 5) a))) (sM M' 14 (lkA (M' 5) (M' 14) a)) t ++ ((bd, .inl (G.2.2 6, 1, .inr (.inr (.inr (.inl fd))))) :: (bo, .inl (G.2.2 5, 1, .inr (.inl fo))) :: wC G ad V M (enO ad o) (wO ad os o))) rfl ?_
  refine jW.stk (st' := [.int (sumN M' a), .int (priceOfF (M 4) (maskF (cb (M' 5) a)) (cb (M' 5) a))]) rfl ?_
  exact j_icmp_eq_t hX (tgt := 1437) dL_law_361 (by decide) (cl_sum h) (jW.widen (k' := k + 1) (n' := n + 9) (by omega) (by omega) (kk _ ⟨(sV (sV V' 4 0) 5 (nI (cb (M' 5) a))), (sM M' 14 (lkA (M' 5) (M' 14) a)), t, ad', fd, fo, _, ⟨_, _, os, a, o, c, ad, (cl_items h).2, rfl, rfl⟩, rfl, rfl⟩))
set_option maxHeartbeats 4000000 in
set_option maxRecDepth 100000 in
theorem lc_5 {G : jG} {X : jX} {k n : Nat} {post : Option Value → va_W → Prop} (hX : jOK G X RL cL_law wsL_law (some .boolean) 9 2048 603072 7194730 post) (hH : jTL X) (hG : G.1.stackTraces = false) {b L : Nat} {xs : Nat → Int32} (hs : jScr X b L xs) (hL : L ≤ 3584) {bx bm bo bd i : Nat} (hi : i + 7 ≤ L) (hk : k + 1 ≤ 603072 ∧ n + 9 ≤ 7194730) {ws : va_W} (hw : LW G bm bd bo bx ws) (kk : ∀ ws' : va_W, LW G bm bd bo bx ws' → jW G X (k + 1) (n + 9) 1437 [some (.ref b), some (.ref bx), some (.ref bm), some (.ref bo), some (.ref bd), some (.int (nI i)), none, none, none] [] ws') : jW G X k n 366 [some (.ref b), some (.ref bx), some (.ref bm), some (.ref bo), some (.ref bd), some (.int (nI i)), none, none, none] [] ws := by
  obtain ⟨V', M', t, ad', fd, fo, w, ⟨V, M, os, a, o, c, ad, h, rfl, rfl⟩, rfl, rfl⟩ := hw
  have hJ := RX_mJ h
  obtain ⟨ha, ha6, hcb, ho2, ho, hc1, hc, -⟩ := id hJ
  have hsz := h.1.2.2.1.1
  have hn := h.1.2.2.1.2
  have hso := h.1.2.2.2.1.1
  have hos := RX_okO h
  refine j_aload_n hX dL_law_366 rfl ?_
  refine lw_ld hX hs dL_law_367 dL_law_368 dL_law_370 dL_law_371 dL_law_372 (zi := 1) (by decide) rfl rfl (by omega) hL ?_
  refine lw_ld hX hs dL_law_373 dL_law_374 dL_law_376 dL_law_377 dL_law_378 (zi := 2) (by decide) rfl rfl (by omega) hL ?_
  refine lw_ld hX hs dL_law_379 dL_law_380 dL_law_382 dL_law_383 dL_law_384 (zi := 3) (by decide) rfl rfl (by omega) hL ?_
  refine lw_ld hX hs dL_law_385 dL_law_386 dL_law_388 dL_law_389 dL_law_390 (zi := 4) (by decide) rfl rfl (by omega) hL ?_
  refine j_aload_n hX dL_law_391 rfl ?_
  refine j_callH hX hH (nA := 6) (As := [.ref (ad 0), .int (xs (i + 1)), .int (xs (i + 2)), .int (xs (i + 3)), .int (xs (i + 4)), .ref bo]) (st := []) (wa := wM G ad' V' M' t ++ [(bd, .inl (G.2.2 6, 1, .inr (.inr (.inr (.inl fd)))))]) (w0 := (bo, .inl (G.2.2 5, 1, .inr (.inl fo))) :: wC G ad V M (enO ad o) (wO ad os o)) (wb := []) dL_law_392 (c_L_addPercentage G (wCg0 G ad V M (enO ad o) (wO ad os o)) (xs (i + 1)) (xs (i + 2)) (xs (i + 3)) (xs (i + 4)) (c_X11_addPercentage G hG ad V M os o (xs (i + 1)) (xs (i + 2)) (xs (i + 3)) (xs (i + 4)) hso ho hos) (fun rv w1 hp => ⟨_, hp.2.1⟩) (fun E hE => ((cl_pct h (xs (i + 1)) (xs (i + 2)) (xs (i + 3)) (xs (i + 4))).2 E hE).1.elim (fun q => Or.inl q.1) (fun q => Or.inr q.1)) bo fo) gL_law_L_addPercentage rfl (by decide +kernel) (by decide) (Nat.le_of_ble_eq_true rfl) rfl (Nat.le_of_ble_eq_true rfl) ⟨by omega, by omega⟩ rfl (by simp) (fun rv w2 hp => ?_)
  have hU : ∃ (fo2 : Nat → Int64) (w3 : va_W), rv = some (.int ((mpct o V' M' (xs (i + 1)) (xs (i + 2)) (xs (i + 3)) (xs (i + 4))).2.1 4)) ∧ w2 = (bo, .inl (G.2.2 5, 1, .inr (.inl fo2))) :: w3 ∧ (((mpct o V' M' (xs (i + 1)) (xs (i + 2)) (xs (i + 3)) (xs (i + 4))).2.1 4) = 0 → fo2 0 = ((mpct o V' M' (xs (i + 1)) (xs (i + 2)) (xs (i + 3)) (xs (i + 4))).1).toInt64) ∧ CW G (ad 0) w3 (mpct o V' M' (xs (i + 1)) (xs (i + 2)) (xs (i + 3)) (xs (i + 4))).2.1 (mpct o V' M' (xs (i + 1)) (xs (i + 2)) (xs (i + 3)) (xs (i + 4))).2.2 t := by
    rcases hp with ⟨v, w1, ⟨p1, p2, q, p3⟩, h2, h3⟩ | ⟨E, hE, h2, h3⟩
    · obtain ⟨g1, g2, g3⟩ := (cl_pct h (xs (i + 1)) (xs (i + 2)) (xs (i + 3)) (xs (i + 4))).1 p1
      have e9 : v = _ := Value.int.inj (Option.some.inj p2)
      exact lu_a g1 (e9.trans g2) h2 h3 ⟨_, _, _, _, _, _, adU ad o q, g3, if_neg (by omega), p3⟩
    · obtain ⟨q1, g3⟩ := (cl_pct h (xs (i + 1)) (xs (i + 2)) (xs (i + 3)) (xs (i + 4))).2 E hE
      obtain ⟨z, hz, z1, z2⟩ := lu_2 (e1 := "java/lang/IllegalArgumentException") (e2 := "java/lang/IllegalStateException") (by decide) q1 h2
      exact lu_b hz z1 z2 h3 ⟨_, _, _, _, _, _, ad, g3, rfl, rfl⟩
  obtain ⟨fo2, w3, rfl, rfl, hr, hC⟩ := hU
  refine jW.world (ws' := wM G ad' V' M' t ++ ((bd, .inl (G.2.2 6, 1, .inr (.inr (.inr (.inl fd))))) :: (bo, .inl (G.2.2 5, 1, .inr (.inl fo2))) :: w3)) (by simp) ?_
  refine jW.stk (st' := [.int ((mpct o V' M' (xs (i + 1)) (xs (i + 2)) (xs (i + 3)) (xs (i + 4))).2.1 4)]) rfl ?_
  refine j_istore hX (ls' := [some (.ref b), some (.ref (ad 0)), some (.ref (ad' 0)), some (.ref bo), some (.ref bd), some (.int (nI i)), some (.int ((mpct o V' M' (xs (i + 1)) (xs (i + 2)) (xs (i + 3)) (xs (i + 4))).2.1 4)), none, none]) dL_law_395 (Nat.le_of_ble_eq_true rfl) rfl rfl ?_
  refine j_aload_n hX dL_law_397 rfl ?_
  refine lw_ld hX hs dL_law_398 dL_law_399 dL_law_401 dL_law_402 dL_law_403 (zi := 1) (by decide) rfl rfl (by omega) hL ?_
  refine lw_ld hX hs dL_law_404 dL_law_405 dL_law_407 dL_law_408 dL_law_409 (zi := 2) (by decide) rfl rfl (by omega) hL ?_
  refine lw_ld hX hs dL_law_410 dL_law_411 dL_law_413 dL_law_414 dL_law_415 (zi := 3) (by decide) rfl rfl (by omega) hL ?_
  refine lw_ld hX hs dL_law_416 dL_law_417 dL_law_419 dL_law_420 dL_law_421 (zi := 4) (by decide) rfl rfl (by omega) hL ?_
  refine j_callV hX (nA := 4) (cq := (RX12, TX12, 37)) (As := [.int (xs (i + 1)), .int (xs (i + 2)), .int (xs (i + 3)), .int (xs (i + 4))]) (st := []) (ci := 13) (wa := []) (w0 := wM G ad' V' M' t) (wb := (bd, .inl (G.2.2 6, 1, .inr (.inr (.inr (.inl fd))))) :: (bo, .inl (G.2.2 5, 1, .inr (.inl fo2))) :: w3) rfl dL_law_422 (c_X12_addPercentage G ad' V' M' t o ho2 ho (xs (i + 1)) (xs (i + 2)) (xs (i + 3)) (xs (i + 4))) gL_law_X12_addPercentage rfl (by decide +kernel) (q := 0) rfl (by decide) (Nat.le_of_ble_eq_true rfl) rfl (Nat.le_of_ble_eq_true rfl) ⟨by omega, by omega⟩ rfl rfl (fun rv4 w4 hp4 => ?_)
  obtain ⟨rfl, rfl⟩ := hp4
  refine jW.world (ws' := wM G ad' (mpct o V' M' (xs (i + 1)) (xs (i + 2)) (xs (i + 3)) (xs (i + 4))).2.1 (mpct o V' M' (xs (i + 1)) (xs (i + 2)) (xs (i + 3)) (xs (i + 4))).2.2 t ++ ((bd, .inl (G.2.2 6, 1, .inr (.inr (.inr (.inl fd))))) :: (bo, .inl (G.2.2 5, 1, .inr (.inl fo2))) :: w3)) rfl ?_
  refine jW.stk (st' := [.int (mpct o V' M' (xs (i + 1)) (xs (i + 2)) (xs (i + 3)) (xs (i + 4))).1]) rfl ?_
  exact lw_tl hX (V' := (mpct o V' M' (xs (i + 1)) (xs (i + 2)) (xs (i + 3)) (xs (i + 4))).2.1) (M' := (mpct o V' M' (xs (i + 1)) (xs (i + 2)) (xs (i + 3)) (xs (i + 4))).2.2) (t := t) rfl hr ⟨by omega, by omega⟩ dL_law_425 dL_law_427 dL_law_428 dL_law_431 dL_law_433 dL_law_438 dL_law_440 dL_law_443 dL_law_444 dL_law_445 dL_law_446 dL_law_448 dL_law_449 dL_law_450 dL_law_455 (by decide) (jW.widen (k' := k + 1) (n' := n + 9) (by omega) (by omega) (kk _ ⟨(mpct o V' M' (xs (i + 1)) (xs (i + 2)) (xs (i + 3)) (xs (i + 4))).2.1, (mpct o V' M' (xs (i + 1)) (xs (i + 2)) (xs (i + 3)) (xs (i + 4))).2.2, t, ad', fd, fo2, w3, hC, rfl, rfl⟩))
set_option maxHeartbeats 4000000 in
set_option maxRecDepth 100000 in
theorem lc_6 {G : jG} {X : jX} {k n : Nat} {post : Option Value → va_W → Prop} (hX : jOK G X RL cL_law wsL_law (some .boolean) 9 2048 603072 7194730 post) (hH : jTL X) (hG : G.1.stackTraces = false) {b L : Nat} {xs : Nat → Int32} (hs : jScr X b L xs) (hL : L ≤ 3584) {bx bm bo bd i : Nat} (hi : i + 7 ≤ L) (hk : k + 1 ≤ 603072 ∧ n + 9 ≤ 7194730) {ws : va_W} (hw : LW G bm bd bo bx ws) (kk : ∀ ws' : va_W, LW G bm bd bo bx ws' → jW G X (k + 1) (n + 9) 1437 [some (.ref b), some (.ref bx), some (.ref bm), some (.ref bo), some (.ref bd), some (.int (nI i)), none, none, none] [] ws') : jW G X k n 458 [some (.ref b), some (.ref bx), some (.ref bm), some (.ref bo), some (.ref bd), some (.int (nI i)), none, none, none] [] ws := by
  obtain ⟨V', M', t, ad', fd, fo, w, ⟨V, M, os, a, o, c, ad, h, rfl, rfl⟩, rfl, rfl⟩ := hw
  have hJ := RX_mJ h
  obtain ⟨ha, ha6, hcb, ho2, ho, hc1, hc, -⟩ := id hJ
  have hsz := h.1.2.2.1.1
  have hn := h.1.2.2.1.2
  have hso := h.1.2.2.2.1.1
  have hos := RX_okO h
  refine j_aload_n hX dL_law_458 rfl ?_
  refine lw_ld hX hs dL_law_459 dL_law_460 dL_law_462 dL_law_463 dL_law_464 (zi := 1) (by decide) rfl rfl (by omega) hL ?_
  refine lw_ld hX hs dL_law_465 dL_law_466 dL_law_468 dL_law_469 dL_law_470 (zi := 2) (by decide) rfl rfl (by omega) hL ?_
  refine lw_ld hX hs dL_law_471 dL_law_472 dL_law_474 dL_law_475 dL_law_476 (zi := 3) (by decide) rfl rfl (by omega) hL ?_
  refine lw_ld hX hs dL_law_477 dL_law_478 dL_law_480 dL_law_481 dL_law_482 (zi := 4) (by decide) rfl rfl (by omega) hL ?_
  refine j_aload_n hX dL_law_483 rfl ?_
  refine j_callH hX hH (nA := 6) (As := [.ref (ad 0), .int (xs (i + 1)), .int (xs (i + 2)), .int (xs (i + 3)), .int (xs (i + 4)), .ref bo]) (st := []) (wa := wM G ad' V' M' t ++ [(bd, .inl (G.2.2 6, 1, .inr (.inr (.inr (.inl fd)))))]) (w0 := (bo, .inl (G.2.2 5, 1, .inr (.inl fo))) :: wC G ad V M (enO ad o) (wO ad os o)) (wb := []) dL_law_484 (c_L_addFreeItem G (wCg0 G ad V M (enO ad o) (wO ad os o)) (xs (i + 1)) (xs (i + 2)) (xs (i + 3)) (xs (i + 4)) (c_X11_addFreeItem G hG ad V M os o (xs (i + 1)) (xs (i + 2)) (xs (i + 3)) (xs (i + 4)) hso ho hos) (fun rv w1 hp => ⟨_, hp.2.1⟩) (fun E hE => ((cl_free h (xs (i + 1)) (xs (i + 2)) (xs (i + 3)) (xs (i + 4))).2 E hE).1.elim (fun q => Or.inl q.1) (fun q => Or.inr q.1)) bo fo) gL_law_L_addFreeItem rfl (by decide +kernel) (by decide) (Nat.le_of_ble_eq_true rfl) rfl (Nat.le_of_ble_eq_true rfl) ⟨by omega, by omega⟩ rfl (by simp) (fun rv w2 hp => ?_)
  have hU : ∃ (fo2 : Nat → Int64) (w3 : va_W), rv = some (.int ((mfree o V' M' (xs (i + 1)) (xs (i + 2)) (xs (i + 3)) (xs (i + 4))).2.1 4)) ∧ w2 = (bo, .inl (G.2.2 5, 1, .inr (.inl fo2))) :: w3 ∧ (((mfree o V' M' (xs (i + 1)) (xs (i + 2)) (xs (i + 3)) (xs (i + 4))).2.1 4) = 0 → fo2 0 = ((mfree o V' M' (xs (i + 1)) (xs (i + 2)) (xs (i + 3)) (xs (i + 4))).1).toInt64) ∧ CW G (ad 0) w3 (mfree o V' M' (xs (i + 1)) (xs (i + 2)) (xs (i + 3)) (xs (i + 4))).2.1 (mfree o V' M' (xs (i + 1)) (xs (i + 2)) (xs (i + 3)) (xs (i + 4))).2.2 t := by
    rcases hp with ⟨v, w1, ⟨p1, p2, q, p3⟩, h2, h3⟩ | ⟨E, hE, h2, h3⟩
    · obtain ⟨g1, g2, g3⟩ := (cl_free h (xs (i + 1)) (xs (i + 2)) (xs (i + 3)) (xs (i + 4))).1 p1
      have e9 : v = _ := Value.int.inj (Option.some.inj p2)
      exact lu_a g1 (e9.trans g2) h2 h3 ⟨_, _, _, _, _, _, adU ad o q, g3, if_neg (by omega), p3⟩
    · obtain ⟨q1, g3⟩ := (cl_free h (xs (i + 1)) (xs (i + 2)) (xs (i + 3)) (xs (i + 4))).2 E hE
      obtain ⟨z, hz, z1, z2⟩ := lu_2 (e1 := "java/lang/IllegalArgumentException") (e2 := "java/lang/IllegalStateException") (by decide) q1 h2
      exact lu_b hz z1 z2 h3 ⟨_, _, _, _, _, _, ad, g3, rfl, rfl⟩
  obtain ⟨fo2, w3, rfl, rfl, hr, hC⟩ := hU
  refine jW.world (ws' := wM G ad' V' M' t ++ ((bd, .inl (G.2.2 6, 1, .inr (.inr (.inr (.inl fd))))) :: (bo, .inl (G.2.2 5, 1, .inr (.inl fo2))) :: w3)) (by simp) ?_
  refine jW.stk (st' := [.int ((mfree o V' M' (xs (i + 1)) (xs (i + 2)) (xs (i + 3)) (xs (i + 4))).2.1 4)]) rfl ?_
  refine j_istore hX (ls' := [some (.ref b), some (.ref (ad 0)), some (.ref (ad' 0)), some (.ref bo), some (.ref bd), some (.int (nI i)), some (.int ((mfree o V' M' (xs (i + 1)) (xs (i + 2)) (xs (i + 3)) (xs (i + 4))).2.1 4)), none, none]) dL_law_487 (Nat.le_of_ble_eq_true rfl) rfl rfl ?_
  refine j_aload_n hX dL_law_489 rfl ?_
  refine lw_ld hX hs dL_law_490 dL_law_491 dL_law_493 dL_law_494 dL_law_495 (zi := 1) (by decide) rfl rfl (by omega) hL ?_
  refine lw_ld hX hs dL_law_496 dL_law_497 dL_law_499 dL_law_500 dL_law_501 (zi := 2) (by decide) rfl rfl (by omega) hL ?_
  refine lw_ld hX hs dL_law_502 dL_law_503 dL_law_505 dL_law_506 dL_law_507 (zi := 3) (by decide) rfl rfl (by omega) hL ?_
  refine lw_ld hX hs dL_law_508 dL_law_509 dL_law_511 dL_law_512 dL_law_513 (zi := 4) (by decide) rfl rfl (by omega) hL ?_
  refine j_callV hX (nA := 4) (cq := (RX12, TX12, 37)) (As := [.int (xs (i + 1)), .int (xs (i + 2)), .int (xs (i + 3)), .int (xs (i + 4))]) (st := []) (ci := 13) (wa := []) (w0 := wM G ad' V' M' t) (wb := (bd, .inl (G.2.2 6, 1, .inr (.inr (.inr (.inl fd))))) :: (bo, .inl (G.2.2 5, 1, .inr (.inl fo2))) :: w3) rfl dL_law_514 (c_X12_addFreeItem G ad' V' M' t o ho2 ho (xs (i + 1)) (xs (i + 2)) (xs (i + 3)) (xs (i + 4))) gL_law_X12_addFreeItem rfl (by decide +kernel) (q := 0) rfl (by decide) (Nat.le_of_ble_eq_true rfl) rfl (Nat.le_of_ble_eq_true rfl) ⟨by omega, by omega⟩ rfl rfl (fun rv4 w4 hp4 => ?_)
  obtain ⟨rfl, rfl⟩ := hp4
  refine jW.world (ws' := wM G ad' (mfree o V' M' (xs (i + 1)) (xs (i + 2)) (xs (i + 3)) (xs (i + 4))).2.1 (mfree o V' M' (xs (i + 1)) (xs (i + 2)) (xs (i + 3)) (xs (i + 4))).2.2 t ++ ((bd, .inl (G.2.2 6, 1, .inr (.inr (.inr (.inl fd))))) :: (bo, .inl (G.2.2 5, 1, .inr (.inl fo2))) :: w3)) rfl ?_
  refine jW.stk (st' := [.int (mfree o V' M' (xs (i + 1)) (xs (i + 2)) (xs (i + 3)) (xs (i + 4))).1]) rfl ?_
  exact lw_tl hX (V' := (mfree o V' M' (xs (i + 1)) (xs (i + 2)) (xs (i + 3)) (xs (i + 4))).2.1) (M' := (mfree o V' M' (xs (i + 1)) (xs (i + 2)) (xs (i + 3)) (xs (i + 4))).2.2) (t := t) rfl hr ⟨by omega, by omega⟩ dL_law_517 dL_law_519 dL_law_520 dL_law_523 dL_law_525 dL_law_530 dL_law_532 dL_law_535 dL_law_536 dL_law_537 dL_law_538 dL_law_540 dL_law_541 dL_law_542 dL_law_547 (by decide) (jW.widen (k' := k + 1) (n' := n + 9) (by omega) (by omega) (kk _ ⟨(mfree o V' M' (xs (i + 1)) (xs (i + 2)) (xs (i + 3)) (xs (i + 4))).2.1, (mfree o V' M' (xs (i + 1)) (xs (i + 2)) (xs (i + 3)) (xs (i + 4))).2.2, t, ad', fd, fo2, w3, hC, rfl, rfl⟩))
set_option maxHeartbeats 4000000 in
set_option maxRecDepth 100000 in
theorem lc_7 {G : jG} {X : jX} {k n : Nat} {post : Option Value → va_W → Prop} (hX : jOK G X RL cL_law wsL_law (some .boolean) 9 2048 603072 7194730 post) (hH : jTL X) (hG : G.1.stackTraces = false) {b L : Nat} {xs : Nat → Int32} (hs : jScr X b L xs) (hL : L ≤ 3584) {bx bm bo bd i : Nat} (hi : i + 7 ≤ L) (hk : k + 1 ≤ 603072 ∧ n + 9 ≤ 7194730) {ws : va_W} (hw : LW G bm bd bo bx ws) (kk : ∀ ws' : va_W, LW G bm bd bo bx ws' → jW G X (k + 1) (n + 9) 1437 [some (.ref b), some (.ref bx), some (.ref bm), some (.ref bo), some (.ref bd), some (.int (nI i)), none, none, none] [] ws') : jW G X k n 550 [some (.ref b), some (.ref bx), some (.ref bm), some (.ref bo), some (.ref bd), some (.int (nI i)), none, none, none] [] ws := by
  obtain ⟨V', M', t, ad', fd, fo, w, ⟨V, M, os, a, o, c, ad, h, rfl, rfl⟩, rfl, rfl⟩ := hw
  have hJ := RX_mJ h
  obtain ⟨ha, ha6, hcb, ho2, ho, hc1, hc, -⟩ := id hJ
  have hsz := h.1.2.2.1.1
  have hn := h.1.2.2.1.2
  have hso := h.1.2.2.2.1.1
  have hos := RX_okO h
  refine j_aload_n hX dL_law_550 rfl ?_
  refine lw_ld hX hs dL_law_551 dL_law_552 dL_law_554 dL_law_555 dL_law_556 (zi := 1) (by decide) rfl rfl (by omega) hL ?_
  refine lw_ld hX hs dL_law_557 dL_law_558 dL_law_560 dL_law_561 dL_law_562 (zi := 2) (by decide) rfl rfl (by omega) hL ?_
  refine lw_ld hX hs dL_law_563 dL_law_564 dL_law_566 dL_law_567 dL_law_568 (zi := 3) (by decide) rfl rfl (by omega) hL ?_
  refine lw_ld hX hs dL_law_569 dL_law_570 dL_law_572 dL_law_573 dL_law_574 (zi := 4) (by decide) rfl rfl (by omega) hL ?_
  refine lw_ld hX hs dL_law_575 dL_law_576 dL_law_578 dL_law_579 dL_law_580 (zi := 5) (by decide) rfl rfl (by omega) hL ?_
  refine lw_ld6 hX hs dL_law_581 dL_law_582 dL_law_584 dL_law_586 dL_law_587 (zi := 6) (by decide) rfl rfl (by omega) hL ?_
  refine j_aload_n hX dL_law_588 rfl ?_
  refine j_callH hX hH (nA := 8) (As := [.ref (ad 0), .int (xs (i + 1)), .int (xs (i + 2)), .int (xs (i + 3)), .int (xs (i + 4)), .int (xs (i + 5)), .int (xs (i + 6)), .ref bo]) (st := []) (wa := wM G ad' V' M' t ++ [(bd, .inl (G.2.2 6, 1, .inr (.inr (.inr (.inl fd)))))]) (w0 := (bo, .inl (G.2.2 5, 1, .inr (.inl fo))) :: wC G ad V M (enO ad o) (wO ad os o)) (wb := []) dL_law_589 (c_L_addBundle G (wCg0 G ad V M (enO ad o) (wO ad os o)) (xs (i + 1)) (xs (i + 2)) (xs (i + 3)) (xs (i + 4)) (xs (i + 5)) (xs (i + 6)) (c_X11_addBundle G hG ad V M os o (xs (i + 1)) (xs (i + 2)) (xs (i + 3)) (xs (i + 4)) (xs (i + 5)) (xs (i + 6)) hso ho hos) (fun rv w1 hp => ⟨_, hp.2.1⟩) (fun E hE => ((cl_bun h (xs (i + 1)) (xs (i + 2)) (xs (i + 3)) (xs (i + 4)) (xs (i + 5)) (xs (i + 6))).2 E hE).1.elim (fun q => Or.inl q.1) (fun q => Or.inr q.1)) bo fo) gL_law_L_addBundle rfl (by decide +kernel) (by decide) (Nat.le_of_ble_eq_true rfl) rfl (Nat.le_of_ble_eq_true rfl) ⟨by omega, by omega⟩ rfl (by simp) (fun rv w2 hp => ?_)
  have hU : ∃ (fo2 : Nat → Int64) (w3 : va_W), rv = some (.int ((mbun o V' M' (xs (i + 1)) (xs (i + 2)) (xs (i + 3)) (xs (i + 4)) (xs (i + 5)) (xs (i + 6))).2.1 4)) ∧ w2 = (bo, .inl (G.2.2 5, 1, .inr (.inl fo2))) :: w3 ∧ (((mbun o V' M' (xs (i + 1)) (xs (i + 2)) (xs (i + 3)) (xs (i + 4)) (xs (i + 5)) (xs (i + 6))).2.1 4) = 0 → fo2 0 = ((mbun o V' M' (xs (i + 1)) (xs (i + 2)) (xs (i + 3)) (xs (i + 4)) (xs (i + 5)) (xs (i + 6))).1).toInt64) ∧ CW G (ad 0) w3 (mbun o V' M' (xs (i + 1)) (xs (i + 2)) (xs (i + 3)) (xs (i + 4)) (xs (i + 5)) (xs (i + 6))).2.1 (mbun o V' M' (xs (i + 1)) (xs (i + 2)) (xs (i + 3)) (xs (i + 4)) (xs (i + 5)) (xs (i + 6))).2.2 t := by
    rcases hp with ⟨v, w1, ⟨p1, p2, q, p3⟩, h2, h3⟩ | ⟨E, hE, h2, h3⟩
    · obtain ⟨g1, g2, g3⟩ := (cl_bun h (xs (i + 1)) (xs (i + 2)) (xs (i + 3)) (xs (i + 4)) (xs (i + 5)) (xs (i + 6))).1 p1
      have e9 : v = _ := Value.int.inj (Option.some.inj p2)
      exact lu_a g1 (e9.trans g2) h2 h3 ⟨_, _, _, _, _, _, adU ad o q, g3, if_neg (by omega), p3⟩
    · obtain ⟨q1, g3⟩ := (cl_bun h (xs (i + 1)) (xs (i + 2)) (xs (i + 3)) (xs (i + 4)) (xs (i + 5)) (xs (i + 6))).2 E hE
      obtain ⟨z, hz, z1, z2⟩ := lu_2 (e1 := "java/lang/IllegalArgumentException") (e2 := "java/lang/IllegalStateException") (by decide) q1 h2
      exact lu_b hz z1 z2 h3 ⟨_, _, _, _, _, _, ad, g3, rfl, rfl⟩
  obtain ⟨fo2, w3, rfl, rfl, hr, hC⟩ := hU
  refine jW.world (ws' := wM G ad' V' M' t ++ ((bd, .inl (G.2.2 6, 1, .inr (.inr (.inr (.inl fd))))) :: (bo, .inl (G.2.2 5, 1, .inr (.inl fo2))) :: w3)) (by simp) ?_
  refine jW.stk (st' := [.int ((mbun o V' M' (xs (i + 1)) (xs (i + 2)) (xs (i + 3)) (xs (i + 4)) (xs (i + 5)) (xs (i + 6))).2.1 4)]) rfl ?_
  refine j_istore hX (ls' := [some (.ref b), some (.ref (ad 0)), some (.ref (ad' 0)), some (.ref bo), some (.ref bd), some (.int (nI i)), some (.int ((mbun o V' M' (xs (i + 1)) (xs (i + 2)) (xs (i + 3)) (xs (i + 4)) (xs (i + 5)) (xs (i + 6))).2.1 4)), none, none]) dL_law_592 (Nat.le_of_ble_eq_true rfl) rfl rfl ?_
  refine j_aload_n hX dL_law_594 rfl ?_
  refine lw_ld hX hs dL_law_595 dL_law_596 dL_law_598 dL_law_599 dL_law_600 (zi := 1) (by decide) rfl rfl (by omega) hL ?_
  refine lw_ld hX hs dL_law_601 dL_law_602 dL_law_604 dL_law_605 dL_law_606 (zi := 2) (by decide) rfl rfl (by omega) hL ?_
  refine lw_ld hX hs dL_law_607 dL_law_608 dL_law_610 dL_law_611 dL_law_612 (zi := 3) (by decide) rfl rfl (by omega) hL ?_
  refine lw_ld hX hs dL_law_613 dL_law_614 dL_law_616 dL_law_617 dL_law_618 (zi := 4) (by decide) rfl rfl (by omega) hL ?_
  refine lw_ld hX hs dL_law_619 dL_law_620 dL_law_622 dL_law_623 dL_law_624 (zi := 5) (by decide) rfl rfl (by omega) hL ?_
  refine lw_ld6 hX hs dL_law_625 dL_law_626 dL_law_628 dL_law_630 dL_law_631 (zi := 6) (by decide) rfl rfl (by omega) hL ?_
  refine j_callV hX (nA := 6) (cq := (RX12, TX12, 37)) (As := [.int (xs (i + 1)), .int (xs (i + 2)), .int (xs (i + 3)), .int (xs (i + 4)), .int (xs (i + 5)), .int (xs (i + 6))]) (st := []) (ci := 13) (wa := []) (w0 := wM G ad' V' M' t) (wb := (bd, .inl (G.2.2 6, 1, .inr (.inr (.inr (.inl fd))))) :: (bo, .inl (G.2.2 5, 1, .inr (.inl fo2))) :: w3) rfl dL_law_632 (c_X12_addBundle G ad' V' M' t o ho2 ho (xs (i + 1)) (xs (i + 2)) (xs (i + 3)) (xs (i + 4)) (xs (i + 5)) (xs (i + 6))) gL_law_X12_addBundle rfl (by decide +kernel) (q := 0) rfl (by decide) (Nat.le_of_ble_eq_true rfl) rfl (Nat.le_of_ble_eq_true rfl) ⟨by omega, by omega⟩ rfl rfl (fun rv4 w4 hp4 => ?_)
  obtain ⟨rfl, rfl⟩ := hp4
  refine jW.world (ws' := wM G ad' (mbun o V' M' (xs (i + 1)) (xs (i + 2)) (xs (i + 3)) (xs (i + 4)) (xs (i + 5)) (xs (i + 6))).2.1 (mbun o V' M' (xs (i + 1)) (xs (i + 2)) (xs (i + 3)) (xs (i + 4)) (xs (i + 5)) (xs (i + 6))).2.2 t ++ ((bd, .inl (G.2.2 6, 1, .inr (.inr (.inr (.inl fd))))) :: (bo, .inl (G.2.2 5, 1, .inr (.inl fo2))) :: w3)) rfl ?_
  refine jW.stk (st' := [.int (mbun o V' M' (xs (i + 1)) (xs (i + 2)) (xs (i + 3)) (xs (i + 4)) (xs (i + 5)) (xs (i + 6))).1]) rfl ?_
  exact lw_tl hX (V' := (mbun o V' M' (xs (i + 1)) (xs (i + 2)) (xs (i + 3)) (xs (i + 4)) (xs (i + 5)) (xs (i + 6))).2.1) (M' := (mbun o V' M' (xs (i + 1)) (xs (i + 2)) (xs (i + 3)) (xs (i + 4)) (xs (i + 5)) (xs (i + 6))).2.2) (t := t) rfl hr ⟨by omega, by omega⟩ dL_law_635 dL_law_637 dL_law_638 dL_law_641 dL_law_643 dL_law_648 dL_law_650 dL_law_653 dL_law_654 dL_law_655 dL_law_656 dL_law_658 dL_law_659 dL_law_660 dL_law_665 (by decide) (jW.widen (k' := k + 1) (n' := n + 9) (by omega) (by omega) (kk _ ⟨(mbun o V' M' (xs (i + 1)) (xs (i + 2)) (xs (i + 3)) (xs (i + 4)) (xs (i + 5)) (xs (i + 6))).2.1, (mbun o V' M' (xs (i + 1)) (xs (i + 2)) (xs (i + 3)) (xs (i + 4)) (xs (i + 5)) (xs (i + 6))).2.2, t, ad', fd, fo2, w3, hC, rfl, rfl⟩))
set_option maxHeartbeats 4000000 in
set_option maxRecDepth 100000 in
theorem lc_8 {G : jG} {X : jX} {k n : Nat} {post : Option Value → va_W → Prop} (hX : jOK G X RL cL_law wsL_law (some .boolean) 9 2048 603072 7194730 post) (hH : jTL X) (hG : G.1.stackTraces = false) {b L : Nat} {xs : Nat → Int32} (hs : jScr X b L xs) (hL : L ≤ 3584) {bx bm bo bd i : Nat} (hi : i + 7 ≤ L) (hk : k + 1 ≤ 603072 ∧ n + 9 ≤ 7194730) {ws : va_W} (hw : LW G bm bd bo bx ws) (kk : ∀ ws' : va_W, LW G bm bd bo bx ws' → jW G X (k + 1) (n + 9) 1437 [some (.ref b), some (.ref bx), some (.ref bm), some (.ref bo), some (.ref bd), some (.int (nI i)), none, none, none] [] ws') : jW G X k n 668 [some (.ref b), some (.ref bx), some (.ref bm), some (.ref bo), some (.ref bd), some (.int (nI i)), none, none, none] [] ws := by
  obtain ⟨V', M', t, ad', fd, fo, w, ⟨V, M, os, a, o, c, ad, h, rfl, rfl⟩, rfl, rfl⟩ := hw
  have hJ := RX_mJ h
  obtain ⟨ha, ha6, hcb, ho2, ho, hc1, hc, -⟩ := id hJ
  have hsz := h.1.2.2.1.1
  have hn := h.1.2.2.1.2
  have hso := h.1.2.2.2.1.1
  have hos := RX_okO h
  refine j_aload_n hX dL_law_668 rfl ?_
  refine lw_ld hX hs dL_law_669 dL_law_670 dL_law_672 dL_law_673 dL_law_674 (zi := 1) (by decide) rfl rfl (by omega) hL ?_
  refine lw_ld hX hs dL_law_675 dL_law_676 dL_law_678 dL_law_679 dL_law_680 (zi := 2) (by decide) rfl rfl (by omega) hL ?_
  refine lw_ld hX hs dL_law_681 dL_law_682 dL_law_684 dL_law_685 dL_law_686 (zi := 3) (by decide) rfl rfl (by omega) hL ?_
  refine lw_ld hX hs dL_law_687 dL_law_688 dL_law_690 dL_law_691 dL_law_692 (zi := 4) (by decide) rfl rfl (by omega) hL ?_
  refine j_aload_n hX dL_law_693 rfl ?_
  refine j_callH hX hH (nA := 6) (As := [.ref (ad 0), .int (xs (i + 1)), .int (xs (i + 2)), .int (xs (i + 3)), .int (xs (i + 4)), .ref bo]) (st := []) (wa := wM G ad' V' M' t ++ [(bd, .inl (G.2.2 6, 1, .inr (.inr (.inr (.inl fd)))))]) (w0 := (bo, .inl (G.2.2 5, 1, .inr (.inl fo))) :: wC G ad V M (enO ad o) (wO ad os o)) (wb := []) dL_law_694 (c_L_addThreshold G (wCg0 G ad V M (enO ad o) (wO ad os o)) (xs (i + 1)) (xs (i + 2)) (xs (i + 3)) (xs (i + 4)) (c_X11_addThreshold G hG ad V M os o (xs (i + 1)) (xs (i + 2)) (xs (i + 3)) (xs (i + 4)) hso ho hos) (fun rv w1 hp => ⟨_, hp.2.1⟩) (fun E hE => ((cl_thr h (xs (i + 1)) (xs (i + 2)) (xs (i + 3)) (xs (i + 4))).2 E hE).1.elim (fun q => Or.inl q.1) (fun q => Or.inr q.1)) bo fo) gL_law_L_addThreshold rfl (by decide +kernel) (by decide) (Nat.le_of_ble_eq_true rfl) rfl (Nat.le_of_ble_eq_true rfl) ⟨by omega, by omega⟩ rfl (by simp) (fun rv w2 hp => ?_)
  have hU : ∃ (fo2 : Nat → Int64) (w3 : va_W), rv = some (.int ((mthr o V' M' (xs (i + 1)) (xs (i + 2)) (xs (i + 3)) (xs (i + 4))).2.1 4)) ∧ w2 = (bo, .inl (G.2.2 5, 1, .inr (.inl fo2))) :: w3 ∧ (((mthr o V' M' (xs (i + 1)) (xs (i + 2)) (xs (i + 3)) (xs (i + 4))).2.1 4) = 0 → fo2 0 = ((mthr o V' M' (xs (i + 1)) (xs (i + 2)) (xs (i + 3)) (xs (i + 4))).1).toInt64) ∧ CW G (ad 0) w3 (mthr o V' M' (xs (i + 1)) (xs (i + 2)) (xs (i + 3)) (xs (i + 4))).2.1 (mthr o V' M' (xs (i + 1)) (xs (i + 2)) (xs (i + 3)) (xs (i + 4))).2.2 t := by
    rcases hp with ⟨v, w1, ⟨p1, p2, q, p3⟩, h2, h3⟩ | ⟨E, hE, h2, h3⟩
    · obtain ⟨g1, g2, g3⟩ := (cl_thr h (xs (i + 1)) (xs (i + 2)) (xs (i + 3)) (xs (i + 4))).1 p1
      have e9 : v = _ := Value.int.inj (Option.some.inj p2)
      exact lu_a g1 (e9.trans g2) h2 h3 ⟨_, _, _, _, _, _, adU ad o q, g3, if_neg (by omega), p3⟩
    · obtain ⟨q1, g3⟩ := (cl_thr h (xs (i + 1)) (xs (i + 2)) (xs (i + 3)) (xs (i + 4))).2 E hE
      obtain ⟨z, hz, z1, z2⟩ := lu_2 (e1 := "java/lang/IllegalArgumentException") (e2 := "java/lang/IllegalStateException") (by decide) q1 h2
      exact lu_b hz z1 z2 h3 ⟨_, _, _, _, _, _, ad, g3, rfl, rfl⟩
  obtain ⟨fo2, w3, rfl, rfl, hr, hC⟩ := hU
  refine jW.world (ws' := wM G ad' V' M' t ++ ((bd, .inl (G.2.2 6, 1, .inr (.inr (.inr (.inl fd))))) :: (bo, .inl (G.2.2 5, 1, .inr (.inl fo2))) :: w3)) (by simp) ?_
  refine jW.stk (st' := [.int ((mthr o V' M' (xs (i + 1)) (xs (i + 2)) (xs (i + 3)) (xs (i + 4))).2.1 4)]) rfl ?_
  refine j_istore hX (ls' := [some (.ref b), some (.ref (ad 0)), some (.ref (ad' 0)), some (.ref bo), some (.ref bd), some (.int (nI i)), some (.int ((mthr o V' M' (xs (i + 1)) (xs (i + 2)) (xs (i + 3)) (xs (i + 4))).2.1 4)), none, none]) dL_law_697 (Nat.le_of_ble_eq_true rfl) rfl rfl ?_
  refine j_aload_n hX dL_law_699 rfl ?_
  refine lw_ld hX hs dL_law_700 dL_law_701 dL_law_703 dL_law_704 dL_law_705 (zi := 1) (by decide) rfl rfl (by omega) hL ?_
  refine lw_ld hX hs dL_law_706 dL_law_707 dL_law_709 dL_law_710 dL_law_711 (zi := 2) (by decide) rfl rfl (by omega) hL ?_
  refine lw_ld hX hs dL_law_712 dL_law_713 dL_law_715 dL_law_716 dL_law_717 (zi := 3) (by decide) rfl rfl (by omega) hL ?_
  refine lw_ld hX hs dL_law_718 dL_law_719 dL_law_721 dL_law_722 dL_law_723 (zi := 4) (by decide) rfl rfl (by omega) hL ?_
  refine j_callV hX (nA := 4) (cq := (RX12, TX12, 37)) (As := [.int (xs (i + 1)), .int (xs (i + 2)), .int (xs (i + 3)), .int (xs (i + 4))]) (st := []) (ci := 13) (wa := []) (w0 := wM G ad' V' M' t) (wb := (bd, .inl (G.2.2 6, 1, .inr (.inr (.inr (.inl fd))))) :: (bo, .inl (G.2.2 5, 1, .inr (.inl fo2))) :: w3) rfl dL_law_724 (c_X12_addThreshold G ad' V' M' t o ho2 ho (xs (i + 1)) (xs (i + 2)) (xs (i + 3)) (xs (i + 4))) gL_law_X12_addThreshold rfl (by decide +kernel) (q := 0) rfl (by decide) (Nat.le_of_ble_eq_true rfl) rfl (Nat.le_of_ble_eq_true rfl) ⟨by omega, by omega⟩ rfl rfl (fun rv4 w4 hp4 => ?_)
  obtain ⟨rfl, rfl⟩ := hp4
  refine jW.world (ws' := wM G ad' (mthr o V' M' (xs (i + 1)) (xs (i + 2)) (xs (i + 3)) (xs (i + 4))).2.1 (mthr o V' M' (xs (i + 1)) (xs (i + 2)) (xs (i + 3)) (xs (i + 4))).2.2 t ++ ((bd, .inl (G.2.2 6, 1, .inr (.inr (.inr (.inl fd))))) :: (bo, .inl (G.2.2 5, 1, .inr (.inl fo2))) :: w3)) rfl ?_
  refine jW.stk (st' := [.int (mthr o V' M' (xs (i + 1)) (xs (i + 2)) (xs (i + 3)) (xs (i + 4))).1]) rfl ?_
  exact lw_tl hX (V' := (mthr o V' M' (xs (i + 1)) (xs (i + 2)) (xs (i + 3)) (xs (i + 4))).2.1) (M' := (mthr o V' M' (xs (i + 1)) (xs (i + 2)) (xs (i + 3)) (xs (i + 4))).2.2) (t := t) rfl hr ⟨by omega, by omega⟩ dL_law_727 dL_law_729 dL_law_730 dL_law_733 dL_law_735 dL_law_740 dL_law_742 dL_law_745 dL_law_746 dL_law_747 dL_law_748 dL_law_750 dL_law_751 dL_law_752 dL_law_757 (by decide) (jW.widen (k' := k + 1) (n' := n + 9) (by omega) (by omega) (kk _ ⟨(mthr o V' M' (xs (i + 1)) (xs (i + 2)) (xs (i + 3)) (xs (i + 4))).2.1, (mthr o V' M' (xs (i + 1)) (xs (i + 2)) (xs (i + 3)) (xs (i + 4))).2.2, t, ad', fd, fo2, w3, hC, rfl, rfl⟩))
set_option maxHeartbeats 4000000 in
set_option maxRecDepth 100000 in
theorem lc_9 {G : jG} {X : jX} {k n : Nat} {post : Option Value → va_W → Prop} (hX : jOK G X RL cL_law wsL_law (some .boolean) 9 2048 603072 7194730 post) (hH : jTL X) (hG : G.1.stackTraces = false) {b L : Nat} {xs : Nat → Int32} (hs : jScr X b L xs) (hL : L ≤ 3584) {bx bm bo bd i : Nat} (hi : i + 7 ≤ L) (hk : k + 1 ≤ 603072 ∧ n + 9 ≤ 7194730) {ws : va_W} (hw : LW G bm bd bo bx ws) (kk : ∀ ws' : va_W, LW G bm bd bo bx ws' → jW G X (k + 1) (n + 9) 1437 [some (.ref b), some (.ref bx), some (.ref bm), some (.ref bo), some (.ref bd), some (.int (nI i)), none, none, none] [] ws') : jW G X k n 760 [some (.ref b), some (.ref bx), some (.ref bm), some (.ref bo), some (.ref bd), some (.int (nI i)), none, none, none] [] ws := by
  obtain ⟨V', M', t, ad', fd, fo, w, ⟨V, M, os, a, o, c, ad, h, rfl, rfl⟩, rfl, rfl⟩ := hw
  have hJ := RX_mJ h
  obtain ⟨ha, ha6, hcb, ho2, ho, hc1, hc, -⟩ := id hJ
  have hsz := h.1.2.2.1.1
  have hn := h.1.2.2.1.2
  have hso := h.1.2.2.2.1.1
  have hos := RX_okO h
  refine j_aload_n hX dL_law_760 rfl ?_
  refine lw_ld hX hs dL_law_761 dL_law_762 dL_law_764 dL_law_765 dL_law_766 (zi := 1) (by decide) rfl rfl (by omega) hL ?_
  refine j_aload_n hX dL_law_767 rfl ?_
  refine j_callH hX hH (nA := 3) (As := [.ref (ad 0), .int (xs (i + 1)), .ref bo]) (st := []) (wa := wM G ad' V' M' t ++ [(bd, .inl (G.2.2 6, 1, .inr (.inr (.inr (.inl fd)))))]) (w0 := (bo, .inl (G.2.2 5, 1, .inr (.inl fo))) :: wC G ad V M (enO ad o) (wO ad os o)) (wb := []) dL_law_768 (c_L_left G (wCg0 G ad V M (enO ad o) (wO ad os o)) (xs (i + 1)) (c_X11_left G hG ad V M os o (xs (i + 1)) hso ho hos) (fun rv w1 hp => ⟨_, hp.2.1⟩) (fun E hE => ((cl_left h (xs (i + 1))).2 E hE).1.1) bo fo) gL_law_L_left rfl (by decide +kernel) (by decide) (Nat.le_of_ble_eq_true rfl) rfl (Nat.le_of_ble_eq_true rfl) ⟨by omega, by omega⟩ rfl (by simp) (fun rv w2 hp => ?_)
  have hU : ∃ (fo2 : Nat → Int64) (w3 : va_W), rv = some (.int ((mleft o c V' M' (xs (i + 1))).2.1 4)) ∧ w2 = (bo, .inl (G.2.2 5, 1, .inr (.inl fo2))) :: w3 ∧ (((mleft o c V' M' (xs (i + 1))).2.1 4) = 0 → fo2 0 = ((mleft o c V' M' (xs (i + 1))).1).toInt64) ∧ CW G (ad 0) w3 (mleft o c V' M' (xs (i + 1))).2.1 (mleft o c V' M' (xs (i + 1))).2.2 t := by
    rcases hp with ⟨v, w1, ⟨p1, p2, p3⟩, h2, h3⟩ | ⟨E, hE, h2, h3⟩
    · obtain ⟨g1, g2, g3⟩ := (cl_left h (xs (i + 1))).1 p1
      have e9 : v = _ := Value.int.inj (Option.some.inj p2)
      exact lu_a g1 (e9.trans g2) h2 h3 ⟨_, _, _, _, _, _, ad, g3, rfl, p3⟩
    · obtain ⟨⟨q1, q2⟩, g3⟩ := (cl_left h (xs (i + 1))).2 E hE
      exact lu_b (z := 1) (by decide) q2 h2.2 h3 ⟨_, _, _, _, _, _, ad, g3, rfl, rfl⟩
  obtain ⟨fo2, w3, rfl, rfl, hr, hC⟩ := hU
  refine jW.world (ws' := wM G ad' V' M' t ++ ((bd, .inl (G.2.2 6, 1, .inr (.inr (.inr (.inl fd))))) :: (bo, .inl (G.2.2 5, 1, .inr (.inl fo2))) :: w3)) (by simp) ?_
  refine jW.stk (st' := [.int ((mleft o c V' M' (xs (i + 1))).2.1 4)]) rfl ?_
  refine j_istore hX (ls' := [some (.ref b), some (.ref (ad 0)), some (.ref (ad' 0)), some (.ref bo), some (.ref bd), some (.int (nI i)), some (.int ((mleft o c V' M' (xs (i + 1))).2.1 4)), none, none]) dL_law_771 (Nat.le_of_ble_eq_true rfl) rfl rfl ?_
  refine j_aload_n hX dL_law_773 rfl ?_
  refine lw_ld hX hs dL_law_774 dL_law_775 dL_law_777 dL_law_778 dL_law_779 (zi := 1) (by decide) rfl rfl (by omega) hL ?_
  refine j_callV hX (nA := 1) (cq := (RX12, TX12, 37)) (As := [.int (xs (i + 1))]) (st := []) (ci := 13) (wa := []) (w0 := wM G ad' V' M' t) (wb := (bd, .inl (G.2.2 6, 1, .inr (.inr (.inr (.inl fd))))) :: (bo, .inl (G.2.2 5, 1, .inr (.inl fo2))) :: w3) rfl dL_law_780 (c_X12_left G ad' V' M' t o ho2 ho c hc1 hc (xs (i + 1))) gL_law_X12_left rfl (by decide +kernel) (q := 0) rfl (by decide) (Nat.le_of_ble_eq_true rfl) rfl (Nat.le_of_ble_eq_true rfl) ⟨by omega, by omega⟩ rfl rfl (fun rv4 w4 hp4 => ?_)
  obtain ⟨rfl, rfl⟩ := hp4
  refine jW.world (ws' := wM G ad' (mleft o c V' M' (xs (i + 1))).2.1 (mleft o c V' M' (xs (i + 1))).2.2 t ++ ((bd, .inl (G.2.2 6, 1, .inr (.inr (.inr (.inl fd))))) :: (bo, .inl (G.2.2 5, 1, .inr (.inl fo2))) :: w3)) rfl ?_
  refine jW.stk (st' := [.int (mleft o c V' M' (xs (i + 1))).1]) rfl ?_
  exact lw_tl hX (V' := (mleft o c V' M' (xs (i + 1))).2.1) (M' := (mleft o c V' M' (xs (i + 1))).2.2) (t := t) rfl hr ⟨by omega, by omega⟩ dL_law_783 dL_law_785 dL_law_786 dL_law_789 dL_law_791 dL_law_796 dL_law_798 dL_law_801 dL_law_802 dL_law_803 dL_law_804 dL_law_806 dL_law_807 dL_law_808 dL_law_813 (by decide) (jW.widen (k' := k + 1) (n' := n + 9) (by omega) (by omega) (kk _ ⟨(mleft o c V' M' (xs (i + 1))).2.1, (mleft o c V' M' (xs (i + 1))).2.2, t, ad', fd, fo2, w3, hC, rfl, rfl⟩))
set_option maxHeartbeats 4000000 in
set_option maxRecDepth 100000 in
theorem lc_10 {G : jG} {X : jX} {k n : Nat} {post : Option Value → va_W → Prop} (hX : jOK G X RL cL_law wsL_law (some .boolean) 9 2048 603072 7194730 post) (hH : jTL X) (hG : G.1.stackTraces = false) {b L : Nat} {xs : Nat → Int32} (hs : jScr X b L xs) (hL : L ≤ 3584) {bx bm bo bd i : Nat} (hi : i + 7 ≤ L) (hk : k + 1 ≤ 603072 ∧ n + 9 ≤ 7194730) {ws : va_W} (hw : LW G bm bd bo bx ws) (kk : ∀ ws' : va_W, LW G bm bd bo bx ws' → jW G X (k + 1) (n + 9) 1437 [some (.ref b), some (.ref bx), some (.ref bm), some (.ref bo), some (.ref bd), some (.int (nI i)), none, none, none] [] ws') : jW G X k n 816 [some (.ref b), some (.ref bx), some (.ref bm), some (.ref bo), some (.ref bd), some (.int (nI i)), none, none, none] [] ws := by
  obtain ⟨V', M', t, ad', fd, fo, w, ⟨V, M, os, a, o, c, ad, h, rfl, rfl⟩, rfl, rfl⟩ := hw
  have hJ := RX_mJ h
  obtain ⟨ha, ha6, hcb, ho2, ho, hc1, hc, -⟩ := id hJ
  have hsz := h.1.2.2.1.1
  have hn := h.1.2.2.1.2
  have hso := h.1.2.2.2.1.1
  have hos := RX_okO h
  refine j_aload_n hX dL_law_816 rfl ?_
  refine j_callV hX (nA := 0) (cq := (RX11, TX11, 7)) (As := []) (st := []) (ci := 12) (wa := wM G ad' V' M' t ++ [(bd, .inl (G.2.2 6, 1, .inr (.inr (.inr (.inl fd))))), (bo, .inl (G.2.2 5, 1, .inr (.inl fo)))]) (w0 := wC G ad V M (enO ad o) (wO ad os o)) (wb := []) rfl dL_law_817 (c_X11_offers G ad V M (enO ad o) (wO ad os o)) gL_law_X11_offers rfl (by decide +kernel) (q := 32) rfl (by decide) (Nat.le_of_ble_eq_true rfl) rfl (Nat.le_of_ble_eq_true rfl) ⟨by omega, by omega⟩ rfl (by simp) (fun rv w2 hp => ?_)
  obtain ⟨rfl, rfl⟩ := hp
  refine jW.world (ws' := wM G ad' V' M' t ++ ((bd, .inl (G.2.2 6, 1, .inr (.inr (.inr (.inl fd))))) :: (bo, .inl (G.2.2 5, 1, .inr (.inl fo))) :: wC G ad V M (enO ad o) (wO ad os o))) (by simp) ?_
  refine jW.stk (st' := [.int (V 4)]) rfl ?_
  refine j_aload_n hX dL_law_820 rfl ?_
  refine j_callV hX (nA := 0) (cq := (RX12, TX12, 37)) (As := []) (st := [.int (V 4)]) (ci := 13) (wa := []) (w0 := wM G ad' V' M' t) (wb := (bd, .inl (G.2.2 6, 1, .inr (.inr (.inr (.inl fd))))) :: (bo, .inl (G.2.2 5, 1, .inr (.inl fo))) :: wC G ad V M (enO ad o) (wO ad os o)) rfl dL_law_821 (c_X12_offers G ad' V' M' t) gL_law_X12_offers rfl (by decide +kernel) (q := 0) rfl (by decide) (Nat.le_of_ble_eq_true rfl) rfl (Nat.le_of_ble_eq_true rfl) ⟨by omega, by omega⟩ rfl rfl (fun rv4 w4 hp4 => ?_)
  obtain ⟨rfl, rfl⟩ := hp4
  refine jW.world (ws' := wM G ad' (sV V' 4 0) M' t ++ ((bd, .inl (G.2.2 6, 1, .inr (.inr (.inr (.inl fd))))) :: (bo, .inl (G.2.2 5, 1, .inr (.inl fo))) :: wC G ad V M (enO ad o) (wO ad os o))) rfl ?_
  refine jW.stk (st' := [.int (V' 2), .int (V 4)]) rfl ?_
  exact j_icmp_eq_t hX (tgt := 1437) dL_law_824 (by decide) (hso.trans ho2.symm) (jW.widen (k' := k + 1) (n' := n + 9) (by omega) (by omega) (kk _ ⟨(sV V' 4 0), M', t, ad', fd, fo, _, ⟨_, _, os, a, o, c, ad, (RX_V h 0), rfl, rfl⟩, rfl, rfl⟩))
set_option maxHeartbeats 4000000 in
set_option maxRecDepth 100000 in
theorem lc_11 {G : jG} {X : jX} {k n : Nat} {post : Option Value → va_W → Prop} (hX : jOK G X RL cL_law wsL_law (some .boolean) 9 2048 603072 7194730 post) (hH : jTL X) (hG : G.1.stackTraces = false) {b L : Nat} {xs : Nat → Int32} (hs : jScr X b L xs) (hL : L ≤ 3584) {bx bm bo bd i : Nat} (hi : i + 7 ≤ L) (hk : k + 1 ≤ 603072 ∧ n + 9 ≤ 7194730) {ws : va_W} (hw : LW G bm bd bo bx ws) (kk : ∀ ws' : va_W, LW G bm bd bo bx ws' → jW G X (k + 1) (n + 9) 1437 [some (.ref b), some (.ref bx), some (.ref bm), some (.ref bo), some (.ref bd), some (.int (nI i)), none, none, none] [] ws') : jW G X k n 829 [some (.ref b), some (.ref bx), some (.ref bm), some (.ref bo), some (.ref bd), some (.int (nI i)), none, none, none] [] ws := by
  obtain ⟨V', M', t, ad', fd, fo, w, ⟨V, M, os, a, o, c, ad, h, rfl, rfl⟩, rfl, rfl⟩ := hw
  have hJ := RX_mJ h
  obtain ⟨ha, ha6, hcb, ho2, ho, hc1, hc, -⟩ := id hJ
  have hsz := h.1.2.2.1.1
  have hn := h.1.2.2.1.2
  have hso := h.1.2.2.2.1.1
  have hos := RX_okO h
  refine j_aload_n hX dL_law_829 rfl ?_
  refine j_callV hX (nA := 0) (cq := (RX11, TX11, 7)) (As := []) (st := []) (ci := 12) (wa := wM G ad' V' M' t ++ [(bd, .inl (G.2.2 6, 1, .inr (.inr (.inr (.inl fd))))), (bo, .inl (G.2.2 5, 1, .inr (.inl fo)))]) (w0 := wC G ad V M (enO ad o) (wO ad os o)) (wb := []) rfl dL_law_830 (c_X11_bestDiscount G ad V M os o (cb (M' 5) a) hsz hn hso ho hos) gL_law_X11_bestDiscount rfl (by decide +kernel) (q := 32) rfl (by decide) (Nat.le_of_ble_eq_true rfl) rfl (Nat.le_of_ble_eq_true rfl) ⟨by omega, by omega⟩ rfl (by simp) (fun rv w2 hp => ?_)
  obtain ⟨rfl, rfl⟩ := hp
  refine jW.world (ws' := wM G ad' V' M' t ++ ((bd, .inl (G.2.2 6, 1, .inr (.inr (.inr (.inl fd))))) :: (bo, .inl (G.2.2 5, 1, .inr (.inl fo))) :: wC G ad (findF os o (cb (M' 5) a) (V, M)).1 (findF os o (cb (M' 5) a) (V, M)).2 (enO ad o) (wO ad os o))) (by simp) ?_
  refine jW.stk (st' := [.int ((findF os o (cb (M' 5) a) (V, M)).1 6)]) rfl ?_
  refine j_aload_n hX dL_law_833 rfl ?_
  refine j_callV hX (nA := 0) (cq := (RX12, TX12, 37)) (As := []) (st := [.int ((findF os o (cb (M' 5) a) (V, M)).1 6)]) (ci := 13) (wa := []) (w0 := wM G ad' V' M' t) (wb := (bd, .inl (G.2.2 6, 1, .inr (.inr (.inr (.inl fd))))) :: (bo, .inl (G.2.2 5, 1, .inr (.inl fo))) :: wC G ad (findF os o (cb (M' 5) a) (V, M)).1 (findF os o (cb (M' 5) a) (V, M)).2 (enO ad o) (wO ad os o)) rfl dL_law_834 (c_X12_bestDiscount G ad' V' M' t a o c hJ (ask_RX h).2.2.1) gL_law_X12_bestDiscount rfl (by decide +kernel) (q := 0) rfl (by decide) (Nat.le_of_ble_eq_true rfl) rfl (Nat.le_of_ble_eq_true rfl) ⟨by omega, by omega⟩ rfl rfl (fun rv4 w4 hp4 => ?_)
  obtain ⟨rfl, rfl⟩ := hp4
  refine jW.world (ws' := wM G ad' (fdF a o c (sV V' 4 0, M')).1 (fdF a o c (sV V' 4 0, M')).2 t ++ ((bd, .inl (G.2.2 6, 1, .inr (.inr (.inr (.inl fd))))) :: (bo, .inl (G.2.2 5, 1, .inr (.inl fo))) :: wC G ad (findF os o (cb (M' 5) a) (V, M)).1 (findF os o (cb (M' 5) a) (V, M)).2 (enO ad o) (wO ad os o))) rfl ?_
  refine jW.stk (st' := [.int ((fdF a o c (sV V' 4 0, M')).1 8), .int ((findF os o (cb (M' 5) a) (V, M)).1 6)]) rfl ?_
  exact j_icmp_eq_t hX (tgt := 1437) dL_law_837 (by decide) (cl_best h) (jW.widen (k' := k + 1) (n' := n + 9) (by omega) (by omega) (kk _ ⟨(fdF a o c (sV V' 4 0, M')).1, (fdF a o c (sV V' 4 0, M')).2, t, ad', fd, fo, _, ⟨_, _, os, a, o, c, ad, (ask_RX h).1, rfl, rfl⟩, rfl, rfl⟩))
set_option maxHeartbeats 4000000 in
set_option maxRecDepth 100000 in
theorem lc_12 {G : jG} {X : jX} {k n : Nat} {post : Option Value → va_W → Prop} (hX : jOK G X RL cL_law wsL_law (some .boolean) 9 2048 603072 7194730 post) (hH : jTL X) (hG : G.1.stackTraces = false) {b L : Nat} {xs : Nat → Int32} (hs : jScr X b L xs) (hL : L ≤ 3584) {bx bm bo bd i : Nat} (hi : i + 7 ≤ L) (hk : k + 1 ≤ 603072 ∧ n + 9 ≤ 7194730) {ws : va_W} (hw : LW G bm bd bo bx ws) (kk : ∀ ws' : va_W, LW G bm bd bo bx ws' → jW G X (k + 1) (n + 9) 1437 [some (.ref b), some (.ref bx), some (.ref bm), some (.ref bo), some (.ref bd), some (.int (nI i)), none, none, none] [] ws') : jW G X k n 842 [some (.ref b), some (.ref bx), some (.ref bm), some (.ref bo), some (.ref bd), some (.int (nI i)), none, none, none] [] ws := by
  obtain ⟨V', M', t, ad', fd, fo, w, ⟨V, M, os, a, o, c, ad, h, rfl, rfl⟩, rfl, rfl⟩ := hw
  have hJ := RX_mJ h
  obtain ⟨ha, ha6, hcb, ho2, ho, hc1, hc, -⟩ := id hJ
  have hsz := h.1.2.2.1.1
  have hn := h.1.2.2.1.2
  have hso := h.1.2.2.2.1.1
  have hos := RX_okO h
  refine j_aload_n hX dL_law_842 rfl ?_
  refine j_aload_n hX dL_law_843 rfl ?_
  refine j_callH hX hH (nA := 2) (As := [.ref (ad 0), .ref bo]) (st := []) (wa := wM G ad' V' M' t ++ [(bd, .inl (G.2.2 6, 1, .inr (.inr (.inr (.inl fd)))))]) (w0 := (bo, .inl (G.2.2 5, 1, .inr (.inl fo))) :: wC G ad V M (enO ad o) (wO ad os o)) (wb := []) dL_law_844 (c_L_bestByTrying G (wCg0 G ad V M (enO ad o) (wO ad os o))  (c_X11_bestByTrying G hG ad V M os o (stF (findF os o (cb (M' 5) a) (V, M)).2) (cb (M' 5) a) hsz hn hso ho hos (ask_st h)) (fun rv w1 hp => ⟨_, hp.2.1⟩) (fun E hE => ((cl_try h).2 E hE).1.1) bo fo) gL_law_L_bestByTrying rfl (by decide +kernel) (by decide) (Nat.le_of_ble_eq_true rfl) rfl (Nat.le_of_ble_eq_true rfl) ⟨by omega, by omega⟩ rfl (by simp) (fun rv w2 hp => ?_)
  have hU : ∃ (fo2 : Nat → Int64) (w3 : va_W), rv = some (.int ((mtry a o c V' M').2.1 4)) ∧ w2 = (bo, .inl (G.2.2 5, 1, .inr (.inl fo2))) :: w3 ∧ (((mtry a o c V' M').2.1 4) = 0 → fo2 0 = ((mtry a o c V' M').1).toInt64) ∧ CW G (ad 0) w3 (mtry a o c V' M').2.1 (mtry a o c V' M').2.2 t := by
    rcases hp with ⟨v, w1, ⟨p1, p2, p3⟩, h2, h3⟩ | ⟨E, hE, h2, h3⟩
    · obtain ⟨g1, g2, g3⟩ := (cl_try h).1 p1
      have e9 : v = _ := Value.int.inj (Option.some.inj p2)
      exact lu_a g1 (e9.trans g2) h2 h3 ⟨_, _, _, _, _, _, ad, g3, rfl, p3⟩
    · obtain ⟨⟨q1, q2⟩, g3⟩ := (cl_try h).2 E hE
      exact lu_b (z := 1) (by decide) q2 h2.2 h3 ⟨_, _, _, _, _, _, ad, g3, rfl, rfl⟩
  obtain ⟨fo2, w3, rfl, rfl, hr, hC⟩ := hU
  refine jW.world (ws' := wM G ad' V' M' t ++ ((bd, .inl (G.2.2 6, 1, .inr (.inr (.inr (.inl fd))))) :: (bo, .inl (G.2.2 5, 1, .inr (.inl fo2))) :: w3)) (by simp) ?_
  refine jW.stk (st' := [.int ((mtry a o c V' M').2.1 4)]) rfl ?_
  refine j_istore hX (ls' := [some (.ref b), some (.ref (ad 0)), some (.ref (ad' 0)), some (.ref bo), some (.ref bd), some (.int (nI i)), some (.int ((mtry a o c V' M').2.1 4)), none, none]) dL_law_847 (Nat.le_of_ble_eq_true rfl) rfl rfl ?_
  refine j_aload_n hX dL_law_849 rfl ?_
  refine j_callV hX (nA := 0) (cq := (RX12, TX12, 37)) (As := []) (st := []) (ci := 13) (wa := []) (w0 := wM G ad' V' M' t) (wb := (bd, .inl (G.2.2 6, 1, .inr (.inr (.inr (.inl fd))))) :: (bo, .inl (G.2.2 5, 1, .inr (.inl fo2))) :: w3) rfl dL_law_850 (c_X12_bestByTrying G ad' V' M' t a o c hJ (ask_RL h).2.2.1) gL_law_X12_bestByTrying rfl (by decide +kernel) (q := 0) rfl (by decide) (Nat.le_of_ble_eq_true rfl) rfl (Nat.le_of_ble_eq_true rfl) ⟨by omega, by omega⟩ rfl rfl (fun rv4 w4 hp4 => ?_)
  obtain ⟨rfl, rfl⟩ := hp4
  refine jW.world (ws' := wM G ad' (mtry a o c V' M').2.1 (mtry a o c V' M').2.2 t ++ ((bd, .inl (G.2.2 6, 1, .inr (.inr (.inr (.inl fd))))) :: (bo, .inl (G.2.2 5, 1, .inr (.inl fo2))) :: w3)) rfl ?_
  refine jW.stk (st' := [.int (mtry a o c V' M').1]) rfl ?_
  exact lw_tl hX (V' := (mtry a o c V' M').2.1) (M' := (mtry a o c V' M').2.2) (t := t) rfl hr ⟨by omega, by omega⟩ dL_law_853 dL_law_855 dL_law_856 dL_law_859 dL_law_861 dL_law_866 dL_law_868 dL_law_871 dL_law_872 dL_law_873 dL_law_874 dL_law_876 dL_law_877 dL_law_878 dL_law_883 (by decide) (jW.widen (k' := k + 1) (n' := n + 9) (by omega) (by omega) (kk _ ⟨(mtry a o c V' M').2.1, (mtry a o c V' M').2.2, t, ad', fd, fo2, w3, hC, rfl, rfl⟩))
set_option maxHeartbeats 4000000 in
set_option maxRecDepth 100000 in
theorem lc_13 {G : jG} {X : jX} {k n : Nat} {post : Option Value → va_W → Prop} (hX : jOK G X RL cL_law wsL_law (some .boolean) 9 2048 603072 7194730 post) (hH : jTL X) (hG : G.1.stackTraces = false) {b L : Nat} {xs : Nat → Int32} (hs : jScr X b L xs) (hL : L ≤ 3584) {bx bm bo bd i : Nat} (hi : i + 7 ≤ L) (hk : k + 1 ≤ 603072 ∧ n + 9 ≤ 7194730) {ws : va_W} (hw : LW G bm bd bo bx ws) (kk : ∀ ws' : va_W, LW G bm bd bo bx ws' → jW G X (k + 1) (n + 9) 1437 [some (.ref b), some (.ref bx), some (.ref bm), some (.ref bo), some (.ref bd), some (.int (nI i)), none, none, none] [] ws') : jW G X k n 886 [some (.ref b), some (.ref bx), some (.ref bm), some (.ref bo), some (.ref bd), some (.int (nI i)), none, none, none] [] ws := by
  obtain ⟨V', M', t, ad', fd, fo, w, ⟨V, M, os, a, o, c, ad, h, rfl, rfl⟩, rfl, rfl⟩ := hw
  have hJ := RX_mJ h
  obtain ⟨ha, ha6, hcb, ho2, ho, hc1, hc, -⟩ := id hJ
  have hsz := h.1.2.2.1.1
  have hn := h.1.2.2.1.2
  have hso := h.1.2.2.2.1.1
  have hos := RX_okO h
  refine j_aload_n hX dL_law_886 rfl ?_
  refine lw_ld hX hs dL_law_887 dL_law_888 dL_law_890 dL_law_891 dL_law_892 (zi := 1) (by decide) rfl rfl (by omega) hL ?_
  refine j_aload_n hX dL_law_893 rfl ?_
  refine j_callH hX hH (nA := 3) (As := [.ref (ad 0), .int (xs (i + 1)), .ref bo]) (st := []) (wa := wM G ad' V' M' t ++ [(bd, .inl (G.2.2 6, 1, .inr (.inr (.inr (.inl fd)))))]) (w0 := (bo, .inl (G.2.2 5, 1, .inr (.inl fo))) :: wC G ad V M (enO ad o) (wO ad os o)) (wb := []) dL_law_894 (c_L_offerOf G (wCg0 G ad V M (enO ad o) (wO ad os o)) (xs (i + 1)) (c_X11_offerOf G hG ad V M os o (xs (i + 1)) (cb (M' 5) a) hsz hn hso ho hos) (fun rv w1 hp => ⟨_, hp.2.1⟩) (fun E hE => ((cl_off h (xs (i + 1))).2.1 E hE).1.1) bo fo) gL_law_L_offerOf rfl (by decide +kernel) (by decide) (Nat.le_of_ble_eq_true rfl) rfl (Nat.le_of_ble_eq_true rfl) ⟨by omega, by omega⟩ rfl (by simp) (fun rv w2 hp => ?_)
  have hU : ∃ (fo2 : Nat → Int64) (w3 : va_W), rv = some (.int ((moff a o c V' M' (xs (i + 1))).2.1 4)) ∧ w2 = (bo, .inl (G.2.2 5, 1, .inr (.inl fo2))) :: w3 ∧ (((moff a o c V' M' (xs (i + 1))).2.1 4) = 0 → fo2 0 = ((moff a o c V' M' (xs (i + 1))).1).toInt64) ∧ CW G (ad 0) w3 (moff a o c V' M' (xs (i + 1))).2.1 (moff a o c V' M' (xs (i + 1))).2.2 t := by
    rcases hp with ⟨v, w1, ⟨p1, p2, p3⟩, h2, h3⟩ | ⟨E, hE, h2, h3⟩
    · obtain ⟨g1, g2, g3⟩ := (cl_off h (xs (i + 1))).1 p1
      have e9 : v = _ := Value.int.inj (Option.some.inj p2)
      exact lu_a g1 (e9.trans g2) h2 h3 ⟨_, _, _, _, _, _, ad, g3, rfl, p3⟩
    · obtain ⟨⟨q1, q2⟩, g3⟩ := (cl_off h (xs (i + 1))).2.1 E hE
      exact lu_b (z := 1) (by decide) q2 h2.2 h3 ⟨_, _, _, _, _, _, ad, g3, rfl, rfl⟩
  obtain ⟨fo2, w3, rfl, rfl, hr, hC⟩ := hU
  refine jW.world (ws' := wM G ad' V' M' t ++ ((bd, .inl (G.2.2 6, 1, .inr (.inr (.inr (.inl fd))))) :: (bo, .inl (G.2.2 5, 1, .inr (.inl fo2))) :: w3)) (by simp) ?_
  refine jW.stk (st' := [.int ((moff a o c V' M' (xs (i + 1))).2.1 4)]) rfl ?_
  refine j_istore hX (ls' := [some (.ref b), some (.ref (ad 0)), some (.ref (ad' 0)), some (.ref bo), some (.ref bd), some (.int (nI i)), some (.int ((moff a o c V' M' (xs (i + 1))).2.1 4)), none, none]) dL_law_897 (Nat.le_of_ble_eq_true rfl) rfl rfl ?_
  refine j_aload_n hX dL_law_899 rfl ?_
  refine lw_ld hX hs dL_law_900 dL_law_901 dL_law_903 dL_law_904 dL_law_905 (zi := 1) (by decide) rfl rfl (by omega) hL ?_
  refine j_callV hX (nA := 1) (cq := (RX12, TX12, 37)) (As := [.int (xs (i + 1))]) (st := []) (ci := 13) (wa := []) (w0 := wM G ad' V' M' t) (wb := (bd, .inl (G.2.2 6, 1, .inr (.inr (.inr (.inl fd))))) :: (bo, .inl (G.2.2 5, 1, .inr (.inl fo2))) :: w3) rfl dL_law_906 (c_X12_offerOf G ad' V' M' t a o c hJ (ask_RX h).2.2.1 (xs (i + 1)) (cl_off h (xs (i + 1))).2.2) gL_law_X12_offerOf rfl (by decide +kernel) (q := 0) rfl (by decide) (Nat.le_of_ble_eq_true rfl) rfl (Nat.le_of_ble_eq_true rfl) ⟨by omega, by omega⟩ rfl rfl (fun rv4 w4 hp4 => ?_)
  obtain ⟨rfl, rfl⟩ := hp4
  refine jW.world (ws' := wM G ad' (moff a o c V' M' (xs (i + 1))).2.1 (moff a o c V' M' (xs (i + 1))).2.2 t ++ ((bd, .inl (G.2.2 6, 1, .inr (.inr (.inr (.inl fd))))) :: (bo, .inl (G.2.2 5, 1, .inr (.inl fo2))) :: w3)) rfl ?_
  refine jW.stk (st' := [.int (moff a o c V' M' (xs (i + 1))).1]) rfl ?_
  exact lw_tl hX (V' := (moff a o c V' M' (xs (i + 1))).2.1) (M' := (moff a o c V' M' (xs (i + 1))).2.2) (t := t) rfl hr ⟨by omega, by omega⟩ dL_law_909 dL_law_911 dL_law_912 dL_law_915 dL_law_917 dL_law_922 dL_law_924 dL_law_927 dL_law_928 dL_law_929 dL_law_930 dL_law_932 dL_law_933 dL_law_934 dL_law_939 (by decide) (jW.widen (k' := k + 1) (n' := n + 9) (by omega) (by omega) (kk _ ⟨(moff a o c V' M' (xs (i + 1))).2.1, (moff a o c V' M' (xs (i + 1))).2.2, t, ad', fd, fo2, w3, hC, rfl, rfl⟩))
set_option maxHeartbeats 4000000 in
set_option maxRecDepth 100000 in
theorem lc_14 {G : jG} {X : jX} {k n : Nat} {post : Option Value → va_W → Prop} (hX : jOK G X RL cL_law wsL_law (some .boolean) 9 2048 603072 7194730 post) (hH : jTL X) (hG : G.1.stackTraces = false) {b L : Nat} {xs : Nat → Int32} (hs : jScr X b L xs) (hL : L ≤ 3584) {bx bm bo bd i : Nat} (hi : i + 7 ≤ L) (hk : k + 1 ≤ 603072 ∧ n + 9 ≤ 7194730) {ws : va_W} (hw : LW G bm bd bo bx ws) (kk : ∀ ws' : va_W, LW G bm bd bo bx ws' → jW G X (k + 1) (n + 9) 1437 [some (.ref b), some (.ref bx), some (.ref bm), some (.ref bo), some (.ref bd), some (.int (nI i)), none, none, none] [] ws') : jW G X k n 942 [some (.ref b), some (.ref bx), some (.ref bm), some (.ref bo), some (.ref bd), some (.int (nI i)), none, none, none] [] ws := by
  obtain ⟨V', M', t, ad', fd, fo, w, ⟨V, M, os, a, o, c, ad, h, rfl, rfl⟩, rfl, rfl⟩ := hw
  have hJ := RX_mJ h
  obtain ⟨ha, ha6, hcb, ho2, ho, hc1, hc, -⟩ := id hJ
  have hsz := h.1.2.2.1.1
  have hn := h.1.2.2.1.2
  have hso := h.1.2.2.2.1.1
  have hos := RX_okO h
  refine j_aload_n hX dL_law_942 rfl ?_
  refine lw_ld hX hs dL_law_943 dL_law_944 dL_law_946 dL_law_947 dL_law_948 (zi := 1) (by decide) rfl rfl (by omega) hL ?_
  refine j_aload_n hX dL_law_949 rfl ?_
  refine j_callH hX hH (nA := 3) (As := [.ref (ad 0), .int (xs (i + 1)), .ref bo]) (st := []) (wa := wM G ad' V' M' t ++ [(bd, .inl (G.2.2 6, 1, .inr (.inr (.inr (.inl fd)))))]) (w0 := (bo, .inl (G.2.2 5, 1, .inr (.inl fo))) :: wC G ad V M (enO ad o) (wO ad os o)) (wb := []) dL_law_950 (c_L_uses G (wCg0 G ad V M (enO ad o) (wO ad os o)) (xs (i + 1)) (c_X11_uses G hG ad V M os o (xs (i + 1)) (cb (M' 5) a) hsz hn hso ho hos) (fun rv w1 hp => ⟨_, hp.2.1⟩) (fun E hE => ((cl_uses h (xs (i + 1))).2 E hE).1.1) bo fo) gL_law_L_uses rfl (by decide +kernel) (by decide) (Nat.le_of_ble_eq_true rfl) rfl (Nat.le_of_ble_eq_true rfl) ⟨by omega, by omega⟩ rfl (by simp) (fun rv w2 hp => ?_)
  have hU : ∃ (fo2 : Nat → Int64) (w3 : va_W), rv = some (.int ((muses a o c V' M' (xs (i + 1))).2.1 4)) ∧ w2 = (bo, .inl (G.2.2 5, 1, .inr (.inl fo2))) :: w3 ∧ (((muses a o c V' M' (xs (i + 1))).2.1 4) = 0 → fo2 0 = ((muses a o c V' M' (xs (i + 1))).1).toInt64) ∧ CW G (ad 0) w3 (muses a o c V' M' (xs (i + 1))).2.1 (muses a o c V' M' (xs (i + 1))).2.2 t := by
    rcases hp with ⟨v, w1, ⟨p1, p2, p3⟩, h2, h3⟩ | ⟨E, hE, h2, h3⟩
    · obtain ⟨g1, g2, g3⟩ := (cl_uses h (xs (i + 1))).1 p1
      have e9 : v = _ := Value.int.inj (Option.some.inj p2)
      exact lu_a g1 (e9.trans g2) h2 h3 ⟨_, _, _, _, _, _, ad, g3, rfl, p3⟩
    · obtain ⟨⟨q1, q2⟩, g3⟩ := (cl_uses h (xs (i + 1))).2 E hE
      exact lu_b (z := 1) (by decide) q2 h2.2 h3 ⟨_, _, _, _, _, _, ad, g3, rfl, rfl⟩
  obtain ⟨fo2, w3, rfl, rfl, hr, hC⟩ := hU
  refine jW.world (ws' := wM G ad' V' M' t ++ ((bd, .inl (G.2.2 6, 1, .inr (.inr (.inr (.inl fd))))) :: (bo, .inl (G.2.2 5, 1, .inr (.inl fo2))) :: w3)) (by simp) ?_
  refine jW.stk (st' := [.int ((muses a o c V' M' (xs (i + 1))).2.1 4)]) rfl ?_
  refine j_istore hX (ls' := [some (.ref b), some (.ref (ad 0)), some (.ref (ad' 0)), some (.ref bo), some (.ref bd), some (.int (nI i)), some (.int ((muses a o c V' M' (xs (i + 1))).2.1 4)), none, none]) dL_law_953 (Nat.le_of_ble_eq_true rfl) rfl rfl ?_
  refine j_aload_n hX dL_law_955 rfl ?_
  refine lw_ld hX hs dL_law_956 dL_law_957 dL_law_959 dL_law_960 dL_law_961 (zi := 1) (by decide) rfl rfl (by omega) hL ?_
  refine j_callV hX (nA := 1) (cq := (RX12, TX12, 37)) (As := [.int (xs (i + 1))]) (st := []) (ci := 13) (wa := []) (w0 := wM G ad' V' M' t) (wb := (bd, .inl (G.2.2 6, 1, .inr (.inr (.inr (.inl fd))))) :: (bo, .inl (G.2.2 5, 1, .inr (.inl fo2))) :: w3) rfl dL_law_962 (c_X12_uses G ad' V' M' t a o c hJ (ask_RX h).2.2.1 (xs (i + 1))) gL_law_X12_uses rfl (by decide +kernel) (q := 0) rfl (by decide) (Nat.le_of_ble_eq_true rfl) rfl (Nat.le_of_ble_eq_true rfl) ⟨by omega, by omega⟩ rfl rfl (fun rv4 w4 hp4 => ?_)
  obtain ⟨rfl, rfl⟩ := hp4
  refine jW.world (ws' := wM G ad' (muses a o c V' M' (xs (i + 1))).2.1 (muses a o c V' M' (xs (i + 1))).2.2 t ++ ((bd, .inl (G.2.2 6, 1, .inr (.inr (.inr (.inl fd))))) :: (bo, .inl (G.2.2 5, 1, .inr (.inl fo2))) :: w3)) rfl ?_
  refine jW.stk (st' := [.int (muses a o c V' M' (xs (i + 1))).1]) rfl ?_
  exact lw_tl hX (V' := (muses a o c V' M' (xs (i + 1))).2.1) (M' := (muses a o c V' M' (xs (i + 1))).2.2) (t := t) rfl hr ⟨by omega, by omega⟩ dL_law_965 dL_law_967 dL_law_968 dL_law_971 dL_law_973 dL_law_978 dL_law_980 dL_law_983 dL_law_984 dL_law_985 dL_law_986 dL_law_988 dL_law_989 dL_law_990 dL_law_995 (by decide) (jW.widen (k' := k + 1) (n' := n + 9) (by omega) (by omega) (kk _ ⟨(muses a o c V' M' (xs (i + 1))).2.1, (muses a o c V' M' (xs (i + 1))).2.2, t, ad', fd, fo2, w3, hC, rfl, rfl⟩))
set_option maxHeartbeats 4000000 in
set_option maxRecDepth 100000 in
theorem lc_15 {G : jG} {X : jX} {k n : Nat} {post : Option Value → va_W → Prop} (hX : jOK G X RL cL_law wsL_law (some .boolean) 9 2048 603072 7194730 post) (hH : jTL X) (hG : G.1.stackTraces = false) {b L : Nat} {xs : Nat → Int32} (hs : jScr X b L xs) (hL : L ≤ 3584) {bx bm bo bd i : Nat} (hi : i + 7 ≤ L) (hk : k + 1 ≤ 603072 ∧ n + 9 ≤ 7194730) {ws : va_W} (hw : LW G bm bd bo bx ws) (kk : ∀ ws' : va_W, LW G bm bd bo bx ws' → jW G X (k + 1) (n + 9) 1437 [some (.ref b), some (.ref bx), some (.ref bm), some (.ref bo), some (.ref bd), some (.int (nI i)), none, none, none] [] ws') : jW G X k n 998 [some (.ref b), some (.ref bx), some (.ref bm), some (.ref bo), some (.ref bd), some (.int (nI i)), none, none, none] [] ws := by
  obtain ⟨V', M', t, ad', fd, fo, w, ⟨V, M, os, a, o, c, ad, h, rfl, rfl⟩, rfl, rfl⟩ := hw
  have hJ := RX_mJ h
  obtain ⟨ha, ha6, hcb, ho2, ho, hc1, hc, -⟩ := id hJ
  have hsz := h.1.2.2.1.1
  have hn := h.1.2.2.1.2
  have hso := h.1.2.2.2.1.1
  have hos := RX_okO h
  obtain ⟨u9, hu9, hu⟩ := ask_u9 h
  refine j_aload_n hX dL_law_998 rfl ?_
  refine lw_ld hX hs dL_law_999 dL_law_1000 dL_law_1002 dL_law_1003 dL_law_1004 (zi := 1) (by decide) rfl rfl (by omega) hL ?_
  refine j_aload_n hX dL_law_1005 rfl ?_
  refine j_callH hX hH (nA := 3) (As := [.ref (ad 0), .int (xs (i + 1)), .ref bo]) (st := []) (wa := wM G ad' V' M' t ++ [(bd, .inl (G.2.2 6, 1, .inr (.inr (.inr (.inl fd)))))]) (w0 := (bo, .inl (G.2.2 5, 1, .inr (.inl fo))) :: wC G ad V M (enO ad o) (wO ad os o)) (wb := []) dL_law_1006 (c_L_reason G (wCg0 G ad V M (enO ad o) (wO ad os o)) (xs (i + 1)) (c_X11_reason G hG ad V M os o (xs (i + 1)) u9 (cb (M' 5) a) hsz hn hso ho hos hu9 hu) (fun rv w1 hp => ⟨_, hp.2.1⟩) (fun E hE => ((cl_why h (xs (i + 1)) hu9 hu).2 E hE).1.1) bo fo) gL_law_L_reason rfl (by decide +kernel) (by decide) (Nat.le_of_ble_eq_true rfl) rfl (Nat.le_of_ble_eq_true rfl) ⟨by omega, by omega⟩ rfl (by simp) (fun rv w2 hp => ?_)
  have hU : ∃ (fo2 : Nat → Int64) (w3 : va_W), rv = some (.int ((mrea a o c V' M' (xs (i + 1))).2.1 4)) ∧ w2 = (bo, .inl (G.2.2 5, 1, .inr (.inl fo2))) :: w3 ∧ (((mrea a o c V' M' (xs (i + 1))).2.1 4) = 0 → fo2 0 = ((mrea a o c V' M' (xs (i + 1))).1).toInt64) ∧ CW G (ad 0) w3 (mrea a o c V' M' (xs (i + 1))).2.1 (mrea a o c V' M' (xs (i + 1))).2.2 t := by
    rcases hp with ⟨v, w1, ⟨p1, p2, p3⟩, h2, h3⟩ | ⟨E, hE, h2, h3⟩
    · obtain ⟨g1, g2, g3⟩ := (cl_why h (xs (i + 1)) hu9 hu).1 p1
      have e9 : v = _ := Value.int.inj (Option.some.inj p2)
      exact lu_a g1 (e9.trans g2) h2 h3 ⟨_, _, _, _, _, _, ad, g3, rfl, p3⟩
    · obtain ⟨⟨q1, q2⟩, g3⟩ := (cl_why h (xs (i + 1)) hu9 hu).2 E hE
      exact lu_b (z := 1) (by decide) q2 h2.2 h3 ⟨_, _, _, _, _, _, ad, g3, rfl, rfl⟩
  obtain ⟨fo2, w3, rfl, rfl, hr, hC⟩ := hU
  refine jW.world (ws' := wM G ad' V' M' t ++ ((bd, .inl (G.2.2 6, 1, .inr (.inr (.inr (.inl fd))))) :: (bo, .inl (G.2.2 5, 1, .inr (.inl fo2))) :: w3)) (by simp) ?_
  refine jW.stk (st' := [.int ((mrea a o c V' M' (xs (i + 1))).2.1 4)]) rfl ?_
  refine j_istore hX (ls' := [some (.ref b), some (.ref (ad 0)), some (.ref (ad' 0)), some (.ref bo), some (.ref bd), some (.int (nI i)), some (.int ((mrea a o c V' M' (xs (i + 1))).2.1 4)), none, none]) dL_law_1009 (Nat.le_of_ble_eq_true rfl) rfl rfl ?_
  refine j_aload_n hX dL_law_1011 rfl ?_
  refine lw_ld hX hs dL_law_1012 dL_law_1013 dL_law_1015 dL_law_1016 dL_law_1017 (zi := 1) (by decide) rfl rfl (by omega) hL ?_
  refine j_callV hX (nA := 1) (cq := (RX12, TX12, 37)) (As := [.int (xs (i + 1))]) (st := []) (ci := 13) (wa := []) (w0 := wM G ad' V' M' t) (wb := (bd, .inl (G.2.2 6, 1, .inr (.inr (.inr (.inl fd))))) :: (bo, .inl (G.2.2 5, 1, .inr (.inl fo2))) :: w3) rfl dL_law_1018 (c_X12_reason G ad' V' M' t a o c hJ (ask_RX h).2.2.1 (xs (i + 1))) gL_law_X12_reason rfl (by decide +kernel) (q := 0) rfl (by decide) (Nat.le_of_ble_eq_true rfl) rfl (Nat.le_of_ble_eq_true rfl) ⟨by omega, by omega⟩ rfl rfl (fun rv4 w4 hp4 => ?_)
  obtain ⟨rfl, rfl⟩ := hp4
  refine jW.world (ws' := wM G ad' (mrea a o c V' M' (xs (i + 1))).2.1 (mrea a o c V' M' (xs (i + 1))).2.2 t ++ ((bd, .inl (G.2.2 6, 1, .inr (.inr (.inr (.inl fd))))) :: (bo, .inl (G.2.2 5, 1, .inr (.inl fo2))) :: w3)) rfl ?_
  refine jW.stk (st' := [.int (mrea a o c V' M' (xs (i + 1))).1]) rfl ?_
  exact lw_tl hX (V' := (mrea a o c V' M' (xs (i + 1))).2.1) (M' := (mrea a o c V' M' (xs (i + 1))).2.2) (t := t) rfl hr ⟨by omega, by omega⟩ dL_law_1021 dL_law_1023 dL_law_1024 dL_law_1027 dL_law_1029 dL_law_1034 dL_law_1036 dL_law_1039 dL_law_1040 dL_law_1041 dL_law_1042 dL_law_1044 dL_law_1045 dL_law_1046 dL_law_1051 (by decide) (jW.widen (k' := k + 1) (n' := n + 9) (by omega) (by omega) (kk _ ⟨(mrea a o c V' M' (xs (i + 1))).2.1, (mrea a o c V' M' (xs (i + 1))).2.2, t, ad', fd, fo2, w3, hC, rfl, rfl⟩))
set_option maxHeartbeats 4000000 in
set_option maxRecDepth 100000 in
theorem lc_16 {G : jG} {X : jX} {k n : Nat} {post : Option Value → va_W → Prop} (hX : jOK G X RL cL_law wsL_law (some .boolean) 9 2048 603072 7194730 post) (hH : jTL X) (hG : G.1.stackTraces = false) {b L : Nat} {xs : Nat → Int32} (hs : jScr X b L xs) (hL : L ≤ 3584) {bx bm bo bd i : Nat} (hi : i + 7 ≤ L) (hk : k + 1 ≤ 603072 ∧ n + 9 ≤ 7194730) {ws : va_W} (hw : LW G bm bd bo bx ws) (kk : ∀ ws' : va_W, LW G bm bd bo bx ws' → jW G X (k + 1) (n + 9) 1437 [some (.ref b), some (.ref bx), some (.ref bm), some (.ref bo), some (.ref bd), some (.int (nI i)), none, none, none] [] ws') : jW G X k n 1054 [some (.ref b), some (.ref bx), some (.ref bm), some (.ref bo), some (.ref bd), some (.int (nI i)), none, none, none] [] ws := by
  obtain ⟨V', M', t, ad', fd, fo, w, ⟨V, M, os, a, o, c, ad, h, rfl, rfl⟩, rfl, rfl⟩ := hw
  have hJ := RX_mJ h
  obtain ⟨ha, ha6, hcb, ho2, ho, hc1, hc, -⟩ := id hJ
  have hsz := h.1.2.2.1.1
  have hn := h.1.2.2.1.2
  have hso := h.1.2.2.2.1.1
  have hos := RX_okO h
  refine j_aload_n hX dL_law_1054 rfl ?_
  refine lw_ld hX hs dL_law_1055 dL_law_1056 dL_law_1058 dL_law_1059 dL_law_1060 (zi := 1) (by decide) rfl rfl (by omega) hL ?_
  refine j_aload_n hX dL_law_1061 rfl ?_
  refine j_callH hX hH (nA := 3) (As := [.ref (ad 0), .int (xs (i + 1)), .ref bo]) (st := []) (wa := wM G ad' V' M' t ++ [(bd, .inl (G.2.2 6, 1, .inr (.inr (.inr (.inl fd)))))]) (w0 := (bo, .inl (G.2.2 5, 1, .inr (.inl fo))) :: wC G ad V M (enO ad o) (wO ad os o)) (wb := []) dL_law_1062 (c_L_netPrice G (wCg0 G ad V M (enO ad o) (wO ad os o)) (xs (i + 1)) (c_X11_netPrice G hG ad V M os o (xs (i + 1)) (cb (M' 5) a) hsz hn hso ho hos) (fun rv w1 hp => ⟨_, hp.2.1⟩) (fun E hE => ((cl_net h (xs (i + 1))).2 E hE).1.1) bo fo) gL_law_L_netPrice rfl (by decide +kernel) (by decide) (Nat.le_of_ble_eq_true rfl) rfl (Nat.le_of_ble_eq_true rfl) ⟨by omega, by omega⟩ rfl (by simp) (fun rv w2 hp => ?_)
  have hU : ∃ (fo2 : Nat → Int64) (w3 : va_W), rv = some (.int ((mnet a o c V' M' (xs (i + 1))).2.1 4)) ∧ w2 = (bo, .inl (G.2.2 5, 1, .inr (.inl fo2))) :: w3 ∧ (((mnet a o c V' M' (xs (i + 1))).2.1 4) = 0 → fo2 0 = ((mnet a o c V' M' (xs (i + 1))).1).toInt64) ∧ CW G (ad 0) w3 (mnet a o c V' M' (xs (i + 1))).2.1 (mnet a o c V' M' (xs (i + 1))).2.2 t := by
    rcases hp with ⟨v, w1, ⟨p1, p2, p3⟩, h2, h3⟩ | ⟨E, hE, h2, h3⟩
    · obtain ⟨g1, g2, g3⟩ := (cl_net h (xs (i + 1))).1 p1
      have e9 : v = _ := Value.int.inj (Option.some.inj p2)
      exact lu_a g1 (e9.trans g2) h2 h3 ⟨_, _, _, _, _, _, ad, g3, rfl, p3⟩
    · obtain ⟨⟨q1, q2⟩, g3⟩ := (cl_net h (xs (i + 1))).2 E hE
      exact lu_b (z := 1) (by decide) q2 h2.2 h3 ⟨_, _, _, _, _, _, ad, g3, rfl, rfl⟩
  obtain ⟨fo2, w3, rfl, rfl, hr, hC⟩ := hU
  refine jW.world (ws' := wM G ad' V' M' t ++ ((bd, .inl (G.2.2 6, 1, .inr (.inr (.inr (.inl fd))))) :: (bo, .inl (G.2.2 5, 1, .inr (.inl fo2))) :: w3)) (by simp) ?_
  refine jW.stk (st' := [.int ((mnet a o c V' M' (xs (i + 1))).2.1 4)]) rfl ?_
  refine j_istore hX (ls' := [some (.ref b), some (.ref (ad 0)), some (.ref (ad' 0)), some (.ref bo), some (.ref bd), some (.int (nI i)), some (.int ((mnet a o c V' M' (xs (i + 1))).2.1 4)), none, none]) dL_law_1065 (Nat.le_of_ble_eq_true rfl) rfl rfl ?_
  refine j_aload_n hX dL_law_1067 rfl ?_
  refine lw_ld hX hs dL_law_1068 dL_law_1069 dL_law_1071 dL_law_1072 dL_law_1073 (zi := 1) (by decide) rfl rfl (by omega) hL ?_
  refine j_callV hX (nA := 1) (cq := (RX12, TX12, 37)) (As := [.int (xs (i + 1))]) (st := []) (ci := 13) (wa := []) (w0 := wM G ad' V' M' t) (wb := (bd, .inl (G.2.2 6, 1, .inr (.inr (.inr (.inl fd))))) :: (bo, .inl (G.2.2 5, 1, .inr (.inl fo2))) :: w3) rfl dL_law_1074 (c_X12_netPrice G ad' V' M' t a o c hJ (ask_RX h).2.2.1 (xs (i + 1))) gL_law_X12_netPrice rfl (by decide +kernel) (q := 0) rfl (by decide) (Nat.le_of_ble_eq_true rfl) rfl (Nat.le_of_ble_eq_true rfl) ⟨by omega, by omega⟩ rfl rfl (fun rv4 w4 hp4 => ?_)
  obtain ⟨rfl, rfl⟩ := hp4
  refine jW.world (ws' := wM G ad' (mnet a o c V' M' (xs (i + 1))).2.1 (mnet a o c V' M' (xs (i + 1))).2.2 t ++ ((bd, .inl (G.2.2 6, 1, .inr (.inr (.inr (.inl fd))))) :: (bo, .inl (G.2.2 5, 1, .inr (.inl fo2))) :: w3)) rfl ?_
  refine jW.stk (st' := [.int (mnet a o c V' M' (xs (i + 1))).1]) rfl ?_
  exact lw_tl hX (V' := (mnet a o c V' M' (xs (i + 1))).2.1) (M' := (mnet a o c V' M' (xs (i + 1))).2.2) (t := t) rfl hr ⟨by omega, by omega⟩ dL_law_1077 dL_law_1079 dL_law_1080 dL_law_1083 dL_law_1085 dL_law_1090 dL_law_1092 dL_law_1095 dL_law_1096 dL_law_1097 dL_law_1098 dL_law_1100 dL_law_1101 dL_law_1102 dL_law_1107 (by decide) (jW.widen (k' := k + 1) (n' := n + 9) (by omega) (by omega) (kk _ ⟨(mnet a o c V' M' (xs (i + 1))).2.1, (mnet a o c V' M' (xs (i + 1))).2.2, t, ad', fd, fo2, w3, hC, rfl, rfl⟩))
set_option maxHeartbeats 4000000 in
set_option maxRecDepth 100000 in
theorem lc_17 {G : jG} {X : jX} {k n : Nat} {post : Option Value → va_W → Prop} (hX : jOK G X RL cL_law wsL_law (some .boolean) 9 2048 603072 7194730 post) (hH : jTL X) (hG : G.1.stackTraces = false) {b L : Nat} {xs : Nat → Int32} (hs : jScr X b L xs) (hL : L ≤ 3584) {bx bm bo bd i : Nat} (hi : i + 7 ≤ L) (hk : k + 1 ≤ 603072 ∧ n + 9 ≤ 7194730) {ws : va_W} (hw : LW G bm bd bo bx ws) (kk : ∀ ws' : va_W, LW G bm bd bo bx ws' → jW G X (k + 1) (n + 9) 1437 [some (.ref b), some (.ref bx), some (.ref bm), some (.ref bo), some (.ref bd), some (.int (nI i)), none, none, none] [] ws') : jW G X k n 1110 [some (.ref b), some (.ref bx), some (.ref bm), some (.ref bo), some (.ref bd), some (.int (nI i)), none, none, none] [] ws := by
  obtain ⟨V', M', t, ad', fd, fo, w, ⟨V, M, os, a, o, c, ad, h, rfl, rfl⟩, rfl, rfl⟩ := hw
  have hJ := RX_mJ h
  obtain ⟨ha, ha6, hcb, ho2, ho, hc1, hc, -⟩ := id hJ
  have hsz := h.1.2.2.1.1
  have hn := h.1.2.2.1.2
  have hso := h.1.2.2.2.1.1
  have hos := RX_okO h
  refine j_aload_n hX dL_law_1110 rfl ?_
  refine j_callV hX (nA := 0) (cq := (RX11, TX11, 7)) (As := []) (st := []) (ci := 12) (wa := wM G ad' V' M' t ++ [(bd, .inl (G.2.2 6, 1, .inr (.inr (.inr (.inl fd))))), (bo, .inl (G.2.2 5, 1, .inr (.inl fo)))]) (w0 := wC G ad V M (enO ad o) (wO ad os o)) (wb := []) rfl dL_law_1111 (c_X11_toPay G ad V M os o (cb (M' 5) a) hsz hn hso ho hos) gL_law_X11_toPay rfl (by decide +kernel) (q := 32) rfl (by decide) (Nat.le_of_ble_eq_true rfl) rfl (Nat.le_of_ble_eq_true rfl) ⟨by omega, by omega⟩ rfl (by simp) (fun rv w2 hp => ?_)
  obtain ⟨rfl, rfl⟩ := hp
  refine jW.world (ws' := wM G ad' V' M' t ++ ((bd, .inl (G.2.2 6, 1, .inr (.inr (.inr (.inl fd))))) :: (bo, .inl (G.2.2 5, 1, .inr (.inl fo))) :: wC G ad (findF os o (cb (M' 5) a) (V, M)).1 (findF os o (cb (M' 5) a) (V, M)).2 (enO ad o) (wO ad os o))) (by simp) ?_
  refine jW.stk (st' := [.int (mostSum ((findF os o (cb (M' 5) a) (V, M)).2 23) (maskF (cb (M' 5) a)) 7)]) rfl ?_
  refine j_aload_n hX dL_law_1114 rfl ?_
  refine j_callV hX (nA := 0) (cq := (RX12, TX12, 37)) (As := []) (st := [.int (mostSum ((findF os o (cb (M' 5) a) (V, M)).2 23) (maskF (cb (M' 5) a)) 7)]) (ci := 13) (wa := []) (w0 := wM G ad' V' M' t) (wb := (bd, .inl (G.2.2 6, 1, .inr (.inr (.inr (.inl fd))))) :: (bo, .inl (G.2.2 5, 1, .inr (.inl fo))) :: wC G ad (findF os o (cb (M' 5) a) (V, M)).1 (findF os o (cb (M' 5) a) (V, M)).2 (enO ad o) (wO ad os o)) rfl dL_law_1115 (c_X12_toPay G ad' V' M' t a o c hJ (ask_RX h).2.2.1) gL_law_X12_toPay rfl (by decide +kernel) (q := 0) rfl (by decide) (Nat.le_of_ble_eq_true rfl) rfl (Nat.le_of_ble_eq_true rfl) ⟨by omega, by omega⟩ rfl rfl (fun rv4 w4 hp4 => ?_)
  obtain ⟨rfl, rfl⟩ := hp4
  refine jW.world (ws' := wM G ad' (fdL a o c (sV V' 4 0, M')).1 (fdL a o c (sV V' 4 0, M')).2 t ++ ((bd, .inl (G.2.2 6, 1, .inr (.inr (.inr (.inl fd))))) :: (bo, .inl (G.2.2 5, 1, .inr (.inl fo))) :: wC G ad (findF os o (cb (M' 5) a) (V, M)).1 (findF os o (cb (M' 5) a) (V, M)).2 (enO ad o) (wO ad os o))) rfl ?_
  refine jW.stk (st' := [.int (paysF a o c (sV V' 4 0, M')), .int (mostSum ((findF os o (cb (M' 5) a) (V, M)).2 23) (maskF (cb (M' 5) a)) 7)]) rfl ?_
  exact j_icmp_eq_t hX (tgt := 1437) dL_law_1118 (by decide) (cl_pay h).1 (jW.widen (k' := k + 1) (n' := n + 9) (by omega) (by omega) (kk _ ⟨(fdL a o c (sV V' 4 0, M')).1, (fdL a o c (sV V' 4 0, M')).2, t, ad', fd, fo, _, ⟨_, _, os, a, o, c, ad, (cl_pay h).2, rfl, rfl⟩, rfl, rfl⟩))
set_option maxHeartbeats 4000000 in
set_option maxRecDepth 100000 in
theorem lc_18 {G : jG} {X : jX} {k n : Nat} {post : Option Value → va_W → Prop} (hX : jOK G X RL cL_law wsL_law (some .boolean) 9 2048 603072 7194730 post) (hH : jTL X) (hG : G.1.stackTraces = false) {b L : Nat} {xs : Nat → Int32} (hs : jScr X b L xs) (hL : L ≤ 3584) {bx bm bo bd i : Nat} (hi : i + 7 ≤ L) (hk : k + 1 ≤ 603072 ∧ n + 9 ≤ 7194730) {ws : va_W} (hw : LW G bm bd bo bx ws) (kk : ∀ ws' : va_W, LW G bm bd bo bx ws' → jW G X (k + 1) (n + 9) 1437 [some (.ref b), some (.ref bx), some (.ref bm), some (.ref bo), some (.ref bd), some (.int (nI i)), none, none, none] [] ws') : jW G X k n 1123 [some (.ref b), some (.ref bx), some (.ref bm), some (.ref bo), some (.ref bd), some (.int (nI i)), none, none, none] [] ws := by
  obtain ⟨V', M', t, ad', fd, fo, w, ⟨V, M, os, a, o, c, ad, h, rfl, rfl⟩, rfl, rfl⟩ := hw
  have hJ := RX_mJ h
  obtain ⟨ha, ha6, hcb, ho2, ho, hc1, hc, -⟩ := id hJ
  have hsz := h.1.2.2.1.1
  have hn := h.1.2.2.1.2
  have hso := h.1.2.2.2.1.1
  have hos := RX_okO h
  refine j_aload_n hX dL_law_1123 rfl ?_
  refine j_aload_n hX dL_law_1124 rfl ?_
  refine j_callH hX hH (nA := 2) (As := [.ref (ad 0), .ref bo]) (st := []) (wa := wM G ad' V' M' t ++ [(bd, .inl (G.2.2 6, 1, .inr (.inr (.inr (.inl fd)))))]) (w0 := (bo, .inl (G.2.2 5, 1, .inr (.inl fo))) :: wC G ad V M (enO ad o) (wO ad os o)) (wb := []) dL_law_1125 (c_L_sell G (wCg0 G ad V M (enO ad o) (wO ad os o))  (c_X11_sell G hG ad V M os o (cb (M' 5) a) hsz hn hso ho hos) (fun rv w1 hp => ⟨_, hp.2.1⟩) (fun E hE => ((cl_sell h).2.1 E hE).1.1) bo fo) gL_law_L_sell rfl (by decide +kernel) (by decide) (Nat.le_of_ble_eq_true rfl) rfl (Nat.le_of_ble_eq_true rfl) ⟨by omega, by omega⟩ rfl (by simp) (fun rv w2 hp => ?_)
  have hU : ∃ (fo2 : Nat → Int64) (w3 : va_W), rv = some (.int ((msel a o c V' M' t).2.1.1 4)) ∧ w2 = (bo, .inl (G.2.2 5, 1, .inr (.inl fo2))) :: w3 ∧ (((msel a o c V' M' t).2.1.1 4) = 0 → fo2 0 = ((msel a o c V' M' t).1).toInt64) ∧ CW G (ad 0) w3 (msel a o c V' M' t).2.1.1 (msel a o c V' M' t).2.1.2 (msel a o c V' M' t).2.2 := by
    rcases hp with ⟨v, w1, ⟨p1, p2, p3⟩, h2, h3⟩ | ⟨E, hE, h2, h3⟩
    · obtain ⟨g1, g2, g3⟩ := (cl_sell h).1 p1
      have e9 : v = _ := Value.int.inj (Option.some.inj p2)
      exact lu_a g1 (e9.trans g2) h2 h3 ⟨_, _, _, _, _, _, ad, g3, rfl, p3⟩
    · obtain ⟨⟨q1, q2⟩, g3⟩ := (cl_sell h).2.1 E hE
      exact lu_b (z := 1) (by decide) q2 h2.2 h3 ⟨_, _, _, _, _, _, ad, g3, rfl, rfl⟩
  obtain ⟨fo2, w3, rfl, rfl, hr, hC⟩ := hU
  refine jW.world (ws' := wM G ad' V' M' t ++ ((bd, .inl (G.2.2 6, 1, .inr (.inr (.inr (.inl fd))))) :: (bo, .inl (G.2.2 5, 1, .inr (.inl fo2))) :: w3)) (by simp) ?_
  refine jW.stk (st' := [.int ((msel a o c V' M' t).2.1.1 4)]) rfl ?_
  refine j_istore hX (ls' := [some (.ref b), some (.ref (ad 0)), some (.ref (ad' 0)), some (.ref bo), some (.ref bd), some (.int (nI i)), some (.int ((msel a o c V' M' t).2.1.1 4)), none, none]) dL_law_1128 (Nat.le_of_ble_eq_true rfl) rfl rfl ?_
  refine j_aload_n hX dL_law_1130 rfl ?_
  refine j_callV hX (nA := 0) (cq := (RX12, TX12, 37)) (As := []) (st := []) (ci := 13) (wa := []) (w0 := wM G ad' V' M' t) (wb := (bd, .inl (G.2.2 6, 1, .inr (.inr (.inr (.inl fd))))) :: (bo, .inl (G.2.2 5, 1, .inr (.inl fo2))) :: w3) rfl dL_law_1131 (c_X12_sell G ad' V' M' t a o c hJ (cl_sell h).2.2) gL_law_X12_sell rfl (by decide +kernel) (q := 0) rfl (by decide) (Nat.le_of_ble_eq_true rfl) rfl (Nat.le_of_ble_eq_true rfl) ⟨by omega, by omega⟩ rfl rfl (fun rv4 w4 hp4 => ?_)
  obtain ⟨rfl, rfl⟩ := hp4
  refine jW.world (ws' := wM G ad' (msel a o c V' M' t).2.1.1 (msel a o c V' M' t).2.1.2 (msel a o c V' M' t).2.2 ++ ((bd, .inl (G.2.2 6, 1, .inr (.inr (.inr (.inl fd))))) :: (bo, .inl (G.2.2 5, 1, .inr (.inl fo2))) :: w3)) rfl ?_
  refine jW.stk (st' := [.int (msel a o c V' M' t).1]) rfl ?_
  exact lw_tl hX (V' := (msel a o c V' M' t).2.1.1) (M' := (msel a o c V' M' t).2.1.2) (t := (msel a o c V' M' t).2.2) rfl hr ⟨by omega, by omega⟩ dL_law_1134 dL_law_1136 dL_law_1137 dL_law_1140 dL_law_1142 dL_law_1147 dL_law_1149 dL_law_1152 dL_law_1153 dL_law_1154 dL_law_1155 dL_law_1157 dL_law_1158 dL_law_1159 dL_law_1164 (by decide) (jW.widen (k' := k + 1) (n' := n + 9) (by omega) (by omega) (kk _ ⟨(msel a o c V' M' t).2.1.1, (msel a o c V' M' t).2.1.2, (msel a o c V' M' t).2.2, ad', fd, fo2, w3, hC, rfl, rfl⟩))
set_option maxHeartbeats 4000000 in
set_option maxRecDepth 100000 in
theorem lc_19 {G : jG} {X : jX} {k n : Nat} {post : Option Value → va_W → Prop} (hX : jOK G X RL cL_law wsL_law (some .boolean) 9 2048 603072 7194730 post) (hH : jTL X) (hG : G.1.stackTraces = false) {b L : Nat} {xs : Nat → Int32} (hs : jScr X b L xs) (hL : L ≤ 3584) {bx bm bo bd i : Nat} (hi : i + 7 ≤ L) (hk : k + 1 ≤ 603072 ∧ n + 9 ≤ 7194730) {ws : va_W} (hw : LW G bm bd bo bx ws) (kk : ∀ ws' : va_W, LW G bm bd bo bx ws' → jW G X (k + 1) (n + 9) 1437 [some (.ref b), some (.ref bx), some (.ref bm), some (.ref bo), some (.ref bd), some (.int (nI i)), none, none, none] [] ws') : jW G X k n 1167 [some (.ref b), some (.ref bx), some (.ref bm), some (.ref bo), some (.ref bd), some (.int (nI i)), none, none, none] [] ws := by
  obtain ⟨V', M', t, ad', fd, fo, w, ⟨V, M, os, a, o, c, ad, h, rfl, rfl⟩, rfl, rfl⟩ := hw
  have hJ := RX_mJ h
  obtain ⟨ha, ha6, hcb, ho2, ho, hc1, hc, -⟩ := id hJ
  have hsz := h.1.2.2.1.1
  have hn := h.1.2.2.1.2
  have hso := h.1.2.2.2.1.1
  have hos := RX_okO h
  refine j_aload_n hX dL_law_1167 rfl ?_
  refine lw_ld hX hs dL_law_1168 dL_law_1169 dL_law_1171 dL_law_1172 dL_law_1173 (zi := 1) (by decide) rfl rfl (by omega) hL ?_
  refine j_aload_n hX dL_law_1174 rfl ?_
  refine j_callH hX hH (nA := 3) (As := [.ref (ad 0), .int (xs (i + 1)), .ref bo]) (st := []) (wa := wM G ad' V' M' t ++ [(bd, .inl (G.2.2 6, 1, .inr (.inr (.inr (.inl fd)))))]) (w0 := (bo, .inl (G.2.2 5, 1, .inr (.inl fo))) :: wC G ad V M (enO ad o) (wO ad os o)) (wb := []) dL_law_1175 (c_L_giveBack G (wCg0 G ad V M (enO ad o) (wO ad os o)) (xs (i + 1)) (c_X11_giveBack G hG ad V M (enO ad o) (wO ad os o) (xs (i + 1))) (fun rv w1 hp => ⟨_, hp.2.1⟩) (fun E hE => ((cl_back h (xs (i + 1))).2 E hE).1.elim (fun q => Or.inl q.1) (fun q => Or.inr q.1)) bo fo) gL_law_L_giveBack rfl (by decide +kernel) (by decide) (Nat.le_of_ble_eq_true rfl) rfl (Nat.le_of_ble_eq_true rfl) ⟨by omega, by omega⟩ rfl (by simp) (fun rv w2 hp => ?_)
  have hU : ∃ (fo2 : Nat → Int64) (w3 : va_W), rv = some (.int ((mgb a V' M' t (xs (i + 1))).2.1.1 4)) ∧ w2 = (bo, .inl (G.2.2 5, 1, .inr (.inl fo2))) :: w3 ∧ (((mgb a V' M' t (xs (i + 1))).2.1.1 4) = 0 → fo2 0 = ((mgb a V' M' t (xs (i + 1))).1).toInt64) ∧ CW G (ad 0) w3 (mgb a V' M' t (xs (i + 1))).2.1.1 (mgb a V' M' t (xs (i + 1))).2.1.2 (mgb a V' M' t (xs (i + 1))).2.2 := by
    rcases hp with ⟨v, w1, ⟨p1, p2, p3⟩, h2, h3⟩ | ⟨E, hE, h2, h3⟩
    · obtain ⟨g1, g2, g3⟩ := (cl_back h (xs (i + 1))).1 p1
      have e9 : v = _ := Value.int.inj (Option.some.inj p2)
      exact lu_a g1 (e9.trans g2) h2 h3 ⟨_, _, _, _, _, _, ad, g3, rfl, p3⟩
    · obtain ⟨q1, g3⟩ := (cl_back h (xs (i + 1))).2 E hE
      obtain ⟨z, hz, z1, z2⟩ := lu_2 (e1 := "java/util/NoSuchElementException") (e2 := "java/lang/IllegalStateException") (by decide) q1 h2
      exact lu_b hz z1 z2 h3 ⟨_, _, _, _, _, _, ad, g3, rfl, rfl⟩
  obtain ⟨fo2, w3, rfl, rfl, hr, hC⟩ := hU
  refine jW.world (ws' := wM G ad' V' M' t ++ ((bd, .inl (G.2.2 6, 1, .inr (.inr (.inr (.inl fd))))) :: (bo, .inl (G.2.2 5, 1, .inr (.inl fo2))) :: w3)) (by simp) ?_
  refine jW.stk (st' := [.int ((mgb a V' M' t (xs (i + 1))).2.1.1 4)]) rfl ?_
  refine j_istore hX (ls' := [some (.ref b), some (.ref (ad 0)), some (.ref (ad' 0)), some (.ref bo), some (.ref bd), some (.int (nI i)), some (.int ((mgb a V' M' t (xs (i + 1))).2.1.1 4)), none, none]) dL_law_1178 (Nat.le_of_ble_eq_true rfl) rfl rfl ?_
  refine j_aload_n hX dL_law_1180 rfl ?_
  refine lw_ld hX hs dL_law_1181 dL_law_1182 dL_law_1184 dL_law_1185 dL_law_1186 (zi := 1) (by decide) rfl rfl (by omega) hL ?_
  refine j_callV hX (nA := 1) (cq := (RX12, TX12, 37)) (As := [.int (xs (i + 1))]) (st := []) (ci := 13) (wa := []) (w0 := wM G ad' V' M' t) (wb := (bd, .inl (G.2.2 6, 1, .inr (.inr (.inr (.inl fd))))) :: (bo, .inl (G.2.2 5, 1, .inr (.inl fo2))) :: w3) rfl dL_law_1187 (c_X12_giveBack G ad' V' M' t a ha ha6 (xs (i + 1))) gL_law_X12_giveBack rfl (by decide +kernel) (q := 0) rfl (by decide) (Nat.le_of_ble_eq_true rfl) rfl (Nat.le_of_ble_eq_true rfl) ⟨by omega, by omega⟩ rfl rfl (fun rv4 w4 hp4 => ?_)
  obtain ⟨rfl, rfl⟩ := hp4
  refine jW.world (ws' := wM G ad' (mgb a V' M' t (xs (i + 1))).2.1.1 (mgb a V' M' t (xs (i + 1))).2.1.2 (mgb a V' M' t (xs (i + 1))).2.2 ++ ((bd, .inl (G.2.2 6, 1, .inr (.inr (.inr (.inl fd))))) :: (bo, .inl (G.2.2 5, 1, .inr (.inl fo2))) :: w3)) rfl ?_
  refine jW.stk (st' := [.int (mgb a V' M' t (xs (i + 1))).1]) rfl ?_
  exact lw_tl hX (V' := (mgb a V' M' t (xs (i + 1))).2.1.1) (M' := (mgb a V' M' t (xs (i + 1))).2.1.2) (t := (mgb a V' M' t (xs (i + 1))).2.2) rfl hr ⟨by omega, by omega⟩ dL_law_1190 dL_law_1192 dL_law_1193 dL_law_1196 dL_law_1198 dL_law_1203 dL_law_1205 dL_law_1208 dL_law_1209 dL_law_1210 dL_law_1211 dL_law_1213 dL_law_1214 dL_law_1215 dL_law_1220 (by decide) (jW.widen (k' := k + 1) (n' := n + 9) (by omega) (by omega) (kk _ ⟨(mgb a V' M' t (xs (i + 1))).2.1.1, (mgb a V' M' t (xs (i + 1))).2.1.2, (mgb a V' M' t (xs (i + 1))).2.2, ad', fd, fo2, w3, hC, rfl, rfl⟩))
set_option maxHeartbeats 4000000 in
set_option maxRecDepth 100000 in
theorem lc_20 {G : jG} {X : jX} {k n : Nat} {post : Option Value → va_W → Prop} (hX : jOK G X RL cL_law wsL_law (some .boolean) 9 2048 603072 7194730 post) (hH : jTL X) (hG : G.1.stackTraces = false) {b L : Nat} {xs : Nat → Int32} (hs : jScr X b L xs) (hL : L ≤ 3584) {bx bm bo bd i : Nat} (hi : i + 7 ≤ L) (hk : k + 1 ≤ 603072 ∧ n + 9 ≤ 7194730) {ws : va_W} (hw : LW G bm bd bo bx ws) (kk : ∀ ws' : va_W, LW G bm bd bo bx ws' → jW G X (k + 1) (n + 9) 1437 [some (.ref b), some (.ref bx), some (.ref bm), some (.ref bo), some (.ref bd), some (.int (nI i)), none, none, none] [] ws') : jW G X k n 1223 [some (.ref b), some (.ref bx), some (.ref bm), some (.ref bo), some (.ref bd), some (.int (nI i)), none, none, none] [] ws := by
  obtain ⟨V', M', t, ad', fd, fo, w, ⟨V, M, os, a, o, c, ad, h, rfl, rfl⟩, rfl, rfl⟩ := hw
  have hJ := RX_mJ h
  obtain ⟨ha, ha6, hcb, ho2, ho, hc1, hc, -⟩ := id hJ
  have hsz := h.1.2.2.1.1
  have hn := h.1.2.2.1.2
  have hso := h.1.2.2.2.1.1
  have hos := RX_okO h
  refine j_aload_n hX dL_law_1223 rfl ?_
  refine lw_ld hX hs dL_law_1224 dL_law_1225 dL_law_1227 dL_law_1228 dL_law_1229 (zi := 1) (by decide) rfl rfl (by omega) hL ?_
  refine j_aload_n hX dL_law_1230 rfl ?_
  refine j_callH hX hH (nA := 3) (As := [.ref (ad 0), .int (xs (i + 1)), .ref bo]) (st := []) (wa := wM G ad' V' M' t ++ [(bd, .inl (G.2.2 6, 1, .inr (.inr (.inr (.inl fd)))))]) (w0 := (bo, .inl (G.2.2 5, 1, .inr (.inl fo))) :: wC G ad V M (enO ad o) (wO ad os o)) (wb := []) dL_law_1231 (c_L_soldTo G (wCg0 G ad V M (enO ad o) (wO ad os o)) (xs (i + 1)) (c_X11_soldTo G hG ad V M (enO ad o) (wO ad os o) (xs (i + 1))) (fun rv w1 hp => ⟨_, hp.2.1⟩) (fun E hE => ((cl_soldTo h (xs (i + 1))).2 E hE).1.1) bo fo) gL_law_L_soldTo rfl (by decide +kernel) (by decide) (Nat.le_of_ble_eq_true rfl) rfl (Nat.le_of_ble_eq_true rfl) ⟨by omega, by omega⟩ rfl (by simp) (fun rv w2 hp => ?_)
  have hU : ∃ (fo2 : Nat → Int64) (w3 : va_W), rv = some (.int ((msto a V' M' (xs (i + 1))).2.1 4)) ∧ w2 = (bo, .inl (G.2.2 5, 1, .inr (.inl fo2))) :: w3 ∧ (((msto a V' M' (xs (i + 1))).2.1 4) = 0 → fo2 0 = ((msto a V' M' (xs (i + 1))).1).toInt64) ∧ CW G (ad 0) w3 (msto a V' M' (xs (i + 1))).2.1 (msto a V' M' (xs (i + 1))).2.2 t := by
    rcases hp with ⟨v, w1, ⟨p1, p2, p3⟩, h2, h3⟩ | ⟨E, hE, h2, h3⟩
    · obtain ⟨g1, g2, g3⟩ := (cl_soldTo h (xs (i + 1))).1 p1
      have e9 : v = _ := Value.int.inj (Option.some.inj p2)
      exact lu_a g1 (e9.trans g2) h2 h3 ⟨_, _, _, _, _, _, ad, g3, rfl, p3⟩
    · obtain ⟨⟨q1, q2⟩, g3⟩ := (cl_soldTo h (xs (i + 1))).2 E hE
      exact lu_b (z := 1) (by decide) q2 h2.2 h3 ⟨_, _, _, _, _, _, ad, g3, rfl, rfl⟩
  obtain ⟨fo2, w3, rfl, rfl, hr, hC⟩ := hU
  refine jW.world (ws' := wM G ad' V' M' t ++ ((bd, .inl (G.2.2 6, 1, .inr (.inr (.inr (.inl fd))))) :: (bo, .inl (G.2.2 5, 1, .inr (.inl fo2))) :: w3)) (by simp) ?_
  refine jW.stk (st' := [.int ((msto a V' M' (xs (i + 1))).2.1 4)]) rfl ?_
  refine j_istore hX (ls' := [some (.ref b), some (.ref (ad 0)), some (.ref (ad' 0)), some (.ref bo), some (.ref bd), some (.int (nI i)), some (.int ((msto a V' M' (xs (i + 1))).2.1 4)), none, none]) dL_law_1234 (Nat.le_of_ble_eq_true rfl) rfl rfl ?_
  refine j_aload_n hX dL_law_1236 rfl ?_
  refine lw_ld hX hs dL_law_1237 dL_law_1238 dL_law_1240 dL_law_1241 dL_law_1242 (zi := 1) (by decide) rfl rfl (by omega) hL ?_
  refine j_callV hX (nA := 1) (cq := (RX12, TX12, 37)) (As := [.int (xs (i + 1))]) (st := []) (ci := 13) (wa := []) (w0 := wM G ad' V' M' t) (wb := (bd, .inl (G.2.2 6, 1, .inr (.inr (.inr (.inl fd))))) :: (bo, .inl (G.2.2 5, 1, .inr (.inl fo2))) :: w3) rfl dL_law_1243 (c_X12_soldTo G ad' V' M' t a ha ha6 (xs (i + 1))) gL_law_X12_soldTo rfl (by decide +kernel) (q := 0) rfl (by decide) (Nat.le_of_ble_eq_true rfl) rfl (Nat.le_of_ble_eq_true rfl) ⟨by omega, by omega⟩ rfl rfl (fun rv4 w4 hp4 => ?_)
  obtain ⟨rfl, rfl⟩ := hp4
  refine jW.world (ws' := wM G ad' (msto a V' M' (xs (i + 1))).2.1 (msto a V' M' (xs (i + 1))).2.2 t ++ ((bd, .inl (G.2.2 6, 1, .inr (.inr (.inr (.inl fd))))) :: (bo, .inl (G.2.2 5, 1, .inr (.inl fo2))) :: w3)) rfl ?_
  refine jW.stk (st' := [.int (msto a V' M' (xs (i + 1))).1]) rfl ?_
  exact lw_tl hX (V' := (msto a V' M' (xs (i + 1))).2.1) (M' := (msto a V' M' (xs (i + 1))).2.2) (t := t) rfl hr ⟨by omega, by omega⟩ dL_law_1246 dL_law_1248 dL_law_1249 dL_law_1252 dL_law_1254 dL_law_1259 dL_law_1261 dL_law_1264 dL_law_1265 dL_law_1266 dL_law_1267 dL_law_1269 dL_law_1270 dL_law_1271 dL_law_1276 (by decide) (jW.widen (k' := k + 1) (n' := n + 9) (by omega) (by omega) (kk _ ⟨(msto a V' M' (xs (i + 1))).2.1, (msto a V' M' (xs (i + 1))).2.2, t, ad', fd, fo2, w3, hC, rfl, rfl⟩))
set_option maxHeartbeats 4000000 in
set_option maxRecDepth 100000 in
theorem lc_21 {G : jG} {X : jX} {k n : Nat} {post : Option Value → va_W → Prop} (hX : jOK G X RL cL_law wsL_law (some .boolean) 9 2048 603072 7194730 post) (hH : jTL X) (hG : G.1.stackTraces = false) {b L : Nat} {xs : Nat → Int32} (hs : jScr X b L xs) (hL : L ≤ 3584) {bx bm bo bd i : Nat} (hi : i + 7 ≤ L) (hk : k + 1 ≤ 603072 ∧ n + 9 ≤ 7194730) {ws : va_W} (hw : LW G bm bd bo bx ws) (kk : ∀ ws' : va_W, LW G bm bd bo bx ws' → jW G X (k + 1) (n + 9) 1437 [some (.ref b), some (.ref bx), some (.ref bm), some (.ref bo), some (.ref bd), some (.int (nI i)), none, none, none] [] ws') : jW G X k n 1279 [some (.ref b), some (.ref bx), some (.ref bm), some (.ref bo), some (.ref bd), some (.int (nI i)), none, none, none] [] ws := by
  obtain ⟨V', M', t, ad', fd, fo, w, ⟨V, M, os, a, o, c, ad, h, rfl, rfl⟩, rfl, rfl⟩ := hw
  have hJ := RX_mJ h
  obtain ⟨ha, ha6, hcb, ho2, ho, hc1, hc, -⟩ := id hJ
  have hsz := h.1.2.2.1.1
  have hn := h.1.2.2.1.2
  have hso := h.1.2.2.2.1.1
  have hos := RX_okO h
  refine j_aload_n hX dL_law_1279 rfl ?_
  refine j_callV hX (nA := 0) (cq := (RX11, TX11, 7)) (As := []) (st := []) (ci := 12) (wa := wM G ad' V' M' t ++ [(bd, .inl (G.2.2 6, 1, .inr (.inr (.inr (.inl fd))))), (bo, .inl (G.2.2 5, 1, .inr (.inl fo)))]) (w0 := wC G ad V M (enO ad o) (wO ad os o)) (wb := []) rfl dL_law_1280 (c_X11_usesInAll G ad V M (enO ad o) (wO ad os o)) gL_law_X11_usesInAll rfl (by decide +kernel) (q := 32) rfl (by decide) (Nat.le_of_ble_eq_true rfl) rfl (Nat.le_of_ble_eq_true rfl) ⟨by omega, by omega⟩ rfl (by simp) (fun rv w2 hp => ?_)
  obtain ⟨rfl, rfl⟩ := hp
  refine jW.world (ws' := wM G ad' V' M' t ++ ((bd, .inl (G.2.2 6, 1, .inr (.inr (.inr (.inl fd))))) :: (bo, .inl (G.2.2 5, 1, .inr (.inl fo))) :: wC G ad V M (enO ad o) (wO ad os o))) (by simp) ?_
  refine jW.stk (st' := [.int (V 14)]) rfl ?_
  refine j_aload_n hX dL_law_1283 rfl ?_
  refine j_callV hX (nA := 0) (cq := (RX12, TX12, 37)) (As := []) (st := [.int (V 14)]) (ci := 13) (wa := []) (w0 := wM G ad' V' M' t) (wb := (bd, .inl (G.2.2 6, 1, .inr (.inr (.inr (.inl fd))))) :: (bo, .inl (G.2.2 5, 1, .inr (.inl fo))) :: wC G ad V M (enO ad o) (wO ad os o)) rfl dL_law_1284 (c_X12_usesInAll G ad' V' M' t) gL_law_X12_usesInAll rfl (by decide +kernel) (q := 0) rfl (by decide) (Nat.le_of_ble_eq_true rfl) rfl (Nat.le_of_ble_eq_true rfl) ⟨by omega, by omega⟩ rfl rfl (fun rv4 w4 hp4 => ?_)
  obtain ⟨rfl, rfl⟩ := hp4
  refine jW.world (ws' := wM G ad' (sV V' 4 0) M' t ++ ((bd, .inl (G.2.2 6, 1, .inr (.inr (.inr (.inl fd))))) :: (bo, .inl (G.2.2 5, 1, .inr (.inl fo))) :: wC G ad V M (enO ad o) (wO ad os o))) rfl ?_
  refine jW.stk (st' := [.int (V' 3), .int (V 14)]) rfl ?_
  exact j_icmp_eq_t hX (tgt := 1437) dL_law_1287 (by decide) h.1.2.2.2.2.2.2.2.2.2.2.2.2.2.2.2.1 (jW.widen (k' := k + 1) (n' := n + 9) (by omega) (by omega) (kk _ ⟨(sV V' 4 0), M', t, ad', fd, fo, _, ⟨_, _, os, a, o, c, ad, (RX_V h 0), rfl, rfl⟩, rfl, rfl⟩))
set_option maxHeartbeats 4000000 in
set_option maxRecDepth 100000 in
theorem lc_22 {G : jG} {X : jX} {k n : Nat} {post : Option Value → va_W → Prop} (hX : jOK G X RL cL_law wsL_law (some .boolean) 9 2048 603072 7194730 post) (hH : jTL X) (hG : G.1.stackTraces = false) {b L : Nat} {xs : Nat → Int32} (hs : jScr X b L xs) (hL : L ≤ 3584) {bx bm bo bd i : Nat} (hi : i + 7 ≤ L) (hk : k + 1 ≤ 603072 ∧ n + 9 ≤ 7194730) {ws : va_W} (hw : LW G bm bd bo bx ws) (kk : ∀ ws' : va_W, LW G bm bd bo bx ws' → jW G X (k + 1) (n + 9) 1437 [some (.ref b), some (.ref bx), some (.ref bm), some (.ref bo), some (.ref bd), some (.int (nI i)), none, none, none] [] ws') : jW G X k n 1292 [some (.ref b), some (.ref bx), some (.ref bm), some (.ref bo), some (.ref bd), some (.int (nI i)), none, none, none] [] ws := by
  obtain ⟨V', M', t, ad', fd, fo, w, ⟨V, M, os, a, o, c, ad, h, rfl, rfl⟩, rfl, rfl⟩ := hw
  have hJ := RX_mJ h
  obtain ⟨ha, ha6, hcb, ho2, ho, hc1, hc, -⟩ := id hJ
  have hsz := h.1.2.2.1.1
  have hn := h.1.2.2.1.2
  have hso := h.1.2.2.2.1.1
  have hos := RX_okO h
  refine j_aload_n hX dL_law_1292 rfl ?_
  refine j_callV hX (nA := 0) (cq := (RX11, TX11, 7)) (As := []) (st := []) (ci := 12) (wa := wM G ad' V' M' t ++ [(bd, .inl (G.2.2 6, 1, .inr (.inr (.inr (.inl fd))))), (bo, .inl (G.2.2 5, 1, .inr (.inl fo)))]) (w0 := wC G ad V M (enO ad o) (wO ad os o)) (wb := []) rfl dL_law_1293 (c_X11_turnover G ad V M (enO ad o) (wO ad os o)) gL_law_X11_turnover rfl (by decide +kernel) (q := 32) rfl (by decide) (Nat.le_of_ble_eq_true rfl) rfl (Nat.le_of_ble_eq_true rfl) ⟨by omega, by omega⟩ rfl (by simp) (fun rv w2 hp => ?_)
  obtain ⟨rfl, rfl⟩ := hp
  refine jW.world (ws' := wM G ad' V' M' t ++ ((bd, .inl (G.2.2 6, 1, .inr (.inr (.inr (.inl fd))))) :: (bo, .inl (G.2.2 5, 1, .inr (.inl fo))) :: wC G ad V M (enO ad o) (wO ad os o))) (by simp) ?_
  refine jW.stk (st' := [.long ((V 12).toInt64 - (V 13).toInt64)]) rfl ?_
  refine j_aload_n hX dL_law_1296 rfl ?_
  refine j_callV hX (nA := 0) (cq := (RX12, TX12, 37)) (As := []) (st := [.long ((V 12).toInt64 - (V 13).toInt64)]) (ci := 13) (wa := []) (w0 := wM G ad' V' M' t) (wb := (bd, .inl (G.2.2 6, 1, .inr (.inr (.inr (.inl fd))))) :: (bo, .inl (G.2.2 5, 1, .inr (.inl fo))) :: wC G ad V M (enO ad o) (wO ad os o)) rfl dL_law_1297 (c_X12_turnover G ad' V' M' t) gL_law_X12_turnover rfl (by decide +kernel) (q := 0) rfl (by decide) (Nat.le_of_ble_eq_true rfl) rfl (Nat.le_of_ble_eq_true rfl) ⟨by omega, by omega⟩ rfl rfl (fun rv4 w4 hp4 => ?_)
  obtain ⟨rfl, rfl⟩ := hp4
  refine jW.world (ws' := wM G ad' (sV V' 4 0) M' t ++ ((bd, .inl (G.2.2 6, 1, .inr (.inr (.inr (.inl fd))))) :: (bo, .inl (G.2.2 5, 1, .inr (.inl fo))) :: wC G ad V M (enO ad o) (wO ad os o))) rfl ?_
  refine jW.stk (st' := [.long (t), .long ((V 12).toInt64 - (V 13).toInt64)]) rfl ?_
  refine j_lcmp hX dL_law_1300 ?_
  exact j_if_eq_t hX (tgt := 1437) dL_law_1301 (by decide) (by rw [(cl_turn h)]; exact lg_self _) (jW.widen (k' := k + 1) (n' := n + 9) (by omega) (by omega) (kk _ ⟨(sV V' 4 0), M', t, ad', fd, fo, _, ⟨_, _, os, a, o, c, ad, (RX_V h 0), rfl, rfl⟩, rfl, rfl⟩))
set_option maxHeartbeats 4000000 in
set_option maxRecDepth 100000 in
theorem lc_23 {G : jG} {X : jX} {k n : Nat} {post : Option Value → va_W → Prop} (hX : jOK G X RL cL_law wsL_law (some .boolean) 9 2048 603072 7194730 post) (hH : jTL X) (hG : G.1.stackTraces = false) {b L : Nat} {xs : Nat → Int32} (hs : jScr X b L xs) (hL : L ≤ 3584) {bx bm bo bd i : Nat} (hi : i + 7 ≤ L) (hk : k + 1 ≤ 603072 ∧ n + 9 ≤ 7194730) {ws : va_W} (hw : LW G bm bd bo bx ws) (kk : ∀ ws' : va_W, LW G bm bd bo bx ws' → jW G X (k + 1) (n + 9) 1437 [some (.ref b), some (.ref bx), some (.ref bm), some (.ref bo), some (.ref bd), some (.int (nI i)), none, none, none] [] ws') : jW G X k n 1306 [some (.ref b), some (.ref bx), some (.ref bm), some (.ref bo), some (.ref bd), some (.int (nI i)), none, none, none] [] ws := by
  obtain ⟨V', M', t, ad', fd, fo, w, ⟨V, M, os, a, o, c, ad, h, rfl, rfl⟩, rfl, rfl⟩ := hw
  have hJ := RX_mJ h
  obtain ⟨ha, ha6, hcb, ho2, ho, hc1, hc, -⟩ := id hJ
  have hsz := h.1.2.2.1.1
  have hn := h.1.2.2.1.2
  have hso := h.1.2.2.2.1.1
  have hos := RX_okO h
  refine jW.pm (ws' := wM G ad' V' M' t ++ ((bo, .inl (G.2.2 5, 1, .inr (.inl fo))) :: (bd, .inl (G.2.2 6, 1, .inr (.inr (.inr (.inl fd))))) :: wC G ad V M (enO ad o) (wO ad os o))) (List.Perm.append_left _ (List.Perm.swap _ _ _)) ?_
  refine j_aload_n hX dL_law_1306 rfl ?_
  refine j_aload hX dL_law_1307 rfl ?_
  refine j_callH hX hH (nA := 2) (As := [.ref (ad 0), .ref bd]) (st := []) (wa := wM G ad' V' M' t ++ [(bo, .inl (G.2.2 5, 1, .inr (.inl fo)))]) (w0 := (bd, .inl (G.2.2 6, 1, .inr (.inr (.inr (.inl fd))))) :: wC G ad V M (enO ad o) (wO ad os o)) (wb := []) dL_law_1309 (c_L_discountShare G (wCg0 G ad V M (enO ad o) (wO ad os o))  (c_X11_discountShare G hG ad V M (enO ad o) (wO ad os o)) (fun rv w1 hp => ⟨_, hp.2.1, n64_of (f2d_num (fdiv_num (pos_ne (xn_pos hp.1))))⟩) (fun E hE => ((cl_share h).2.1 E hE).1.1) bd fd) gL_law_L_discountShare rfl (by decide +kernel) (by decide) (Nat.le_of_ble_eq_true rfl) rfl (Nat.le_of_ble_eq_true rfl) ⟨by omega, by omega⟩ rfl (by simp) (fun rv w2 hp => ?_)
  have hU : ∃ (fo2 : Nat → UInt64) (w3 : va_W), rv = some (.int ((mdsh a V' M').2.1 4)) ∧ w2 = (bd, .inl (G.2.2 6, 1, .inr (.inr (.inr (.inl fo2))))) :: w3 ∧ (((mdsh a V' M').2.1 4) = 0 → fo2 0 = FP.f2d (mdsh a V' M').1) ∧ CW G (ad 0) w3 (mdsh a V' M').2.1 (mdsh a V' M').2.2 t := by
    rcases hp with ⟨v, w1, ⟨p1, p2, p3⟩, h2, h3⟩ | ⟨E, hE, h2, h3⟩
    · obtain ⟨g1, g2, g3⟩ := (cl_share h).1 p1
      have e9 : v = _ := Value.float.inj (Option.some.inj p2)
      exact lu_aF g1 (congrArg FP.f2d (e9.trans g2)) h2 h3 ⟨_, _, _, _, _, _, ad, g3, rfl, p3⟩
    · obtain ⟨⟨q1, q2⟩, g3⟩ := (cl_share h).2.1 E hE
      exact lu_bF (z := 1) (by decide) q2 h2.2 h3 ⟨_, _, _, _, _, _, ad, g3, rfl, rfl⟩
  obtain ⟨fo2, w3, rfl, rfl, hr, hC⟩ := hU
  refine jW.world (ws' := wM G ad' V' M' t ++ ((bo, .inl (G.2.2 5, 1, .inr (.inl fo))) :: (bd, .inl (G.2.2 6, 1, .inr (.inr (.inr (.inl fo2))))) :: w3)) (by simp) ?_
  refine jW.pm (ws' := wM G ad' V' M' t ++ ((bd, .inl (G.2.2 6, 1, .inr (.inr (.inr (.inl fo2))))) :: (bo, .inl (G.2.2 5, 1, .inr (.inl fo))) :: w3)) (List.Perm.append_left _ (List.Perm.swap _ _ _)) ?_
  refine jW.stk (st' := [.int ((mdsh a V' M').2.1 4)]) rfl ?_
  refine j_istore hX (ls' := [some (.ref b), some (.ref (ad 0)), some (.ref (ad' 0)), some (.ref bo), some (.ref bd), some (.int (nI i)), some (.int ((mdsh a V' M').2.1 4)), none, none]) dL_law_1312 (Nat.le_of_ble_eq_true rfl) rfl rfl ?_
  refine j_aload_n hX dL_law_1314 rfl ?_
  refine j_callV hX (nA := 0) (cq := (RX12, TX12, 37)) (As := []) (st := []) (ci := 13) (wa := []) (w0 := wM G ad' V' M' t) (wb := (bd, .inl (G.2.2 6, 1, .inr (.inr (.inr (.inl fo2))))) :: (bo, .inl (G.2.2 5, 1, .inr (.inl fo))) :: w3) rfl dL_law_1315 (c_X12_discountShare G ad' V' M' t a ha ha6 (cl_share h).2.2) gL_law_X12_discountShare rfl (by decide +kernel) (q := 0) rfl (by decide) (Nat.le_of_ble_eq_true rfl) rfl (Nat.le_of_ble_eq_true rfl) ⟨by omega, by omega⟩ rfl rfl (fun rv4 w4 hp4 => ?_)
  obtain ⟨rfl, rfl⟩ := hp4
  refine jW.world (ws' := wM G ad' (mdsh a V' M').2.1 (mdsh a V' M').2.2 t ++ ((bd, .inl (G.2.2 6, 1, .inr (.inr (.inr (.inl fo2))))) :: (bo, .inl (G.2.2 5, 1, .inr (.inl fo))) :: w3)) rfl ?_
  refine jW.stk (st' := [.float (mdsh a V' M').1]) rfl ?_
  refine j_fstore hX (ls' := [some (.ref b), some (.ref (ad 0)), some (.ref (ad' 0)), some (.ref bo), some (.ref bd), some (.int (nI i)), some (.int ((mdsh a V' M').2.1 4)), some (.float (mdsh a V' M').1), none]) dL_law_1318 (Nat.le_of_ble_eq_true rfl) rfl rfl ?_
  refine j_aload_n hX dL_law_1320 rfl ?_
  refine j_callV hX (nA := 0) (cq := (RX12, TX12, 37)) (As := []) (st := []) (ci := 13) (wa := []) (w0 := wM G ad' (mdsh a V' M').2.1 (mdsh a V' M').2.2 t) (wb := (bd, .inl (G.2.2 6, 1, .inr (.inr (.inr (.inl fo2))))) :: (bo, .inl (G.2.2 5, 1, .inr (.inl fo))) :: w3) rfl dL_law_1321 (c_X12_thrown G ad' (mdsh a V' M').2.1 (mdsh a V' M').2.2 t) gL_law_X12_thrown rfl (by decide +kernel) (q := 0) rfl (by decide) (Nat.le_of_ble_eq_true rfl) rfl (Nat.le_of_ble_eq_true rfl) ⟨by omega, by omega⟩ rfl rfl (fun rv5 w5 hp5 => ?_)
  obtain ⟨rfl, rfl⟩ := hp5
  refine jW.world (ws' := wM G ad' (mdsh a V' M').2.1 (mdsh a V' M').2.2 t ++ ((bd, .inl (G.2.2 6, 1, .inr (.inr (.inr (.inl fo2))))) :: (bo, .inl (G.2.2 5, 1, .inr (.inl fo))) :: w3)) rfl ?_
  refine jW.stk (st' := [.int ((mdsh a V' M').2.1 4)]) rfl ?_
  refine j_iload hX dL_law_1324 rfl ?_
  refine j_icmp_eq_t hX (tgt := 1331) dL_law_1326 (by decide) rfl ?_
  refine j_iload hX dL_law_1331 rfl ?_
  have hend : jW G X (k + 1 + 0 + 0) (n + 6 + 0 + 0) 1369 [some (.ref b), some (.ref (ad 0)), some (.ref (ad' 0)), some (.ref bo), some (.ref bd), some (.int (nI i)), some (.int ((mdsh a V' M').2.1 4)), some (.float (mdsh a V' M').1), none] [] (wM G ad' (mdsh a V' M').2.1 (mdsh a V' M').2.2 t ++ ((bd, .inl (G.2.2 6, 1, .inr (.inr (.inr (.inl fo2))))) :: (bo, .inl (G.2.2 5, 1, .inr (.inl fo))) :: w3)) := by
    refine j_goto hX (tgt := 1437) dL_law_1369 (by decide) ?_
    exact jW.drop (ls' := [some (.ref b), some (.ref (ad 0)), some (.ref (ad' 0)), some (.ref bo), some (.ref bd), some (.int (nI i)), none, none, none]) ⟨Or.inr rfl, Or.inr rfl, Or.inr rfl, Or.inr rfl, Or.inr rfl, Or.inr rfl, Or.inl rfl, Or.inl rfl, Or.inr rfl, trivial⟩ (jW.widen (k' := k + 1) (n' := n + 9) (by omega) (by omega) (kk _ ⟨(mdsh a V' M').2.1, (mdsh a V' M').2.2, t, ad', fo2, fo, w3, hC, rfl, rfl⟩))
  by_cases h0 : ((mdsh a V' M').2.1 4) = 0
  · refine j_if_ne_f hX (tgt := 1369) dL_law_1333 (by decide) h0 ?_
    refine j_aload hX dL_law_1336 rfl ?_
    refine j_iconst hX (v := 0) (by decide) dL_law_1338 ?_
    refine j_dald hX (N := 1) (f := fo2) (v := FP.f2d (mdsh a V' M').1) dL_law_1339 30 rfl (by unfold vp_in; decide +kernel) (hr h0) ?_
    refine j_fload hX dL_law_1340 rfl ?_
    refine j_f2d hX dL_law_1342 (n64_of (f2d_num (dsh_num (cl_share h).2.2 h0))) ?_
    refine j_dcmp hX dL_law_1343 ?_
    exact j_if_eq_t hX (tgt := 1369) dL_law_1344 (by decide) (dcmp_num (f2d_num (dsh_num (cl_share h).2.2 h0))) hend
  · exact j_if_ne_t hX (tgt := 1369) dL_law_1333 (by decide) h0 hend
set_option maxHeartbeats 4000000 in
set_option maxRecDepth 100000 in
theorem lc_24 {G : jG} {X : jX} {k n : Nat} {post : Option Value → va_W → Prop} (hX : jOK G X RL cL_law wsL_law (some .boolean) 9 2048 603072 7194730 post) (hH : jTL X) (hG : G.1.stackTraces = false) {b L : Nat} {xs : Nat → Int32} (hs : jScr X b L xs) (hL : L ≤ 3584) {bx bm bo bd i : Nat} (hi : i + 7 ≤ L) (hk : k + 1 ≤ 603072 ∧ n + 9 ≤ 7194730) {ws : va_W} (hw : LW G bm bd bo bx ws) (kk : ∀ ws' : va_W, LW G bm bd bo bx ws' → jW G X (k + 1) (n + 9) 1437 [some (.ref b), some (.ref bx), some (.ref bm), some (.ref bo), some (.ref bd), some (.int (nI i)), none, none, none] [] ws') : jW G X k n 1372 [some (.ref b), some (.ref bx), some (.ref bm), some (.ref bo), some (.ref bd), some (.int (nI i)), none, none, none] [] ws := by
  obtain ⟨V', M', t, ad', fd, fo, w, ⟨V, M, os, a, o, c, ad, h, rfl, rfl⟩, rfl, rfl⟩ := hw
  have hJ := RX_mJ h
  obtain ⟨ha, ha6, hcb, ho2, ho, hc1, hc, -⟩ := id hJ
  have hsz := h.1.2.2.1.1
  have hn := h.1.2.2.1.2
  have hso := h.1.2.2.2.1.1
  have hos := RX_okO h
  refine jW.pm (ws' := wM G ad' V' M' t ++ ((bo, .inl (G.2.2 5, 1, .inr (.inl fo))) :: (bd, .inl (G.2.2 6, 1, .inr (.inr (.inr (.inl fd))))) :: wC G ad V M (enO ad o) (wO ad os o))) (List.Perm.append_left _ (List.Perm.swap _ _ _)) ?_
  refine j_aload_n hX dL_law_1372 rfl ?_
  refine j_aload hX dL_law_1373 rfl ?_
  refine j_callH hX hH (nA := 2) (As := [.ref (ad 0), .ref bd]) (st := []) (wa := wM G ad' V' M' t ++ [(bo, .inl (G.2.2 5, 1, .inr (.inl fo)))]) (w0 := (bd, .inl (G.2.2 6, 1, .inr (.inr (.inr (.inl fd))))) :: wC G ad V M (enO ad o) (wO ad os o)) (wb := []) dL_law_1375 (c_L_meanNetPrice G (wCg0 G ad V M (enO ad o) (wO ad os o))  (c_X11_meanNetPrice G hG ad V M (enO ad o) (wO ad os o)) (fun rv w1 hp => ⟨_, hp.2.1⟩) (fun E hE => ((cl_mean h).2 E hE).1.1) bd fd) gL_law_L_meanNetPrice rfl (by decide +kernel) (by decide) (Nat.le_of_ble_eq_true rfl) rfl (Nat.le_of_ble_eq_true rfl) ⟨by omega, by omega⟩ rfl (by simp) (fun rv w2 hp => ?_)
  have hU : ∃ (fo2 : Nat → UInt64) (w3 : va_W), rv = some (.int ((mmnp a V' M').2.1 4)) ∧ w2 = (bd, .inl (G.2.2 6, 1, .inr (.inr (.inr (.inl fo2))))) :: w3 ∧ (((mmnp a V' M').2.1 4) = 0 → fo2 0 = (mmnp a V' M').1) ∧ CW G (ad 0) w3 (mmnp a V' M').2.1 (mmnp a V' M').2.2 t := by
    rcases hp with ⟨v, w1, ⟨p1, p2, p3⟩, h2, h3⟩ | ⟨E, hE, h2, h3⟩
    · obtain ⟨g1, g2, g3⟩ := (cl_mean h).1 p1
      have e9 : v = _ := Value.double.inj (Option.some.inj p2)
      exact lu_aF g1 (e9.trans g2) h2 h3 ⟨_, _, _, _, _, _, ad, g3, rfl, p3⟩
    · obtain ⟨⟨q1, q2⟩, g3⟩ := (cl_mean h).2 E hE
      exact lu_bF (z := 1) (by decide) q2 h2.2 h3 ⟨_, _, _, _, _, _, ad, g3, rfl, rfl⟩
  obtain ⟨fo2, w3, rfl, rfl, hr, hC⟩ := hU
  refine jW.world (ws' := wM G ad' V' M' t ++ ((bo, .inl (G.2.2 5, 1, .inr (.inl fo))) :: (bd, .inl (G.2.2 6, 1, .inr (.inr (.inr (.inl fo2))))) :: w3)) (by simp) ?_
  refine jW.pm (ws' := wM G ad' V' M' t ++ ((bd, .inl (G.2.2 6, 1, .inr (.inr (.inr (.inl fo2))))) :: (bo, .inl (G.2.2 5, 1, .inr (.inl fo))) :: w3)) (List.Perm.append_left _ (List.Perm.swap _ _ _)) ?_
  refine jW.stk (st' := [.int ((mmnp a V' M').2.1 4)]) rfl ?_
  refine j_istore hX (ls' := [some (.ref b), some (.ref (ad 0)), some (.ref (ad' 0)), some (.ref bo), some (.ref bd), some (.int (nI i)), some (.int ((mmnp a V' M').2.1 4)), none, none]) dL_law_1378 (Nat.le_of_ble_eq_true rfl) rfl rfl ?_
  refine j_aload_n hX dL_law_1380 rfl ?_
  refine j_callV hX (nA := 0) (cq := (RX12, TX12, 37)) (As := []) (st := []) (ci := 13) (wa := []) (w0 := wM G ad' V' M' t) (wb := (bd, .inl (G.2.2 6, 1, .inr (.inr (.inr (.inl fo2))))) :: (bo, .inl (G.2.2 5, 1, .inr (.inl fo))) :: w3) rfl dL_law_1381 (c_X12_meanNetPrice G ad' V' M' t a ha ha6) gL_law_X12_meanNetPrice rfl (by decide +kernel) (q := 0) rfl (by decide) (Nat.le_of_ble_eq_true rfl) rfl (Nat.le_of_ble_eq_true rfl) ⟨by omega, by omega⟩ rfl rfl (fun rv4 w4 hp4 => ?_)
  obtain ⟨rfl, rfl⟩ := hp4
  refine jW.world (ws' := wM G ad' (mmnp a V' M').2.1 (mmnp a V' M').2.2 t ++ ((bd, .inl (G.2.2 6, 1, .inr (.inr (.inr (.inl fo2))))) :: (bo, .inl (G.2.2 5, 1, .inr (.inl fo))) :: w3)) rfl ?_
  refine jW.stk (st' := [.double (mmnp a V' M').1]) rfl ?_
  refine j_dstore hX (ls' := [some (.ref b), some (.ref (ad 0)), some (.ref (ad' 0)), some (.ref bo), some (.ref bd), some (.int (nI i)), some (.int ((mmnp a V' M').2.1 4)), some (.double (mmnp a V' M').1), none]) dL_law_1384 (Nat.le_of_ble_eq_true rfl) rfl rfl ?_
  refine j_aload_n hX dL_law_1386 rfl ?_
  refine j_callV hX (nA := 0) (cq := (RX12, TX12, 37)) (As := []) (st := []) (ci := 13) (wa := []) (w0 := wM G ad' (mmnp a V' M').2.1 (mmnp a V' M').2.2 t) (wb := (bd, .inl (G.2.2 6, 1, .inr (.inr (.inr (.inl fo2))))) :: (bo, .inl (G.2.2 5, 1, .inr (.inl fo))) :: w3) rfl dL_law_1387 (c_X12_thrown G ad' (mmnp a V' M').2.1 (mmnp a V' M').2.2 t) gL_law_X12_thrown rfl (by decide +kernel) (q := 0) rfl (by decide) (Nat.le_of_ble_eq_true rfl) rfl (Nat.le_of_ble_eq_true rfl) ⟨by omega, by omega⟩ rfl rfl (fun rv5 w5 hp5 => ?_)
  obtain ⟨rfl, rfl⟩ := hp5
  refine jW.world (ws' := wM G ad' (mmnp a V' M').2.1 (mmnp a V' M').2.2 t ++ ((bd, .inl (G.2.2 6, 1, .inr (.inr (.inr (.inl fo2))))) :: (bo, .inl (G.2.2 5, 1, .inr (.inl fo))) :: w3)) rfl ?_
  refine jW.stk (st' := [.int ((mmnp a V' M').2.1 4)]) rfl ?_
  refine j_iload hX dL_law_1390 rfl ?_
  refine j_icmp_eq_t hX (tgt := 1397) dL_law_1392 (by decide) rfl ?_
  refine j_iload hX dL_law_1397 rfl ?_
  have hend : jW G X (k + 1 + 0 + 0) (n + 6 + 0 + 0) 1434 [some (.ref b), some (.ref (ad 0)), some (.ref (ad' 0)), some (.ref bo), some (.ref bd), some (.int (nI i)), some (.int ((mmnp a V' M').2.1 4)), some (.double (mmnp a V' M').1), none] [] (wM G ad' (mmnp a V' M').2.1 (mmnp a V' M').2.2 t ++ ((bd, .inl (G.2.2 6, 1, .inr (.inr (.inr (.inl fo2))))) :: (bo, .inl (G.2.2 5, 1, .inr (.inl fo))) :: w3)) := by
    refine j_goto hX (tgt := 1437) dL_law_1434 (by decide) ?_
    exact jW.drop (ls' := [some (.ref b), some (.ref (ad 0)), some (.ref (ad' 0)), some (.ref bo), some (.ref bd), some (.int (nI i)), none, none, none]) ⟨Or.inr rfl, Or.inr rfl, Or.inr rfl, Or.inr rfl, Or.inr rfl, Or.inr rfl, Or.inl rfl, Or.inl rfl, Or.inr rfl, trivial⟩ (jW.widen (k' := k + 1) (n' := n + 9) (by omega) (by omega) (kk _ ⟨(mmnp a V' M').2.1, (mmnp a V' M').2.2, t, ad', fo2, fo, w3, hC, rfl, rfl⟩))
  by_cases h0 : ((mmnp a V' M').2.1 4) = 0
  · refine j_if_ne_f hX (tgt := 1434) dL_law_1399 (by decide) h0 ?_
    refine j_aload hX dL_law_1402 rfl ?_
    refine j_iconst hX (v := 0) (by decide) dL_law_1404 ?_
    refine j_dald hX (N := 1) (f := fo2) (v := (mmnp a V' M').1) dL_law_1405 30 rfl (by unfold vp_in; decide +kernel) (hr h0) ?_
    refine j_dload hX dL_law_1406 rfl ?_
    refine j_dcmp hX dL_law_1408 ?_
    exact j_if_eq_t hX (tgt := 1434) dL_law_1409 (by decide) (dcmp_num (mnp_num h0)) hend
  · exact j_if_ne_t hX (tgt := 1434) dL_law_1399 (by decide) h0 hend
