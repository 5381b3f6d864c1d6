/-! THE LAW'S LOOP. -/
theorem and31 (x : Int32) : ∃ z, z < 32 ∧ x &&& 31 = nI z := by
  refine ⟨(x &&& 31).toBitVec.toNat, ?_, ?_⟩
  · show (x.toBitVec &&& 31#32).toNat < 32
    rw [BitVec.toNat_and]
    exact Nat.lt_of_le_of_lt Nat.and_le_right (by decide)
  · unfold nI
    exact Int32.toBitVec_inj.mp (by
      show (x &&& 31).toBitVec = BitVec.ofNat 32 (x &&& 31).toBitVec.toNat
      rw [BitVec.ofNat_toNat, BitVec.setWidth_eq])
section LP
variable {G : jG} {X : jX} {k n : Nat} {post : Option Value → va_W → Prop} {b L : Nat} {xs : Nat → Int32} {bx bm bo bd i : Nat} {ws : va_W}
theorem lw_hd (hX : jOK G X RL cL_law wsL_law (some .boolean) 9 2048 603072 7194730 post) (hs : jScr X b L xs) (hL : L ≤ 3584) (hi : i ≤ 4000) (ke : L < i + 7 → jW G X k n 1443 [some (.ref b), some (.ref bx), some (.ref bm), some (.ref bo), some (.ref bd), some (.int (nI i)), none, none, none] [] ws) (kc : i + 7 ≤ L → jW G X k n 38 [some (.ref b), some (.ref bx), some (.ref bm), some (.ref bo), some (.ref bd), some (.int (nI i)), none, none, none] [] ws) : jW G X k n 28 [some (.ref b), some (.ref bx), some (.ref bm), some (.ref bo), some (.ref bd), some (.int (nI i)), none, none, none] [] ws := by
  have hlt : nI L - 7 < nI i ↔ L < i + 7 := nI_sublt (a := L) (b := 7) (t := i) (by omega) (by decide) (by omega)
  refine j_iload hX dL_law_28 rfl ?_
  refine j_aload_n hX dL_law_30 rfl ?_
  refine j_slen hX hs dL_law_31 ?_
  refine j_bipush hX (v := 7) (by decide) dL_law_32 ?_
  refine j_isub hX dL_law_34 ?_
  refine j_icmp_gt hX (tgt := 1443) dL_law_35 (by decide) (fun h => ?_) (fun h => ?_)
  · exact ke (hlt.mp h)
  · exact kc (by have := mt hlt.mpr h; omega)
theorem lw_disp (hX : jOK G X RL cL_law wsL_law (some .boolean) 9 2048 603072 7194730 post) (hH : jTL X) (hG : G.1.stackTraces = false) (hs : jScr X b L xs) (hL : L ≤ 3584) (hi : i + 7 ≤ L) (hk : k + 1 ≤ 603072 ∧ n + 9 ≤ 7194730) (hw : LW G bm bd bo bx ws) (kk : ∀ ws' : va_W, LW G bm bd bo bx ws' → jW G X (k + 1) (n + 9) 1437 [some (.ref b), some (.ref bx), some (.ref bm), some (.ref bo), some (.ref bd), some (.int (nI i)), none, none, none] [] ws') : jW G X k n 38 [some (.ref b), some (.ref bx), some (.ref bm), some (.ref bo), some (.ref bd), some (.int (nI i)), none, none, none] [] ws := by
  refine j_aload_n hX dL_law_38 rfl ?_
  refine j_iload hX dL_law_39 rfl ?_
  refine j_scr hX hs dL_law_41 (nI_in (by omega) (by omega)) (v := xs i) (by rw [nI_clamp (by omega)]) ?_
  refine j_bipush hX (v := 31) (by decide) dL_law_42 ?_
  refine j_iand hX dL_law_44 ?_
  obtain ⟨z, hz, e⟩ := and31 (xs i)
  refine jW.top e ?_
  rcases (show z = 0 ∨ z = 1 ∨ z = 2 ∨ z = 3 ∨ z = 4 ∨ z = 5 ∨ z = 6 ∨ z = 7 ∨ z = 8 ∨ z = 9 ∨ z = 10 ∨ z = 11 ∨ z = 12 ∨ z = 13 ∨ z = 14 ∨ z = 15 ∨ z = 16 ∨ z = 17 ∨ z = 18 ∨ z = 19 ∨ z = 20 ∨ z = 21 ∨ z = 22 ∨ z = 23 ∨ z = 24 ∨ 25 ≤ z by omega) with rfl | rfl | rfl | rfl | rfl | rfl | rfl | rfl | rfl | rfl | rfl | rfl | rfl | rfl | rfl | rfl | rfl | rfl | rfl | rfl | rfl | rfl | rfl | rfl | rfl | h25
  · exact j_tabIn hX (tgt := 160) (off := 115) dL_law_45 (by decide +kernel) (by decide +kernel) (by decide +kernel) (by decide) (lc_0 hX hH hG hs hL hi hk hw kk)
  · exact j_tabIn hX (tgt := 228) (off := 183) dL_law_45 (by decide +kernel) (by decide +kernel) (by decide +kernel) (by decide) (lc_1 hX hH hG hs hL hi hk hw kk)
  · exact j_tabIn hX (tgt := 284) (off := 239) dL_law_45 (by decide +kernel) (by decide +kernel) (by decide +kernel) (by decide) (lc_2 hX hH hG hs hL hi hk hw kk)
  · exact j_tabIn hX (tgt := 340) (off := 295) dL_law_45 (by decide +kernel) (by decide +kernel) (by decide +kernel) (by decide) (lc_3 hX hH hG hs hL hi hk hw kk)
  · exact j_tabIn hX (tgt := 353) (off := 308) dL_law_45 (by decide +kernel) (by decide +kernel) (by decide +kernel) (by decide) (lc_4 hX hH hG hs hL hi hk hw kk)
  · exact j_tabIn hX (tgt := 366) (off := 321) dL_law_45 (by decide +kernel) (by decide +kernel) (by decide +kernel) (by decide) (lc_5 hX hH hG hs hL hi hk hw kk)
  · exact j_tabIn hX (tgt := 458) (off := 413) dL_law_45 (by decide +kernel) (by decide +kernel) (by decide +kernel) (by decide) (lc_6 hX hH hG hs hL hi hk hw kk)
  · exact j_tabIn hX (tgt := 550) (off := 505) dL_law_45 (by decide +kernel) (by decide +kernel) (by decide +kernel) (by decide) (lc_7 hX hH hG hs hL hi hk hw kk)
  · exact j_tabIn hX (tgt := 668) (off := 623) dL_law_45 (by decide +kernel) (by decide +kernel) (by decide +kernel) (by decide) (lc_8 hX hH hG hs hL hi hk hw kk)
  · exact j_tabIn hX (tgt := 760) (off := 715) dL_law_45 (by decide +kernel) (by decide +kernel) (by decide +kernel) (by decide) (lc_9 hX hH hG hs hL hi hk hw kk)
  · exact j_tabIn hX (tgt := 816) (off := 771) dL_law_45 (by decide +kernel) (by decide +kernel) (by decide +kernel) (by decide) (lc_10 hX hH hG hs hL hi hk hw kk)
  · exact j_tabIn hX (tgt := 829) (off := 784) dL_law_45 (by decide +kernel) (by decide +kernel) (by decide +kernel) (by decide) (lc_11 hX hH hG hs hL hi hk hw kk)
  · exact j_tabIn hX (tgt := 842) (off := 797) dL_law_45 (by decide +kernel) (by decide +kernel) (by decide +kernel) (by decide) (lc_12 hX hH hG hs hL hi hk hw kk)
  · exact j_tabIn hX (tgt := 886) (off := 841) dL_law_45 (by decide +kernel) (by decide +kernel) (by decide +kernel) (by decide) (lc_13 hX hH hG hs hL hi hk hw kk)
  · exact j_tabIn hX (tgt := 942) (off := 897) dL_law_45 (by decide +kernel) (by decide +kernel) (by decide +kernel) (by decide) (lc_14 hX hH hG hs hL hi hk hw kk)
  · exact j_tabIn hX (tgt := 998) (off := 953) dL_law_45 (by decide +kernel) (by decide +kernel) (by decide +kernel) (by decide) (lc_15 hX hH hG hs hL hi hk hw kk)
  · exact j_tabIn hX (tgt := 1054) (off := 1009) dL_law_45 (by decide +kernel) (by decide +kernel) (by decide +kernel) (by decide) (lc_16 hX hH hG hs hL hi hk hw kk)
  · exact j_tabIn hX (tgt := 1110) (off := 1065) dL_law_45 (by decide +kernel) (by decide +kernel) (by decide +kernel) (by decide) (lc_17 hX hH hG hs hL hi hk hw kk)
  · exact j_tabIn hX (tgt := 1123) (off := 1078) dL_law_45 (by decide +kernel) (by decide +kernel) (by decide +kernel) (by decide) (lc_18 hX hH hG hs hL hi hk hw kk)
  · exact j_tabIn hX (tgt := 1167) (off := 1122) dL_law_45 (by decide +kernel) (by decide +kernel) (by decide +kernel) (by decide) (lc_19 hX hH hG hs hL hi hk hw kk)
  · exact j_tabIn hX (tgt := 1223) (off := 1178) dL_law_45 (by decide +kernel) (by decide +kernel) (by decide +kernel) (by decide) (lc_20 hX hH hG hs hL hi hk hw kk)
  · exact j_tabIn hX (tgt := 1279) (off := 1234) dL_law_45 (by decide +kernel) (by decide +kernel) (by decide +kernel) (by decide) (lc_21 hX hH hG hs hL hi hk hw kk)
  · exact j_tabIn hX (tgt := 1292) (off := 1247) dL_law_45 (by decide +kernel) (by decide +kernel) (by decide +kernel) (by decide) (lc_22 hX hH hG hs hL hi hk hw kk)
  · exact j_tabIn hX (tgt := 1306) (off := 1261) dL_law_45 (by decide +kernel) (by decide +kernel) (by decide +kernel) (by decide) (lc_23 hX hH hG hs hL hi hk hw kk)
  · exact j_tabIn hX (tgt := 1372) (off := 1327) dL_law_45 (by decide +kernel) (by decide +kernel) (by decide +kernel) (by decide) (lc_24 hX hH hG hs hL hi hk hw kk)
  · exact j_tabOut hX (tgt := 1437) dL_law_45 (Or.inr (by rw [nI_toInt (by omega)]; omega)) (by decide) (jW.widen (k' := k + 1) (n' := n + 9) (by omega) (by omega) (kk ws hw))
theorem lw_loop (hX : jOK G X RL cL_law wsL_law (some .boolean) 9 2048 603072 7194730 post) (hH : jTL X) (hG : G.1.stackTraces = false) (hs : jScr X b L xs) (hL : L ≤ 3584) (hE : ∀ (k n : Nat) (ls : List (Option Value)) (ws : va_W), k ≤ 603072 → n ≤ 7194730 → jW G X k n 1444 ls [.int 1] ws) :
    ∀ (f j k n : Nat) (ws : va_W), L < 7 * (j + f) + 7 → 7 * j ≤ 3584 → k ≤ 100 + j → n ≤ 2000 + 9 * j → LW G bm bd bo bx ws → jW G X k n 28 [some (.ref b), some (.ref bx), some (.ref bm), some (.ref bo), some (.ref bd), some (.int (nI (7 * j))), none, none, none] [] ws
  | 0, j, k, n, ws, hf, hj, hk, hn, hw => by
    refine lw_hd hX hs hL (by omega) (fun he => ?_) (fun hc => absurd hc (by omega))
    refine j_iconst hX (v := 1) (by decide) dL_law_1443 ?_
    exact hE k n _ _ (by omega) (by omega)
  | f + 1, j, k, n, ws, hf, hj, hk, hn, hw => by
    refine lw_hd hX hs hL (by omega) (fun he => ?_) (fun hc => ?_)
    · refine j_iconst hX (v := 1) (by decide) dL_law_1443 ?_
      exact hE k n _ _ (by omega) (by omega)
    · refine lw_disp hX hH hG hs hL hc ⟨by omega, by omega⟩ hw (fun ws' hw' => ?_)
      refine j_iinc hX (x := nI (7 * j)) (v := nI (7 * (j + 1))) (ls' := [some (.ref b), some (.ref bx), some (.ref bm), some (.ref bo), some (.ref bd), some (.int (nI (7 * (j + 1)))), none, none, none]) dL_law_1437 rfl (nI_add (7 * j) 7) rfl rfl ?_
      refine j_goto hX (tgt := 28) dL_law_1440 (by decide) ?_
      exact lw_loop hX hH hG hs hL hE f (j + 1) (k + 1) (n + 9) ws' (by omega) (by omega) (by omega) (by omega) hw'
end LP
