/-! RULES FOR THE LAW'S BODY: the script's array, compares, tables, stores of two places, calls of wrappers. -/
def jScr (X : jX) (b L : Nat) (xs : Nat → Int32) : Prop := match X with
  | (p, e, R, s, m, args, below, meth, c, A, Q) => va_X b L xs s s.heap ∧ b < s.heap.size ∧ ¬ A b
theorem jL.set2 {la la' : Array Slot} {ls : List (Option Value)} {i : Nat} {v : Value} (h : jL la ls) (hi : i + 1 < ls.length) (hok : jok ls i = true)
    (h' : lv_has la' ls.length ((i, v) :: (jA 0 ls).filter (fun q => !(q.1 == i) && (!(q.1 == i + 1) && !(q.1 + 1 == i && q.2.category == 2))))) : jL la' ((ls.set i (some v)).set (i + 1) none) := by
  refine ⟨by rw [List.length_set, List.length_set]; exact h'.1, h'.2.1, fun j x hj => ?_⟩
  by_cases e1 : j = i + 1
  · subst e1
    rw [List.getElem?_set_self (by rw [List.length_set]; omega)] at hj
    cases hj
  · rw [List.getElem?_set_ne (Ne.symm e1)] at hj
    by_cases e : j = i
    · subst e
      rw [List.getElem?_set_self (by omega)] at hj
      cases hj
      exact h'.2.2 _ List.mem_cons_self
    · rw [List.getElem?_set_ne (Ne.symm e)] at hj
      refine h'.2.2 (j, x) (List.mem_cons_of_mem _ (List.mem_filter.mpr ⟨?_, ?_⟩))
      · have := jA_of ls 0 j x hj
        rwa [Nat.zero_add] at this
      · by_cases e2 : j + 1 = i
        · subst e2
          have h2 : (x.category == 1) = true := by
            have h3 : (match ls[j]? with
              | some (some v) => v.category == 1
              | _ => true) = true := hok
            rw [hj] at h3
            exact h3
          have h4 : x.category = 1 := by simpa using h2
          simp [h4]
          omega
        · simp [e, e1, e2]
section JLAW
variable {G : jG} {X : jX} {own : String} {cc : ByteArray} {Ts : List Cond} {ret : Option FieldType} {nL d mc ms k n pc : Nat} {post : Option Value → va_W → Prop} {ls : List (Option Value)} {st : List Value} {ws : va_W}
theorem j_scr (hX : jOK G X own cc Ts ret nL d mc ms post) {b L : Nat} {xs : Nat → Int32} (hs : jScr X b L xs) {i v : Int32} (hd : decode cc pc = .ok (.iaload, 1)) (hin : vp_in i L) (hv : xs i.toNatClampNeg = v) (kk : jW G X k n (pc + 1) ls (.int v :: st) ws) : jW G X k n pc ls (.int i :: .ref b :: st) ws := by
  obtain ⟨p, e, R, s, m, args, below, meth, c, A, Q⟩ := X
  obtain ⟨hx, hb, hr, hml, hown, hts, hlocks, hK, hA, hN, hRoom, hCell, hQ⟩ := hX
  intro H locs la hP hD hS hL
  subst hv
  exact va_sld hx hb hs.1 hs.2.1 hs.2.2 hS hin hd (kk H locs la hP hD hS hL)
theorem j_slen (hX : jOK G X own cc Ts ret nL d mc ms post) {b L : Nat} {xs : Nat → Int32} (hs : jScr X b L xs) (hd : decode cc pc = .ok (.arraylength, 1)) (kk : jW G X k n (pc + 1) ls (.int (nI L) :: st) ws) : jW G X k n pc ls (.ref b :: st) ws := by
  obtain ⟨p, e, R, s, m, args, below, meth, c, A, Q⟩ := X
  obtain ⟨hx, hb, hr, hml, hown, hts, hlocks, hK, hA, hN, hRoom, hCell, hQ⟩ := hX
  intro H locs la hP hD hS hL
  exact va_slen hx hb hs.1 hs.2.1 hs.2.2 hS hd (kk H locs la hP hD hS hL)
theorem j_tabIn (hX : jOK G X own cc Ts ret nL d mc ms post) {dflt lo hi : Int} {offs : Array Int} {len tgt : Nat} {x : Int32} {off : Int} (hd : decode cc pc = .ok (.tableswitch dflt lo hi offs, len)) (h1 : ¬ x.toInt < lo) (h2 : ¬ hi < x.toInt) (ho : offs[(x.toInt - lo).toNat]? = some off) (ht : (pc : Int) + off = (tgt : Int)) (kk : jW G X k n tgt ls st ws) : jW G X k n pc ls (.int x :: st) ws := by
  obtain ⟨p, e, R, s, m, args, below, meth, c, A, Q⟩ := X
  obtain ⟨hx, hb, hr, hml, hown, hts, hlocks, hK, hA, hN, hRoom, hCell, hQ⟩ := hX
  intro H locs la hP hD hS hL
  exact lv_tableIn hx hb hd h1 h2 ho ht (kk H locs la hP hD hS hL)
theorem j_tabOut (hX : jOK G X own cc Ts ret nL d mc ms post) {dflt lo hi : Int} {offs : Array Int} {len tgt : Nat} {x : Int32} (hd : decode cc pc = .ok (.tableswitch dflt lo hi offs, len)) (h : x.toInt < lo ∨ hi < x.toInt) (ht : (pc : Int) + dflt = (tgt : Int)) (kk : jW G X k n tgt ls st ws) : jW G X k n pc ls (.int x :: st) ws := by
  obtain ⟨p, e, R, s, m, args, below, meth, c, A, Q⟩ := X
  obtain ⟨hx, hb, hr, hml, hown, hts, hlocks, hK, hA, hN, hRoom, hCell, hQ⟩ := hX
  intro H locs la hP hD hS hL
  exact lv_tableOut hx hb hd h ht (kk H locs la hP hD hS hL)
theorem j_dcmp (hX : jOK G X own cc Ts ret nL d mc ms post) {x y : UInt64} {op : CmpOp} (hd : decode cc pc = .ok (.dcmp op, 1)) (kk : jW G X k n (pc + 1) ls (.int (Op.cmpValue (FP.dcmp x y) op) :: st) ws) : jW G X k n pc ls (.double y :: .double x :: st) ws := by
  obtain ⟨p, e, R, s, m, args, below, meth, c, A, Q⟩ := X
  obtain ⟨hx, hb, hr, hml, hown, hts, hlocks, hK, hA, hN, hRoom, hCell, hQ⟩ := hX
  intro H locs la hP hD hS hL
  exact lv_dcmp hx hb hd (kk H locs la hP hD hS hL)
theorem j_lcmp (hX : jOK G X own cc Ts ret nL d mc ms post) {x y : Int64} (hd : decode cc pc = .ok (.lcmp, 1)) (kk : jW G X k n (pc + 1) ls (.int (lg_cmp x y) :: st) ws) : jW G X k n pc ls (.long y :: .long x :: st) ws := by
  obtain ⟨p, e, R, s, m, args, below, meth, c, A, Q⟩ := X
  obtain ⟨hx, hb, hr, hml, hown, hts, hlocks, hK, hA, hN, hRoom, hCell, hQ⟩ := hX
  intro H locs la hP hD hS hL
  exact W.lcmp hx hb hd (kk H locs la hP hD hS hL)
theorem j_fcmp (hX : jOK G X own cc Ts ret nL d mc ms post) {x y : UInt32} {op : CmpOp} (hd : decode cc pc = .ok (.fcmp op, 1)) (kk : jW G X k n (pc + 1) ls (.int (Op.cmpValue (FP.fcmp x y) op) :: st) ws) : jW G X k n pc ls (.float y :: .float x :: st) ws := by
  obtain ⟨p, e, R, s, m, args, below, meth, c, A, Q⟩ := X
  obtain ⟨hx, hb, hr, hml, hown, hts, hlocks, hK, hA, hN, hRoom, hCell, hQ⟩ := hX
  intro H locs la hP hD hS hL
  exact lv_fcmp hx hb hd (kk H locs la hP hD hS hL)
theorem j_fstore (hX : jOK G X own cc Ts ret nL d mc ms post) {i : Nat} {x : UInt32} {ls' : List (Option Value)} (hd : decode cc pc = .ok (.fstore i, 2)) (hi : i < ls.length) (hok : jok ls i = true) (hl : ls.set i (some (.float x)) = ls') (kk : jW G X k n (pc + 2) ls' st ws) : jW G X k n pc ls (.float x :: st) ws := by
  obtain ⟨p, e, R, s, m, args, below, meth, c, A, Q⟩ := X
  obtain ⟨hx, hb, hr, hml, hown, hts, hlocks, hK, hA, hN, hRoom, hCell, hQ⟩ := hX
  intro H locs la hP hD hS hL
  subst hl
  exact lv_fstore hx hb hd hL.has hi rfl (fun la' h' => kk H locs la' hP hD hS (hL.set hi hok h'))
theorem j_dstore (hX : jOK G X own cc Ts ret nL d mc ms post) {i : Nat} {x : UInt64} {ls' : List (Option Value)} (hd : decode cc pc = .ok (.dstore i, 2)) (hi : i + 1 < ls.length) (hok : jok ls i = true) (hl : (ls.set i (some (.double x))).set (i + 1) none = ls') (kk : jW G X k n (pc + 2) ls' st ws) : jW G X k n pc ls (.double x :: st) ws := by
  obtain ⟨p, e, R, s, m, args, below, meth, c, A, Q⟩ := X
  obtain ⟨hx, hb, hr, hml, hown, hts, hlocks, hK, hA, hN, hRoom, hCell, hQ⟩ := hX
  intro H locs la hP hD hS hL
  subst hl
  exact lv_dstore hx hb hd hL.has hi rfl (fun la' h' => kk H locs la' hP hD hS (hL.set2 hi hok h'))
def jTL (X : jX) : Prop := match X with
  | (p, e, R, s, m, args, below, meth, c, A, Q) => jThr A s ∧ jNcs s
theorem j_blindH {G : jG} {As : List Value} {w0 : va_W} {sz : Nat} : FrameBlind (jPh G As w0 sz) := by
  intro a U g mk h
  obtain ⟨e, h1, h2, h3, h4, h5, h6, h7⟩ := h
  exact ⟨e, h1, h2, va_K.moved (u := U) (U := U.calling g mk a) (Vm.Alike.refl U.vm) h3, h4, jNests.same (s := U) rfl h5, jThr.same rfl rfl h6, jNcs.moved (u := U) (U := U.calling g mk a) (Vm.Alike.refl U.vm) h7⟩
theorem j_callH (hX : jOK G X own cc Ts ret nL d mc ms post) (hH : jTL X) {idx d' maxL mc' ms' nA : Nat} {y : MethodName} {bytes : ByteArray} {rt : Option FieldType} {hh : List (Nat × Nat × Nat × Nat)} {Ws Ws' : List Cond} {wa w0 wb : va_W} {post' : Option Value → va_W → Prop} {As : List Value} (hd : decode cc pc = .ok (.invokestatic idx, 3)) (hC : jH G d' y Ws As w0 mc' ms' post') (hG : GoodIn Ts (va_wsS own idx y Ws)) (hWs : Ws = Cond.codeWith y bytes maxL rt hh :: Ws') (hdd0 : y.cls ≠ "java/lang/invoke/MethodHandle" ∧ y.cls ≠ "java/lang/invoke/VarHandle" ∧ (parseMethodDescriptor y.desc).map (fun d => d.parameters.length) = some nA) (hdd : d' + 1 ≤ d) (hmx : maxL ≤ 21) (hnA : As.length = nA) (hcat : (st.map fun v => v.category).sum ≤ 8) (hcs : k + mc' ≤ mc ∧ n + ms' ≤ ms) (hlen : ls.length = nL) (hw : ws = wa ++ (w0 ++ wb))
    (kk : ∀ (rv : Option Value) (w1 : va_W), post' rv w1 → jW G X (k + mc') (n + ms') (pc + 3) ls (rv.toList ++ st) (wa ++ (w1 ++ wb))) : jW G X k n pc ls (As.reverse ++ st) ws := by
  subst hw
  obtain ⟨p, e, R, s, m, args, below, meth, c, A, Q⟩ := X
  obtain ⟨hx, hb, hr, hml, hown, hts, hlocks, hK, hA, hN, hRoom, hCell, hQ⟩ := hX
  obtain ⟨hThr, hNc⟩ := hH
  intro H locs la hP hD hS hL
  have hrun := vx_runSX (e := e) (below := below) (meth := meth) (As := As) (rest := st) (H := H) (locs := locs) (cells := k) (slots := n) (g := F0 m pc la (As.reverse ++ st)) ⟨hx, hb, hml, hown, hts⟩ (hC H.size) (vx_cwSW nA hts hG hWs rfl rfl hdd0 (j_room hRoom hdd hmx)) ⟨j_blindH, fun U hU hW => by
    obtain ⟨e, h1, h2, h3, h4, h5, h6⟩ := j_preT (As := As) hP hD hK hN hThr hS hA U hU hW
    exact ⟨e, h1, h2, h3, h4, h5, h6, hNc.moved hW.alike⟩⟩ rfl hnA (hL.1.trans hlen) rfl (lv_room hcat) hd (by rw [hCell.1, hCell.2]; exact hcs)
  refine j_after (a := As.toArray) (rest := st) (fun T hT XT => ?_) hP hD hS hL hA kk
  rcases hrun T hT XT with h | ⟨qx, st₀, t, T', L, E, ce, h0, X', hL', e1, ev, hpx, -⟩
  · obtain ⟨v, st₀, t, T', L, h0, X', hL', e1, e2, e3, e4⟩ := h
    exact ⟨v, st₀, t, T', L, h0, X', hL', e1, e2, e3, e4⟩
  · exact hpx.elim
end JLAW

section JLAW2
variable {G : jG} {X : jX} {own : String} {cc : ByteArray} {Ts : List Cond} {ret : Option FieldType} {nL d mc ms k n pc : Nat} {post : Option Value → va_W → Prop} {ls : List (Option Value)} {st : List Value} {ws : va_W}
theorem j_ldc2 (hX : jOK G X own cc Ts ret nL d mc ms post) {idx : Nat} {v : Int64} (hd : decode cc pc = .ok (.ldc2_w idx, 3)) (hc : Cond.constantLong own idx v ∈ Ts) (kk : jW G X k n (pc + 3) ls (.long v :: st) ws) : jW G X k n pc ls st ws := by
  obtain ⟨p, e, R, s, m, args, below, meth, c, A, Q⟩ := X
  obtain ⟨hx, hb, hr, hml, hown, hts, hlocks, hK, hA, hN, hRoom, hCell, hQ⟩ := hX
  intro H locs la hP hD hS hL
  exact lv_ldc2 hx hb hown (hts _ hc) hd (kk H locs la hP hD hS hL)
theorem j_ldc2d (hX : jOK G X own cc Ts ret nL d mc ms post) {idx : Nat} {v : UInt64} (hd : decode cc pc = .ok (.ldc2_w idx, 3)) (hc : Cond.constantDouble own idx v ∈ Ts) (kk : jW G X k n (pc + 3) ls (.double v :: st) ws) : jW G X k n pc ls st ws := by
  obtain ⟨p, e, R, s, m, args, below, meth, c, A, Q⟩ := X
  obtain ⟨hx, hb, hr, hml, hown, hts, hlocks, hK, hA, hN, hRoom, hCell, hQ⟩ := hX
  intro H locs la hP hD hS hL
  exact lv_ldc2d hx hb hown (hts _ hc) hd (kk H locs la hP hD hS hL)
theorem j_ldcf (hX : jOK G X own cc Ts ret nL d mc ms post) {idx : Nat} {v : UInt32} (hd : decode cc pc = .ok (.ldc idx, 2)) (hc : Cond.constantFloat own idx v ∈ Ts) (kk : jW G X k n (pc + 2) ls (.float v :: st) ws) : jW G X k n pc ls st ws := by
  obtain ⟨p, e, R, s, m, args, below, meth, c, A, Q⟩ := X
  obtain ⟨hx, hb, hr, hml, hown, hts, hlocks, hK, hA, hN, hRoom, hCell, hQ⟩ := hX
  intro H locs la hP hD hS hL
  exact lv_ldcf hx hb hown (hts _ hc) hd (kk H locs la hP hD hS hL)
theorem j_lmul (hX : jOK G X own cc Ts ret nL d mc ms post) {x y : Int64} (hd : decode cc pc = .ok (.lmul, 1)) (kk : jW G X k n (pc + 1) ls (.long (x * y) :: st) ws) : jW G X k n pc ls (.long y :: .long x :: st) ws := by
  obtain ⟨p, e, R, s, m, args, below, meth, c, A, Q⟩ := X
  obtain ⟨hx, hb, hr, hml, hown, hts, hlocks, hK, hA, hN, hRoom, hCell, hQ⟩ := hX
  intro H locs la hP hD hS hL
  exact lv_lmul hx hb hd (kk H locs la hP hD hS hL)
/-- the rest of a division -/
def rm9 (x y : Int32) : Int32 := x - x / y * y
theorem rm9_nI {a b : Nat} (ha : a < 2 ^ 31) (hb0 : 0 < b) (hb : b < 2 ^ 31) : rm9 (nI a) (nI b) = nI (a % b) := by
  unfold rm9
  have hd : a / b ≤ a := Nat.div_le_self a b
  have e1 : nI a / nI b = nI (a / b) := by
    refine Int32.toInt_inj.mp ?_
    rw [Int32.toInt_div, nI_toInt ha, nI_toInt hb, nI_toInt (by omega), show ((a : Int).tdiv (b : Int)) = ((a / b : Nat) : Int) from (Int.ofNat_tdiv a b).symm]
    generalize a / b = r at hd ⊢
    exact Int.bmod_eq_of_le (by omega) (by omega)
  have e2 : nI (a / b) * nI b = nI (a / b * b) := (Int32.ofNat_mul (a / b) b).symm
  have e3 : a = a % b + a / b * b := by rw [Nat.mul_comm]; exact (Nat.mod_add_div a b).symm
  rw [e1, e2]
  have e4 : nI (a % b) + nI (a / b * b) = nI a := by rw [nI_add, ← e3]
  rw [← e4, Int32.add_sub_cancel]
theorem j_irem (hX : jOK G X own cc Ts ret nL d mc ms post) {x y : Int32} (hd : decode cc pc = .ok (.irem, 1)) (hne : ¬ y = 0) (kk : jW G X k n (pc + 1) ls (.int (rm9 x y) :: st) ws) : jW G X k n pc ls (.int y :: .int x :: st) ws := by
  obtain ⟨p, e, R, s, m, args, below, meth, c, A, Q⟩ := X
  obtain ⟨hx, hb, hr, hml, hown, hts, hlocks, hK, hA, hN, hRoom, hCell, hQ⟩ := hX
  intro H locs la hP hD hS hL
  exact lv_irem hx hb hd hne (kk H locs la hP hD hS hL)
theorem j_lconst (hX : jOK G X own cc Ts ret nL d mc ms post) {z : Fin 2} {v : Int64} (hv : Int64.ofNat (z : Nat) = v) (hd : decode cc pc = .ok (.lconst z, 1)) (kk : jW G X k n (pc + 1) ls (.long v :: st) ws) : jW G X k n pc ls st ws := by
  obtain ⟨p, e, R, s, m, args, below, meth, c, A, Q⟩ := X
  obtain ⟨hx, hb, hr, hml, hown, hts, hlocks, hK, hA, hN, hRoom, hCell, hQ⟩ := hX
  intro H locs la hP hD hS hL
  exact lv_lconst hx hb hd hv (kk H locs la hP hD hS hL)
theorem j_fconst1 (hX : jOK G X own cc Ts ret nL d mc ms post) (hd : decode cc pc = .ok (.fconst 1, 1)) (kk : jW G X k n (pc + 1) ls (.float FP.fconst1 :: st) ws) : jW G X k n pc ls st ws := by
  obtain ⟨p, e, R, s, m, args, below, meth, c, A, Q⟩ := X
  obtain ⟨hx, hb, hr, hml, hown, hts, hlocks, hK, hA, hN, hRoom, hCell, hQ⟩ := hX
  intro H locs la hP hD hS hL
  exact lv_fconst1 hx hb hd (kk H locs la hP hD hS hL)
theorem j_lstore (hX : jOK G X own cc Ts ret nL d mc ms post) {i : Nat} {x : Int64} {ls' : List (Option Value)} (hd : decode cc pc = .ok (.lstore i, 2)) (hi : i + 1 < ls.length) (hok : jok ls i = true) (hl : (ls.set i (some (.long x))).set (i + 1) none = ls') (kk : jW G X k n (pc + 2) ls' st ws) : jW G X k n pc ls (.long x :: st) ws := by
  obtain ⟨p, e, R, s, m, args, below, meth, c, A, Q⟩ := X
  obtain ⟨hx, hb, hr, hml, hown, hts, hlocks, hK, hA, hN, hRoom, hCell, hQ⟩ := hX
  intro H locs la hP hD hS hL
  subst hl
  exact lv_lstore hx hb hd hL.has hi rfl (fun la' h' => kk H locs la' hP hD hS (hL.set2 hi hok h'))
theorem j_lstore_n (hX : jOK G X own cc Ts ret nL d mc ms post) {q : Fin 4} {i : Nat} {x : Int64} {ls' : List (Option Value)} (hd : decode cc pc = .ok (.lstore_n q, 1)) (hq : (q : Nat) = i) (hi : i + 1 < ls.length) (hok : jok ls i = true) (hl : (ls.set i (some (.long x))).set (i + 1) none = ls') (kk : jW G X k n (pc + 1) ls' st ws) : jW G X k n pc ls (.long x :: st) ws := by
  obtain ⟨p, e, R, s, m, args, below, meth, c, A, Q⟩ := X
  obtain ⟨hx, hb, hr, hml, hown, hts, hlocks, hK, hA, hN, hRoom, hCell, hQ⟩ := hX
  intro H locs la hP hD hS hL
  subst hl
  exact lv_lstore_n hx hb hd hq hL.has hi rfl (fun la' h' => kk H locs la' hP hD hS (hL.set2 hi hok h'))
/-- cells that aren't spoken of any more -/
theorem jW.fewer {ws' : va_W} (h : ws'.Sublist ws) (kk : jW G X k n pc ls st ws') : jW G X k n pc ls st ws := by
  obtain ⟨p, e, R, s, m, args, below, meth, c, A, Q⟩ := X
  intro H locs la hP hD hS hL
  have h1 := j_D_iff.mp hD
  refine kk H locs la (fun j q hj => ?_) (j_D_iff.mpr ⟨h1.1.sublist (h.map Prod.fst), fun q hq => h1.2 q (h.subset hq)⟩) hS hL
  obtain ⟨i, hi⟩ := List.getElem?_of_mem (h.subset (List.mem_of_getElem? hj))
  exact hP i q hi
theorem jW.pm {ws' : va_W} (h : ws.Perm ws') (kk : jW G X k n pc ls st ws') : jW G X k n pc ls st ws := by
  obtain ⟨p, e, R, s, m, args, below, meth, c, A, Q⟩ := X
  intro H locs la hP hD hS hL
  have h1 := j_D_iff.mp hD
  refine kk H locs la (fun j q hj => ?_) (j_D_iff.mpr ⟨(h.map Prod.fst).nodup_iff.mp h1.1, fun q hq => h1.2 q (h.mem_iff.mpr hq)⟩) hS hL
  obtain ⟨i, hi⟩ := List.getElem?_of_mem (h.mem_iff.mpr (List.mem_of_getElem? hj))
  exact hP i q hi
/-- a method without a table of its own that calls such as have one -/
theorem jH.ofP {G : jG} {d mc ms maxL : Nat} {y : MethodName} {Ts Ts' : List Cond} {cc : ByteArray} {ret : Option FieldType} {As : List Value} {w0 : va_W} {post : Option Value → va_W → Prop} (hTs : Ts = Cond.code y cc maxL ret :: Ts') (hy : plainName y.cls = true) (ls : List (Option Value)) (hls : ls.length = maxL) (hlen : (lg_sl As).length ≤ maxL) (hargs : ∀ (i : Nat) (v : Value), ls[i]? = some (some v) → (i, v) ∈ lv_args 0 As)
    (body : ∀ X : jX, jOK G X y.cls cc Ts ret maxL d mc ms post → jTL X → jW G X 0 0 0 ls [] w0) : jH G d y Ts As w0 mc ms post := by
  intro sz
  refine vx_ofW (cc := cc) (maxL := maxL) (ret := ret) hy hTs ?_
  intro p e s m args below meth c s₁ B hml htb hv
  obtain ⟨rfl, hsz, hP, hK, hD0, hN, hThr, hNc⟩ := hv
  have hts := atoms_spec (ws := Ts) B.pre
  have hown : s.vm.findClass y.cls = some m.cls := findClass_of_methodNamed B.named
  have hlocks := B.notSynchronized
  subst hsz
  have hD := hD0.self (sz := s.heap.size)
  have hl := lv_entry As (n := maxL) hlen
  rw [lg_entry_eq]
  generalize (lg_sl As ++ List.replicate (maxL - (lg_sl As).length) Slot.unset).toArray = la at hl ⊢
  refine body (p, e, (headSpec Ts (jRm d mc ms)).room, s, m, As.toArray, below, meth, c, va_A w0 s.heap.size, vx_MQ below (jQ G.2.1 post (va_A w0 s.heap.size)) (fun _ _ _ => False) As.toArray s mc ms (va_A w0 s.heap.size)) ⟨B.exec, B.bytes, B.returns, hml, hown, hts, hlocks, hK, fun q h => Or.inr h, hN, ⟨Nat.le_refl _, Nat.le_refl _⟩, ⟨rfl, rfl⟩, fun t h => ?_⟩ ⟨hThr, hNc⟩ s.heap [] la hP hD va_S.rf ⟨by rw [hls]; exact hl.1, hl.2.1, fun i v h => hl.2.2 (i, v) (hargs i v h)⟩
  obtain ⟨o, h1, h2, h3, h4⟩ := h
  exact ⟨o, h1, h2, Or.inl ⟨h3, h4⟩⟩
theorem j_callHP (hX : jOK G X own cc Ts ret nL d mc ms post) (hH : jTL X) {idx d' maxL mc' ms' nA : Nat} {y : MethodName} {bytes : ByteArray} {rt : Option FieldType} {Ws Ws' : List Cond} {wa w0 wb : va_W} {post' : Option Value → va_W → Prop} {As : List Value} (hd : decode cc pc = .ok (.invokestatic idx, 3)) (hC : jH G d' y Ws As w0 mc' ms' post') (hG : GoodIn Ts (va_wsS own idx y Ws)) (hWs : Ws = Cond.code y bytes maxL rt :: Ws') (hdd0 : y.cls ≠ "java/lang/invoke/MethodHandle" ∧ y.cls ≠ "java/lang/invoke/VarHandle" ∧ (parseMethodDescriptor y.desc).map (fun d => d.parameters.length) = some nA) (hdd : d' + 1 ≤ d) (hmx : maxL ≤ 21) (hnA : As.length = nA) (hcat : (st.map fun v => v.category).sum ≤ 8) (hcs : k + mc' ≤ mc ∧ n + ms' ≤ ms) (hlen : ls.length = nL) (hw : ws = wa ++ (w0 ++ wb))
    (kk : ∀ (rv : Option Value) (w1 : va_W), post' rv w1 → jW G X (k + mc') (n + ms') (pc + 3) ls (rv.toList ++ st) (wa ++ (w1 ++ wb))) : jW G X k n pc ls (As.reverse ++ st) ws := by
  subst hw
  obtain ⟨p, e, R, s, m, args, below, meth, c, A, Q⟩ := X
  obtain ⟨hx, hb, hr, hml, hown, hts, hlocks, hK, hA, hN, hRoom, hCell, hQ⟩ := hX
  obtain ⟨hThr, hNc⟩ := hH
  intro H locs la hP hD hS hL
  have hrun := vx_runS (e := e) (below := below) (meth := meth) (As := As) (rest := st) (H := H) (locs := locs) (cells := k) (slots := n) (g := F0 m pc la (As.reverse ++ st)) ⟨hx, hb, hml, hown, hts⟩ (hC H.size) (va_cwS nA hts hG hWs rfl rfl hdd0 (j_room hRoom hdd hmx)) ⟨j_blindH, fun U hU hW => by
    obtain ⟨e, h1, h2, h3, h4, h5, h6⟩ := j_preT (As := As) hP hD hK hN hThr hS hA U hU hW
    exact ⟨e, h1, h2, h3, h4, h5, h6, hNc.moved hW.alike⟩⟩ rfl hnA (hL.1.trans hlen) rfl (lv_room hcat) hd (by rw [hCell.1, hCell.2]; exact hcs)
  refine j_after (a := As.toArray) (rest := st) (fun T hT XT => ?_) hP hD hS hL hA kk
  rcases hrun T hT XT with h | ⟨qx, st₀, t, T', L, E, ce, h0, X', hL', e1, ev, hpx, -⟩
  · obtain ⟨v, st₀, t, T', L, h0, X', hL', e1, e2, e3, e4⟩ := h
    exact ⟨v, st₀, t, T', L, h0, X', hL', e1, e2, e3, e4⟩
  · exact hpx.elim
end JLAW2
