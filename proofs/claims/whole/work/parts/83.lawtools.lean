/-! THE LAW'S STEPS: the world of both sides, loads of the script, and what follows the two calls. -/
theorem jW.pm {G : jG} {X : jX} {k n pc : Nat} {ls : List (Option Value)} {st : List Value} {ws ws' : va_W} (h : ws.Perm ws') (kk : jW G X k n pc ls st ws') : jW G X k n pc ls st ws := by
  obtain ⟨p, e, R, s, m, args, below, meth, c, A, Q⟩ := X
  intro H locs la hP hD hS hL
  have h1 := j_D_iff.mp hD
  refine kk H locs la (fun j q hj => ?_) (j_D_iff.mpr ⟨(h.map Prod.fst).nodup_iff.mp h1.1, fun q hq => h1.2 q (h.mem_iff.mpr hq)⟩) hS hL
  obtain ⟨i, hi⟩ := List.getElem?_of_mem (h.mem_iff.mpr (List.mem_of_getElem? hj))
  exact hP i q hi
/-- the class's cells, related to what the model holds -/
def CW (G : jG) (bx : Nat) (w : va_W) (V' : Nat → Int32) (M' : Nat → Nat → Int32) (t : Int64) : Prop := ∃ (V : Nat → Int32) (M : Nat → Nat → Int32) (os : Nat → ofr) (a o c : Nat) (ad : Nat → Nat), RX V M os V' M' t a o c ∧ ad 0 = bx ∧ w = wC G ad V M (enO ad o) (wO ad os o)
/-- the law's cells: the model's, the two answers', the class's -/
def LW (G : jG) (bm bd bo bx : Nat) (ws : va_W) : Prop := ∃ (V' : Nat → Int32) (M' : Nat → Nat → Int32) (t : Int64) (ad' : Nat → Nat) (fd : Nat → UInt64) (fo : Nat → Int64) (w : va_W), CW G bx w V' M' t ∧ ad' 0 = bm ∧ ws = wM G ad' V' M' t ++ ((bd, .inl (G.2.2 6, 1, .inr (.inr (.inr (.inl fd))))) :: (bo, .inl (G.2.2 5, 1, .inr (.inl fo))) :: w)
section LU
variable {G : jG} {bx ao : Nat} {w1 w : va_W} {rv : Option Value} {V' : Nat → Int32} {M' : Nat → Nat → Int32} {t : Int64} {y : Int32}
theorem lu_a {fo : Nat → Int64} {v r : Int32} (g1 : y = 0) (g2 : v = r) (h2 : rv = some (.int 0)) (h3 : w = (ao, .inl (G.2.2 5, 1, .inr (.inl (vp_updL fo 0 v.toInt64)))) :: w1) (hC : CW G bx w1 V' M' t) :
    ∃ (fo2 : Nat → Int64) (w3 : va_W), rv = some (.int y) ∧ w = (ao, .inl (G.2.2 5, 1, .inr (.inl fo2))) :: w3 ∧ (y = 0 → fo2 0 = r.toInt64) ∧ CW G bx w3 V' M' t :=
  ⟨_, w1, by rw [h2, g1], h3, fun _ => by rw [← g2]; exact if_pos rfl, hC⟩
theorem lu_b {fo : Nat → Int64} {z r : Int32} (hz : ¬ z = 0) (q : y = z) (h2 : rv = some (.int z)) (h3 : w = (ao, .inl (G.2.2 5, 1, .inr (.inl fo))) :: w1) (hC : CW G bx w1 V' M' t) :
    ∃ (fo2 : Nat → Int64) (w3 : va_W), rv = some (.int y) ∧ w = (ao, .inl (G.2.2 5, 1, .inr (.inl fo2))) :: w3 ∧ (y = 0 → fo2 0 = r.toInt64) ∧ CW G bx w3 V' M' t :=
  ⟨fo, w1, by rw [h2, q], h3, fun h0 => absurd (q.symm.trans h0) hz, hC⟩
theorem lu_2 {E e1 e2 : String} (hne : e1 ≠ e2) (g : (E = e1 ∧ y = 1) ∨ (E = e2 ∧ y = 2)) (h2 : (E = e1 ∧ rv = some (.int 1)) ∨ (E = e2 ∧ rv = some (.int 2))) : ∃ z : Int32, ¬ z = 0 ∧ y = z ∧ rv = some (.int z) := by
  rcases h2 with ⟨a1, a2⟩ | ⟨a1, a2⟩
  · rcases g with ⟨b1, b2⟩ | ⟨b1, b2⟩
    · exact ⟨1, by decide, b2, a2⟩
    · exact absurd (a1.symm.trans b1) hne
  · rcases g with ⟨b1, b2⟩ | ⟨b1, b2⟩
    · exact absurd (b1.symm.trans a1) hne
    · exact ⟨2, by decide, b2, a2⟩
theorem lu_aF {fo : Nat → UInt64} {v r : UInt64} (g1 : y = 0) (g2 : v = r) (h2 : rv = some (.int 0)) (h3 : w = (ao, .inl (G.2.2 6, 1, .inr (.inr (.inr (.inl (vf_upd fo 0 v)))))) :: w1) (hC : CW G bx w1 V' M' t) :
    ∃ (fo2 : Nat → UInt64) (w3 : va_W), rv = some (.int y) ∧ w = (ao, .inl (G.2.2 6, 1, .inr (.inr (.inr (.inl fo2))))) :: w3 ∧ (y = 0 → fo2 0 = r) ∧ CW G bx w3 V' M' t :=
  ⟨_, w1, by rw [h2, g1], h3, fun _ => by rw [← g2]; exact if_pos rfl, hC⟩
theorem lu_bF {fo : Nat → UInt64} {z : Int32} {r : UInt64} (hz : ¬ z = 0) (q : y = z) (h2 : rv = some (.int z)) (h3 : w = (ao, .inl (G.2.2 6, 1, .inr (.inr (.inr (.inl fo))))) :: w1) (hC : CW G bx w1 V' M' t) :
    ∃ (fo2 : Nat → UInt64) (w3 : va_W), rv = some (.int y) ∧ w = (ao, .inl (G.2.2 6, 1, .inr (.inr (.inr (.inl fo2))))) :: w3 ∧ (y = 0 → fo2 0 = r) ∧ CW G bx w3 V' M' t :=
  ⟨fo, w1, by rw [h2, q], h3, fun h0 => absurd (q.symm.trans h0) hz, hC⟩
theorem xn_pos {v : Int32} (h : xnone v = none) : 0 < v := by
  unfold xnone at h
  by_cases c : 0 < v
  · exact c
  · rw [if_neg c] at h
    cases h
theorem dsh_num {a : Nat} {V' : Nat → Int32} {M' : Nat → Nat → Int32} (hne : ¬ soF M' a 2 a = 0 → ¬ soF M' a 0 a = 0) (h : (mdsh a V' M').2.1 4 = 0) : FP.Core.fIsNaN (mdsh a V' M').1 = false := by
  unfold mdsh at h ⊢
  by_cases c : soF M' a 2 a = 0
  · rw [if_pos c] at h
    exact absurd h (show ¬ (1 : Int32) = 0 by decide)
  · rw [if_neg c]
    exact fdiv_num (hne c)
theorem mnp_num {a : Nat} {V' : Nat → Int32} {M' : Nat → Nat → Int32} (h : (mmnp a V' M').2.1 4 = 0) : FP.Core.dIsNaN (mmnp a V' M').1 = false := by
  unfold mmnp at h ⊢
  by_cases c : soF M' a 2 a = 0
  · rw [if_pos c] at h
    exact absurd h (show ¬ (1 : Int32) = 0 by decide)
  · rw [if_neg c]
    exact ddiv_num c
theorem f2d_num {v : UInt32} (h : FP.Core.fIsNaN v = false) : FP.Core.dIsNaN (FP.f2d v) = false := by
  have e : FP.f2d v = FP.Core.f2d v := by
    unfold FP.f2d
    rw [h]
    rfl
  rw [e]
  exact FP.Core.f2d_out h
theorem dcmp_num {x : UInt64} (h : FP.Core.dIsNaN x = false) : Op.cmpValue (FP.dcmp x x) .l = 0 := by
  have e : FP.dcmp x x = some .eq := FP.Core.dcmp_self ((FP.Core.notNaN_iff _).mp h)
  rw [e]
  rfl
end LU
theorem lg_self (x : Int64) : lg_cmp x x = 0 := by
  unfold lg_cmp
  simp
section LD
variable {G : jG} {X : jX} {own : String} {cc : ByteArray} {Ts : List Cond} {ret : Option FieldType} {nL d mc ms k n pc : Nat} {post : Option Value → va_W → Prop} {ls : List (Option Value)} {st : List Value} {ws : va_W}
theorem lw_ld (hX : jOK G X own cc Ts ret nL d mc ms post) {b L : Nat} {xs : Nat → Int32} (hs : jScr X b L xs) {i zi : Nat} {z : Int} (d0 : decode cc pc = .ok (.aload_n 0, 1)) (d1 : decode cc (pc + 1) = .ok (.iload 5, 2)) (d3 : decode cc (pc + 3) = .ok (.iconst z, 1)) (d4 : decode cc (pc + 4) = .ok (.iadd, 1)) (d5 : decode cc (pc + 5) = .ok (.iaload, 1)) (hz : Int32.ofInt z = nI zi) (h0 : ls[0]? = some (some (.ref b))) (h5 : ls[5]? = some (some (.int (nI i)))) (hi : i + zi < L) (hL : L ≤ 3584) (kk : jW G X k n (pc + 6) ls (.int (xs (i + zi)) :: st) ws) : jW G X k n pc ls st ws := by
  refine j_aload_n hX d0 h0 ?_
  refine j_iload hX d1 h5 ?_
  refine j_iconst hX hz d3 ?_
  refine j_iadd hX d4 ?_
  refine jW.top (y := nI (i + zi)) (nI_add _ _) ?_
  exact j_scr hX hs d5 (nI_in hi (by omega)) (v := xs (i + zi)) (by rw [nI_clamp (by omega)]) kk
theorem lw_ld6 (hX : jOK G X own cc Ts ret nL d mc ms post) {b L : Nat} {xs : Nat → Int32} (hs : jScr X b L xs) {i zi : Nat} {z : Int} (d0 : decode cc pc = .ok (.aload_n 0, 1)) (d1 : decode cc (pc + 1) = .ok (.iload 5, 2)) (d3 : decode cc (pc + 3) = .ok (.bipush z, 2)) (d4 : decode cc (pc + 5) = .ok (.iadd, 1)) (d5 : decode cc (pc + 6) = .ok (.iaload, 1)) (hz : (Int8.ofInt z).toInt32 = nI zi) (h0 : ls[0]? = some (some (.ref b))) (h5 : ls[5]? = some (some (.int (nI i)))) (hi : i + zi < L) (hL : L ≤ 3584) (kk : jW G X k n (pc + 7) ls (.int (xs (i + zi)) :: st) ws) : jW G X k n pc ls st ws := by
  refine j_aload_n hX d0 h0 ?_
  refine j_iload hX d1 h5 ?_
  refine j_bipush hX hz d3 ?_
  refine j_iadd hX d4 ?_
  refine jW.top (y := nI (i + zi)) (nI_add _ _) ?_
  exact j_scr hX hs d5 (nI_in hi (by omega)) (v := xs (i + zi)) (by rw [nI_clamp (by omega)]) kk
end LD
section TL
variable {G : jG} {X : jX} {k n pc : Nat} {post : Option Value → va_W → Prop}
/-- behind both calls: the model's thrown is the class's, and the answers are alike -/
theorem lw_tl (hX : jOK G X RL cL_law wsL_law (some .boolean) 9 2048 603072 7194730 post) {b bx bo bd i : Nat} {y r : Int32} {V' : Nat → Int32} {M' : Nat → Nat → Int32} {t : Int64} {ad' : Nat → Nat} {fd : Nat → UInt64} {fo : Nat → Int64} {w : va_W} (hy : V' 4 = y) (hr : y = 0 → fo 0 = r.toInt64) (hk : k ≤ 603072 ∧ n ≤ 7194730) {off : Int}
    (d0 : decode cL_law pc = .ok (.istore 7, 2)) (d2 : decode cL_law (pc + 2) = .ok (.aload_n 2, 1)) (d3 : decode cL_law (pc + 3) = .ok (.invokevirtual 93, 3)) (d6 : decode cL_law (pc + 6) = .ok (.iload 6, 2)) (d8 : decode cL_law (pc + 8) = .ok (.if_icmp .eq 5, 3)) (d13 : decode cL_law (pc + 13) = .ok (.iload 6, 2)) (d15 : decode cL_law (pc + 15) = .ok (.ifCond .ne 15, 3)) (d18 : decode cL_law (pc + 18) = .ok (.aload_n 3, 1)) (d19 : decode cL_law (pc + 19) = .ok (.iconst 0, 1)) (d20 : decode cL_law (pc + 20) = .ok (.laload, 1)) (d21 : decode cL_law (pc + 21) = .ok (.iload 7, 2)) (d23 : decode cL_law (pc + 23) = .ok (.i2l, 1)) (d24 : decode cL_law (pc + 24) = .ok (.lcmp, 1)) (d25 : decode cL_law (pc + 25) = .ok (.ifCond .eq 5, 3)) (d30 : decode cL_law (pc + 30) = .ok (.goto off, 3)) (hoff : ((pc + 30 : Nat) : Int) + off = ((1437 : Nat) : Int))
    (kk : jW G X k n 1437 [some (.ref b), some (.ref bx), some (.ref (ad' 0)), some (.ref bo), some (.ref bd), some (.int (nI i)), none, none, none] [] (wM G ad' V' M' t ++ ((bd, .inl (G.2.2 6, 1, .inr (.inr (.inr (.inl fd))))) :: (bo, .inl (G.2.2 5, 1, .inr (.inl fo))) :: w))) :
    jW G X k n pc [some (.ref b), some (.ref bx), some (.ref (ad' 0)), some (.ref bo), some (.ref bd), some (.int (nI i)), some (.int y), none, none] [.int r] (wM G ad' V' M' t ++ ((bd, .inl (G.2.2 6, 1, .inr (.inr (.inr (.inl fd))))) :: (bo, .inl (G.2.2 5, 1, .inr (.inl fo))) :: w)) := by
  refine j_istore hX (ls' := [some (.ref b), some (.ref bx), some (.ref (ad' 0)), some (.ref bo), some (.ref bd), some (.int (nI i)), some (.int y), some (.int r), none]) d0 (Nat.le_of_ble_eq_true rfl) rfl rfl ?_
  refine j_aload_n hX d2 rfl ?_
  refine j_callV hX (nA := 0) (cq := (RX12, TX12, 37)) (As := []) (st := []) (ci := 13) (wa := []) (w0 := wM G ad' V' M' t) (wb := (bd, .inl (G.2.2 6, 1, .inr (.inr (.inr (.inl fd))))) :: (bo, .inl (G.2.2 5, 1, .inr (.inl fo))) :: w) rfl d3 (c_X12_thrown G ad' V' M' t) gL_law_X12_thrown rfl (by decide +kernel) (q := 0) rfl (by decide) (Nat.le_of_ble_eq_true rfl) rfl (Nat.le_of_ble_eq_true rfl) hk rfl rfl (fun rv w1 hp => ?_)
  obtain ⟨rfl, rfl⟩ := hp
  refine jW.world (ws' := wM G ad' V' M' t ++ ((bd, .inl (G.2.2 6, 1, .inr (.inr (.inr (.inl fd))))) :: (bo, .inl (G.2.2 5, 1, .inr (.inl fo))) :: w)) rfl ?_
  refine jW.stk (st' := [.int y]) (by rw [hy]; rfl) ?_
  refine j_iload hX d6 rfl ?_
  refine j_icmp_eq_t hX (tgt := pc + 13) d8 (by omega) rfl ?_
  refine j_iload hX d13 rfl ?_
  have hend : jW G X k n (pc + 30) [some (.ref b), some (.ref bx), some (.ref (ad' 0)), some (.ref bo), some (.ref bd), some (.int (nI i)), some (.int y), some (.int r), none] [] (wM G ad' V' M' t ++ ((bd, .inl (G.2.2 6, 1, .inr (.inr (.inr (.inl fd))))) :: (bo, .inl (G.2.2 5, 1, .inr (.inl fo))) :: w)) := by
    refine j_goto hX (tgt := 1437) d30 hoff ?_
    exact jW.drop (ls' := [some (.ref b), some (.ref bx), some (.ref (ad' 0)), some (.ref bo), some (.ref bd), some (.int (nI i)), none, none, none]) ⟨Or.inr rfl, Or.inr rfl, Or.inr rfl, Or.inr rfl, Or.inr rfl, Or.inr rfl, Or.inl rfl, Or.inl rfl, Or.inr rfl, trivial⟩ kk
  by_cases h0 : y = 0
  · refine j_if_ne_f hX (tgt := pc + 30) d15 (by omega) h0 ?_
    refine j_aload_n hX d18 rfl ?_
    refine j_iconst hX (v := 0) (by decide) d19 ?_
    refine j_lald hX (N := 1) (f := fo) (v := r.toInt64) d20 31 rfl (by unfold vp_in; decide +kernel) (hr h0) ?_
    refine j_iload hX d21 rfl ?_
    refine j_i2l hX d23 ?_
    refine j_lcmp hX d24 ?_
    exact j_if_eq_t hX (tgt := pc + 30) d25 (by omega) (lg_self _) hend
  · exact j_if_ne_t hX (tgt := pc + 30) d15 (by omega) h0 hend
end TL
