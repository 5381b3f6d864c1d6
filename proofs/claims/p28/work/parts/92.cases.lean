/-! THE LAW'S STEPS, case by case. -/
/-- the law's cells between its steps -/
def HW (G : jG) (bx bg a : Nat) (ws : va_W) : Prop := ∃ (V : Nat → Int32) (M : Nat → Nat → Int32) (os : Nat → ofr) (o : Nat) (ad : Nat → Nat) (gs : Nat → Int32) (V' : Nat → Int32) (M' : Nat → Nat → Int32) (t : Int64) (c : Nat), RX V M os V' M' t a o c ∧ LE9 V ∧ (∀ j, j < o → gs j = (os j).2 1) ∧ ad 0 = bx ∧ ws = (bg, .inl (G.2.2 0, 6, .inl gs)) :: wC G ad V M (enO ad o) (wO ad os o)
/-- and the sum over them is known -/
def HZ (G : jG) (bx bg a : Nat) (bef : Int64) (ws : va_W) : Prop := ∃ (V : Nat → Int32) (M : Nat → Nat → Int32) (os : Nat → ofr) (o : Nat) (ad : Nat → Nat) (gs : Nat → Int32) (V' : Nat → Int32) (M' : Nat → Nat → Int32) (t : Int64) (c : Nat), ST V M os V' M' t a o c ∧ LE9 V ∧ (∀ j, j < o → gs j = (os j).2 1) ∧ ad 0 = bx ∧ ws = (bg, .inl (G.2.2 0, 6, .inl gs)) :: wC G ad V M (enO ad o) (wO ad os o) ∧ bef = sumF os o (cb (M' 5) a) a (V, M)
section CS9
variable {V : Nat → Int32} {M : Nat → Nat → Int32} {os : Nat → ofr} {V' : Nat → Int32} {M' : Nat → Nat → Int32} {t : Int64} {a o c : Nat}
theorem HW_of {G : jG} {bg : Nat} {gs : Nat → Int32} {ad : Nat → Nat} (h : RX V M os V' M' t a o c) (hL : LE9 V) (hg : ∀ j, j < o → gs j = (os j).2 1) : HW G (ad 0) bg a ((bg, .inl (G.2.2 0, 6, .inl gs)) :: wC G ad V M (enO ad o) (wO ad os o)) := ⟨V, M, os, o, ad, gs, V', M', t, c, h, hL, hg, rfl, rfl⟩
theorem HW_iv {G : jG} {bg : Nat} {gs : Nat → Int32} {ad : Nat → Nat} (h : IV V M os o a) (hg : ∀ j, j < o → gs j = (os j).2 1) : HW G (ad 0) bg a ((bg, .inl (G.2.2 0, 6, .inl gs)) :: wC G ad V M (enO ad o) (wO ad os o)) := by
  obtain ⟨⟨V', M', t, c, h⟩, hL⟩ := h
  exact HW_of h hL hg
theorem LE9_find (hL : LE9 V) (n : Nat) : LE9 (findF os o n (V, M)).1 := by
  obtain ⟨-, -, -, -, e1, e2, -, -⟩ := st_V os o n (V, M)
  exact LE9_of hL e1 e2
theorem HW_find {G : jG} {bg : Nat} {gs : Nat → Int32} {ad : Nat → Nat} (h : RX V M os V' M' t a o c) (hL : LE9 V) (hg : ∀ j, j < o → gs j = (os j).2 1) : HW G (ad 0) bg a ((bg, .inl (G.2.2 0, 6, .inl gs)) :: wC G ad (findF os o (cb (M' 5) a) (V, M)).1 (findF os o (cb (M' 5) a) (V, M)).2 (enO ad o) (wO ad os o)) := HW_of (st_find h).1.1 (LE9_find hL _) hg
/-- what was known of the sum is known when the best is sought -/
theorem z_find {wat : Int32} {bef : Int64} (h : RX V M os V' M' t a o c) (hZ : wat = 0 ∨ (ST V M os V' M' t a o c ∧ bef = sumF os o (cb (M' 5) a) a (V, M))) : ∃ (W' : Nat → Int32) (N' : Nat → Nat → Int32), ST (findF os o (cb (M' 5) a) (V, M)).1 (findF os o (cb (M' 5) a) (V, M)).2 os W' N' t a o c ∧ N' 5 = M' 5 ∧ (wat = 0 ∨ (ST (findF os o (cb (M' 5) a) (V, M)).1 (findF os o (cb (M' 5) a) (V, M)).2 os W' N' t a o c ∧ bef = sumF os o (cb (N' 5) a) a ((findF os o (cb (M' 5) a) (V, M)).1, (findF os o (cb (M' 5) a) (V, M)).2))) := by
  rcases hZ with h0 | ⟨hS, hb⟩
  · obtain ⟨g1, g2, -⟩ := st_find h
    exact ⟨_, _, g1, g2, Or.inl h0⟩
  · rw [st_id hS]
    exact ⟨V', M', hS, rfl, Or.inr ⟨hS, hb⟩⟩
theorem HZ_of {G : jG} {bg : Nat} {gs : Nat → Int32} {ad : Nat → Nat} {wat : Int32} {bef : Int64} (hL : LE9 V) (hg : ∀ j, j < o → gs j = (os j).2 1) (hZ : wat = 0 ∨ (ST V M os V' M' t a o c ∧ bef = sumF os o (cb (M' 5) a) a (V, M))) : wat = 0 ∨ HZ G (ad 0) bg a bef ((bg, .inl (G.2.2 0, 6, .inl gs)) :: wC G ad V M (enO ad o) (wO ad os o)) := by
  rcases hZ with h0 | ⟨hS, hb⟩
  · exact Or.inl h0
  · exact Or.inr ⟨V, M, os, o, ad, gs, V', M', t, c, hS, hL, hg, rfl, rfl, hb⟩
set_option maxHeartbeats 4000000 in
/-- an item that is in the basket, asked for before the best is known -/
theorem d_item_in (G : jG) (hG : G.1.stackTraces = false) (ad : Nat → Nat) (h : RX V M os V' M' t a o c) {z : Nat} (hz : z < a) (h98 : M' 5 z = 98) : jH G 31 yL_item wsL_item [.ref (ad 0), .int (nI z), .int 1] (wC G ad V M (enO ad o) (wO ad os o)) 1 6 (fun rv w => ∃ F, F ≤ 9999 ∧ rv = some (.int (nI F)) ∧ w = wC G ad (findF os o (cb (M' 5) a) (V, M)).1 (findF os o (cb (M' 5) a) (V, M)).2 (enO ad o) (wO ad os o)) := by
  obtain ⟨hsz, hn, hso, ho6, hos⟩ := rx_KS h
  obtain ⟨g1, g2, g3⟩ := st_find h
  have h2 : (fdF a o c (V', M')).2 5 z = 98 := by rw [g2]; exact h98
  obtain ⟨k1, k2, k3, k4⟩ := (st_net g1 hz).1 h2
  have hF := fl_le g1.1.1 k4
  refine (c_L_item_n G (wCg0 G ad V M (enO ad o) (wO ad os o)) (nI z) (c_X11_netPrice G hG ad V M os o (nI z) (cb (M' 5) a) hsz hn hso ho6 hos) (fun rv w1 hp => ⟨_, hp.2.1⟩) (fun E hE => xpos_E hE)).imp (fun rv w hp => ?_)
  have e2 : (findF os o (cb (M' 5) a) (V, M)).2 2 = M 2 := by
    rcases h.2 with ⟨q1, -⟩ | ⟨q1, -, -⟩
    · obtain ⟨-, -, -, -, -, -, -, -, c9⟩ := find_c h.1 q1
      exact c9 2 rfl rfl rfl rfl rfl rfl rfl rfl rfl rfl rfl
    · have e1 : findF os o (cb (M' 5) a) (V, M) = (V, M) := if_neg (show ¬ V 1 = 0 by rw [q1]; decide)
      rw [e1]
  rw [g2, e2] at k2 k3
  rw [g2] at hF
  rcases hp with ⟨h1, h3, h4⟩ | ⟨E, h1, -⟩
  · exact ⟨_, hF, by rw [h3, k3], h4⟩
  · rcases pos_two h (nI z) with ⟨hi, -⟩ | ⟨-, hx, -⟩
    · exfalso
      have ha := h.1.2.1.2.2
      rcases ib_spec (a := a) (f := M' 5) (x := nI z) ha with ⟨-, g⟩ | ⟨g, -⟩
      · exact g z hz rfl h98
      · rw [hi] at g
        exact absurd g (by decide)
    · rw [hx] at h1
      cases h1
theorem d_item_no (G : jG) (hG : G.1.stackTraces = false) (ad : Nat → Nat) (h : RX V M os V' M' t a o c) {z : Nat} (hz : a ≤ z) (hz2 : z < 2 ^ 20) : jH G 31 yL_item wsL_item [.ref (ad 0), .int (nI z), .int 1] (wC G ad V M (enO ad o) (wO ad os o)) 1 6 (fun rv w => rv = some (.int (-1001)) ∧ w = wC G ad V M (enO ad o) (wO ad os o)) := by
  obtain ⟨hsz, hn, hso, ho6, hos⟩ := rx_KS h
  refine (c_L_item_n G (wCg0 G ad V M (enO ad o) (wO ad os o)) (nI z) (c_X11_netPrice G hG ad V M os o (nI z) (cb (M' 5) a) hsz hn hso ho6 hos) (fun rv w1 hp => ⟨_, hp.2.1⟩) (fun E hE => xpos_E hE)).imp (fun rv w hp => ?_)
  rcases hp with ⟨h1, h3, h4⟩ | ⟨E, h1, ⟨-, h2⟩, h3⟩
  · rw [st_out h hz hz2] at h1
    cases h1
  · exact ⟨h2, h3⟩
end CS9
theorem mx_ne (a : Nat) (ha : a < 2 ^ 31) : ¬ (if (1 : Int32) < nI a then nI a else 1) = 0 := by
  split
  · rename_i h
    intro e
    rw [e] at h
    exact absurd h (by decide)
  · decide
theorem lg_self (x : Int64) : lg_cmp x x = 0 := by
  unfold lg_cmp
  simp
theorem adU_0 (ad : Nat → Nat) (o q : Nat) : adU ad o q 0 = ad 0 := adU_lt (by omega)
theorem isum_eq {f g : Nat → Nat} {o : Nat} (h : ∀ j, j < o → nI (f j) = nI (g j)) : nI (sm f o) = nI (sm g o) := by
  induction o with
  | zero => rfl
  | succ o ih => rw [sm, sm, ← nI_add, ← nI_add, ih (fun j hj => h j (by omega)), h o (by omega)]
theorem bP_cases {i : Nat} (hi : i < 4) : (i = 0 ∧ bP i = 112) ∨ (i = 1 ∧ bP i = 102) ∨ (i = 2 ∧ bP i = 98) ∨ (i = 3 ∧ bP i = 116) := by
  rcases (show i = 0 ∨ i = 1 ∨ i = 2 ∨ i = 3 by omega) with rfl | rfl | rfl | rfl
  · exact Or.inl ⟨rfl, rfl⟩
  · exact Or.inr (Or.inl ⟨rfl, rfl⟩)
  · exact Or.inr (Or.inr (Or.inl ⟨rfl, rfl⟩))
  · exact Or.inr (Or.inr (Or.inr ⟨rfl, rfl⟩))

set_option maxHeartbeats 4000000 in
set_option maxRecDepth 100000 in
/-- put -/
theorem lc_put {G : jG} {X : jX} {k n : Nat} {post : Option Value → va_W → Prop} (hX : jOK G X RL cL_law wsL_law (some .boolean) 18 2048 603079 7285465 post) (hH : jTL X) (hG : G.1.stackTraces = false) (hk : k + 440 ≤ 603079 ∧ n + 3000 ≤ 7285465) {b bg : Nat} {sS kI vI kd wat : Int32} {bef : Int64} {wn : Nat} (hwn : wn < 2 ^ 30) {gs : Nat → Int32} {V : Nat → Int32} {M : Nat → Nat → Int32} {os : Nat → ofr} {V' : Nat → Int32} {M' : Nat → Nat → Int32} {t : Int64} {a o c : Nat} (ad : Nat → Nat) (h : RX V M os V' M' t a o c) (hL : LE9 V) (hg : ∀ j, j < o → gs j = (os j).2 1) (hZ : wat = 0 ∨ (ST V M os V' M' t a o c ∧ bef = sumF os o (cb (M' 5) a) a (V, M))) (kk : ∀ (m : Nat) (its : Int32) (ws : va_W), HW G (ad 0) bg m ws → (¬ its < -1000 ∨ wat = 0 ∨ HZ G (ad 0) bg m bef ws) → jW G X (k + 300) (n + 2000) 694 [some (.ref b), some (.ref (ad 0)), some (.ref bg), some (.int (nI m)), some (.int sS), some (.int kI), some (.int vI), some (.int (nI wn)), some (.int wat), some (.long bef), none, some (.int its), none, none, none, none, none, none] [] ws) : jW G X k n 126 [some (.ref b), some (.ref (ad 0)), some (.ref bg), some (.int (nI a)), some (.int sS), some (.int kI), some (.int vI), some (.int (nI wn)), some (.int wat), some (.long bef), none, some (.int 0), some (.int kd), none, none, none, none, none] [] ((bg, .inl (G.2.2 0, 6, .inl gs)) :: (wC G ad V M (enO ad o) (wO ad os o))) := by
  obtain ⟨hsz, hn, hso, ho6, hos⟩ := rx_KS h
  have ha := h.1.2.1.2.2
  have h172 : jW G X k n 172 [some (.ref b), some (.ref (ad 0)), some (.ref bg), some (.int (nI a)), some (.int sS), some (.int kI), some (.int vI), some (.int (nI wn)), some (.int wat), some (.long bef), none, some (.int 0), some (.int kd), none, none, none, none, none] [] ((bg, .inl (G.2.2 0, 6, .inl gs)) :: (wC G ad V M (enO ad o) (wO ad os o))) := by
    refine j_iconst hX (v := 0) (by decide) dL_law_172 ?_
    refine j_istore hX (ls' := [some (.ref b), some (.ref (ad 0)), some (.ref bg), some (.int (nI a)), some (.int sS), some (.int kI), some (.int vI), some (.int (nI wn)), some (.int wat), some (.long bef), none, some (.int 0), some (.int kd), none, none, none, none, none]) dL_law_173 (Nat.le_of_ble_eq_true rfl) rfl rfl ?_
    refine j_iload_n hX dL_law_175 rfl ?_
    refine j_iload hX dL_law_176 rfl ?_
    refine j_if_lt_f hX (tgt := 204) dL_law_178 (by decide) (by decide) ?_
    refine j_aload_n hX dL_law_181 rfl ?_
    refine j_dVa hX (nA := 0) (cq := (RX11, TX11, 7)) (As := []) (st := [.int (nI a)]) (st' := [.int (V 2), .int (nI a)]) (ci := 12) (wa := [(bg, .inl (G.2.2 0, 6, .inl gs))]) (w0 := (wC G ad V M (enO ad o) (wO ad os o))) (w1 := (wC G ad V M (enO ad o) (wO ad os o))) rfl dL_law_182 (c_X11_items G ad V M (enO ad o) (wO ad os o)) gL_law_X11_items rfl (by decide +kernel) (wCg0 G ad V M (enO ad o) (wO ad os o)) (by decide) (Nat.le_of_ble_eq_true rfl) rfl (Nat.le_of_ble_eq_true rfl) rfl ⟨by omega, by omega⟩ rfl rfl ?_
    refine jW.top (y := nI (cb (M' 5) a)) hsz ?_
    by_cases hb0 : nI (cb (M' 5) a) ≤ 0
    · refine j_if_le_t hX (tgt := 204) dL_law_185 (by decide) hb0 ?_
      refine j_iconst hX (v := 0) (by decide) dL_law_204 ?_
      refine j_iadd hX dL_law_205 ?_
      refine jW.top (y := nI a) (Int32.add_zero _) ?_
      refine j_istore_n hX (ls' := [some (.ref b), some (.ref (ad 0)), some (.ref bg), some (.int (nI a)), some (.int sS), some (.int kI), some (.int vI), some (.int (nI wn)), some (.int wat), some (.long bef), none, some (.int 0), some (.int kd), none, none, none, none, none]) dL_law_206 (Nat.le_of_ble_eq_true rfl) rfl rfl ?_
      refine j_goto hX (tgt := 694) dL_law_207 (by decide) ?_
      refine jW.drop (ls' := [some (.ref b), some (.ref (ad 0)), some (.ref bg), some (.int (nI a)), some (.int sS), some (.int kI), some (.int vI), some (.int (nI wn)), some (.int wat), some (.long bef), none, some (.int 0), none, none, none, none, none, none]) ⟨Or.inr rfl, Or.inr rfl, Or.inr rfl, Or.inr rfl, Or.inr rfl, Or.inr rfl, Or.inr rfl, Or.inr rfl, Or.inr rfl, Or.inr rfl, Or.inr rfl, Or.inr rfl, Or.inl rfl, Or.inr rfl, Or.inr rfl, Or.inr rfl, Or.inr rfl, Or.inr rfl, trivial⟩ ?_
      refine jW.widen (k' := k + 300) (n' := n + 2000) (by omega) (by omega) ?_
      exact kk a 0 _ (HW_of h hL hg) (Or.inl (by decide))
    · refine j_if_le_f hX (tgt := 204) dL_law_185 (by decide) hb0 ?_
      refine j_aload_n hX dL_law_188 rfl ?_
      refine j_iload_n hX dL_law_189 rfl ?_
      refine j_iconst hX (v := 1) (by decide) dL_law_190 ?_
      refine j_callHa hX hH (nA := 3) (As := [.ref (ad 0), .int (nI a), .int 1]) (st := [.int (nI a)]) (wa := [(bg, .inl (G.2.2 0, 6, .inl gs))]) (w0 := (wC G ad V M (enO ad o) (wO ad os o))) dL_law_191 (d_item_no G hG ad h (Nat.le_refl a) (by omega)) gL_law_L_item rfl (by decide +kernel) (by decide) (Nat.le_of_ble_eq_true rfl) rfl (Nat.le_of_ble_eq_true rfl) ⟨by omega, by omega⟩ rfl rfl (fun rv191 w191 hp191 => ?_)
      obtain ⟨rfl, rfl⟩ := hp191
      show jW G X (k + 1) (n + 6) 194 [some (.ref b), some (.ref (ad 0)), some (.ref bg), some (.int (nI a)), some (.int sS), some (.int kI), some (.int vI), some (.int (nI wn)), some (.int wat), some (.long bef), none, some (.int 0), some (.int kd), none, none, none, none, none] [.int (-1001), .int (nI a)] ((bg, .inl (G.2.2 0, 6, .inl gs)) :: (wC G ad V M (enO ad o) (wO ad os o)))
      refine j_sipush hX (v := -1001) (by decide) dL_law_194 ?_
      refine j_icmp_eq_t hX (tgt := 204) dL_law_197 (by decide) rfl ?_
      refine j_iconst hX (v := 0) (by decide) dL_law_204 ?_
      refine j_iadd hX dL_law_205 ?_
      refine jW.top (y := nI a) (Int32.add_zero _) ?_
      refine j_istore_n hX (ls' := [some (.ref b), some (.ref (ad 0)), some (.ref bg), some (.int (nI a)), some (.int sS), some (.int kI), some (.int vI), some (.int (nI wn)), some (.int wat), some (.long bef), none, some (.int 0), some (.int kd), none, none, none, none, none]) dL_law_206 (Nat.le_of_ble_eq_true rfl) rfl rfl ?_
      refine j_goto hX (tgt := 694) dL_law_207 (by decide) ?_
      refine jW.drop (ls' := [some (.ref b), some (.ref (ad 0)), some (.ref bg), some (.int (nI a)), some (.int sS), some (.int kI), some (.int vI), some (.int (nI wn)), some (.int wat), some (.long bef), none, some (.int 0), none, none, none, none, none, none]) ⟨Or.inr rfl, Or.inr rfl, Or.inr rfl, Or.inr rfl, Or.inr rfl, Or.inr rfl, Or.inr rfl, Or.inr rfl, Or.inr rfl, Or.inr rfl, Or.inr rfl, Or.inr rfl, Or.inl rfl, Or.inr rfl, Or.inr rfl, Or.inr rfl, Or.inr rfl, Or.inr rfl, trivial⟩ ?_
      refine jW.widen (k' := k + 300) (n' := n + 2000) (by omega) (by omega) ?_
      exact kk a 0 _ (HW_of h hL hg) (Or.inl (by decide))
  have h151 : jW G X k n 151 [some (.ref b), some (.ref (ad 0)), some (.ref bg), some (.int (nI a)), some (.int sS), some (.int kI), some (.int vI), some (.int (nI wn)), some (.int wat), some (.long bef), none, some (.int 0), some (.int kd), none, none, none, none, none] [] ((bg, .inl (G.2.2 0, 6, .inl gs)) :: (wC G ad V M (enO ad o) (wO ad os o))) := by
    refine j_aload_n hX dL_law_151 rfl ?_
    refine j_iload hX dL_law_152 rfl ?_
    refine j_iconst hX (v := 3) (by decide) dL_law_154 ?_
    refine j_irem hX dL_law_155 (by decide) ?_
    refine j_iconst hX (v := 1) (by decide) dL_law_156 ?_
    refine j_iload hX dL_law_157 rfl ?_
    refine j_iconst hX (v := 3) (by decide) dL_law_159 ?_
    refine j_idiv hX dL_law_160 (by decide) ?_
    refine j_sipush hX (v := 400) (by decide) dL_law_161 ?_
    refine j_irem hX dL_law_164 (by decide) ?_
    refine j_iadd hX dL_law_165 ?_
    refine j_callHa hX hH (nA := 3) (As := [.ref (ad 0), .int (rm9 (nI wn) 3), .int (1 + (rm9 ((nI wn) / 3) 400))]) (st := []) (wa := [(bg, .inl (G.2.2 0, 6, .inl gs))]) (w0 := (wC G ad V M (enO ad o) (wO ad os o))) dL_law_166 (d_put G hG ad h hL (rm9 (nI wn) 3) (1 + (rm9 ((nI wn) / 3) 400))) gL_law_L_put rfl (by decide +kernel) (by decide) (Nat.le_of_ble_eq_true rfl) rfl (Nat.le_of_ble_eq_true rfl) ⟨by omega, by omega⟩ rfl rfl (fun rv166 w166 hp166 => ?_)
    rcases hp166 with ⟨W, N, W', N', rfl, rfl, hR, h98, hLW⟩ | ⟨z, rfl, hz, rfl⟩
    · show jW G X (k + 1) (n + 6) 169 [some (.ref b), some (.ref (ad 0)), some (.ref bg), some (.int (nI a)), some (.int sS), some (.int kI), some (.int vI), some (.int (nI wn)), some (.int wat), some (.long bef), none, some (.int 0), some (.int kd), none, none, none, none, none] [.int (nI a)] ((bg, .inl (G.2.2 0, 6, .inl gs)) :: (wC G ad W N (enO ad o) (wO ad os o)))
      obtain ⟨hszW, hnW, hsoW, ho6W, hosW⟩ := rx_KS hR
      refine j_goto hX (tgt := 173) dL_law_169 (by decide) ?_
      refine j_istore hX (ls' := [some (.ref b), some (.ref (ad 0)), some (.ref bg), some (.int (nI a)), some (.int sS), some (.int kI), some (.int vI), some (.int (nI wn)), some (.int wat), some (.long bef), none, some (.int (nI a)), some (.int kd), none, none, none, none, none]) dL_law_173 (Nat.le_of_ble_eq_true rfl) rfl rfl ?_
      refine j_iload_n hX dL_law_175 rfl ?_
      refine j_iload hX dL_law_176 rfl ?_
      refine j_if_lt_f hX (tgt := 204) dL_law_178 (by decide) (nI_pos (by omega)) ?_
      refine j_aload_n hX dL_law_181 rfl ?_
      refine j_dVa hX (nA := 0) (cq := (RX11, TX11, 7)) (As := []) (st := [.int (nI a)]) (st' := [.int (W 2), .int (nI a)]) (ci := 12) (wa := [(bg, .inl (G.2.2 0, 6, .inl gs))]) (w0 := (wC G ad W N (enO ad o) (wO ad os o))) (w1 := (wC G ad W N (enO ad o) (wO ad os o))) rfl dL_law_182 (c_X11_items G ad W N (enO ad o) (wO ad os o)) gL_law_X11_items rfl (by decide +kernel) (wCg0 G ad W N (enO ad o) (wO ad os o)) (by decide) (Nat.le_of_ble_eq_true rfl) rfl (Nat.le_of_ble_eq_true rfl) rfl ⟨by omega, by omega⟩ rfl rfl ?_
      refine j_if_le_f hX (tgt := 204) dL_law_185 (by decide) (by rw [hszW, nI_le0 (show cb (N' 5) (a + 1) < 2 ^ 31 by omega), cb, if_pos h98]; omega) ?_
      refine j_aload_n hX dL_law_188 rfl ?_
      refine j_iload_n hX dL_law_189 rfl ?_
      refine j_iconst hX (v := 1) (by decide) dL_law_190 ?_
      refine j_callHa hX hH (nA := 3) (As := [.ref (ad 0), .int (nI a), .int 1]) (st := [.int (nI a)]) (wa := [(bg, .inl (G.2.2 0, 6, .inl gs))]) (w0 := (wC G ad W N (enO ad o) (wO ad os o))) dL_law_191 (d_item_in G hG ad hR (Nat.lt_succ_self a) h98) gL_law_L_item rfl (by decide +kernel) (by decide) (Nat.le_of_ble_eq_true rfl) rfl (Nat.le_of_ble_eq_true rfl) ⟨by omega, by omega⟩ rfl rfl (fun rv191 w191 hp191 => ?_)
      obtain ⟨F, hF, rfl, rfl⟩ := hp191
      show jW G X (k + 1 + 1) (n + 6 + 6) 194 [some (.ref b), some (.ref (ad 0)), some (.ref bg), some (.int (nI a)), some (.int sS), some (.int kI), some (.int vI), some (.int (nI wn)), some (.int wat), some (.long bef), none, some (.int (nI a)), some (.int kd), none, none, none, none, none] [.int (nI F), .int (nI a)] ((bg, .inl (G.2.2 0, 6, .inl gs)) :: (wC G ad ((findF os o (cb (N' 5) (a + 1)) (W, N)).1) ((findF os o (cb (N' 5) (a + 1)) (W, N)).2) (enO ad o) (wO ad os o)))
      refine j_sipush hX (v := -1001) (by decide) dL_law_194 ?_
      refine j_icmp_eq_f hX (tgt := 204) dL_law_197 (by decide) (ne_1001 (by omega)) ?_
      refine j_iconst hX (v := 1) (by decide) dL_law_200 ?_
      refine j_goto hX (tgt := 205) dL_law_201 (by decide) ?_
      refine j_iadd hX dL_law_205 ?_
      refine jW.top (y := nI (a + 1)) (nI_1 a) ?_
      refine j_istore_n hX (ls' := [some (.ref b), some (.ref (ad 0)), some (.ref bg), some (.int (nI (a + 1))), some (.int sS), some (.int kI), some (.int vI), some (.int (nI wn)), some (.int wat), some (.long bef), none, some (.int (nI a)), some (.int kd), none, none, none, none, none]) dL_law_206 (Nat.le_of_ble_eq_true rfl) rfl rfl ?_
      refine j_goto hX (tgt := 694) dL_law_207 (by decide) ?_
      refine jW.drop (ls' := [some (.ref b), some (.ref (ad 0)), some (.ref bg), some (.int (nI (a + 1))), some (.int sS), some (.int kI), some (.int vI), some (.int (nI wn)), some (.int wat), some (.long bef), none, some (.int (nI a)), none, none, none, none, none, none]) ⟨Or.inr rfl, Or.inr rfl, Or.inr rfl, Or.inr rfl, Or.inr rfl, Or.inr rfl, Or.inr rfl, Or.inr rfl, Or.inr rfl, Or.inr rfl, Or.inr rfl, Or.inr rfl, Or.inl rfl, Or.inr rfl, Or.inr rfl, Or.inr rfl, Or.inr rfl, Or.inr rfl, trivial⟩ ?_
      refine jW.widen (k' := k + 300) (n' := n + 2000) (by omega) (by omega) ?_
      exact kk (a + 1) (nI a) _ (HW_find hR hLW hg) (Or.inl (nI_ge9 (by omega)))
    · show jW G X (k + 1) (n + 6) 169 [some (.ref b), some (.ref (ad 0)), some (.ref bg), some (.int (nI a)), some (.int sS), some (.int kI), some (.int vI), some (.int (nI wn)), some (.int wat), some (.long bef), none, some (.int 0), some (.int kd), none, none, none, none, none] [.int z] ((bg, .inl (G.2.2 0, 6, .inl gs)) :: (wC G ad V M (enO ad o) (wO ad os o)))
      refine j_goto hX (tgt := 173) dL_law_169 (by decide) ?_
      refine j_istore hX (ls' := [some (.ref b), some (.ref (ad 0)), some (.ref bg), some (.int (nI a)), some (.int sS), some (.int kI), some (.int vI), some (.int (nI wn)), some (.int wat), some (.long bef), none, some (.int z), some (.int kd), none, none, none, none, none]) dL_law_173 (Nat.le_of_ble_eq_true rfl) rfl rfl ?_
      refine j_iload_n hX dL_law_175 rfl ?_
      refine j_iload hX dL_law_176 rfl ?_
      refine j_if_lt_t hX (tgt := 204) dL_law_178 (by decide) hz ?_
      refine j_iconst hX (v := 0) (by decide) dL_law_204 ?_
      refine j_iadd hX dL_law_205 ?_
      refine jW.top (y := nI a) (Int32.add_zero _) ?_
      refine j_istore_n hX (ls' := [some (.ref b), some (.ref (ad 0)), some (.ref bg), some (.int (nI a)), some (.int sS), some (.int kI), some (.int vI), some (.int (nI wn)), some (.int wat), some (.long bef), none, some (.int z), some (.int kd), none, none, none, none, none]) dL_law_206 (Nat.le_of_ble_eq_true rfl) rfl rfl ?_
      refine j_goto hX (tgt := 694) dL_law_207 (by decide) ?_
      refine jW.drop (ls' := [some (.ref b), some (.ref (ad 0)), some (.ref bg), some (.int (nI a)), some (.int sS), some (.int kI), some (.int vI), some (.int (nI wn)), some (.int wat), some (.long bef), none, some (.int z), none, none, none, none, none, none]) ⟨Or.inr rfl, Or.inr rfl, Or.inr rfl, Or.inr rfl, Or.inr rfl, Or.inr rfl, Or.inr rfl, Or.inr rfl, Or.inr rfl, Or.inr rfl, Or.inr rfl, Or.inr rfl, Or.inl rfl, Or.inr rfl, Or.inr rfl, Or.inr rfl, Or.inr rfl, Or.inr rfl, trivial⟩ ?_
      refine jW.widen (k' := k + 300) (n' := n + 2000) (by omega) (by omega) ?_
      exact kk a z _ (HW_of h hL hg) (Or.inr (HZ_of hL hg hZ))
  refine j_aload_n hX dL_law_126 rfl ?_
  refine j_dVa hX (nA := 0) (cq := (RX11, TX11, 7)) (As := []) (st := []) (st' := [.int (V 2)]) (ci := 12) (wa := [(bg, .inl (G.2.2 0, 6, .inl gs))]) (w0 := (wC G ad V M (enO ad o) (wO ad os o))) (w1 := (wC G ad V M (enO ad o) (wO ad os o))) rfl dL_law_127 (c_X11_items G ad V M (enO ad o) (wO ad os o)) gL_law_X11_items rfl (by decide +kernel) (wCg0 G ad V M (enO ad o) (wO ad os o)) (by decide) (Nat.le_of_ble_eq_true rfl) rfl (Nat.le_of_ble_eq_true rfl) rfl ⟨by omega, by omega⟩ rfl rfl ?_
  refine jW.top (y := nI (cb (M' 5) a)) hsz ?_
  refine j_iconst hX (v := 5) (by decide) dL_law_130 ?_
  refine j_icmp_lt hX (tgt := 151) dL_law_131 (by decide) (fun _ => h151) (fun _ => ?_)
  refine j_iload hX dL_law_134 rfl ?_
  refine j_bipush hX (v := 7) (by decide) dL_law_136 ?_
  refine j_irem hX dL_law_138 (by decide) ?_
  refine j_if_ne hX (tgt := 172) dL_law_139 (by decide) (fun _ => h172) (fun _ => ?_)
  refine j_aload_n hX dL_law_142 rfl ?_
  refine j_dVa hX (nA := 0) (cq := (RX11, TX11, 7)) (As := []) (st := []) (st' := [.int (V 2)]) (ci := 12) (wa := [(bg, .inl (G.2.2 0, 6, .inl gs))]) (w0 := (wC G ad V M (enO ad o) (wO ad os o))) (w1 := (wC G ad V M (enO ad o) (wO ad os o))) rfl dL_law_143 (c_X11_items G ad V M (enO ad o) (wO ad os o)) gL_law_X11_items rfl (by decide +kernel) (wCg0 G ad V M (enO ad o) (wO ad os o)) (by decide) (Nat.le_of_ble_eq_true rfl) rfl (Nat.le_of_ble_eq_true rfl) rfl ⟨by omega, by omega⟩ rfl rfl ?_
  refine jW.top (y := nI (cb (M' 5) a)) hsz ?_
  refine j_bipush hX (v := 6) (by decide) dL_law_146 ?_
  refine j_icmp_ge hX (tgt := 172) dL_law_148 (by decide) (fun _ => h172) (fun _ => ?_)
  exact h151

set_option maxHeartbeats 4000000 in
set_option maxRecDepth 100000 in
/-- takeOut -/
theorem lc_out {G : jG} {X : jX} {k n : Nat} {post : Option Value → va_W → Prop} (hX : jOK G X RL cL_law wsL_law (some .boolean) 18 2048 603079 7285465 post) (hH : jTL X) (hG : G.1.stackTraces = false) (hk : k + 440 ≤ 603079 ∧ n + 3000 ≤ 7285465) {b bg : Nat} {sS kI vI kd wat : Int32} {bef : Int64} {wn : Nat} (hwn : wn < 2 ^ 30) {gs : Nat → Int32} {V : Nat → Int32} {M : Nat → Nat → Int32} {os : Nat → ofr} {V' : Nat → Int32} {M' : Nat → Nat → Int32} {t : Int64} {a o c : Nat} (ad : Nat → Nat) (h : RX V M os V' M' t a o c) (hL : LE9 V) (hg : ∀ j, j < o → gs j = (os j).2 1) (hZ : wat = 0 ∨ (ST V M os V' M' t a o c ∧ bef = sumF os o (cb (M' 5) a) a (V, M))) (kk : ∀ (m : Nat) (its : Int32) (ws : va_W), HW G (ad 0) bg m ws → (¬ its < -1000 ∨ wat = 0 ∨ HZ G (ad 0) bg m bef ws) → jW G X (k + 300) (n + 2000) 694 [some (.ref b), some (.ref (ad 0)), some (.ref bg), some (.int (nI m)), some (.int sS), some (.int kI), some (.int vI), some (.int (nI wn)), some (.int wat), some (.long bef), none, some (.int its), none, none, none, none, none, none] [] ws) : jW G X k n 217 [some (.ref b), some (.ref (ad 0)), some (.ref bg), some (.int (nI a)), some (.int sS), some (.int kI), some (.int vI), some (.int (nI wn)), some (.int wat), some (.long bef), none, some (.int 0), some (.int kd), none, none, none, none, none] [] ((bg, .inl (G.2.2 0, 6, .inl gs)) :: (wC G ad V M (enO ad o) (wO ad os o))) := by
  obtain ⟨hsz, hn, hso, ho6, hos⟩ := rx_KS h
  have ha := h.1.2.1.2.2
  refine j_aload_n hX dL_law_217 rfl ?_
  refine j_iload hX dL_law_218 rfl ?_
  refine j_iconst hX (v := 1) (by decide) dL_law_220 ?_
  refine j_iload_n hX dL_law_221 rfl ?_
  refine j_mmax hX dL_law_222 (by decide +kernel) (by decide +kernel) (by decide +kernel) (by decide +kernel) (by decide) rfl (Nat.le_of_ble_eq_true rfl) ⟨by omega, by omega⟩ ?_
  refine j_irem hX dL_law_225 (mx_ne a (by omega)) ?_
  refine j_callHa hX hH (nA := 2) (As := [.ref (ad 0), .int (rm9 (nI wn) (if 1 < (nI a) then (nI a) else 1))]) (st := []) (wa := [(bg, .inl (G.2.2 0, 6, .inl gs))]) (w0 := (wC G ad V M (enO ad o) (wO ad os o))) dL_law_226 (d_out G hG ad h hL (rm9 (nI wn) (if 1 < (nI a) then (nI a) else 1))) gL_law_L_out rfl (by decide +kernel) (by decide) (Nat.le_of_ble_eq_true rfl) rfl (Nat.le_of_ble_eq_true rfl) ⟨by omega, by omega⟩ rfl rfl (fun rv226 w226 hp226 => ?_)
  rcases hp226 with ⟨W, N, z, rfl, hz, rfl, hI⟩ | ⟨z, rfl, hz, rfl⟩
  · show jW G X (k + 1) (n + 6) 229 [some (.ref b), some (.ref (ad 0)), some (.ref bg), some (.int (nI a)), some (.int sS), some (.int kI), some (.int vI), some (.int (nI wn)), some (.int wat), some (.long bef), none, some (.int 0), some (.int kd), none, none, none, none, none] [.int z] ((bg, .inl (G.2.2 0, 6, .inl gs)) :: (wC G ad W N (enO ad o) (wO ad os o)))
    refine j_istore hX (ls' := [some (.ref b), some (.ref (ad 0)), some (.ref bg), some (.int (nI a)), some (.int sS), some (.int kI), some (.int vI), some (.int (nI wn)), some (.int wat), some (.long bef), none, some (.int z), some (.int kd), none, none, none, none, none]) dL_law_229 (Nat.le_of_ble_eq_true rfl) rfl rfl ?_
    refine j_goto hX (tgt := 694) dL_law_231 (by decide) ?_
    refine jW.drop (ls' := [some (.ref b), some (.ref (ad 0)), some (.ref bg), some (.int (nI a)), some (.int sS), some (.int kI), some (.int vI), some (.int (nI wn)), some (.int wat), some (.long bef), none, some (.int z), none, none, none, none, none, none]) ⟨Or.inr rfl, Or.inr rfl, Or.inr rfl, Or.inr rfl, Or.inr rfl, Or.inr rfl, Or.inr rfl, Or.inr rfl, Or.inr rfl, Or.inr rfl, Or.inr rfl, Or.inr rfl, Or.inl rfl, Or.inr rfl, Or.inr rfl, Or.inr rfl, Or.inr rfl, Or.inr rfl, trivial⟩ ?_
    refine jW.widen (k' := k + 300) (n' := n + 2000) (by omega) (by omega) ?_
    exact kk a z _ (HW_iv hI hg) (Or.inl hz)
  · show jW G X (k + 1) (n + 6) 229 [some (.ref b), some (.ref (ad 0)), some (.ref bg), some (.int (nI a)), some (.int sS), some (.int kI), some (.int vI), some (.int (nI wn)), some (.int wat), some (.long bef), none, some (.int 0), some (.int kd), none, none, none, none, none] [.int z] ((bg, .inl (G.2.2 0, 6, .inl gs)) :: (wC G ad V M (enO ad o) (wO ad os o)))
    refine j_istore hX (ls' := [some (.ref b), some (.ref (ad 0)), some (.ref bg), some (.int (nI a)), some (.int sS), some (.int kI), some (.int vI), some (.int (nI wn)), some (.int wat), some (.long bef), none, some (.int z), some (.int kd), none, none, none, none, none]) dL_law_229 (Nat.le_of_ble_eq_true rfl) rfl rfl ?_
    refine j_goto hX (tgt := 694) dL_law_231 (by decide) ?_
    refine jW.drop (ls' := [some (.ref b), some (.ref (ad 0)), some (.ref bg), some (.int (nI a)), some (.int sS), some (.int kI), some (.int vI), some (.int (nI wn)), some (.int wat), some (.long bef), none, some (.int z), none, none, none, none, none, none]) ⟨Or.inr rfl, Or.inr rfl, Or.inr rfl, Or.inr rfl, Or.inr rfl, Or.inr rfl, Or.inr rfl, Or.inr rfl, Or.inr rfl, Or.inr rfl, Or.inr rfl, Or.inr rfl, Or.inl rfl, Or.inr rfl, Or.inr rfl, Or.inr rfl, Or.inr rfl, Or.inr rfl, trivial⟩ ?_
    refine jW.widen (k' := k + 300) (n' := n + 2000) (by omega) (by omega) ?_
    exact kk a z _ (HW_of h hL hg) (Or.inr (HZ_of hL hg hZ))

set_option maxHeartbeats 4000000 in
set_option maxRecDepth 100000 in
/-- setCustomer -/
theorem lc_cust {G : jG} {X : jX} {k n : Nat} {post : Option Value → va_W → Prop} (hX : jOK G X RL cL_law wsL_law (some .boolean) 18 2048 603079 7285465 post) (hH : jTL X) (hG : G.1.stackTraces = false) (hk : k + 440 ≤ 603079 ∧ n + 3000 ≤ 7285465) {b bg : Nat} {sS kI vI kd wat : Int32} {bef : Int64} {wn : Nat} (hwn : wn < 2 ^ 30) {gs : Nat → Int32} {V : Nat → Int32} {M : Nat → Nat → Int32} {os : Nat → ofr} {V' : Nat → Int32} {M' : Nat → Nat → Int32} {t : Int64} {a o c : Nat} (ad : Nat → Nat) (h : RX V M os V' M' t a o c) (hL : LE9 V) (hg : ∀ j, j < o → gs j = (os j).2 1) (hZ : wat = 0 ∨ (ST V M os V' M' t a o c ∧ bef = sumF os o (cb (M' 5) a) a (V, M))) (kk : ∀ (m : Nat) (its : Int32) (ws : va_W), HW G (ad 0) bg m ws → (¬ its < -1000 ∨ wat = 0 ∨ HZ G (ad 0) bg m bef ws) → jW G X (k + 300) (n + 2000) 694 [some (.ref b), some (.ref (ad 0)), some (.ref bg), some (.int (nI m)), some (.int sS), some (.int kI), some (.int vI), some (.int (nI wn)), some (.int wat), some (.long bef), none, some (.int its), none, none, none, none, none, none] [] ws) : jW G X k n 481 [some (.ref b), some (.ref (ad 0)), some (.ref bg), some (.int (nI a)), some (.int sS), some (.int kI), some (.int vI), some (.int (nI wn)), some (.int wat), some (.long bef), none, some (.int 0), some (.int kd), none, none, none, none, none] [] ((bg, .inl (G.2.2 0, 6, .inl gs)) :: (wC G ad V M (enO ad o) (wO ad os o))) := by
  obtain ⟨hsz, hn, hso, ho6, hos⟩ := rx_KS h
  have ha := h.1.2.1.2.2
  refine j_aload_n hX dL_law_481 rfl ?_
  refine j_iload hX dL_law_482 rfl ?_
  refine j_iconst hX (v := 4) (by decide) dL_law_484 ?_
  refine j_irem hX dL_law_485 (by decide) ?_
  refine j_callHa hX hH (nA := 2) (As := [.ref (ad 0), .int (rm9 (nI wn) 4)]) (st := []) (wa := [(bg, .inl (G.2.2 0, 6, .inl gs))]) (w0 := (wC G ad V M (enO ad o) (wO ad os o))) dL_law_486 (d_cust G hG ad h hL (rm9 (nI wn) 4)) gL_law_L_customer rfl (by decide +kernel) (by decide) (Nat.le_of_ble_eq_true rfl) rfl (Nat.le_of_ble_eq_true rfl) ⟨by omega, by omega⟩ rfl rfl (fun rv486 w486 hp486 => ?_)
  rcases hp486 with ⟨W, N, z, rfl, hz, rfl, hI⟩ | ⟨z, rfl, hz, rfl⟩
  · show jW G X (k + 1) (n + 6) 489 [some (.ref b), some (.ref (ad 0)), some (.ref bg), some (.int (nI a)), some (.int sS), some (.int kI), some (.int vI), some (.int (nI wn)), some (.int wat), some (.long bef), none, some (.int 0), some (.int kd), none, none, none, none, none] [.int z] ((bg, .inl (G.2.2 0, 6, .inl gs)) :: (wC G ad W N (enO ad o) (wO ad os o)))
    refine j_istore hX (ls' := [some (.ref b), some (.ref (ad 0)), some (.ref bg), some (.int (nI a)), some (.int sS), some (.int kI), some (.int vI), some (.int (nI wn)), some (.int wat), some (.long bef), none, some (.int z), some (.int kd), none, none, none, none, none]) dL_law_489 (Nat.le_of_ble_eq_true rfl) rfl rfl ?_
    refine j_goto hX (tgt := 694) dL_law_491 (by decide) ?_
    refine jW.drop (ls' := [some (.ref b), some (.ref (ad 0)), some (.ref bg), some (.int (nI a)), some (.int sS), some (.int kI), some (.int vI), some (.int (nI wn)), some (.int wat), some (.long bef), none, some (.int z), none, none, none, none, none, none]) ⟨Or.inr rfl, Or.inr rfl, Or.inr rfl, Or.inr rfl, Or.inr rfl, Or.inr rfl, Or.inr rfl, Or.inr rfl, Or.inr rfl, Or.inr rfl, Or.inr rfl, Or.inr rfl, Or.inl rfl, Or.inr rfl, Or.inr rfl, Or.inr rfl, Or.inr rfl, Or.inr rfl, trivial⟩ ?_
    refine jW.widen (k' := k + 300) (n' := n + 2000) (by omega) (by omega) ?_
    exact kk a z _ (HW_iv hI hg) (Or.inl hz)
  · show jW G X (k + 1) (n + 6) 489 [some (.ref b), some (.ref (ad 0)), some (.ref bg), some (.int (nI a)), some (.int sS), some (.int kI), some (.int vI), some (.int (nI wn)), some (.int wat), some (.long bef), none, some (.int 0), some (.int kd), none, none, none, none, none] [.int z] ((bg, .inl (G.2.2 0, 6, .inl gs)) :: (wC G ad V M (enO ad o) (wO ad os o)))
    refine j_istore hX (ls' := [some (.ref b), some (.ref (ad 0)), some (.ref bg), some (.int (nI a)), some (.int sS), some (.int kI), some (.int vI), some (.int (nI wn)), some (.int wat), some (.long bef), none, some (.int z), some (.int kd), none, none, none, none, none]) dL_law_489 (Nat.le_of_ble_eq_true rfl) rfl rfl ?_
    refine j_goto hX (tgt := 694) dL_law_491 (by decide) ?_
    refine jW.drop (ls' := [some (.ref b), some (.ref (ad 0)), some (.ref bg), some (.int (nI a)), some (.int sS), some (.int kI), some (.int vI), some (.int (nI wn)), some (.int wat), some (.long bef), none, some (.int z), none, none, none, none, none, none]) ⟨Or.inr rfl, Or.inr rfl, Or.inr rfl, Or.inr rfl, Or.inr rfl, Or.inr rfl, Or.inr rfl, Or.inr rfl, Or.inr rfl, Or.inr rfl, Or.inr rfl, Or.inr rfl, Or.inl rfl, Or.inr rfl, Or.inr rfl, Or.inr rfl, Or.inr rfl, Or.inr rfl, trivial⟩ ?_
    refine jW.widen (k' := k + 300) (n' := n + 2000) (by omega) (by omega) ?_
    exact kk a z _ (HW_of h hL hg) (Or.inr (HZ_of hL hg hZ))

set_option maxHeartbeats 4000000 in
set_option maxRecDepth 100000 in
/-- isSound -/
theorem lc_snd {G : jG} {X : jX} {k n : Nat} {post : Option Value → va_W → Prop} (hX : jOK G X RL cL_law wsL_law (some .boolean) 18 2048 603079 7285465 post) (hH : jTL X) (hG : G.1.stackTraces = false) (hk : k + 440 ≤ 603079 ∧ n + 3000 ≤ 7285465) {b bg : Nat} {sS kI vI kd wat : Int32} {bef : Int64} {wn : Nat} (hwn : wn < 2 ^ 30) {gs : Nat → Int32} {V : Nat → Int32} {M : Nat → Nat → Int32} {os : Nat → ofr} {V' : Nat → Int32} {M' : Nat → Nat → Int32} {t : Int64} {a o c : Nat} (ad : Nat → Nat) (h : RX V M os V' M' t a o c) (hL : LE9 V) (hg : ∀ j, j < o → gs j = (os j).2 1) (hZ : wat = 0 ∨ (ST V M os V' M' t a o c ∧ bef = sumF os o (cb (M' 5) a) a (V, M))) (kk : ∀ (m : Nat) (its : Int32) (ws : va_W), HW G (ad 0) bg m ws → (¬ its < -1000 ∨ wat = 0 ∨ HZ G (ad 0) bg m bef ws) → jW G X (k + 300) (n + 2000) 694 [some (.ref b), some (.ref (ad 0)), some (.ref bg), some (.int (nI m)), some (.int sS), some (.int kI), some (.int vI), some (.int (nI wn)), some (.int wat), some (.long bef), none, some (.int its), none, none, none, none, none, none] [] ws) : jW G X k n 683 [some (.ref b), some (.ref (ad 0)), some (.ref bg), some (.int (nI a)), some (.int sS), some (.int kI), some (.int vI), some (.int (nI wn)), some (.int wat), some (.long bef), none, some (.int 0), some (.int kd), none, none, none, none, none] [] ((bg, .inl (G.2.2 0, 6, .inl gs)) :: (wC G ad V M (enO ad o) (wO ad os o))) := by
  obtain ⟨hsz, hn, hso, ho6, hos⟩ := rx_KS h
  have ha := h.1.2.1.2.2
  refine j_aload_n hX dL_law_683 rfl ?_
  refine j_iload_n hX dL_law_684 rfl ?_
  refine j_aload_n hX dL_law_685 rfl ?_
  refine j_callHPa hX hH (nA := 3) (As := [.ref (ad 0), .int (nI a), .ref bg]) (st := []) (wa := []) (w0 := ((bg, .inl (G.2.2 0, 6, .inl gs)) :: (wC G ad V M (enO ad o) (wO ad os o)))) dL_law_686 (c_L_isSound G hG ad h hL hg) gL_law_L_isSound rfl (by decide +kernel) (by decide) (Nat.le_of_ble_eq_true rfl) rfl (Nat.le_of_ble_eq_true rfl) ⟨by omega, by omega⟩ rfl rfl (fun rv686 w686 hp686 => ?_)
  obtain ⟨rfl, W, N, W', N', t', uu, uf, rfl, hS, hLW⟩ := hp686
  show jW G X (k + 220) (n + 1320) 689 [some (.ref b), some (.ref (ad 0)), some (.ref bg), some (.int (nI a)), some (.int sS), some (.int kI), some (.int vI), some (.int (nI wn)), some (.int wat), some (.long bef), none, some (.int 0), some (.int kd), none, none, none, none, none] [.int 1] ((uu, .inl (G.2.2 0, 4, .inl uf)) :: (bg, .inl (G.2.2 0, 6, .inl gs)) :: (wC G ad W N (enO ad o) (wO ad os o)))
  refine jW.fewer (ws' := ((bg, .inl (G.2.2 0, 6, .inl gs)) :: (wC G ad W N (enO ad o) (wO ad os o)))) (List.sublist_cons_self _ _) ?_
  refine j_if_ne_t hX (tgt := 694) dL_law_689 (by decide) (by decide) ?_
  refine jW.drop (ls' := [some (.ref b), some (.ref (ad 0)), some (.ref bg), some (.int (nI a)), some (.int sS), some (.int kI), some (.int vI), some (.int (nI wn)), some (.int wat), some (.long bef), none, some (.int 0), none, none, none, none, none, none]) ⟨Or.inr rfl, Or.inr rfl, Or.inr rfl, Or.inr rfl, Or.inr rfl, Or.inr rfl, Or.inr rfl, Or.inr rfl, Or.inr rfl, Or.inr rfl, Or.inr rfl, Or.inr rfl, Or.inl rfl, Or.inr rfl, Or.inr rfl, Or.inr rfl, Or.inr rfl, Or.inr rfl, trivial⟩ ?_
  refine jW.widen (k' := k + 300) (n' := n + 2000) (by omega) (by omega) ?_
  exact kk a 0 _ (HW_of hS.1 hLW hg) (Or.inl (by decide))

set_option maxHeartbeats 4000000 in
set_option maxRecDepth 100000 in
/-- sell -/
theorem lc_sell {G : jG} {X : jX} {k n : Nat} {post : Option Value → va_W → Prop} (hX : jOK G X RL cL_law wsL_law (some .boolean) 18 2048 603079 7285465 post) (hH : jTL X) (hG : G.1.stackTraces = false) (hk : k + 440 ≤ 603079 ∧ n + 3000 ≤ 7285465) {b bg : Nat} {sS kI vI kd wat : Int32} {bef : Int64} {wn : Nat} (hwn : wn < 2 ^ 30) {gs : Nat → Int32} {V : Nat → Int32} {M : Nat → Nat → Int32} {os : Nat → ofr} {V' : Nat → Int32} {M' : Nat → Nat → Int32} {t : Int64} {a o c : Nat} (ad : Nat → Nat) (h : RX V M os V' M' t a o c) (hL : LE9 V) (hg : ∀ j, j < o → gs j = (os j).2 1) (hZ : wat = 0 ∨ (ST V M os V' M' t a o c ∧ bef = sumF os o (cb (M' 5) a) a (V, M))) (kk : ∀ (m : Nat) (its : Int32) (ws : va_W), HW G (ad 0) bg m ws → (¬ its < -1000 ∨ wat = 0 ∨ HZ G (ad 0) bg m bef ws) → jW G X (k + 300) (n + 2000) 694 [some (.ref b), some (.ref (ad 0)), some (.ref bg), some (.int (nI m)), some (.int sS), some (.int kI), some (.int vI), some (.int (nI wn)), some (.int wat), some (.long bef), none, some (.int its), none, none, none, none, none, none] [] ws) : jW G X k n 501 [some (.ref b), some (.ref (ad 0)), some (.ref bg), some (.int (nI a)), some (.int sS), some (.int kI), some (.int vI), some (.int (nI wn)), some (.int wat), some (.long bef), none, some (.int 0), some (.int kd), none, none, none, none, none] [] ((bg, .inl (G.2.2 0, 6, .inl gs)) :: (wC G ad V M (enO ad o) (wO ad os o))) := by
  obtain ⟨hsz, hn, hso, ho6, hos⟩ := rx_KS h
  have ha := h.1.2.1.2.2
  have hp0 := c_X11_toPay G ad V M os o (cb (M' 5) a) hsz hn hso ho6 hos
  obtain ⟨W1', N1', hS, e5, hZ1⟩ := z_find h hZ
  have hL1 : LE9 (findF os o (cb (M' 5) a) (V, M)).1 := LE9_find hL _
  have hpy := st_pay hS
  rw [e5] at hpy hZ1
  generalize (findF os o (cb (M' 5) a) (V, M)).1 = W1 at hp0 hS hL1 hpy hZ1
  generalize (findF os o (cb (M' 5) a) (V, M)).2 = N1 at hp0 hS hL1 hpy hZ1
  rw [hpy] at hp0
  obtain ⟨P, hPe⟩ : ∃ P, P = sm (fl a o c N1') (cb (M' 5) a) := ⟨_, rfl⟩
  have hPe2 : sm (fl a o c N1') (cb (N1' 5) a) = P := by rw [e5, hPe]
  have hP20 : P < 2 ^ 20 := by
    have h1 := st_sum hS
    have h2 := (bs_sum hS.1.1).2.2
    rw [hPe2] at h1
    omega
  rw [← hPe] at hp0
  have hpay : jD G 14 yX11_toPay wsX11_toPay [.ref (ad 0)] (wC G ad V M (enO ad o) (wO ad os o)) (some (.int (nI P))) (wC G ad W1 N1 (enO ad o) (wO ad os o)) := hp0
  have hZS := st_ZS hS
  have hso1 := hS.1.1.2.2.2.1.1
  obtain ⟨tn, htn⟩ : ∃ tn : Nat → Nat, ∀ j, j < o → ansU (W1, N1) (nI j) = nI (tn j) ∧ timesV W1 N1 (nI j) = nI (tn j) := by
    refine ⟨fun j => (timesV W1 N1 (nI j)).toNatClampNeg, fun j hj => ?_⟩
    obtain ⟨w, w1, w2, w3, -⟩ := st_uses hS hj
    have e9 : timesV W1 N1 (nI j) = nI (timesV W1 N1 (nI j)).toNatClampNeg := by rw [w1, nI_clamp (by omega)]
    exact ⟨(if_pos (xoff_in hso1 ho6 hj)).trans e9, e9⟩
  have h541 : jW G X (k + o) (n + 6 * o) 541 [some (.ref b), some (.ref (ad 0)), some (.ref bg), some (.int (nI a)), some (.int sS), some (.int kI), some (.int vI), some (.int (nI wn)), some (.int wat), some (.long bef), none, some (.int 0), some (.int kd), some (.int (nI P)), some (.int (nI (sm tn o))), none, none, none] [] ((bg, .inl (G.2.2 0, 6, .inl gs)) :: (wC G ad W1 N1 (enO ad o) (wO ad os o))) := by
    refine j_aload_n hX dL_law_541 rfl ?_
    refine j_dVa hX (nA := 0) (cq := (RX11, TX11, 7)) (As := []) (st := []) (st' := [.int (W1 14)]) (ci := 12) (wa := [(bg, .inl (G.2.2 0, 6, .inl gs))]) (w0 := (wC G ad W1 N1 (enO ad o) (wO ad os o))) (w1 := (wC G ad W1 N1 (enO ad o) (wO ad os o))) rfl dL_law_542 (c_X11_usesInAll G ad W1 N1 (enO ad o) (wO ad os o)) gL_law_X11_usesInAll rfl (by decide +kernel) (wCg0 G ad W1 N1 (enO ad o) (wO ad os o)) (by decide) (Nat.le_of_ble_eq_true rfl) rfl (Nat.le_of_ble_eq_true rfl) rfl ⟨by omega, by omega⟩ rfl rfl ?_
    refine j_istore hX (ls' := [some (.ref b), some (.ref (ad 0)), some (.ref bg), some (.int (nI a)), some (.int sS), some (.int kI), some (.int vI), some (.int (nI wn)), some (.int wat), some (.long bef), none, some (.int 0), some (.int kd), some (.int (nI P)), some (.int (nI (sm tn o))), some (.int (W1 14)), none, none]) dL_law_545 (Nat.le_of_ble_eq_true rfl) rfl rfl ?_
    refine j_aload_n hX dL_law_547 rfl ?_
    refine j_dVa hX (nA := 0) (cq := (RX11, TX11, 7)) (As := []) (st := []) (st' := [.long ((W1 12).toInt64 - (W1 13).toInt64)]) (ci := 12) (wa := [(bg, .inl (G.2.2 0, 6, .inl gs))]) (w0 := (wC G ad W1 N1 (enO ad o) (wO ad os o))) (w1 := (wC G ad W1 N1 (enO ad o) (wO ad os o))) rfl dL_law_548 (c_X11_turnover G ad W1 N1 (enO ad o) (wO ad os o)) gL_law_X11_turnover rfl (by decide +kernel) (wCg0 G ad W1 N1 (enO ad o) (wO ad os o)) (by decide) (Nat.le_of_ble_eq_true rfl) rfl (Nat.le_of_ble_eq_true rfl) rfl ⟨by omega, by omega⟩ rfl rfl ?_
    refine j_lstore hX (ls' := [some (.ref b), some (.ref (ad 0)), some (.ref bg), some (.int (nI a)), some (.int sS), some (.int kI), some (.int vI), some (.int (nI wn)), some (.int wat), some (.long bef), none, some (.int 0), some (.int kd), some (.int (nI P)), some (.int (nI (sm tn o))), some (.int (W1 14)), some (.long ((W1 12).toInt64 - (W1 13).toInt64)), none]) dL_law_551 (Nat.le_of_ble_eq_true rfl) rfl rfl ?_
    refine j_aload_n hX dL_law_553 rfl ?_
    refine j_callHa hX hH (nA := 1) (As := [.ref (ad 0)]) (st := []) (wa := [(bg, .inl (G.2.2 0, 6, .inl gs))]) (w0 := (wC G ad W1 N1 (enO ad o) (wO ad os o))) dL_law_554 (d_sell G hG ad hS hL1) gL_law_L_sell rfl (by decide +kernel) (by decide) (Nat.le_of_ble_eq_true rfl) rfl (Nat.le_of_ble_eq_true rfl) ⟨by omega, by omega⟩ rfl rfl (fun rv554 w554 hp554 => ?_)
    rcases hp554 with ⟨W, N, tn', rfl, rfl, hI, hW2, ht', e14', eT⟩ | ⟨z, rfl, hz, rfl⟩
    · rw [hPe2] at eT ⊢
      have e14 : W 14 = W1 14 + nI (sm tn o) := by
          rw [e14']
          exact congrArg (fun z => W1 14 + z) (isum_eq (fun j hj => (ht' j hj).symm.trans (htn j hj).2))
      show jW G X (k + o + 1) (n + 6 * o + 6) 557 [some (.ref b), some (.ref (ad 0)), some (.ref bg), some (.int (nI a)), some (.int sS), some (.int kI), some (.int vI), some (.int (nI wn)), some (.int wat), some (.long bef), none, some (.int 0), some (.int kd), some (.int (nI P)), some (.int (nI (sm tn o))), some (.int (W1 14)), some (.long ((W1 12).toInt64 - (W1 13).toInt64)), none] [.int (nI P)] ((bg, .inl (G.2.2 0, 6, .inl gs)) :: (wC G ad W N (enO ad o) (wO ad os o)))
      obtain ⟨⟨X1', Y1', t1, c1, hR⟩, hLW⟩ := hI
      obtain ⟨hn0, hb0⟩ := st_zero hR hW2
      obtain ⟨hszW, hnW, hsoW, ho6W, hosW⟩ := rx_KS hR
      have hbst := c_X11_bestDiscount G ad W N os o 0 (by rw [hW2]; exact nI_0.symm) (by decide) hsoW ho6W hosW
      rw [hb0] at hbst
      have hfin := HW_find (G := G) (bg := bg) (gs := gs) (ad := ad) hR hLW hg
      rw [hn0] at hfin
      refine j_istore hX (ls' := [some (.ref b), some (.ref (ad 0)), some (.ref bg), some (.int (nI a)), some (.int sS), some (.int kI), some (.int vI), some (.int (nI wn)), some (.int wat), some (.long bef), none, some (.int (nI P)), some (.int kd), some (.int (nI P)), some (.int (nI (sm tn o))), some (.int (W1 14)), some (.long ((W1 12).toInt64 - (W1 13).toInt64)), none]) dL_law_557 (Nat.le_of_ble_eq_true rfl) rfl rfl ?_
      refine j_iload hX dL_law_559 rfl ?_
      refine j_if_lt_f hX (tgt := 613) dL_law_561 (by decide) (nI_pos (by omega)) ?_
      refine j_iload hX dL_law_564 rfl ?_
      refine j_iload hX dL_law_566 rfl ?_
      refine j_icmp_ne_f hX (tgt := 611) dL_law_568 (by decide) rfl ?_
      refine j_aload_n hX dL_law_571 rfl ?_
      refine j_dVa hX (nA := 0) (cq := (RX11, TX11, 7)) (As := []) (st := []) (st' := [.int (W 14)]) (ci := 12) (wa := [(bg, .inl (G.2.2 0, 6, .inl gs))]) (w0 := (wC G ad W N (enO ad o) (wO ad os o))) (w1 := (wC G ad W N (enO ad o) (wO ad os o))) rfl dL_law_572 (c_X11_usesInAll G ad W N (enO ad o) (wO ad os o)) gL_law_X11_usesInAll rfl (by decide +kernel) (wCg0 G ad W N (enO ad o) (wO ad os o)) (by decide) (Nat.le_of_ble_eq_true rfl) rfl (Nat.le_of_ble_eq_true rfl) rfl ⟨by omega, by omega⟩ rfl rfl ?_
      refine jW.top (y := W1 14 + nI (sm tn o)) e14 ?_
      refine j_iload hX dL_law_575 rfl ?_
      refine j_iload hX dL_law_577 rfl ?_
      refine j_iadd hX dL_law_579 ?_
      refine j_icmp_ne_f hX (tgt := 611) dL_law_580 (by decide) rfl ?_
      refine j_aload_n hX dL_law_583 rfl ?_
      refine j_dVa hX (nA := 0) (cq := (RX11, TX11, 7)) (As := []) (st := []) (st' := [.long ((W 12).toInt64 - (W 13).toInt64)]) (ci := 12) (wa := [(bg, .inl (G.2.2 0, 6, .inl gs))]) (w0 := (wC G ad W N (enO ad o) (wO ad os o))) (w1 := (wC G ad W N (enO ad o) (wO ad os o))) rfl dL_law_584 (c_X11_turnover G ad W N (enO ad o) (wO ad os o)) gL_law_X11_turnover rfl (by decide +kernel) (wCg0 G ad W N (enO ad o) (wO ad os o)) (by decide) (Nat.le_of_ble_eq_true rfl) rfl (Nat.le_of_ble_eq_true rfl) rfl ⟨by omega, by omega⟩ rfl rfl ?_
      refine jW.stk (st' := [.long (((W1 12).toInt64 - (W1 13).toInt64) + (nI P).toInt64)]) (by rw [eT]) ?_
      refine j_lload hX dL_law_587 rfl ?_
      refine j_iload hX dL_law_589 rfl ?_
      refine j_i2l hX dL_law_591 ?_
      refine j_ladd hX dL_law_592 ?_
      refine j_lcmp hX dL_law_593 ?_
      refine j_if_ne_f hX (tgt := 611) dL_law_594 (by decide) (lg_self _) ?_
      refine j_aload_n hX dL_law_597 rfl ?_
      refine j_dVa hX (nA := 0) (cq := (RX11, TX11, 7)) (As := []) (st := []) (st' := [.int (W 2)]) (ci := 12) (wa := [(bg, .inl (G.2.2 0, 6, .inl gs))]) (w0 := (wC G ad W N (enO ad o) (wO ad os o))) (w1 := (wC G ad W N (enO ad o) (wO ad os o))) rfl dL_law_598 (c_X11_items G ad W N (enO ad o) (wO ad os o)) gL_law_X11_items rfl (by decide +kernel) (wCg0 G ad W N (enO ad o) (wO ad os o)) (by decide) (Nat.le_of_ble_eq_true rfl) rfl (Nat.le_of_ble_eq_true rfl) rfl ⟨by omega, by omega⟩ rfl rfl ?_
      refine jW.top (y := 0) hW2 ?_
      refine j_if_ne_f hX (tgt := 611) dL_law_601 (by decide) rfl ?_
      refine j_aload_n hX dL_law_604 rfl ?_
      refine j_dVa hX (nA := 0) (cq := (RX11, TX11, 7)) (As := []) (st := []) (st' := [.int 0]) (ci := 12) (wa := [(bg, .inl (G.2.2 0, 6, .inl gs))]) (w0 := (wC G ad W N (enO ad o) (wO ad os o))) (w1 := (wC G ad ((findF os o 0 (W, N)).1) ((findF os o 0 (W, N)).2) (enO ad o) (wO ad os o))) rfl dL_law_605 hbst gL_law_X11_bestDiscount rfl (by decide +kernel) (wCg0 G ad W N (enO ad o) (wO ad os o)) (by decide) (Nat.le_of_ble_eq_true rfl) rfl (Nat.le_of_ble_eq_true rfl) rfl ⟨by omega, by omega⟩ rfl rfl ?_
      refine j_if_eq_t hX (tgt := 613) dL_law_608 (by decide) rfl ?_
      refine j_goto hX (tgt := 694) dL_law_613 (by decide) ?_
      refine jW.drop (ls' := [some (.ref b), some (.ref (ad 0)), some (.ref bg), some (.int (nI a)), some (.int sS), some (.int kI), some (.int vI), some (.int (nI wn)), some (.int wat), some (.long bef), none, some (.int (nI P)), none, none, none, none, none, none]) ⟨Or.inr rfl, Or.inr rfl, Or.inr rfl, Or.inr rfl, Or.inr rfl, Or.inr rfl, Or.inr rfl, Or.inr rfl, Or.inr rfl, Or.inr rfl, Or.inr rfl, Or.inr rfl, Or.inl rfl, Or.inl rfl, Or.inl rfl, Or.inl rfl, Or.inl rfl, Or.inr rfl, trivial⟩ ?_
      refine jW.widen (k' := k + 300) (n' := n + 2000) (by omega) (by omega) ?_
      exact kk a (nI P) _ hfin (Or.inl (nI_ge9 (by omega)))
    · show jW G X (k + o + 1) (n + 6 * o + 6) 557 [some (.ref b), some (.ref (ad 0)), some (.ref bg), some (.int (nI a)), some (.int sS), some (.int kI), some (.int vI), some (.int (nI wn)), some (.int wat), some (.long bef), none, some (.int 0), some (.int kd), some (.int (nI P)), some (.int (nI (sm tn o))), some (.int (W1 14)), some (.long ((W1 12).toInt64 - (W1 13).toInt64)), none] [.int z] ((bg, .inl (G.2.2 0, 6, .inl gs)) :: (wC G ad W1 N1 (enO ad o) (wO ad os o)))
      refine j_istore hX (ls' := [some (.ref b), some (.ref (ad 0)), some (.ref bg), some (.int (nI a)), some (.int sS), some (.int kI), some (.int vI), some (.int (nI wn)), some (.int wat), some (.long bef), none, some (.int z), some (.int kd), some (.int (nI P)), some (.int (nI (sm tn o))), some (.int (W1 14)), some (.long ((W1 12).toInt64 - (W1 13).toInt64)), none]) dL_law_557 (Nat.le_of_ble_eq_true rfl) rfl rfl ?_
      refine j_iload hX dL_law_559 rfl ?_
      refine j_if_lt_t hX (tgt := 613) dL_law_561 (by decide) hz ?_
      refine j_goto hX (tgt := 694) dL_law_613 (by decide) ?_
      refine jW.drop (ls' := [some (.ref b), some (.ref (ad 0)), some (.ref bg), some (.int (nI a)), some (.int sS), some (.int kI), some (.int vI), some (.int (nI wn)), some (.int wat), some (.long bef), none, some (.int z), none, none, none, none, none, none]) ⟨Or.inr rfl, Or.inr rfl, Or.inr rfl, Or.inr rfl, Or.inr rfl, Or.inr rfl, Or.inr rfl, Or.inr rfl, Or.inr rfl, Or.inr rfl, Or.inr rfl, Or.inr rfl, Or.inl rfl, Or.inl rfl, Or.inl rfl, Or.inl rfl, Or.inl rfl, Or.inr rfl, trivial⟩ ?_
      refine jW.widen (k' := k + 300) (n' := n + 2000) (by omega) (by omega) ?_
      exact kk a z _ (HW_of hS.1 hL1 hg) (Or.inr (HZ_of (V' := W1') (M' := N1') (t := t) (c := c) hL1 hg (by rw [e5]; exact hZ1)))
  have LU : ∀ z j : Nat, j + z = o → jW G X (k + j) (n + 6 * j) 513 [some (.ref b), some (.ref (ad 0)), some (.ref bg), some (.int (nI a)), some (.int sS), some (.int kI), some (.int vI), some (.int (nI wn)), some (.int wat), some (.long bef), none, some (.int 0), some (.int kd), some (.int (nI P)), some (.int (nI (sm tn j))), some (.int (nI j)), none, none] [] ((bg, .inl (G.2.2 0, 6, .inl gs)) :: (wC G ad W1 N1 (enO ad o) (wO ad os o))) := by
    intro z
    induction z with
    | zero =>
      intro j hj
      have hin : j = o := by omega
      rw [hin]
      refine j_iload hX dL_law_513 rfl ?_
      refine j_aload_n hX dL_law_515 rfl ?_
      refine j_dVa hX (nA := 0) (cq := (RX11, TX11, 7)) (As := []) (st := [.int (nI o)]) (st' := [.int (W1 4), .int (nI o)]) (ci := 12) (wa := [(bg, .inl (G.2.2 0, 6, .inl gs))]) (w0 := (wC G ad W1 N1 (enO ad o) (wO ad os o))) (w1 := (wC G ad W1 N1 (enO ad o) (wO ad os o))) rfl dL_law_516 (c_X11_offers G ad W1 N1 (enO ad o) (wO ad os o)) gL_law_X11_offers rfl (by decide +kernel) (wCg0 G ad W1 N1 (enO ad o) (wO ad os o)) (by decide) (Nat.le_of_ble_eq_true rfl) rfl (Nat.le_of_ble_eq_true rfl) rfl ⟨by omega, by omega⟩ rfl rfl ?_
      refine jW.top (y := nI o) hso1 ?_
      refine j_icmp_ge_t hX (tgt := 541) dL_law_519 (by decide) (nI_le (Nat.le_refl _) (by omega)) ?_
      refine jW.drop (ls' := [some (.ref b), some (.ref (ad 0)), some (.ref bg), some (.int (nI a)), some (.int sS), some (.int kI), some (.int vI), some (.int (nI wn)), some (.int wat), some (.long bef), none, some (.int 0), some (.int kd), some (.int (nI P)), some (.int (nI (sm tn o))), none, none, none]) ⟨Or.inr rfl, Or.inr rfl, Or.inr rfl, Or.inr rfl, Or.inr rfl, Or.inr rfl, Or.inr rfl, Or.inr rfl, Or.inr rfl, Or.inr rfl, Or.inr rfl, Or.inr rfl, Or.inr rfl, Or.inr rfl, Or.inr rfl, Or.inl rfl, Or.inr rfl, Or.inr rfl, trivial⟩ ?_
      exact h541
    | succ z ih =>
      intro j hj
      have hin : j < o := by omega
      refine j_iload hX dL_law_513 rfl ?_
      refine j_aload_n hX dL_law_515 rfl ?_
      refine j_dVa hX (nA := 0) (cq := (RX11, TX11, 7)) (As := []) (st := [.int (nI j)]) (st' := [.int (W1 4), .int (nI j)]) (ci := 12) (wa := [(bg, .inl (G.2.2 0, 6, .inl gs))]) (w0 := (wC G ad W1 N1 (enO ad o) (wO ad os o))) (w1 := (wC G ad W1 N1 (enO ad o) (wO ad os o))) rfl dL_law_516 (c_X11_offers G ad W1 N1 (enO ad o) (wO ad os o)) gL_law_X11_offers rfl (by decide +kernel) (wCg0 G ad W1 N1 (enO ad o) (wO ad os o)) (by decide) (Nat.le_of_ble_eq_true rfl) rfl (Nat.le_of_ble_eq_true rfl) rfl ⟨by omega, by omega⟩ rfl rfl ?_
      refine jW.top (y := nI o) hso1 ?_
      refine j_icmp_ge_f hX (tgt := 541) dL_law_519 (by decide) (nI_ge hin (by omega)) ?_
      refine j_iload hX dL_law_522 rfl ?_
      refine j_aload_n hX dL_law_524 rfl ?_
      refine j_iload hX dL_law_525 rfl ?_
      refine j_bipush hX (v := 117) (by decide) dL_law_527 ?_
      refine j_callHa hX hH (nA := 3) (As := [.ref (ad 0), .int (nI j), .int 117]) (st := [.int (nI (sm tn j))]) (wa := [(bg, .inl (G.2.2 0, 6, .inl gs))]) (w0 := (wC G ad W1 N1 (enO ad o) (wO ad os o))) dL_law_529 (d_of_u G hG ad hZS (nI j)) gL_law_L_of rfl (by decide +kernel) (by decide) (Nat.le_of_ble_eq_true rfl) rfl (Nat.le_of_ble_eq_true rfl) ⟨by omega, by omega⟩ rfl rfl (fun rv529 w529 hp529 => ?_)
      obtain ⟨rfl, rfl⟩ := hp529
      show jW G X (k + j + 1) (n + 6 * j + 6) 532 [some (.ref b), some (.ref (ad 0)), some (.ref bg), some (.int (nI a)), some (.int sS), some (.int kI), some (.int vI), some (.int (nI wn)), some (.int wat), some (.long bef), none, some (.int 0), some (.int kd), some (.int (nI P)), some (.int (nI (sm tn j))), some (.int (nI j)), none, none] [.int (ansU (W1, N1) (nI j)), .int (nI (sm tn j))] ((bg, .inl (G.2.2 0, 6, .inl gs)) :: (wC G ad W1 N1 (enO ad o) (wO ad os o)))
      refine jW.top (y := nI (tn j)) (htn j hin).1 ?_
      refine j_iadd hX dL_law_532 ?_
      refine jW.top (y := nI (sm tn (j + 1))) (by rw [nI_add, sm]) ?_
      refine j_istore hX (ls' := [some (.ref b), some (.ref (ad 0)), some (.ref bg), some (.int (nI a)), some (.int sS), some (.int kI), some (.int vI), some (.int (nI wn)), some (.int wat), some (.long bef), none, some (.int 0), some (.int kd), some (.int (nI P)), some (.int (nI (sm tn (j + 1)))), some (.int (nI j)), none, none]) dL_law_533 (Nat.le_of_ble_eq_true rfl) rfl rfl ?_
      refine j_iinc hX (v := nI (j + 1)) (ls' := [some (.ref b), some (.ref (ad 0)), some (.ref bg), some (.int (nI a)), some (.int sS), some (.int kI), some (.int vI), some (.int (nI wn)), some (.int wat), some (.long bef), none, some (.int 0), some (.int kd), some (.int (nI P)), some (.int (nI (sm tn (j + 1)))), some (.int (nI (j + 1))), none, none]) dL_law_535 rfl (j_inc1 _) rfl rfl ?_
      refine j_goto hX (tgt := 513) dL_law_538 (by decide) ?_
      refine jW.widen (k' := k + (j + 1)) (n' := n + 6 * (j + 1)) (by omega) (by omega) ?_
      exact ih (j + 1) (by omega)
  refine j_aload_n hX dL_law_501 rfl ?_
  refine j_dVa hX (nA := 0) (cq := (RX11, TX11, 7)) (As := []) (st := []) (st' := [.int (nI P)]) (ci := 12) (wa := [(bg, .inl (G.2.2 0, 6, .inl gs))]) (w0 := (wC G ad V M (enO ad o) (wO ad os o))) (w1 := (wC G ad W1 N1 (enO ad o) (wO ad os o))) rfl dL_law_502 hpay gL_law_X11_toPay rfl (by decide +kernel) (wCg0 G ad V M (enO ad o) (wO ad os o)) (by decide) (Nat.le_of_ble_eq_true rfl) rfl (Nat.le_of_ble_eq_true rfl) rfl ⟨by omega, by omega⟩ rfl rfl ?_
  refine j_istore hX (ls' := [some (.ref b), some (.ref (ad 0)), some (.ref bg), some (.int (nI a)), some (.int sS), some (.int kI), some (.int vI), some (.int (nI wn)), some (.int wat), some (.long bef), none, some (.int 0), some (.int kd), some (.int (nI P)), none, none, none, none]) dL_law_505 (Nat.le_of_ble_eq_true rfl) rfl rfl ?_
  refine j_iconst hX (v := 0) (by decide) dL_law_507 ?_
  refine j_istore hX (ls' := [some (.ref b), some (.ref (ad 0)), some (.ref bg), some (.int (nI a)), some (.int sS), some (.int kI), some (.int vI), some (.int (nI wn)), some (.int wat), some (.long bef), none, some (.int 0), some (.int kd), some (.int (nI P)), some (.int 0), none, none, none]) dL_law_508 (Nat.le_of_ble_eq_true rfl) rfl rfl ?_
  refine j_iconst hX (v := 0) (by decide) dL_law_510 ?_
  refine j_istore hX (ls' := [some (.ref b), some (.ref (ad 0)), some (.ref bg), some (.int (nI a)), some (.int sS), some (.int kI), some (.int vI), some (.int (nI wn)), some (.int wat), some (.long bef), none, some (.int 0), some (.int kd), some (.int (nI P)), some (.int 0), some (.int 0), none, none]) dL_law_511 (Nat.le_of_ble_eq_true rfl) rfl rfl ?_
  exact LU o 0 (Nat.zero_add o)

set_option maxHeartbeats 4000000 in
set_option maxRecDepth 100000 in
/-- giveBack -/
theorem lc_back {G : jG} {X : jX} {k n : Nat} {post : Option Value → va_W → Prop} (hX : jOK G X RL cL_law wsL_law (some .boolean) 18 2048 603079 7285465 post) (hH : jTL X) (hG : G.1.stackTraces = false) (hk : k + 440 ≤ 603079 ∧ n + 3000 ≤ 7285465) {b bg : Nat} {sS kI vI kd wat : Int32} {bef : Int64} {wn : Nat} (hwn : wn < 2 ^ 30) {gs : Nat → Int32} {V : Nat → Int32} {M : Nat → Nat → Int32} {os : Nat → ofr} {V' : Nat → Int32} {M' : Nat → Nat → Int32} {t : Int64} {a o c : Nat} (ad : Nat → Nat) (h : RX V M os V' M' t a o c) (hL : LE9 V) (hg : ∀ j, j < o → gs j = (os j).2 1) (hZ : wat = 0 ∨ (ST V M os V' M' t a o c ∧ bef = sumF os o (cb (M' 5) a) a (V, M))) (kk : ∀ (m : Nat) (its : Int32) (ws : va_W), HW G (ad 0) bg m ws → (¬ its < -1000 ∨ wat = 0 ∨ HZ G (ad 0) bg m bef ws) → jW G X (k + 300) (n + 2000) 694 [some (.ref b), some (.ref (ad 0)), some (.ref bg), some (.int (nI m)), some (.int sS), some (.int kI), some (.int vI), some (.int (nI wn)), some (.int wat), some (.long bef), none, some (.int its), none, none, none, none, none, none] [] ws) : jW G X k n 623 [some (.ref b), some (.ref (ad 0)), some (.ref bg), some (.int (nI a)), some (.int sS), some (.int kI), some (.int vI), some (.int (nI wn)), some (.int wat), some (.long bef), none, some (.int 0), some (.int kd), none, none, none, none, none] [] ((bg, .inl (G.2.2 0, 6, .inl gs)) :: (wC G ad V M (enO ad o) (wO ad os o))) := by
  obtain ⟨hsz, hn, hso, ho6, hos⟩ := rx_KS h
  have ha := h.1.2.1.2.2
  refine j_iload hX dL_law_623 rfl ?_
  refine j_iconst hX (v := 1) (by decide) dL_law_625 ?_
  refine j_iload_n hX dL_law_626 rfl ?_
  refine j_mmax hX dL_law_627 (by decide +kernel) (by decide +kernel) (by decide +kernel) (by decide +kernel) (by decide) rfl (Nat.le_of_ble_eq_true rfl) ⟨by omega, by omega⟩ ?_
  refine j_irem hX dL_law_630 (mx_ne a (by omega)) ?_
  refine j_istore hX (ls' := [some (.ref b), some (.ref (ad 0)), some (.ref bg), some (.int (nI a)), some (.int sS), some (.int kI), some (.int vI), some (.int (nI wn)), some (.int wat), some (.long bef), none, some (.int 0), some (.int kd), some (.int (rm9 (nI wn) (if 1 < (nI a) then (nI a) else 1))), none, none, none, none]) dL_law_631 (Nat.le_of_ble_eq_true rfl) rfl rfl ?_
  refine j_aload_n hX dL_law_633 rfl ?_
  refine j_dVa hX (nA := 0) (cq := (RX11, TX11, 7)) (As := []) (st := []) (st' := [.long ((V 12).toInt64 - (V 13).toInt64)]) (ci := 12) (wa := [(bg, .inl (G.2.2 0, 6, .inl gs))]) (w0 := (wC G ad V M (enO ad o) (wO ad os o))) (w1 := (wC G ad V M (enO ad o) (wO ad os o))) rfl dL_law_634 (c_X11_turnover G ad V M (enO ad o) (wO ad os o)) gL_law_X11_turnover rfl (by decide +kernel) (wCg0 G ad V M (enO ad o) (wO ad os o)) (by decide) (Nat.le_of_ble_eq_true rfl) rfl (Nat.le_of_ble_eq_true rfl) rfl ⟨by omega, by omega⟩ rfl rfl ?_
  refine j_lstore hX (ls' := [some (.ref b), some (.ref (ad 0)), some (.ref bg), some (.int (nI a)), some (.int sS), some (.int kI), some (.int vI), some (.int (nI wn)), some (.int wat), some (.long bef), none, some (.int 0), some (.int kd), some (.int (rm9 (nI wn) (if 1 < (nI a) then (nI a) else 1))), some (.long ((V 12).toInt64 - (V 13).toInt64)), none, none, none]) dL_law_637 (Nat.le_of_ble_eq_true rfl) rfl rfl ?_
  refine j_aload_n hX dL_law_639 rfl ?_
  refine j_iload hX dL_law_640 rfl ?_
  refine j_callHa hX hH (nA := 2) (As := [.ref (ad 0), .int (rm9 (nI wn) (if 1 < (nI a) then (nI a) else 1))]) (st := []) (wa := [(bg, .inl (G.2.2 0, 6, .inl gs))]) (w0 := (wC G ad V M (enO ad o) (wO ad os o))) dL_law_642 (d_back G hG ad h hL (rm9 (nI wn) (if 1 < (nI a) then (nI a) else 1))) gL_law_L_back rfl (by decide +kernel) (by decide) (Nat.le_of_ble_eq_true rfl) rfl (Nat.le_of_ble_eq_true rfl) ⟨by omega, by omega⟩ rfl rfl (fun rv642 w642 hp642 => ?_)
  rcases hp642 with ⟨W, N, u, rfl, hu, rfl, hI, eT, hx⟩ | ⟨z, rfl, hz, rfl⟩
  · show jW G X (k + 1) (n + 6) 645 [some (.ref b), some (.ref (ad 0)), some (.ref bg), some (.int (nI a)), some (.int sS), some (.int kI), some (.int vI), some (.int (nI wn)), some (.int wat), some (.long bef), none, some (.int 0), some (.int kd), some (.int (rm9 (nI wn) (if 1 < (nI a) then (nI a) else 1))), some (.long ((V 12).toInt64 - (V 13).toInt64)), none, none, none] [.int (nI u)] ((bg, .inl (G.2.2 0, 6, .inl gs)) :: (wC G ad W N (enO ad o) (wO ad os o)))
    refine j_istore hX (ls' := [some (.ref b), some (.ref (ad 0)), some (.ref bg), some (.int (nI a)), some (.int sS), some (.int kI), some (.int vI), some (.int (nI wn)), some (.int wat), some (.long bef), none, some (.int (nI u)), some (.int kd), some (.int (rm9 (nI wn) (if 1 < (nI a) then (nI a) else 1))), some (.long ((V 12).toInt64 - (V 13).toInt64)), none, none, none]) dL_law_645 (Nat.le_of_ble_eq_true rfl) rfl rfl ?_
    refine j_iload hX dL_law_647 rfl ?_
    refine j_if_lt_f hX (tgt := 680) dL_law_649 (by decide) (nI_pos (by omega)) ?_
    refine j_aload_n hX dL_law_652 rfl ?_
    refine j_dVa hX (nA := 0) (cq := (RX11, TX11, 7)) (As := []) (st := []) (st' := [.long ((W 12).toInt64 - (W 13).toInt64)]) (ci := 12) (wa := [(bg, .inl (G.2.2 0, 6, .inl gs))]) (w0 := (wC G ad W N (enO ad o) (wO ad os o))) (w1 := (wC G ad W N (enO ad o) (wO ad os o))) rfl dL_law_653 (c_X11_turnover G ad W N (enO ad o) (wO ad os o)) gL_law_X11_turnover rfl (by decide +kernel) (wCg0 G ad W N (enO ad o) (wO ad os o)) (by decide) (Nat.le_of_ble_eq_true rfl) rfl (Nat.le_of_ble_eq_true rfl) rfl ⟨by omega, by omega⟩ rfl rfl ?_
    refine jW.stk (st' := [.long (((V 12).toInt64 - (V 13).toInt64) - (nI u).toInt64)]) (by rw [eT]) ?_
    refine j_lload hX dL_law_656 rfl ?_
    refine j_iload hX dL_law_658 rfl ?_
    refine j_i2l hX dL_law_660 ?_
    refine j_lsub hX dL_law_661 ?_
    refine j_lcmp hX dL_law_662 ?_
    refine j_if_ne_f hX (tgt := 678) dL_law_663 (by decide) (lg_self _) ?_
    refine j_aload_n hX dL_law_666 rfl ?_
    refine j_iload hX dL_law_667 rfl ?_
    refine j_callHa hX hH (nA := 2) (As := [.ref (ad 0), .int (rm9 (nI wn) (if 1 < (nI a) then (nI a) else 1))]) (st := []) (wa := [(bg, .inl (G.2.2 0, 6, .inl gs))]) (w0 := (wC G ad W N (enO ad o) (wO ad os o))) dL_law_669 (d_back2 G hG ad (rm9 (nI wn) (if 1 < (nI a) then (nI a) else 1)) hx) gL_law_L_back rfl (by decide +kernel) (by decide) (Nat.le_of_ble_eq_true rfl) rfl (Nat.le_of_ble_eq_true rfl) ⟨by omega, by omega⟩ rfl rfl (fun rv669 w669 hp669 => ?_)
    obtain ⟨rfl, rfl⟩ := hp669
    show jW G X (k + 1 + 1) (n + 6 + 6) 672 [some (.ref b), some (.ref (ad 0)), some (.ref bg), some (.int (nI a)), some (.int sS), some (.int kI), some (.int vI), some (.int (nI wn)), some (.int wat), some (.long bef), none, some (.int (nI u)), some (.int kd), some (.int (rm9 (nI wn) (if 1 < (nI a) then (nI a) else 1))), some (.long ((V 12).toInt64 - (V 13).toInt64)), none, none, none] [.int (-1002)] ((bg, .inl (G.2.2 0, 6, .inl gs)) :: (wC G ad W N (enO ad o) (wO ad os o)))
    refine j_sipush hX (v := -1002) (by decide) dL_law_672 ?_
    refine j_icmp_eq_t hX (tgt := 680) dL_law_675 (by decide) rfl ?_
    refine j_goto hX (tgt := 694) dL_law_680 (by decide) ?_
    refine jW.drop (ls' := [some (.ref b), some (.ref (ad 0)), some (.ref bg), some (.int (nI a)), some (.int sS), some (.int kI), some (.int vI), some (.int (nI wn)), some (.int wat), some (.long bef), none, some (.int (nI u)), none, none, none, none, none, none]) ⟨Or.inr rfl, Or.inr rfl, Or.inr rfl, Or.inr rfl, Or.inr rfl, Or.inr rfl, Or.inr rfl, Or.inr rfl, Or.inr rfl, Or.inr rfl, Or.inr rfl, Or.inr rfl, Or.inl rfl, Or.inl rfl, Or.inl rfl, Or.inr rfl, Or.inr rfl, Or.inr rfl, trivial⟩ ?_
    refine jW.widen (k' := k + 300) (n' := n + 2000) (by omega) (by omega) ?_
    exact kk a (nI u) _ (HW_iv hI hg) (Or.inl (nI_ge9 (by omega)))
  · show jW G X (k + 1) (n + 6) 645 [some (.ref b), some (.ref (ad 0)), some (.ref bg), some (.int (nI a)), some (.int sS), some (.int kI), some (.int vI), some (.int (nI wn)), some (.int wat), some (.long bef), none, some (.int 0), some (.int kd), some (.int (rm9 (nI wn) (if 1 < (nI a) then (nI a) else 1))), some (.long ((V 12).toInt64 - (V 13).toInt64)), none, none, none] [.int z] ((bg, .inl (G.2.2 0, 6, .inl gs)) :: (wC G ad V M (enO ad o) (wO ad os o)))
    refine j_istore hX (ls' := [some (.ref b), some (.ref (ad 0)), some (.ref bg), some (.int (nI a)), some (.int sS), some (.int kI), some (.int vI), some (.int (nI wn)), some (.int wat), some (.long bef), none, some (.int z), some (.int kd), some (.int (rm9 (nI wn) (if 1 < (nI a) then (nI a) else 1))), some (.long ((V 12).toInt64 - (V 13).toInt64)), none, none, none]) dL_law_645 (Nat.le_of_ble_eq_true rfl) rfl rfl ?_
    refine j_iload hX dL_law_647 rfl ?_
    refine j_if_lt_t hX (tgt := 680) dL_law_649 (by decide) hz ?_
    refine j_goto hX (tgt := 694) dL_law_680 (by decide) ?_
    refine jW.drop (ls' := [some (.ref b), some (.ref (ad 0)), some (.ref bg), some (.int (nI a)), some (.int sS), some (.int kI), some (.int vI), some (.int (nI wn)), some (.int wat), some (.long bef), none, some (.int z), none, none, none, none, none, none]) ⟨Or.inr rfl, Or.inr rfl, Or.inr rfl, Or.inr rfl, Or.inr rfl, Or.inr rfl, Or.inr rfl, Or.inr rfl, Or.inr rfl, Or.inr rfl, Or.inr rfl, Or.inr rfl, Or.inl rfl, Or.inl rfl, Or.inl rfl, Or.inr rfl, Or.inr rfl, Or.inr rfl, trivial⟩ ?_
    refine jW.widen (k' := k + 300) (n' := n + 2000) (by omega) (by omega) ?_
    exact kk a z _ (HW_of h hL hg) (Or.inr (HZ_of hL hg hZ))

set_option maxHeartbeats 4000000 in
set_option maxRecDepth 100000 in
theorem lc_off_p {G : jG} {X : jX} {k n : Nat} {post : Option Value → va_W → Prop} (hX : jOK G X RL cL_law wsL_law (some .boolean) 18 2048 603079 7285465 post) (hH : jTL X) (hG : G.1.stackTraces = false) (hk : k + 440 ≤ 603079 ∧ n + 3000 ≤ 7285465) {b bg : Nat} {sS kI vI kd wat : Int32} {bef : Int64} {wn : Nat} (hwn : wn < 2 ^ 30) {gs : Nat → Int32} {V : Nat → Int32} {M : Nat → Nat → Int32} {os : Nat → ofr} {V' : Nat → Int32} {M' : Nat → Nat → Int32} {t : Int64} {a o c : Nat} (ad : Nat → Nat) (h : RX V M os V' M' t a o c) (hL : LE9 V) (hg : ∀ j, j < o → gs j = (os j).2 1) (hZ : wat = 0 ∨ (ST V M os V' M' t a o c ∧ bef = sumF os o (cb (M' 5) a) a (V, M))) (kk : ∀ (m : Nat) (its : Int32) (ws : va_W), HW G (ad 0) bg m ws → (¬ its < -1000 ∨ wat = 0 ∨ HZ G (ad 0) bg m bef ws) → jW G X (k + 300) (n + 2000) 694 [some (.ref b), some (.ref (ad 0)), some (.ref bg), some (.int (nI m)), some (.int sS), some (.int kI), some (.int vI), some (.int (nI wn)), some (.int wat), some (.long bef), none, some (.int its), none, none, none, none, none, none] [] ws) : jW G X k n 252 [some (.ref b), some (.ref (ad 0)), some (.ref bg), some (.int (nI a)), some (.int sS), some (.int kI), some (.int vI), some (.int (nI wn)), some (.int wat), some (.long bef), none, some (.int 0), some (.int kd), some (.int 112), none, none, none, none] [] ((bg, .inl (G.2.2 0, 6, .inl gs)) :: (wC G ad V M (enO ad o) (wO ad os o))) := by
  obtain ⟨hsz, hn, hso, ho6, hos⟩ := rx_KS h
  have ha := h.1.2.1.2.2
  have hb0 := c_X11_bestDiscount G ad V M os o (cb (M' 5) a) hsz hn hso ho6 hos
  obtain ⟨W1', N1', hS, e5, hZ1⟩ := z_find h hZ
  have hL1 : LE9 (findF os o (cb (M' 5) a) (V, M)).1 := LE9_find hL _
  rw [e5] at hZ1
  generalize (findF os o (cb (M' 5) a) (V, M)).1 = W1 at hb0 hS hL1 hZ1
  generalize (findF os o (cb (M' 5) a) (V, M)).2 = N1 at hb0 hS hL1 hZ1
  have hbst : jD G 14 yX11_bestDiscount wsX11_bestDiscount [.ref (ad 0)] (wC G ad V M (enO ad o) (wO ad os o)) (some (.int (W1 6))) (wC G ad W1 N1 (enO ad o) (wO ad os o)) := hb0
  refine j_iload hX dL_law_252 rfl ?_
  refine j_bipush hX (v := 112) (by decide) dL_law_254 ?_
  refine j_icmp_ne_f hX (tgt := 287) dL_law_256 (by decide) rfl ?_
  refine j_iconst hX (v := 2) (by decide) dL_law_259 ?_
  refine j_newai hX (N := 2) dL_law_260 (by decide +kernel) (by decide) (by decide +kernel) (by decide) ⟨by omega, by omega⟩ (fun qn => ?_)
  refine jW.pm (ws' := ((qn, .inl (G.2.2 0, 2, .inl (fun _ => 0))) :: (bg, .inl (G.2.2 0, 6, .inl gs)) :: (wC G ad V M (enO ad o) (wO ad os o)))) (List.perm_append_singleton _ _) ?_
  refine j_dup hX dL_law_262 rfl ?_
  refine j_iconst hX (v := 0) (by decide) dL_law_263 ?_
  refine j_iload hX dL_law_264 rfl ?_
  refine j_iconst hX (v := 4) (by decide) dL_law_266 ?_
  refine j_idiv hX dL_law_267 (by decide) ?_
  refine j_iconst hX (v := 3) (by decide) dL_law_268 ?_
  refine j_irem hX dL_law_269 (by decide) ?_
  refine j_iast hX (ws' := ((qn, .inl (G.2.2 0, 2, .inl (upd (fun _ => 0) 0 (rm9 ((nI wn) / 4) 3)))) :: (bg, .inl (G.2.2 0, 6, .inl gs)) :: (wC G ad V M (enO ad o) (wO ad os o)))) dL_law_270 0 rfl (by unfold vp_in; decide +kernel) rfl ?_
  refine j_dup hX dL_law_271 rfl ?_
  refine j_iconst hX (v := 1) (by decide) dL_law_272 ?_
  refine j_iconst hX (v := 1) (by decide) dL_law_273 ?_
  refine j_iload hX dL_law_274 rfl ?_
  refine j_bipush hX (v := 12) (by decide) dL_law_276 ?_
  refine j_idiv hX dL_law_278 (by decide) ?_
  refine j_bipush hX (v := 90) (by decide) dL_law_279 ?_
  refine j_irem hX dL_law_281 (by decide) ?_
  refine j_iadd hX dL_law_282 ?_
  refine j_iast hX (ws' := ((qn, .inl (G.2.2 0, 2, .inl (upd (upd (fun _ => 0) 0 (rm9 ((nI wn) / 4) 3)) 1 (1 + (rm9 ((nI wn) / 12) 90))))) :: (bg, .inl (G.2.2 0, 6, .inl gs)) :: (wC G ad V M (enO ad o) (wO ad os o)))) dL_law_283 0 rfl (by unfold vp_in; decide +kernel) rfl ?_
  refine j_goto hX (tgt := 410) dL_law_284 (by decide) ?_
  refine j_astore hX (ls' := [some (.ref b), some (.ref (ad 0)), some (.ref bg), some (.int (nI a)), some (.int sS), some (.int kI), some (.int vI), some (.int (nI wn)), some (.int wat), some (.long bef), none, some (.int 0), some (.int kd), some (.int 112), some (.ref qn), none, none, none]) dL_law_410 (Nat.le_of_ble_eq_true rfl) rfl rfl ?_
  refine j_iload hX dL_law_412 rfl ?_
  refine j_bipush hX (v := 17) (by decide) dL_law_414 ?_
  refine j_idiv hX dL_law_416 (by decide) ?_
  refine j_iconst hX (v := 5) (by decide) dL_law_417 ?_
  refine j_irem hX dL_law_418 (by decide) ?_
  refine j_iconst hX (v := 1) (by decide) dL_law_419 ?_
  refine j_isub hX dL_law_420 ?_
  refine j_istore hX (ls' := [some (.ref b), some (.ref (ad 0)), some (.ref bg), some (.int (nI a)), some (.int sS), some (.int kI), some (.int vI), some (.int (nI wn)), some (.int wat), some (.long bef), none, some (.int 0), some (.int kd), some (.int 112), some (.ref qn), some (.int ((rm9 ((nI wn) / 17) 5) - 1)), none, none]) dL_law_421 (Nat.le_of_ble_eq_true rfl) rfl rfl ?_
  refine j_aload_n hX dL_law_423 rfl ?_
  refine j_dVa hX (nA := 0) (cq := (RX11, TX11, 7)) (As := []) (st := []) (st' := [.int (W1 6)]) (ci := 12) (wa := [(qn, .inl (G.2.2 0, 2, .inl (upd (upd (fun _ => 0) 0 (rm9 ((nI wn) / 4) 3)) 1 (1 + (rm9 ((nI wn) / 12) 90))))), (bg, .inl (G.2.2 0, 6, .inl gs))]) (w0 := (wC G ad V M (enO ad o) (wO ad os o))) (w1 := (wC G ad W1 N1 (enO ad o) (wO ad os o))) rfl dL_law_424 hbst gL_law_X11_bestDiscount rfl (by decide +kernel) (wCg0 G ad V M (enO ad o) (wO ad os o)) (by decide) (Nat.le_of_ble_eq_true rfl) rfl (Nat.le_of_ble_eq_true rfl) rfl ⟨by omega, by omega⟩ rfl rfl ?_
  refine j_istore hX (ls' := [some (.ref b), some (.ref (ad 0)), some (.ref bg), some (.int (nI a)), some (.int sS), some (.int kI), some (.int vI), some (.int (nI wn)), some (.int wat), some (.long bef), none, some (.int 0), some (.int kd), some (.int 112), some (.ref qn), some (.int ((rm9 ((nI wn) / 17) 5) - 1)), some (.int (W1 6)), none]) dL_law_427 (Nat.le_of_ble_eq_true rfl) rfl rfl ?_
  refine jW.pm (ws' := ((bg, .inl (G.2.2 0, 6, .inl gs)) :: (qn, .inl (G.2.2 0, 2, .inl (upd (upd (fun _ => 0) 0 (rm9 ((nI wn) / 4) 3)) 1 (1 + (rm9 ((nI wn) / 12) 90))))) :: (wC G ad W1 N1 (enO ad o) (wO ad os o)))) (List.Perm.swap _ _ _) ?_
  refine j_aload_n hX dL_law_429 rfl ?_
  refine j_iload hX dL_law_430 rfl ?_
  refine j_aload hX dL_law_432 rfl ?_
  refine j_iconst hX (v := 1) (by decide) dL_law_434 ?_
  refine j_iload hX dL_law_435 rfl ?_
  refine j_iconst hX (v := 5) (by decide) dL_law_437 ?_
  refine j_idiv hX dL_law_438 (by decide) ?_
  refine j_iconst hX (v := 4) (by decide) dL_law_439 ?_
  refine j_irem hX dL_law_440 (by decide) ?_
  refine j_iadd hX dL_law_441 ?_
  refine j_iload hX dL_law_442 rfl ?_
  refine j_callHa hX hH (nA := 5) (As := [.ref (ad 0), .int 112, .ref qn, .int (1 + (rm9 ((nI wn) / 5) 4)), .int ((rm9 ((nI wn) / 17) 5) - 1)]) (st := []) (wa := [(bg, .inl (G.2.2 0, 6, .inl gs))]) (w0 := ((qn, .inl (G.2.2 0, 2, .inl (upd (upd (fun _ => 0) 0 (rm9 ((nI wn) / 4) 3)) 1 (1 + (rm9 ((nI wn) / 12) 90))))) :: (wC G ad W1 N1 (enO ad o) (wO ad os o)))) dL_law_444 (d_offer_p G hG ad hS.1 hL1 (by unfold vp_in; decide +kernel) (by unfold vp_in; decide +kernel) (1 + (rm9 ((nI wn) / 5) 4)) ((rm9 ((nI wn) / 17) 5) - 1)) gL_law_L_offer rfl (by decide +kernel) (by decide) (Nat.le_of_ble_eq_true rfl) rfl (Nat.le_of_ble_eq_true rfl) ⟨by omega, by omega⟩ rfl rfl (fun rv444 w444 hp444 => ?_)
  rcases hp444 with ⟨W, N, X1', Y1', os', q, rfl, rfl, hR, hAd, hLW, hos', hgr⟩ | ⟨z, rfl, hz, rfl⟩
  · have ho5 : o < 6 := by
      have := hR.1.2.2.2.1.2.2
      omega
    show jW G X (k + 1 + 1) (n + 2 + 6) 447 [some (.ref b), some (.ref (ad 0)), some (.ref bg), some (.int (nI a)), some (.int sS), some (.int kI), some (.int vI), some (.int (nI wn)), some (.int wat), some (.long bef), none, some (.int 0), some (.int kd), some (.int 112), some (.ref qn), some (.int ((rm9 ((nI wn) / 17) 5) - 1)), some (.int (W1 6)), none] [.int (nI o)] ((bg, .inl (G.2.2 0, 6, .inl gs)) :: (qn, .inl (G.2.2 0, 2, .inl (upd (upd (fun _ => 0) 0 (rm9 ((nI wn) / 4) 3)) 1 (1 + (rm9 ((nI wn) / 12) 90))))) :: (wC G (adU ad o q) W N (enO (adU ad o q) (o + 1)) (wO (adU ad o q) os' (o + 1))))
    obtain ⟨hszW, hnW, hsoW, ho6W, hosW⟩ := rx_KS hR
    have hmore := st_more hS hR hAd
    have n5 := hAd.1.2.2.1
    rw [n5] at hszW hnW
    rw [e5] at hszW hnW hmore
    have hbst2 := c_X11_bestDiscount G (adU ad o q) W N os' (o + 1) (cb (M' 5) a) hszW hnW hsoW ho6W hosW
    rw [adU_0] at hbst2
    have hg2 : ∀ j, j < o + 1 → (upd gs o ((rm9 ((nI wn) / 17) 5) - 1)) j = (os' j).2 1 := fun j hj => by
      by_cases e : j = o
      · rw [e, upd_self9]
        exact hgr.symm
      · rw [upd_ne9 e, hos' j (by omega)]
        exact hg j (by omega)
    have hfin := HW_find (G := G) (bg := bg) (gs := (upd gs o ((rm9 ((nI wn) / 17) 5) - 1))) (ad := adU ad o q) hR hLW hg2
    rw [adU_0, n5, e5] at hfin
    refine j_istore hX (ls' := [some (.ref b), some (.ref (ad 0)), some (.ref bg), some (.int (nI a)), some (.int sS), some (.int kI), some (.int vI), some (.int (nI wn)), some (.int wat), some (.long bef), none, some (.int (nI o)), some (.int kd), some (.int 112), some (.ref qn), some (.int ((rm9 ((nI wn) / 17) 5) - 1)), some (.int (W1 6)), none]) dL_law_447 (Nat.le_of_ble_eq_true rfl) rfl rfl ?_
    refine j_iload hX dL_law_449 rfl ?_
    refine j_if_lt_f hX (tgt := 471) dL_law_451 (by decide) (nI_pos (by omega)) ?_
    refine j_aload_n hX dL_law_454 rfl ?_
    refine j_iload hX dL_law_455 rfl ?_
    refine j_iload hX dL_law_457 rfl ?_
    refine j_iast hX (ws' := ((bg, .inl (G.2.2 0, 6, .inl (upd gs o ((rm9 ((nI wn) / 17) 5) - 1)))) :: (qn, .inl (G.2.2 0, 2, .inl (upd (upd (fun _ => 0) 0 (rm9 ((nI wn) / 4) 3)) 1 (1 + (rm9 ((nI wn) / 12) 90))))) :: (wC G (adU ad o q) W N (enO (adU ad o q) (o + 1)) (wO (adU ad o q) os' (o + 1))))) dL_law_459 0 rfl (nI_in ho5 (by decide)) (by rw [nI_clamp (by omega)]; rfl) ?_
    refine j_aload_n hX dL_law_460 rfl ?_
    refine j_dVa hX (nA := 0) (cq := (RX11, TX11, 7)) (As := []) (st := []) (st' := [.int ((findF os' (o + 1) (cb (M' 5) a) (W, N)).1 6)]) (ci := 12) (wa := [(bg, .inl (G.2.2 0, 6, .inl (upd gs o ((rm9 ((nI wn) / 17) 5) - 1)))), (qn, .inl (G.2.2 0, 2, .inl (upd (upd (fun _ => 0) 0 (rm9 ((nI wn) / 4) 3)) 1 (1 + (rm9 ((nI wn) / 12) 90)))))]) (w0 := (wC G (adU ad o q) W N (enO (adU ad o q) (o + 1)) (wO (adU ad o q) os' (o + 1)))) (w1 := (wC G (adU ad o q) ((findF os' (o + 1) (cb (M' 5) a) (W, N)).1) ((findF os' (o + 1) (cb (M' 5) a) (W, N)).2) (enO (adU ad o q) (o + 1)) (wO (adU ad o q) os' (o + 1)))) rfl dL_law_461 hbst2 gL_law_X11_bestDiscount rfl (by decide +kernel) (show ((wC G (adU ad o q) W N (enO (adU ad o q) (o + 1)) (wO (adU ad o q) os' (o + 1))))[0]? = some (ad 0, _) from by rw [wCg0, adU_0]) (by decide) (Nat.le_of_ble_eq_true rfl) rfl (Nat.le_of_ble_eq_true rfl) rfl ⟨by omega, by omega⟩ rfl rfl ?_
    refine j_iload hX dL_law_464 rfl ?_
    refine j_icmp_ge_t hX (tgt := 471) dL_law_466 (by decide) hmore ?_
    refine j_goto hX (tgt := 694) dL_law_471 (by decide) ?_
    refine jW.fewer (ws' := ((bg, .inl (G.2.2 0, 6, .inl (upd gs o ((rm9 ((nI wn) / 17) 5) - 1)))) :: (wC G (adU ad o q) ((findF os' (o + 1) (cb (M' 5) a) (W, N)).1) ((findF os' (o + 1) (cb (M' 5) a) (W, N)).2) (enO (adU ad o q) (o + 1)) (wO (adU ad o q) os' (o + 1))))) (List.Sublist.cons₂ _ (List.sublist_cons_self _ _)) ?_
    refine jW.drop (ls' := [some (.ref b), some (.ref (ad 0)), some (.ref bg), some (.int (nI a)), some (.int sS), some (.int kI), some (.int vI), some (.int (nI wn)), some (.int wat), some (.long bef), none, some (.int (nI o)), none, none, none, none, none, none]) ⟨Or.inr rfl, Or.inr rfl, Or.inr rfl, Or.inr rfl, Or.inr rfl, Or.inr rfl, Or.inr rfl, Or.inr rfl, Or.inr rfl, Or.inr rfl, Or.inr rfl, Or.inr rfl, Or.inl rfl, Or.inl rfl, Or.inl rfl, Or.inl rfl, Or.inl rfl, Or.inr rfl, trivial⟩ ?_
    refine jW.widen (k' := k + 300) (n' := n + 2000) (by omega) (by omega) ?_
    exact kk a (nI o) _ hfin (Or.inl (nI_ge9 (by omega)))
  · show jW G X (k + 1 + 1) (n + 2 + 6) 447 [some (.ref b), some (.ref (ad 0)), some (.ref bg), some (.int (nI a)), some (.int sS), some (.int kI), some (.int vI), some (.int (nI wn)), some (.int wat), some (.long bef), none, some (.int 0), some (.int kd), some (.int 112), some (.ref qn), some (.int ((rm9 ((nI wn) / 17) 5) - 1)), some (.int (W1 6)), none] [.int z] ((bg, .inl (G.2.2 0, 6, .inl gs)) :: (qn, .inl (G.2.2 0, 2, .inl (upd (upd (fun _ => 0) 0 (rm9 ((nI wn) / 4) 3)) 1 (1 + (rm9 ((nI wn) / 12) 90))))) :: (wC G ad W1 N1 (enO ad o) (wO ad os o)))
    refine j_istore hX (ls' := [some (.ref b), some (.ref (ad 0)), some (.ref bg), some (.int (nI a)), some (.int sS), some (.int kI), some (.int vI), some (.int (nI wn)), some (.int wat), some (.long bef), none, some (.int z), some (.int kd), some (.int 112), some (.ref qn), some (.int ((rm9 ((nI wn) / 17) 5) - 1)), some (.int (W1 6)), none]) dL_law_447 (Nat.le_of_ble_eq_true rfl) rfl rfl ?_
    refine j_iload hX dL_law_449 rfl ?_
    refine j_if_lt_t hX (tgt := 471) dL_law_451 (by decide) hz ?_
    refine j_goto hX (tgt := 694) dL_law_471 (by decide) ?_
    refine jW.fewer (ws' := ((bg, .inl (G.2.2 0, 6, .inl gs)) :: (wC G ad W1 N1 (enO ad o) (wO ad os o)))) (List.Sublist.cons₂ _ (List.sublist_cons_self _ _)) ?_
    refine jW.drop (ls' := [some (.ref b), some (.ref (ad 0)), some (.ref bg), some (.int (nI a)), some (.int sS), some (.int kI), some (.int vI), some (.int (nI wn)), some (.int wat), some (.long bef), none, some (.int z), none, none, none, none, none, none]) ⟨Or.inr rfl, Or.inr rfl, Or.inr rfl, Or.inr rfl, Or.inr rfl, Or.inr rfl, Or.inr rfl, Or.inr rfl, Or.inr rfl, Or.inr rfl, Or.inr rfl, Or.inr rfl, Or.inl rfl, Or.inl rfl, Or.inl rfl, Or.inl rfl, Or.inl rfl, Or.inr rfl, trivial⟩ ?_
    refine jW.widen (k' := k + 300) (n' := n + 2000) (by omega) (by omega) ?_
    exact kk a z _ (HW_of hS.1 hL1 hg) (Or.inr (HZ_of (V' := W1') (M' := N1') (t := t) (c := c) hL1 hg (by rw [e5]; exact hZ1)))

set_option maxHeartbeats 4000000 in
set_option maxRecDepth 100000 in
theorem lc_off_f {G : jG} {X : jX} {k n : Nat} {post : Option Value → va_W → Prop} (hX : jOK G X RL cL_law wsL_law (some .boolean) 18 2048 603079 7285465 post) (hH : jTL X) (hG : G.1.stackTraces = false) (hk : k + 440 ≤ 603079 ∧ n + 3000 ≤ 7285465) {b bg : Nat} {sS kI vI kd wat : Int32} {bef : Int64} {wn : Nat} (hwn : wn < 2 ^ 30) {gs : Nat → Int32} {V : Nat → Int32} {M : Nat → Nat → Int32} {os : Nat → ofr} {V' : Nat → Int32} {M' : Nat → Nat → Int32} {t : Int64} {a o c : Nat} (ad : Nat → Nat) (h : RX V M os V' M' t a o c) (hL : LE9 V) (hg : ∀ j, j < o → gs j = (os j).2 1) (hZ : wat = 0 ∨ (ST V M os V' M' t a o c ∧ bef = sumF os o (cb (M' 5) a) a (V, M))) (kk : ∀ (m : Nat) (its : Int32) (ws : va_W), HW G (ad 0) bg m ws → (¬ its < -1000 ∨ wat = 0 ∨ HZ G (ad 0) bg m bef ws) → jW G X (k + 300) (n + 2000) 694 [some (.ref b), some (.ref (ad 0)), some (.ref bg), some (.int (nI m)), some (.int sS), some (.int kI), some (.int vI), some (.int (nI wn)), some (.int wat), some (.long bef), none, some (.int its), none, none, none, none, none, none] [] ws) : jW G X k n 252 [some (.ref b), some (.ref (ad 0)), some (.ref bg), some (.int (nI a)), some (.int sS), some (.int kI), some (.int vI), some (.int (nI wn)), some (.int wat), some (.long bef), none, some (.int 0), some (.int kd), some (.int 102), none, none, none, none] [] ((bg, .inl (G.2.2 0, 6, .inl gs)) :: (wC G ad V M (enO ad o) (wO ad os o))) := by
  obtain ⟨hsz, hn, hso, ho6, hos⟩ := rx_KS h
  have ha := h.1.2.1.2.2
  have hb0 := c_X11_bestDiscount G ad V M os o (cb (M' 5) a) hsz hn hso ho6 hos
  obtain ⟨W1', N1', hS, e5, hZ1⟩ := z_find h hZ
  have hL1 : LE9 (findF os o (cb (M' 5) a) (V, M)).1 := LE9_find hL _
  rw [e5] at hZ1
  generalize (findF os o (cb (M' 5) a) (V, M)).1 = W1 at hb0 hS hL1 hZ1
  generalize (findF os o (cb (M' 5) a) (V, M)).2 = N1 at hb0 hS hL1 hZ1
  have hbst : jD G 14 yX11_bestDiscount wsX11_bestDiscount [.ref (ad 0)] (wC G ad V M (enO ad o) (wO ad os o)) (some (.int (W1 6))) (wC G ad W1 N1 (enO ad o) (wO ad os o)) := hb0
  refine j_iload hX dL_law_252 rfl ?_
  refine j_bipush hX (v := 112) (by decide) dL_law_254 ?_
  refine j_icmp_ne_t hX (tgt := 287) dL_law_256 (by decide) (by decide) ?_
  refine j_iload hX dL_law_287 rfl ?_
  refine j_bipush hX (v := 102) (by decide) dL_law_289 ?_
  refine j_icmp_ne_f hX (tgt := 321) dL_law_291 (by decide) rfl ?_
  refine j_iconst hX (v := 2) (by decide) dL_law_294 ?_
  refine j_newai hX (N := 2) dL_law_295 (by decide +kernel) (by decide) (by decide +kernel) (by decide) ⟨by omega, by omega⟩ (fun qn => ?_)
  refine jW.pm (ws' := ((qn, .inl (G.2.2 0, 2, .inl (fun _ => 0))) :: (bg, .inl (G.2.2 0, 6, .inl gs)) :: (wC G ad V M (enO ad o) (wO ad os o)))) (List.perm_append_singleton _ _) ?_
  refine j_dup hX dL_law_297 rfl ?_
  refine j_iconst hX (v := 0) (by decide) dL_law_298 ?_
  refine j_iload hX dL_law_299 rfl ?_
  refine j_iconst hX (v := 4) (by decide) dL_law_301 ?_
  refine j_idiv hX dL_law_302 (by decide) ?_
  refine j_iconst hX (v := 3) (by decide) dL_law_303 ?_
  refine j_irem hX dL_law_304 (by decide) ?_
  refine j_iast hX (ws' := ((qn, .inl (G.2.2 0, 2, .inl (upd (fun _ => 0) 0 (rm9 ((nI wn) / 4) 3)))) :: (bg, .inl (G.2.2 0, 6, .inl gs)) :: (wC G ad V M (enO ad o) (wO ad os o)))) dL_law_305 0 rfl (by unfold vp_in; decide +kernel) rfl ?_
  refine j_dup hX dL_law_306 rfl ?_
  refine j_iconst hX (v := 1) (by decide) dL_law_307 ?_
  refine j_iconst hX (v := 2) (by decide) dL_law_308 ?_
  refine j_iload hX dL_law_309 rfl ?_
  refine j_bipush hX (v := 12) (by decide) dL_law_311 ?_
  refine j_idiv hX dL_law_313 (by decide) ?_
  refine j_iconst hX (v := 3) (by decide) dL_law_314 ?_
  refine j_irem hX dL_law_315 (by decide) ?_
  refine j_iadd hX dL_law_316 ?_
  refine j_iast hX (ws' := ((qn, .inl (G.2.2 0, 2, .inl (upd (upd (fun _ => 0) 0 (rm9 ((nI wn) / 4) 3)) 1 (2 + (rm9 ((nI wn) / 12) 3))))) :: (bg, .inl (G.2.2 0, 6, .inl gs)) :: (wC G ad V M (enO ad o) (wO ad os o)))) dL_law_317 0 rfl (by unfold vp_in; decide +kernel) rfl ?_
  refine j_goto hX (tgt := 410) dL_law_318 (by decide) ?_
  refine j_astore hX (ls' := [some (.ref b), some (.ref (ad 0)), some (.ref bg), some (.int (nI a)), some (.int sS), some (.int kI), some (.int vI), some (.int (nI wn)), some (.int wat), some (.long bef), none, some (.int 0), some (.int kd), some (.int 102), some (.ref qn), none, none, none]) dL_law_410 (Nat.le_of_ble_eq_true rfl) rfl rfl ?_
  refine j_iload hX dL_law_412 rfl ?_
  refine j_bipush hX (v := 17) (by decide) dL_law_414 ?_
  refine j_idiv hX dL_law_416 (by decide) ?_
  refine j_iconst hX (v := 5) (by decide) dL_law_417 ?_
  refine j_irem hX dL_law_418 (by decide) ?_
  refine j_iconst hX (v := 1) (by decide) dL_law_419 ?_
  refine j_isub hX dL_law_420 ?_
  refine j_istore hX (ls' := [some (.ref b), some (.ref (ad 0)), some (.ref bg), some (.int (nI a)), some (.int sS), some (.int kI), some (.int vI), some (.int (nI wn)), some (.int wat), some (.long bef), none, some (.int 0), some (.int kd), some (.int 102), some (.ref qn), some (.int ((rm9 ((nI wn) / 17) 5) - 1)), none, none]) dL_law_421 (Nat.le_of_ble_eq_true rfl) rfl rfl ?_
  refine j_aload_n hX dL_law_423 rfl ?_
  refine j_dVa hX (nA := 0) (cq := (RX11, TX11, 7)) (As := []) (st := []) (st' := [.int (W1 6)]) (ci := 12) (wa := [(qn, .inl (G.2.2 0, 2, .inl (upd (upd (fun _ => 0) 0 (rm9 ((nI wn) / 4) 3)) 1 (2 + (rm9 ((nI wn) / 12) 3))))), (bg, .inl (G.2.2 0, 6, .inl gs))]) (w0 := (wC G ad V M (enO ad o) (wO ad os o))) (w1 := (wC G ad W1 N1 (enO ad o) (wO ad os o))) rfl dL_law_424 hbst gL_law_X11_bestDiscount rfl (by decide +kernel) (wCg0 G ad V M (enO ad o) (wO ad os o)) (by decide) (Nat.le_of_ble_eq_true rfl) rfl (Nat.le_of_ble_eq_true rfl) rfl ⟨by omega, by omega⟩ rfl rfl ?_
  refine j_istore hX (ls' := [some (.ref b), some (.ref (ad 0)), some (.ref bg), some (.int (nI a)), some (.int sS), some (.int kI), some (.int vI), some (.int (nI wn)), some (.int wat), some (.long bef), none, some (.int 0), some (.int kd), some (.int 102), some (.ref qn), some (.int ((rm9 ((nI wn) / 17) 5) - 1)), some (.int (W1 6)), none]) dL_law_427 (Nat.le_of_ble_eq_true rfl) rfl rfl ?_
  refine jW.pm (ws' := ((bg, .inl (G.2.2 0, 6, .inl gs)) :: (qn, .inl (G.2.2 0, 2, .inl (upd (upd (fun _ => 0) 0 (rm9 ((nI wn) / 4) 3)) 1 (2 + (rm9 ((nI wn) / 12) 3))))) :: (wC G ad W1 N1 (enO ad o) (wO ad os o)))) (List.Perm.swap _ _ _) ?_
  refine j_aload_n hX dL_law_429 rfl ?_
  refine j_iload hX dL_law_430 rfl ?_
  refine j_aload hX dL_law_432 rfl ?_
  refine j_iconst hX (v := 1) (by decide) dL_law_434 ?_
  refine j_iload hX dL_law_435 rfl ?_
  refine j_iconst hX (v := 5) (by decide) dL_law_437 ?_
  refine j_idiv hX dL_law_438 (by decide) ?_
  refine j_iconst hX (v := 4) (by decide) dL_law_439 ?_
  refine j_irem hX dL_law_440 (by decide) ?_
  refine j_iadd hX dL_law_441 ?_
  refine j_iload hX dL_law_442 rfl ?_
  refine j_callHa hX hH (nA := 5) (As := [.ref (ad 0), .int 102, .ref qn, .int (1 + (rm9 ((nI wn) / 5) 4)), .int ((rm9 ((nI wn) / 17) 5) - 1)]) (st := []) (wa := [(bg, .inl (G.2.2 0, 6, .inl gs))]) (w0 := ((qn, .inl (G.2.2 0, 2, .inl (upd (upd (fun _ => 0) 0 (rm9 ((nI wn) / 4) 3)) 1 (2 + (rm9 ((nI wn) / 12) 3))))) :: (wC G ad W1 N1 (enO ad o) (wO ad os o)))) dL_law_444 (d_offer_f G hG ad hS.1 hL1 (by unfold vp_in; decide +kernel) (by unfold vp_in; decide +kernel) (1 + (rm9 ((nI wn) / 5) 4)) ((rm9 ((nI wn) / 17) 5) - 1)) gL_law_L_offer rfl (by decide +kernel) (by decide) (Nat.le_of_ble_eq_true rfl) rfl (Nat.le_of_ble_eq_true rfl) ⟨by omega, by omega⟩ rfl rfl (fun rv444 w444 hp444 => ?_)
  rcases hp444 with ⟨W, N, X1', Y1', os', q, rfl, rfl, hR, hAd, hLW, hos', hgr⟩ | ⟨z, rfl, hz, rfl⟩
  · have ho5 : o < 6 := by
      have := hR.1.2.2.2.1.2.2
      omega
    show jW G X (k + 1 + 1) (n + 2 + 6) 447 [some (.ref b), some (.ref (ad 0)), some (.ref bg), some (.int (nI a)), some (.int sS), some (.int kI), some (.int vI), some (.int (nI wn)), some (.int wat), some (.long bef), none, some (.int 0), some (.int kd), some (.int 102), some (.ref qn), some (.int ((rm9 ((nI wn) / 17) 5) - 1)), some (.int (W1 6)), none] [.int (nI o)] ((bg, .inl (G.2.2 0, 6, .inl gs)) :: (qn, .inl (G.2.2 0, 2, .inl (upd (upd (fun _ => 0) 0 (rm9 ((nI wn) / 4) 3)) 1 (2 + (rm9 ((nI wn) / 12) 3))))) :: (wC G (adU ad o q) W N (enO (adU ad o q) (o + 1)) (wO (adU ad o q) os' (o + 1))))
    obtain ⟨hszW, hnW, hsoW, ho6W, hosW⟩ := rx_KS hR
    have hmore := st_more hS hR hAd
    have n5 := hAd.1.2.2.1
    rw [n5] at hszW hnW
    rw [e5] at hszW hnW hmore
    have hbst2 := c_X11_bestDiscount G (adU ad o q) W N os' (o + 1) (cb (M' 5) a) hszW hnW hsoW ho6W hosW
    rw [adU_0] at hbst2
    have hg2 : ∀ j, j < o + 1 → (upd gs o ((rm9 ((nI wn) / 17) 5) - 1)) j = (os' j).2 1 := fun j hj => by
      by_cases e : j = o
      · rw [e, upd_self9]
        exact hgr.symm
      · rw [upd_ne9 e, hos' j (by omega)]
        exact hg j (by omega)
    have hfin := HW_find (G := G) (bg := bg) (gs := (upd gs o ((rm9 ((nI wn) / 17) 5) - 1))) (ad := adU ad o q) hR hLW hg2
    rw [adU_0, n5, e5] at hfin
    refine j_istore hX (ls' := [some (.ref b), some (.ref (ad 0)), some (.ref bg), some (.int (nI a)), some (.int sS), some (.int kI), some (.int vI), some (.int (nI wn)), some (.int wat), some (.long bef), none, some (.int (nI o)), some (.int kd), some (.int 102), some (.ref qn), some (.int ((rm9 ((nI wn) / 17) 5) - 1)), some (.int (W1 6)), none]) dL_law_447 (Nat.le_of_ble_eq_true rfl) rfl rfl ?_
    refine j_iload hX dL_law_449 rfl ?_
    refine j_if_lt_f hX (tgt := 471) dL_law_451 (by decide) (nI_pos (by omega)) ?_
    refine j_aload_n hX dL_law_454 rfl ?_
    refine j_iload hX dL_law_455 rfl ?_
    refine j_iload hX dL_law_457 rfl ?_
    refine j_iast hX (ws' := ((bg, .inl (G.2.2 0, 6, .inl (upd gs o ((rm9 ((nI wn) / 17) 5) - 1)))) :: (qn, .inl (G.2.2 0, 2, .inl (upd (upd (fun _ => 0) 0 (rm9 ((nI wn) / 4) 3)) 1 (2 + (rm9 ((nI wn) / 12) 3))))) :: (wC G (adU ad o q) W N (enO (adU ad o q) (o + 1)) (wO (adU ad o q) os' (o + 1))))) dL_law_459 0 rfl (nI_in ho5 (by decide)) (by rw [nI_clamp (by omega)]; rfl) ?_
    refine j_aload_n hX dL_law_460 rfl ?_
    refine j_dVa hX (nA := 0) (cq := (RX11, TX11, 7)) (As := []) (st := []) (st' := [.int ((findF os' (o + 1) (cb (M' 5) a) (W, N)).1 6)]) (ci := 12) (wa := [(bg, .inl (G.2.2 0, 6, .inl (upd gs o ((rm9 ((nI wn) / 17) 5) - 1)))), (qn, .inl (G.2.2 0, 2, .inl (upd (upd (fun _ => 0) 0 (rm9 ((nI wn) / 4) 3)) 1 (2 + (rm9 ((nI wn) / 12) 3)))))]) (w0 := (wC G (adU ad o q) W N (enO (adU ad o q) (o + 1)) (wO (adU ad o q) os' (o + 1)))) (w1 := (wC G (adU ad o q) ((findF os' (o + 1) (cb (M' 5) a) (W, N)).1) ((findF os' (o + 1) (cb (M' 5) a) (W, N)).2) (enO (adU ad o q) (o + 1)) (wO (adU ad o q) os' (o + 1)))) rfl dL_law_461 hbst2 gL_law_X11_bestDiscount rfl (by decide +kernel) (show ((wC G (adU ad o q) W N (enO (adU ad o q) (o + 1)) (wO (adU ad o q) os' (o + 1))))[0]? = some (ad 0, _) from by rw [wCg0, adU_0]) (by decide) (Nat.le_of_ble_eq_true rfl) rfl (Nat.le_of_ble_eq_true rfl) rfl ⟨by omega, by omega⟩ rfl rfl ?_
    refine j_iload hX dL_law_464 rfl ?_
    refine j_icmp_ge_t hX (tgt := 471) dL_law_466 (by decide) hmore ?_
    refine j_goto hX (tgt := 694) dL_law_471 (by decide) ?_
    refine jW.fewer (ws' := ((bg, .inl (G.2.2 0, 6, .inl (upd gs o ((rm9 ((nI wn) / 17) 5) - 1)))) :: (wC G (adU ad o q) ((findF os' (o + 1) (cb (M' 5) a) (W, N)).1) ((findF os' (o + 1) (cb (M' 5) a) (W, N)).2) (enO (adU ad o q) (o + 1)) (wO (adU ad o q) os' (o + 1))))) (List.Sublist.cons₂ _ (List.sublist_cons_self _ _)) ?_
    refine jW.drop (ls' := [some (.ref b), some (.ref (ad 0)), some (.ref bg), some (.int (nI a)), some (.int sS), some (.int kI), some (.int vI), some (.int (nI wn)), some (.int wat), some (.long bef), none, some (.int (nI o)), none, none, none, none, none, none]) ⟨Or.inr rfl, Or.inr rfl, Or.inr rfl, Or.inr rfl, Or.inr rfl, Or.inr rfl, Or.inr rfl, Or.inr rfl, Or.inr rfl, Or.inr rfl, Or.inr rfl, Or.inr rfl, Or.inl rfl, Or.inl rfl, Or.inl rfl, Or.inl rfl, Or.inl rfl, Or.inr rfl, trivial⟩ ?_
    refine jW.widen (k' := k + 300) (n' := n + 2000) (by omega) (by omega) ?_
    exact kk a (nI o) _ hfin (Or.inl (nI_ge9 (by omega)))
  · show jW G X (k + 1 + 1) (n + 2 + 6) 447 [some (.ref b), some (.ref (ad 0)), some (.ref bg), some (.int (nI a)), some (.int sS), some (.int kI), some (.int vI), some (.int (nI wn)), some (.int wat), some (.long bef), none, some (.int 0), some (.int kd), some (.int 102), some (.ref qn), some (.int ((rm9 ((nI wn) / 17) 5) - 1)), some (.int (W1 6)), none] [.int z] ((bg, .inl (G.2.2 0, 6, .inl gs)) :: (qn, .inl (G.2.2 0, 2, .inl (upd (upd (fun _ => 0) 0 (rm9 ((nI wn) / 4) 3)) 1 (2 + (rm9 ((nI wn) / 12) 3))))) :: (wC G ad W1 N1 (enO ad o) (wO ad os o)))
    refine j_istore hX (ls' := [some (.ref b), some (.ref (ad 0)), some (.ref bg), some (.int (nI a)), some (.int sS), some (.int kI), some (.int vI), some (.int (nI wn)), some (.int wat), some (.long bef), none, some (.int z), some (.int kd), some (.int 102), some (.ref qn), some (.int ((rm9 ((nI wn) / 17) 5) - 1)), some (.int (W1 6)), none]) dL_law_447 (Nat.le_of_ble_eq_true rfl) rfl rfl ?_
    refine j_iload hX dL_law_449 rfl ?_
    refine j_if_lt_t hX (tgt := 471) dL_law_451 (by decide) hz ?_
    refine j_goto hX (tgt := 694) dL_law_471 (by decide) ?_
    refine jW.fewer (ws' := ((bg, .inl (G.2.2 0, 6, .inl gs)) :: (wC G ad W1 N1 (enO ad o) (wO ad os o)))) (List.Sublist.cons₂ _ (List.sublist_cons_self _ _)) ?_
    refine jW.drop (ls' := [some (.ref b), some (.ref (ad 0)), some (.ref bg), some (.int (nI a)), some (.int sS), some (.int kI), some (.int vI), some (.int (nI wn)), some (.int wat), some (.long bef), none, some (.int z), none, none, none, none, none, none]) ⟨Or.inr rfl, Or.inr rfl, Or.inr rfl, Or.inr rfl, Or.inr rfl, Or.inr rfl, Or.inr rfl, Or.inr rfl, Or.inr rfl, Or.inr rfl, Or.inr rfl, Or.inr rfl, Or.inl rfl, Or.inl rfl, Or.inl rfl, Or.inl rfl, Or.inl rfl, Or.inr rfl, trivial⟩ ?_
    refine jW.widen (k' := k + 300) (n' := n + 2000) (by omega) (by omega) ?_
    exact kk a z _ (HW_of hS.1 hL1 hg) (Or.inr (HZ_of (V' := W1') (M' := N1') (t := t) (c := c) hL1 hg (by rw [e5]; exact hZ1)))

set_option maxHeartbeats 4000000 in
set_option maxRecDepth 100000 in
theorem lc_off_b {G : jG} {X : jX} {k n : Nat} {post : Option Value → va_W → Prop} (hX : jOK G X RL cL_law wsL_law (some .boolean) 18 2048 603079 7285465 post) (hH : jTL X) (hG : G.1.stackTraces = false) (hk : k + 440 ≤ 603079 ∧ n + 3000 ≤ 7285465) {b bg : Nat} {sS kI vI kd wat : Int32} {bef : Int64} {wn : Nat} (hwn : wn < 2 ^ 30) {gs : Nat → Int32} {V : Nat → Int32} {M : Nat → Nat → Int32} {os : Nat → ofr} {V' : Nat → Int32} {M' : Nat → Nat → Int32} {t : Int64} {a o c : Nat} (ad : Nat → Nat) (h : RX V M os V' M' t a o c) (hL : LE9 V) (hg : ∀ j, j < o → gs j = (os j).2 1) (hZ : wat = 0 ∨ (ST V M os V' M' t a o c ∧ bef = sumF os o (cb (M' 5) a) a (V, M))) (kk : ∀ (m : Nat) (its : Int32) (ws : va_W), HW G (ad 0) bg m ws → (¬ its < -1000 ∨ wat = 0 ∨ HZ G (ad 0) bg m bef ws) → jW G X (k + 300) (n + 2000) 694 [some (.ref b), some (.ref (ad 0)), some (.ref bg), some (.int (nI m)), some (.int sS), some (.int kI), some (.int vI), some (.int (nI wn)), some (.int wat), some (.long bef), none, some (.int its), none, none, none, none, none, none] [] ws) : jW G X k n 252 [some (.ref b), some (.ref (ad 0)), some (.ref bg), some (.int (nI a)), some (.int sS), some (.int kI), some (.int vI), some (.int (nI wn)), some (.int wat), some (.long bef), none, some (.int 0), some (.int kd), some (.int 98), none, none, none, none] [] ((bg, .inl (G.2.2 0, 6, .inl gs)) :: (wC G ad V M (enO ad o) (wO ad os o))) := by
  obtain ⟨hsz, hn, hso, ho6, hos⟩ := rx_KS h
  have ha := h.1.2.1.2.2
  have hb0 := c_X11_bestDiscount G ad V M os o (cb (M' 5) a) hsz hn hso ho6 hos
  obtain ⟨W1', N1', hS, e5, hZ1⟩ := z_find h hZ
  have hL1 : LE9 (findF os o (cb (M' 5) a) (V, M)).1 := LE9_find hL _
  rw [e5] at hZ1
  generalize (findF os o (cb (M' 5) a) (V, M)).1 = W1 at hb0 hS hL1 hZ1
  generalize (findF os o (cb (M' 5) a) (V, M)).2 = N1 at hb0 hS hL1 hZ1
  have hbst : jD G 14 yX11_bestDiscount wsX11_bestDiscount [.ref (ad 0)] (wC G ad V M (enO ad o) (wO ad os o)) (some (.int (W1 6))) (wC G ad W1 N1 (enO ad o) (wO ad os o)) := hb0
  refine j_iload hX dL_law_252 rfl ?_
  refine j_bipush hX (v := 112) (by decide) dL_law_254 ?_
  refine j_icmp_ne_t hX (tgt := 287) dL_law_256 (by decide) (by decide) ?_
  refine j_iload hX dL_law_287 rfl ?_
  refine j_bipush hX (v := 102) (by decide) dL_law_289 ?_
  refine j_icmp_ne_t hX (tgt := 321) dL_law_291 (by decide) (by decide) ?_
  refine j_iload hX dL_law_321 rfl ?_
  refine j_bipush hX (v := 98) (by decide) dL_law_323 ?_
  refine j_icmp_ne_f hX (tgt := 380) dL_law_325 (by decide) rfl ?_
  refine j_iconst hX (v := 4) (by decide) dL_law_328 ?_
  refine j_newai hX (N := 4) dL_law_329 (by decide +kernel) (by decide) (by decide +kernel) (by decide) ⟨by omega, by omega⟩ (fun qn => ?_)
  refine jW.pm (ws' := ((qn, .inl (G.2.2 0, 4, .inl (fun _ => 0))) :: (bg, .inl (G.2.2 0, 6, .inl gs)) :: (wC G ad V M (enO ad o) (wO ad os o)))) (List.perm_append_singleton _ _) ?_
  refine j_dup hX dL_law_331 rfl ?_
  refine j_iconst hX (v := 0) (by decide) dL_law_332 ?_
  refine j_iload hX dL_law_333 rfl ?_
  refine j_iconst hX (v := 4) (by decide) dL_law_335 ?_
  refine j_idiv hX dL_law_336 (by decide) ?_
  refine j_iconst hX (v := 3) (by decide) dL_law_337 ?_
  refine j_irem hX dL_law_338 (by decide) ?_
  refine j_iast hX (ws' := ((qn, .inl (G.2.2 0, 4, .inl (upd (fun _ => 0) 0 (rm9 ((nI wn) / 4) 3)))) :: (bg, .inl (G.2.2 0, 6, .inl gs)) :: (wC G ad V M (enO ad o) (wO ad os o)))) dL_law_339 0 rfl (by unfold vp_in; decide +kernel) rfl ?_
  refine j_dup hX dL_law_340 rfl ?_
  refine j_iconst hX (v := 1) (by decide) dL_law_341 ?_
  refine j_iload hX dL_law_342 rfl ?_
  refine j_bipush hX (v := 12) (by decide) dL_law_344 ?_
  refine j_idiv hX dL_law_346 (by decide) ?_
  refine j_iconst hX (v := 3) (by decide) dL_law_347 ?_
  refine j_irem hX dL_law_348 (by decide) ?_
  refine j_iast hX (ws' := ((qn, .inl (G.2.2 0, 4, .inl (upd (upd (fun _ => 0) 0 (rm9 ((nI wn) / 4) 3)) 1 (rm9 ((nI wn) / 12) 3)))) :: (bg, .inl (G.2.2 0, 6, .inl gs)) :: (wC G ad V M (enO ad o) (wO ad os o)))) dL_law_349 0 rfl (by unfold vp_in; decide +kernel) rfl ?_
  refine j_dup hX dL_law_350 rfl ?_
  refine j_iconst hX (v := 2) (by decide) dL_law_351 ?_
  refine j_iload hX dL_law_352 rfl ?_
  refine j_bipush hX (v := 36) (by decide) dL_law_354 ?_
  refine j_idiv hX dL_law_356 (by decide) ?_
  refine j_iconst hX (v := 4) (by decide) dL_law_357 ?_
  refine j_irem hX dL_law_358 (by decide) ?_
  refine j_iconst hX (v := 1) (by decide) dL_law_359 ?_
  refine j_isub hX dL_law_360 ?_
  refine j_iast hX (ws' := ((qn, .inl (G.2.2 0, 4, .inl (upd (upd (upd (fun _ => 0) 0 (rm9 ((nI wn) / 4) 3)) 1 (rm9 ((nI wn) / 12) 3)) 2 ((rm9 ((nI wn) / 36) 4) - 1)))) :: (bg, .inl (G.2.2 0, 6, .inl gs)) :: (wC G ad V M (enO ad o) (wO ad os o)))) dL_law_361 0 rfl (by unfold vp_in; decide +kernel) rfl ?_
  refine j_dup hX dL_law_362 rfl ?_
  refine j_iconst hX (v := 3) (by decide) dL_law_363 ?_
  refine j_iconst hX (v := 1) (by decide) dL_law_364 ?_
  refine j_iload hX dL_law_365 rfl ?_
  refine j_sipush hX (v := 144) (by decide) dL_law_367 ?_
  refine j_idiv hX dL_law_370 (by decide) ?_
  refine j_sipush hX (v := 300) (by decide) dL_law_371 ?_
  refine j_irem hX dL_law_374 (by decide) ?_
  refine j_iadd hX dL_law_375 ?_
  refine j_iast hX (ws' := ((qn, .inl (G.2.2 0, 4, .inl (upd (upd (upd (upd (fun _ => 0) 0 (rm9 ((nI wn) / 4) 3)) 1 (rm9 ((nI wn) / 12) 3)) 2 ((rm9 ((nI wn) / 36) 4) - 1)) 3 (1 + (rm9 ((nI wn) / 144) 300))))) :: (bg, .inl (G.2.2 0, 6, .inl gs)) :: (wC G ad V M (enO ad o) (wO ad os o)))) dL_law_376 0 rfl (by unfold vp_in; decide +kernel) rfl ?_
  refine j_goto hX (tgt := 410) dL_law_377 (by decide) ?_
  refine j_astore hX (ls' := [some (.ref b), some (.ref (ad 0)), some (.ref bg), some (.int (nI a)), some (.int sS), some (.int kI), some (.int vI), some (.int (nI wn)), some (.int wat), some (.long bef), none, some (.int 0), some (.int kd), some (.int 98), some (.ref qn), none, none, none]) dL_law_410 (Nat.le_of_ble_eq_true rfl) rfl rfl ?_
  refine j_iload hX dL_law_412 rfl ?_
  refine j_bipush hX (v := 17) (by decide) dL_law_414 ?_
  refine j_idiv hX dL_law_416 (by decide) ?_
  refine j_iconst hX (v := 5) (by decide) dL_law_417 ?_
  refine j_irem hX dL_law_418 (by decide) ?_
  refine j_iconst hX (v := 1) (by decide) dL_law_419 ?_
  refine j_isub hX dL_law_420 ?_
  refine j_istore hX (ls' := [some (.ref b), some (.ref (ad 0)), some (.ref bg), some (.int (nI a)), some (.int sS), some (.int kI), some (.int vI), some (.int (nI wn)), some (.int wat), some (.long bef), none, some (.int 0), some (.int kd), some (.int 98), some (.ref qn), some (.int ((rm9 ((nI wn) / 17) 5) - 1)), none, none]) dL_law_421 (Nat.le_of_ble_eq_true rfl) rfl rfl ?_
  refine j_aload_n hX dL_law_423 rfl ?_
  refine j_dVa hX (nA := 0) (cq := (RX11, TX11, 7)) (As := []) (st := []) (st' := [.int (W1 6)]) (ci := 12) (wa := [(qn, .inl (G.2.2 0, 4, .inl (upd (upd (upd (upd (fun _ => 0) 0 (rm9 ((nI wn) / 4) 3)) 1 (rm9 ((nI wn) / 12) 3)) 2 ((rm9 ((nI wn) / 36) 4) - 1)) 3 (1 + (rm9 ((nI wn) / 144) 300))))), (bg, .inl (G.2.2 0, 6, .inl gs))]) (w0 := (wC G ad V M (enO ad o) (wO ad os o))) (w1 := (wC G ad W1 N1 (enO ad o) (wO ad os o))) rfl dL_law_424 hbst gL_law_X11_bestDiscount rfl (by decide +kernel) (wCg0 G ad V M (enO ad o) (wO ad os o)) (by decide) (Nat.le_of_ble_eq_true rfl) rfl (Nat.le_of_ble_eq_true rfl) rfl ⟨by omega, by omega⟩ rfl rfl ?_
  refine j_istore hX (ls' := [some (.ref b), some (.ref (ad 0)), some (.ref bg), some (.int (nI a)), some (.int sS), some (.int kI), some (.int vI), some (.int (nI wn)), some (.int wat), some (.long bef), none, some (.int 0), some (.int kd), some (.int 98), some (.ref qn), some (.int ((rm9 ((nI wn) / 17) 5) - 1)), some (.int (W1 6)), none]) dL_law_427 (Nat.le_of_ble_eq_true rfl) rfl rfl ?_
  refine jW.pm (ws' := ((bg, .inl (G.2.2 0, 6, .inl gs)) :: (qn, .inl (G.2.2 0, 4, .inl (upd (upd (upd (upd (fun _ => 0) 0 (rm9 ((nI wn) / 4) 3)) 1 (rm9 ((nI wn) / 12) 3)) 2 ((rm9 ((nI wn) / 36) 4) - 1)) 3 (1 + (rm9 ((nI wn) / 144) 300))))) :: (wC G ad W1 N1 (enO ad o) (wO ad os o)))) (List.Perm.swap _ _ _) ?_
  refine j_aload_n hX dL_law_429 rfl ?_
  refine j_iload hX dL_law_430 rfl ?_
  refine j_aload hX dL_law_432 rfl ?_
  refine j_iconst hX (v := 1) (by decide) dL_law_434 ?_
  refine j_iload hX dL_law_435 rfl ?_
  refine j_iconst hX (v := 5) (by decide) dL_law_437 ?_
  refine j_idiv hX dL_law_438 (by decide) ?_
  refine j_iconst hX (v := 4) (by decide) dL_law_439 ?_
  refine j_irem hX dL_law_440 (by decide) ?_
  refine j_iadd hX dL_law_441 ?_
  refine j_iload hX dL_law_442 rfl ?_
  refine j_callHa hX hH (nA := 5) (As := [.ref (ad 0), .int 98, .ref qn, .int (1 + (rm9 ((nI wn) / 5) 4)), .int ((rm9 ((nI wn) / 17) 5) - 1)]) (st := []) (wa := [(bg, .inl (G.2.2 0, 6, .inl gs))]) (w0 := ((qn, .inl (G.2.2 0, 4, .inl (upd (upd (upd (upd (fun _ => 0) 0 (rm9 ((nI wn) / 4) 3)) 1 (rm9 ((nI wn) / 12) 3)) 2 ((rm9 ((nI wn) / 36) 4) - 1)) 3 (1 + (rm9 ((nI wn) / 144) 300))))) :: (wC G ad W1 N1 (enO ad o) (wO ad os o)))) dL_law_444 (d_offer_b G hG ad hS.1 hL1 (by unfold vp_in; decide +kernel) (by unfold vp_in; decide +kernel) (by unfold vp_in; decide +kernel) (by unfold vp_in; decide +kernel) (1 + (rm9 ((nI wn) / 5) 4)) ((rm9 ((nI wn) / 17) 5) - 1)) gL_law_L_offer rfl (by decide +kernel) (by decide) (Nat.le_of_ble_eq_true rfl) rfl (Nat.le_of_ble_eq_true rfl) ⟨by omega, by omega⟩ rfl rfl (fun rv444 w444 hp444 => ?_)
  rcases hp444 with ⟨W, N, X1', Y1', os', q, rfl, rfl, hR, hAd, hLW, hos', hgr⟩ | ⟨z, rfl, hz, rfl⟩
  · have ho5 : o < 6 := by
      have := hR.1.2.2.2.1.2.2
      omega
    show jW G X (k + 1 + 1) (n + 4 + 9) 447 [some (.ref b), some (.ref (ad 0)), some (.ref bg), some (.int (nI a)), some (.int sS), some (.int kI), some (.int vI), some (.int (nI wn)), some (.int wat), some (.long bef), none, some (.int 0), some (.int kd), some (.int 98), some (.ref qn), some (.int ((rm9 ((nI wn) / 17) 5) - 1)), some (.int (W1 6)), none] [.int (nI o)] ((bg, .inl (G.2.2 0, 6, .inl gs)) :: (qn, .inl (G.2.2 0, 4, .inl (upd (upd (upd (upd (fun _ => 0) 0 (rm9 ((nI wn) / 4) 3)) 1 (rm9 ((nI wn) / 12) 3)) 2 ((rm9 ((nI wn) / 36) 4) - 1)) 3 (1 + (rm9 ((nI wn) / 144) 300))))) :: (wC G (adU ad o q) W N (enO (adU ad o q) (o + 1)) (wO (adU ad o q) os' (o + 1))))
    obtain ⟨hszW, hnW, hsoW, ho6W, hosW⟩ := rx_KS hR
    have hmore := st_more hS hR hAd
    have n5 := hAd.1.2.2.1
    rw [n5] at hszW hnW
    rw [e5] at hszW hnW hmore
    have hbst2 := c_X11_bestDiscount G (adU ad o q) W N os' (o + 1) (cb (M' 5) a) hszW hnW hsoW ho6W hosW
    rw [adU_0] at hbst2
    have hg2 : ∀ j, j < o + 1 → (upd gs o ((rm9 ((nI wn) / 17) 5) - 1)) j = (os' j).2 1 := fun j hj => by
      by_cases e : j = o
      · rw [e, upd_self9]
        exact hgr.symm
      · rw [upd_ne9 e, hos' j (by omega)]
        exact hg j (by omega)
    have hfin := HW_find (G := G) (bg := bg) (gs := (upd gs o ((rm9 ((nI wn) / 17) 5) - 1))) (ad := adU ad o q) hR hLW hg2
    rw [adU_0, n5, e5] at hfin
    refine j_istore hX (ls' := [some (.ref b), some (.ref (ad 0)), some (.ref bg), some (.int (nI a)), some (.int sS), some (.int kI), some (.int vI), some (.int (nI wn)), some (.int wat), some (.long bef), none, some (.int (nI o)), some (.int kd), some (.int 98), some (.ref qn), some (.int ((rm9 ((nI wn) / 17) 5) - 1)), some (.int (W1 6)), none]) dL_law_447 (Nat.le_of_ble_eq_true rfl) rfl rfl ?_
    refine j_iload hX dL_law_449 rfl ?_
    refine j_if_lt_f hX (tgt := 471) dL_law_451 (by decide) (nI_pos (by omega)) ?_
    refine j_aload_n hX dL_law_454 rfl ?_
    refine j_iload hX dL_law_455 rfl ?_
    refine j_iload hX dL_law_457 rfl ?_
    refine j_iast hX (ws' := ((bg, .inl (G.2.2 0, 6, .inl (upd gs o ((rm9 ((nI wn) / 17) 5) - 1)))) :: (qn, .inl (G.2.2 0, 4, .inl (upd (upd (upd (upd (fun _ => 0) 0 (rm9 ((nI wn) / 4) 3)) 1 (rm9 ((nI wn) / 12) 3)) 2 ((rm9 ((nI wn) / 36) 4) - 1)) 3 (1 + (rm9 ((nI wn) / 144) 300))))) :: (wC G (adU ad o q) W N (enO (adU ad o q) (o + 1)) (wO (adU ad o q) os' (o + 1))))) dL_law_459 0 rfl (nI_in ho5 (by decide)) (by rw [nI_clamp (by omega)]; rfl) ?_
    refine j_aload_n hX dL_law_460 rfl ?_
    refine j_dVa hX (nA := 0) (cq := (RX11, TX11, 7)) (As := []) (st := []) (st' := [.int ((findF os' (o + 1) (cb (M' 5) a) (W, N)).1 6)]) (ci := 12) (wa := [(bg, .inl (G.2.2 0, 6, .inl (upd gs o ((rm9 ((nI wn) / 17) 5) - 1)))), (qn, .inl (G.2.2 0, 4, .inl (upd (upd (upd (upd (fun _ => 0) 0 (rm9 ((nI wn) / 4) 3)) 1 (rm9 ((nI wn) / 12) 3)) 2 ((rm9 ((nI wn) / 36) 4) - 1)) 3 (1 + (rm9 ((nI wn) / 144) 300)))))]) (w0 := (wC G (adU ad o q) W N (enO (adU ad o q) (o + 1)) (wO (adU ad o q) os' (o + 1)))) (w1 := (wC G (adU ad o q) ((findF os' (o + 1) (cb (M' 5) a) (W, N)).1) ((findF os' (o + 1) (cb (M' 5) a) (W, N)).2) (enO (adU ad o q) (o + 1)) (wO (adU ad o q) os' (o + 1)))) rfl dL_law_461 hbst2 gL_law_X11_bestDiscount rfl (by decide +kernel) (show ((wC G (adU ad o q) W N (enO (adU ad o q) (o + 1)) (wO (adU ad o q) os' (o + 1))))[0]? = some (ad 0, _) from by rw [wCg0, adU_0]) (by decide) (Nat.le_of_ble_eq_true rfl) rfl (Nat.le_of_ble_eq_true rfl) rfl ⟨by omega, by omega⟩ rfl rfl ?_
    refine j_iload hX dL_law_464 rfl ?_
    refine j_icmp_ge_t hX (tgt := 471) dL_law_466 (by decide) hmore ?_
    refine j_goto hX (tgt := 694) dL_law_471 (by decide) ?_
    refine jW.fewer (ws' := ((bg, .inl (G.2.2 0, 6, .inl (upd gs o ((rm9 ((nI wn) / 17) 5) - 1)))) :: (wC G (adU ad o q) ((findF os' (o + 1) (cb (M' 5) a) (W, N)).1) ((findF os' (o + 1) (cb (M' 5) a) (W, N)).2) (enO (adU ad o q) (o + 1)) (wO (adU ad o q) os' (o + 1))))) (List.Sublist.cons₂ _ (List.sublist_cons_self _ _)) ?_
    refine jW.drop (ls' := [some (.ref b), some (.ref (ad 0)), some (.ref bg), some (.int (nI a)), some (.int sS), some (.int kI), some (.int vI), some (.int (nI wn)), some (.int wat), some (.long bef), none, some (.int (nI o)), none, none, none, none, none, none]) ⟨Or.inr rfl, Or.inr rfl, Or.inr rfl, Or.inr rfl, Or.inr rfl, Or.inr rfl, Or.inr rfl, Or.inr rfl, Or.inr rfl, Or.inr rfl, Or.inr rfl, Or.inr rfl, Or.inl rfl, Or.inl rfl, Or.inl rfl, Or.inl rfl, Or.inl rfl, Or.inr rfl, trivial⟩ ?_
    refine jW.widen (k' := k + 300) (n' := n + 2000) (by omega) (by omega) ?_
    exact kk a (nI o) _ hfin (Or.inl (nI_ge9 (by omega)))
  · show jW G X (k + 1 + 1) (n + 4 + 9) 447 [some (.ref b), some (.ref (ad 0)), some (.ref bg), some (.int (nI a)), some (.int sS), some (.int kI), some (.int vI), some (.int (nI wn)), some (.int wat), some (.long bef), none, some (.int 0), some (.int kd), some (.int 98), some (.ref qn), some (.int ((rm9 ((nI wn) / 17) 5) - 1)), some (.int (W1 6)), none] [.int z] ((bg, .inl (G.2.2 0, 6, .inl gs)) :: (qn, .inl (G.2.2 0, 4, .inl (upd (upd (upd (upd (fun _ => 0) 0 (rm9 ((nI wn) / 4) 3)) 1 (rm9 ((nI wn) / 12) 3)) 2 ((rm9 ((nI wn) / 36) 4) - 1)) 3 (1 + (rm9 ((nI wn) / 144) 300))))) :: (wC G ad W1 N1 (enO ad o) (wO ad os o)))
    refine j_istore hX (ls' := [some (.ref b), some (.ref (ad 0)), some (.ref bg), some (.int (nI a)), some (.int sS), some (.int kI), some (.int vI), some (.int (nI wn)), some (.int wat), some (.long bef), none, some (.int z), some (.int kd), some (.int 98), some (.ref qn), some (.int ((rm9 ((nI wn) / 17) 5) - 1)), some (.int (W1 6)), none]) dL_law_447 (Nat.le_of_ble_eq_true rfl) rfl rfl ?_
    refine j_iload hX dL_law_449 rfl ?_
    refine j_if_lt_t hX (tgt := 471) dL_law_451 (by decide) hz ?_
    refine j_goto hX (tgt := 694) dL_law_471 (by decide) ?_
    refine jW.fewer (ws' := ((bg, .inl (G.2.2 0, 6, .inl gs)) :: (wC G ad W1 N1 (enO ad o) (wO ad os o)))) (List.Sublist.cons₂ _ (List.sublist_cons_self _ _)) ?_
    refine jW.drop (ls' := [some (.ref b), some (.ref (ad 0)), some (.ref bg), some (.int (nI a)), some (.int sS), some (.int kI), some (.int vI), some (.int (nI wn)), some (.int wat), some (.long bef), none, some (.int z), none, none, none, none, none, none]) ⟨Or.inr rfl, Or.inr rfl, Or.inr rfl, Or.inr rfl, Or.inr rfl, Or.inr rfl, Or.inr rfl, Or.inr rfl, Or.inr rfl, Or.inr rfl, Or.inr rfl, Or.inr rfl, Or.inl rfl, Or.inl rfl, Or.inl rfl, Or.inl rfl, Or.inl rfl, Or.inr rfl, trivial⟩ ?_
    refine jW.widen (k' := k + 300) (n' := n + 2000) (by omega) (by omega) ?_
    exact kk a z _ (HW_of hS.1 hL1 hg) (Or.inr (HZ_of (V' := W1') (M' := N1') (t := t) (c := c) hL1 hg (by rw [e5]; exact hZ1)))

set_option maxHeartbeats 4000000 in
set_option maxRecDepth 100000 in
theorem lc_off_t {G : jG} {X : jX} {k n : Nat} {post : Option Value → va_W → Prop} (hX : jOK G X RL cL_law wsL_law (some .boolean) 18 2048 603079 7285465 post) (hH : jTL X) (hG : G.1.stackTraces = false) (hk : k + 440 ≤ 603079 ∧ n + 3000 ≤ 7285465) {b bg : Nat} {sS kI vI kd wat : Int32} {bef : Int64} {wn : Nat} (hwn : wn < 2 ^ 30) {gs : Nat → Int32} {V : Nat → Int32} {M : Nat → Nat → Int32} {os : Nat → ofr} {V' : Nat → Int32} {M' : Nat → Nat → Int32} {t : Int64} {a o c : Nat} (ad : Nat → Nat) (h : RX V M os V' M' t a o c) (hL : LE9 V) (hg : ∀ j, j < o → gs j = (os j).2 1) (hZ : wat = 0 ∨ (ST V M os V' M' t a o c ∧ bef = sumF os o (cb (M' 5) a) a (V, M))) (kk : ∀ (m : Nat) (its : Int32) (ws : va_W), HW G (ad 0) bg m ws → (¬ its < -1000 ∨ wat = 0 ∨ HZ G (ad 0) bg m bef ws) → jW G X (k + 300) (n + 2000) 694 [some (.ref b), some (.ref (ad 0)), some (.ref bg), some (.int (nI m)), some (.int sS), some (.int kI), some (.int vI), some (.int (nI wn)), some (.int wat), some (.long bef), none, some (.int its), none, none, none, none, none, none] [] ws) : jW G X k n 252 [some (.ref b), some (.ref (ad 0)), some (.ref bg), some (.int (nI a)), some (.int sS), some (.int kI), some (.int vI), some (.int (nI wn)), some (.int wat), some (.long bef), none, some (.int 0), some (.int kd), some (.int 116), none, none, none, none] [] ((bg, .inl (G.2.2 0, 6, .inl gs)) :: (wC G ad V M (enO ad o) (wO ad os o))) := by
  obtain ⟨hsz, hn, hso, ho6, hos⟩ := rx_KS h
  have ha := h.1.2.1.2.2
  have hb0 := c_X11_bestDiscount G ad V M os o (cb (M' 5) a) hsz hn hso ho6 hos
  obtain ⟨W1', N1', hS, e5, hZ1⟩ := z_find h hZ
  have hL1 : LE9 (findF os o (cb (M' 5) a) (V, M)).1 := LE9_find hL _
  rw [e5] at hZ1
  generalize (findF os o (cb (M' 5) a) (V, M)).1 = W1 at hb0 hS hL1 hZ1
  generalize (findF os o (cb (M' 5) a) (V, M)).2 = N1 at hb0 hS hL1 hZ1
  have hbst : jD G 14 yX11_bestDiscount wsX11_bestDiscount [.ref (ad 0)] (wC G ad V M (enO ad o) (wO ad os o)) (some (.int (W1 6))) (wC G ad W1 N1 (enO ad o) (wO ad os o)) := hb0
  refine j_iload hX dL_law_252 rfl ?_
  refine j_bipush hX (v := 112) (by decide) dL_law_254 ?_
  refine j_icmp_ne_t hX (tgt := 287) dL_law_256 (by decide) (by decide) ?_
  refine j_iload hX dL_law_287 rfl ?_
  refine j_bipush hX (v := 102) (by decide) dL_law_289 ?_
  refine j_icmp_ne_t hX (tgt := 321) dL_law_291 (by decide) (by decide) ?_
  refine j_iload hX dL_law_321 rfl ?_
  refine j_bipush hX (v := 98) (by decide) dL_law_323 ?_
  refine j_icmp_ne_t hX (tgt := 380) dL_law_325 (by decide) (by decide) ?_
  refine j_iconst hX (v := 2) (by decide) dL_law_380 ?_
  refine j_newai hX (N := 2) dL_law_381 (by decide +kernel) (by decide) (by decide +kernel) (by decide) ⟨by omega, by omega⟩ (fun qn => ?_)
  refine jW.pm (ws' := ((qn, .inl (G.2.2 0, 2, .inl (fun _ => 0))) :: (bg, .inl (G.2.2 0, 6, .inl gs)) :: (wC G ad V M (enO ad o) (wO ad os o)))) (List.perm_append_singleton _ _) ?_
  refine j_dup hX dL_law_383 rfl ?_
  refine j_iconst hX (v := 0) (by decide) dL_law_384 ?_
  refine j_iconst hX (v := 1) (by decide) dL_law_385 ?_
  refine j_iload hX dL_law_386 rfl ?_
  refine j_iconst hX (v := 4) (by decide) dL_law_388 ?_
  refine j_idiv hX dL_law_389 (by decide) ?_
  refine j_sipush hX (v := 600) (by decide) dL_law_390 ?_
  refine j_irem hX dL_law_393 (by decide) ?_
  refine j_iadd hX dL_law_394 ?_
  refine j_iast hX (ws' := ((qn, .inl (G.2.2 0, 2, .inl (upd (fun _ => 0) 0 (1 + (rm9 ((nI wn) / 4) 600))))) :: (bg, .inl (G.2.2 0, 6, .inl gs)) :: (wC G ad V M (enO ad o) (wO ad os o)))) dL_law_395 0 rfl (by unfold vp_in; decide +kernel) rfl ?_
  refine j_dup hX dL_law_396 rfl ?_
  refine j_iconst hX (v := 1) (by decide) dL_law_397 ?_
  refine j_iconst hX (v := 1) (by decide) dL_law_398 ?_
  refine j_iload hX dL_law_399 rfl ?_
  refine j_sipush hX (v := 2400) (by decide) dL_law_401 ?_
  refine j_idiv hX dL_law_404 (by decide) ?_
  refine j_bipush hX (v := 100) (by decide) dL_law_405 ?_
  refine j_irem hX dL_law_407 (by decide) ?_
  refine j_iadd hX dL_law_408 ?_
  refine j_iast hX (ws' := ((qn, .inl (G.2.2 0, 2, .inl (upd (upd (fun _ => 0) 0 (1 + (rm9 ((nI wn) / 4) 600))) 1 (1 + (rm9 ((nI wn) / 2400) 100))))) :: (bg, .inl (G.2.2 0, 6, .inl gs)) :: (wC G ad V M (enO ad o) (wO ad os o)))) dL_law_409 0 rfl (by unfold vp_in; decide +kernel) rfl ?_
  refine j_astore hX (ls' := [some (.ref b), some (.ref (ad 0)), some (.ref bg), some (.int (nI a)), some (.int sS), some (.int kI), some (.int vI), some (.int (nI wn)), some (.int wat), some (.long bef), none, some (.int 0), some (.int kd), some (.int 116), some (.ref qn), none, none, none]) dL_law_410 (Nat.le_of_ble_eq_true rfl) rfl rfl ?_
  refine j_iload hX dL_law_412 rfl ?_
  refine j_bipush hX (v := 17) (by decide) dL_law_414 ?_
  refine j_idiv hX dL_law_416 (by decide) ?_
  refine j_iconst hX (v := 5) (by decide) dL_law_417 ?_
  refine j_irem hX dL_law_418 (by decide) ?_
  refine j_iconst hX (v := 1) (by decide) dL_law_419 ?_
  refine j_isub hX dL_law_420 ?_
  refine j_istore hX (ls' := [some (.ref b), some (.ref (ad 0)), some (.ref bg), some (.int (nI a)), some (.int sS), some (.int kI), some (.int vI), some (.int (nI wn)), some (.int wat), some (.long bef), none, some (.int 0), some (.int kd), some (.int 116), some (.ref qn), some (.int ((rm9 ((nI wn) / 17) 5) - 1)), none, none]) dL_law_421 (Nat.le_of_ble_eq_true rfl) rfl rfl ?_
  refine j_aload_n hX dL_law_423 rfl ?_
  refine j_dVa hX (nA := 0) (cq := (RX11, TX11, 7)) (As := []) (st := []) (st' := [.int (W1 6)]) (ci := 12) (wa := [(qn, .inl (G.2.2 0, 2, .inl (upd (upd (fun _ => 0) 0 (1 + (rm9 ((nI wn) / 4) 600))) 1 (1 + (rm9 ((nI wn) / 2400) 100))))), (bg, .inl (G.2.2 0, 6, .inl gs))]) (w0 := (wC G ad V M (enO ad o) (wO ad os o))) (w1 := (wC G ad W1 N1 (enO ad o) (wO ad os o))) rfl dL_law_424 hbst gL_law_X11_bestDiscount rfl (by decide +kernel) (wCg0 G ad V M (enO ad o) (wO ad os o)) (by decide) (Nat.le_of_ble_eq_true rfl) rfl (Nat.le_of_ble_eq_true rfl) rfl ⟨by omega, by omega⟩ rfl rfl ?_
  refine j_istore hX (ls' := [some (.ref b), some (.ref (ad 0)), some (.ref bg), some (.int (nI a)), some (.int sS), some (.int kI), some (.int vI), some (.int (nI wn)), some (.int wat), some (.long bef), none, some (.int 0), some (.int kd), some (.int 116), some (.ref qn), some (.int ((rm9 ((nI wn) / 17) 5) - 1)), some (.int (W1 6)), none]) dL_law_427 (Nat.le_of_ble_eq_true rfl) rfl rfl ?_
  refine jW.pm (ws' := ((bg, .inl (G.2.2 0, 6, .inl gs)) :: (qn, .inl (G.2.2 0, 2, .inl (upd (upd (fun _ => 0) 0 (1 + (rm9 ((nI wn) / 4) 600))) 1 (1 + (rm9 ((nI wn) / 2400) 100))))) :: (wC G ad W1 N1 (enO ad o) (wO ad os o)))) (List.Perm.swap _ _ _) ?_
  refine j_aload_n hX dL_law_429 rfl ?_
  refine j_iload hX dL_law_430 rfl ?_
  refine j_aload hX dL_law_432 rfl ?_
  refine j_iconst hX (v := 1) (by decide) dL_law_434 ?_
  refine j_iload hX dL_law_435 rfl ?_
  refine j_iconst hX (v := 5) (by decide) dL_law_437 ?_
  refine j_idiv hX dL_law_438 (by decide) ?_
  refine j_iconst hX (v := 4) (by decide) dL_law_439 ?_
  refine j_irem hX dL_law_440 (by decide) ?_
  refine j_iadd hX dL_law_441 ?_
  refine j_iload hX dL_law_442 rfl ?_
  refine j_callHa hX hH (nA := 5) (As := [.ref (ad 0), .int 116, .ref qn, .int (1 + (rm9 ((nI wn) / 5) 4)), .int ((rm9 ((nI wn) / 17) 5) - 1)]) (st := []) (wa := [(bg, .inl (G.2.2 0, 6, .inl gs))]) (w0 := ((qn, .inl (G.2.2 0, 2, .inl (upd (upd (fun _ => 0) 0 (1 + (rm9 ((nI wn) / 4) 600))) 1 (1 + (rm9 ((nI wn) / 2400) 100))))) :: (wC G ad W1 N1 (enO ad o) (wO ad os o)))) dL_law_444 (d_offer_t G hG ad hS.1 hL1 (by unfold vp_in; decide +kernel) (by unfold vp_in; decide +kernel) (1 + (rm9 ((nI wn) / 5) 4)) ((rm9 ((nI wn) / 17) 5) - 1)) gL_law_L_offer rfl (by decide +kernel) (by decide) (Nat.le_of_ble_eq_true rfl) rfl (Nat.le_of_ble_eq_true rfl) ⟨by omega, by omega⟩ rfl rfl (fun rv444 w444 hp444 => ?_)
  rcases hp444 with ⟨W, N, X1', Y1', os', q, rfl, rfl, hR, hAd, hLW, hos', hgr⟩ | ⟨z, rfl, hz, rfl⟩
  · have ho5 : o < 6 := by
      have := hR.1.2.2.2.1.2.2
      omega
    show jW G X (k + 1 + 1) (n + 2 + 6) 447 [some (.ref b), some (.ref (ad 0)), some (.ref bg), some (.int (nI a)), some (.int sS), some (.int kI), some (.int vI), some (.int (nI wn)), some (.int wat), some (.long bef), none, some (.int 0), some (.int kd), some (.int 116), some (.ref qn), some (.int ((rm9 ((nI wn) / 17) 5) - 1)), some (.int (W1 6)), none] [.int (nI o)] ((bg, .inl (G.2.2 0, 6, .inl gs)) :: (qn, .inl (G.2.2 0, 2, .inl (upd (upd (fun _ => 0) 0 (1 + (rm9 ((nI wn) / 4) 600))) 1 (1 + (rm9 ((nI wn) / 2400) 100))))) :: (wC G (adU ad o q) W N (enO (adU ad o q) (o + 1)) (wO (adU ad o q) os' (o + 1))))
    obtain ⟨hszW, hnW, hsoW, ho6W, hosW⟩ := rx_KS hR
    have hmore := st_more hS hR hAd
    have n5 := hAd.1.2.2.1
    rw [n5] at hszW hnW
    rw [e5] at hszW hnW hmore
    have hbst2 := c_X11_bestDiscount G (adU ad o q) W N os' (o + 1) (cb (M' 5) a) hszW hnW hsoW ho6W hosW
    rw [adU_0] at hbst2
    have hg2 : ∀ j, j < o + 1 → (upd gs o ((rm9 ((nI wn) / 17) 5) - 1)) j = (os' j).2 1 := fun j hj => by
      by_cases e : j = o
      · rw [e, upd_self9]
        exact hgr.symm
      · rw [upd_ne9 e, hos' j (by omega)]
        exact hg j (by omega)
    have hfin := HW_find (G := G) (bg := bg) (gs := (upd gs o ((rm9 ((nI wn) / 17) 5) - 1))) (ad := adU ad o q) hR hLW hg2
    rw [adU_0, n5, e5] at hfin
    refine j_istore hX (ls' := [some (.ref b), some (.ref (ad 0)), some (.ref bg), some (.int (nI a)), some (.int sS), some (.int kI), some (.int vI), some (.int (nI wn)), some (.int wat), some (.long bef), none, some (.int (nI o)), some (.int kd), some (.int 116), some (.ref qn), some (.int ((rm9 ((nI wn) / 17) 5) - 1)), some (.int (W1 6)), none]) dL_law_447 (Nat.le_of_ble_eq_true rfl) rfl rfl ?_
    refine j_iload hX dL_law_449 rfl ?_
    refine j_if_lt_f hX (tgt := 471) dL_law_451 (by decide) (nI_pos (by omega)) ?_
    refine j_aload_n hX dL_law_454 rfl ?_
    refine j_iload hX dL_law_455 rfl ?_
    refine j_iload hX dL_law_457 rfl ?_
    refine j_iast hX (ws' := ((bg, .inl (G.2.2 0, 6, .inl (upd gs o ((rm9 ((nI wn) / 17) 5) - 1)))) :: (qn, .inl (G.2.2 0, 2, .inl (upd (upd (fun _ => 0) 0 (1 + (rm9 ((nI wn) / 4) 600))) 1 (1 + (rm9 ((nI wn) / 2400) 100))))) :: (wC G (adU ad o q) W N (enO (adU ad o q) (o + 1)) (wO (adU ad o q) os' (o + 1))))) dL_law_459 0 rfl (nI_in ho5 (by decide)) (by rw [nI_clamp (by omega)]; rfl) ?_
    refine j_aload_n hX dL_law_460 rfl ?_
    refine j_dVa hX (nA := 0) (cq := (RX11, TX11, 7)) (As := []) (st := []) (st' := [.int ((findF os' (o + 1) (cb (M' 5) a) (W, N)).1 6)]) (ci := 12) (wa := [(bg, .inl (G.2.2 0, 6, .inl (upd gs o ((rm9 ((nI wn) / 17) 5) - 1)))), (qn, .inl (G.2.2 0, 2, .inl (upd (upd (fun _ => 0) 0 (1 + (rm9 ((nI wn) / 4) 600))) 1 (1 + (rm9 ((nI wn) / 2400) 100)))))]) (w0 := (wC G (adU ad o q) W N (enO (adU ad o q) (o + 1)) (wO (adU ad o q) os' (o + 1)))) (w1 := (wC G (adU ad o q) ((findF os' (o + 1) (cb (M' 5) a) (W, N)).1) ((findF os' (o + 1) (cb (M' 5) a) (W, N)).2) (enO (adU ad o q) (o + 1)) (wO (adU ad o q) os' (o + 1)))) rfl dL_law_461 hbst2 gL_law_X11_bestDiscount rfl (by decide +kernel) (show ((wC G (adU ad o q) W N (enO (adU ad o q) (o + 1)) (wO (adU ad o q) os' (o + 1))))[0]? = some (ad 0, _) from by rw [wCg0, adU_0]) (by decide) (Nat.le_of_ble_eq_true rfl) rfl (Nat.le_of_ble_eq_true rfl) rfl ⟨by omega, by omega⟩ rfl rfl ?_
    refine j_iload hX dL_law_464 rfl ?_
    refine j_icmp_ge_t hX (tgt := 471) dL_law_466 (by decide) hmore ?_
    refine j_goto hX (tgt := 694) dL_law_471 (by decide) ?_
    refine jW.fewer (ws' := ((bg, .inl (G.2.2 0, 6, .inl (upd gs o ((rm9 ((nI wn) / 17) 5) - 1)))) :: (wC G (adU ad o q) ((findF os' (o + 1) (cb (M' 5) a) (W, N)).1) ((findF os' (o + 1) (cb (M' 5) a) (W, N)).2) (enO (adU ad o q) (o + 1)) (wO (adU ad o q) os' (o + 1))))) (List.Sublist.cons₂ _ (List.sublist_cons_self _ _)) ?_
    refine jW.drop (ls' := [some (.ref b), some (.ref (ad 0)), some (.ref bg), some (.int (nI a)), some (.int sS), some (.int kI), some (.int vI), some (.int (nI wn)), some (.int wat), some (.long bef), none, some (.int (nI o)), none, none, none, none, none, none]) ⟨Or.inr rfl, Or.inr rfl, Or.inr rfl, Or.inr rfl, Or.inr rfl, Or.inr rfl, Or.inr rfl, Or.inr rfl, Or.inr rfl, Or.inr rfl, Or.inr rfl, Or.inr rfl, Or.inl rfl, Or.inl rfl, Or.inl rfl, Or.inl rfl, Or.inl rfl, Or.inr rfl, trivial⟩ ?_
    refine jW.widen (k' := k + 300) (n' := n + 2000) (by omega) (by omega) ?_
    exact kk a (nI o) _ hfin (Or.inl (nI_ge9 (by omega)))
  · show jW G X (k + 1 + 1) (n + 2 + 6) 447 [some (.ref b), some (.ref (ad 0)), some (.ref bg), some (.int (nI a)), some (.int sS), some (.int kI), some (.int vI), some (.int (nI wn)), some (.int wat), some (.long bef), none, some (.int 0), some (.int kd), some (.int 116), some (.ref qn), some (.int ((rm9 ((nI wn) / 17) 5) - 1)), some (.int (W1 6)), none] [.int z] ((bg, .inl (G.2.2 0, 6, .inl gs)) :: (qn, .inl (G.2.2 0, 2, .inl (upd (upd (fun _ => 0) 0 (1 + (rm9 ((nI wn) / 4) 600))) 1 (1 + (rm9 ((nI wn) / 2400) 100))))) :: (wC G ad W1 N1 (enO ad o) (wO ad os o)))
    refine j_istore hX (ls' := [some (.ref b), some (.ref (ad 0)), some (.ref bg), some (.int (nI a)), some (.int sS), some (.int kI), some (.int vI), some (.int (nI wn)), some (.int wat), some (.long bef), none, some (.int z), some (.int kd), some (.int 116), some (.ref qn), some (.int ((rm9 ((nI wn) / 17) 5) - 1)), some (.int (W1 6)), none]) dL_law_447 (Nat.le_of_ble_eq_true rfl) rfl rfl ?_
    refine j_iload hX dL_law_449 rfl ?_
    refine j_if_lt_t hX (tgt := 471) dL_law_451 (by decide) hz ?_
    refine j_goto hX (tgt := 694) dL_law_471 (by decide) ?_
    refine jW.fewer (ws' := ((bg, .inl (G.2.2 0, 6, .inl gs)) :: (wC G ad W1 N1 (enO ad o) (wO ad os o)))) (List.Sublist.cons₂ _ (List.sublist_cons_self _ _)) ?_
    refine jW.drop (ls' := [some (.ref b), some (.ref (ad 0)), some (.ref bg), some (.int (nI a)), some (.int sS), some (.int kI), some (.int vI), some (.int (nI wn)), some (.int wat), some (.long bef), none, some (.int z), none, none, none, none, none, none]) ⟨Or.inr rfl, Or.inr rfl, Or.inr rfl, Or.inr rfl, Or.inr rfl, Or.inr rfl, Or.inr rfl, Or.inr rfl, Or.inr rfl, Or.inr rfl, Or.inr rfl, Or.inr rfl, Or.inl rfl, Or.inl rfl, Or.inl rfl, Or.inl rfl, Or.inl rfl, Or.inr rfl, trivial⟩ ?_
    refine jW.widen (k' := k + 300) (n' := n + 2000) (by omega) (by omega) ?_
    exact kk a z _ (HW_of hS.1 hL1 hg) (Or.inr (HZ_of (V' := W1') (M' := N1') (t := t) (c := c) hL1 hg (by rw [e5]; exact hZ1)))
