/-! SALES, RETURNS, PUTTING IN: what the calls' answers and numbers are. -/
section BOOK2
variable {V : Nat → Int32} {M : Nat → Nat → Int32} {os : Nat → ofr} {V' : Nat → Int32} {M' : Nat → Nat → Int32} {t : Int64} {a o c : Nat}
/-- what is sold costs no less than what is paid -/
def LE9 (V : Nat → Int32) : Prop := ∃ p e, V 11 = nI p ∧ V 12 = nI e ∧ e ≤ p ∧ p < 2 ^ 20
theorem LE9_of {W : Nat → Int32} (h : LE9 V) (e1 : W 11 = V 11) (e2 : W 12 = V 12) : LE9 W := by
  obtain ⟨p, e, h1, h2, h3⟩ := h
  exact ⟨p, e, e1.trans h1, e2.trans h2, h3⟩
/-- the same other side: the same numbers of sales -/
theorem LE9_rx (hL : LE9 V) (h : RX V M os V' M' t a o c) {W : Nat → Int32} {N : Nat → Nat → Int32} {W' : Nat → Int32} (h2 : RX W N os W' M' t a o c) : LE9 W := by
  obtain ⟨-, -, v11, v12, -⟩ := h.1.2.2.2.2.2.2.2.2.2.2
  obtain ⟨-, -, w11, w12, -⟩ := h2.1.2.2.2.2.2.2.2.2.2.2
  exact LE9_of hL (w11.trans v11.symm) (w12.trans v12.symm)
theorem st_V (os : Nat → ofr) (o n : Nat) (s : VM) : (findF os o n s).1 0 = s.1 0 ∧ (findF os o n s).1 2 = s.1 2 ∧ (findF os o n s).1 3 = s.1 3 ∧ (findF os o n s).1 4 = s.1 4 ∧ (findF os o n s).1 11 = s.1 11 ∧ (findF os o n s).1 12 = s.1 12 ∧ (findF os o n s).1 13 = s.1 13 ∧ (findF os o n s).1 14 = s.1 14 :=
  ⟨findF_V _ _ _ _ rfl rfl rfl rfl rfl rfl, findF_V _ _ _ _ rfl rfl rfl rfl rfl rfl, findF_V _ _ _ _ rfl rfl rfl rfl rfl rfl, findF_V _ _ _ _ rfl rfl rfl rfl rfl rfl, findF_V _ _ _ _ rfl rfl rfl rfl rfl rfl, findF_V _ _ _ _ rfl rfl rfl rfl rfl rfl, findF_V _ _ _ _ rfl rfl rfl rfl rfl rfl, findF_V _ _ _ _ rfl rfl rfl rfl rfl rfl⟩
/-- the basket's prices stay when the best is sought -/
theorem st_M4 (h : RX V M os V' M' t a o c) : (findF os o (cb (M' 5) a) (V, M)).2 4 = M 4 := by
  rcases h.2 with ⟨h1, -⟩ | ⟨h1, -, -⟩
  · obtain ⟨-, -, -, -, -, -, -, -, c9⟩ := find_c h.1 h1
    exact c9 4 rfl rfl rfl rfl rfl rfl rfl rfl rfl rfl rfl
  · have e1 : findF os o (cb (M' 5) a) (V, M) = (V, M) := if_neg (show ¬ V 1 = 0 by rw [h1]; decide)
    rw [e1]
set_option maxHeartbeats 1000000 in
/-- what a sale makes of the numbers -/
theorem st_sell (h : ST V M os V' M' t a o c) : ∃ tn : Nat → Nat, (∀ j, j < o → timesV V M (nI j) = nI (tn j)) ∧ (sellF os o (cb (M' 5) a) (V, M)).1 14 = V 14 + nI (sm tn o) ∧ (sellF os o (cb (M' 5) a) (V, M)).1 12 = nI (eS M' a + sm (fl a o c M') (cb (M' 5) a)) ∧ (sellF os o (cb (M' 5) a) (V, M)).1 11 = nI (pS M' a + sm (prX (cb (M' 5) a) (BX a M')) (cb (M' 5) a)) ∧ (sellF os o (cb (M' 5) a) (V, M)).1 13 = V 13 ∧ (sellF os o (cb (M' 5) a) (V, M)).1 2 = 0 := by
  have hid := st_id h (cb (M' 5) a)
  have hF := h.2.2.2
  have hc := h.1.1.1.2.2
  have ho := h.1.1.2.2.2.1.2.2
  have eS9 : sellF os o (cb (M' 5) a) (V, M) = (sV (sV (slB (slA (V, M) (cb (M' 5) a)) o).1 2 0) 1 0, (slB (slA (V, M) (cb (M' 5) a)) o).2) := by
    unfold sellF
    rw [hid]
  obtain ⟨-, g11, g12, gV, gM, -, -⟩ := slA_spec h.1 hF (cb (M' 5) a) (Nat.le_refl _)
  rw [eS9]
  generalize slA (V, M) (cb (M' 5) a) = sA at g11 g12 gV gM ⊢
  have htn : ∀ j, j < o → usM M' j = nI (usM M' j).toNatClampNeg := fun j hj => by
    obtain ⟨w, w1, w2⟩ := us_nat h.1 hF hj
    have := (bs_left h.1.1 hj).2.2.1
    rw [w1, nI_clamp (by omega)]
  obtain ⟨b14, bV, -, -, -⟩ := slB_spec (s := sA) (tn := fun j => (usM M' j).toNatClampNeg) (c := c) (o := o) hc ho ((gV 0 (by omega) (by omega) (by omega)).trans h.1.1.1.1) (fun j hj r r5 r21 r13 => by
    have e5 : r.1 5 = V 5 := r5.trans (gV 5 (by omega) (by omega) (by omega))
    have e21 : r.2 21 = M 21 := r21.trans (gM 21 (by omega) (by omega) (by omega))
    have e13 : r.2 13 = M 13 := r13.trans (gM 13 (by omega) (by omega) (by omega))
    have e : timesV r.1 r.2 (nI j) = timesV V M (nI j) := by
      have htm : ∀ n, tmF r.2 (nI j) n = tmF M (nI j) n := fun n => itr_ext (fun i s => by
        have hu : useV r.2 (nI i) = useV M (nI i) := by unfold useV; rw [e21]
        rw [hu, e13]) n 0
      unfold timesV
      rw [htm, e5]
    rw [e, FD_uses h.1 hF hj]
    exact htn j hj) o (Nat.le_refl o)
  generalize slB sA o = sB at b14 bV ⊢
  refine ⟨fun j => (usM M' j).toNatClampNeg, fun j hj => (FD_uses h.1 hF hj).trans (htn j hj), ?_, ?_, ?_, ?_, rfl⟩
  · show sB.1 14 = _
    rw [b14, gV 14 (by omega) (by omega) (by omega)]
  · exact (bV 12 (by omega)).trans g12
  · exact (bV 11 (by omega)).trans g11
  · exact (bV 13 (by omega)).trans (gV 13 (by omega) (by omega) (by omega))
/-- the turnover behind a sale -/
theorem st_turn (h : ST V M os V' M' t a o c) : ((sellF os o (cb (M' 5) a) (V, M)).1 12).toInt64 - ((sellF os o (cb (M' 5) a) (V, M)).1 13).toInt64 = ((V 12).toInt64 - (V 13).toInt64) + (nI (sm (fl a o c M') (cb (M' 5) a))).toInt64 := by
  obtain ⟨-, -, -, g12, -, g13, -⟩ := st_sell h
  obtain ⟨-, -, -, v12, v13, -, -⟩ := h.1.1.2.2.2.2.2.2.2.2.2.2
  obtain ⟨-, -, -, -, -, b1, b2, -⟩ := so_spec h.1
  have hs := (bs_sum h.1.1).2.2
  have hf := st_sum h
  rw [g12, g13, v12, v13, nI_l (by omega), nI_l (by omega), nI_l (by omega), nI_l (by omega), ← lN_add, Int64.sub_eq_add_neg, Int64.sub_eq_add_neg, Int64.add_assoc, Int64.add_assoc, Int64.add_comm (lN (sm (fl a o c M') (cb (M' 5) a)))]
theorem st_LE (h : ST V M os V' M' t a o c) (hL : LE9 V) : LE9 (sellF os o (cb (M' 5) a) (V, M)).1 := by
  obtain ⟨-, -, -, g12, g11, -, -⟩ := st_sell h
  obtain ⟨-, -, v11, v12, -, -, -⟩ := h.1.1.2.2.2.2.2.2.2.2.2.2
  obtain ⟨p, e, h1, h2, h3, h4⟩ := hL
  obtain ⟨-, -, -, -, b0, b1, b2, -⟩ := so_spec h.1
  have hs := (bs_sum h.1.1).2.2
  have hf := st_sum h
  have hn := h.1.1.2.2.1.2
  have e1 : p = pS M' a := (nI_eq (by omega) (by omega)).mp (h1.symm.trans v11)
  have e2 : e = eS M' a := (nI_eq (by omega) (by omega)).mp (h2.symm.trans v12)
  have e3 : sm (prX (cb (M' 5) a) (BX a M')) 7 = sm (prX (cb (M' 5) a) (BX a M')) (cb (M' 5) a) := sm_up (fun k hk => if_neg (by omega)) hn
  have hm : sm (prX (cb (M' 5) a) (BX a M')) (cb (M' 5) a) ≤ 9999 * (cb (M' 5) a) := by
    have h9 : sm (prX (cb (M' 5) a) (BX a M')) (cb (M' 5) a) ≤ sm (fun _ => 9999) (cb (M' 5) a) := sm_le (fun k hk => (bs_pr h.1.1 hk).2.2.1)
    rw [sm_const] at h9
    exact h9
  have hm2 : 9999 * (cb (M' 5) a) ≤ 9999 * 7 := Nat.mul_le_mul_left _ hn
  exact ⟨_, _, g11, g12, by omega, by omega⟩
theorem LX_0 {B : Nat → Nat → Int32} (hm : LX 0 o c B ∈ lvs (qX 0 o c B) (usX 0 o c B) 0 0 []) : LX 0 o c B = [] := by
  rw [lvs] at hm
  exact List.mem_singleton.mp hm
theorem qsum_0 {B : Nat → Nat → Int32} : qsum (qX 0 o c B) = 0 := by
  have e : ∀ n, qsum (qX n o c B) = sm (prX n B) 7 := fun n => rfl
  have e2 : ∀ n, (∀ k, ¬ k < n) → sm (prX n B) 7 = 0 := fun n hn => (sm_eq (f := prX n B) (g := fun _ => 0) (fun k _ => if_neg (hn k))).trans (sm_0 7)
  exact (e 0).trans (e2 0 Nat.not_lt_zero)
theorem qth_1 (h : RX V M os V' M' t a o c) {j : Nat} (hjo : j < o) (h6 : M' 6 j = 116) : 1 ≤ (M' 7 j).toNatClampNeg := by
  obtain ⟨-, -, -, -, hr⟩ := h.1.2.2.2.2.2.1 j hjo
  rcases hr with ⟨-, z, -⟩ | ⟨-, z, -⟩ | ⟨-, z, -⟩ | ⟨-, -, z7, -, -, w, -⟩
  · rw [h6] at z; exact absurd z (by decide)
  · rw [h6] at z; exact absurd z (by decide)
  · rw [h6] at z; exact absurd z (by decide)
  · obtain ⟨e, w1, w2, w3⟩ := wi_nat (lo := 1) (hi := 9999) (by decide) (by decide) w
    rw [z7, w3, nI_clamp (by omega)]
    exact w1
theorem thr_0 (h : RX V M os V' M' t a o c) : thr (qX 0 o c (BX a M')) [] = 0 := by
  unfold thr
  refine (sm_eq (g := fun _ => 0) (fun j hj => if_neg (fun hs => ?_))).trans (sm_0 6)
  obtain ⟨k1, -, k3, -⟩ := can_iff.mp (sel_iff.mp hs).1
  rw [qsum_0] at k3
  have hjo : j < o := by
    by_cases e : j < o
    · exact e
    · rw [bs_T6 (by omega)] at k1; cases k1
  have h116 : M' 6 j = 116 := (bs_T (n := 0) (c := c) (B := BX a M') hjo).mpr k1
  have h1 := qth_1 h hjo h116
  have eq : qth (qX 0 o c (BX a M')) j = (M' 7 j).toNatClampNeg := rfl
  rw [eq] at k3
  omega
/-- an empty basket has no discount -/
theorem st_zero (h : RX V M os V' M' t a o c) (h2 : V 2 = 0) : (cb (M' 5) a) = 0 ∧ (findF os o 0 (V, M)).1 6 = 0 := by
  have hn := h.1.2.2.1
  have e0 : (cb (M' 5) a) = 0 := (nI_eq (by omega) (by omega)).mp (hn.1.symm.trans (h2.trans nI_0.symm))
  refine ⟨e0, ?_⟩
  obtain ⟨g1, g2, g3⟩ := st_find h
  obtain ⟨e1, b1⟩ := st_best g1
  rw [g2, g3, e0] at e1
  obtain ⟨-, -, hm⟩ := bs_L h.1
  rw [e0] at hm
  have ev : vl (qX 0 o c (BX a M')) [] = 0 := by
    unfold vl
    rw [thr_0 h]
    rfl
  rw [e1, LX_0 hm, ev]
  exact nI_0
/-- a return: its price, what is kept of the turnover, and that there is no second -/
theorem st_back (h : RX V M os V' M' t a o c) {x : Int32} (hx : xback M x = none) : ∃ w, atF 60 (M 29) x = nI w ∧ w ≤ 9999 ∧ (backF (V, M) x).1 13 = V 13 + nI w ∧ (backF (V, M) x).1 12 = V 12 ∧ (backF (V, M) x).1 11 = V 11 ∧ xback (backF (V, M) x).2 x = some eISE := by
  have ha := h.1.2.1.2.2
  have h26 : ¬ zAt (M 26) x = 0 := fun e => by
    unfold xback at hx
    rw [if_pos e] at hx
    cases hx
  rcases sold_two h x with ⟨-, g⟩ | ⟨-, g, z, hz, e, hs⟩
  · exact absurd g h26
  · obtain ⟨-, -, hr⟩ := h.1.2.2.2.2.2.2.2.2.2.2.1 z (by omega)
    obtain ⟨-, r29, w, hw, r3⟩ := hr hz hs
    subst e
    have eb : backF (V, M) (nI z) = (sV V 13 (V 13 + atF 60 (M 29) (nI z)), sM M 27 (upd (M 27) (nI z).toNatClampNeg 1)) := by
      unfold backF
      rw [if_neg (nI_pos (by omega)), if_neg (show ¬ (60 : Int32) ≤ nI z from nI_ge (show z < 60 by omega) (by decide))]
    have e29 : atF 60 (M 29) (nI z) = nI w := by rw [atF_nI (by omega) (by decide), r29, r3]
    refine ⟨w, e29, hw, ?_, ?_, ?_, ?_⟩
    · rw [eb, e29]; rfl
    · rw [eb]; rfl
    · rw [eb]; rfl
    · rw [eb]
      have z26 : zAt (sM M 27 (upd (M 27) (nI z).toNatClampNeg 1) 26) (nI z) = zAt (M 26) (nI z) := rfl
      have z27 : zAt (sM M 27 (upd (M 27) (nI z).toNatClampNeg 1) 27) (nI z) = 1 := by
        show zAt (upd (M 27) (nI z).toNatClampNeg 1) (nI z) = 1
        unfold zAt
        rw [if_neg (nI_pos (by omega)), if_neg (show ¬ (60 : Int32) ≤ nI z from nI_ge (show z < 60 by omega) (by decide)), upd_self9, if_neg (by decide)]
      show (if zAt (sM M 27 (upd (M 27) (nI z).toNatClampNeg 1) 26) (nI z) = 0 then some eNSE else if zAt (sM M 27 (upd (M 27) (nI z).toNatClampNeg 1) 27) (nI z) = 0 then none else some eISE) = some eISE
      rw [z26, z27, if_neg h26, if_neg (by decide)]
theorem st_kept (h : RX V M os V' M' t a o c) {w : Nat} (hw : w ≤ 9999) : (V 12).toInt64 - (V 13 + nI w).toInt64 = ((V 12).toInt64 - (V 13).toInt64) - (nI w).toInt64 := by
  obtain ⟨-, -, -, v12, v13, -, -⟩ := h.1.2.2.2.2.2.2.2.2.2.2
  obtain ⟨-, -, -, -, -, b1, b2, -⟩ := so_spec h
  rw [v12, v13, nI_add, nI_l (by omega), nI_l (by omega), nI_l (by omega), nI_l (by omega), ← lN_add, Int64.sub_eq_add_neg, Int64.sub_eq_add_neg, Int64.sub_eq_add_neg, Int64.neg_add, Int64.sub_eq_add_neg, Int64.add_assoc]
/-- what is put in is in the basket -/
theorem st_put {kind price : Int32} (h4 : (mput a V' M' kind price).2.1 4 = 0) : (mput a V' M' kind price).2.2 5 a = 98 := by
  unfold mput at h4 ⊢
  by_cases h0 : mputT a (cb (M' 5) a) kind price = 0
  · rw [if_pos h0]
    exact upd_self9 (M' 5) a 98
  · rw [if_neg h0] at h4
    exact absurd h4 h0
end BOOK2
