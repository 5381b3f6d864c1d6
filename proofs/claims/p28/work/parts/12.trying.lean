theorem fX8_mostOfThresholds_38 : jF wsX8_mostOfThresholds RX8 38 9 1 true (.object "BasketOffers$OfferBook") := ⟨(RX8, TX8, 12), tyX8, rfl, by decide, by decide +kernel, by decide +kernel, tyX8_ok, nmX8, rfl, by decide +kernel, by decide +kernel⟩
theorem fX8_mostByTrying_12 : jF wsX8_mostByTrying RX8 12 9 2 true (.object "BasketOffers$UseList") := ⟨(RX8, TX8, 12), tyX8, rfl, by decide, by decide +kernel, by decide +kernel, tyX8_ok, nmX8, rfl, by decide +kernel, by decide +kernel⟩
def mxF (x y : Int32) : Int32 := if x < y then y else x
def motF (V : Nat → Int32) (M : Nat → Nat → Int32) : Nat → Nat → Int32 → Int32 → Int32
  | 0, _, _, _ => 0
  | k + 1, j, taken, disc => if nI j < 6 then (if allowsV V M (nI j) taken disc = 0 then motF V M k (j + 1) taken disc else mxF (motF V M k (j + 1) taken disc) (atF 6 (M 9) (nI j) + motF V M k (j + 1) (taken ||| (1 <<< (nI j &&& 31))) disc)) else 0
theorem lt6_of {p : Nat} (h : nI p < 6) (hp : p < 2 ^ 31) : p < 6 := (nI_ltI (b := 6) hp (by decide)).mp h
set_option maxHeartbeats 4000000 in
set_option maxRecDepth 100000 in
theorem c_mot_step (G : jG) (ad : Nat → Nat) (V : Nat → Int32) (M : Nat → Nat → Int32) (en : Nat → Option Nat) (wo : va_W) (k j : Nat) (hjk : j + k = 6) (hrec : j < 6 → ∀ (taken disc : Int32), jD G (2 + k) yX8_mostOfThresholds wsX8_mostOfThresholds [.ref (ad 11), .int (nI (j + 1)), .int taken, .int disc] (wC G ad V M en wo) (some (.int (motF V M k (j + 1) taken disc))) (wC G ad V M en wo)) (hj31 : j < 2 ^ 31) (taken disc : Int32) : jD G (3 + k) yX8_mostOfThresholds wsX8_mostOfThresholds [.ref (ad 11), .int (nI j), .int taken, .int disc] (wC G ad V M en wo) (some (.int (motF V M (k + 1) j taken disc))) (wC G ad V M en wo) := by
  refine jC.of (maxL := 6) (cc := cX8_mostOfThresholds) (ret := (some .int)) rfl (by decide) [some (.ref (ad 11)), some (.int (nI j)), some (.int taken), some (.int disc), none, none] rfl (Nat.le_of_ble_eq_true rfl) (j_args rfl) (fun X hX => ?_)
  refine j_iload_n hX dX8_mostOfThresholds_0 rfl ?_
  refine j_bipush hX (v := 6) (by decide) dX8_mostOfThresholds_1 ?_
  refine j_icmp_lt hX (tgt := 8) dX8_mostOfThresholds_3 (by decide) (fun h3 => ?_) (fun h3 => ?_)
  · refine j_aload_n hX dX8_mostOfThresholds_8 rfl ?_
    refine j_iload_n hX dX8_mostOfThresholds_9 rfl ?_
    refine j_iconst hX (v := 1) (by decide) dX8_mostOfThresholds_10 ?_
    refine j_iadd hX dX8_mostOfThresholds_11 ?_
    refine jW.top (nI_1 _) ?_
    refine j_iload_n hX dX8_mostOfThresholds_12 rfl ?_
    refine j_iload_n hX dX8_mostOfThresholds_13 rfl ?_
    refine j_dV hX (nA := 3) (cq := (RX8, TX8, 12)) (As := [.int (nI (j + 1)), .int taken, .int disc]) (st := []) (st' := [.int (motF V M k (j + 1) taken disc)]) (ci := 9) rfl dX8_mostOfThresholds_14 (hrec (lt6_of h3 hj31) _ _) gX8_mostOfThresholds_X8_mostOfThresholds rfl (by decide +kernel) (q := 11) (wCg11 _ _ _ _ _ _) (by omega) (Nat.le_of_ble_eq_true rfl) rfl (Nat.le_of_ble_eq_true rfl) rfl ⟨Nat.le_refl _, Nat.le_refl _⟩ rfl ?_
    refine j_istore hX (ls' := [some (.ref (ad 11)), some (.int (nI j)), some (.int taken), some (.int disc), some (.int (motF V M k (j + 1) taken disc)), none]) dX8_mostOfThresholds_17 (Nat.le_of_ble_eq_true rfl) rfl rfl ?_
    refine j_aload_n hX dX8_mostOfThresholds_19 rfl ?_
    refine j_iload_n hX dX8_mostOfThresholds_20 rfl ?_
    refine j_iload_n hX dX8_mostOfThresholds_21 rfl ?_
    refine j_iload_n hX dX8_mostOfThresholds_22 rfl ?_
    refine j_dV hX (nA := 3) (cq := (RX8, TX8, 12)) (As := [.int (nI j), .int taken, .int disc]) (st := []) (st' := [.int (allowsV V M (nI j) taken disc)]) (ci := 9) rfl dX8_mostOfThresholds_23 (c_X8_allowsThreshold G _ _ _ _ _ _ _ _) gX8_mostOfThresholds_X8_allowsThreshold rfl (by decide +kernel) (q := 11) (wCg11 _ _ _ _ _ _) (by omega) (Nat.le_of_ble_eq_true rfl) rfl (Nat.le_of_ble_eq_true rfl) rfl ⟨Nat.le_refl _, Nat.le_refl _⟩ rfl ?_
    refine j_if_eq hX (tgt := 62) dX8_mostOfThresholds_26 (by decide) (fun h26 => ?_) (fun h26 => ?_)
    · refine j_iload hX dX8_mostOfThresholds_62 rfl ?_
      exact j_iret hX dX8_mostOfThresholds_64 ⟨(congrArg (fun z => some (Value.int z)) (show motF V M (k + 1) j taken disc = motF V M k (j + 1) taken disc from ((if_pos h3).trans (if_pos h26)))).symm, rfl⟩
    · refine j_aload_n hX dX8_mostOfThresholds_29 rfl ?_
      refine j_getf hX (v := .ref (ad 5)) dX8_mostOfThresholds_30 fX8_mostOfThresholds_38 11 (wCg11 _ _ _ _ _ _) rfl ?_
      refine j_iload_n hX dX8_mostOfThresholds_33 rfl ?_
      refine j_dV hX (nA := 1) (cq := (RX6, TX6, 6)) (As := [.int (nI j)]) (st := []) (st' := [.int (atF 6 (M 9) (nI j))]) (ci := 7) rfl dX8_mostOfThresholds_34 (c_X6_amountOf G _ _ _ _ _ _) gX8_mostOfThresholds_X6_amountOf rfl (by decide +kernel) (q := 5) (wCg5 _ _ _ _ _ _) (by omega) (Nat.le_of_ble_eq_true rfl) rfl (Nat.le_of_ble_eq_true rfl) rfl ⟨Nat.le_refl _, Nat.le_refl _⟩ rfl ?_
      refine j_aload_n hX dX8_mostOfThresholds_37 rfl ?_
      refine j_iload_n hX dX8_mostOfThresholds_38 rfl ?_
      refine j_iconst hX (v := 1) (by decide) dX8_mostOfThresholds_39 ?_
      refine j_iadd hX dX8_mostOfThresholds_40 ?_
      refine jW.top (nI_1 _) ?_
      refine j_iload_n hX dX8_mostOfThresholds_41 rfl ?_
      refine j_iconst hX (v := 1) (by decide) dX8_mostOfThresholds_42 ?_
      refine j_iload_n hX dX8_mostOfThresholds_43 rfl ?_
      refine j_ishl hX dX8_mostOfThresholds_44 ?_
      refine j_ior hX dX8_mostOfThresholds_45 ?_
      refine j_iload_n hX dX8_mostOfThresholds_46 rfl ?_
      refine j_dV hX (nA := 3) (cq := (RX8, TX8, 12)) (As := [.int (nI (j + 1)), .int (taken ||| (1 <<< ((nI j) &&& 31))), .int disc]) (st := [.int (atF 6 (M 9) (nI j))]) (st' := [.int (motF V M k (j + 1) (taken ||| (1 <<< ((nI j) &&& 31))) disc), .int (atF 6 (M 9) (nI j))]) (ci := 9) rfl dX8_mostOfThresholds_47 (hrec (lt6_of h3 hj31) _ _) gX8_mostOfThresholds_X8_mostOfThresholds rfl (by decide +kernel) (q := 11) (wCg11 _ _ _ _ _ _) (by omega) (Nat.le_of_ble_eq_true rfl) rfl (Nat.le_of_ble_eq_true rfl) rfl ⟨Nat.le_refl _, Nat.le_refl _⟩ rfl ?_
      refine j_iadd hX dX8_mostOfThresholds_50 ?_
      refine j_istore hX (ls' := [some (.ref (ad 11)), some (.int (nI j)), some (.int taken), some (.int disc), some (.int (motF V M k (j + 1) taken disc)), some (.int ((atF 6 (M 9) (nI j)) + (motF V M k (j + 1) (taken ||| (1 <<< ((nI j) &&& 31))) disc)))]) dX8_mostOfThresholds_51 (Nat.le_of_ble_eq_true rfl) rfl rfl ?_
      refine j_iload hX dX8_mostOfThresholds_53 rfl ?_
      refine j_iload hX dX8_mostOfThresholds_55 rfl ?_
      refine j_mmax hX dX8_mostOfThresholds_57 (by decide +kernel) (by decide +kernel) (by decide +kernel) (by decide +kernel) (by omega) rfl (Nat.le_of_ble_eq_true rfl) ⟨Nat.le_refl _, Nat.le_refl _⟩ ?_
      refine jW.top (y := mxF (motF V M k (j + 1) taken disc) (atF 6 (M 9) (nI j) + motF V M k (j + 1) (taken ||| (1 <<< (nI j &&& 31))) disc)) rfl ?_
      refine j_istore hX (ls' := [some (.ref (ad 11)), some (.int (nI j)), some (.int taken), some (.int disc), some (.int (mxF (motF V M k (j + 1) taken disc) (atF 6 (M 9) (nI j) + motF V M k (j + 1) (taken ||| (1 <<< (nI j &&& 31))) disc))), some (.int ((atF 6 (M 9) (nI j)) + (motF V M k (j + 1) (taken ||| (1 <<< ((nI j) &&& 31))) disc)))]) dX8_mostOfThresholds_60 (Nat.le_of_ble_eq_true rfl) rfl rfl ?_
      refine j_iload hX dX8_mostOfThresholds_62 rfl ?_
      exact j_iret hX dX8_mostOfThresholds_64 ⟨(congrArg (fun z => some (Value.int z)) (show motF V M (k + 1) j taken disc = mxF (motF V M k (j + 1) taken disc) (atF 6 (M 9) (nI j) + motF V M k (j + 1) (taken ||| (1 <<< (nI j &&& 31))) disc) from ((if_pos h3).trans (if_neg h26)))).symm, rfl⟩
  · refine j_iconst hX (v := 0) (by decide) dX8_mostOfThresholds_6 ?_
    exact j_iret hX dX8_mostOfThresholds_7 ⟨(congrArg (fun z => some (Value.int z)) (show motF V M (k + 1) j taken disc = 0 from (if_neg h3))).symm, rfl⟩

theorem c_X8_mostOfThresholds (G : jG) (ad : Nat → Nat) (V : Nat → Int32) (M : Nat → Nat → Int32) (en : Nat → Option Nat) (wo : va_W) : ∀ (k j : Nat), j + k = 6 → ∀ (taken disc : Int32), jD G (3 + k) yX8_mostOfThresholds wsX8_mostOfThresholds [.ref (ad 11), .int (nI j), .int taken, .int disc] (wC G ad V M en wo) (some (.int (motF V M (k + 1) j taken disc))) (wC G ad V M en wo)
  | 0, j, hjk, taken, disc => c_mot_step G ad V M en wo 0 j hjk (fun h => absurd h (by omega)) (by omega) taken disc
  | k + 1, j, hjk, taken, disc => c_mot_step G ad V M en wo (k + 1) j hjk (fun _ taken disc => by
      have h := c_X8_mostOfThresholds G ad V M en wo k (j + 1) (by omega) taken disc
      rwa [show 3 + k = 2 + (k + 1) by omega] at h) (by omega) taken disc
def mbS (rec : Nat → Int32 → Int32 → Int32 → VM → Int32 × VM) (st : Nat → Nat) (p : Nat) (free disc taken : Int32) (i : Nat) (r : Int32 × VM) : Int32 × VM :=
  if fitsV r.2.2 (nI (st p + i)) free taken = 0 then r else
    (mxF r.1 (rec (p + 1) (free &&& (atF 210 ((chM r.2.2 (nI (st p + i)) (-1)) 14) (nI (st p + i)) ^^^ -1)) (disc + atF 210 ((chM r.2.2 (nI (st p + i)) (-1)) 15) (nI (st p + i))) (taken ||| (1 <<< (atF 210 ((chM r.2.2 (nI (st p + i)) (-1)) 13) (nI (st p + i)) &&& 31))) (r.2.1, chM r.2.2 (nI (st p + i)) (-1))).1, ((rec (p + 1) (free &&& (atF 210 ((chM r.2.2 (nI (st p + i)) (-1)) 14) (nI (st p + i)) ^^^ -1)) (disc + atF 210 ((chM r.2.2 (nI (st p + i)) (-1)) 15) (nI (st p + i))) (taken ||| (1 <<< (atF 210 ((chM r.2.2 (nI (st p + i)) (-1)) 13) (nI (st p + i)) &&& 31))) (r.2.1, chM r.2.2 (nI (st p + i)) (-1))).2.1, chM (rec (p + 1) (free &&& (atF 210 ((chM r.2.2 (nI (st p + i)) (-1)) 14) (nI (st p + i)) ^^^ -1)) (disc + atF 210 ((chM r.2.2 (nI (st p + i)) (-1)) 15) (nI (st p + i))) (taken ||| (1 <<< (atF 210 ((chM r.2.2 (nI (st p + i)) (-1)) 13) (nI (st p + i)) &&& 31))) (r.2.1, chM r.2.2 (nI (st p + i)) (-1))).2.2 (nI (st p + i)) 1))
def mbF (st : Nat → Nat) : Nat → Nat → Int32 → Int32 → Int32 → VM → Int32 × VM
  | 0, _, _, _, _, s => (0, s)
  | k + 1, p, free, disc, taken, s =>
    if nI p < 7 then
      (if isInV free (nI p) = 0 then mbF st k (p + 1) (free &&& (bitF (nI p) ^^^ -1)) disc taken s
       else itr (mbS (mbF st k) st p free disc taken) (st (p + 1) - st p) (mbF st k (p + 1) (free &&& (bitF (nI p) ^^^ -1)) disc taken s))
    else (disc + motF s.1 s.2 7 0 taken disc, s)
theorem itr_P {α : Type} {f : Nat → α → α} {P : α → Prop} (h : ∀ i s, P s → P (f i s)) {s : α} (h0 : P s) : ∀ i, P (itr f i s)
  | 0 => h0
  | i + 1 => h i _ (itr_P h h0 i)
theorem mbF_M (st : Nat → Nat) {k : Nat} (hk : Nat.beq k 17 = false) : ∀ (f p : Nat) (free disc taken : Int32) (s : VM), (mbF st f p free disc taken s).2.2 k = s.2 k
  | 0, _, _, _, _, _ => rfl
  | f + 1, p, free, disc, taken, s => by
    have h0 := mbF_M st hk f (p + 1) (free &&& (bitF (nI p) ^^^ -1)) disc taken s
    have hS : ∀ i (r : Int32 × VM), r.2.2 k = s.2 k → (mbS (mbF st f) st p free disc taken i r).2.2 k = s.2 k := by
      intro i r hr
      unfold mbS
      split
      · exact hr
      · exact (chM_M _ _ _ hk).trans ((mbF_M st hk f _ _ _ _ _).trans ((chM_M _ _ _ hk).trans hr))
    rw [mbF]
    split
    · split
      · exact h0
      · exact itr_P (P := fun (r : Int32 × VM) => r.2.2 k = s.2 k) hS h0 _
    · rfl
theorem mbF_V (st : Nat → Nat) : ∀ (f p : Nat) (free disc taken : Int32) (s : VM), (mbF st f p free disc taken s).2.1 = s.1
  | 0, _, _, _, _, _ => rfl
  | f + 1, p, free, disc, taken, s => by
    have h0 := mbF_V st f (p + 1) (free &&& (bitF (nI p) ^^^ -1)) disc taken s
    have hS : ∀ i (r : Int32 × VM), r.2.1 = s.1 → (mbS (mbF st f) st p free disc taken i r).2.1 = s.1 := by
      intro i r hr
      unfold mbS
      split
      · exact hr
      · exact (mbF_V st f _ _ _ _ _).trans hr
    rw [mbF]
    split
    · split
      · exact h0
      · exact itr_P (P := fun (r : Int32 × VM) => r.2.1 = s.1) hS h0 _
    · rfl
theorem mbI_M (st : Nat → Nat) (f p : Nat) (free disc taken : Int32) (r : Int32 × VM) (i : Nat) {k : Nat} (hk : Nat.beq k 17 = false) : (itr (mbS (mbF st f) st p free disc taken) i r).2.2 k = r.2.2 k := by
  refine itr_P (P := fun (q : Int32 × VM) => q.2.2 k = r.2.2 k) (fun j q hq => ?_) rfl i
  unfold mbS
  split
  · exact hq
  · exact (chM_M _ _ _ hk).trans ((mbF_M st hk f _ _ _ _ _).trans ((chM_M _ _ _ hk).trans hq))
set_option maxHeartbeats 4000000 in
set_option maxRecDepth 100000 in
theorem c_mb_step (G : jG) (ad : Nat → Nat) (en : Nat → Option Nat) (wo : va_W) (st : Nat → Nat) (k p : Nat) (hpk : p + k = 7) (hrec : p < 7 → ∀ (free disc taken : Int32) (V : Nat → Int32) (M : Nat → Nat → Int32), (∀ q, q ≤ 7 → atF 8 (M 16) (nI q) = nI (st q) ∧ st q ≤ 210) → jD G (10 + k) yX8_mostByTrying wsX8_mostByTrying [.ref (ad 11), .int (nI (p + 1)), .int free, .int disc, .int taken] (wC G ad V M en wo) (some (.int (mbF st k (p + 1) free disc taken (V, M)).1)) (wC G ad (mbF st k (p + 1) free disc taken (V, M)).2.1 (mbF st k (p + 1) free disc taken (V, M)).2.2 en wo)) (hp31 : p < 2 ^ 31) (free disc taken : Int32) (V : Nat → Int32) (M : Nat → Nat → Int32) (hst : ∀ q, q ≤ 7 → atF 8 (M 16) (nI q) = nI (st q) ∧ st q ≤ 210) : jD G (11 + k) yX8_mostByTrying wsX8_mostByTrying [.ref (ad 11), .int (nI p), .int free, .int disc, .int taken] (wC G ad V M en wo) (some (.int (mbF st (k + 1) p free disc taken (V, M)).1)) (wC G ad (mbF st (k + 1) p free disc taken (V, M)).2.1 (mbF st (k + 1) p free disc taken (V, M)).2.2 en wo) := by
  refine jC.of (maxL := 8) (cc := cX8_mostByTrying) (ret := (some .int)) rfl (by decide) [some (.ref (ad 11)), some (.int (nI p)), some (.int free), some (.int disc), some (.int taken), none, none, none] rfl (Nat.le_of_ble_eq_true rfl) (j_args rfl) (fun X hX => ?_)
  refine j_iload_n hX dX8_mostByTrying_0 rfl ?_
  refine j_bipush hX (v := 7) (by decide) dX8_mostByTrying_1 ?_
  refine j_icmp_lt hX (tgt := 17) dX8_mostByTrying_3 (by decide) (fun h3 => ?_) (fun h3 => ?_)
  · have hp7 : p < 7 := lt7_of h3 hp31
    refine j_aload_n hX dX8_mostByTrying_17 rfl ?_
    refine j_iload_n hX dX8_mostByTrying_18 rfl ?_
    refine j_iconst hX (v := 1) (by decide) dX8_mostByTrying_19 ?_
    refine j_iadd hX dX8_mostByTrying_20 ?_
    refine jW.top (nI_1 _) ?_
    refine j_iload_n hX dX8_mostByTrying_21 rfl ?_
    refine j_iload_n hX dX8_mostByTrying_22 rfl ?_
    refine j_dSN hX (nA := 1) (As := [.int (nI p)]) (st := [.int free, .int (nI (p + 1)), .ref (ad 11)]) (st' := [.int (bitF (nI p)), .int free, .int (nI (p + 1)), .ref (ad 11)]) dX8_mostByTrying_23 (c_bitOf G) gX8_mostByTrying_X11_bitOf_n140 rfl (by decide +kernel) (host := "BasketOffers") (by decide +kernel) (by decide +kernel) (by decide +kernel) (by omega) (Nat.le_of_ble_eq_true rfl) rfl (Nat.le_of_ble_eq_true rfl) rfl ⟨Nat.le_refl _, Nat.le_refl _⟩ rfl ?_
    refine j_iconst hX (v := -1) (by decide) dX8_mostByTrying_26 ?_
    refine j_ixor hX dX8_mostByTrying_27 ?_
    refine j_iand hX dX8_mostByTrying_28 ?_
    refine j_iload_n hX dX8_mostByTrying_29 rfl ?_
    refine j_iload hX dX8_mostByTrying_30 rfl ?_
    refine j_dV hX (nA := 4) (cq := (RX8, TX8, 12)) (As := [.int (nI (p + 1)), .int (free &&& ((bitF (nI p)) ^^^ (-1))), .int disc, .int taken]) (st := []) (st' := [.int ((mbF st k (p + 1) (free &&& ((bitF (nI p)) ^^^ (-1))) disc taken (V, M)).1)]) (ci := 9) rfl dX8_mostByTrying_32 (hrec hp7 _ _ _ _ _ (fun q hq => hst q hq)) gX8_mostByTrying_X8_mostByTrying rfl (by decide +kernel) (q := 11) (wCg11 _ _ _ _ _ _) (by omega) (Nat.le_of_ble_eq_true rfl) rfl (Nat.le_of_ble_eq_true rfl) rfl ⟨Nat.le_refl _, Nat.le_refl _⟩ rfl ?_
    refine j_istore hX (ls' := [some (.ref (ad 11)), some (.int (nI p)), some (.int free), some (.int disc), some (.int taken), some (.int ((mbF st k (p + 1) (free &&& ((bitF (nI p)) ^^^ (-1))) disc taken (V, M)).1)), none, none]) dX8_mostByTrying_35 (Nat.le_of_ble_eq_true rfl) rfl rfl ?_
    refine j_iload_n hX dX8_mostByTrying_37 rfl ?_
    refine j_iload_n hX dX8_mostByTrying_38 rfl ?_
    refine j_dSN hX (nA := 2) (As := [.int free, .int (nI p)]) (st := []) (st' := [.int (isInV free (nI p))]) dX8_mostByTrying_39 (c_isIn G) gX8_mostByTrying_X11_isIn_n107 rfl (by decide +kernel) (host := "BasketOffers") (by decide +kernel) (by decide +kernel) (by decide +kernel) (by omega) (Nat.le_of_ble_eq_true rfl) rfl (Nat.le_of_ble_eq_true rfl) rfl ⟨Nat.le_refl _, Nat.le_refl _⟩ rfl ?_
    refine j_if_eq hX (tgt := 158) dX8_mostByTrying_42 (by decide) (fun h42 => ?_) (fun h42 => ?_)
    · refine j_iload hX dX8_mostByTrying_158 rfl ?_
      exact j_iret hX dX8_mostByTrying_160 (by have e8 : mbF st (k + 1) p free disc taken (V, M) = (mbF st k (p + 1) (free &&& (bitF (nI p) ^^^ -1)) disc taken (V, M)) := ((if_pos h3).trans (if_pos h42)); rw [e8]; exact ⟨rfl, rfl⟩)
    · refine j_aload_n hX dX8_mostByTrying_45 rfl ?_
      refine j_getf hX (v := .ref (ad 12)) dX8_mostByTrying_46 fX8_mostByTrying_12 11 (wCg11 _ _ _ _ _ _) rfl ?_
      refine j_iload_n hX dX8_mostByTrying_49 rfl ?_
      refine j_iconst hX (v := 1) (by decide) dX8_mostByTrying_50 ?_
      refine j_iadd hX dX8_mostByTrying_51 ?_
      refine jW.top (nI_1 _) ?_
      refine j_dV hX (nA := 1) (cq := (RX10, TX10, 5)) (As := [.int (nI (p + 1))]) (st := []) (st' := [.int (atF 8 ((mbF st k (p + 1) (free &&& ((bitF (nI p)) ^^^ (-1))) disc taken (V, M)).2.2 16) (nI (p + 1)))]) (ci := 11) rfl dX8_mostByTrying_52 (c_X10_startOf G _ _ _ _ _ _) gX8_mostByTrying_X10_startOf rfl (by decide +kernel) (q := 12) (wCg12 _ _ _ _ _ _) (by omega) (Nat.le_of_ble_eq_true rfl) rfl (Nat.le_of_ble_eq_true rfl) rfl ⟨Nat.le_refl _, Nat.le_refl _⟩ rfl ?_
      refine jW.top ((congrArg (fun f => atF 8 f (nI (p + 1))) (mbF_M (k := 16) st rfl k (p + 1) (free &&& (bitF (nI p) ^^^ -1)) disc taken (V, M))).trans (hst (p + 1) (by omega)).1) ?_
      refine j_istore hX (ls' := [some (.ref (ad 11)), some (.int (nI p)), some (.int free), some (.int disc), some (.int taken), some (.int ((mbF st k (p + 1) (free &&& ((bitF (nI p)) ^^^ (-1))) disc taken (V, M)).1)), some (.int (nI (st (p + 1)))), none]) dX8_mostByTrying_55 (Nat.le_of_ble_eq_true rfl) rfl rfl ?_
      refine j_aload_n hX dX8_mostByTrying_57 rfl ?_
      refine j_getf hX (v := .ref (ad 12)) dX8_mostByTrying_58 fX8_mostByTrying_12 11 (wCg11 _ _ _ _ _ _) rfl ?_
      refine j_iload_n hX dX8_mostByTrying_61 rfl ?_
      refine j_dV hX (nA := 1) (cq := (RX10, TX10, 5)) (As := [.int (nI p)]) (st := []) (st' := [.int (atF 8 ((mbF st k (p + 1) (free &&& ((bitF (nI p)) ^^^ (-1))) disc taken (V, M)).2.2 16) (nI p))]) (ci := 11) rfl dX8_mostByTrying_62 (c_X10_startOf G _ _ _ _ _ _) gX8_mostByTrying_X10_startOf rfl (by decide +kernel) (q := 12) (wCg12 _ _ _ _ _ _) (by omega) (Nat.le_of_ble_eq_true rfl) rfl (Nat.le_of_ble_eq_true rfl) rfl ⟨Nat.le_refl _, Nat.le_refl _⟩ rfl ?_
      refine jW.top ((congrArg (fun f => atF 8 f (nI p)) (mbF_M (k := 16) st rfl k (p + 1) (free &&& (bitF (nI p) ^^^ -1)) disc taken (V, M))).trans (hst p (by omega)).1) ?_
      refine j_istore hX (ls' := [some (.ref (ad 11)), some (.int (nI p)), some (.int free), some (.int disc), some (.int taken), some (.int ((mbF st k (p + 1) (free &&& ((bitF (nI p)) ^^^ (-1))) disc taken (V, M)).1)), some (.int (nI (st (p + 1)))), some (.int (nI (st p)))]) dX8_mostByTrying_65 (Nat.le_of_ble_eq_true rfl) rfl rfl ?_
      have L67 : ∀ zi i : Nat, 0 ≤ i → i + zi = (st (p + 1) - st p) → jW G X 0 0 67 [some (.ref (ad 11)), some (.int (nI p)), some (.int free), some (.int disc), some (.int taken), some (.int ((itr (mbS (mbF st k) st p free disc taken) i (mbF st k (p + 1) (free &&& (bitF (nI p) ^^^ -1)) disc taken (V, M))).1)), some (.int (nI (st (p + 1)))), some (.int (nI (st p + i)))] [] (wC G ad (itr (mbS (mbF st k) st p free disc taken) i (mbF st k (p + 1) (free &&& (bitF (nI p) ^^^ -1)) disc taken (V, M))).2.1 (itr (mbS (mbF st k) st p free disc taken) i (mbF st k (p + 1) (free &&& (bitF (nI p) ^^^ -1)) disc taken (V, M))).2.2 en wo) := by
        intro zi
        induction zi with
        | zero =>
          intro i h0 hi
          have hin : i = (st (p + 1) - st p) := by omega
          refine j_iload hX dX8_mostByTrying_67 rfl ?_
          refine j_iload hX dX8_mostByTrying_69 rfl ?_
          refine j_icmp_ge_t hX (tgt := 158) dX8_mostByTrying_71 (by decide) (nI_le (by omega) (by have := (hst p (by omega)).2; have := (hst (p + 1) (by omega)).2; omega)) ?_
          refine j_iload hX dX8_mostByTrying_158 rfl ?_
          exact j_iret hX dX8_mostByTrying_160 (by rw [hin]; have e8 : mbF st (k + 1) p free disc taken (V, M) = (itr (mbS (mbF st k) st p free disc taken) (st (p + 1) - st p) (mbF st k (p + 1) (free &&& (bitF (nI p) ^^^ -1)) disc taken (V, M))) := ((if_pos h3).trans (if_neg h42)); rw [e8]; exact ⟨rfl, rfl⟩)
        | succ zi ih =>
          intro i h0 hi
          have hin : i < (st (p + 1) - st p) := by omega
          refine j_iload hX dX8_mostByTrying_67 rfl ?_
          refine j_iload hX dX8_mostByTrying_69 rfl ?_
          refine j_icmp_ge_f hX (tgt := 158) dX8_mostByTrying_71 (by decide) (nI_ge (by omega) (by have := (hst (p + 1) (by omega)).2; omega)) ?_
          refine j_aload_n hX dX8_mostByTrying_74 rfl ?_
          refine j_iload hX dX8_mostByTrying_75 rfl ?_
          refine j_iload_n hX dX8_mostByTrying_77 rfl ?_
          refine j_iload hX dX8_mostByTrying_78 rfl ?_
          refine j_dV hX (nA := 3) (cq := (RX8, TX8, 12)) (As := [.int (nI (st p + i)), .int free, .int taken]) (st := []) (st' := [.int (fitsV ((itr (mbS (mbF st k) st p free disc taken) i (mbF st k (p + 1) (free &&& (bitF (nI p) ^^^ -1)) disc taken (V, M))).2.2) (nI (st p + i)) free taken)]) (ci := 9) rfl dX8_mostByTrying_80 (c_X8_fits G _ _ _ _ _ _ _ _) gX8_mostByTrying_X8_fits rfl (by decide +kernel) (q := 11) (wCg11 _ _ _ _ _ _) (by omega) (Nat.le_of_ble_eq_true rfl) rfl (Nat.le_of_ble_eq_true rfl) rfl ⟨Nat.le_refl _, Nat.le_refl _⟩ rfl ?_
          refine j_if_eq hX (tgt := 152) dX8_mostByTrying_83 (by decide) (fun h83 => ?_) (fun h83 => ?_)
          · refine j_iinc hX (v := nI (st p + i + 1)) (ls' := [some (.ref (ad 11)), some (.int (nI p)), some (.int free), some (.int disc), some (.int taken), some (.int ((itr (mbS (mbF st k) st p free disc taken) i (mbF st k (p + 1) (free &&& (bitF (nI p) ^^^ -1)) disc taken (V, M))).1)), some (.int (nI (st (p + 1)))), some (.int (nI (st p + i + 1)))]) dX8_mostByTrying_152 rfl (j_inc1 _) rfl rfl ?_
            refine j_goto hX (tgt := 67) dX8_mostByTrying_155 (by decide) ?_
            have e9 : (itr (mbS (mbF st k) st p free disc taken) (i + 1) (mbF st k (p + 1) (free &&& (bitF (nI p) ^^^ -1)) disc taken (V, M))) = (itr (mbS (mbF st k) st p free disc taken) i (mbF st k (p + 1) (free &&& (bitF (nI p) ^^^ -1)) disc taken (V, M))) := (if_pos h83)
            refine jW.locals (ls' := [some (.ref (ad 11)), some (.int (nI p)), some (.int free), some (.int disc), some (.int taken), some (.int ((itr (mbS (mbF st k) st p free disc taken) (i + 1) (mbF st k (p + 1) (free &&& (bitF (nI p) ^^^ -1)) disc taken (V, M))).1)), some (.int (nI (st (p + 1)))), some (.int (nI (st p + i + 1)))]) (by simp only [e9]) ?_
            refine jW.world (ws' := (wC G ad (itr (mbS (mbF st k) st p free disc taken) (i + 1) (mbF st k (p + 1) (free &&& (bitF (nI p) ^^^ -1)) disc taken (V, M))).2.1 (itr (mbS (mbF st k) st p free disc taken) (i + 1) (mbF st k (p + 1) (free &&& (bitF (nI p) ^^^ -1)) disc taken (V, M))).2.2 en wo)) (by simp only [e9]) ?_
            exact ih (i + 1) (by omega) (by omega)
          · refine j_aload_n hX dX8_mostByTrying_86 rfl ?_
            refine j_iload hX dX8_mostByTrying_87 rfl ?_
            refine j_iconst hX (v := -1) (by decide) dX8_mostByTrying_89 ?_
            refine j_dV hX (nA := 2) (cq := (RX8, TX8, 12)) (As := [.int (nI (st p + i)), .int (-1)]) (st := []) (st' := []) (ci := 9) rfl dX8_mostByTrying_90 (c_X8_change G _ _ _ _ _ _ _) gX8_mostByTrying_X8_change rfl (by decide +kernel) (q := 11) (wCg11 _ _ _ _ _ _) (by omega) (Nat.le_of_ble_eq_true rfl) rfl (Nat.le_of_ble_eq_true rfl) rfl ⟨Nat.le_refl _, Nat.le_refl _⟩ rfl ?_
            refine j_iload hX dX8_mostByTrying_93 rfl ?_
            refine j_aload_n hX dX8_mostByTrying_95 rfl ?_
            refine j_iload_n hX dX8_mostByTrying_96 rfl ?_
            refine j_iconst hX (v := 1) (by decide) dX8_mostByTrying_97 ?_
            refine j_iadd hX dX8_mostByTrying_98 ?_
            refine jW.top (nI_1 _) ?_
            refine j_iload_n hX dX8_mostByTrying_99 rfl ?_
            refine j_aload_n hX dX8_mostByTrying_100 rfl ?_
            refine j_getf hX (v := .ref (ad 12)) dX8_mostByTrying_101 fX8_mostByTrying_12 11 (wCg11 _ _ _ _ _ _) rfl ?_
            refine j_iload hX dX8_mostByTrying_104 rfl ?_
            refine j_dV hX (nA := 1) (cq := (RX10, TX10, 5)) (As := [.int (nI (st p + i))]) (st := [.int free, .int (nI (p + 1)), .ref (ad 11), .int ((itr (mbS (mbF st k) st p free disc taken) i (mbF st k (p + 1) (free &&& (bitF (nI p) ^^^ -1)) disc taken (V, M))).1)]) (st' := [.int (atF 210 ((chM ((itr (mbS (mbF st k) st p free disc taken) i (mbF st k (p + 1) (free &&& (bitF (nI p) ^^^ -1)) disc taken (V, M))).2.2) (nI (st p + i)) (-1)) 14) (nI (st p + i))), .int free, .int (nI (p + 1)), .ref (ad 11), .int ((itr (mbS (mbF st k) st p free disc taken) i (mbF st k (p + 1) (free &&& (bitF (nI p) ^^^ -1)) disc taken (V, M))).1)]) (ci := 11) rfl dX8_mostByTrying_106 (c_X10_maskAt G _ _ _ _ _ _) gX8_mostByTrying_X10_maskAt rfl (by decide +kernel) (q := 12) (wCg12 _ _ _ _ _ _) (by omega) (Nat.le_of_ble_eq_true rfl) rfl (Nat.le_of_ble_eq_true rfl) rfl ⟨Nat.le_refl _, Nat.le_refl _⟩ rfl ?_
            refine j_iconst hX (v := -1) (by decide) dX8_mostByTrying_109 ?_
            refine j_ixor hX dX8_mostByTrying_110 ?_
            refine j_iand hX dX8_mostByTrying_111 ?_
            refine j_iload_n hX dX8_mostByTrying_112 rfl ?_
            refine j_aload_n hX dX8_mostByTrying_113 rfl ?_
            refine j_getf hX (v := .ref (ad 12)) dX8_mostByTrying_114 fX8_mostByTrying_12 11 (wCg11 _ _ _ _ _ _) rfl ?_
            refine j_iload hX dX8_mostByTrying_117 rfl ?_
            refine j_dV hX (nA := 1) (cq := (RX10, TX10, 5)) (As := [.int (nI (st p + i))]) (st := [.int disc, .int (free &&& ((atF 210 ((chM ((itr (mbS (mbF st k) st p free disc taken) i (mbF st k (p + 1) (free &&& (bitF (nI p) ^^^ -1)) disc taken (V, M))).2.2) (nI (st p + i)) (-1)) 14) (nI (st p + i))) ^^^ (-1))), .int (nI (p + 1)), .ref (ad 11), .int ((itr (mbS (mbF st k) st p free disc taken) i (mbF st k (p + 1) (free &&& (bitF (nI p) ^^^ -1)) disc taken (V, M))).1)]) (st' := [.int (atF 210 ((chM ((itr (mbS (mbF st k) st p free disc taken) i (mbF st k (p + 1) (free &&& (bitF (nI p) ^^^ -1)) disc taken (V, M))).2.2) (nI (st p + i)) (-1)) 15) (nI (st p + i))), .int disc, .int (free &&& ((atF 210 ((chM ((itr (mbS (mbF st k) st p free disc taken) i (mbF st k (p + 1) (free &&& (bitF (nI p) ^^^ -1)) disc taken (V, M))).2.2) (nI (st p + i)) (-1)) 14) (nI (st p + i))) ^^^ (-1))), .int (nI (p + 1)), .ref (ad 11), .int ((itr (mbS (mbF st k) st p free disc taken) i (mbF st k (p + 1) (free &&& (bitF (nI p) ^^^ -1)) disc taken (V, M))).1)]) (ci := 11) rfl dX8_mostByTrying_119 (c_X10_discountAt G _ _ _ _ _ _) gX8_mostByTrying_X10_discountAt rfl (by decide +kernel) (q := 12) (wCg12 _ _ _ _ _ _) (by omega) (Nat.le_of_ble_eq_true rfl) rfl (Nat.le_of_ble_eq_true rfl) rfl ⟨Nat.le_refl _, Nat.le_refl _⟩ rfl ?_
            refine j_iadd hX dX8_mostByTrying_122 ?_
            refine j_iload hX dX8_mostByTrying_123 rfl ?_
            refine j_iconst hX (v := 1) (by decide) dX8_mostByTrying_125 ?_
            refine j_aload_n hX dX8_mostByTrying_126 rfl ?_
            refine j_getf hX (v := .ref (ad 12)) dX8_mostByTrying_127 fX8_mostByTrying_12 11 (wCg11 _ _ _ _ _ _) rfl ?_
            refine j_iload hX dX8_mostByTrying_130 rfl ?_
            refine j_dV hX (nA := 1) (cq := (RX10, TX10, 5)) (As := [.int (nI (st p + i))]) (st := [.int 1, .int taken, .int (disc + (atF 210 ((chM ((itr (mbS (mbF st k) st p free disc taken) i (mbF st k (p + 1) (free &&& (bitF (nI p) ^^^ -1)) disc taken (V, M))).2.2) (nI (st p + i)) (-1)) 15) (nI (st p + i)))), .int (free &&& ((atF 210 ((chM ((itr (mbS (mbF st k) st p free disc taken) i (mbF st k (p + 1) (free &&& (bitF (nI p) ^^^ -1)) disc taken (V, M))).2.2) (nI (st p + i)) (-1)) 14) (nI (st p + i))) ^^^ (-1))), .int (nI (p + 1)), .ref (ad 11), .int ((itr (mbS (mbF st k) st p free disc taken) i (mbF st k (p + 1) (free &&& (bitF (nI p) ^^^ -1)) disc taken (V, M))).1)]) (st' := [.int (atF 210 ((chM ((itr (mbS (mbF st k) st p free disc taken) i (mbF st k (p + 1) (free &&& (bitF (nI p) ^^^ -1)) disc taken (V, M))).2.2) (nI (st p + i)) (-1)) 13) (nI (st p + i))), .int 1, .int taken, .int (disc + (atF 210 ((chM ((itr (mbS (mbF st k) st p free disc taken) i (mbF st k (p + 1) (free &&& (bitF (nI p) ^^^ -1)) disc taken (V, M))).2.2) (nI (st p + i)) (-1)) 15) (nI (st p + i)))), .int (free &&& ((atF 210 ((chM ((itr (mbS (mbF st k) st p free disc taken) i (mbF st k (p + 1) (free &&& (bitF (nI p) ^^^ -1)) disc taken (V, M))).2.2) (nI (st p + i)) (-1)) 14) (nI (st p + i))) ^^^ (-1))), .int (nI (p + 1)), .ref (ad 11), .int ((itr (mbS (mbF st k) st p free disc taken) i (mbF st k (p + 1) (free &&& (bitF (nI p) ^^^ -1)) disc taken (V, M))).1)]) (ci := 11) rfl dX8_mostByTrying_132 (c_X10_offerAt G _ _ _ _ _ _) gX8_mostByTrying_X10_offerAt rfl (by decide +kernel) (q := 12) (wCg12 _ _ _ _ _ _) (by omega) (Nat.le_of_ble_eq_true rfl) rfl (Nat.le_of_ble_eq_true rfl) rfl ⟨Nat.le_refl _, Nat.le_refl _⟩ rfl ?_
            refine j_ishl hX dX8_mostByTrying_135 ?_
            refine j_ior hX dX8_mostByTrying_136 ?_
            refine j_dV hX (nA := 4) (cq := (RX8, TX8, 12)) (As := [.int (nI (p + 1)), .int (free &&& ((atF 210 ((chM ((itr (mbS (mbF st k) st p free disc taken) i (mbF st k (p + 1) (free &&& (bitF (nI p) ^^^ -1)) disc taken (V, M))).2.2) (nI (st p + i)) (-1)) 14) (nI (st p + i))) ^^^ (-1))), .int (disc + (atF 210 ((chM ((itr (mbS (mbF st k) st p free disc taken) i (mbF st k (p + 1) (free &&& (bitF (nI p) ^^^ -1)) disc taken (V, M))).2.2) (nI (st p + i)) (-1)) 15) (nI (st p + i)))), .int (taken ||| (1 <<< ((atF 210 ((chM ((itr (mbS (mbF st k) st p free disc taken) i (mbF st k (p + 1) (free &&& (bitF (nI p) ^^^ -1)) disc taken (V, M))).2.2) (nI (st p + i)) (-1)) 13) (nI (st p + i))) &&& 31)))]) (st := [.int ((itr (mbS (mbF st k) st p free disc taken) i (mbF st k (p + 1) (free &&& (bitF (nI p) ^^^ -1)) disc taken (V, M))).1)]) (st' := [.int ((mbF st k (p + 1) (free &&& ((atF 210 ((chM ((itr (mbS (mbF st k) st p free disc taken) i (mbF st k (p + 1) (free &&& (bitF (nI p) ^^^ -1)) disc taken (V, M))).2.2) (nI (st p + i)) (-1)) 14) (nI (st p + i))) ^^^ (-1))) (disc + (atF 210 ((chM ((itr (mbS (mbF st k) st p free disc taken) i (mbF st k (p + 1) (free &&& (bitF (nI p) ^^^ -1)) disc taken (V, M))).2.2) (nI (st p + i)) (-1)) 15) (nI (st p + i)))) (taken ||| (1 <<< ((atF 210 ((chM ((itr (mbS (mbF st k) st p free disc taken) i (mbF st k (p + 1) (free &&& (bitF (nI p) ^^^ -1)) disc taken (V, M))).2.2) (nI (st p + i)) (-1)) 13) (nI (st p + i))) &&& 31))) ((itr (mbS (mbF st k) st p free disc taken) i (mbF st k (p + 1) (free &&& (bitF (nI p) ^^^ -1)) disc taken (V, M))).2.1, (chM ((itr (mbS (mbF st k) st p free disc taken) i (mbF st k (p + 1) (free &&& (bitF (nI p) ^^^ -1)) disc taken (V, M))).2.2) (nI (st p + i)) (-1)))).1), .int ((itr (mbS (mbF st k) st p free disc taken) i (mbF st k (p + 1) (free &&& (bitF (nI p) ^^^ -1)) disc taken (V, M))).1)]) (ci := 9) rfl dX8_mostByTrying_137 (hrec hp7 _ _ _ _ _ (fun q hq => by rw [show (chM ((itr (mbS (mbF st k) st p free disc taken) i (mbF st k (p + 1) (free &&& (bitF (nI p) ^^^ -1)) disc taken (V, M))).2.2) (nI (st p + i)) (-1)) 16 = M 16 from (chM_M _ _ _ rfl).trans ((mbI_M _ _ _ _ _ _ _ _ rfl).trans (mbF_M _ rfl _ _ _ _ _ _))]; exact hst q hq)) gX8_mostByTrying_X8_mostByTrying rfl (by decide +kernel) (q := 11) (wCg11 _ _ _ _ _ _) (by omega) (Nat.le_of_ble_eq_true rfl) rfl (Nat.le_of_ble_eq_true rfl) rfl ⟨Nat.le_refl _, Nat.le_refl _⟩ rfl ?_
            refine j_mmax hX dX8_mostByTrying_140 (by decide +kernel) (by decide +kernel) (by decide +kernel) (by decide +kernel) (by omega) rfl (Nat.le_of_ble_eq_true rfl) ⟨Nat.le_refl _, Nat.le_refl _⟩ ?_
            refine jW.top (y := mxF ((itr (mbS (mbF st k) st p free disc taken) i (mbF st k (p + 1) (free &&& (bitF (nI p) ^^^ -1)) disc taken (V, M))).1) ((mbF st k (p + 1) (free &&& ((atF 210 ((chM ((itr (mbS (mbF st k) st p free disc taken) i (mbF st k (p + 1) (free &&& (bitF (nI p) ^^^ -1)) disc taken (V, M))).2.2) (nI (st p + i)) (-1)) 14) (nI (st p + i))) ^^^ (-1))) (disc + (atF 210 ((chM ((itr (mbS (mbF st k) st p free disc taken) i (mbF st k (p + 1) (free &&& (bitF (nI p) ^^^ -1)) disc taken (V, M))).2.2) (nI (st p + i)) (-1)) 15) (nI (st p + i)))) (taken ||| (1 <<< ((atF 210 ((chM ((itr (mbS (mbF st k) st p free disc taken) i (mbF st k (p + 1) (free &&& (bitF (nI p) ^^^ -1)) disc taken (V, M))).2.2) (nI (st p + i)) (-1)) 13) (nI (st p + i))) &&& 31))) ((itr (mbS (mbF st k) st p free disc taken) i (mbF st k (p + 1) (free &&& (bitF (nI p) ^^^ -1)) disc taken (V, M))).2.1, (chM ((itr (mbS (mbF st k) st p free disc taken) i (mbF st k (p + 1) (free &&& (bitF (nI p) ^^^ -1)) disc taken (V, M))).2.2) (nI (st p + i)) (-1)))).1)) rfl ?_
            refine j_istore hX (ls' := [some (.ref (ad 11)), some (.int (nI p)), some (.int free), some (.int disc), some (.int taken), some (.int (mxF ((itr (mbS (mbF st k) st p free disc taken) i (mbF st k (p + 1) (free &&& (bitF (nI p) ^^^ -1)) disc taken (V, M))).1) ((mbF st k (p + 1) (free &&& ((atF 210 ((chM ((itr (mbS (mbF st k) st p free disc taken) i (mbF st k (p + 1) (free &&& (bitF (nI p) ^^^ -1)) disc taken (V, M))).2.2) (nI (st p + i)) (-1)) 14) (nI (st p + i))) ^^^ (-1))) (disc + (atF 210 ((chM ((itr (mbS (mbF st k) st p free disc taken) i (mbF st k (p + 1) (free &&& (bitF (nI p) ^^^ -1)) disc taken (V, M))).2.2) (nI (st p + i)) (-1)) 15) (nI (st p + i)))) (taken ||| (1 <<< ((atF 210 ((chM ((itr (mbS (mbF st k) st p free disc taken) i (mbF st k (p + 1) (free &&& (bitF (nI p) ^^^ -1)) disc taken (V, M))).2.2) (nI (st p + i)) (-1)) 13) (nI (st p + i))) &&& 31))) ((itr (mbS (mbF st k) st p free disc taken) i (mbF st k (p + 1) (free &&& (bitF (nI p) ^^^ -1)) disc taken (V, M))).2.1, (chM ((itr (mbS (mbF st k) st p free disc taken) i (mbF st k (p + 1) (free &&& (bitF (nI p) ^^^ -1)) disc taken (V, M))).2.2) (nI (st p + i)) (-1)))).1))), some (.int (nI (st (p + 1)))), some (.int (nI (st p + i)))]) dX8_mostByTrying_143 (Nat.le_of_ble_eq_true rfl) rfl rfl ?_
            refine j_aload_n hX dX8_mostByTrying_145 rfl ?_
            refine j_iload hX dX8_mostByTrying_146 rfl ?_
            refine j_iconst hX (v := 1) (by decide) dX8_mostByTrying_148 ?_
            refine j_dV hX (nA := 2) (cq := (RX8, TX8, 12)) (As := [.int (nI (st p + i)), .int 1]) (st := []) (st' := []) (ci := 9) rfl dX8_mostByTrying_149 (c_X8_change G _ _ _ _ _ _ _) gX8_mostByTrying_X8_change rfl (by decide +kernel) (q := 11) (wCg11 _ _ _ _ _ _) (by omega) (Nat.le_of_ble_eq_true rfl) rfl (Nat.le_of_ble_eq_true rfl) rfl ⟨Nat.le_refl _, Nat.le_refl _⟩ rfl ?_
            refine j_iinc hX (v := nI (st p + i + 1)) (ls' := [some (.ref (ad 11)), some (.int (nI p)), some (.int free), some (.int disc), some (.int taken), some (.int (mxF ((itr (mbS (mbF st k) st p free disc taken) i (mbF st k (p + 1) (free &&& (bitF (nI p) ^^^ -1)) disc taken (V, M))).1) ((mbF st k (p + 1) (free &&& ((atF 210 ((chM ((itr (mbS (mbF st k) st p free disc taken) i (mbF st k (p + 1) (free &&& (bitF (nI p) ^^^ -1)) disc taken (V, M))).2.2) (nI (st p + i)) (-1)) 14) (nI (st p + i))) ^^^ (-1))) (disc + (atF 210 ((chM ((itr (mbS (mbF st k) st p free disc taken) i (mbF st k (p + 1) (free &&& (bitF (nI p) ^^^ -1)) disc taken (V, M))).2.2) (nI (st p + i)) (-1)) 15) (nI (st p + i)))) (taken ||| (1 <<< ((atF 210 ((chM ((itr (mbS (mbF st k) st p free disc taken) i (mbF st k (p + 1) (free &&& (bitF (nI p) ^^^ -1)) disc taken (V, M))).2.2) (nI (st p + i)) (-1)) 13) (nI (st p + i))) &&& 31))) ((itr (mbS (mbF st k) st p free disc taken) i (mbF st k (p + 1) (free &&& (bitF (nI p) ^^^ -1)) disc taken (V, M))).2.1, (chM ((itr (mbS (mbF st k) st p free disc taken) i (mbF st k (p + 1) (free &&& (bitF (nI p) ^^^ -1)) disc taken (V, M))).2.2) (nI (st p + i)) (-1)))).1))), some (.int (nI (st (p + 1)))), some (.int (nI (st p + i + 1)))]) dX8_mostByTrying_152 rfl (j_inc1 _) rfl rfl ?_
            refine j_goto hX (tgt := 67) dX8_mostByTrying_155 (by decide) ?_
            have e9 : (itr (mbS (mbF st k) st p free disc taken) (i + 1) (mbF st k (p + 1) (free &&& (bitF (nI p) ^^^ -1)) disc taken (V, M))) = (mxF ((itr (mbS (mbF st k) st p free disc taken) i (mbF st k (p + 1) (free &&& (bitF (nI p) ^^^ -1)) disc taken (V, M))).1) ((mbF st k (p + 1) (free &&& ((atF 210 ((chM ((itr (mbS (mbF st k) st p free disc taken) i (mbF st k (p + 1) (free &&& (bitF (nI p) ^^^ -1)) disc taken (V, M))).2.2) (nI (st p + i)) (-1)) 14) (nI (st p + i))) ^^^ (-1))) (disc + (atF 210 ((chM ((itr (mbS (mbF st k) st p free disc taken) i (mbF st k (p + 1) (free &&& (bitF (nI p) ^^^ -1)) disc taken (V, M))).2.2) (nI (st p + i)) (-1)) 15) (nI (st p + i)))) (taken ||| (1 <<< ((atF 210 ((chM ((itr (mbS (mbF st k) st p free disc taken) i (mbF st k (p + 1) (free &&& (bitF (nI p) ^^^ -1)) disc taken (V, M))).2.2) (nI (st p + i)) (-1)) 13) (nI (st p + i))) &&& 31))) ((itr (mbS (mbF st k) st p free disc taken) i (mbF st k (p + 1) (free &&& (bitF (nI p) ^^^ -1)) disc taken (V, M))).2.1, (chM ((itr (mbS (mbF st k) st p free disc taken) i (mbF st k (p + 1) (free &&& (bitF (nI p) ^^^ -1)) disc taken (V, M))).2.2) (nI (st p + i)) (-1)))).1), ((mbF st k (p + 1) (free &&& ((atF 210 ((chM ((itr (mbS (mbF st k) st p free disc taken) i (mbF st k (p + 1) (free &&& (bitF (nI p) ^^^ -1)) disc taken (V, M))).2.2) (nI (st p + i)) (-1)) 14) (nI (st p + i))) ^^^ (-1))) (disc + (atF 210 ((chM ((itr (mbS (mbF st k) st p free disc taken) i (mbF st k (p + 1) (free &&& (bitF (nI p) ^^^ -1)) disc taken (V, M))).2.2) (nI (st p + i)) (-1)) 15) (nI (st p + i)))) (taken ||| (1 <<< ((atF 210 ((chM ((itr (mbS (mbF st k) st p free disc taken) i (mbF st k (p + 1) (free &&& (bitF (nI p) ^^^ -1)) disc taken (V, M))).2.2) (nI (st p + i)) (-1)) 13) (nI (st p + i))) &&& 31))) ((itr (mbS (mbF st k) st p free disc taken) i (mbF st k (p + 1) (free &&& (bitF (nI p) ^^^ -1)) disc taken (V, M))).2.1, (chM ((itr (mbS (mbF st k) st p free disc taken) i (mbF st k (p + 1) (free &&& (bitF (nI p) ^^^ -1)) disc taken (V, M))).2.2) (nI (st p + i)) (-1)))).2.1, (chM ((mbF st k (p + 1) (free &&& ((atF 210 ((chM ((itr (mbS (mbF st k) st p free disc taken) i (mbF st k (p + 1) (free &&& (bitF (nI p) ^^^ -1)) disc taken (V, M))).2.2) (nI (st p + i)) (-1)) 14) (nI (st p + i))) ^^^ (-1))) (disc + (atF 210 ((chM ((itr (mbS (mbF st k) st p free disc taken) i (mbF st k (p + 1) (free &&& (bitF (nI p) ^^^ -1)) disc taken (V, M))).2.2) (nI (st p + i)) (-1)) 15) (nI (st p + i)))) (taken ||| (1 <<< ((atF 210 ((chM ((itr (mbS (mbF st k) st p free disc taken) i (mbF st k (p + 1) (free &&& (bitF (nI p) ^^^ -1)) disc taken (V, M))).2.2) (nI (st p + i)) (-1)) 13) (nI (st p + i))) &&& 31))) ((itr (mbS (mbF st k) st p free disc taken) i (mbF st k (p + 1) (free &&& (bitF (nI p) ^^^ -1)) disc taken (V, M))).2.1, (chM ((itr (mbS (mbF st k) st p free disc taken) i (mbF st k (p + 1) (free &&& (bitF (nI p) ^^^ -1)) disc taken (V, M))).2.2) (nI (st p + i)) (-1)))).2.2) (nI (st p + i)) 1))) := (if_neg h83)
            refine jW.locals (ls' := [some (.ref (ad 11)), some (.int (nI p)), some (.int free), some (.int disc), some (.int taken), some (.int ((itr (mbS (mbF st k) st p free disc taken) (i + 1) (mbF st k (p + 1) (free &&& (bitF (nI p) ^^^ -1)) disc taken (V, M))).1)), some (.int (nI (st (p + 1)))), some (.int (nI (st p + i + 1)))]) (by simp only [e9]) ?_
            refine jW.world (ws' := (wC G ad (itr (mbS (mbF st k) st p free disc taken) (i + 1) (mbF st k (p + 1) (free &&& (bitF (nI p) ^^^ -1)) disc taken (V, M))).2.1 (itr (mbS (mbF st k) st p free disc taken) (i + 1) (mbF st k (p + 1) (free &&& (bitF (nI p) ^^^ -1)) disc taken (V, M))).2.2 en wo)) (by simp only [e9]) ?_
            exact ih (i + 1) (by omega) (by omega)
      exact L67 (st (p + 1) - st p) 0 (Nat.le_refl _) (by omega)
  · refine j_iload_n hX dX8_mostByTrying_6 rfl ?_
    refine j_aload_n hX dX8_mostByTrying_7 rfl ?_
    refine j_iconst hX (v := 0) (by decide) dX8_mostByTrying_8 ?_
    refine j_iload hX dX8_mostByTrying_9 rfl ?_
    refine j_iload_n hX dX8_mostByTrying_11 rfl ?_
    refine j_dV hX (nA := 3) (cq := (RX8, TX8, 12)) (As := [.int 0, .int taken, .int disc]) (st := [.int disc]) (st' := [.int (motF V M 7 0 taken disc), .int disc]) (ci := 9) rfl dX8_mostByTrying_12 (c_X8_mostOfThresholds G _ _ _ _ _ 6 0 rfl _ _) gX8_mostByTrying_X8_mostOfThresholds rfl (by decide +kernel) (q := 11) (wCg11 _ _ _ _ _ _) (by omega) (Nat.le_of_ble_eq_true rfl) rfl (Nat.le_of_ble_eq_true rfl) rfl ⟨Nat.le_refl _, Nat.le_refl _⟩ rfl ?_
    refine j_iadd hX dX8_mostByTrying_15 ?_
    exact j_iret hX dX8_mostByTrying_16 (by have e8 : mbF st (k + 1) p free disc taken (V, M) = (disc + (motF V M 7 0 taken disc), (V, M)) := (if_neg h3); rw [e8]; exact ⟨rfl, rfl⟩)

theorem c_X8_mostByTrying (G : jG) (ad : Nat → Nat) (en : Nat → Option Nat) (wo : va_W) (st : Nat → Nat) : ∀ (k p : Nat), p + k = 7 → ∀ (free disc taken : Int32) (V : Nat → Int32) (M : Nat → Nat → Int32), (∀ q, q ≤ 7 → atF 8 (M 16) (nI q) = nI (st q) ∧ st q ≤ 210) → jD G (11 + k) yX8_mostByTrying wsX8_mostByTrying [.ref (ad 11), .int (nI p), .int free, .int disc, .int taken] (wC G ad V M en wo) (some (.int (mbF st (k + 1) p free disc taken (V, M)).1)) (wC G ad (mbF st (k + 1) p free disc taken (V, M)).2.1 (mbF st (k + 1) p free disc taken (V, M)).2.2 en wo)
  | 0, p, hpk, free, disc, taken, V, M, hst => c_mb_step G ad en wo st 0 p hpk (fun h => absurd h (by omega)) (by omega) free disc taken V M hst
  | k + 1, p, hpk, free, disc, taken, V, M, hst => c_mb_step G ad en wo st (k + 1) p hpk (fun _ free disc taken V M hst => by
      have h := c_X8_mostByTrying G ad en wo st k (p + 1) (by omega) free disc taken V M hst
      rwa [show 11 + k = 10 + (k + 1) by omega] at h) (by omega) free disc taken V M hst
