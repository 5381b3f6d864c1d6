theorem fX8_decide_79 : jF wsX8_decide RX8 79 9 9 false .int := ⟨(RX8, TX8, 12), tyX8, rfl, by decide, by decide +kernel, by decide +kernel, tyX8_ok, nmX8, rfl, by decide +kernel, fun h => by cases h⟩
theorem fX8_decide_28 : jF wsX8_decide RX8 28 9 6 true (.array .int) := ⟨(RX8, TX8, 12), tyX8, rfl, by decide, by decide +kernel, by decide +kernel, tyX8_ok, nmX8, rfl, by decide +kernel, by decide +kernel⟩
theorem fX8_decide_12 : jF wsX8_decide RX8 12 9 2 true (.object "BasketOffers$UseList") := ⟨(RX8, TX8, 12), tyX8, rfl, by decide, by decide +kernel, by decide +kernel, tyX8_ok, nmX8, rfl, by decide +kernel, by decide +kernel⟩
/-- the search, as the class goes: k places behind p, the sets from there on; st: where each place's uses begin in the list -/
def decS (rec : Nat → Int32 → Int32 → Int32 → VM → VM) (st : Nat → Nat) (p : Nat) (free disc taken : Int32) (i : Nat) (s : VM) : VM :=
  if fitsV s.2 (nI (st p + i)) free taken = 0 then s else
    ((rec (p + 1) (free &&& (atF 210 ((chM (sM s.2 20 (setF 7 (s.2 20) (nI p) (nI (st p + i)))) (nI (st p + i)) (-1)) 14) (nI (st p + i)) ^^^ -1)) (disc + atF 210 ((chM (sM s.2 20 (setF 7 (s.2 20) (nI p) (nI (st p + i)))) (nI (st p + i)) (-1)) 15) (nI (st p + i))) (taken ||| (1 <<< (atF 210 ((chM (sM s.2 20 (setF 7 (s.2 20) (nI p) (nI (st p + i)))) (nI (st p + i)) (-1)) 13) (nI (st p + i)) &&& 31))) (s.1, chM (sM s.2 20 (setF 7 (s.2 20) (nI p) (nI (st p + i)))) (nI (st p + i)) (-1))).1,
     chM (rec (p + 1) (free &&& (atF 210 ((chM (sM s.2 20 (setF 7 (s.2 20) (nI p) (nI (st p + i)))) (nI (st p + i)) (-1)) 14) (nI (st p + i)) ^^^ -1)) (disc + atF 210 ((chM (sM s.2 20 (setF 7 (s.2 20) (nI p) (nI (st p + i)))) (nI (st p + i)) (-1)) 15) (nI (st p + i))) (taken ||| (1 <<< (atF 210 ((chM (sM s.2 20 (setF 7 (s.2 20) (nI p) (nI (st p + i)))) (nI (st p + i)) (-1)) 13) (nI (st p + i)) &&& 31))) (s.1, chM (sM s.2 20 (setF 7 (s.2 20) (nI p) (nI (st p + i)))) (nI (st p + i)) (-1))).2 (nI (st p + i)) 1)
def decE (rec : Nat → Int32 → Int32 → Int32 → VM → VM) (p : Nat) (free disc taken : Int32) (s : VM) : VM := rec (p + 1) (free &&& (bitF (nI p) ^^^ -1)) disc taken (s.1, sM s.2 20 (setF 7 (s.2 20) (nI p) (-1)))
def decF (st : Nat → Nat) : Nat → Nat → Int32 → Int32 → Int32 → VM → VM
  | 0, _, _, _, _, s => s
  | k + 1, p, free, disc, taken, s =>
    if s.1 6 < disc + amtF (s.2 9) (withF s.1 s.2 taken disc 6) 6 + mostOnF s.2 free then
      (if nI p < 7 then
        (if isInV free (nI p) = 0 then decE (decF st k) p free disc taken s else decE (decF st k) p free disc taken (itr (decS (decF st k) st p free disc taken) (st (p + 1) - st p) s))
      else keepF s (disc + amtF (s.2 9) (withF s.1 s.2 taken disc 6) 6) (withF s.1 s.2 taken disc 6))
    else s
/-- what the search leaves alone -/
def decK (k : Nat) : Prop := Nat.beq k 17 = false ∧ Nat.beq k 20 = false ∧ Nat.beq k 21 = false
theorem itr_M {f : Nat → VM → VM} {k : Nat} (h : ∀ i s, (f i s).2 k = s.2 k) (s : VM) : ∀ i, (itr f i s).2 k = s.2 k
  | 0 => rfl
  | i + 1 => (h i _).trans (itr_M h s i)
theorem sM_ne {M : Nat → Nat → Int32} {k j : Nat} {f : Nat → Int32} (h : Nat.beq j k = false) : sM M k f j = M j := by unfold sM; rw [h]; rfl
theorem sV_ne {V : Nat → Int32} {k j : Nat} {x : Int32} (h : Nat.beq j k = false) : sV V k x j = V j := by unfold sV; rw [h]; rfl
theorem chM_M (M : Nat → Nat → Int32) (u t : Int32) {k : Nat} (h : Nat.beq k 17 = false) : chM M u t k = M k := sM_ne h
theorem decF_M (st : Nat → Nat) {k : Nat} (hk : decK k) : ∀ (f p : Nat) (free disc taken : Int32) (s : VM), (decF st f p free disc taken s).2 k = s.2 k
  | 0, _, _, _, _, _ => rfl
  | f + 1, p, free, disc, taken, s => by
    have hE : ∀ s : VM, (decE (decF st f) p free disc taken s).2 k = s.2 k := fun s => (decF_M st hk f _ _ _ _ _).trans (sM_ne hk.2.1)
    have hS : ∀ i (s : VM), (decS (decF st f) st p free disc taken i s).2 k = s.2 k := by
      intro i s
      unfold decS
      split
      · rfl
      · refine (chM_M _ _ _ hk.1).trans ((decF_M st hk f _ _ _ _ _).trans ((chM_M _ _ _ hk.1).trans (sM_ne hk.2.1)))
    rw [decF]
    split
    · split
      · split
        · exact hE s
        · exact (hE _).trans (itr_M hS s _)
      · exact sM_ne hk.2.2
    · rfl
theorem lt7_of {p : Nat} (h : nI p < 7) (hp : p < 2 ^ 31) : p < 7 := (nI_ltI (b := 7) hp (by decide)).mp h
theorem decS_M (rec : Nat → Int32 → Int32 → Int32 → VM → VM) {k : Nat} (hk : decK k) (hrec : ∀ p a b c s, (rec p a b c s).2 k = s.2 k) (st : Nat → Nat) (p : Nat) (free disc taken : Int32) (i : Nat) (s : VM) : (decS rec st p free disc taken i s).2 k = s.2 k := by
  unfold decS
  split
  · rfl
  · exact (chM_M _ _ _ hk.1).trans ((hrec _ _ _ _ _).trans ((chM_M _ _ _ hk.1).trans (sM_ne hk.2.1)))
theorem decI_M (st : Nat → Nat) (f p : Nat) (free disc taken : Int32) (s : VM) (i : Nat) {k : Nat} (hk : decK k) : (itr (decS (decF st f) st p free disc taken) i s).2 k = s.2 k := itr_M (decS_M _ hk (fun p a b c s => decF_M st hk f p a b c s) st p free disc taken) s i
theorem dec16 (st : Nat → Nat) (k p : Nat) (free disc taken : Int32) (s : VM) (i : Nat) : (itr (decS (decF st k) st p free disc taken) i s).2 16 = s.2 16 := decI_M st k p free disc taken s i ⟨rfl, rfl, rfl⟩
set_option maxHeartbeats 4000000 in
set_option maxRecDepth 100000 in
theorem c_decide_step (G : jG) (ad : Nat → Nat) (en : Nat → Option Nat) (wo : va_W) (st : Nat → Nat) (k p : Nat) (hpk : p + k = 7) (hrec : p < 7 → ∀ (free disc taken : Int32) (V : Nat → Int32) (M : Nat → Nat → Int32), (∀ q, q ≤ 7 → atF 8 (M 16) (nI q) = nI (st q) ∧ st q ≤ 210) → jD G (3 + k) yX8_decide wsX8_decide [.ref (ad 11), .int (nI (p + 1)), .int free, .int disc, .int taken] (wC G ad V M en wo) none (wC G ad (decF st k (p + 1) free disc taken (V, M)).1 (decF st k (p + 1) free disc taken (V, M)).2 en wo)) (hp31 : p < 2 ^ 31) (free disc taken : Int32) (V : Nat → Int32) (M : Nat → Nat → Int32) (hst : ∀ q, q ≤ 7 → atF 8 (M 16) (nI q) = nI (st q) ∧ st q ≤ 210) : jD G (4 + k) yX8_decide wsX8_decide [.ref (ad 11), .int (nI p), .int free, .int disc, .int taken] (wC G ad V M en wo) none (wC G ad (decF st (k + 1) p free disc taken (V, M)).1 (decF st (k + 1) p free disc taken (V, M)).2 en wo) := by
  refine jC.of (maxL := 9) (cc := cX8_decide) (ret := none) rfl (by decide) [some (.ref (ad 11)), some (.int (nI p)), some (.int free), some (.int disc), some (.int taken), none, none, none, none] rfl (Nat.le_of_ble_eq_true rfl) (j_args rfl) (fun X hX => ?_)
  refine j_aload_n hX dX8_decide_0 rfl ?_
  refine j_iload hX dX8_decide_1 rfl ?_
  refine j_iload_n hX dX8_decide_3 rfl ?_
  refine j_dV hX (nA := 2) (cq := (RX8, TX8, 12)) (As := [.int taken, .int disc]) (st := []) (st' := [.int (withF V M taken disc 6)]) (ci := 9) rfl dX8_decide_4 (c_X8_withThresholds G _ _ _ _ _ _ _) gX8_decide_X8_withThresholds rfl (by decide +kernel) (q := 11) (wCg11 _ _ _ _ _ _) (by omega) (Nat.le_of_ble_eq_true rfl) rfl (Nat.le_of_ble_eq_true rfl) rfl ⟨Nat.le_refl _, Nat.le_refl _⟩ rfl ?_
  refine j_istore hX (ls' := [some (.ref (ad 11)), some (.int (nI p)), some (.int free), some (.int disc), some (.int taken), some (.int (withF V M taken disc 6)), none, none, none]) dX8_decide_7 (Nat.le_of_ble_eq_true rfl) rfl rfl ?_
  refine j_iload_n hX dX8_decide_9 rfl ?_
  refine j_aload_n hX dX8_decide_10 rfl ?_
  refine j_iload hX dX8_decide_11 rfl ?_
  refine j_dV hX (nA := 1) (cq := (RX8, TX8, 12)) (As := [.int (withF V M taken disc 6)]) (st := [.int disc]) (st' := [.int (amtF (M 9) (withF V M taken disc 6) 6), .int disc]) (ci := 9) rfl dX8_decide_13 (c_X8_amountOf G _ _ _ _ _ _) gX8_decide_X8_amountOf rfl (by decide +kernel) (q := 11) (wCg11 _ _ _ _ _ _) (by omega) (Nat.le_of_ble_eq_true rfl) rfl (Nat.le_of_ble_eq_true rfl) rfl ⟨Nat.le_refl _, Nat.le_refl _⟩ rfl ?_
  refine j_iadd hX dX8_decide_16 ?_
  refine j_istore hX (ls' := [some (.ref (ad 11)), some (.int (nI p)), some (.int free), some (.int disc), some (.int taken), some (.int (withF V M taken disc 6)), some (.int (disc + (amtF (M 9) (withF V M taken disc 6) 6))), none, none]) dX8_decide_17 (Nat.le_of_ble_eq_true rfl) rfl rfl ?_
  refine j_iload hX dX8_decide_19 rfl ?_
  refine j_aload_n hX dX8_decide_21 rfl ?_
  refine j_iload_n hX dX8_decide_22 rfl ?_
  refine j_dV hX (nA := 1) (cq := (RX8, TX8, 12)) (As := [.int free]) (st := [.int (disc + (amtF (M 9) (withF V M taken disc 6) 6))]) (st' := [.int (mostOnF M free), .int (disc + (amtF (M 9) (withF V M taken disc 6) 6))]) (ci := 9) rfl dX8_decide_23 (c_X8_mostOn G _ _ _ _ _ _) gX8_decide_X8_mostOn rfl (by decide +kernel) (q := 11) (wCg11 _ _ _ _ _ _) (by omega) (Nat.le_of_ble_eq_true rfl) rfl (Nat.le_of_ble_eq_true rfl) rfl ⟨Nat.le_refl _, Nat.le_refl _⟩ rfl ?_
  refine j_iadd hX dX8_decide_26 ?_
  refine j_aload_n hX dX8_decide_27 rfl ?_
  refine j_getf hX (v := .int (V 6)) dX8_decide_28 fX8_decide_79 11 (wCg11 _ _ _ _ _ _) rfl ?_
  refine j_icmp_gt hX (tgt := 35) dX8_decide_31 (by decide) (fun h31 => ?_) (fun h31 => ?_)
  · refine j_iload_n hX dX8_decide_35 rfl ?_
    refine j_bipush hX (v := 7) (by decide) dX8_decide_36 ?_
    refine j_icmp_lt hX (tgt := 50) dX8_decide_38 (by decide) (fun h38 => ?_) (fun h38 => ?_)
    · have hp7 : p < 7 := lt7_of h38 hp31
      refine j_iload_n hX dX8_decide_50 rfl ?_
      refine j_iload_n hX dX8_decide_51 rfl ?_
      refine j_dSN hX (nA := 2) (As := [.int free, .int (nI p)]) (st := []) (st' := [.int (isInV free (nI p))]) dX8_decide_52 (c_isIn G) gX8_decide_X11_isIn_n107 rfl (by decide +kernel) (host := "BasketOffers") (by decide +kernel) (by decide +kernel) (by decide +kernel) (by omega) (Nat.le_of_ble_eq_true rfl) rfl (Nat.le_of_ble_eq_true rfl) rfl ⟨Nat.le_refl _, Nat.le_refl _⟩ rfl ?_
      refine j_if_eq hX (tgt := 174) dX8_decide_55 (by decide) (fun h55 => ?_) (fun h55 => ?_)
      · refine j_aload_n hX dX8_decide_174 rfl ?_
        refine j_getf hX (v := .ref (ad 20)) dX8_decide_175 fX8_decide_28 11 (wCg11 _ _ _ _ _ _) rfl ?_
        refine j_iload_n hX dX8_decide_178 rfl ?_
        refine j_iconst hX (v := -1) (by decide) dX8_decide_179 ?_
        refine j_dSN hX (nA := 3) (As := [.ref (ad 20), .int (nI p), .int (-1)]) (st := []) (st' := []) dX8_decide_180 (c_setAt G (q := 20) (wCg20 _ _ _ _ _ _) (by decide) (wCp20 _ _ _ _ _ _ _)) gX8_decide_X11_setAt_n52 rfl (by decide +kernel) (host := "BasketOffers") (by decide +kernel) (by decide +kernel) (by decide +kernel) (by omega) (Nat.le_of_ble_eq_true rfl) rfl (Nat.le_of_ble_eq_true rfl) rfl ⟨Nat.le_refl _, Nat.le_refl _⟩ rfl ?_
        refine j_aload_n hX dX8_decide_183 rfl ?_
        refine j_iload_n hX dX8_decide_184 rfl ?_
        refine j_iconst hX (v := 1) (by decide) dX8_decide_185 ?_
        refine j_iadd hX dX8_decide_186 ?_
        refine jW.top (nI_1 _) ?_
        refine j_iload_n hX dX8_decide_187 rfl ?_
        refine j_iload_n hX dX8_decide_188 rfl ?_
        refine j_dSN hX (nA := 1) (As := [.int (nI p)]) (st := [.int free, .int (nI (p + 1)), .ref (ad 11)]) (st' := [.int (bitF (nI p)), .int free, .int (nI (p + 1)), .ref (ad 11)]) dX8_decide_189 (c_bitOf G) gX8_decide_X11_bitOf_n140 rfl (by decide +kernel) (host := "BasketOffers") (by decide +kernel) (by decide +kernel) (by decide +kernel) (by omega) (Nat.le_of_ble_eq_true rfl) rfl (Nat.le_of_ble_eq_true rfl) rfl ⟨Nat.le_refl _, Nat.le_refl _⟩ rfl ?_
        refine j_iconst hX (v := -1) (by decide) dX8_decide_192 ?_
        refine j_ixor hX dX8_decide_193 ?_
        refine j_iand hX dX8_decide_194 ?_
        refine j_iload_n hX dX8_decide_195 rfl ?_
        refine j_iload hX dX8_decide_196 rfl ?_
        refine j_dV hX (nA := 4) (cq := (RX8, TX8, 12)) (As := [.int (nI (p + 1)), .int (free &&& ((bitF (nI p)) ^^^ (-1))), .int disc, .int taken]) (st := []) (st' := []) (ci := 9) rfl dX8_decide_198 (hrec hp7 _ _ _ _ _ (fun q hq => by rw [show (sM M 20 (setF 7 (M 20) (nI p) (-1))) 16 = M 16 from (sM_ne rfl)]; exact hst q hq)) gX8_decide_X8_decide rfl (by decide +kernel) (q := 11) (wCg11 _ _ _ _ _ _) (by omega) (Nat.le_of_ble_eq_true rfl) rfl (Nat.le_of_ble_eq_true rfl) rfl ⟨Nat.le_refl _, Nat.le_refl _⟩ rfl ?_
        exact j_vret hX dX8_decide_201 ⟨rfl, by rw [show decF st (k + 1) p free disc taken (V, M) = (decF st k (p + 1) (free &&& ((bitF (nI p)) ^^^ (-1))) disc taken (V, (sM M 20 (setF 7 (M 20) (nI p) (-1))))) from (((if_pos h31).trans (if_pos h38)).trans (if_pos h55))]⟩
      · refine j_aload_n hX dX8_decide_58 rfl ?_
        refine j_getf hX (v := .ref (ad 12)) dX8_decide_59 fX8_decide_12 11 (wCg11 _ _ _ _ _ _) rfl ?_
        refine j_iload_n hX dX8_decide_62 rfl ?_
        refine j_iconst hX (v := 1) (by decide) dX8_decide_63 ?_
        refine j_iadd hX dX8_decide_64 ?_
        refine jW.top (nI_1 _) ?_
        refine j_dV hX (nA := 1) (cq := (RX10, TX10, 5)) (As := [.int (nI (p + 1))]) (st := []) (st' := [.int (atF 8 (M 16) (nI (p + 1)))]) (ci := 11) rfl dX8_decide_65 (c_X10_startOf G _ _ _ _ _ _) gX8_decide_X10_startOf rfl (by decide +kernel) (q := 12) (wCg12 _ _ _ _ _ _) (by omega) (Nat.le_of_ble_eq_true rfl) rfl (Nat.le_of_ble_eq_true rfl) rfl ⟨Nat.le_refl _, Nat.le_refl _⟩ rfl ?_
        refine jW.top (hst (p + 1) (by omega)).1 ?_
        refine j_istore hX (ls' := [some (.ref (ad 11)), some (.int (nI p)), some (.int free), some (.int disc), some (.int taken), some (.int (withF V M taken disc 6)), some (.int (disc + (amtF (M 9) (withF V M taken disc 6) 6))), some (.int (nI (st (p + 1)))), none]) dX8_decide_68 (Nat.le_of_ble_eq_true rfl) rfl rfl ?_
        refine j_aload_n hX dX8_decide_70 rfl ?_
        refine j_getf hX (v := .ref (ad 12)) dX8_decide_71 fX8_decide_12 11 (wCg11 _ _ _ _ _ _) rfl ?_
        refine j_iload_n hX dX8_decide_74 rfl ?_
        refine j_dV hX (nA := 1) (cq := (RX10, TX10, 5)) (As := [.int (nI p)]) (st := []) (st' := [.int (atF 8 (M 16) (nI p))]) (ci := 11) rfl dX8_decide_75 (c_X10_startOf G _ _ _ _ _ _) gX8_decide_X10_startOf rfl (by decide +kernel) (q := 12) (wCg12 _ _ _ _ _ _) (by omega) (Nat.le_of_ble_eq_true rfl) rfl (Nat.le_of_ble_eq_true rfl) rfl ⟨Nat.le_refl _, Nat.le_refl _⟩ rfl ?_
        refine jW.top (hst p (by omega)).1 ?_
        refine j_istore hX (ls' := [some (.ref (ad 11)), some (.int (nI p)), some (.int free), some (.int disc), some (.int taken), some (.int (withF V M taken disc 6)), some (.int (disc + (amtF (M 9) (withF V M taken disc 6) 6))), some (.int (nI (st (p + 1)))), some (.int (nI (st p)))]) dX8_decide_78 (Nat.le_of_ble_eq_true rfl) rfl rfl ?_
        have L80 : ∀ zi i : Nat, 0 ≤ i → i + zi = (st (p + 1) - st p) → jW G X 0 0 80 [some (.ref (ad 11)), some (.int (nI p)), some (.int free), some (.int disc), some (.int taken), some (.int (withF V M taken disc 6)), some (.int (disc + amtF (M 9) (withF V M taken disc 6) 6)), some (.int (nI (st (p + 1)))), some (.int (nI (st p + i)))] [] (wC G ad (itr (decS (decF st k) st p free disc taken) i (V, M)).1 (itr (decS (decF st k) st p free disc taken) i (V, M)).2 en wo) := by
          intro zi
          induction zi with
          | zero =>
            intro i h0 hi
            have hin : i = (st (p + 1) - st p) := by omega
            refine j_iload hX dX8_decide_80 rfl ?_
            refine j_iload hX dX8_decide_82 rfl ?_
            refine j_icmp_ge_t hX (tgt := 174) dX8_decide_84 (by decide) (nI_le (by omega) (by have := (hst p (by omega)).2; have := (hst (p + 1) (by omega)).2; omega)) ?_
            refine j_aload_n hX dX8_decide_174 rfl ?_
            refine j_getf hX (v := .ref (ad 20)) dX8_decide_175 fX8_decide_28 11 (wCg11 _ _ _ _ _ _) rfl ?_
            refine j_iload_n hX dX8_decide_178 rfl ?_
            refine j_iconst hX (v := -1) (by decide) dX8_decide_179 ?_
            refine j_dSN hX (nA := 3) (As := [.ref (ad 20), .int (nI p), .int (-1)]) (st := []) (st' := []) dX8_decide_180 (c_setAt G (q := 20) (wCg20 _ _ _ _ _ _) (by decide) (wCp20 _ _ _ _ _ _ _)) gX8_decide_X11_setAt_n52 rfl (by decide +kernel) (host := "BasketOffers") (by decide +kernel) (by decide +kernel) (by decide +kernel) (by omega) (Nat.le_of_ble_eq_true rfl) rfl (Nat.le_of_ble_eq_true rfl) rfl ⟨Nat.le_refl _, Nat.le_refl _⟩ rfl ?_
            refine j_aload_n hX dX8_decide_183 rfl ?_
            refine j_iload_n hX dX8_decide_184 rfl ?_
            refine j_iconst hX (v := 1) (by decide) dX8_decide_185 ?_
            refine j_iadd hX dX8_decide_186 ?_
            refine jW.top (nI_1 _) ?_
            refine j_iload_n hX dX8_decide_187 rfl ?_
            refine j_iload_n hX dX8_decide_188 rfl ?_
            refine j_dSN hX (nA := 1) (As := [.int (nI p)]) (st := [.int free, .int (nI (p + 1)), .ref (ad 11)]) (st' := [.int (bitF (nI p)), .int free, .int (nI (p + 1)), .ref (ad 11)]) dX8_decide_189 (c_bitOf G) gX8_decide_X11_bitOf_n140 rfl (by decide +kernel) (host := "BasketOffers") (by decide +kernel) (by decide +kernel) (by decide +kernel) (by omega) (Nat.le_of_ble_eq_true rfl) rfl (Nat.le_of_ble_eq_true rfl) rfl ⟨Nat.le_refl _, Nat.le_refl _⟩ rfl ?_
            refine j_iconst hX (v := -1) (by decide) dX8_decide_192 ?_
            refine j_ixor hX dX8_decide_193 ?_
            refine j_iand hX dX8_decide_194 ?_
            refine j_iload_n hX dX8_decide_195 rfl ?_
            refine j_iload hX dX8_decide_196 rfl ?_
            refine j_dV hX (nA := 4) (cq := (RX8, TX8, 12)) (As := [.int (nI (p + 1)), .int (free &&& ((bitF (nI p)) ^^^ (-1))), .int disc, .int taken]) (st := []) (st' := []) (ci := 9) rfl dX8_decide_198 (hrec hp7 _ _ _ _ _ (fun q hq => by rw [show (sM (itr (decS (decF st k) st p free disc taken) i (V, M)).2 20 (setF 7 ((itr (decS (decF st k) st p free disc taken) i (V, M)).2 20) (nI p) (-1))) 16 = M 16 from ((sM_ne rfl).trans (dec16 _ _ _ _ _ _ _ _))]; exact hst q hq)) gX8_decide_X8_decide rfl (by decide +kernel) (q := 11) (wCg11 _ _ _ _ _ _) (by omega) (Nat.le_of_ble_eq_true rfl) rfl (Nat.le_of_ble_eq_true rfl) rfl ⟨Nat.le_refl _, Nat.le_refl _⟩ rfl ?_
            exact j_vret hX dX8_decide_201 ⟨rfl, by rw [hin]; rw [show decF st (k + 1) p free disc taken (V, M) = (decF st k (p + 1) (free &&& ((bitF (nI p)) ^^^ (-1))) disc taken ((itr (decS (decF st k) st p free disc taken) (st (p + 1) - st p) (V, M)).1, (sM (itr (decS (decF st k) st p free disc taken) (st (p + 1) - st p) (V, M)).2 20 (setF 7 ((itr (decS (decF st k) st p free disc taken) (st (p + 1) - st p) (V, M)).2 20) (nI p) (-1))))) from (((if_pos h31).trans (if_pos h38)).trans (if_neg h55))]⟩
          | succ zi ih =>
            intro i h0 hi
            have hin : i < (st (p + 1) - st p) := by omega
            refine j_iload hX dX8_decide_80 rfl ?_
            refine j_iload hX dX8_decide_82 rfl ?_
            refine j_icmp_ge_f hX (tgt := 174) dX8_decide_84 (by decide) (nI_ge (by omega) (by have := (hst (p + 1) (by omega)).2; omega)) ?_
            refine j_aload_n hX dX8_decide_87 rfl ?_
            refine j_iload hX dX8_decide_88 rfl ?_
            refine j_iload_n hX dX8_decide_90 rfl ?_
            refine j_iload hX dX8_decide_91 rfl ?_
            refine j_dV hX (nA := 3) (cq := (RX8, TX8, 12)) (As := [.int (nI (st p + i)), .int free, .int taken]) (st := []) (st' := [.int (fitsV ((itr (decS (decF st k) st p free disc taken) i (V, M)).2) (nI (st p + i)) free taken)]) (ci := 9) rfl dX8_decide_93 (c_X8_fits G _ _ _ _ _ _ _ _) gX8_decide_X8_fits rfl (by decide +kernel) (q := 11) (wCg11 _ _ _ _ _ _) (by omega) (Nat.le_of_ble_eq_true rfl) rfl (Nat.le_of_ble_eq_true rfl) rfl ⟨Nat.le_refl _, Nat.le_refl _⟩ rfl ?_
            refine j_if_eq hX (tgt := 168) dX8_decide_96 (by decide) (fun h96 => ?_) (fun h96 => ?_)
            · refine j_iinc hX (v := nI (st p + i + 1)) (ls' := [some (.ref (ad 11)), some (.int (nI p)), some (.int free), some (.int disc), some (.int taken), some (.int (withF V M taken disc 6)), some (.int (disc + amtF (M 9) (withF V M taken disc 6) 6)), some (.int (nI (st (p + 1)))), some (.int (nI (st p + i + 1)))]) dX8_decide_168 rfl (j_inc1 _) rfl rfl ?_
              refine j_goto hX (tgt := 80) dX8_decide_171 (by decide) ?_
              refine jW.world (ws' := (wC G ad (itr (decS (decF st k) st p free disc taken) (i + 1) (V, M)).1 (itr (decS (decF st k) st p free disc taken) (i + 1) (V, M)).2 en wo)) (by rw [show (itr (decS (decF st k) st p free disc taken) (i + 1) (V, M)) = (itr (decS (decF st k) st p free disc taken) i (V, M)) from (if_pos h96)]) ?_
              exact ih (i + 1) (by omega) (by omega)
            · refine j_aload_n hX dX8_decide_99 rfl ?_
              refine j_getf hX (v := .ref (ad 20)) dX8_decide_100 fX8_decide_28 11 (wCg11 _ _ _ _ _ _) rfl ?_
              refine j_iload_n hX dX8_decide_103 rfl ?_
              refine j_iload hX dX8_decide_104 rfl ?_
              refine j_dSN hX (nA := 3) (As := [.ref (ad 20), .int (nI p), .int (nI (st p + i))]) (st := []) (st' := []) dX8_decide_106 (c_setAt G (q := 20) (wCg20 _ _ _ _ _ _) (by decide) (wCp20 _ _ _ _ _ _ _)) gX8_decide_X11_setAt_n52 rfl (by decide +kernel) (host := "BasketOffers") (by decide +kernel) (by decide +kernel) (by decide +kernel) (by omega) (Nat.le_of_ble_eq_true rfl) rfl (Nat.le_of_ble_eq_true rfl) rfl ⟨Nat.le_refl _, Nat.le_refl _⟩ rfl ?_
              refine j_aload_n hX dX8_decide_109 rfl ?_
              refine j_iload hX dX8_decide_110 rfl ?_
              refine j_iconst hX (v := -1) (by decide) dX8_decide_112 ?_
              refine j_dV hX (nA := 2) (cq := (RX8, TX8, 12)) (As := [.int (nI (st p + i)), .int (-1)]) (st := []) (st' := []) (ci := 9) rfl dX8_decide_113 (c_X8_change G _ _ _ _ _ _ _) gX8_decide_X8_change rfl (by decide +kernel) (q := 11) (wCg11 _ _ _ _ _ _) (by omega) (Nat.le_of_ble_eq_true rfl) rfl (Nat.le_of_ble_eq_true rfl) rfl ⟨Nat.le_refl _, Nat.le_refl _⟩ rfl ?_
              refine j_aload_n hX dX8_decide_116 rfl ?_
              refine j_iload_n hX dX8_decide_117 rfl ?_
              refine j_iconst hX (v := 1) (by decide) dX8_decide_118 ?_
              refine j_iadd hX dX8_decide_119 ?_
              refine jW.top (nI_1 _) ?_
              refine j_iload_n hX dX8_decide_120 rfl ?_
              refine j_aload_n hX dX8_decide_121 rfl ?_
              refine j_getf hX (v := .ref (ad 12)) dX8_decide_122 fX8_decide_12 11 (wCg11 _ _ _ _ _ _) rfl ?_
              refine j_iload hX dX8_decide_125 rfl ?_
              refine j_dV hX (nA := 1) (cq := (RX10, TX10, 5)) (As := [.int (nI (st p + i))]) (st := [.int free, .int (nI (p + 1)), .ref (ad 11)]) (st' := [.int (atF 210 ((chM (sM (itr (decS (decF st k) st p free disc taken) i (V, M)).2 20 (setF 7 ((itr (decS (decF st k) st p free disc taken) i (V, M)).2 20) (nI p) (nI (st p + i)))) (nI (st p + i)) (-1)) 14) (nI (st p + i))), .int free, .int (nI (p + 1)), .ref (ad 11)]) (ci := 11) rfl dX8_decide_127 (c_X10_maskAt G _ _ _ _ _ _) gX8_decide_X10_maskAt rfl (by decide +kernel) (q := 12) (wCg12 _ _ _ _ _ _) (by omega) (Nat.le_of_ble_eq_true rfl) rfl (Nat.le_of_ble_eq_true rfl) rfl ⟨Nat.le_refl _, Nat.le_refl _⟩ rfl ?_
              refine j_iconst hX (v := -1) (by decide) dX8_decide_130 ?_
              refine j_ixor hX dX8_decide_131 ?_
              refine j_iand hX dX8_decide_132 ?_
              refine j_iload_n hX dX8_decide_133 rfl ?_
              refine j_aload_n hX dX8_decide_134 rfl ?_
              refine j_getf hX (v := .ref (ad 12)) dX8_decide_135 fX8_decide_12 11 (wCg11 _ _ _ _ _ _) rfl ?_
              refine j_iload hX dX8_decide_138 rfl ?_
              refine j_dV hX (nA := 1) (cq := (RX10, TX10, 5)) (As := [.int (nI (st p + i))]) (st := [.int disc, .int (free &&& ((atF 210 ((chM (sM (itr (decS (decF st k) st p free disc taken) i (V, M)).2 20 (setF 7 ((itr (decS (decF st k) st p free disc taken) i (V, M)).2 20) (nI p) (nI (st p + i)))) (nI (st p + i)) (-1)) 14) (nI (st p + i))) ^^^ (-1))), .int (nI (p + 1)), .ref (ad 11)]) (st' := [.int (atF 210 ((chM (sM (itr (decS (decF st k) st p free disc taken) i (V, M)).2 20 (setF 7 ((itr (decS (decF st k) st p free disc taken) i (V, M)).2 20) (nI p) (nI (st p + i)))) (nI (st p + i)) (-1)) 15) (nI (st p + i))), .int disc, .int (free &&& ((atF 210 ((chM (sM (itr (decS (decF st k) st p free disc taken) i (V, M)).2 20 (setF 7 ((itr (decS (decF st k) st p free disc taken) i (V, M)).2 20) (nI p) (nI (st p + i)))) (nI (st p + i)) (-1)) 14) (nI (st p + i))) ^^^ (-1))), .int (nI (p + 1)), .ref (ad 11)]) (ci := 11) rfl dX8_decide_140 (c_X10_discountAt G _ _ _ _ _ _) gX8_decide_X10_discountAt rfl (by decide +kernel) (q := 12) (wCg12 _ _ _ _ _ _) (by omega) (Nat.le_of_ble_eq_true rfl) rfl (Nat.le_of_ble_eq_true rfl) rfl ⟨Nat.le_refl _, Nat.le_refl _⟩ rfl ?_
              refine j_iadd hX dX8_decide_143 ?_
              refine j_iload hX dX8_decide_144 rfl ?_
              refine j_iconst hX (v := 1) (by decide) dX8_decide_146 ?_
              refine j_aload_n hX dX8_decide_147 rfl ?_
              refine j_getf hX (v := .ref (ad 12)) dX8_decide_148 fX8_decide_12 11 (wCg11 _ _ _ _ _ _) rfl ?_
              refine j_iload hX dX8_decide_151 rfl ?_
              refine j_dV hX (nA := 1) (cq := (RX10, TX10, 5)) (As := [.int (nI (st p + i))]) (st := [.int 1, .int taken, .int (disc + (atF 210 ((chM (sM (itr (decS (decF st k) st p free disc taken) i (V, M)).2 20 (setF 7 ((itr (decS (decF st k) st p free disc taken) i (V, M)).2 20) (nI p) (nI (st p + i)))) (nI (st p + i)) (-1)) 15) (nI (st p + i)))), .int (free &&& ((atF 210 ((chM (sM (itr (decS (decF st k) st p free disc taken) i (V, M)).2 20 (setF 7 ((itr (decS (decF st k) st p free disc taken) i (V, M)).2 20) (nI p) (nI (st p + i)))) (nI (st p + i)) (-1)) 14) (nI (st p + i))) ^^^ (-1))), .int (nI (p + 1)), .ref (ad 11)]) (st' := [.int (atF 210 ((chM (sM (itr (decS (decF st k) st p free disc taken) i (V, M)).2 20 (setF 7 ((itr (decS (decF st k) st p free disc taken) i (V, M)).2 20) (nI p) (nI (st p + i)))) (nI (st p + i)) (-1)) 13) (nI (st p + i))), .int 1, .int taken, .int (disc + (atF 210 ((chM (sM (itr (decS (decF st k) st p free disc taken) i (V, M)).2 20 (setF 7 ((itr (decS (decF st k) st p free disc taken) i (V, M)).2 20) (nI p) (nI (st p + i)))) (nI (st p + i)) (-1)) 15) (nI (st p + i)))), .int (free &&& ((atF 210 ((chM (sM (itr (decS (decF st k) st p free disc taken) i (V, M)).2 20 (setF 7 ((itr (decS (decF st k) st p free disc taken) i (V, M)).2 20) (nI p) (nI (st p + i)))) (nI (st p + i)) (-1)) 14) (nI (st p + i))) ^^^ (-1))), .int (nI (p + 1)), .ref (ad 11)]) (ci := 11) rfl dX8_decide_153 (c_X10_offerAt G _ _ _ _ _ _) gX8_decide_X10_offerAt rfl (by decide +kernel) (q := 12) (wCg12 _ _ _ _ _ _) (by omega) (Nat.le_of_ble_eq_true rfl) rfl (Nat.le_of_ble_eq_true rfl) rfl ⟨Nat.le_refl _, Nat.le_refl _⟩ rfl ?_
              refine j_ishl hX dX8_decide_156 ?_
              refine j_ior hX dX8_decide_157 ?_
              refine j_dV hX (nA := 4) (cq := (RX8, TX8, 12)) (As := [.int (nI (p + 1)), .int (free &&& ((atF 210 ((chM (sM (itr (decS (decF st k) st p free disc taken) i (V, M)).2 20 (setF 7 ((itr (decS (decF st k) st p free disc taken) i (V, M)).2 20) (nI p) (nI (st p + i)))) (nI (st p + i)) (-1)) 14) (nI (st p + i))) ^^^ (-1))), .int (disc + (atF 210 ((chM (sM (itr (decS (decF st k) st p free disc taken) i (V, M)).2 20 (setF 7 ((itr (decS (decF st k) st p free disc taken) i (V, M)).2 20) (nI p) (nI (st p + i)))) (nI (st p + i)) (-1)) 15) (nI (st p + i)))), .int (taken ||| (1 <<< ((atF 210 ((chM (sM (itr (decS (decF st k) st p free disc taken) i (V, M)).2 20 (setF 7 ((itr (decS (decF st k) st p free disc taken) i (V, M)).2 20) (nI p) (nI (st p + i)))) (nI (st p + i)) (-1)) 13) (nI (st p + i))) &&& 31)))]) (st := []) (st' := []) (ci := 9) rfl dX8_decide_158 (hrec hp7 _ _ _ _ _ (fun q hq => by rw [show (chM (sM (itr (decS (decF st k) st p free disc taken) i (V, M)).2 20 (setF 7 ((itr (decS (decF st k) st p free disc taken) i (V, M)).2 20) (nI p) (nI (st p + i)))) (nI (st p + i)) (-1)) 16 = M 16 from ((chM_M _ _ _ rfl).trans ((sM_ne rfl).trans (dec16 _ _ _ _ _ _ _ _)))]; exact hst q hq)) gX8_decide_X8_decide rfl (by decide +kernel) (q := 11) (wCg11 _ _ _ _ _ _) (by omega) (Nat.le_of_ble_eq_true rfl) rfl (Nat.le_of_ble_eq_true rfl) rfl ⟨Nat.le_refl _, Nat.le_refl _⟩ rfl ?_
              refine j_aload_n hX dX8_decide_161 rfl ?_
              refine j_iload hX dX8_decide_162 rfl ?_
              refine j_iconst hX (v := 1) (by decide) dX8_decide_164 ?_
              refine j_dV hX (nA := 2) (cq := (RX8, TX8, 12)) (As := [.int (nI (st p + i)), .int 1]) (st := []) (st' := []) (ci := 9) rfl dX8_decide_165 (c_X8_change G _ _ _ _ _ _ _) gX8_decide_X8_change rfl (by decide +kernel) (q := 11) (wCg11 _ _ _ _ _ _) (by omega) (Nat.le_of_ble_eq_true rfl) rfl (Nat.le_of_ble_eq_true rfl) rfl ⟨Nat.le_refl _, Nat.le_refl _⟩ rfl ?_
              refine j_iinc hX (v := nI (st p + i + 1)) (ls' := [some (.ref (ad 11)), some (.int (nI p)), some (.int free), some (.int disc), some (.int taken), some (.int (withF V M taken disc 6)), some (.int (disc + amtF (M 9) (withF V M taken disc 6) 6)), some (.int (nI (st (p + 1)))), some (.int (nI (st p + i + 1)))]) dX8_decide_168 rfl (j_inc1 _) rfl rfl ?_
              refine j_goto hX (tgt := 80) dX8_decide_171 (by decide) ?_
              refine jW.world (ws' := (wC G ad (itr (decS (decF st k) st p free disc taken) (i + 1) (V, M)).1 (itr (decS (decF st k) st p free disc taken) (i + 1) (V, M)).2 en wo)) (by rw [show (itr (decS (decF st k) st p free disc taken) (i + 1) (V, M)) = ((decF st k (p + 1) (free &&& ((atF 210 ((chM (sM (itr (decS (decF st k) st p free disc taken) i (V, M)).2 20 (setF 7 ((itr (decS (decF st k) st p free disc taken) i (V, M)).2 20) (nI p) (nI (st p + i)))) (nI (st p + i)) (-1)) 14) (nI (st p + i))) ^^^ (-1))) (disc + (atF 210 ((chM (sM (itr (decS (decF st k) st p free disc taken) i (V, M)).2 20 (setF 7 ((itr (decS (decF st k) st p free disc taken) i (V, M)).2 20) (nI p) (nI (st p + i)))) (nI (st p + i)) (-1)) 15) (nI (st p + i)))) (taken ||| (1 <<< ((atF 210 ((chM (sM (itr (decS (decF st k) st p free disc taken) i (V, M)).2 20 (setF 7 ((itr (decS (decF st k) st p free disc taken) i (V, M)).2 20) (nI p) (nI (st p + i)))) (nI (st p + i)) (-1)) 13) (nI (st p + i))) &&& 31))) ((itr (decS (decF st k) st p free disc taken) i (V, M)).1, (chM (sM (itr (decS (decF st k) st p free disc taken) i (V, M)).2 20 (setF 7 ((itr (decS (decF st k) st p free disc taken) i (V, M)).2 20) (nI p) (nI (st p + i)))) (nI (st p + i)) (-1)))).1, (chM ((decF st k (p + 1) (free &&& ((atF 210 ((chM (sM (itr (decS (decF st k) st p free disc taken) i (V, M)).2 20 (setF 7 ((itr (decS (decF st k) st p free disc taken) i (V, M)).2 20) (nI p) (nI (st p + i)))) (nI (st p + i)) (-1)) 14) (nI (st p + i))) ^^^ (-1))) (disc + (atF 210 ((chM (sM (itr (decS (decF st k) st p free disc taken) i (V, M)).2 20 (setF 7 ((itr (decS (decF st k) st p free disc taken) i (V, M)).2 20) (nI p) (nI (st p + i)))) (nI (st p + i)) (-1)) 15) (nI (st p + i)))) (taken ||| (1 <<< ((atF 210 ((chM (sM (itr (decS (decF st k) st p free disc taken) i (V, M)).2 20 (setF 7 ((itr (decS (decF st k) st p free disc taken) i (V, M)).2 20) (nI p) (nI (st p + i)))) (nI (st p + i)) (-1)) 13) (nI (st p + i))) &&& 31))) ((itr (decS (decF st k) st p free disc taken) i (V, M)).1, (chM (sM (itr (decS (decF st k) st p free disc taken) i (V, M)).2 20 (setF 7 ((itr (decS (decF st k) st p free disc taken) i (V, M)).2 20) (nI p) (nI (st p + i)))) (nI (st p + i)) (-1)))).2) (nI (st p + i)) 1)) from (if_neg h96)]) ?_
              exact ih (i + 1) (by omega) (by omega)
        exact L80 (st (p + 1) - st p) 0 (Nat.le_refl _) (by omega)
    · refine j_aload_n hX dX8_decide_41 rfl ?_
      refine j_iload hX dX8_decide_42 rfl ?_
      refine j_iload hX dX8_decide_44 rfl ?_
      refine j_dV hX (nA := 2) (cq := (RX8, TX8, 12)) (As := [.int (disc + (amtF (M 9) (withF V M taken disc 6) 6)), .int (withF V M taken disc 6)]) (st := []) (st' := []) (ci := 9) rfl dX8_decide_46 (c_X8_keep G _ _ _ _ _ _ _) gX8_decide_X8_keep rfl (by decide +kernel) (q := 11) (wCg11 _ _ _ _ _ _) (by omega) (Nat.le_of_ble_eq_true rfl) rfl (Nat.le_of_ble_eq_true rfl) rfl ⟨Nat.le_refl _, Nat.le_refl _⟩ rfl ?_
      exact j_vret hX dX8_decide_49 ⟨rfl, by rw [show decF st (k + 1) p free disc taken (V, M) = (keepF (V, M) (disc + (amtF (M 9) (withF V M taken disc 6) 6)) (withF V M taken disc 6)) from ((if_pos h31).trans (if_neg h38))]⟩
  · exact j_vret hX dX8_decide_34 ⟨rfl, by rw [show decF st (k + 1) p free disc taken (V, M) = (V, M) from (if_neg h31)]⟩

theorem c_X8_decide (G : jG) (ad : Nat → Nat) (en : Nat → Option Nat) (wo : va_W) (st : Nat → Nat) : ∀ (k p : Nat), p + k = 7 → ∀ (free disc taken : Int32) (V : Nat → Int32) (M : Nat → Nat → Int32), (∀ q, q ≤ 7 → atF 8 (M 16) (nI q) = nI (st q) ∧ st q ≤ 210) → jD G (4 + k) yX8_decide wsX8_decide [.ref (ad 11), .int (nI p), .int free, .int disc, .int taken] (wC G ad V M en wo) none (wC G ad (decF st (k + 1) p free disc taken (V, M)).1 (decF st (k + 1) p free disc taken (V, M)).2 en wo)
  | 0, p, hpk, free, disc, taken, V, M, hst => c_decide_step G ad en wo st 0 p hpk (fun h => absurd h (by omega)) (by omega) free disc taken V M hst
  | k + 1, p, hpk, free, disc, taken, V, M, hst => c_decide_step G ad en wo st (k + 1) p hpk (fun _ free disc taken V M hst => by
      have h := c_X8_decide G ad en wo st k (p + 1) (by omega) free disc taken V M hst
      rwa [show 4 + k = 3 + (k + 1) by omega] at h) (by omega) free disc taken V M hst
