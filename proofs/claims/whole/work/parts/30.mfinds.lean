theorem fX12_finds_106 : jF wsX12_finds RX12 106 13 28 false .boolean := ⟨(RX12, TX12, 37), tyX12, rfl, by decide, by decide +kernel, by decide +kernel, tyX12_ok, nmX12, rfl, by decide +kernel, fun h => by cases h⟩
theorem fX12_finds_121 : jF wsX12_finds RX12 121 13 14 false .int := ⟨(RX12, TX12, 37), tyX12, rfl, by decide, by decide +kernel, by decide +kernel, tyX12_ok, nmX12, rfl, by decide +kernel, fun h => by cases h⟩
theorem fX12_finds_175 : jF wsX12_finds RX12 175 13 26 false .int := ⟨(RX12, TX12, 37), tyX12, rfl, by decide, by decide +kernel, by decide +kernel, tyX12_ok, nmX12, rfl, by decide +kernel, fun h => by cases h⟩
theorem fX12_finds_169 : jF wsX12_finds RX12 169 13 29 false .int := ⟨(RX12, TX12, 37), tyX12, rfl, by decide, by decide +kernel, by decide +kernel, tyX12_ok, nmX12, rfl, by decide +kernel, fun h => by cases h⟩
theorem fX12_finds_61 : jF wsX12_finds RX12 61 13 23 true (.array .int) := ⟨(RX12, TX12, 37), tyX12, rfl, by decide, by decide +kernel, by decide +kernel, tyX12_ok, nmX12, rfl, by decide +kernel, by decide +kernel⟩
theorem fX12_finds_58 : jF wsX12_finds RX12 58 13 22 true (.array .int) := ⟨(RX12, TX12, 37), tyX12, rfl, by decide, by decide +kernel, by decide +kernel, tyX12_ok, nmX12, rfl, by decide +kernel, by decide +kernel⟩
theorem fX12_bestDiscount_89 : jF wsX12_bestDiscount RX12 89 13 18 false .int := ⟨(RX12, TX12, 37), tyX12, rfl, by decide, by decide +kernel, by decide +kernel, tyX12_ok, nmX12, rfl, by decide +kernel, fun h => by cases h⟩
theorem fX12_bestDiscount_169 : jF wsX12_bestDiscount RX12 169 13 29 false .int := ⟨(RX12, TX12, 37), tyX12, rfl, by decide, by decide +kernel, by decide +kernel, tyX12_ok, nmX12, rfl, by decide +kernel, fun h => by cases h⟩
/-- what calls of the model keep to: a items in all, at most seven in the basket, o offers, customer c -/
def mJ (a o c : Nat) (V : Nat → Int32) (M : Nat → Nat → Int32) : Prop := V 0 = nI a ∧ a ≤ 60 ∧ cb (M 5) a ≤ 7 ∧ V 2 = nI o ∧ o ≤ 6 ∧ V 1 = nI c ∧ c < 4 ∧ (∀ j, j < o → M 12 j = -1 ∨ vp_in (M 12 j) 4)
def zeA (b : Nat → Int32) (i : Nat) : Nat → Int32 := itr (fun k b => upd b k 0) i b
def ngA (b : Nat → Int32) (i : Nat) : Nat → Int32 := itr (fun k b => upd b k (-1)) i b
def fd2 (a o : Nat) (s : VM) : VM := (sV (sV (sV s.1 5 (nI (cb (s.2 5) a))) 6 0) 8 (-1), sM (sM (sM s.2 14 (lkA (s.2 5) (s.2 14) a)) 16 (zeA (s.2 16) o)) 17 (ngA (s.2 17) 4))
def fd3 (a o c : Nat) (s : VM) : VM := ((fd2 a o s).1, sM (fd2 a o s).2 20 (hpA c (cb (s.2 5) a) o (fd2 a o s).2 (cb (s.2 5) a)))
def fd4 (a o c : Nat) (s : VM) : VM := goF (cb (s.2 5) a) o c (sumN s.2 a) (cb (s.2 5) a) 0 0 0 0 (fd3 a o c s)
def fdB (a o c : Nat) (s : VM) : Nat := ((fd4 a o c s).1 9).toNatClampNeg
def fdF (a o c : Nat) (s : VM) : VM := if s.1 7 = 0 then spF (cb (s.2 5) a) (fdB a o c s) (sumN s.2 a) (sV (fd4 a o c s).1 7 1, (fd4 a o c s).2) else s
def fdOK (a o c : Nat) (s : VM) : Prop := (fd4 a o c s).1 9 = nI (fdB a o c s) ∧ fdB a o c s ≤ 7 ∧ ∀ u, u < fdB a o c s → ∀ k, k < cb (s.2 5) a → (fd4 a o c s).2 21 k = nI u → ¬ alF (fd4 a o c s).2 u (cb (s.2 5) a) = 0
theorem fd2_I {a o c : Nat} {V : Nat → Int32} {M : Nat → Nat → Int32} (h : mJ a o c V M) : mI (cb (M 5) a) o c (fd2 a o (V, M)).1 (fd2 a o (V, M)).2 := by
  obtain ⟨ha, ha6, hcb, ho2, ho, hc1, hc, hG4⟩ := h
  exact ⟨rfl, hcb, ho2, ho, hc1, hc, fun k hk => lkA_in ha6 hk, hG4⟩
theorem fd3_I {a o c : Nat} {V : Nat → Int32} {M : Nat → Nat → Int32} (h : mJ a o c V M) : mI (cb (M 5) a) o c (fd3 a o c (V, M)).1 (fd3 a o c (V, M)).2 := mI_20 (fd2_I h)
theorem fd4_K {a o c : Nat} (s : VM) : Kept (fd3 a o c s) (fd4 a o c s) := goF_K _ _ _ _ _ _ _ _ _ _ nI_0.symm
theorem fd4_I {a o c : Nat} {V : Nat → Int32} {M : Nat → Nat → Int32} (h : mJ a o c V M) : mI (cb (M 5) a) o c (fd4 a o c (V, M)).1 (fd4 a o c (V, M)).2 := (fd4_K (V, M)).mI (fd3_I h)
def fkV (k : Nat) : Prop := gkV k ∧ Nat.beq k 5 = false ∧ Nat.beq k 7 = false
def fkM (k : Nat) : Prop := gkM k ∧ Nat.beq k 3 = false ∧ Nat.beq k 14 = false ∧ Nat.beq k 20 = false
theorem fd4_VM {a o c : Nat} (s : VM) : (∀ k, gkV k → Nat.beq k 5 = false → (fd4 a o c s).1 k = s.1 k) ∧ (∀ k, gkM k → Nat.beq k 14 = false → Nat.beq k 20 = false → (fd4 a o c s).2 k = s.2 k) := by
  have h := fd4_K (a := a) (o := o) (c := c) s
  refine ⟨fun k hk h5 => (h.1 k hk).trans ((sV_ne hk.2.1).trans ((sV_ne hk.1).trans (sV_ne h5))), fun k hk h14 h20 => (h.2.1 k hk).trans ((sM_ne h20).trans ((sM_ne hk.2.2.1).trans ((sM_ne hk.2.1).trans (sM_ne h14))))⟩
theorem fdF_VM {a o c : Nat} (s : VM) : (∀ k, fkV k → (fdF a o c s).1 k = s.1 k) ∧ (∀ k, fkM k → (fdF a o c s).2 k = s.2 k) := by
  unfold fdF
  split
  · have h := fd4_VM (a := a) (o := o) (c := c) s
    exact ⟨fun k hk => (sV_ne hk.2.2).trans (h.1 k hk.1 hk.2.1), fun k hk => (sM_ne hk.1.1).trans ((sM_ne hk.2.1).trans (h.2 k hk.1 hk.2.2.1 hk.2.2.2))⟩
  · exact ⟨fun _ _ => rfl, fun _ _ => rfl⟩
theorem fdF_J {a o c : Nat} {V : Nat → Int32} {M : Nat → Nat → Int32} (h : mJ a o c V M) : mJ a o c (fdF a o c (V, M)).1 (fdF a o c (V, M)).2 := by
  obtain ⟨ha, ha6, hcb, ho2, ho, hc1, hc, hG4⟩ := h
  have hk := fdF_VM (a := a) (o := o) (c := c) (V, M)
  have e5 : (fdF a o c (V, M)).2 5 = M 5 := hk.2 5 (by unfold fkM gkM; decide)
  have e12 : (fdF a o c (V, M)).2 12 = M 12 := hk.2 12 (by unfold fkM gkM; decide)
  exact ⟨(hk.1 0 (by unfold fkV gkV; decide)).trans ha, ha6, by rw [e5]; exact hcb, (hk.1 2 (by unfold fkV gkV; decide)).trans ho2, ho, (hk.1 1 (by unfold fkV gkV; decide)).trans hc1, hc, fun j hj => by rw [e12]; exact hG4 j hj⟩
set_option maxHeartbeats 4000000 in
set_option maxRecDepth 100000 in
theorem c_X12_finds (G : jG) (ad : Nat → Nat) (V : Nat → Int32) (M : Nat → Nat → Int32) (t : Int64) (a o c : Nat) (hJ : mJ a o c V M) (hok : V 7 = 0 → fdOK a o c (V, M)) : jD G 76 yX12_finds wsX12_finds [.ref (ad 0)] (wM G ad V M t) none (wM G ad (fdF a o c (V, M)).1 (fdF a o c (V, M)).2 t) := by
  refine jC.of (maxL := 3) (cc := cX12_finds) (ret := none) rfl (by decide) [some (.ref (ad 0)), none, none] rfl (Nat.le_of_ble_eq_true rfl) (j_args rfl) (fun X hX => ?_)
  have hJ0 := hJ
  obtain ⟨ha, ha6, hcb, ho2, ho, hc1, hc, hG4⟩ := hJ
  refine j_aload_n hX dX12_finds_0 rfl ?_
  refine j_getf hX (v := .int (V 7)) dX12_finds_1 fX12_finds_106 0 (wMg0 _ _ _ _ _) rfl ?_
  refine j_if_eq hX (tgt := 8) dX12_finds_4 (by decide) (fun h4 => ?_) (fun h4 => ?_)
  · refine j_aload_n hX dX12_finds_8 rfl ?_
    refine j_dV hX (nA := 0) (cq := (RX12, TX12, 37)) (As := []) (st := []) (st' := [.int (sumN M a)]) (ci := 13) rfl dX12_finds_9 (c_X12_sumNow G _ V M _ a ha ha6 hcb) gX12_finds_X12_sumNow rfl (by decide +kernel) (q := 0) (wMg0 _ _ _ _ _) (by omega) (Nat.le_of_ble_eq_true rfl) rfl (Nat.le_of_ble_eq_true rfl) rfl ⟨Nat.le_refl _, Nat.le_refl _⟩ rfl ?_
    refine j_istore_n hX (ls' := [some (.ref (ad 0)), some (.int (sumN M a)), none]) dX12_finds_12 (Nat.le_of_ble_eq_true rfl) rfl rfl ?_
    refine j_iconst hX (v := 0) (by decide) dX12_finds_13 ?_
    refine j_istore_n hX (ls' := [some (.ref (ad 0)), some (.int (sumN M a)), some (.int 0)]) dX12_finds_14 (Nat.le_of_ble_eq_true rfl) rfl rfl ?_
    have L15 : ∀ zi i : Nat, 0 ≤ i → i + zi = o → jW G X 0 0 15 [some (.ref (ad 0)), some (.int (sumN M a)), some (.int (nI i))] [] (wM G ad (sV V 5 (nI (cb (M 5) a))) (sM (sM M 14 (lkA (M 5) (M 14) a)) 16 (zeA (M 16) i)) t) := by
      intro zi
      induction zi with
      | zero =>
        intro i h0 hi
        have hin : i = o := by omega
        refine j_iload_n hX dX12_finds_15 rfl ?_
        refine j_aload_n hX dX12_finds_16 rfl ?_
        refine j_getf hX (v := .int (V 2)) dX12_finds_17 fX12_finds_121 0 (wMg0 _ _ _ _ _) rfl ?_
        refine jW.top ho2 ?_
        refine j_icmp_ge_t hX (tgt := 36) dX12_finds_20 (by decide) (by rw [hin]; exact nI_le (Nat.le_refl _) (by omega)) ?_
        refine j_iconst hX (v := 0) (by decide) dX12_finds_36 ?_
        refine j_istore_n hX (ls' := [some (.ref (ad 0)), some (.int (sumN M a)), some (.int 0)]) dX12_finds_37 (Nat.le_of_ble_eq_true rfl) rfl rfl ?_
        have L38 : ∀ zg g : Nat, 0 ≤ g → g + zg = 4 → jW G X 0 0 38 [some (.ref (ad 0)), some (.int (sumN M a)), some (.int (nI g))] [] (wM G ad (sV V 5 (nI (cb (M 5) a))) (sM (sM (sM M 14 (lkA (M 5) (M 14) a)) 16 (zeA (M 16) o)) 17 (ngA (M 17) g)) t) := by
          intro zg
          induction zg with
          | zero =>
            intro g h0g hig
            have hing : g = 4 := by omega
            refine j_iload_n hX dX12_finds_38 rfl ?_
            refine j_iconst hX (v := 4) (by decide) dX12_finds_39 ?_
            refine j_icmp_ge_t hX (tgt := 56) dX12_finds_40 (by decide) (nI_le (a := 4) (b := g) (by omega) (by omega)) ?_
            refine jW.world (ws' := (wM G ad (sV V 5 (nI (cb (M 5) a))) (sM (sM (sM M 14 (lkA (M 5) (M 14) a)) 16 (zeA (M 16) o)) 17 (ngA (M 17) 4)) t)) (by rw [hing]) ?_
            refine j_aload_n hX dX12_finds_56 rfl ?_
            refine j_iconst hX (v := 0) (by decide) dX12_finds_57 ?_
            refine j_putf hX (ws' := (wM G ad (sV (sV V 5 (nI (cb (M 5) a))) 6 0) (sM (sM (sM M 14 (lkA (M 5) (M 14) a)) 16 (zeA (M 16) o)) 17 (ngA (M 17) 4)) t)) dX12_finds_58 fX12_finds_175 0 (wMg0 _ _ _ _ _) (Nat.le_of_ble_eq_true rfl) rfl rfl (wMp0_26 _ _ _ _ _ _) ?_
            refine j_aload_n hX dX12_finds_61 rfl ?_
            refine j_iconst hX (v := -1) (by decide) dX12_finds_62 ?_
            refine j_putf hX (ws' := (wM G ad (sV (sV (sV V 5 (nI (cb (M 5) a))) 6 0) 8 (-1)) (sM (sM (sM M 14 (lkA (M 5) (M 14) a)) 16 (zeA (M 16) o)) 17 (ngA (M 17) 4)) t)) dX12_finds_63 fX12_finds_169 0 (wMg0 _ _ _ _ _) (Nat.le_of_ble_eq_true rfl) rfl rfl (wMp0_29 _ _ _ _ _ _) ?_
            refine jW.world (ws' := (wM G ad (fd2 a o (V, M)).1 (fd2 a o (V, M)).2 t)) rfl ?_
            refine j_aload_n hX dX12_finds_66 rfl ?_
            refine j_dV hX (nA := 0) (cq := (RX12, TX12, 37)) (As := []) (st := []) (st' := []) (ci := 13) rfl dX12_finds_67 (c_X12_hope G _ (fd2 a o (V, M)).1 (fd2 a o (V, M)).2 _ (cb (M 5) a) o c (fd2_I hJ0)) gX12_finds_X12_hope rfl (by decide +kernel) (q := 0) (wMg0 _ _ _ _ _) (by omega) (Nat.le_of_ble_eq_true rfl) rfl (Nat.le_of_ble_eq_true rfl) rfl ⟨Nat.le_refl _, Nat.le_refl _⟩ rfl ?_
            refine j_aload_n hX dX12_finds_70 rfl ?_
            refine j_iconst hX (v := 0) (by decide) dX12_finds_71 ?_
            refine jW.top nI_0.symm ?_
            refine j_iconst hX (v := 0) (by decide) dX12_finds_72 ?_
            refine j_iconst hX (v := 0) (by decide) dX12_finds_73 ?_
            refine j_iload_n hX dX12_finds_74 rfl ?_
            refine j_dV hX (nA := 4) (cq := (RX12, TX12, 37)) (As := [.int (nI 0), .int 0, .int 0, .int (sumN M a)]) (st := []) (st' := []) (ci := 13) rfl dX12_finds_75 (c_X12_goes G _ _ (cb (M 5) a) o c (sumN M a) (cb (M 5) a) 0 (Nat.zero_add _) 0 0 0 (fd3 a o c (V, M)).1 (fd3 a o c (V, M)).2 nI_0.symm (Nat.le_refl _) (fd3_I hJ0)) gX12_finds_X12_goes rfl (by decide +kernel) (q := 0) (wMg0 _ _ _ _ _) (by omega) (Nat.le_of_ble_eq_true rfl) rfl (Nat.le_of_ble_eq_true rfl) rfl ⟨Nat.le_refl _, Nat.le_refl _⟩ rfl ?_
            refine j_aload_n hX dX12_finds_78 rfl ?_
            refine j_iconst hX (v := 1) (by decide) dX12_finds_79 ?_
            refine j_putf hX (ws' := (wM G ad (sV (fd4 a o c (V, M)).1 7 1) (fd4 a o c (V, M)).2 t)) dX12_finds_80 fX12_finds_106 0 (wMg0 _ _ _ _ _) (Nat.le_of_ble_eq_true rfl) (by decide) rfl (wMp0_28 _ _ _ _ _ _) ?_
            refine j_aload_n hX dX12_finds_83 rfl ?_
            refine j_iload_n hX dX12_finds_84 rfl ?_
            refine j_dV hX (nA := 1) (cq := (RX12, TX12, 37)) (As := [.int (sumN M a)]) (st := []) (st' := []) (ci := 13) rfl dX12_finds_85 (c_X12_spreads G _ (sV (fd4 a o c (V, M)).1 7 1) ((fd4 a o c (V, M)).2) _ (cb (M 5) a) o c (fd4_I hJ0) (fdB a o c (V, M)) (hok h4).1 (hok h4).2.1 (sumN M a) (hok h4).2.2) gX12_finds_X12_spreads rfl (by decide +kernel) (q := 0) (wMg0 _ _ _ _ _) (by omega) (Nat.le_of_ble_eq_true rfl) rfl (Nat.le_of_ble_eq_true rfl) rfl ⟨Nat.le_refl _, Nat.le_refl _⟩ rfl ?_
            exact j_vret hX dX12_finds_88 ⟨rfl, by rw [show fdF a o c (V, M) = (spF (cb (M 5) a) (fdB a o c (V, M)) (sumN M a) ((sV (fd4 a o c (V, M)).1 7 1), (fd4 a o c (V, M)).2)) from if_pos h4]⟩
          | succ zg ihg =>
            intro g h0g hig
            have hing : g < 4 := by omega
            refine j_iload_n hX dX12_finds_38 rfl ?_
            refine j_iconst hX (v := 4) (by decide) dX12_finds_39 ?_
            refine j_icmp_ge_f hX (tgt := 56) dX12_finds_40 (by decide) (nI_ge (a := g) (b := 4) (by omega) (by decide)) ?_
            refine j_aload_n hX dX12_finds_43 rfl ?_
            refine j_getf hX (v := .ref (ad 17)) dX12_finds_44 fX12_finds_61 0 (wMg0 _ _ _ _ _) rfl ?_
            refine j_iload_n hX dX12_finds_47 rfl ?_
            refine j_iconst hX (v := -1) (by decide) dX12_finds_48 ?_
            refine j_iast hX (ws' := (wM G ad (sV V 5 (nI (cb (M 5) a))) (sM (sM (sM M 14 (lkA (M 5) (M 14) a)) 16 (zeA (M 16) o)) 17 (upd (ngA (M 17) g) g (-1))) t)) dX12_finds_49 17 (wMg17 _ _ _ _ _) (nI_in (by omega) (by decide)) (by rw [nI_clamp (by omega)]; exact (wMo17 _ _ _ _ _ _ _)) ?_
            refine j_iinc hX (v := nI (g + 1)) (ls' := [some (.ref (ad 0)), some (.int (sumN M a)), some (.int (nI (g + 1)))]) dX12_finds_50 rfl (j_inc1 _) rfl rfl ?_
            refine j_goto hX (tgt := 38) dX12_finds_53 (by decide) ?_
            exact ihg (g + 1) (by omega) (by omega)
        refine jW.world (ws' := (wM G ad (sV V 5 (nI (cb (M 5) a))) (sM (sM (sM M 14 (lkA (M 5) (M 14) a)) 16 (zeA (M 16) o)) 17 (ngA (M 17) 0)) t)) (by rw [hin, show ngA (M 17) 0 = (sM (sM M 14 (lkA (M 5) (M 14) a)) 16 (zeA (M 16) o)) 17 from rfl, sM_eq]) ?_
        exact L38 4 0 (Nat.le_refl _) (by omega)
      | succ zi ih =>
        intro i h0 hi
        have hin : i < o := by omega
        refine j_iload_n hX dX12_finds_15 rfl ?_
        refine j_aload_n hX dX12_finds_16 rfl ?_
        refine j_getf hX (v := .int (V 2)) dX12_finds_17 fX12_finds_121 0 (wMg0 _ _ _ _ _) rfl ?_
        refine jW.top ho2 ?_
        refine j_icmp_ge_f hX (tgt := 36) dX12_finds_20 (by decide) (nI_ge hin (by omega)) ?_
        refine j_aload_n hX dX12_finds_23 rfl ?_
        refine j_getf hX (v := .ref (ad 16)) dX12_finds_24 fX12_finds_58 0 (wMg0 _ _ _ _ _) rfl ?_
        refine j_iload_n hX dX12_finds_27 rfl ?_
        refine j_iconst hX (v := 0) (by decide) dX12_finds_28 ?_
        refine j_iast hX (ws' := (wM G ad (sV V 5 (nI (cb (M 5) a))) (sM (sM M 14 (lkA (M 5) (M 14) a)) 16 (upd (zeA (M 16) i) i 0)) t)) dX12_finds_29 16 (wMg16 _ _ _ _ _) (nI_in (by omega) (by decide)) (by rw [nI_clamp (by omega)]; exact (wMo16 _ _ _ _ _ _ _)) ?_
        refine j_iinc hX (v := nI (i + 1)) (ls' := [some (.ref (ad 0)), some (.int (sumN M a)), some (.int (nI (i + 1)))]) dX12_finds_30 rfl (j_inc1 _) rfl rfl ?_
        refine j_goto hX (tgt := 15) dX12_finds_33 (by decide) ?_
        exact ih (i + 1) (by omega) (by omega)
    refine jW.world (ws' := (wM G ad (sV V 5 (nI (cb (M 5) a))) (sM (sM M 14 (lkA (M 5) (M 14) a)) 16 (zeA (M 16) 0)) t)) (by rw [show zeA (M 16) 0 = (sM M 14 (lkA (M 5) (M 14) a)) 16 from rfl, sM_eq]) ?_
    exact L15 o 0 (Nat.le_refl _) (by omega)
  · exact j_vret hX dX12_finds_7 ⟨rfl, by rw [show fdF a o c (V, M) = (V, M) from if_neg h4]⟩

set_option maxHeartbeats 4000000 in
set_option maxRecDepth 100000 in
theorem c_X12_bestDiscount (G : jG) (ad : Nat → Nat) (V : Nat → Int32) (M : Nat → Nat → Int32) (t : Int64) (a o c : Nat) (hJ : mJ a o c V M) (hok : V 7 = 0 → fdOK a o c (sV V 4 0, M)) : jD G 77 yX12_bestDiscount wsX12_bestDiscount [.ref (ad 0)] (wM G ad V M t) (some (.int ((fdF a o c (sV V 4 0, M)).1 8))) (wM G ad (fdF a o c (sV V 4 0, M)).1 (fdF a o c (sV V 4 0, M)).2 t) := by
  refine jC.of (maxL := 1) (cc := cX12_bestDiscount) (ret := (some .int)) rfl (by decide) [some (.ref (ad 0))] rfl (Nat.le_of_ble_eq_true rfl) (j_args rfl) (fun X hX => ?_)
  refine j_aload_n hX dX12_bestDiscount_0 rfl ?_
  refine j_iconst hX (v := 0) (by decide) dX12_bestDiscount_1 ?_
  refine j_putf hX (ws' := (wM G ad (sV V 4 0) M t)) dX12_bestDiscount_2 fX12_bestDiscount_89 0 (wMg0 _ _ _ _ _) (Nat.le_of_ble_eq_true rfl) rfl rfl (wMp0_18 _ _ _ _ _ _) ?_
  refine j_aload_n hX dX12_bestDiscount_5 rfl ?_
  refine j_dV hX (nA := 0) (cq := (RX12, TX12, 37)) (As := []) (st := []) (st' := []) (ci := 13) rfl dX12_bestDiscount_6 (c_X12_finds G _ (sV V 4 0) M _ a o c hJ hok) gX12_bestDiscount_X12_finds rfl (by decide +kernel) (q := 0) (wMg0 _ _ _ _ _) (by decide) (Nat.le_of_ble_eq_true rfl) rfl (Nat.le_of_ble_eq_true rfl) rfl ⟨Nat.le_refl _, Nat.le_refl _⟩ rfl ?_
  refine j_aload_n hX dX12_bestDiscount_9 rfl ?_
  refine j_getf hX (v := .int ((fdF a o c ((sV V 4 0), M)).1 8)) dX12_bestDiscount_10 fX12_bestDiscount_169 0 (wMg0 _ _ _ _ _) rfl ?_
  exact j_iret hX dX12_bestDiscount_13 ⟨rfl, rfl⟩

