theorem fX12_takes_44 : jF wsX12_takes RX12 44 13 13 true (.array .int) := ⟨(RX12, TX12, 37), tyX12, rfl, by decide, by decide +kernel, by decide +kernel, tyX12_ok, nmX12, rfl, by decide +kernel, by decide +kernel⟩
theorem fX12_takes_61 : jF wsX12_takes RX12 61 13 23 true (.array .int) := ⟨(RX12, TX12, 37), tyX12, rfl, by decide, by decide +kernel, by decide +kernel, tyX12_ok, nmX12, rfl, by decide +kernel, by decide +kernel⟩
theorem fX12_takes_93 : jF wsX12_takes RX12 93 13 20 false .int := ⟨(RX12, TX12, 37), tyX12, rfl, by decide, by decide +kernel, by decide +kernel, tyX12_ok, nmX12, rfl, by decide +kernel, fun h => by cases h⟩
theorem fX12_takes_64 : jF wsX12_takes RX12 64 13 24 true (.array .int) := ⟨(RX12, TX12, 37), tyX12, rfl, by decide, by decide +kernel, by decide +kernel, tyX12_ok, nmX12, rfl, by decide +kernel, by decide +kernel⟩
theorem fX12_takes_175 : jF wsX12_takes RX12 175 13 26 false .int := ⟨(RX12, TX12, 37), tyX12, rfl, by decide, by decide +kernel, by decide +kernel, tyX12_ok, nmX12, rfl, by decide +kernel, fun h => by cases h⟩
theorem fX12_takes_67 : jF wsX12_takes RX12 67 13 25 true (.array .int) := ⟨(RX12, TX12, 37), tyX12, rfl, by decide, by decide +kernel, by decide +kernel, tyX12_ok, nmX12, rfl, by decide +kernel, by decide +kernel⟩
theorem fX12_takes_58 : jF wsX12_takes RX12 58 13 22 true (.array .int) := ⟨(RX12, TX12, 37), tyX12, rfl, by decide, by decide +kernel, by decide +kernel, tyX12_ok, nmX12, rfl, by decide +kernel, by decide +kernel⟩
theorem fX12_takes_55 : jF wsX12_takes RX12 55 13 21 true (.array .int) := ⟨(RX12, TX12, 37), tyX12, rfl, by decide, by decide +kernel, by decide +kernel, tyX12_ok, nmX12, rfl, by decide +kernel, by decide +kernel⟩
theorem fX12_chooses_93 : jF wsX12_chooses RX12 93 13 20 false .int := ⟨(RX12, TX12, 37), tyX12, rfl, by decide, by decide +kernel, by decide +kernel, tyX12_ok, nmX12, rfl, by decide +kernel, fun h => by cases h⟩
def uoA (set : Int32) (u : Nat) (f : Nat → Int32) (i : Nat) : Nat → Int32 := itr (fun k f => upd f k (if inB set k = 1 then nI u else f k)) i f
def tk1 (n j u : Nat) (set : Int32) (s : VM) : VM :=
  if s.2 12 j = -1 then (sV s.1 6 (nI (u + 1)), sM (sM (sM (sM s.2 15 (uoA set u (s.2 15) n)) 18 (upd (s.2 18) u (nI j))) 19 (upd (s.2 19) u (diM s.2 n j set))) 16 (upd (s.2 16) j (s.2 16 j + 1)))
  else (sV s.1 6 (nI (u + 1)), sM (sM (sM (sM (sM s.2 15 (uoA set u (s.2 15) n)) 18 (upd (s.2 18) u (nI j))) 19 (upd (s.2 19) u (diM s.2 n j set))) 16 (upd (s.2 16) j (s.2 16 j + 1))) 17 (upd (s.2 17) (s.2 12 j).toNatClampNeg (nI j)))
def tk3 (j u : Nat) (s r : VM) : VM :=
  if s.2 12 j = -1 then (sV r.1 6 (nI u), sM r.2 16 (upd (r.2 16) j (r.2 16 j - 1)))
  else (sV r.1 6 (nI u), sM (sM r.2 16 (upd (r.2 16) j (r.2 16 j - 1))) 17 (upd (r.2 17) (s.2 12 j).toNatClampNeg (s.2 17 (s.2 12 j).toNatClampNeg)))
def tkF (R : Nat → Int32 → Int32 → VM → VM) (n j u : Nat) (taken off set : Int32) (s : VM) : VM := tk3 j u s (R (u + 1) (taken ||| set) (off + diM s.2 n j set) (tk1 n j u set s))
theorem tk1_6 (n j u : Nat) (set : Int32) (s : VM) : (tk1 n j u set s).1 6 = nI (u + 1) := by unfold tk1; split <;> rfl
theorem tk1_K (n j u : Nat) (set : Int32) (s : VM) : (∀ k, gkV k → (tk1 n j u set s).1 k = s.1 k) ∧ (∀ k, gkM k → (tk1 n j u set s).2 k = s.2 k) := by
  unfold tk1
  split
  · exact ⟨fun k hk => sV_ne hk.1, fun k ⟨h1, h2, h3, h4, h5, _⟩ => (sM_ne h2).trans ((sM_ne h5).trans ((sM_ne h4).trans (sM_ne h1)))⟩
  · exact ⟨fun k hk => sV_ne hk.1, fun k ⟨h1, h2, h3, h4, h5, _⟩ => (sM_ne h3).trans ((sM_ne h2).trans ((sM_ne h5).trans ((sM_ne h4).trans (sM_ne h1))))⟩
theorem tk3_K (j u : Nat) (s r : VM) : (∀ k, gkV k → (tk3 j u s r).1 k = r.1 k) ∧ (∀ k, gkM k → (tk3 j u s r).2 k = r.2 k) ∧ (tk3 j u s r).1 6 = nI u := by
  unfold tk3
  split
  · exact ⟨fun k hk => sV_ne hk.1, fun k ⟨h1, h2, h3, h4, h5, _⟩ => sM_ne h2, rfl⟩
  · exact ⟨fun k hk => sV_ne hk.1, fun k ⟨h1, h2, h3, h4, h5, _⟩ => (sM_ne h3).trans (sM_ne h2), rfl⟩
theorem tkF_K {R : Nat → Int32 → Int32 → VM → VM} {n j u : Nat} {taken off set : Int32} (hR : ∀ u taken off s, s.1 6 = nI u → Kept s (R u taken off s)) {s : VM} (hu : s.1 6 = nI u) : Kept s (tkF R n j u taken off set s) := by
  have h1 := tk1_K n j u set s
  have h2 := hR (u + 1) (taken ||| set) (off + diM s.2 n j set) _ (tk1_6 n j u set s)
  have h3 := tk3_K j u s (R (u + 1) (taken ||| set) (off + diM s.2 n j set) (tk1 n j u set s))
  exact ⟨fun k hk => (h3.1 k hk).trans ((h2.1 k hk).trans (h1.1 k hk)), fun k hk => (h3.2.1 k hk).trans ((h2.2.1 k hk).trans (h1.2 k hk)), h3.2.2.trans hu.symm⟩
theorem mI_K {n o c : Nat} {V V' : Nat → Int32} {M M' : Nat → Nat → Int32} (hI : mI n o c V M) (h1 : ∀ k, gkV k → V' k = V k) (h2 : ∀ k, gkM k → M' k = M k) : mI n o c V' M' := by
  obtain ⟨a1, a2, a3, a4, a5, a6, a7, a8⟩ := hI
  refine ⟨(h1 5 ⟨rfl, rfl, rfl, rfl⟩).trans a1, a2, (h1 2 ⟨rfl, rfl, rfl, rfl⟩).trans a3, a4, (h1 1 ⟨rfl, rfl, rfl, rfl⟩).trans a5, a6, fun k hk => ?_, fun j hj => ?_⟩
  · rw [h2 14 ⟨rfl, rfl, rfl, rfl, rfl, rfl, rfl, rfl, rfl, rfl⟩]; exact a7 k hk
  · rw [h2 12 ⟨rfl, rfl, rfl, rfl, rfl, rfl, rfl, rfl, rfl, rfl⟩]; exact a8 j hj
theorem tk1_I {n o c : Nat} {V : Nat → Int32} {M : Nat → Nat → Int32} (n' j u : Nat) (set : Int32) (hI : mI n o c V M) : mI n o c (tk1 n' j u set (V, M)).1 (tk1 n' j u set (V, M)).2 := mI_K hI (tk1_K n' j u set (V, M)).1 (tk1_K n' j u set (V, M)).2
set_option maxHeartbeats 4000000 in
set_option maxRecDepth 100000 in
theorem c_X12_takes (G : jG) (ad : Nat → Nat) (V : Nat → Int32) (M : Nat → Nat → Int32) (t : Int64) (n o c : Nat) (hI : mI n o c V M) (j : Nat) (hj : j < o) (u : Nat) (hu : V 6 = nI u) (p : Nat) (hup : u ≤ p) (hp : p < n) (set taken off sum : Int32) (dg : Nat) (R : Nat → Int32 → Int32 → VM → VM) (hrec : ∀ (u : Nat) (taken off : Int32) (V : Nat → Int32) (M : Nat → Nat → Int32), V 6 = nI u → u ≤ p + 1 → mI n o c V M → jD G dg yX12_goes wsX12_goes [.ref (ad 0), .int (nI (p + 1)), .int taken, .int off, .int sum] (wM G ad V M t) none (wM G ad (R u taken off (V, M)).1 (R u taken off (V, M)).2 t)) (hR : ∀ u taken off s, s.1 6 = nI u → Kept s (R u taken off s)) (hdg : 3 ≤ dg) : jD G (dg + 1) yX12_takes wsX12_takes [.ref (ad 0), .int (nI j), .int (nI p), .int set, .int taken, .int off, .int sum] (wM G ad V M t) none (wM G ad (tkF R n j u taken off set (V, M)).1 (tkF R n j u taken off set (V, M)).2 t) := by
  refine jC.of (maxL := 10) (cc := cX12_takes) (ret := none) rfl (by decide) [some (.ref (ad 0)), some (.int (nI j)), some (.int (nI p)), some (.int set), some (.int taken), some (.int off), some (.int sum), none, none, none] rfl (Nat.le_of_ble_eq_true rfl) (j_args rfl) (fun X hX => ?_)
  have hI0 := hI
  have hI1 : mI n o c (tk1 n j u set (V, M)).1 (tk1 n j u set (V, M)).2 := tk1_I _ _ _ _ hI
  obtain ⟨hn5, hn, ho2, ho, hc1, hc, hB, hG4⟩ := hI
  refine j_aload_n hX dX12_takes_0 rfl ?_
  refine j_iload_n hX dX12_takes_1 rfl ?_
  refine j_iload_n hX dX12_takes_2 rfl ?_
  refine j_dV hX (nA := 2) (cq := (RX12, TX12, 37)) (As := [.int (nI j), .int set]) (st := []) (st' := [.int (diM M n j set)]) (ci := 13) rfl dX12_takes_3 (c_X12_discount G _ V M _ n o c hI0 j (by omega) _) gX12_takes_X12_discount rfl (by decide +kernel) (q := 0) (wMg0 _ _ _ _ _) (by omega) (Nat.le_of_ble_eq_true rfl) rfl (Nat.le_of_ble_eq_true rfl) rfl ⟨Nat.le_refl _, Nat.le_refl _⟩ rfl ?_
  refine j_istore hX (ls' := [some (.ref (ad 0)), some (.int (nI j)), some (.int (nI p)), some (.int set), some (.int taken), some (.int off), some (.int sum), some (.int (diM M n j set)), none, none]) dX12_takes_6 (Nat.le_of_ble_eq_true rfl) rfl rfl ?_
  refine j_aload_n hX dX12_takes_8 rfl ?_
  refine j_getf hX (v := .ref (ad 12)) dX12_takes_9 fX12_takes_44 0 (wMg0 _ _ _ _ _) rfl ?_
  refine j_iload_n hX dX12_takes_12 rfl ?_
  refine j_iald hX (v := (M 12) j) dX12_takes_13 12 (wMg12 _ _ _ _ _) (nI_in (by omega) (by decide)) (rdc (by omega)) ?_
  refine j_iconst hX (v := -1) (by decide) dX12_takes_14 ?_
  refine j_icmp_ne hX (tgt := 22) dX12_takes_15 (by decide) (fun h15 => ?_) (fun h15 => ?_)
  · refine j_aload_n hX dX12_takes_22 rfl ?_
    refine j_getf hX (v := .ref (ad 17)) dX12_takes_23 fX12_takes_61 0 (wMg0 _ _ _ _ _) rfl ?_
    refine j_aload_n hX dX12_takes_26 rfl ?_
    refine j_getf hX (v := .ref (ad 12)) dX12_takes_27 fX12_takes_44 0 (wMg0 _ _ _ _ _) rfl ?_
    refine j_iload_n hX dX12_takes_30 rfl ?_
    refine j_iald hX (v := (M 12) j) dX12_takes_31 12 (wMg12 _ _ _ _ _) (nI_in (by omega) (by decide)) (rdc (by omega)) ?_
    refine j_iald hX (v := (M 17) (((M 12) j).toNatClampNeg)) dX12_takes_32 17 (wMg17 _ _ _ _ _) ((hG4 j hj).resolve_left h15) rfl ?_
    refine j_istore hX (ls' := [some (.ref (ad 0)), some (.int (nI j)), some (.int (nI p)), some (.int set), some (.int taken), some (.int off), some (.int sum), some (.int (diM M n j set)), some (.int ((M 17) (((M 12) j).toNatClampNeg))), none]) dX12_takes_33 (Nat.le_of_ble_eq_true rfl) rfl rfl ?_
    refine j_iconst hX (v := 0) (by decide) dX12_takes_35 ?_
    refine j_istore hX (ls' := [some (.ref (ad 0)), some (.int (nI j)), some (.int (nI p)), some (.int set), some (.int taken), some (.int off), some (.int sum), some (.int (diM M n j set)), some (.int ((M 17) (((M 12) j).toNatClampNeg))), some (.int 0)]) dX12_takes_36 (Nat.le_of_ble_eq_true rfl) rfl rfl ?_
    have L38 : ∀ zi i : Nat, 0 ≤ i → i + zi = n → jW G X 0 0 38 [some (.ref (ad 0)), some (.int (nI j)), some (.int (nI p)), some (.int set), some (.int taken), some (.int off), some (.int sum), some (.int (diM M n j set)), some (.int ((M 17) (((M 12) j).toNatClampNeg))), some (.int (nI i))] [] (wM G ad V (sM M 15 (uoA set u (M 15) i)) t) := by
      intro zi
      induction zi with
      | zero =>
        intro i h0 hi
        have hin : i = n := by omega
        refine j_iload hX dX12_takes_38 rfl ?_
        refine j_aload_n hX dX12_takes_40 rfl ?_
        refine j_getf hX (v := .int (V 5)) dX12_takes_41 fX12_takes_93 0 (wMg0 _ _ _ _ _) rfl ?_
        refine jW.top hn5 ?_
        refine j_icmp_ge_t hX (tgt := 84) dX12_takes_44 (by decide) (by rw [hin]; exact nI_le (Nat.le_refl _) (by omega)) ?_
        refine jW.world (ws' := (wM G ad V (sM M 15 (uoA set u (M 15) n)) t)) (by rw [hin]) ?_
        refine j_aload_n hX dX12_takes_84 rfl ?_
        refine j_getf hX (v := .ref (ad 18)) dX12_takes_85 fX12_takes_64 0 (wMg0 _ _ _ _ _) rfl ?_
        refine j_aload_n hX dX12_takes_88 rfl ?_
        refine j_getf hX (v := .int (V 6)) dX12_takes_89 fX12_takes_175 0 (wMg0 _ _ _ _ _) rfl ?_
        refine jW.top hu ?_
        refine j_iload_n hX dX12_takes_92 rfl ?_
        refine j_iast hX (ws' := (wM G ad V (sM (sM M 15 (uoA set u (M 15) n)) 18 (upd (M 18) u (nI j))) t)) dX12_takes_93 18 (wMg18 _ _ _ _ _) (nI_in (by omega) (by decide)) (by rw [nI_clamp (by omega)]; exact (wMp18 _ _ _ _ _ _)) ?_
        refine j_aload_n hX dX12_takes_94 rfl ?_
        refine j_getf hX (v := .ref (ad 19)) dX12_takes_95 fX12_takes_67 0 (wMg0 _ _ _ _ _) rfl ?_
        refine j_aload_n hX dX12_takes_98 rfl ?_
        refine j_getf hX (v := .int (V 6)) dX12_takes_99 fX12_takes_175 0 (wMg0 _ _ _ _ _) rfl ?_
        refine jW.top hu ?_
        refine j_iload hX dX12_takes_102 rfl ?_
        refine j_iast hX (ws' := (wM G ad V (sM (sM (sM M 15 (uoA set u (M 15) n)) 18 (upd (M 18) u (nI j))) 19 (upd (M 19) u (diM M n j set))) t)) dX12_takes_104 19 (wMg19 _ _ _ _ _) (nI_in (by omega) (by decide)) (by rw [nI_clamp (by omega)]; exact (wMp19 _ _ _ _ _ _)) ?_
        refine j_aload_n hX dX12_takes_105 rfl ?_
        refine j_dup hX dX12_takes_106 rfl ?_
        refine j_getf hX (v := .int (V 6)) dX12_takes_107 fX12_takes_175 0 (wMg0 _ _ _ _ _) rfl ?_
        refine jW.top hu ?_
        refine j_iconst hX (v := 1) (by decide) dX12_takes_110 ?_
        refine j_iadd hX dX12_takes_111 ?_
        refine jW.top (nI_1 _) ?_
        refine j_putf hX (ws' := (wM G ad (sV V 6 (nI (u + 1))) (sM (sM (sM M 15 (uoA set u (M 15) n)) 18 (upd (M 18) u (nI j))) 19 (upd (M 19) u (diM M n j set))) t)) dX12_takes_112 fX12_takes_175 0 (wMg0 _ _ _ _ _) (Nat.le_of_ble_eq_true rfl) rfl rfl (wMp0_26 _ _ _ _ _ _) ?_
        refine j_aload_n hX dX12_takes_115 rfl ?_
        refine j_getf hX (v := .ref (ad 16)) dX12_takes_116 fX12_takes_58 0 (wMg0 _ _ _ _ _) rfl ?_
        refine j_iload_n hX dX12_takes_119 rfl ?_
        refine j_dup2 hX dX12_takes_120 rfl rfl ?_
        refine j_iald hX (v := (M 16) j) dX12_takes_121 16 (wMg16 _ _ _ _ _) (nI_in (by omega) (by decide)) (rdc (by omega)) ?_
        refine j_iconst hX (v := 1) (by decide) dX12_takes_122 ?_
        refine j_iadd hX dX12_takes_123 ?_
        refine j_iast hX (ws' := (wM G ad (sV V 6 (nI (u + 1))) (sM (sM (sM (sM M 15 (uoA set u (M 15) n)) 18 (upd (M 18) u (nI j))) 19 (upd (M 19) u (diM M n j set))) 16 (upd (M 16) j (((M 16) j) + 1))) t)) dX12_takes_124 16 (wMg16 _ _ _ _ _) (nI_in (by omega) (by decide)) (by rw [nI_clamp (by omega)]; exact (wMp16 _ _ _ _ _ _)) ?_
        refine j_aload_n hX dX12_takes_125 rfl ?_
        refine j_getf hX (v := .ref (ad 12)) dX12_takes_126 fX12_takes_44 0 (wMg0 _ _ _ _ _) rfl ?_
        refine j_iload_n hX dX12_takes_129 rfl ?_
        refine j_iald hX (v := (M 12) j) dX12_takes_130 12 (wMg12 _ _ _ _ _) (nI_in (by omega) (by decide)) (rdc (by omega)) ?_
        refine j_iconst hX (v := -1) (by decide) dX12_takes_131 ?_
        refine j_icmp_eq_f hX (tgt := 147) dX12_takes_132 (by decide) h15 ?_
        refine j_aload_n hX dX12_takes_135 rfl ?_
        refine j_getf hX (v := .ref (ad 17)) dX12_takes_136 fX12_takes_61 0 (wMg0 _ _ _ _ _) rfl ?_
        refine j_aload_n hX dX12_takes_139 rfl ?_
        refine j_getf hX (v := .ref (ad 12)) dX12_takes_140 fX12_takes_44 0 (wMg0 _ _ _ _ _) rfl ?_
        refine j_iload_n hX dX12_takes_143 rfl ?_
        refine j_iald hX (v := (M 12) j) dX12_takes_144 12 (wMg12 _ _ _ _ _) (nI_in (by omega) (by decide)) (rdc (by omega)) ?_
        refine j_iload_n hX dX12_takes_145 rfl ?_
        refine j_iast hX (ws' := (wM G ad (sV V 6 (nI (u + 1))) (sM (sM (sM (sM (sM M 15 (uoA set u (M 15) n)) 18 (upd (M 18) u (nI j))) 19 (upd (M 19) u (diM M n j set))) 16 (upd (M 16) j (((M 16) j) + 1))) 17 (upd (M 17) (((M 12) j).toNatClampNeg) (nI j))) t)) dX12_takes_146 17 (wMg17 _ _ _ _ _) ((hG4 j hj).resolve_left h15) (wMp17 _ _ _ _ _ _) ?_
        have e1 : tk1 n j u set (V, M) = ((sV V 6 (nI (u + 1))), (sM (sM (sM (sM (sM M 15 (uoA set u (M 15) n)) 18 (upd (M 18) u (nI j))) 19 (upd (M 19) u (diM M n j set))) 16 (upd (M 16) j (((M 16) j) + 1))) 17 (upd (M 17) (((M 12) j).toNatClampNeg) (nI j)))) := if_neg h15
        refine jW.world (ws' := (wM G ad (tk1 n j u set (V, M)).1 (tk1 n j u set (V, M)).2 t)) (by rw [e1]) ?_
        refine j_aload_n hX dX12_takes_147 rfl ?_
        refine j_iload_n hX dX12_takes_148 rfl ?_
        refine j_iconst hX (v := 1) (by decide) dX12_takes_149 ?_
        refine j_iadd hX dX12_takes_150 ?_
        refine jW.top (nI_1 _) ?_
        refine j_iload hX dX12_takes_151 rfl ?_
        refine j_iload_n hX dX12_takes_153 rfl ?_
        refine j_ior hX dX12_takes_154 ?_
        refine j_iload hX dX12_takes_155 rfl ?_
        refine j_iload hX dX12_takes_157 rfl ?_
        refine j_iadd hX dX12_takes_159 ?_
        refine j_iload hX dX12_takes_160 rfl ?_
        refine j_dV hX (nA := 4) (cq := (RX12, TX12, 37)) (As := [.int (nI (p + 1)), .int (taken ||| set), .int (off + (diM M n j set)), .int sum]) (st := []) (st' := []) (ci := 13) rfl dX12_takes_162 (hrec (u + 1) (taken ||| set) (off + diM M n j set) (tk1 n j u set (V, M)).1 (tk1 n j u set (V, M)).2 (tk1_6 _ _ _ _ _) (by omega) hI1) gX12_takes_X12_goes rfl (by decide +kernel) (q := 0) (wMg0 _ _ _ _ _) (by omega) (Nat.le_of_ble_eq_true rfl) rfl (Nat.le_of_ble_eq_true rfl) rfl ⟨Nat.le_refl _, Nat.le_refl _⟩ rfl ?_
        have hKR := hR (u + 1) (taken ||| set) (off + diM M n j set) _ (tk1_6 n j u set (V, M))
        have e6 : (R (u + 1) (taken ||| set) (off + diM M n j set) (tk1 n j u set (V, M))).1 6 = nI (u + 1) := hKR.2.2.trans (tk1_6 n j u set (V, M))
        have e12 : (R (u + 1) (taken ||| set) (off + diM M n j set) (tk1 n j u set (V, M))).2 12 j = M 12 j := congrFun ((hKR.2.1 12 ⟨rfl, rfl, rfl, rfl, rfl, rfl, rfl, rfl, rfl, rfl⟩).trans ((tk1_K n j u set (V, M)).2 12 ⟨rfl, rfl, rfl, rfl, rfl, rfl, rfl, rfl, rfl, rfl⟩)) j
        refine j_aload_n hX dX12_takes_165 rfl ?_
        refine j_dup hX dX12_takes_166 rfl ?_
        refine j_getf hX (v := .int ((R (u + 1) (taken ||| set) (off + diM M n j set) (tk1 n j u set (V, M))).1 6)) dX12_takes_167 fX12_takes_175 0 (wMg0 _ _ _ _ _) rfl ?_
        refine jW.top e6 ?_
        refine j_iconst hX (v := 1) (by decide) dX12_takes_170 ?_
        refine j_isub hX dX12_takes_171 ?_
        refine jW.top (nI_pred u) ?_
        refine j_putf hX (ws' := (wM G ad (sV (R (u + 1) (taken ||| set) (off + diM M n j set) (tk1 n j u set (V, M))).1 6 (nI u)) (R (u + 1) (taken ||| set) (off + diM M n j set) (tk1 n j u set (V, M))).2 t)) dX12_takes_172 fX12_takes_175 0 (wMg0 _ _ _ _ _) (Nat.le_of_ble_eq_true rfl) rfl rfl (wMp0_26 _ _ _ _ _ _) ?_
        refine j_aload_n hX dX12_takes_175 rfl ?_
        refine j_getf hX (v := .ref (ad 16)) dX12_takes_176 fX12_takes_58 0 (wMg0 _ _ _ _ _) rfl ?_
        refine j_iload_n hX dX12_takes_179 rfl ?_
        refine j_dup2 hX dX12_takes_180 rfl rfl ?_
        refine j_iald hX (v := ((R (u + 1) (taken ||| set) (off + diM M n j set) (tk1 n j u set (V, M))).2 16) j) dX12_takes_181 16 (wMg16 _ _ _ _ _) (nI_in (by omega) (by decide)) (rdc (by omega)) ?_
        refine j_iconst hX (v := 1) (by decide) dX12_takes_182 ?_
        refine j_isub hX dX12_takes_183 ?_
        refine j_iast hX (ws' := (wM G ad (sV (R (u + 1) (taken ||| set) (off + diM M n j set) (tk1 n j u set (V, M))).1 6 (nI u)) (sM (R (u + 1) (taken ||| set) (off + diM M n j set) (tk1 n j u set (V, M))).2 16 (upd ((R (u + 1) (taken ||| set) (off + diM M n j set) (tk1 n j u set (V, M))).2 16) j ((((R (u + 1) (taken ||| set) (off + diM M n j set) (tk1 n j u set (V, M))).2 16) j) - 1))) t)) dX12_takes_184 16 (wMg16 _ _ _ _ _) (nI_in (by omega) (by decide)) (by rw [nI_clamp (by omega)]; exact (wMp16 _ _ _ _ _ _)) ?_
        refine j_aload_n hX dX12_takes_185 rfl ?_
        refine j_getf hX (v := .ref (ad 12)) dX12_takes_186 fX12_takes_44 0 (wMg0 _ _ _ _ _) rfl ?_
        refine j_iload_n hX dX12_takes_189 rfl ?_
        refine j_iald hX (v := ((R (u + 1) (taken ||| set) (off + diM M n j set) (tk1 n j u set (V, M))).2 12) j) dX12_takes_190 12 (wMg12 _ _ _ _ _) (nI_in (by omega) (by decide)) (rdc (by omega)) ?_
        refine jW.top e12 ?_
        refine j_iconst hX (v := -1) (by decide) dX12_takes_191 ?_
        refine j_icmp_eq_f hX (tgt := 208) dX12_takes_192 (by decide) h15 ?_
        refine j_aload_n hX dX12_takes_195 rfl ?_
        refine j_getf hX (v := .ref (ad 17)) dX12_takes_196 fX12_takes_61 0 (wMg0 _ _ _ _ _) rfl ?_
        refine j_aload_n hX dX12_takes_199 rfl ?_
        refine j_getf hX (v := .ref (ad 12)) dX12_takes_200 fX12_takes_44 0 (wMg0 _ _ _ _ _) rfl ?_
        refine j_iload_n hX dX12_takes_203 rfl ?_
        refine j_iald hX (v := ((R (u + 1) (taken ||| set) (off + diM M n j set) (tk1 n j u set (V, M))).2 12) j) dX12_takes_204 12 (wMg12 _ _ _ _ _) (nI_in (by omega) (by decide)) (rdc (by omega)) ?_
        refine jW.top e12 ?_
        refine j_iload hX dX12_takes_205 rfl ?_
        refine j_iast hX (ws' := (wM G ad (sV (R (u + 1) (taken ||| set) (off + diM M n j set) (tk1 n j u set (V, M))).1 6 (nI u)) (sM (sM (R (u + 1) (taken ||| set) (off + diM M n j set) (tk1 n j u set (V, M))).2 16 (upd ((R (u + 1) (taken ||| set) (off + diM M n j set) (tk1 n j u set (V, M))).2 16) j ((((R (u + 1) (taken ||| set) (off + diM M n j set) (tk1 n j u set (V, M))).2 16) j) - 1))) 17 (upd ((R (u + 1) (taken ||| set) (off + diM M n j set) (tk1 n j u set (V, M))).2 17) ((M 12 j).toNatClampNeg) ((M 17) (((M 12) j).toNatClampNeg)))) t)) dX12_takes_207 17 (wMg17 _ _ _ _ _) ((hG4 j hj).resolve_left h15) (wMp17 _ _ _ _ _ _) ?_
        exact j_vret hX dX12_takes_208 ⟨rfl, by rw [show tkF R n j u taken off set (V, M) = ((sV (R (u + 1) (taken ||| set) (off + diM M n j set) (tk1 n j u set (V, M))).1 6 (nI u)), (sM (sM (R (u + 1) (taken ||| set) (off + diM M n j set) (tk1 n j u set (V, M))).2 16 (upd ((R (u + 1) (taken ||| set) (off + diM M n j set) (tk1 n j u set (V, M))).2 16) j ((((R (u + 1) (taken ||| set) (off + diM M n j set) (tk1 n j u set (V, M))).2 16) j) - 1))) 17 (upd ((R (u + 1) (taken ||| set) (off + diM M n j set) (tk1 n j u set (V, M))).2 17) ((M 12 j).toNatClampNeg) ((M 17) (((M 12) j).toNatClampNeg))))) from if_neg h15]⟩
      | succ zi ih =>
        intro i h0 hi
        have hin : i < n := by omega
        refine j_iload hX dX12_takes_38 rfl ?_
        refine j_aload_n hX dX12_takes_40 rfl ?_
        refine j_getf hX (v := .int (V 5)) dX12_takes_41 fX12_takes_93 0 (wMg0 _ _ _ _ _) rfl ?_
        refine jW.top hn5 ?_
        refine j_icmp_ge_f hX (tgt := 84) dX12_takes_44 (by decide) (nI_ge hin (by omega)) ?_
        refine j_aload_n hX dX12_takes_47 rfl ?_
        refine j_getf hX (v := .ref (ad 15)) dX12_takes_48 fX12_takes_55 0 (wMg0 _ _ _ _ _) rfl ?_
        refine j_iload hX dX12_takes_51 rfl ?_
        refine j_iload_n hX dX12_takes_53 rfl ?_
        refine j_iload hX dX12_takes_54 rfl ?_
        refine j_ishr hX dX12_takes_56 ?_
        refine j_iconst hX (v := 1) (by decide) dX12_takes_57 ?_
        refine j_iand hX dX12_takes_58 ?_
        refine j_iconst hX (v := 1) (by decide) dX12_takes_59 ?_
        refine j_icmp_ne hX (tgt := 70) dX12_takes_60 (by decide) (fun h60 => ?_) (fun h60 => ?_)
        · refine j_aload_n hX dX12_takes_70 rfl ?_
          refine j_getf hX (v := .ref (ad 15)) dX12_takes_71 fX12_takes_55 0 (wMg0 _ _ _ _ _) rfl ?_
          refine j_iload hX dX12_takes_74 rfl ?_
          refine j_iald hX (v := uoA set u (M 15) i i) dX12_takes_76 15 (wMg15 _ _ _ _ _) (nI_in (by omega) (by decide)) (rdc (by omega)) ?_
          refine j_iast hX (ws' := (wM G ad V (sM M 15 (upd (uoA set u (M 15) i) i (uoA set u (M 15) i i))) t)) dX12_takes_77 15 (wMg15 _ _ _ _ _) (nI_in (by omega) (by decide)) (by rw [nI_clamp (by omega)]; exact (wMo15 _ _ _ _ _ _ _)) ?_
          refine j_iinc hX (v := nI (i + 1)) (ls' := [some (.ref (ad 0)), some (.int (nI j)), some (.int (nI p)), some (.int set), some (.int taken), some (.int off), some (.int sum), some (.int (diM M n j set)), some (.int ((M 17) (((M 12) j).toNatClampNeg))), some (.int (nI (i + 1)))]) dX12_takes_78 rfl (j_inc1 _) rfl rfl ?_
          refine j_goto hX (tgt := 38) dX12_takes_81 (by decide) ?_
          refine jW.world (ws' := (wM G ad V (sM M 15 (uoA set u (M 15) (i + 1))) t)) (by rw [show uoA set u (M 15) (i + 1) = upd (uoA set u (M 15) i) i (uoA set u (M 15) i i) from by show upd _ i (if inB set i = 1 then _ else _) = _; rw [inB, if_neg h60]; rfl]) ?_
          exact ih (i + 1) (by omega) (by omega)
        · refine j_aload_n hX dX12_takes_63 rfl ?_
          refine j_getf hX (v := .int (V 6)) dX12_takes_64 fX12_takes_175 0 (wMg0 _ _ _ _ _) rfl ?_
          refine jW.top hu ?_
          refine j_goto hX (tgt := 77) dX12_takes_67 (by decide) ?_
          refine j_iast hX (ws' := (wM G ad V (sM M 15 (upd (uoA set u (M 15) i) i (nI u))) t)) dX12_takes_77 15 (wMg15 _ _ _ _ _) (nI_in (by omega) (by decide)) (by rw [nI_clamp (by omega)]; exact (wMo15 _ _ _ _ _ _ _)) ?_
          refine j_iinc hX (v := nI (i + 1)) (ls' := [some (.ref (ad 0)), some (.int (nI j)), some (.int (nI p)), some (.int set), some (.int taken), some (.int off), some (.int sum), some (.int (diM M n j set)), some (.int ((M 17) (((M 12) j).toNatClampNeg))), some (.int (nI (i + 1)))]) dX12_takes_78 rfl (j_inc1 _) rfl rfl ?_
          refine j_goto hX (tgt := 38) dX12_takes_81 (by decide) ?_
          refine jW.world (ws' := (wM G ad V (sM M 15 (uoA set u (M 15) (i + 1))) t)) (by rw [show uoA set u (M 15) (i + 1) = upd (uoA set u (M 15) i) i (nI u) from by show upd _ i (if inB set i = 1 then _ else _) = _; rw [inB, if_pos h60]; rfl]) ?_
          exact ih (i + 1) (by omega) (by omega)
    refine jW.world (ws' := (wM G ad V (sM M 15 (uoA set u (M 15) 0)) t)) rfl ?_
    exact L38 n 0 (Nat.le_refl _) (by omega)
  · refine j_iconst hX (v := -1) (by decide) dX12_takes_18 ?_
    refine j_goto hX (tgt := 33) dX12_takes_19 (by decide) ?_
    refine j_istore hX (ls' := [some (.ref (ad 0)), some (.int (nI j)), some (.int (nI p)), some (.int set), some (.int taken), some (.int off), some (.int sum), some (.int (diM M n j set)), some (.int (-1)), none]) dX12_takes_33 (Nat.le_of_ble_eq_true rfl) rfl rfl ?_
    refine j_iconst hX (v := 0) (by decide) dX12_takes_35 ?_
    refine j_istore hX (ls' := [some (.ref (ad 0)), some (.int (nI j)), some (.int (nI p)), some (.int set), some (.int taken), some (.int off), some (.int sum), some (.int (diM M n j set)), some (.int (-1)), some (.int 0)]) dX12_takes_36 (Nat.le_of_ble_eq_true rfl) rfl rfl ?_
    have L38 : ∀ zi i : Nat, 0 ≤ i → i + zi = n → jW G X 0 0 38 [some (.ref (ad 0)), some (.int (nI j)), some (.int (nI p)), some (.int set), some (.int taken), some (.int off), some (.int sum), some (.int (diM M n j set)), some (.int (-1)), some (.int (nI i))] [] (wM G ad V (sM M 15 (uoA set u (M 15) i)) t) := by
      intro zi
      induction zi with
      | zero =>
        intro i h0 hi
        have hin : i = n := by omega
        refine j_iload hX dX12_takes_38 rfl ?_
        refine j_aload_n hX dX12_takes_40 rfl ?_
        refine j_getf hX (v := .int (V 5)) dX12_takes_41 fX12_takes_93 0 (wMg0 _ _ _ _ _) rfl ?_
        refine jW.top hn5 ?_
        refine j_icmp_ge_t hX (tgt := 84) dX12_takes_44 (by decide) (by rw [hin]; exact nI_le (Nat.le_refl _) (by omega)) ?_
        refine jW.world (ws' := (wM G ad V (sM M 15 (uoA set u (M 15) n)) t)) (by rw [hin]) ?_
        refine j_aload_n hX dX12_takes_84 rfl ?_
        refine j_getf hX (v := .ref (ad 18)) dX12_takes_85 fX12_takes_64 0 (wMg0 _ _ _ _ _) rfl ?_
        refine j_aload_n hX dX12_takes_88 rfl ?_
        refine j_getf hX (v := .int (V 6)) dX12_takes_89 fX12_takes_175 0 (wMg0 _ _ _ _ _) rfl ?_
        refine jW.top hu ?_
        refine j_iload_n hX dX12_takes_92 rfl ?_
        refine j_iast hX (ws' := (wM G ad V (sM (sM M 15 (uoA set u (M 15) n)) 18 (upd (M 18) u (nI j))) t)) dX12_takes_93 18 (wMg18 _ _ _ _ _) (nI_in (by omega) (by decide)) (by rw [nI_clamp (by omega)]; exact (wMp18 _ _ _ _ _ _)) ?_
        refine j_aload_n hX dX12_takes_94 rfl ?_
        refine j_getf hX (v := .ref (ad 19)) dX12_takes_95 fX12_takes_67 0 (wMg0 _ _ _ _ _) rfl ?_
        refine j_aload_n hX dX12_takes_98 rfl ?_
        refine j_getf hX (v := .int (V 6)) dX12_takes_99 fX12_takes_175 0 (wMg0 _ _ _ _ _) rfl ?_
        refine jW.top hu ?_
        refine j_iload hX dX12_takes_102 rfl ?_
        refine j_iast hX (ws' := (wM G ad V (sM (sM (sM M 15 (uoA set u (M 15) n)) 18 (upd (M 18) u (nI j))) 19 (upd (M 19) u (diM M n j set))) t)) dX12_takes_104 19 (wMg19 _ _ _ _ _) (nI_in (by omega) (by decide)) (by rw [nI_clamp (by omega)]; exact (wMp19 _ _ _ _ _ _)) ?_
        refine j_aload_n hX dX12_takes_105 rfl ?_
        refine j_dup hX dX12_takes_106 rfl ?_
        refine j_getf hX (v := .int (V 6)) dX12_takes_107 fX12_takes_175 0 (wMg0 _ _ _ _ _) rfl ?_
        refine jW.top hu ?_
        refine j_iconst hX (v := 1) (by decide) dX12_takes_110 ?_
        refine j_iadd hX dX12_takes_111 ?_
        refine jW.top (nI_1 _) ?_
        refine j_putf hX (ws' := (wM G ad (sV V 6 (nI (u + 1))) (sM (sM (sM M 15 (uoA set u (M 15) n)) 18 (upd (M 18) u (nI j))) 19 (upd (M 19) u (diM M n j set))) t)) dX12_takes_112 fX12_takes_175 0 (wMg0 _ _ _ _ _) (Nat.le_of_ble_eq_true rfl) rfl rfl (wMp0_26 _ _ _ _ _ _) ?_
        refine j_aload_n hX dX12_takes_115 rfl ?_
        refine j_getf hX (v := .ref (ad 16)) dX12_takes_116 fX12_takes_58 0 (wMg0 _ _ _ _ _) rfl ?_
        refine j_iload_n hX dX12_takes_119 rfl ?_
        refine j_dup2 hX dX12_takes_120 rfl rfl ?_
        refine j_iald hX (v := (M 16) j) dX12_takes_121 16 (wMg16 _ _ _ _ _) (nI_in (by omega) (by decide)) (rdc (by omega)) ?_
        refine j_iconst hX (v := 1) (by decide) dX12_takes_122 ?_
        refine j_iadd hX dX12_takes_123 ?_
        refine j_iast hX (ws' := (wM G ad (sV V 6 (nI (u + 1))) (sM (sM (sM (sM M 15 (uoA set u (M 15) n)) 18 (upd (M 18) u (nI j))) 19 (upd (M 19) u (diM M n j set))) 16 (upd (M 16) j (((M 16) j) + 1))) t)) dX12_takes_124 16 (wMg16 _ _ _ _ _) (nI_in (by omega) (by decide)) (by rw [nI_clamp (by omega)]; exact (wMp16 _ _ _ _ _ _)) ?_
        refine j_aload_n hX dX12_takes_125 rfl ?_
        refine j_getf hX (v := .ref (ad 12)) dX12_takes_126 fX12_takes_44 0 (wMg0 _ _ _ _ _) rfl ?_
        refine j_iload_n hX dX12_takes_129 rfl ?_
        refine j_iald hX (v := (M 12) j) dX12_takes_130 12 (wMg12 _ _ _ _ _) (nI_in (by omega) (by decide)) (rdc (by omega)) ?_
        refine j_iconst hX (v := -1) (by decide) dX12_takes_131 ?_
        refine j_icmp_eq_t hX (tgt := 147) dX12_takes_132 (by decide) h15 ?_
        have e1 : tk1 n j u set (V, M) = ((sV V 6 (nI (u + 1))), (sM (sM (sM (sM M 15 (uoA set u (M 15) n)) 18 (upd (M 18) u (nI j))) 19 (upd (M 19) u (diM M n j set))) 16 (upd (M 16) j (((M 16) j) + 1)))) := if_pos h15
        refine jW.world (ws' := (wM G ad (tk1 n j u set (V, M)).1 (tk1 n j u set (V, M)).2 t)) (by rw [e1]) ?_
        refine j_aload_n hX dX12_takes_147 rfl ?_
        refine j_iload_n hX dX12_takes_148 rfl ?_
        refine j_iconst hX (v := 1) (by decide) dX12_takes_149 ?_
        refine j_iadd hX dX12_takes_150 ?_
        refine jW.top (nI_1 _) ?_
        refine j_iload hX dX12_takes_151 rfl ?_
        refine j_iload_n hX dX12_takes_153 rfl ?_
        refine j_ior hX dX12_takes_154 ?_
        refine j_iload hX dX12_takes_155 rfl ?_
        refine j_iload hX dX12_takes_157 rfl ?_
        refine j_iadd hX dX12_takes_159 ?_
        refine j_iload hX dX12_takes_160 rfl ?_
        refine j_dV hX (nA := 4) (cq := (RX12, TX12, 37)) (As := [.int (nI (p + 1)), .int (taken ||| set), .int (off + (diM M n j set)), .int sum]) (st := []) (st' := []) (ci := 13) rfl dX12_takes_162 (hrec (u + 1) (taken ||| set) (off + diM M n j set) (tk1 n j u set (V, M)).1 (tk1 n j u set (V, M)).2 (tk1_6 _ _ _ _ _) (by omega) hI1) gX12_takes_X12_goes rfl (by decide +kernel) (q := 0) (wMg0 _ _ _ _ _) (by omega) (Nat.le_of_ble_eq_true rfl) rfl (Nat.le_of_ble_eq_true rfl) rfl ⟨Nat.le_refl _, Nat.le_refl _⟩ rfl ?_
        have hKR := hR (u + 1) (taken ||| set) (off + diM M n j set) _ (tk1_6 n j u set (V, M))
        have e6 : (R (u + 1) (taken ||| set) (off + diM M n j set) (tk1 n j u set (V, M))).1 6 = nI (u + 1) := hKR.2.2.trans (tk1_6 n j u set (V, M))
        have e12 : (R (u + 1) (taken ||| set) (off + diM M n j set) (tk1 n j u set (V, M))).2 12 j = M 12 j := congrFun ((hKR.2.1 12 ⟨rfl, rfl, rfl, rfl, rfl, rfl, rfl, rfl, rfl, rfl⟩).trans ((tk1_K n j u set (V, M)).2 12 ⟨rfl, rfl, rfl, rfl, rfl, rfl, rfl, rfl, rfl, rfl⟩)) j
        refine j_aload_n hX dX12_takes_165 rfl ?_
        refine j_dup hX dX12_takes_166 rfl ?_
        refine j_getf hX (v := .int ((R (u + 1) (taken ||| set) (off + diM M n j set) (tk1 n j u set (V, M))).1 6)) dX12_takes_167 fX12_takes_175 0 (wMg0 _ _ _ _ _) rfl ?_
        refine jW.top e6 ?_
        refine j_iconst hX (v := 1) (by decide) dX12_takes_170 ?_
        refine j_isub hX dX12_takes_171 ?_
        refine jW.top (nI_pred u) ?_
        refine j_putf hX (ws' := (wM G ad (sV (R (u + 1) (taken ||| set) (off + diM M n j set) (tk1 n j u set (V, M))).1 6 (nI u)) (R (u + 1) (taken ||| set) (off + diM M n j set) (tk1 n j u set (V, M))).2 t)) dX12_takes_172 fX12_takes_175 0 (wMg0 _ _ _ _ _) (Nat.le_of_ble_eq_true rfl) rfl rfl (wMp0_26 _ _ _ _ _ _) ?_
        refine j_aload_n hX dX12_takes_175 rfl ?_
        refine j_getf hX (v := .ref (ad 16)) dX12_takes_176 fX12_takes_58 0 (wMg0 _ _ _ _ _) rfl ?_
        refine j_iload_n hX dX12_takes_179 rfl ?_
        refine j_dup2 hX dX12_takes_180 rfl rfl ?_
        refine j_iald hX (v := ((R (u + 1) (taken ||| set) (off + diM M n j set) (tk1 n j u set (V, M))).2 16) j) dX12_takes_181 16 (wMg16 _ _ _ _ _) (nI_in (by omega) (by decide)) (rdc (by omega)) ?_
        refine j_iconst hX (v := 1) (by decide) dX12_takes_182 ?_
        refine j_isub hX dX12_takes_183 ?_
        refine j_iast hX (ws' := (wM G ad (sV (R (u + 1) (taken ||| set) (off + diM M n j set) (tk1 n j u set (V, M))).1 6 (nI u)) (sM (R (u + 1) (taken ||| set) (off + diM M n j set) (tk1 n j u set (V, M))).2 16 (upd ((R (u + 1) (taken ||| set) (off + diM M n j set) (tk1 n j u set (V, M))).2 16) j ((((R (u + 1) (taken ||| set) (off + diM M n j set) (tk1 n j u set (V, M))).2 16) j) - 1))) t)) dX12_takes_184 16 (wMg16 _ _ _ _ _) (nI_in (by omega) (by decide)) (by rw [nI_clamp (by omega)]; exact (wMp16 _ _ _ _ _ _)) ?_
        refine j_aload_n hX dX12_takes_185 rfl ?_
        refine j_getf hX (v := .ref (ad 12)) dX12_takes_186 fX12_takes_44 0 (wMg0 _ _ _ _ _) rfl ?_
        refine j_iload_n hX dX12_takes_189 rfl ?_
        refine j_iald hX (v := ((R (u + 1) (taken ||| set) (off + diM M n j set) (tk1 n j u set (V, M))).2 12) j) dX12_takes_190 12 (wMg12 _ _ _ _ _) (nI_in (by omega) (by decide)) (rdc (by omega)) ?_
        refine jW.top e12 ?_
        refine j_iconst hX (v := -1) (by decide) dX12_takes_191 ?_
        refine j_icmp_eq_t hX (tgt := 208) dX12_takes_192 (by decide) h15 ?_
        exact j_vret hX dX12_takes_208 ⟨rfl, by rw [show tkF R n j u taken off set (V, M) = ((sV (R (u + 1) (taken ||| set) (off + diM M n j set) (tk1 n j u set (V, M))).1 6 (nI u)), (sM (R (u + 1) (taken ||| set) (off + diM M n j set) (tk1 n j u set (V, M))).2 16 (upd ((R (u + 1) (taken ||| set) (off + diM M n j set) (tk1 n j u set (V, M))).2 16) j ((((R (u + 1) (taken ||| set) (off + diM M n j set) (tk1 n j u set (V, M))).2 16) j) - 1)))) from if_pos h15]⟩
      | succ zi ih =>
        intro i h0 hi
        have hin : i < n := by omega
        refine j_iload hX dX12_takes_38 rfl ?_
        refine j_aload_n hX dX12_takes_40 rfl ?_
        refine j_getf hX (v := .int (V 5)) dX12_takes_41 fX12_takes_93 0 (wMg0 _ _ _ _ _) rfl ?_
        refine jW.top hn5 ?_
        refine j_icmp_ge_f hX (tgt := 84) dX12_takes_44 (by decide) (nI_ge hin (by omega)) ?_
        refine j_aload_n hX dX12_takes_47 rfl ?_
        refine j_getf hX (v := .ref (ad 15)) dX12_takes_48 fX12_takes_55 0 (wMg0 _ _ _ _ _) rfl ?_
        refine j_iload hX dX12_takes_51 rfl ?_
        refine j_iload_n hX dX12_takes_53 rfl ?_
        refine j_iload hX dX12_takes_54 rfl ?_
        refine j_ishr hX dX12_takes_56 ?_
        refine j_iconst hX (v := 1) (by decide) dX12_takes_57 ?_
        refine j_iand hX dX12_takes_58 ?_
        refine j_iconst hX (v := 1) (by decide) dX12_takes_59 ?_
        refine j_icmp_ne hX (tgt := 70) dX12_takes_60 (by decide) (fun h60 => ?_) (fun h60 => ?_)
        · refine j_aload_n hX dX12_takes_70 rfl ?_
          refine j_getf hX (v := .ref (ad 15)) dX12_takes_71 fX12_takes_55 0 (wMg0 _ _ _ _ _) rfl ?_
          refine j_iload hX dX12_takes_74 rfl ?_
          refine j_iald hX (v := uoA set u (M 15) i i) dX12_takes_76 15 (wMg15 _ _ _ _ _) (nI_in (by omega) (by decide)) (rdc (by omega)) ?_
          refine j_iast hX (ws' := (wM G ad V (sM M 15 (upd (uoA set u (M 15) i) i (uoA set u (M 15) i i))) t)) dX12_takes_77 15 (wMg15 _ _ _ _ _) (nI_in (by omega) (by decide)) (by rw [nI_clamp (by omega)]; exact (wMo15 _ _ _ _ _ _ _)) ?_
          refine j_iinc hX (v := nI (i + 1)) (ls' := [some (.ref (ad 0)), some (.int (nI j)), some (.int (nI p)), some (.int set), some (.int taken), some (.int off), some (.int sum), some (.int (diM M n j set)), some (.int (-1)), some (.int (nI (i + 1)))]) dX12_takes_78 rfl (j_inc1 _) rfl rfl ?_
          refine j_goto hX (tgt := 38) dX12_takes_81 (by decide) ?_
          refine jW.world (ws' := (wM G ad V (sM M 15 (uoA set u (M 15) (i + 1))) t)) (by rw [show uoA set u (M 15) (i + 1) = upd (uoA set u (M 15) i) i (uoA set u (M 15) i i) from by show upd _ i (if inB set i = 1 then _ else _) = _; rw [inB, if_neg h60]; rfl]) ?_
          exact ih (i + 1) (by omega) (by omega)
        · refine j_aload_n hX dX12_takes_63 rfl ?_
          refine j_getf hX (v := .int (V 6)) dX12_takes_64 fX12_takes_175 0 (wMg0 _ _ _ _ _) rfl ?_
          refine jW.top hu ?_
          refine j_goto hX (tgt := 77) dX12_takes_67 (by decide) ?_
          refine j_iast hX (ws' := (wM G ad V (sM M 15 (upd (uoA set u (M 15) i) i (nI u))) t)) dX12_takes_77 15 (wMg15 _ _ _ _ _) (nI_in (by omega) (by decide)) (by rw [nI_clamp (by omega)]; exact (wMo15 _ _ _ _ _ _ _)) ?_
          refine j_iinc hX (v := nI (i + 1)) (ls' := [some (.ref (ad 0)), some (.int (nI j)), some (.int (nI p)), some (.int set), some (.int taken), some (.int off), some (.int sum), some (.int (diM M n j set)), some (.int (-1)), some (.int (nI (i + 1)))]) dX12_takes_78 rfl (j_inc1 _) rfl rfl ?_
          refine j_goto hX (tgt := 38) dX12_takes_81 (by decide) ?_
          refine jW.world (ws' := (wM G ad V (sM M 15 (uoA set u (M 15) (i + 1))) t)) (by rw [show uoA set u (M 15) (i + 1) = upd (uoA set u (M 15) i) i (nI u) from by show upd _ i (if inB set i = 1 then _ else _) = _; rw [inB, if_pos h60]; rfl]) ?_
          exact ih (i + 1) (by omega) (by omega)
    refine jW.world (ws' := (wM G ad V (sM M 15 (uoA set u (M 15) 0)) t)) rfl ?_
    exact L38 n 0 (Nat.le_refl _) (by omega)

/-- more items for a use: from place k on, f places are left -/
def chC (L T : Int32 → VM → VM) (n j : Nat) (set : Int32) (s : VM) : VM := if bcF set = szM s.2 j then (if goM s.2 n j set = 0 then s else T set s) else L set s
def chF (T : Int32 → VM → VM) (n j : Nat) (taken : Int32) : Nat → Nat → Int32 → VM → VM
  | 0, _, _, s => s
  | f + 1, k, set, s => chF T n j taken f (k + 1) set (if inB taken k = 0 then chC (chF T n j taken f (k + 1)) T n j (set ||| (1 <<< (nI k &&& 31))) s else s)
theorem chC_K {L T : Int32 → VM → VM} {n j : Nat} {set : Int32} {x : Int32} (hL : ∀ set s, s.1 6 = x → Kept s (L set s)) (hT : ∀ set s, s.1 6 = x → Kept s (T set s)) {s : VM} (h : s.1 6 = x) : Kept s (chC L T n j set s) := by
  unfold chC
  split
  · split
    · exact Kept.rf s
    · exact hT _ _ h
  · exact hL _ _ h
theorem chF_K {T : Int32 → VM → VM} {n j : Nat} {taken x : Int32} (hT : ∀ set s, s.1 6 = x → Kept s (T set s)) : ∀ (f k : Nat) (set : Int32) (s : VM), s.1 6 = x → Kept s (chF T n j taken f k set s)
  | 0, _, _, s, _ => Kept.rf s
  | f + 1, k, set, s, h => by
    rw [chF]
    split
    · have h1 := chC_K (L := chF T n j taken f (k + 1)) (j := j) (n := n) (set := set ||| (1 <<< (nI k &&& 31))) (fun set s h => chF_K hT f (k + 1) set s h) hT h
      exact h1.tr (chF_K hT f (k + 1) set _ (h1.2.2.trans h))
    · exact chF_K hT f (k + 1) set s h
set_option maxHeartbeats 4000000 in
set_option maxRecDepth 100000 in
theorem c_chooses_step (G : jG) (ad : Nat → Nat) (V : Nat → Int32) (M : Nat → Nat → Int32) (t : Int64) (n o c : Nat) (hI : mI n o c V M) (j : Nat) (hj : j < o) (u : Nat) (hu : V 6 = nI u) (p dt f k : Nat) (hkf : k + f = n) (set taken off sum : Int32) (T : Int32 → VM → VM) (hT : ∀ (set : Int32) (V : Nat → Int32) (M : Nat → Nat → Int32), V 6 = nI u → mI n o c V M → jD G dt yX12_takes wsX12_takes [.ref (ad 0), .int (nI j), .int (nI p), .int set, .int taken, .int off, .int sum] (wM G ad V M t) none (wM G ad (T set (V, M)).1 (T set (V, M)).2 t)) (hTK : ∀ set s, s.1 6 = nI u → Kept s (T set s)) (hch : ∀ (z i : Nat) (set : Int32) (V : Nat → Int32) (M : Nat → Nat → Int32), z < f → i + z = n → V 6 = nI u → mI n o c V M → jD G (dt + 1 + z) yX12_chooses wsX12_chooses [.ref (ad 0), .int (nI j), .int (nI p), .int set, .int (nI i), .int taken, .int off, .int sum] (wM G ad V M t) none (wM G ad (chC (chF T n j taken z i) T n j set (V, M)).1 (chC (chF T n j taken z i) T n j set (V, M)).2 t)) (hdt : 4 ≤ dt) : jD G (dt + 1 + f) yX12_chooses wsX12_chooses [.ref (ad 0), .int (nI j), .int (nI p), .int set, .int (nI k), .int taken, .int off, .int sum] (wM G ad V M t) none (wM G ad (chC (chF T n j taken f k) T n j set (V, M)).1 (chC (chF T n j taken f k) T n j set (V, M)).2 t) := by
  refine jC.of (maxL := 9) (cc := cX12_chooses) (ret := none) rfl (by decide) [some (.ref (ad 0)), some (.int (nI j)), some (.int (nI p)), some (.int set), some (.int (nI k)), some (.int taken), some (.int off), some (.int sum), none] rfl (Nat.le_of_ble_eq_true rfl) (j_args rfl) (fun X hX => ?_)
  have hI0 := hI
  obtain ⟨hn5, hn, ho2, ho, hc1, hc, hB, hG4⟩ := hI
  refine j_iload_n hX dX12_chooses_0 rfl ?_
  refine j_dS hX (nA := 1) (As := [.int set]) (st := []) (st' := [.int (bcF set)]) dX12_chooses_1 (c_bitCount G _) gX12_chooses_J6_bitCount_0f7a4 rfl (by decide +kernel) (by omega) (Nat.le_of_ble_eq_true rfl) rfl (Nat.le_of_ble_eq_true rfl) rfl ⟨Nat.le_refl _, Nat.le_refl _⟩ rfl ?_
  refine j_aload_n hX dX12_chooses_4 rfl ?_
  refine j_iload_n hX dX12_chooses_5 rfl ?_
  refine j_dV hX (nA := 1) (cq := (RX12, TX12, 37)) (As := [.int (nI j)]) (st := [.int (bcF set)]) (st' := [.int (szM M j), .int (bcF set)]) (ci := 13) rfl dX12_chooses_6 (c_X12_sizeOf G _ V M _ j (by omega)) gX12_chooses_X12_sizeOf rfl (by decide +kernel) (q := 0) (wMg0 _ _ _ _ _) (by omega) (Nat.le_of_ble_eq_true rfl) rfl (Nat.le_of_ble_eq_true rfl) rfl ⟨Nat.le_refl _, Nat.le_refl _⟩ rfl ?_
  refine j_icmp_ne hX (tgt := 35) dX12_chooses_9 (by decide) (fun h9 => ?_) (fun h9 => ?_)
  · refine j_iload hX dX12_chooses_35 rfl ?_
    refine j_istore hX (ls' := [some (.ref (ad 0)), some (.int (nI j)), some (.int (nI p)), some (.int set), some (.int (nI k)), some (.int taken), some (.int off), some (.int sum), some (.int (nI k))]) dX12_chooses_37 (Nat.le_of_ble_eq_true rfl) rfl rfl ?_
    have L39 : ∀ (z i : Nat) (V1 : Nat → Int32) (M1 : Nat → Nat → Int32), i + z = n → z ≤ f → V1 6 = nI u → mI n o c V1 M1 → chF T n j taken z i set (V1, M1) = chF T n j taken f k set (V, M) → jW G X 0 0 39 [some (.ref (ad 0)), some (.int (nI j)), some (.int (nI p)), some (.int set), some (.int (nI k)), some (.int taken), some (.int off), some (.int sum), some (.int (nI i))] [] (wM G ad V1 M1 t) := by
      intro z
      induction z with
      | zero =>
        intro i V1 M1 hi hz hu1 hI1 hR1
        have hn51 : V1 5 = nI n := hI1.1
        have hin : i = n := by omega
        refine j_iload hX dX12_chooses_39 rfl ?_
        refine j_aload_n hX dX12_chooses_41 rfl ?_
        refine j_getf hX (v := .int (V1 5)) dX12_chooses_42 fX12_chooses_93 0 (wMg0 _ _ _ _ _) rfl ?_
        refine jW.top hn51 ?_
        refine j_icmp_ge_t hX (tgt := 86) dX12_chooses_45 (by decide) (by rw [hin]; exact nI_le (Nat.le_refl _) (by omega)) ?_
        exact j_vret hX dX12_chooses_86 ⟨rfl, by rw [show chC (chF T n j taken f k) T n j set (V, M) = (V1, M1) from (if_neg h9).trans hR1.symm]⟩
      | succ z ih =>
        intro i V1 M1 hi hz hu1 hI1 hR1
        have hn51 : V1 5 = nI n := hI1.1
        have hin : i < n := by omega
        refine j_iload hX dX12_chooses_39 rfl ?_
        refine j_aload_n hX dX12_chooses_41 rfl ?_
        refine j_getf hX (v := .int (V1 5)) dX12_chooses_42 fX12_chooses_93 0 (wMg0 _ _ _ _ _) rfl ?_
        refine jW.top hn51 ?_
        refine j_icmp_ge_f hX (tgt := 86) dX12_chooses_45 (by decide) (nI_ge hin (by omega)) ?_
        refine j_iload hX dX12_chooses_48 rfl ?_
        refine j_iload hX dX12_chooses_50 rfl ?_
        refine j_ishr hX dX12_chooses_52 ?_
        refine j_iconst hX (v := 1) (by decide) dX12_chooses_53 ?_
        refine j_iand hX dX12_chooses_54 ?_
        refine j_if_ne hX (tgt := 80) dX12_chooses_55 (by decide) (fun h55 => ?_) (fun h55 => ?_)
        · refine j_iinc hX (v := nI (i + 1)) (ls' := [some (.ref (ad 0)), some (.int (nI j)), some (.int (nI p)), some (.int set), some (.int (nI k)), some (.int taken), some (.int off), some (.int sum), some (.int (nI (i + 1)))]) dX12_chooses_80 rfl (j_inc1 _) rfl rfl ?_
          refine j_goto hX (tgt := 39) dX12_chooses_83 (by decide) ?_
          exact ih (i + 1) _ _ (by omega) (by omega) hu1 hI1 (by rw [← hR1, chF, inB, if_neg h55])
        · refine j_aload_n hX dX12_chooses_58 rfl ?_
          refine j_iload_n hX dX12_chooses_59 rfl ?_
          refine j_iload_n hX dX12_chooses_60 rfl ?_
          refine j_iload_n hX dX12_chooses_61 rfl ?_
          refine j_iconst hX (v := 1) (by decide) dX12_chooses_62 ?_
          refine j_iload hX dX12_chooses_63 rfl ?_
          refine j_ishl hX dX12_chooses_65 ?_
          refine j_ior hX dX12_chooses_66 ?_
          refine j_iload hX dX12_chooses_67 rfl ?_
          refine j_iconst hX (v := 1) (by decide) dX12_chooses_69 ?_
          refine j_iadd hX dX12_chooses_70 ?_
          refine jW.top (nI_1 _) ?_
          refine j_iload hX dX12_chooses_71 rfl ?_
          refine j_iload hX dX12_chooses_73 rfl ?_
          refine j_iload hX dX12_chooses_75 rfl ?_
          refine j_dV hX (nA := 7) (cq := (RX12, TX12, 37)) (As := [.int (nI j), .int (nI p), .int (set ||| (1 <<< ((nI i) &&& 31))), .int (nI (i + 1)), .int taken, .int off, .int sum]) (st := []) (st' := []) (ci := 13) rfl dX12_chooses_77 (hch z (i + 1) (set ||| (1 <<< ((nI i) &&& 31))) V1 M1 (by omega) (by omega) hu1 hI1) gX12_chooses_X12_chooses rfl (by decide +kernel) (q := 0) (wMg0 _ _ _ _ _) (by omega) (Nat.le_of_ble_eq_true rfl) rfl (Nat.le_of_ble_eq_true rfl) rfl ⟨Nat.le_refl _, Nat.le_refl _⟩ rfl ?_
          refine j_iinc hX (v := nI (i + 1)) (ls' := [some (.ref (ad 0)), some (.int (nI j)), some (.int (nI p)), some (.int set), some (.int (nI k)), some (.int taken), some (.int off), some (.int sum), some (.int (nI (i + 1)))]) dX12_chooses_80 rfl (j_inc1 _) rfl rfl ?_
          refine j_goto hX (tgt := 39) dX12_chooses_83 (by decide) ?_
          have hK := chC_K (L := chF T n j taken z (i + 1)) (n := n) (j := j) (set := set ||| (1 <<< (nI i &&& 31))) (fun set s h => chF_K hTK z (i + 1) set s h) hTK (s := (V1, M1)) hu1
          exact ih (i + 1) _ _ (by omega) (by omega) (hK.2.2.trans hu1) (hK.mI hI1) (by rw [← hR1, chF, inB, if_pos h55])
    exact L39 f k _ _ hkf (Nat.le_refl _) hu hI0 rfl
  · refine j_aload_n hX dX12_chooses_12 rfl ?_
    refine j_iload_n hX dX12_chooses_13 rfl ?_
    refine j_iload_n hX dX12_chooses_14 rfl ?_
    refine j_dV hX (nA := 2) (cq := (RX12, TX12, 37)) (As := [.int (nI j), .int set]) (st := []) (st' := [.int (goM M n j set)]) (ci := 13) rfl dX12_chooses_15 (c_X12_isGood G _ V M _ n o c hI0 j (by omega) _) gX12_chooses_X12_isGood rfl (by decide +kernel) (q := 0) (wMg0 _ _ _ _ _) (by omega) (Nat.le_of_ble_eq_true rfl) rfl (Nat.le_of_ble_eq_true rfl) rfl ⟨Nat.le_refl _, Nat.le_refl _⟩ rfl ?_
    refine j_if_eq hX (tgt := 34) dX12_chooses_18 (by decide) (fun h18 => ?_) (fun h18 => ?_)
    · exact j_vret hX dX12_chooses_34 ⟨rfl, by rw [show chC (chF T n j taken f k) T n j set (V, M) = (V, M) from ((if_pos h9).trans (if_pos h18))]⟩
    · refine j_aload_n hX dX12_chooses_21 rfl ?_
      refine j_iload_n hX dX12_chooses_22 rfl ?_
      refine j_iload_n hX dX12_chooses_23 rfl ?_
      refine j_iload_n hX dX12_chooses_24 rfl ?_
      refine j_iload hX dX12_chooses_25 rfl ?_
      refine j_iload hX dX12_chooses_27 rfl ?_
      refine j_iload hX dX12_chooses_29 rfl ?_
      refine j_dV hX (nA := 6) (cq := (RX12, TX12, 37)) (As := [.int (nI j), .int (nI p), .int set, .int taken, .int off, .int sum]) (st := []) (st' := []) (ci := 13) rfl dX12_chooses_31 (hT set V M hu hI0) gX12_chooses_X12_takes rfl (by decide +kernel) (q := 0) (wMg0 _ _ _ _ _) (by omega) (Nat.le_of_ble_eq_true rfl) rfl (Nat.le_of_ble_eq_true rfl) rfl ⟨Nat.le_refl _, Nat.le_refl _⟩ rfl ?_
      exact j_vret hX dX12_chooses_34 ⟨rfl, by rw [show chC (chF T n j taken f k) T n j set (V, M) = (T set (V, M)) from ((if_pos h9).trans (if_neg h18))]⟩

theorem c_X12_chooses (G : jG) (ad : Nat → Nat) (t : Int64) (n o c j : Nat) (hj : j < o) (u p dt : Nat) (hdt : 4 ≤ dt) (taken off sum : Int32) (T : Int32 → VM → VM) (hT : ∀ (set : Int32) (V : Nat → Int32) (M : Nat → Nat → Int32), V 6 = nI u → mI n o c V M → jD G dt yX12_takes wsX12_takes [.ref (ad 0), .int (nI j), .int (nI p), .int set, .int taken, .int off, .int sum] (wM G ad V M t) none (wM G ad (T set (V, M)).1 (T set (V, M)).2 t)) (hTK : ∀ set s, s.1 6 = nI u → Kept s (T set s)) : ∀ (f k : Nat) (set : Int32) (V : Nat → Int32) (M : Nat → Nat → Int32), k + f = n → V 6 = nI u → mI n o c V M → jD G (dt + 1 + f) yX12_chooses wsX12_chooses [.ref (ad 0), .int (nI j), .int (nI p), .int set, .int (nI k), .int taken, .int off, .int sum] (wM G ad V M t) none (wM G ad (chC (chF T n j taken f k) T n j set (V, M)).1 (chC (chF T n j taken f k) T n j set (V, M)).2 t) := by
  intro f
  induction f using Nat.strongRecOn with
  | ind f ih =>
    intro k set V M hkf hu hI
    exact c_chooses_step G ad V M t n o c hI j hj u hu p dt f k hkf set taken off sum T hT hTK (fun z i set V M hz hi hu hI => ih z hz i set V M hi hu hI) hdt
