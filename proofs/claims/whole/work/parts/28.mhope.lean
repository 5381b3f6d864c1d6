theorem fX12_hope_70 : jF wsX12_hope RX12 70 13 27 true (.array .int) := ⟨(RX12, TX12, 37), tyX12, rfl, by decide, by decide +kernel, by decide +kernel, tyX12_ok, nmX12, rfl, by decide +kernel, by decide +kernel⟩
theorem fX12_hope_93 : jF wsX12_hope RX12 93 13 20 false .int := ⟨(RX12, TX12, 37), tyX12, rfl, by decide, by decide +kernel, by decide +kernel, tyX12_ok, nmX12, rfl, by decide +kernel, fun h => by cases h⟩
theorem fX12_hope_121 : jF wsX12_hope RX12 121 13 14 false .int := ⟨(RX12, TX12, 37), tyX12, rfl, by decide, by decide +kernel, by decide +kernel, tyX12_ok, nmX12, rfl, by decide +kernel, fun h => by cases h⟩
theorem fX12_hope_26 : jF wsX12_hope RX12 26 13 7 true (.array .char) := ⟨(RX12, TX12, 37), tyX12, rfl, by decide, by decide +kernel, by decide +kernel, tyX12_ok, nmX12, rfl, by decide +kernel, by decide +kernel⟩
def setM (p r : Nat) : Int32 := (1 <<< (nI p &&& 31)) ||| (nI r <<< (nI (p + 1) &&& 31))
def msS (c n : Nat) (M : Nat → Nat → Int32) (set : Int32) (j : Nat) (a : Int32) : Int32 := if M 6 j = 116 then a else if lfM c M j ≤ 0 then a else if goM M n j set = 0 then a else mxF a (diM M n j set)
def msO (c n : Nat) (M : Nat → Nat → Int32) (set : Int32) (a : Int32) (j : Nat) : Int32 := itr (msS c n M set) j a
def msR (c n o : Nat) (M : Nat → Nat → Int32) (p r : Nat) (a : Int32) : Int32 := msO c n M (setM p r) a o
def msP (c n o : Nat) (M : Nat → Nat → Int32) (p r : Nat) : Int32 := itr (msR c n o M p) r 0
def hpS (c n o : Nat) (M : Nat → Nat → Int32) (i : Nat) (h : Nat → Int32) : Nat → Int32 := upd h (n - i - 1) (h (n - i - 1 + 1) + msP c n o (sM M 20 h) (n - i - 1) (2 ^ i))
def hpA (c n o : Nat) (M : Nat → Nat → Int32) (i : Nat) : Nat → Int32 := itr (hpS c n o M) i (upd (M 20) n 0)
theorem addm1 (x : Int32) : x + Int32.ofInt (-1) = x - 1 := by rw [Int32.sub_eq_add_neg]; rfl
theorem hp_sh {n i : Nat} (hi : i < n) (hn : n ≤ 7) : (1 : Int32) <<< ((nI n - nI (n - i - 1) - 1) &&& 31) = nI (2 ^ i) :=
  (show ∀ n, n < 8 → ∀ i, i < n → (1 : Int32) <<< ((nI n - nI (n - i - 1) - 1) &&& 31) = nI (2 ^ i) by decide +kernel) n (by omega) i hi
theorem pow64 {n i : Nat} (hi : i < n) (hn : n ≤ 7) : 2 ^ i ≤ 64 := Nat.le_trans (Nat.pow_le_pow_right (by decide) (show i ≤ 6 by omega)) (by decide)
theorem mI_20 {n o c : Nat} {V : Nat → Int32} {M : Nat → Nat → Int32} {f : Nat → Int32} (h : mI n o c V M) : mI n o c V (sM M 20 f) := h
set_option maxHeartbeats 4000000 in
set_option maxRecDepth 100000 in
theorem c_X12_hope (G : jG) (ad : Nat → Nat) (V : Nat → Int32) (M : Nat → Nat → Int32) (t : Int64) (n o c : Nat) (hI : mI n o c V M) : jD G 4 yX12_hope wsX12_hope [.ref (ad 0)] (wM G ad V M t) none (wM G ad V (sM M 20 (hpA c n o M n)) t) := by
  refine jC.of (maxL := 6) (cc := cX12_hope) (ret := none) rfl (by decide) [some (.ref (ad 0)), none, none, none, none, none] rfl (Nat.le_of_ble_eq_true rfl) (j_args rfl) (fun X hX => ?_)
  have hI0 := hI
  obtain ⟨hn5, hn, ho2, ho, hc1, hc, hB, hG4⟩ := hI
  refine j_aload_n hX dX12_hope_0 rfl ?_
  refine j_getf hX (v := .ref (ad 20)) dX12_hope_1 fX12_hope_70 0 (wMg0 _ _ _ _ _) rfl ?_
  refine j_aload_n hX dX12_hope_4 rfl ?_
  refine j_getf hX (v := .int (V 5)) dX12_hope_5 fX12_hope_93 0 (wMg0 _ _ _ _ _) rfl ?_
  refine jW.top hn5 ?_
  refine j_iconst hX (v := 0) (by decide) dX12_hope_8 ?_
  refine j_iast hX (ws' := (wM G ad V (sM M 20 (upd (M 20) n 0)) t)) dX12_hope_9 20 (wMg20 _ _ _ _ _) (nI_in (by omega) (by decide)) (by rw [nI_clamp (by omega)]; exact (wMp20 _ _ _ _ _ _)) ?_
  refine j_aload_n hX dX12_hope_10 rfl ?_
  refine j_getf hX (v := .int (V 5)) dX12_hope_11 fX12_hope_93 0 (wMg0 _ _ _ _ _) rfl ?_
  refine jW.top hn5 ?_
  refine j_iconst hX (v := 1) (by decide) dX12_hope_14 ?_
  refine j_isub hX dX12_hope_15 ?_
  refine j_istore_n hX (ls' := [some (.ref (ad 0)), some (.int ((nI n) - 1)), none, none, none, none]) dX12_hope_16 (Nat.le_of_ble_eq_true rfl) rfl rfl ?_
  have L17 : ∀ zi i : Nat, 0 ≤ i → i + zi = n → jW G X 0 0 17 [some (.ref (ad 0)), some (.int (nI (n - i) - 1)), none, none, none, none] [] (wM G ad V (sM M 20 (hpA c n o M i)) t) := by
    intro zi
    induction zi with
    | zero =>
      intro i h0 hi
      have hin : i = n := by omega
      refine j_iload_n hX dX12_hope_17 rfl ?_
      refine j_if_lt_t hX (tgt := 145) dX12_hope_18 (by decide) (by rw [hin, Nat.sub_self]; decide) ?_
      exact j_vret hX dX12_hope_145 ⟨rfl, by rw [hin]⟩
    | succ zi ih =>
      intro i h0 hi
      have hin : i < n := by omega
      refine jW.locals (ls' := [some (.ref (ad 0)), some (.int (nI (n - i - 1))), none, none, none, none]) (by rw [sub1 (by omega)]) ?_
      refine j_iload_n hX dX12_hope_17 rfl ?_
      refine j_if_lt_f hX (tgt := 145) dX12_hope_18 (by decide) (nI_pos (by omega)) ?_
      refine j_iconst hX (v := 0) (by decide) dX12_hope_21 ?_
      refine j_istore_n hX (ls' := [some (.ref (ad 0)), some (.int (nI (n - i - 1))), some (.int 0), none, none, none]) dX12_hope_22 (Nat.le_of_ble_eq_true rfl) rfl rfl ?_
      refine j_iconst hX (v := 0) (by decide) dX12_hope_23 ?_
      refine j_istore_n hX (ls' := [some (.ref (ad 0)), some (.int (nI (n - i - 1))), some (.int 0), some (.int 0), none, none]) dX12_hope_24 (Nat.le_of_ble_eq_true rfl) rfl rfl ?_
      have L25 : ∀ zr r : Nat, 0 ≤ r → r + zr = 2 ^ i → jW G X 0 0 25 [some (.ref (ad 0)), some (.int (nI (n - i - 1))), some (.int (msP c n o (sM M 20 (hpA c n o M i)) (n - i - 1) r)), some (.int (nI r)), none, none] [] (wM G ad V (sM M 20 (hpA c n o M i)) t) := by
        intro zr
        induction zr with
        | zero =>
          intro r h0r hir
          have hinr : r = 2 ^ i := by omega
          have hp64 := pow64 hin hn
          refine j_iload_n hX dX12_hope_25 rfl ?_
          refine j_iconst hX (v := 1) (by decide) dX12_hope_26 ?_
          refine j_aload_n hX dX12_hope_27 rfl ?_
          refine j_getf hX (v := .int (V 5)) dX12_hope_28 fX12_hope_93 0 (wMg0 _ _ _ _ _) rfl ?_
          refine jW.top hn5 ?_
          refine j_iload_n hX dX12_hope_31 rfl ?_
          refine j_isub hX dX12_hope_32 ?_
          refine j_iconst hX (v := 1) (by decide) dX12_hope_33 ?_
          refine j_isub hX dX12_hope_34 ?_
          refine j_ishl hX dX12_hope_35 ?_
          refine jW.top (hp_sh hin hn) ?_
          refine j_icmp_ge_t hX (tgt := 123) dX12_hope_36 (by decide) (by rw [hinr]; exact nI_le (Nat.le_refl _) (by omega)) ?_
          refine jW.drop (ls' := [some (.ref (ad 0)), some (.int (nI (n - i - 1))), some (.int (msP c n o (sM M 20 (hpA c n o M i)) (n - i - 1) r)), none, none, none]) ⟨Or.inr rfl, Or.inr rfl, Or.inr rfl, Or.inl rfl, Or.inr rfl, Or.inr rfl, trivial⟩ ?_
          refine jW.locals (ls' := [some (.ref (ad 0)), some (.int (nI (n - i - 1))), some (.int (msP c n o (sM M 20 (hpA c n o M i)) (n - i - 1) (2 ^ i))), none, none, none]) (by rw [hinr]) ?_
          refine j_aload_n hX dX12_hope_123 rfl ?_
          refine j_getf hX (v := .ref (ad 20)) dX12_hope_124 fX12_hope_70 0 (wMg0 _ _ _ _ _) rfl ?_
          refine j_iload_n hX dX12_hope_127 rfl ?_
          refine j_aload_n hX dX12_hope_128 rfl ?_
          refine j_getf hX (v := .ref (ad 20)) dX12_hope_129 fX12_hope_70 0 (wMg0 _ _ _ _ _) rfl ?_
          refine j_iload_n hX dX12_hope_132 rfl ?_
          refine j_iconst hX (v := 1) (by decide) dX12_hope_133 ?_
          refine j_iadd hX dX12_hope_134 ?_
          refine jW.top (nI_1 _) ?_
          refine j_iald hX (v := hpA c n o M i (n - i - 1 + 1)) dX12_hope_135 20 (wMg20 _ _ _ _ _) (nI_in (by omega) (by decide)) (rdc (by omega)) ?_
          refine j_iload_n hX dX12_hope_136 rfl ?_
          refine j_iadd hX dX12_hope_137 ?_
          refine j_iast hX (ws' := (wM G ad V (sM M 20 (upd (hpA c n o M i) (n - i - 1) ((hpA c n o M i (n - i - 1 + 1)) + (msP c n o (sM M 20 (hpA c n o M i)) (n - i - 1) (2 ^ i))))) t)) dX12_hope_138 20 (wMg20 _ _ _ _ _) (nI_in (by omega) (by decide)) (by rw [nI_clamp (by omega)]; exact (wMo20 _ _ _ _ _ _ _)) ?_
          refine j_iinc hX (v := nI (n - (i + 1)) - 1) (ls' := [some (.ref (ad 0)), some (.int (nI (n - (i + 1)) - 1)), some (.int (msP c n o (sM M 20 (hpA c n o M i)) (n - i - 1) (2 ^ i))), none, none, none]) dX12_hope_139 rfl (addm1 _) rfl rfl ?_
          refine j_goto hX (tgt := 17) dX12_hope_142 (by decide) ?_
          refine jW.drop (ls' := [some (.ref (ad 0)), some (.int (nI (n - (i + 1)) - 1)), none, none, none, none]) ⟨Or.inr rfl, Or.inr rfl, Or.inl rfl, Or.inr rfl, Or.inr rfl, Or.inr rfl, trivial⟩ ?_
          refine jW.world (ws' := (wM G ad V (sM M 20 (hpA c n o M (i + 1))) t)) rfl ?_
          exact ih (i + 1) (by omega) (by omega)
        | succ zr ihr =>
          intro r h0r hir
          have hinr : r < 2 ^ i := by omega
          have hp64 := pow64 hin hn
          refine j_iload_n hX dX12_hope_25 rfl ?_
          refine j_iconst hX (v := 1) (by decide) dX12_hope_26 ?_
          refine j_aload_n hX dX12_hope_27 rfl ?_
          refine j_getf hX (v := .int (V 5)) dX12_hope_28 fX12_hope_93 0 (wMg0 _ _ _ _ _) rfl ?_
          refine jW.top hn5 ?_
          refine j_iload_n hX dX12_hope_31 rfl ?_
          refine j_isub hX dX12_hope_32 ?_
          refine j_iconst hX (v := 1) (by decide) dX12_hope_33 ?_
          refine j_isub hX dX12_hope_34 ?_
          refine j_ishl hX dX12_hope_35 ?_
          refine jW.top (hp_sh hin hn) ?_
          refine j_icmp_ge_f hX (tgt := 123) dX12_hope_36 (by decide) (nI_ge hinr (by have := pow64 hin hn; omega)) ?_
          refine j_iconst hX (v := 1) (by decide) dX12_hope_39 ?_
          refine j_iload_n hX dX12_hope_40 rfl ?_
          refine j_ishl hX dX12_hope_41 ?_
          refine j_iload_n hX dX12_hope_42 rfl ?_
          refine j_iload_n hX dX12_hope_43 rfl ?_
          refine j_iconst hX (v := 1) (by decide) dX12_hope_44 ?_
          refine j_iadd hX dX12_hope_45 ?_
          refine jW.top (nI_1 _) ?_
          refine j_ishl hX dX12_hope_46 ?_
          refine j_ior hX dX12_hope_47 ?_
          refine jW.top (y := setM (n - i - 1) r) rfl ?_
          refine j_istore hX (ls' := [some (.ref (ad 0)), some (.int (nI (n - i - 1))), some (.int (msP c n o (sM M 20 (hpA c n o M i)) (n - i - 1) r)), some (.int (nI r)), some (.int (setM (n - i - 1) r)), none]) dX12_hope_48 (Nat.le_of_ble_eq_true rfl) rfl rfl ?_
          refine j_iconst hX (v := 0) (by decide) dX12_hope_50 ?_
          refine j_istore hX (ls' := [some (.ref (ad 0)), some (.int (nI (n - i - 1))), some (.int (msP c n o (sM M 20 (hpA c n o M i)) (n - i - 1) r)), some (.int (nI r)), some (.int (setM (n - i - 1) r)), some (.int 0)]) dX12_hope_51 (Nat.le_of_ble_eq_true rfl) rfl rfl ?_
          have L53 : ∀ zj j : Nat, 0 ≤ j → j + zj = o → jW G X 0 0 53 [some (.ref (ad 0)), some (.int (nI (n - i - 1))), some (.int (msO c n (sM M 20 (hpA c n o M i)) (setM (n - i - 1) r) (msP c n o (sM M 20 (hpA c n o M i)) (n - i - 1) r) j)), some (.int (nI r)), some (.int (setM (n - i - 1) r)), some (.int (nI j))] [] (wM G ad V (sM M 20 (hpA c n o M i)) t) := by
            intro zj
            induction zj with
            | zero =>
              intro j h0j hij
              have hinj : j = o := by omega
              refine j_iload hX dX12_hope_53 rfl ?_
              refine j_aload_n hX dX12_hope_55 rfl ?_
              refine j_getf hX (v := .int (V 2)) dX12_hope_56 fX12_hope_121 0 (wMg0 _ _ _ _ _) rfl ?_
              refine jW.top ho2 ?_
              refine j_icmp_ge_t hX (tgt := 117) dX12_hope_59 (by decide) (by rw [hinj]; exact nI_le (Nat.le_refl _) (by omega)) ?_
              refine j_iinc hX (v := nI (r + 1)) (ls' := [some (.ref (ad 0)), some (.int (nI (n - i - 1))), some (.int (msO c n (sM M 20 (hpA c n o M i)) (setM (n - i - 1) r) (msP c n o (sM M 20 (hpA c n o M i)) (n - i - 1) r) j)), some (.int (nI (r + 1))), some (.int (setM (n - i - 1) r)), some (.int (nI j))]) dX12_hope_117 rfl (j_inc1 _) rfl rfl ?_
              refine j_goto hX (tgt := 25) dX12_hope_120 (by decide) ?_
              refine jW.drop (ls' := [some (.ref (ad 0)), some (.int (nI (n - i - 1))), some (.int (msO c n (sM M 20 (hpA c n o M i)) (setM (n - i - 1) r) (msP c n o (sM M 20 (hpA c n o M i)) (n - i - 1) r) j)), some (.int (nI (r + 1))), none, none]) ⟨Or.inr rfl, Or.inr rfl, Or.inr rfl, Or.inr rfl, Or.inl rfl, Or.inl rfl, trivial⟩ ?_
              refine jW.locals (ls' := [some (.ref (ad 0)), some (.int (nI (n - i - 1))), some (.int (msP c n o (sM M 20 (hpA c n o M i)) (n - i - 1) (r + 1))), some (.int (nI (r + 1))), none, none]) (by rw [hinj]; rfl) ?_
              exact ihr (r + 1) (by omega) (by omega)
            | succ zj ihj =>
              intro j h0j hij
              have hinj : j < o := by omega
              refine j_iload hX dX12_hope_53 rfl ?_
              refine j_aload_n hX dX12_hope_55 rfl ?_
              refine j_getf hX (v := .int (V 2)) dX12_hope_56 fX12_hope_121 0 (wMg0 _ _ _ _ _) rfl ?_
              refine jW.top ho2 ?_
              refine j_icmp_ge_f hX (tgt := 117) dX12_hope_59 (by decide) (nI_ge hinj (by omega)) ?_
              refine j_aload_n hX dX12_hope_62 rfl ?_
              refine j_getf hX (v := .ref (ad 6)) dX12_hope_63 fX12_hope_26 0 (wMg0 _ _ _ _ _) rfl ?_
              refine j_iload hX dX12_hope_66 rfl ?_
              refine j_cald hX (v := (M 6) j) dX12_hope_68 6 (wMg6 _ _ _ _ _) (nI_in (by omega) (by decide)) (rdc (by omega)) ?_
              refine j_bipush hX (v := 116) (by decide) dX12_hope_69 ?_
              refine j_icmp_eq hX (tgt := 109) dX12_hope_71 (by decide) (fun h71 => ?_) (fun h71 => ?_)
              · refine j_iload_n hX dX12_hope_109 rfl ?_
                refine j_istore_n hX (ls' := [some (.ref (ad 0)), some (.int (nI (n - i - 1))), some (.int (msO c n (sM M 20 (hpA c n o M i)) (setM (n - i - 1) r) (msP c n o (sM M 20 (hpA c n o M i)) (n - i - 1) r) j)), some (.int (nI r)), some (.int (setM (n - i - 1) r)), some (.int (nI j))]) dX12_hope_110 (Nat.le_of_ble_eq_true rfl) rfl rfl ?_
                refine j_iinc hX (v := nI (j + 1)) (ls' := [some (.ref (ad 0)), some (.int (nI (n - i - 1))), some (.int (msO c n (sM M 20 (hpA c n o M i)) (setM (n - i - 1) r) (msP c n o (sM M 20 (hpA c n o M i)) (n - i - 1) r) j)), some (.int (nI r)), some (.int (setM (n - i - 1) r)), some (.int (nI (j + 1)))]) dX12_hope_111 rfl (j_inc1 _) rfl rfl ?_
                refine j_goto hX (tgt := 53) dX12_hope_114 (by decide) ?_
                refine jW.locals (ls' := [some (.ref (ad 0)), some (.int (nI (n - i - 1))), some (.int (msO c n (sM M 20 (hpA c n o M i)) (setM (n - i - 1) r) (msP c n o (sM M 20 (hpA c n o M i)) (n - i - 1) r) (j + 1))), some (.int (nI r)), some (.int (setM (n - i - 1) r)), some (.int (nI (j + 1)))]) (by rw [show msO c n (sM M 20 (hpA c n o M i)) (setM (n - i - 1) r) (msP c n o (sM M 20 (hpA c n o M i)) (n - i - 1) r) (j + 1) = msO c n (sM M 20 (hpA c n o M i)) (setM (n - i - 1) r) (msP c n o (sM M 20 (hpA c n o M i)) (n - i - 1) r) j from (show msS c n (sM M 20 (hpA c n o M i)) (setM (n - i - 1) r) j (msO c n (sM M 20 (hpA c n o M i)) (setM (n - i - 1) r) (msP c n o (sM M 20 (hpA c n o M i)) (n - i - 1) r) j) = _ from (if_pos h71))]) ?_
                exact ihj (j + 1) (by omega) (by omega)
              · refine j_aload_n hX dX12_hope_74 rfl ?_
                refine j_iload hX dX12_hope_75 rfl ?_
                refine j_dV hX (nA := 1) (cq := (RX12, TX12, 37)) (As := [.int (nI j)]) (st := []) (st' := [.int (lfM c (sM M 20 (hpA c n o M i)) j)]) (ci := 13) rfl dX12_hope_77 (c_X12_leftOf G _ V (sM M 20 (hpA c n o M i)) _ c hc1 hc j (by omega)) gX12_hope_X12_leftOf rfl (by decide +kernel) (q := 0) (wMg0 _ _ _ _ _) (by decide) (Nat.le_of_ble_eq_true rfl) rfl (Nat.le_of_ble_eq_true rfl) rfl ⟨Nat.le_refl _, Nat.le_refl _⟩ rfl ?_
                refine j_if_le hX (tgt := 109) dX12_hope_80 (by decide) (fun h80 => ?_) (fun h80 => ?_)
                · refine j_iload_n hX dX12_hope_109 rfl ?_
                  refine j_istore_n hX (ls' := [some (.ref (ad 0)), some (.int (nI (n - i - 1))), some (.int (msO c n (sM M 20 (hpA c n o M i)) (setM (n - i - 1) r) (msP c n o (sM M 20 (hpA c n o M i)) (n - i - 1) r) j)), some (.int (nI r)), some (.int (setM (n - i - 1) r)), some (.int (nI j))]) dX12_hope_110 (Nat.le_of_ble_eq_true rfl) rfl rfl ?_
                  refine j_iinc hX (v := nI (j + 1)) (ls' := [some (.ref (ad 0)), some (.int (nI (n - i - 1))), some (.int (msO c n (sM M 20 (hpA c n o M i)) (setM (n - i - 1) r) (msP c n o (sM M 20 (hpA c n o M i)) (n - i - 1) r) j)), some (.int (nI r)), some (.int (setM (n - i - 1) r)), some (.int (nI (j + 1)))]) dX12_hope_111 rfl (j_inc1 _) rfl rfl ?_
                  refine j_goto hX (tgt := 53) dX12_hope_114 (by decide) ?_
                  refine jW.locals (ls' := [some (.ref (ad 0)), some (.int (nI (n - i - 1))), some (.int (msO c n (sM M 20 (hpA c n o M i)) (setM (n - i - 1) r) (msP c n o (sM M 20 (hpA c n o M i)) (n - i - 1) r) (j + 1))), some (.int (nI r)), some (.int (setM (n - i - 1) r)), some (.int (nI (j + 1)))]) (by rw [show msO c n (sM M 20 (hpA c n o M i)) (setM (n - i - 1) r) (msP c n o (sM M 20 (hpA c n o M i)) (n - i - 1) r) (j + 1) = msO c n (sM M 20 (hpA c n o M i)) (setM (n - i - 1) r) (msP c n o (sM M 20 (hpA c n o M i)) (n - i - 1) r) j from (show msS c n (sM M 20 (hpA c n o M i)) (setM (n - i - 1) r) j (msO c n (sM M 20 (hpA c n o M i)) (setM (n - i - 1) r) (msP c n o (sM M 20 (hpA c n o M i)) (n - i - 1) r) j) = _ from ((if_neg h71).trans (if_pos h80)))]) ?_
                  exact ihj (j + 1) (by omega) (by omega)
                · refine j_aload_n hX dX12_hope_83 rfl ?_
                  refine j_iload hX dX12_hope_84 rfl ?_
                  refine j_iload hX dX12_hope_86 rfl ?_
                  refine j_dV hX (nA := 2) (cq := (RX12, TX12, 37)) (As := [.int (nI j), .int (setM (n - i - 1) r)]) (st := []) (st' := [.int (goM (sM M 20 (hpA c n o M i)) n j (setM (n - i - 1) r))]) (ci := 13) rfl dX12_hope_88 (c_X12_isGood G _ V (sM M 20 (hpA c n o M i)) _ n o c (mI_20 hI0) j (by omega) _) gX12_hope_X12_isGood rfl (by decide +kernel) (q := 0) (wMg0 _ _ _ _ _) (by decide) (Nat.le_of_ble_eq_true rfl) rfl (Nat.le_of_ble_eq_true rfl) rfl ⟨Nat.le_refl _, Nat.le_refl _⟩ rfl ?_
                  refine j_if_eq hX (tgt := 109) dX12_hope_91 (by decide) (fun h91 => ?_) (fun h91 => ?_)
                  · refine j_iload_n hX dX12_hope_109 rfl ?_
                    refine j_istore_n hX (ls' := [some (.ref (ad 0)), some (.int (nI (n - i - 1))), some (.int (msO c n (sM M 20 (hpA c n o M i)) (setM (n - i - 1) r) (msP c n o (sM M 20 (hpA c n o M i)) (n - i - 1) r) j)), some (.int (nI r)), some (.int (setM (n - i - 1) r)), some (.int (nI j))]) dX12_hope_110 (Nat.le_of_ble_eq_true rfl) rfl rfl ?_
                    refine j_iinc hX (v := nI (j + 1)) (ls' := [some (.ref (ad 0)), some (.int (nI (n - i - 1))), some (.int (msO c n (sM M 20 (hpA c n o M i)) (setM (n - i - 1) r) (msP c n o (sM M 20 (hpA c n o M i)) (n - i - 1) r) j)), some (.int (nI r)), some (.int (setM (n - i - 1) r)), some (.int (nI (j + 1)))]) dX12_hope_111 rfl (j_inc1 _) rfl rfl ?_
                    refine j_goto hX (tgt := 53) dX12_hope_114 (by decide) ?_
                    refine jW.locals (ls' := [some (.ref (ad 0)), some (.int (nI (n - i - 1))), some (.int (msO c n (sM M 20 (hpA c n o M i)) (setM (n - i - 1) r) (msP c n o (sM M 20 (hpA c n o M i)) (n - i - 1) r) (j + 1))), some (.int (nI r)), some (.int (setM (n - i - 1) r)), some (.int (nI (j + 1)))]) (by rw [show msO c n (sM M 20 (hpA c n o M i)) (setM (n - i - 1) r) (msP c n o (sM M 20 (hpA c n o M i)) (n - i - 1) r) (j + 1) = msO c n (sM M 20 (hpA c n o M i)) (setM (n - i - 1) r) (msP c n o (sM M 20 (hpA c n o M i)) (n - i - 1) r) j from (show msS c n (sM M 20 (hpA c n o M i)) (setM (n - i - 1) r) j (msO c n (sM M 20 (hpA c n o M i)) (setM (n - i - 1) r) (msP c n o (sM M 20 (hpA c n o M i)) (n - i - 1) r) j) = _ from (((if_neg h71).trans (if_neg h80)).trans (if_pos h91)))]) ?_
                    exact ihj (j + 1) (by omega) (by omega)
                  · refine j_iload_n hX dX12_hope_94 rfl ?_
                    refine j_aload_n hX dX12_hope_95 rfl ?_
                    refine j_iload hX dX12_hope_96 rfl ?_
                    refine j_iload hX dX12_hope_98 rfl ?_
                    refine j_dV hX (nA := 2) (cq := (RX12, TX12, 37)) (As := [.int (nI j), .int (setM (n - i - 1) r)]) (st := [.int (msO c n (sM M 20 (hpA c n o M i)) (setM (n - i - 1) r) (msP c n o (sM M 20 (hpA c n o M i)) (n - i - 1) r) j)]) (st' := [.int (diM (sM M 20 (hpA c n o M i)) n j (setM (n - i - 1) r)), .int (msO c n (sM M 20 (hpA c n o M i)) (setM (n - i - 1) r) (msP c n o (sM M 20 (hpA c n o M i)) (n - i - 1) r) j)]) (ci := 13) rfl dX12_hope_100 (c_X12_discount G _ V (sM M 20 (hpA c n o M i)) _ n o c (mI_20 hI0) j (by omega) _) gX12_hope_X12_discount rfl (by decide +kernel) (q := 0) (wMg0 _ _ _ _ _) (by decide) (Nat.le_of_ble_eq_true rfl) rfl (Nat.le_of_ble_eq_true rfl) rfl ⟨Nat.le_refl _, Nat.le_refl _⟩ rfl ?_
                    refine j_mmax hX dX12_hope_103 (by decide +kernel) (by decide +kernel) (by decide +kernel) (by decide +kernel) (by decide) rfl (Nat.le_of_ble_eq_true rfl) ⟨Nat.le_refl _, Nat.le_refl _⟩ ?_
                    refine jW.top (y := mxF (msO c n (sM M 20 (hpA c n o M i)) (setM (n - i - 1) r) (msP c n o (sM M 20 (hpA c n o M i)) (n - i - 1) r) j) (diM (sM M 20 (hpA c n o M i)) n j (setM (n - i - 1) r))) rfl ?_
                    refine j_goto hX (tgt := 110) dX12_hope_106 (by decide) ?_
                    refine j_istore_n hX (ls' := [some (.ref (ad 0)), some (.int (nI (n - i - 1))), some (.int (mxF (msO c n (sM M 20 (hpA c n o M i)) (setM (n - i - 1) r) (msP c n o (sM M 20 (hpA c n o M i)) (n - i - 1) r) j) (diM (sM M 20 (hpA c n o M i)) n j (setM (n - i - 1) r)))), some (.int (nI r)), some (.int (setM (n - i - 1) r)), some (.int (nI j))]) dX12_hope_110 (Nat.le_of_ble_eq_true rfl) rfl rfl ?_
                    refine j_iinc hX (v := nI (j + 1)) (ls' := [some (.ref (ad 0)), some (.int (nI (n - i - 1))), some (.int (mxF (msO c n (sM M 20 (hpA c n o M i)) (setM (n - i - 1) r) (msP c n o (sM M 20 (hpA c n o M i)) (n - i - 1) r) j) (diM (sM M 20 (hpA c n o M i)) n j (setM (n - i - 1) r)))), some (.int (nI r)), some (.int (setM (n - i - 1) r)), some (.int (nI (j + 1)))]) dX12_hope_111 rfl (j_inc1 _) rfl rfl ?_
                    refine j_goto hX (tgt := 53) dX12_hope_114 (by decide) ?_
                    refine jW.locals (ls' := [some (.ref (ad 0)), some (.int (nI (n - i - 1))), some (.int (msO c n (sM M 20 (hpA c n o M i)) (setM (n - i - 1) r) (msP c n o (sM M 20 (hpA c n o M i)) (n - i - 1) r) (j + 1))), some (.int (nI r)), some (.int (setM (n - i - 1) r)), some (.int (nI (j + 1)))]) (by rw [show msO c n (sM M 20 (hpA c n o M i)) (setM (n - i - 1) r) (msP c n o (sM M 20 (hpA c n o M i)) (n - i - 1) r) (j + 1) = mxF (msO c n (sM M 20 (hpA c n o M i)) (setM (n - i - 1) r) (msP c n o (sM M 20 (hpA c n o M i)) (n - i - 1) r) j) (diM (sM M 20 (hpA c n o M i)) n j (setM (n - i - 1) r)) from (show msS c n (sM M 20 (hpA c n o M i)) (setM (n - i - 1) r) j (msO c n (sM M 20 (hpA c n o M i)) (setM (n - i - 1) r) (msP c n o (sM M 20 (hpA c n o M i)) (n - i - 1) r) j) = _ from (((if_neg h71).trans (if_neg h80)).trans (if_neg h91)))]) ?_
                    exact ihj (j + 1) (by omega) (by omega)
          refine jW.locals (ls' := [some (.ref (ad 0)), some (.int (nI (n - i - 1))), some (.int (msO c n (sM M 20 (hpA c n o M i)) (setM (n - i - 1) r) (msP c n o (sM M 20 (hpA c n o M i)) (n - i - 1) r) 0)), some (.int (nI r)), some (.int (setM (n - i - 1) r)), some (.int (nI 0))]) rfl ?_
          exact L53 o 0 (Nat.le_refl _) (by omega)
      exact L25 (2 ^ i) 0 (Nat.le_refl _) (by omega)
  refine jW.world (ws' := (wM G ad V (sM M 20 (hpA c n o M 0)) t)) rfl ?_
  refine jW.locals (ls' := [some (.ref (ad 0)), some (.int (nI (n - 0) - 1)), none, none, none, none]) rfl ?_
  exact L17 n 0 (Nat.le_refl _) (by omega)

