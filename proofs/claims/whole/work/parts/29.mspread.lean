theorem fX12_spreads_93 : jF wsX12_spreads RX12 93 13 20 false .int := ⟨(RX12, TX12, 37), tyX12, rfl, by decide, by decide +kernel, by decide +kernel, tyX12_ok, nmX12, rfl, by decide +kernel, fun h => by cases h⟩
theorem fX12_spreads_178 : jF wsX12_spreads RX12 178 13 34 false .int := ⟨(RX12, TX12, 37), tyX12, rfl, by decide, by decide +kernel, by decide +kernel, tyX12_ok, nmX12, rfl, by decide +kernel, fun h => by cases h⟩
theorem fX12_spreads_169 : jF wsX12_spreads RX12 169 13 29 false .int := ⟨(RX12, TX12, 37), tyX12, rfl, by decide, by decide +kernel, by decide +kernel, tyX12_ok, nmX12, rfl, by decide +kernel, fun h => by cases h⟩
theorem fX12_spreads_172 : jF wsX12_spreads RX12 172 13 35 false .int := ⟨(RX12, TX12, 37), tyX12, rfl, by decide, by decide +kernel, by decide +kernel, tyX12_ok, nmX12, rfl, by decide +kernel, fun h => by cases h⟩
theorem fX12_spreads_16 : jF wsX12_spreads RX12 16 13 2 true (.array .int) := ⟨(RX12, TX12, 37), tyX12, rfl, by decide, by decide +kernel, by decide +kernel, tyX12_ok, nmX12, rfl, by decide +kernel, by decide +kernel⟩
theorem fX12_spreads_52 : jF wsX12_spreads RX12 52 13 19 true (.array .int) := ⟨(RX12, TX12, 37), tyX12, rfl, by decide, by decide +kernel, by decide +kernel, tyX12_ok, nmX12, rfl, by decide +kernel, by decide +kernel⟩
theorem fX12_spreads_55 : jF wsX12_spreads RX12 55 13 21 true (.array .int) := ⟨(RX12, TX12, 37), tyX12, rfl, by decide, by decide +kernel, by decide +kernel, tyX12_ok, nmX12, rfl, by decide +kernel, by decide +kernel⟩
theorem fX12_spreads_82 : jF wsX12_spreads RX12 82 13 33 true (.array .int) := ⟨(RX12, TX12, 37), tyX12, rfl, by decide, by decide +kernel, by decide +kernel, tyX12_ok, nmX12, rfl, by decide +kernel, by decide +kernel⟩
theorem fX12_spreads_73 : jF wsX12_spreads RX12 73 13 30 true (.array .int) := ⟨(RX12, TX12, 37), tyX12, rfl, by decide, by decide +kernel, by decide +kernel, tyX12_ok, nmX12, rfl, by decide +kernel, by decide +kernel⟩
/-- net prices: first the prices, then each use's discount spread, then what the thresholds make -/
def np1 (M : Nat → Nat → Int32) (i : Nat) : Nat → Int32 := itr (fun k f => upd f (M 14 k).toNatClampNeg (prM M k)) i (M 3)
def alF (M : Nat → Nat → Int32) (u k : Nat) : Int32 := itr (fun k s => s + (if M 21 k = nI u then prM M k else 0)) k 0
def gtF (M : Nat → Nat → Int32) (u : Nat) (al : Int32) (k : Nat) : Int32 := if M 21 k = nI u then M 24 u * prM M k / al else 0
def s2F (M : Nat → Nat → Int32) (u : Nat) (al : Int32) (f : Nat → Int32) (k : Nat) : Nat → Int32 := itr (fun k f => upd f (M 14 k).toNatClampNeg (f (M 14 k).toNatClampNeg - gtF M u al k)) k f
def s2L (M : Nat → Nat → Int32) (u : Nat) (al : Int32) (k : Nat) : Int32 := itr (fun k l => l - gtF M u al k) k (M 24 u)
abbrev FL : Type := (Nat → Int32) × Int32
def s3S (M : Nat → Nat → Int32) (u k : Nat) (s : FL) : FL := if s.2 ≤ 0 then s else if M 21 k = nI u then (upd s.1 (M 14 k).toNatClampNeg (s.1 (M 14 k).toNatClampNeg - 1), s.2 - 1) else s
def s3F (M : Nat → Nat → Int32) (u : Nat) (s : FL) (k : Nat) : FL := itr (s3S M u) k s
def spS (M : Nat → Nat → Int32) (n u : Nat) (f : Nat → Int32) : Nat → Int32 := (s3F M u (s2F M u (alF M u n) f n, s2L M u (alF M u n) n) n).1
def spU (M : Nat → Nat → Int32) (n : Nat) (u : Nat) : Nat → Int32 := itr (spS M n) u (np1 M n)
def s4X (M : Nat → Nat → Int32) (f : Nat → Int32) (more rest : Int32) (k : Nat) : Int32 := if rest = 0 then 0 else more * f (M 14 k).toNatClampNeg / rest
def s4G (M : Nat → Nat → Int32) (f : Nat → Int32) (more rest : Int32) (k : Nat) : Nat → Int32 := itr (fun k g => upd g k (s4X M f more rest k)) k (M 15)
def s4L (M : Nat → Nat → Int32) (f : Nat → Int32) (more rest : Int32) (k : Nat) : Int32 := itr (fun k l => l - s4X M f more rest k) k more
def s5S (M : Nat → Nat → Int32) (g : Nat → Int32) (k : Nat) (s : FL) : FL := if s.2 ≤ 0 then (upd s.1 (M 14 k).toNatClampNeg (s.1 (M 14 k).toNatClampNeg - (g k + 0)), s.2 - 0) else if s.1 (M 14 k).toNatClampNeg ≤ 0 then (upd s.1 (M 14 k).toNatClampNeg (s.1 (M 14 k).toNatClampNeg - (g k + 0)), s.2 - 0) else (upd s.1 (M 14 k).toNatClampNeg (s.1 (M 14 k).toNatClampNeg - (g k + 1)), s.2 - 1)
def s5F (M : Nat → Nat → Int32) (g : Nat → Int32) (s : FL) (k : Nat) : FL := itr (s5S M g) k s
def mnM (x y : Int32) : Int32 := if y < x then y else x
def spMore (V : Nat → Int32) (sum : Int32) : Int32 := mnM (V 8 - V 10) (sum - V 10)
def spF (n bu : Nat) (sum : Int32) (s : VM) : VM := (s.1, sM (sM s.2 3 (s5F s.2 (s4G s.2 (spU s.2 n bu) (spMore s.1 sum) (sum - s.1 10) n) (spU s.2 n bu, s4L s.2 (spU s.2 n bu) (spMore s.1 sum) (sum - s.1 10) n) n).1) 15 (s4G s.2 (spU s.2 n bu) (spMore s.1 sum) (sum - s.1 10) n))
theorem s3_stop {M : Nat → Nat → Int32} {u : Nat} {s : FL} {i : Nat} (h : (s3F M u s i).2 ≤ 0) : ∀ {k : Nat}, s3F M u s (i + k) = s3F M u s i
  | 0 => rfl
  | k + 1 => by
    have h1 := s3_stop h (k := k)
    rw [← Nat.add_assoc]
    show s3S M u (i + k) (s3F M u s (i + k)) = _
    rw [h1, s3S, if_pos h]
theorem upd_self9 (f : Nat → Int32) (i : Nat) (x : Int32) : upd f i x i = x := by unfold upd; simp
theorem sM_eq (M : Nat → Nat → Int32) (k : Nat) : sM M k (M k) = M := by
  funext j
  unfold sM
  cases h : Nat.beq j k
  · rfl
  · have e : j = k := Nat.eq_of_beq_eq_true h
    subst e
    rfl
set_option maxHeartbeats 4000000 in
set_option maxRecDepth 100000 in
theorem c_X12_spreads (G : jG) (ad : Nat → Nat) (V : Nat → Int32) (M : Nat → Nat → Int32) (t : Int64) (n o c : Nat) (hI : mI n o c V M) (bu : Nat) (hbu : V 9 = nI bu) (hbu7 : bu ≤ 7) (sum : Int32) (hdiv : ∀ u, u < bu → ∀ k, k < n → M 21 k = nI u → ¬ alF M u n = 0) : jD G 2 yX12_spreads wsX12_spreads [.ref (ad 0), .int sum] (wM G ad V M t) none (wM G ad (spF n bu sum (V, M)).1 (spF n bu sum (V, M)).2 t) := by
  refine jC.of (maxL := 7) (cc := cX12_spreads) (ret := none) rfl (by decide) [some (.ref (ad 0)), some (.int sum), none, none, none, none, none] rfl (Nat.le_of_ble_eq_true rfl) (j_args rfl) (fun X hX => ?_)
  have hI0 := hI
  obtain ⟨hn5, hn, ho2, ho, hc1, hc, hB, hG4⟩ := hI
  refine j_iconst hX (v := 0) (by decide) dX12_spreads_0 ?_
  refine j_istore_n hX (ls' := [some (.ref (ad 0)), some (.int sum), some (.int 0), none, none, none, none]) dX12_spreads_1 (Nat.le_of_ble_eq_true rfl) rfl rfl ?_
  have L2 : ∀ zi i : Nat, 0 ≤ i → i + zi = n → jW G X 0 0 2 [some (.ref (ad 0)), some (.int sum), some (.int (nI i)), none, none, none, none] [] (wM G ad V (sM M 3 (np1 M i)) t) := by
    intro zi
    induction zi with
    | zero =>
      intro i h0 hi
      have hin : i = n := by omega
      refine j_iload_n hX dX12_spreads_2 rfl ?_
      refine j_aload_n hX dX12_spreads_3 rfl ?_
      refine j_getf hX (v := .int (V 5)) dX12_spreads_4 fX12_spreads_93 0 (wMg0 _ _ _ _ _) rfl ?_
      refine jW.top hn5 ?_
      refine j_icmp_ge_t hX (tgt := 32) dX12_spreads_7 (by decide) (by rw [hin]; exact nI_le (Nat.le_refl _) (by omega)) ?_
      refine j_iconst hX (v := 0) (by decide) dX12_spreads_32 ?_
      refine j_istore_n hX (ls' := [some (.ref (ad 0)), some (.int sum), some (.int 0), none, none, none, none]) dX12_spreads_33 (Nat.le_of_ble_eq_true rfl) rfl rfl ?_
      have L34 : ∀ zu u : Nat, 0 ≤ u → u + zu = bu → jW G X 0 0 34 [some (.ref (ad 0)), some (.int sum), some (.int (nI u)), none, none, none, none] [] (wM G ad V (sM M 3 (spU M n u)) t) := by
        intro zu
        induction zu with
        | zero =>
          intro u h0u hiu
          have hinu : u = bu := by omega
          refine j_iload_n hX dX12_spreads_34 rfl ?_
          refine j_aload_n hX dX12_spreads_35 rfl ?_
          refine j_getf hX (v := .int (V 9)) dX12_spreads_36 fX12_spreads_178 0 (wMg0 _ _ _ _ _) rfl ?_
          refine jW.top hbu ?_
          refine j_icmp_ge_t hX (tgt := 227) dX12_spreads_39 (by decide) (by rw [hinu]; exact nI_le (Nat.le_refl _) (by omega)) ?_
          refine jW.world (ws' := (wM G ad V (sM M 3 (spU M n bu)) t)) (by rw [hinu]) ?_
          refine j_aload_n hX dX12_spreads_227 rfl ?_
          refine j_getf hX (v := .int (V 8)) dX12_spreads_228 fX12_spreads_169 0 (wMg0 _ _ _ _ _) rfl ?_
          refine j_aload_n hX dX12_spreads_231 rfl ?_
          refine j_getf hX (v := .int (V 10)) dX12_spreads_232 fX12_spreads_172 0 (wMg0 _ _ _ _ _) rfl ?_
          refine j_isub hX dX12_spreads_235 ?_
          refine j_istore_n hX (ls' := [some (.ref (ad 0)), some (.int sum), some (.int ((V 8) - (V 10))), none, none, none, none]) dX12_spreads_236 (Nat.le_of_ble_eq_true rfl) rfl rfl ?_
          refine j_iload_n hX dX12_spreads_237 rfl ?_
          refine j_aload_n hX dX12_spreads_238 rfl ?_
          refine j_getf hX (v := .int (V 10)) dX12_spreads_239 fX12_spreads_172 0 (wMg0 _ _ _ _ _) rfl ?_
          refine j_isub hX dX12_spreads_242 ?_
          refine j_istore_n hX (ls' := [some (.ref (ad 0)), some (.int sum), some (.int ((V 8) - (V 10))), some (.int (sum - (V 10))), none, none, none]) dX12_spreads_243 (Nat.le_of_ble_eq_true rfl) rfl rfl ?_
          refine j_iload_n hX dX12_spreads_244 rfl ?_
          refine j_iload_n hX dX12_spreads_245 rfl ?_
          refine j_mmin hX dX12_spreads_246 (by decide +kernel) (by decide +kernel) (by decide +kernel) (by decide +kernel) (by decide) rfl (Nat.le_of_ble_eq_true rfl) ⟨Nat.le_refl _, Nat.le_refl _⟩ ?_
          refine jW.top (y := spMore V sum) rfl ?_
          refine j_istore_n hX (ls' := [some (.ref (ad 0)), some (.int sum), some (.int (spMore V sum)), some (.int (sum - (V 10))), none, none, none]) dX12_spreads_249 (Nat.le_of_ble_eq_true rfl) rfl rfl ?_
          refine j_iload_n hX dX12_spreads_250 rfl ?_
          refine j_istore hX (ls' := [some (.ref (ad 0)), some (.int sum), some (.int (spMore V sum)), some (.int (sum - (V 10))), some (.int (spMore V sum)), none, none]) dX12_spreads_251 (Nat.le_of_ble_eq_true rfl) rfl rfl ?_
          refine j_iconst hX (v := 0) (by decide) dX12_spreads_253 ?_
          refine j_istore hX (ls' := [some (.ref (ad 0)), some (.int sum), some (.int (spMore V sum)), some (.int (sum - (V 10))), some (.int (spMore V sum)), some (.int 0), none]) dX12_spreads_254 (Nat.le_of_ble_eq_true rfl) rfl rfl ?_
          have L256 : ∀ zd9 d9 : Nat, 0 ≤ d9 → d9 + zd9 = n → jW G X 0 0 256 [some (.ref (ad 0)), some (.int sum), some (.int (spMore V sum)), some (.int (sum - V 10)), some (.int (s4L M (spU M n bu) (spMore V sum) (sum - V 10) d9)), some (.int (nI d9)), none] [] (wM G ad V (sM (sM M 3 (spU M n bu)) 15 (s4G M (spU M n bu) (spMore V sum) (sum - V 10) d9)) t) := by
            intro zd9
            induction zd9 with
            | zero =>
              intro d9 h0d9 hid9
              have hind9 : d9 = n := by omega
              refine j_iload hX dX12_spreads_256 rfl ?_
              refine j_aload_n hX dX12_spreads_258 rfl ?_
              refine j_getf hX (v := .int (V 5)) dX12_spreads_259 fX12_spreads_93 0 (wMg0 _ _ _ _ _) rfl ?_
              refine jW.top hn5 ?_
              refine j_icmp_ge_t hX (tgt := 314) dX12_spreads_262 (by decide) (by rw [hind9]; exact nI_le (Nat.le_refl _) (by omega)) ?_
              refine j_iconst hX (v := 0) (by decide) dX12_spreads_314 ?_
              refine j_istore hX (ls' := [some (.ref (ad 0)), some (.int sum), some (.int (spMore V sum)), some (.int (sum - V 10)), some (.int (s4L M (spU M n bu) (spMore V sum) (sum - V 10) d9)), some (.int 0), none]) dX12_spreads_315 (Nat.le_of_ble_eq_true rfl) rfl rfl ?_
              have L317 : ∀ zx9 x9 : Nat, 0 ≤ x9 → x9 + zx9 = n → jW G X 0 0 317 [some (.ref (ad 0)), some (.int sum), some (.int (spMore V sum)), some (.int (sum - V 10)), some (.int ((s5F M (s4G M (spU M n bu) (spMore V sum) (sum - V 10) n) ((spU M n bu), s4L M (spU M n bu) (spMore V sum) (sum - V 10) n) x9).2)), some (.int (nI x9)), none] [] (wM G ad V (sM (sM M 3 ((s5F M (s4G M (spU M n bu) (spMore V sum) (sum - V 10) n) ((spU M n bu), s4L M (spU M n bu) (spMore V sum) (sum - V 10) n) x9).1)) 15 (s4G M (spU M n bu) (spMore V sum) (sum - V 10) n)) t) := by
                intro zx9
                induction zx9 with
                | zero =>
                  intro x9 h0x9 hix9
                  have hinx9 : x9 = n := by omega
                  refine j_iload hX dX12_spreads_317 rfl ?_
                  refine j_aload_n hX dX12_spreads_319 rfl ?_
                  refine j_getf hX (v := .int (V 5)) dX12_spreads_320 fX12_spreads_93 0 (wMg0 _ _ _ _ _) rfl ?_
                  refine jW.top hn5 ?_
                  refine j_icmp_ge_t hX (tgt := 407) dX12_spreads_323 (by decide) (by rw [hinx9]; exact nI_le (Nat.le_refl _) (by omega)) ?_
                  exact j_vret hX dX12_spreads_407 ⟨rfl, by rw [hinx9]; rfl⟩
                | succ zx9 ihx9 =>
                  intro x9 h0x9 hix9
                  have hinx9 : x9 < n := by omega
                  refine j_iload hX dX12_spreads_317 rfl ?_
                  refine j_aload_n hX dX12_spreads_319 rfl ?_
                  refine j_getf hX (v := .int (V 5)) dX12_spreads_320 fX12_spreads_93 0 (wMg0 _ _ _ _ _) rfl ?_
                  refine jW.top hn5 ?_
                  refine j_icmp_ge_f hX (tgt := 407) dX12_spreads_323 (by decide) (nI_ge hinx9 (by omega)) ?_
                  refine j_iload hX dX12_spreads_326 rfl ?_
                  refine j_if_le hX (tgt := 350) dX12_spreads_328 (by decide) (fun h328 => ?_) (fun h328 => ?_)
                  · refine j_iconst hX (v := 0) (by decide) dX12_spreads_350 ?_
                    refine j_istore hX (ls' := [some (.ref (ad 0)), some (.int sum), some (.int (spMore V sum)), some (.int (sum - V 10)), some (.int ((s5F M (s4G M (spU M n bu) (spMore V sum) (sum - V 10) n) ((spU M n bu), s4L M (spU M n bu) (spMore V sum) (sum - V 10) n) x9).2)), some (.int (nI x9)), some (.int 0)]) dX12_spreads_351 (Nat.le_of_ble_eq_true rfl) rfl rfl ?_
                    refine j_aload_n hX dX12_spreads_353 rfl ?_
                    refine j_getf hX (v := .ref (ad 3)) dX12_spreads_354 fX12_spreads_16 0 (wMg0 _ _ _ _ _) rfl ?_
                    refine j_aload_n hX dX12_spreads_357 rfl ?_
                    refine j_getf hX (v := .ref (ad 14)) dX12_spreads_358 fX12_spreads_52 0 (wMg0 _ _ _ _ _) rfl ?_
                    refine j_iload hX dX12_spreads_361 rfl ?_
                    refine j_iald hX (v := (M 14) x9) dX12_spreads_363 14 (wMg14 _ _ _ _ _) (nI_in (by omega) (by decide)) (rdc (by omega)) ?_
                    refine j_dup2 hX dX12_spreads_364 rfl rfl ?_
                    refine j_iald hX (v := (s5F M (s4G M (spU M n bu) (spMore V sum) (sum - V 10) n) ((spU M n bu), s4L M (spU M n bu) (spMore V sum) (sum - V 10) n) x9).1 (((M 14) x9).toNatClampNeg)) dX12_spreads_365 3 (wMg3 _ _ _ _ _) (hB x9 (by omega)) rfl ?_
                    refine j_aload_n hX dX12_spreads_366 rfl ?_
                    refine j_getf hX (v := .ref (ad 15)) dX12_spreads_367 fX12_spreads_55 0 (wMg0 _ _ _ _ _) rfl ?_
                    refine j_iload hX dX12_spreads_370 rfl ?_
                    refine j_iald hX (v := s4G M (spU M n bu) (spMore V sum) (sum - V 10) n x9) dX12_spreads_372 15 (wMg15 _ _ _ _ _) (nI_in (by omega) (by decide)) (rdc (by omega)) ?_
                    refine j_iload hX dX12_spreads_373 rfl ?_
                    refine j_if_eq_t hX (tgt := 382) dX12_spreads_375 (by decide) (by decide) ?_
                    refine j_iconst hX (v := 0) (by decide) dX12_spreads_382 ?_
                    refine j_iadd hX dX12_spreads_383 ?_
                    refine j_isub hX dX12_spreads_384 ?_
                    refine j_iast hX (ws' := (wM G ad V (sM (sM M 3 (upd ((s5F M (s4G M (spU M n bu) (spMore V sum) (sum - V 10) n) ((spU M n bu), s4L M (spU M n bu) (spMore V sum) (sum - V 10) n) x9).1) (((M 14) x9).toNatClampNeg) (((s5F M (s4G M (spU M n bu) (spMore V sum) (sum - V 10) n) ((spU M n bu), s4L M (spU M n bu) (spMore V sum) (sum - V 10) n) x9).1 (((M 14) x9).toNatClampNeg)) - ((s4G M (spU M n bu) (spMore V sum) (sum - V 10) n x9) + 0)))) 15 (s4G M (spU M n bu) (spMore V sum) (sum - V 10) n)) t)) dX12_spreads_385 3 (wMg3 _ _ _ _ _) (hB x9 (by omega)) rfl ?_
                    refine j_iload hX dX12_spreads_386 rfl ?_
                    refine j_iload hX dX12_spreads_388 rfl ?_
                    refine j_if_eq_t hX (tgt := 397) dX12_spreads_390 (by decide) (by decide) ?_
                    refine j_iconst hX (v := 0) (by decide) dX12_spreads_397 ?_
                    refine j_isub hX dX12_spreads_398 ?_
                    refine j_istore hX (ls' := [some (.ref (ad 0)), some (.int sum), some (.int (spMore V sum)), some (.int (sum - V 10)), some (.int (((s5F M (s4G M (spU M n bu) (spMore V sum) (sum - V 10) n) ((spU M n bu), s4L M (spU M n bu) (spMore V sum) (sum - V 10) n) x9).2) - 0)), some (.int (nI x9)), some (.int 0)]) dX12_spreads_399 (Nat.le_of_ble_eq_true rfl) rfl rfl ?_
                    refine j_iinc hX (v := nI (x9 + 1)) (ls' := [some (.ref (ad 0)), some (.int sum), some (.int (spMore V sum)), some (.int (sum - V 10)), some (.int (((s5F M (s4G M (spU M n bu) (spMore V sum) (sum - V 10) n) ((spU M n bu), s4L M (spU M n bu) (spMore V sum) (sum - V 10) n) x9).2) - 0)), some (.int (nI (x9 + 1))), some (.int 0)]) dX12_spreads_401 rfl (j_inc1 _) rfl rfl ?_
                    refine j_goto hX (tgt := 317) dX12_spreads_404 (by decide) ?_
                    refine jW.drop (ls' := [some (.ref (ad 0)), some (.int sum), some (.int (spMore V sum)), some (.int (sum - V 10)), some (.int (((s5F M (s4G M (spU M n bu) (spMore V sum) (sum - V 10) n) ((spU M n bu), s4L M (spU M n bu) (spMore V sum) (sum - V 10) n) x9).2) - 0)), some (.int (nI (x9 + 1))), none]) ⟨Or.inr rfl, Or.inr rfl, Or.inr rfl, Or.inr rfl, Or.inr rfl, Or.inr rfl, Or.inl rfl, trivial⟩ ?_
                    have e9 : s5F M (s4G M (spU M n bu) (spMore V sum) (sum - V 10) n) ((spU M n bu), s4L M (spU M n bu) (spMore V sum) (sum - V 10) n) (x9 + 1) = (upd ((s5F M (s4G M (spU M n bu) (spMore V sum) (sum - V 10) n) ((spU M n bu), s4L M (spU M n bu) (spMore V sum) (sum - V 10) n) x9).1) (((M 14) x9).toNatClampNeg) (((s5F M (s4G M (spU M n bu) (spMore V sum) (sum - V 10) n) ((spU M n bu), s4L M (spU M n bu) (spMore V sum) (sum - V 10) n) x9).1 (((M 14) x9).toNatClampNeg)) - ((s4G M (spU M n bu) (spMore V sum) (sum - V 10) n x9) + 0)), ((s5F M (s4G M (spU M n bu) (spMore V sum) (sum - V 10) n) ((spU M n bu), s4L M (spU M n bu) (spMore V sum) (sum - V 10) n) x9).2) - 0) := (if_pos h328)
                    refine jW.locals (ls' := [some (.ref (ad 0)), some (.int sum), some (.int (spMore V sum)), some (.int (sum - V 10)), some (.int ((s5F M (s4G M (spU M n bu) (spMore V sum) (sum - V 10) n) ((spU M n bu), s4L M (spU M n bu) (spMore V sum) (sum - V 10) n) (x9 + 1)).2)), some (.int (nI (x9 + 1))), none]) (by rw [e9]) ?_
                    refine jW.world (ws' := (wM G ad V (sM (sM M 3 ((s5F M (s4G M (spU M n bu) (spMore V sum) (sum - V 10) n) ((spU M n bu), s4L M (spU M n bu) (spMore V sum) (sum - V 10) n) (x9 + 1)).1)) 15 (s4G M (spU M n bu) (spMore V sum) (sum - V 10) n)) t)) (by rw [e9]) ?_
                    exact ihx9 (x9 + 1) (by omega) (by omega)
                  · refine j_aload_n hX dX12_spreads_331 rfl ?_
                    refine j_getf hX (v := .ref (ad 3)) dX12_spreads_332 fX12_spreads_16 0 (wMg0 _ _ _ _ _) rfl ?_
                    refine j_aload_n hX dX12_spreads_335 rfl ?_
                    refine j_getf hX (v := .ref (ad 14)) dX12_spreads_336 fX12_spreads_52 0 (wMg0 _ _ _ _ _) rfl ?_
                    refine j_iload hX dX12_spreads_339 rfl ?_
                    refine j_iald hX (v := (M 14) x9) dX12_spreads_341 14 (wMg14 _ _ _ _ _) (nI_in (by omega) (by decide)) (rdc (by omega)) ?_
                    refine j_iald hX (v := (s5F M (s4G M (spU M n bu) (spMore V sum) (sum - V 10) n) ((spU M n bu), s4L M (spU M n bu) (spMore V sum) (sum - V 10) n) x9).1 (((M 14) x9).toNatClampNeg)) dX12_spreads_342 3 (wMg3 _ _ _ _ _) (hB x9 (by omega)) rfl ?_
                    refine j_if_le hX (tgt := 350) dX12_spreads_343 (by decide) (fun h343 => ?_) (fun h343 => ?_)
                    · refine j_iconst hX (v := 0) (by decide) dX12_spreads_350 ?_
                      refine j_istore hX (ls' := [some (.ref (ad 0)), some (.int sum), some (.int (spMore V sum)), some (.int (sum - V 10)), some (.int ((s5F M (s4G M (spU M n bu) (spMore V sum) (sum - V 10) n) ((spU M n bu), s4L M (spU M n bu) (spMore V sum) (sum - V 10) n) x9).2)), some (.int (nI x9)), some (.int 0)]) dX12_spreads_351 (Nat.le_of_ble_eq_true rfl) rfl rfl ?_
                      refine j_aload_n hX dX12_spreads_353 rfl ?_
                      refine j_getf hX (v := .ref (ad 3)) dX12_spreads_354 fX12_spreads_16 0 (wMg0 _ _ _ _ _) rfl ?_
                      refine j_aload_n hX dX12_spreads_357 rfl ?_
                      refine j_getf hX (v := .ref (ad 14)) dX12_spreads_358 fX12_spreads_52 0 (wMg0 _ _ _ _ _) rfl ?_
                      refine j_iload hX dX12_spreads_361 rfl ?_
                      refine j_iald hX (v := (M 14) x9) dX12_spreads_363 14 (wMg14 _ _ _ _ _) (nI_in (by omega) (by decide)) (rdc (by omega)) ?_
                      refine j_dup2 hX dX12_spreads_364 rfl rfl ?_
                      refine j_iald hX (v := (s5F M (s4G M (spU M n bu) (spMore V sum) (sum - V 10) n) ((spU M n bu), s4L M (spU M n bu) (spMore V sum) (sum - V 10) n) x9).1 (((M 14) x9).toNatClampNeg)) dX12_spreads_365 3 (wMg3 _ _ _ _ _) (hB x9 (by omega)) rfl ?_
                      refine j_aload_n hX dX12_spreads_366 rfl ?_
                      refine j_getf hX (v := .ref (ad 15)) dX12_spreads_367 fX12_spreads_55 0 (wMg0 _ _ _ _ _) rfl ?_
                      refine j_iload hX dX12_spreads_370 rfl ?_
                      refine j_iald hX (v := s4G M (spU M n bu) (spMore V sum) (sum - V 10) n x9) dX12_spreads_372 15 (wMg15 _ _ _ _ _) (nI_in (by omega) (by decide)) (rdc (by omega)) ?_
                      refine j_iload hX dX12_spreads_373 rfl ?_
                      refine j_if_eq_t hX (tgt := 382) dX12_spreads_375 (by decide) (by decide) ?_
                      refine j_iconst hX (v := 0) (by decide) dX12_spreads_382 ?_
                      refine j_iadd hX dX12_spreads_383 ?_
                      refine j_isub hX dX12_spreads_384 ?_
                      refine j_iast hX (ws' := (wM G ad V (sM (sM M 3 (upd ((s5F M (s4G M (spU M n bu) (spMore V sum) (sum - V 10) n) ((spU M n bu), s4L M (spU M n bu) (spMore V sum) (sum - V 10) n) x9).1) (((M 14) x9).toNatClampNeg) (((s5F M (s4G M (spU M n bu) (spMore V sum) (sum - V 10) n) ((spU M n bu), s4L M (spU M n bu) (spMore V sum) (sum - V 10) n) x9).1 (((M 14) x9).toNatClampNeg)) - ((s4G M (spU M n bu) (spMore V sum) (sum - V 10) n x9) + 0)))) 15 (s4G M (spU M n bu) (spMore V sum) (sum - V 10) n)) t)) dX12_spreads_385 3 (wMg3 _ _ _ _ _) (hB x9 (by omega)) rfl ?_
                      refine j_iload hX dX12_spreads_386 rfl ?_
                      refine j_iload hX dX12_spreads_388 rfl ?_
                      refine j_if_eq_t hX (tgt := 397) dX12_spreads_390 (by decide) (by decide) ?_
                      refine j_iconst hX (v := 0) (by decide) dX12_spreads_397 ?_
                      refine j_isub hX dX12_spreads_398 ?_
                      refine j_istore hX (ls' := [some (.ref (ad 0)), some (.int sum), some (.int (spMore V sum)), some (.int (sum - V 10)), some (.int (((s5F M (s4G M (spU M n bu) (spMore V sum) (sum - V 10) n) ((spU M n bu), s4L M (spU M n bu) (spMore V sum) (sum - V 10) n) x9).2) - 0)), some (.int (nI x9)), some (.int 0)]) dX12_spreads_399 (Nat.le_of_ble_eq_true rfl) rfl rfl ?_
                      refine j_iinc hX (v := nI (x9 + 1)) (ls' := [some (.ref (ad 0)), some (.int sum), some (.int (spMore V sum)), some (.int (sum - V 10)), some (.int (((s5F M (s4G M (spU M n bu) (spMore V sum) (sum - V 10) n) ((spU M n bu), s4L M (spU M n bu) (spMore V sum) (sum - V 10) n) x9).2) - 0)), some (.int (nI (x9 + 1))), some (.int 0)]) dX12_spreads_401 rfl (j_inc1 _) rfl rfl ?_
                      refine j_goto hX (tgt := 317) dX12_spreads_404 (by decide) ?_
                      refine jW.drop (ls' := [some (.ref (ad 0)), some (.int sum), some (.int (spMore V sum)), some (.int (sum - V 10)), some (.int (((s5F M (s4G M (spU M n bu) (spMore V sum) (sum - V 10) n) ((spU M n bu), s4L M (spU M n bu) (spMore V sum) (sum - V 10) n) x9).2) - 0)), some (.int (nI (x9 + 1))), none]) ⟨Or.inr rfl, Or.inr rfl, Or.inr rfl, Or.inr rfl, Or.inr rfl, Or.inr rfl, Or.inl rfl, trivial⟩ ?_
                      have e9 : s5F M (s4G M (spU M n bu) (spMore V sum) (sum - V 10) n) ((spU M n bu), s4L M (spU M n bu) (spMore V sum) (sum - V 10) n) (x9 + 1) = (upd ((s5F M (s4G M (spU M n bu) (spMore V sum) (sum - V 10) n) ((spU M n bu), s4L M (spU M n bu) (spMore V sum) (sum - V 10) n) x9).1) (((M 14) x9).toNatClampNeg) (((s5F M (s4G M (spU M n bu) (spMore V sum) (sum - V 10) n) ((spU M n bu), s4L M (spU M n bu) (spMore V sum) (sum - V 10) n) x9).1 (((M 14) x9).toNatClampNeg)) - ((s4G M (spU M n bu) (spMore V sum) (sum - V 10) n x9) + 0)), ((s5F M (s4G M (spU M n bu) (spMore V sum) (sum - V 10) n) ((spU M n bu), s4L M (spU M n bu) (spMore V sum) (sum - V 10) n) x9).2) - 0) := ((if_neg h328).trans (if_pos h343))
                      refine jW.locals (ls' := [some (.ref (ad 0)), some (.int sum), some (.int (spMore V sum)), some (.int (sum - V 10)), some (.int ((s5F M (s4G M (spU M n bu) (spMore V sum) (sum - V 10) n) ((spU M n bu), s4L M (spU M n bu) (spMore V sum) (sum - V 10) n) (x9 + 1)).2)), some (.int (nI (x9 + 1))), none]) (by rw [e9]) ?_
                      refine jW.world (ws' := (wM G ad V (sM (sM M 3 ((s5F M (s4G M (spU M n bu) (spMore V sum) (sum - V 10) n) ((spU M n bu), s4L M (spU M n bu) (spMore V sum) (sum - V 10) n) (x9 + 1)).1)) 15 (s4G M (spU M n bu) (spMore V sum) (sum - V 10) n)) t)) (by rw [e9]) ?_
                      exact ihx9 (x9 + 1) (by omega) (by omega)
                    · refine j_iconst hX (v := 1) (by decide) dX12_spreads_346 ?_
                      refine j_goto hX (tgt := 351) dX12_spreads_347 (by decide) ?_
                      refine j_istore hX (ls' := [some (.ref (ad 0)), some (.int sum), some (.int (spMore V sum)), some (.int (sum - V 10)), some (.int ((s5F M (s4G M (spU M n bu) (spMore V sum) (sum - V 10) n) ((spU M n bu), s4L M (spU M n bu) (spMore V sum) (sum - V 10) n) x9).2)), some (.int (nI x9)), some (.int 1)]) dX12_spreads_351 (Nat.le_of_ble_eq_true rfl) rfl rfl ?_
                      refine j_aload_n hX dX12_spreads_353 rfl ?_
                      refine j_getf hX (v := .ref (ad 3)) dX12_spreads_354 fX12_spreads_16 0 (wMg0 _ _ _ _ _) rfl ?_
                      refine j_aload_n hX dX12_spreads_357 rfl ?_
                      refine j_getf hX (v := .ref (ad 14)) dX12_spreads_358 fX12_spreads_52 0 (wMg0 _ _ _ _ _) rfl ?_
                      refine j_iload hX dX12_spreads_361 rfl ?_
                      refine j_iald hX (v := (M 14) x9) dX12_spreads_363 14 (wMg14 _ _ _ _ _) (nI_in (by omega) (by decide)) (rdc (by omega)) ?_
                      refine j_dup2 hX dX12_spreads_364 rfl rfl ?_
                      refine j_iald hX (v := (s5F M (s4G M (spU M n bu) (spMore V sum) (sum - V 10) n) ((spU M n bu), s4L M (spU M n bu) (spMore V sum) (sum - V 10) n) x9).1 (((M 14) x9).toNatClampNeg)) dX12_spreads_365 3 (wMg3 _ _ _ _ _) (hB x9 (by omega)) rfl ?_
                      refine j_aload_n hX dX12_spreads_366 rfl ?_
                      refine j_getf hX (v := .ref (ad 15)) dX12_spreads_367 fX12_spreads_55 0 (wMg0 _ _ _ _ _) rfl ?_
                      refine j_iload hX dX12_spreads_370 rfl ?_
                      refine j_iald hX (v := s4G M (spU M n bu) (spMore V sum) (sum - V 10) n x9) dX12_spreads_372 15 (wMg15 _ _ _ _ _) (nI_in (by omega) (by decide)) (rdc (by omega)) ?_
                      refine j_iload hX dX12_spreads_373 rfl ?_
                      refine j_if_eq_f hX (tgt := 382) dX12_spreads_375 (by decide) (by decide) ?_
                      refine j_iconst hX (v := 1) (by decide) dX12_spreads_378 ?_
                      refine j_goto hX (tgt := 383) dX12_spreads_379 (by decide) ?_
                      refine j_iadd hX dX12_spreads_383 ?_
                      refine j_isub hX dX12_spreads_384 ?_
                      refine j_iast hX (ws' := (wM G ad V (sM (sM M 3 (upd ((s5F M (s4G M (spU M n bu) (spMore V sum) (sum - V 10) n) ((spU M n bu), s4L M (spU M n bu) (spMore V sum) (sum - V 10) n) x9).1) (((M 14) x9).toNatClampNeg) (((s5F M (s4G M (spU M n bu) (spMore V sum) (sum - V 10) n) ((spU M n bu), s4L M (spU M n bu) (spMore V sum) (sum - V 10) n) x9).1 (((M 14) x9).toNatClampNeg)) - ((s4G M (spU M n bu) (spMore V sum) (sum - V 10) n x9) + 1)))) 15 (s4G M (spU M n bu) (spMore V sum) (sum - V 10) n)) t)) dX12_spreads_385 3 (wMg3 _ _ _ _ _) (hB x9 (by omega)) rfl ?_
                      refine j_iload hX dX12_spreads_386 rfl ?_
                      refine j_iload hX dX12_spreads_388 rfl ?_
                      refine j_if_eq_f hX (tgt := 397) dX12_spreads_390 (by decide) (by decide) ?_
                      refine j_iconst hX (v := 1) (by decide) dX12_spreads_393 ?_
                      refine j_goto hX (tgt := 398) dX12_spreads_394 (by decide) ?_
                      refine j_isub hX dX12_spreads_398 ?_
                      refine j_istore hX (ls' := [some (.ref (ad 0)), some (.int sum), some (.int (spMore V sum)), some (.int (sum - V 10)), some (.int (((s5F M (s4G M (spU M n bu) (spMore V sum) (sum - V 10) n) ((spU M n bu), s4L M (spU M n bu) (spMore V sum) (sum - V 10) n) x9).2) - 1)), some (.int (nI x9)), some (.int 1)]) dX12_spreads_399 (Nat.le_of_ble_eq_true rfl) rfl rfl ?_
                      refine j_iinc hX (v := nI (x9 + 1)) (ls' := [some (.ref (ad 0)), some (.int sum), some (.int (spMore V sum)), some (.int (sum - V 10)), some (.int (((s5F M (s4G M (spU M n bu) (spMore V sum) (sum - V 10) n) ((spU M n bu), s4L M (spU M n bu) (spMore V sum) (sum - V 10) n) x9).2) - 1)), some (.int (nI (x9 + 1))), some (.int 1)]) dX12_spreads_401 rfl (j_inc1 _) rfl rfl ?_
                      refine j_goto hX (tgt := 317) dX12_spreads_404 (by decide) ?_
                      refine jW.drop (ls' := [some (.ref (ad 0)), some (.int sum), some (.int (spMore V sum)), some (.int (sum - V 10)), some (.int (((s5F M (s4G M (spU M n bu) (spMore V sum) (sum - V 10) n) ((spU M n bu), s4L M (spU M n bu) (spMore V sum) (sum - V 10) n) x9).2) - 1)), some (.int (nI (x9 + 1))), none]) ⟨Or.inr rfl, Or.inr rfl, Or.inr rfl, Or.inr rfl, Or.inr rfl, Or.inr rfl, Or.inl rfl, trivial⟩ ?_
                      have e9 : s5F M (s4G M (spU M n bu) (spMore V sum) (sum - V 10) n) ((spU M n bu), s4L M (spU M n bu) (spMore V sum) (sum - V 10) n) (x9 + 1) = (upd ((s5F M (s4G M (spU M n bu) (spMore V sum) (sum - V 10) n) ((spU M n bu), s4L M (spU M n bu) (spMore V sum) (sum - V 10) n) x9).1) (((M 14) x9).toNatClampNeg) (((s5F M (s4G M (spU M n bu) (spMore V sum) (sum - V 10) n) ((spU M n bu), s4L M (spU M n bu) (spMore V sum) (sum - V 10) n) x9).1 (((M 14) x9).toNatClampNeg)) - ((s4G M (spU M n bu) (spMore V sum) (sum - V 10) n x9) + 1)), ((s5F M (s4G M (spU M n bu) (spMore V sum) (sum - V 10) n) ((spU M n bu), s4L M (spU M n bu) (spMore V sum) (sum - V 10) n) x9).2) - 1) := ((if_neg h328).trans (if_neg h343))
                      refine jW.locals (ls' := [some (.ref (ad 0)), some (.int sum), some (.int (spMore V sum)), some (.int (sum - V 10)), some (.int ((s5F M (s4G M (spU M n bu) (spMore V sum) (sum - V 10) n) ((spU M n bu), s4L M (spU M n bu) (spMore V sum) (sum - V 10) n) (x9 + 1)).2)), some (.int (nI (x9 + 1))), none]) (by rw [e9]) ?_
                      refine jW.world (ws' := (wM G ad V (sM (sM M 3 ((s5F M (s4G M (spU M n bu) (spMore V sum) (sum - V 10) n) ((spU M n bu), s4L M (spU M n bu) (spMore V sum) (sum - V 10) n) (x9 + 1)).1)) 15 (s4G M (spU M n bu) (spMore V sum) (sum - V 10) n)) t)) (by rw [e9]) ?_
                      exact ihx9 (x9 + 1) (by omega) (by omega)
              refine jW.world (ws' := (wM G ad V (sM (sM M 3 ((s5F M (s4G M (spU M n bu) (spMore V sum) (sum - V 10) n) ((spU M n bu), s4L M (spU M n bu) (spMore V sum) (sum - V 10) n) 0).1)) 15 (s4G M (spU M n bu) (spMore V sum) (sum - V 10) n)) t)) (by rw [hind9]; rfl) ?_
              refine jW.locals (ls' := [some (.ref (ad 0)), some (.int sum), some (.int (spMore V sum)), some (.int (sum - V 10)), some (.int ((s5F M (s4G M (spU M n bu) (spMore V sum) (sum - V 10) n) ((spU M n bu), s4L M (spU M n bu) (spMore V sum) (sum - V 10) n) 0).2)), some (.int (nI 0)), none]) (by rw [hind9]; rfl) ?_
              exact L317 n 0 (Nat.le_refl _) (by omega)
            | succ zd9 ihd9 =>
              intro d9 h0d9 hid9
              have hind9 : d9 < n := by omega
              refine j_iload hX dX12_spreads_256 rfl ?_
              refine j_aload_n hX dX12_spreads_258 rfl ?_
              refine j_getf hX (v := .int (V 5)) dX12_spreads_259 fX12_spreads_93 0 (wMg0 _ _ _ _ _) rfl ?_
              refine jW.top hn5 ?_
              refine j_icmp_ge_f hX (tgt := 314) dX12_spreads_262 (by decide) (nI_ge hind9 (by omega)) ?_
              refine j_aload_n hX dX12_spreads_265 rfl ?_
              refine j_getf hX (v := .ref (ad 15)) dX12_spreads_266 fX12_spreads_55 0 (wMg0 _ _ _ _ _) rfl ?_
              refine j_iload hX dX12_spreads_269 rfl ?_
              refine j_iload_n hX dX12_spreads_271 rfl ?_
              refine j_if_ne hX (tgt := 279) dX12_spreads_272 (by decide) (fun h272 => ?_) (fun h272 => ?_)
              · refine j_iload_n hX dX12_spreads_279 rfl ?_
                refine j_aload_n hX dX12_spreads_280 rfl ?_
                refine j_getf hX (v := .ref (ad 3)) dX12_spreads_281 fX12_spreads_16 0 (wMg0 _ _ _ _ _) rfl ?_
                refine j_aload_n hX dX12_spreads_284 rfl ?_
                refine j_getf hX (v := .ref (ad 14)) dX12_spreads_285 fX12_spreads_52 0 (wMg0 _ _ _ _ _) rfl ?_
                refine j_iload hX dX12_spreads_288 rfl ?_
                refine j_iald hX (v := (M 14) d9) dX12_spreads_290 14 (wMg14 _ _ _ _ _) (nI_in (by omega) (by decide)) (rdc (by omega)) ?_
                refine j_iald hX (v := spU M n bu (((M 14) d9).toNatClampNeg)) dX12_spreads_291 3 (wMg3 _ _ _ _ _) (hB d9 (by omega)) rfl ?_
                refine j_imul hX dX12_spreads_292 ?_
                refine j_iload_n hX dX12_spreads_293 rfl ?_
                refine j_idiv hX dX12_spreads_294 h272 ?_
                refine jW.top (y := s4X M (spU M n bu) (spMore V sum) (sum - V 10) d9) (if_neg h272 : s4X M (spU M n bu) (spMore V sum) (sum - V 10) d9 = ((spMore V sum) * (spU M n bu (((M 14) d9).toNatClampNeg))) / (sum - V 10)).symm ?_
                refine j_iast hX (ws' := (wM G ad V (sM (sM M 3 (spU M n bu)) 15 (upd (s4G M (spU M n bu) (spMore V sum) (sum - V 10) d9) d9 (s4X M (spU M n bu) (spMore V sum) (sum - V 10) d9))) t)) dX12_spreads_295 15 (wMg15 _ _ _ _ _) (nI_in (by omega) (by decide)) (by rw [nI_clamp (by omega)]; exact (wMo15 _ _ _ _ _ _ _)) ?_
                refine j_iload hX dX12_spreads_296 rfl ?_
                refine j_aload_n hX dX12_spreads_298 rfl ?_
                refine j_getf hX (v := .ref (ad 15)) dX12_spreads_299 fX12_spreads_55 0 (wMg0 _ _ _ _ _) rfl ?_
                refine j_iload hX dX12_spreads_302 rfl ?_
                refine j_iald hX (v := upd (s4G M (spU M n bu) (spMore V sum) (sum - V 10) d9) d9 (s4X M (spU M n bu) (spMore V sum) (sum - V 10) d9) d9) dX12_spreads_304 15 (wMg15 _ _ _ _ _) (nI_in (by omega) (by decide)) (rdc (by omega)) ?_
                refine jW.top (upd_self9 _ _ _) ?_
                refine j_isub hX dX12_spreads_305 ?_
                refine j_istore hX (ls' := [some (.ref (ad 0)), some (.int sum), some (.int (spMore V sum)), some (.int (sum - V 10)), some (.int ((s4L M (spU M n bu) (spMore V sum) (sum - V 10) d9) - (s4X M (spU M n bu) (spMore V sum) (sum - V 10) d9))), some (.int (nI d9)), none]) dX12_spreads_306 (Nat.le_of_ble_eq_true rfl) rfl rfl ?_
                refine j_iinc hX (v := nI (d9 + 1)) (ls' := [some (.ref (ad 0)), some (.int sum), some (.int (spMore V sum)), some (.int (sum - V 10)), some (.int ((s4L M (spU M n bu) (spMore V sum) (sum - V 10) d9) - (s4X M (spU M n bu) (spMore V sum) (sum - V 10) d9))), some (.int (nI (d9 + 1))), none]) dX12_spreads_308 rfl (j_inc1 _) rfl rfl ?_
                refine j_goto hX (tgt := 256) dX12_spreads_311 (by decide) ?_
                exact ihd9 (d9 + 1) (by omega) (by omega)
              · refine j_iconst hX (v := 0) (by decide) dX12_spreads_275 ?_
                refine j_goto hX (tgt := 295) dX12_spreads_276 (by decide) ?_
                refine jW.top (y := s4X M (spU M n bu) (spMore V sum) (sum - V 10) d9) (if_pos h272 : s4X M (spU M n bu) (spMore V sum) (sum - V 10) d9 = 0).symm ?_
                refine j_iast hX (ws' := (wM G ad V (sM (sM M 3 (spU M n bu)) 15 (upd (s4G M (spU M n bu) (spMore V sum) (sum - V 10) d9) d9 (s4X M (spU M n bu) (spMore V sum) (sum - V 10) d9))) t)) dX12_spreads_295 15 (wMg15 _ _ _ _ _) (nI_in (by omega) (by decide)) (by rw [nI_clamp (by omega)]; exact (wMo15 _ _ _ _ _ _ _)) ?_
                refine j_iload hX dX12_spreads_296 rfl ?_
                refine j_aload_n hX dX12_spreads_298 rfl ?_
                refine j_getf hX (v := .ref (ad 15)) dX12_spreads_299 fX12_spreads_55 0 (wMg0 _ _ _ _ _) rfl ?_
                refine j_iload hX dX12_spreads_302 rfl ?_
                refine j_iald hX (v := upd (s4G M (spU M n bu) (spMore V sum) (sum - V 10) d9) d9 (s4X M (spU M n bu) (spMore V sum) (sum - V 10) d9) d9) dX12_spreads_304 15 (wMg15 _ _ _ _ _) (nI_in (by omega) (by decide)) (rdc (by omega)) ?_
                refine jW.top (upd_self9 _ _ _) ?_
                refine j_isub hX dX12_spreads_305 ?_
                refine j_istore hX (ls' := [some (.ref (ad 0)), some (.int sum), some (.int (spMore V sum)), some (.int (sum - V 10)), some (.int ((s4L M (spU M n bu) (spMore V sum) (sum - V 10) d9) - (s4X M (spU M n bu) (spMore V sum) (sum - V 10) d9))), some (.int (nI d9)), none]) dX12_spreads_306 (Nat.le_of_ble_eq_true rfl) rfl rfl ?_
                refine j_iinc hX (v := nI (d9 + 1)) (ls' := [some (.ref (ad 0)), some (.int sum), some (.int (spMore V sum)), some (.int (sum - V 10)), some (.int ((s4L M (spU M n bu) (spMore V sum) (sum - V 10) d9) - (s4X M (spU M n bu) (spMore V sum) (sum - V 10) d9))), some (.int (nI (d9 + 1))), none]) dX12_spreads_308 rfl (j_inc1 _) rfl rfl ?_
                refine j_goto hX (tgt := 256) dX12_spreads_311 (by decide) ?_
                exact ihd9 (d9 + 1) (by omega) (by omega)
          refine jW.world (ws' := (wM G ad V (sM (sM M 3 (spU M n bu)) 15 (s4G M (spU M n bu) (spMore V sum) (sum - V 10) 0)) t)) (by rw [show s4G M (spU M n bu) (spMore V sum) (sum - V 10) 0 = M 15 from rfl, show M 15 = (sM M 3 (spU M n bu)) 15 from rfl, sM_eq]) ?_
          refine jW.locals (ls' := [some (.ref (ad 0)), some (.int sum), some (.int (spMore V sum)), some (.int (sum - V 10)), some (.int (s4L M (spU M n bu) (spMore V sum) (sum - V 10) 0)), some (.int (nI 0)), none]) rfl ?_
          exact L256 n 0 (Nat.le_refl _) (by omega)
        | succ zu ihu =>
          intro u h0u hiu
          have hinu : u < bu := by omega
          refine j_iload_n hX dX12_spreads_34 rfl ?_
          refine j_aload_n hX dX12_spreads_35 rfl ?_
          refine j_getf hX (v := .int (V 9)) dX12_spreads_36 fX12_spreads_178 0 (wMg0 _ _ _ _ _) rfl ?_
          refine jW.top hbu ?_
          refine j_icmp_ge_f hX (tgt := 227) dX12_spreads_39 (by decide) (nI_ge hinu (by omega)) ?_
          refine j_iconst hX (v := 0) (by decide) dX12_spreads_42 ?_
          refine j_istore_n hX (ls' := [some (.ref (ad 0)), some (.int sum), some (.int (nI u)), some (.int 0), none, none, none]) dX12_spreads_43 (Nat.le_of_ble_eq_true rfl) rfl rfl ?_
          refine j_iconst hX (v := 0) (by decide) dX12_spreads_44 ?_
          refine j_istore hX (ls' := [some (.ref (ad 0)), some (.int sum), some (.int (nI u)), some (.int 0), some (.int 0), none, none]) dX12_spreads_45 (Nat.le_of_ble_eq_true rfl) rfl rfl ?_
          have L47 : ∀ za a : Nat, 0 ≤ a → a + za = n → jW G X 0 0 47 [some (.ref (ad 0)), some (.int sum), some (.int (nI u)), some (.int (alF M u a)), some (.int (nI a)), none, none] [] (wM G ad V (sM M 3 (spU M n u)) t) := by
            intro za
            induction za with
            | zero =>
              intro a h0a hia
              have hina : a = n := by omega
              refine j_iload hX dX12_spreads_47 rfl ?_
              refine j_aload_n hX dX12_spreads_49 rfl ?_
              refine j_getf hX (v := .int (V 5)) dX12_spreads_50 fX12_spreads_93 0 (wMg0 _ _ _ _ _) rfl ?_
              refine jW.top hn5 ?_
              refine j_icmp_ge_t hX (tgt := 86) dX12_spreads_53 (by decide) (by rw [hina]; exact nI_le (Nat.le_refl _) (by omega)) ?_
              refine jW.drop (ls' := [some (.ref (ad 0)), some (.int sum), some (.int (nI u)), some (.int (alF M u a)), none, none, none]) ⟨Or.inr rfl, Or.inr rfl, Or.inr rfl, Or.inr rfl, Or.inl rfl, Or.inr rfl, Or.inr rfl, trivial⟩ ?_
              refine jW.locals (ls' := [some (.ref (ad 0)), some (.int sum), some (.int (nI u)), some (.int (alF M u n)), none, none, none]) (by rw [hina]) ?_
              refine j_aload_n hX dX12_spreads_86 rfl ?_
              refine j_getf hX (v := .ref (ad 24)) dX12_spreads_87 fX12_spreads_82 0 (wMg0 _ _ _ _ _) rfl ?_
              refine j_iload_n hX dX12_spreads_90 rfl ?_
              refine j_iald hX (v := (M 24) u) dX12_spreads_91 24 (wMg24 _ _ _ _ _) (nI_in (by omega) (by decide)) (rdc (by omega)) ?_
              refine j_istore hX (ls' := [some (.ref (ad 0)), some (.int sum), some (.int (nI u)), some (.int (alF M u n)), some (.int ((M 24) u)), none, none]) dX12_spreads_92 (Nat.le_of_ble_eq_true rfl) rfl rfl ?_
              refine j_iconst hX (v := 0) (by decide) dX12_spreads_94 ?_
              refine j_istore hX (ls' := [some (.ref (ad 0)), some (.int sum), some (.int (nI u)), some (.int (alF M u n)), some (.int ((M 24) u)), some (.int 0), none]) dX12_spreads_95 (Nat.le_of_ble_eq_true rfl) rfl rfl ?_
              have L97 : ∀ zb b : Nat, 0 ≤ b → b + zb = n → jW G X 0 0 97 [some (.ref (ad 0)), some (.int sum), some (.int (nI u)), some (.int (alF M u n)), some (.int (s2L M u (alF M u n) b)), some (.int (nI b)), none] [] (wM G ad V (sM M 3 (s2F M u (alF M u n) (spU M n u) b)) t) := by
                intro zb
                induction zb with
                | zero =>
                  intro b h0b hib
                  have hinb : b = n := by omega
                  refine j_iload hX dX12_spreads_97 rfl ?_
                  refine j_aload_n hX dX12_spreads_99 rfl ?_
                  refine j_getf hX (v := .int (V 5)) dX12_spreads_100 fX12_spreads_93 0 (wMg0 _ _ _ _ _) rfl ?_
                  refine jW.top hn5 ?_
                  refine j_icmp_ge_t hX (tgt := 168) dX12_spreads_103 (by decide) (by rw [hinb]; exact nI_le (Nat.le_refl _) (by omega)) ?_
                  refine j_iconst hX (v := 0) (by decide) dX12_spreads_168 ?_
                  refine j_istore hX (ls' := [some (.ref (ad 0)), some (.int sum), some (.int (nI u)), some (.int (alF M u n)), some (.int (s2L M u (alF M u n) b)), some (.int 0), none]) dX12_spreads_169 (Nat.le_of_ble_eq_true rfl) rfl rfl ?_
                  have L171 : ∀ zc9 c9 : Nat, 0 ≤ c9 → c9 + zc9 = n → jW G X 0 0 171 [some (.ref (ad 0)), some (.int sum), some (.int (nI u)), some (.int (alF M u n)), some (.int ((s3F M u (s2F M u (alF M u n) (spU M n u) n, s2L M u (alF M u n) n) c9).2)), some (.int (nI c9)), none] [] (wM G ad V (sM M 3 ((s3F M u (s2F M u (alF M u n) (spU M n u) n, s2L M u (alF M u n) n) c9).1)) t) := by
                    intro zc9
                    induction zc9 with
                    | zero =>
                      intro c9 h0c9 hic9
                      have hinc9 : c9 = n := by omega
                      refine j_iload hX dX12_spreads_171 rfl ?_
                      refine j_aload_n hX dX12_spreads_173 rfl ?_
                      refine j_getf hX (v := .int (V 5)) dX12_spreads_174 fX12_spreads_93 0 (wMg0 _ _ _ _ _) rfl ?_
                      refine jW.top hn5 ?_
                      refine j_icmp_ge_t hX (tgt := 221) dX12_spreads_177 (by decide) (by rw [hinc9]; exact nI_le (Nat.le_refl _) (by omega)) ?_
                      refine jW.drop (ls' := [some (.ref (ad 0)), some (.int sum), some (.int (nI u)), none, none, none, none]) ⟨Or.inr rfl, Or.inr rfl, Or.inr rfl, Or.inl rfl, Or.inl rfl, Or.inl rfl, Or.inr rfl, trivial⟩ ?_
                      refine jW.world (ws' := (wM G ad V (sM M 3 (spU M n (u + 1))) t)) (by rw [hinc9]; rfl) ?_
                      refine j_iinc hX (v := nI (u + 1)) (ls' := [some (.ref (ad 0)), some (.int sum), some (.int (nI (u + 1))), none, none, none, none]) dX12_spreads_221 rfl (j_inc1 _) rfl rfl ?_
                      refine j_goto hX (tgt := 34) dX12_spreads_224 (by decide) ?_
                      exact ihu (u + 1) (by omega) (by omega)
                    | succ zc9 ihc9 =>
                      intro c9 h0c9 hic9
                      have hinc9 : c9 < n := by omega
                      refine j_iload hX dX12_spreads_171 rfl ?_
                      refine j_aload_n hX dX12_spreads_173 rfl ?_
                      refine j_getf hX (v := .int (V 5)) dX12_spreads_174 fX12_spreads_93 0 (wMg0 _ _ _ _ _) rfl ?_
                      refine jW.top hn5 ?_
                      refine j_icmp_ge_f hX (tgt := 221) dX12_spreads_177 (by decide) (nI_ge hinc9 (by omega)) ?_
                      refine j_iload hX dX12_spreads_180 rfl ?_
                      refine j_if_le hX (tgt := 221) dX12_spreads_182 (by decide) (fun h182 => ?_) (fun h182 => ?_)
                      · refine jW.drop (ls' := [some (.ref (ad 0)), some (.int sum), some (.int (nI u)), none, none, none, none]) ⟨Or.inr rfl, Or.inr rfl, Or.inr rfl, Or.inl rfl, Or.inl rfl, Or.inl rfl, Or.inr rfl, trivial⟩ ?_
                        refine jW.world (ws' := (wM G ad V (sM M 3 (spU M n (u + 1))) t)) (by rw [show spU M n (u + 1) = (s3F M u (s2F M u (alF M u n) (spU M n u) n, s2L M u (alF M u n) n) c9).1 from congrArg Prod.fst ((congrArg (s3F M u (s2F M u (alF M u n) (spU M n u) n, s2L M u (alF M u n) n)) (show n = c9 + (n - c9) by omega)).trans (s3_stop h182))]) ?_
                        refine j_iinc hX (v := nI (u + 1)) (ls' := [some (.ref (ad 0)), some (.int sum), some (.int (nI (u + 1))), none, none, none, none]) dX12_spreads_221 rfl (j_inc1 _) rfl rfl ?_
                        refine j_goto hX (tgt := 34) dX12_spreads_224 (by decide) ?_
                        exact ihu (u + 1) (by omega) (by omega)
                      · refine j_aload_n hX dX12_spreads_185 rfl ?_
                        refine j_getf hX (v := .ref (ad 21)) dX12_spreads_186 fX12_spreads_73 0 (wMg0 _ _ _ _ _) rfl ?_
                        refine j_iload hX dX12_spreads_189 rfl ?_
                        refine j_iald hX (v := (M 21) c9) dX12_spreads_191 21 (wMg21 _ _ _ _ _) (nI_in (by omega) (by decide)) (rdc (by omega)) ?_
                        refine j_iload_n hX dX12_spreads_192 rfl ?_
                        refine j_icmp_ne hX (tgt := 215) dX12_spreads_193 (by decide) (fun h193 => ?_) (fun h193 => ?_)
                        · refine j_iinc hX (v := nI (c9 + 1)) (ls' := [some (.ref (ad 0)), some (.int sum), some (.int (nI u)), some (.int (alF M u n)), some (.int ((s3F M u (s2F M u (alF M u n) (spU M n u) n, s2L M u (alF M u n) n) c9).2)), some (.int (nI (c9 + 1))), none]) dX12_spreads_215 rfl (j_inc1 _) rfl rfl ?_
                          refine j_goto hX (tgt := 171) dX12_spreads_218 (by decide) ?_
                          have e9 : s3F M u (s2F M u (alF M u n) (spU M n u) n, s2L M u (alF M u n) n) (c9 + 1) = s3F M u (s2F M u (alF M u n) (spU M n u) n, s2L M u (alF M u n) n) c9 := ((if_neg h182).trans (if_neg h193))
                          refine jW.locals (ls' := [some (.ref (ad 0)), some (.int sum), some (.int (nI u)), some (.int (alF M u n)), some (.int ((s3F M u (s2F M u (alF M u n) (spU M n u) n, s2L M u (alF M u n) n) (c9 + 1)).2)), some (.int (nI (c9 + 1))), none]) (by rw [e9]) ?_
                          refine jW.world (ws' := (wM G ad V (sM M 3 ((s3F M u (s2F M u (alF M u n) (spU M n u) n, s2L M u (alF M u n) n) (c9 + 1)).1)) t)) (by rw [e9]) ?_
                          exact ihc9 (c9 + 1) (by omega) (by omega)
                        · refine j_aload_n hX dX12_spreads_196 rfl ?_
                          refine j_getf hX (v := .ref (ad 3)) dX12_spreads_197 fX12_spreads_16 0 (wMg0 _ _ _ _ _) rfl ?_
                          refine j_aload_n hX dX12_spreads_200 rfl ?_
                          refine j_getf hX (v := .ref (ad 14)) dX12_spreads_201 fX12_spreads_52 0 (wMg0 _ _ _ _ _) rfl ?_
                          refine j_iload hX dX12_spreads_204 rfl ?_
                          refine j_iald hX (v := (M 14) c9) dX12_spreads_206 14 (wMg14 _ _ _ _ _) (nI_in (by omega) (by decide)) (rdc (by omega)) ?_
                          refine j_dup2 hX dX12_spreads_207 rfl rfl ?_
                          refine j_iald hX (v := (s3F M u (s2F M u (alF M u n) (spU M n u) n, s2L M u (alF M u n) n) c9).1 (((M 14) c9).toNatClampNeg)) dX12_spreads_208 3 (wMg3 _ _ _ _ _) (hB c9 (by omega)) rfl ?_
                          refine j_iconst hX (v := 1) (by decide) dX12_spreads_209 ?_
                          refine j_isub hX dX12_spreads_210 ?_
                          refine j_iast hX (ws' := (wM G ad V (sM M 3 (upd ((s3F M u (s2F M u (alF M u n) (spU M n u) n, s2L M u (alF M u n) n) c9).1) (((M 14) c9).toNatClampNeg) (((s3F M u (s2F M u (alF M u n) (spU M n u) n, s2L M u (alF M u n) n) c9).1 (((M 14) c9).toNatClampNeg)) - 1))) t)) dX12_spreads_211 3 (wMg3 _ _ _ _ _) (hB c9 (by omega)) (wMo3 _ _ _ _ _ _ _) ?_
                          refine j_iinc hX (v := ((s3F M u (s2F M u (alF M u n) (spU M n u) n, s2L M u (alF M u n) n) c9).2) - 1) (ls' := [some (.ref (ad 0)), some (.int sum), some (.int (nI u)), some (.int (alF M u n)), some (.int (((s3F M u (s2F M u (alF M u n) (spU M n u) n, s2L M u (alF M u n) n) c9).2) - 1)), some (.int (nI c9)), none]) dX12_spreads_212 rfl (addm1 _) rfl rfl ?_
                          refine j_iinc hX (v := nI (c9 + 1)) (ls' := [some (.ref (ad 0)), some (.int sum), some (.int (nI u)), some (.int (alF M u n)), some (.int (((s3F M u (s2F M u (alF M u n) (spU M n u) n, s2L M u (alF M u n) n) c9).2) - 1)), some (.int (nI (c9 + 1))), none]) dX12_spreads_215 rfl (j_inc1 _) rfl rfl ?_
                          refine j_goto hX (tgt := 171) dX12_spreads_218 (by decide) ?_
                          have e9 : s3F M u (s2F M u (alF M u n) (spU M n u) n, s2L M u (alF M u n) n) (c9 + 1) = (upd ((s3F M u (s2F M u (alF M u n) (spU M n u) n, s2L M u (alF M u n) n) c9).1) (((M 14) c9).toNatClampNeg) (((s3F M u (s2F M u (alF M u n) (spU M n u) n, s2L M u (alF M u n) n) c9).1 (((M 14) c9).toNatClampNeg)) - 1), ((s3F M u (s2F M u (alF M u n) (spU M n u) n, s2L M u (alF M u n) n) c9).2) - 1) := ((if_neg h182).trans (if_pos h193))
                          refine jW.locals (ls' := [some (.ref (ad 0)), some (.int sum), some (.int (nI u)), some (.int (alF M u n)), some (.int ((s3F M u (s2F M u (alF M u n) (spU M n u) n, s2L M u (alF M u n) n) (c9 + 1)).2)), some (.int (nI (c9 + 1))), none]) (by rw [e9]) ?_
                          refine jW.world (ws' := (wM G ad V (sM M 3 ((s3F M u (s2F M u (alF M u n) (spU M n u) n, s2L M u (alF M u n) n) (c9 + 1)).1)) t)) (by rw [e9]) ?_
                          exact ihc9 (c9 + 1) (by omega) (by omega)
                  refine jW.world (ws' := (wM G ad V (sM M 3 ((s3F M u (s2F M u (alF M u n) (spU M n u) n, s2L M u (alF M u n) n) 0).1)) t)) (by rw [hinb]; rfl) ?_
                  refine jW.locals (ls' := [some (.ref (ad 0)), some (.int sum), some (.int (nI u)), some (.int (alF M u n)), some (.int ((s3F M u (s2F M u (alF M u n) (spU M n u) n, s2L M u (alF M u n) n) 0).2)), some (.int (nI 0)), none]) (by rw [hinb]; rfl) ?_
                  exact L171 n 0 (Nat.le_refl _) (by omega)
                | succ zb ihb =>
                  intro b h0b hib
                  have hinb : b < n := by omega
                  refine j_iload hX dX12_spreads_97 rfl ?_
                  refine j_aload_n hX dX12_spreads_99 rfl ?_
                  refine j_getf hX (v := .int (V 5)) dX12_spreads_100 fX12_spreads_93 0 (wMg0 _ _ _ _ _) rfl ?_
                  refine jW.top hn5 ?_
                  refine j_icmp_ge_f hX (tgt := 168) dX12_spreads_103 (by decide) (nI_ge hinb (by omega)) ?_
                  refine j_aload_n hX dX12_spreads_106 rfl ?_
                  refine j_getf hX (v := .ref (ad 21)) dX12_spreads_107 fX12_spreads_73 0 (wMg0 _ _ _ _ _) rfl ?_
                  refine j_iload hX dX12_spreads_110 rfl ?_
                  refine j_iald hX (v := (M 21) b) dX12_spreads_112 21 (wMg21 _ _ _ _ _) (nI_in (by omega) (by decide)) (rdc (by omega)) ?_
                  refine j_iload_n hX dX12_spreads_113 rfl ?_
                  refine j_icmp_ne hX (tgt := 135) dX12_spreads_114 (by decide) (fun h114 => ?_) (fun h114 => ?_)
                  · refine j_iconst hX (v := 0) (by decide) dX12_spreads_135 ?_
                    refine j_istore hX (ls' := [some (.ref (ad 0)), some (.int sum), some (.int (nI u)), some (.int (alF M u n)), some (.int (s2L M u (alF M u n) b)), some (.int (nI b)), some (.int 0)]) dX12_spreads_136 (Nat.le_of_ble_eq_true rfl) rfl rfl ?_
                    refine j_aload_n hX dX12_spreads_138 rfl ?_
                    refine j_getf hX (v := .ref (ad 3)) dX12_spreads_139 fX12_spreads_16 0 (wMg0 _ _ _ _ _) rfl ?_
                    refine j_aload_n hX dX12_spreads_142 rfl ?_
                    refine j_getf hX (v := .ref (ad 14)) dX12_spreads_143 fX12_spreads_52 0 (wMg0 _ _ _ _ _) rfl ?_
                    refine j_iload hX dX12_spreads_146 rfl ?_
                    refine j_iald hX (v := (M 14) b) dX12_spreads_148 14 (wMg14 _ _ _ _ _) (nI_in (by omega) (by decide)) (rdc (by omega)) ?_
                    refine j_dup2 hX dX12_spreads_149 rfl rfl ?_
                    refine j_iald hX (v := s2F M u (alF M u n) (spU M n u) b (((M 14) b).toNatClampNeg)) dX12_spreads_150 3 (wMg3 _ _ _ _ _) (hB b (by omega)) rfl ?_
                    refine j_iload hX dX12_spreads_151 rfl ?_
                    refine j_isub hX dX12_spreads_153 ?_
                    refine j_iast hX (ws' := (wM G ad V (sM M 3 (upd (s2F M u (alF M u n) (spU M n u) b) (((M 14) b).toNatClampNeg) ((s2F M u (alF M u n) (spU M n u) b (((M 14) b).toNatClampNeg)) - 0))) t)) dX12_spreads_154 3 (wMg3 _ _ _ _ _) (hB b (by omega)) (wMo3 _ _ _ _ _ _ _) ?_
                    refine j_iload hX dX12_spreads_155 rfl ?_
                    refine j_iload hX dX12_spreads_157 rfl ?_
                    refine j_isub hX dX12_spreads_159 ?_
                    refine j_istore hX (ls' := [some (.ref (ad 0)), some (.int sum), some (.int (nI u)), some (.int (alF M u n)), some (.int ((s2L M u (alF M u n) b) - 0)), some (.int (nI b)), some (.int 0)]) dX12_spreads_160 (Nat.le_of_ble_eq_true rfl) rfl rfl ?_
                    refine j_iinc hX (v := nI (b + 1)) (ls' := [some (.ref (ad 0)), some (.int sum), some (.int (nI u)), some (.int (alF M u n)), some (.int ((s2L M u (alF M u n) b) - 0)), some (.int (nI (b + 1))), some (.int 0)]) dX12_spreads_162 rfl (j_inc1 _) rfl rfl ?_
                    refine j_goto hX (tgt := 97) dX12_spreads_165 (by decide) ?_
                    refine jW.drop (ls' := [some (.ref (ad 0)), some (.int sum), some (.int (nI u)), some (.int (alF M u n)), some (.int ((s2L M u (alF M u n) b) - 0)), some (.int (nI (b + 1))), none]) ⟨Or.inr rfl, Or.inr rfl, Or.inr rfl, Or.inr rfl, Or.inr rfl, Or.inr rfl, Or.inl rfl, trivial⟩ ?_
                    have e9 : gtF M u (alF M u n) b = 0 := if_neg h114
                    refine jW.locals (ls' := [some (.ref (ad 0)), some (.int sum), some (.int (nI u)), some (.int (alF M u n)), some (.int (s2L M u (alF M u n) (b + 1))), some (.int (nI (b + 1))), none]) (by rw [show s2L M u (alF M u n) (b + 1) = (s2L M u (alF M u n) b) - 0 from by rw [← e9]; rfl]) ?_
                    refine jW.world (ws' := (wM G ad V (sM M 3 (s2F M u (alF M u n) (spU M n u) (b + 1))) t)) (by rw [show s2F M u (alF M u n) (spU M n u) (b + 1) = upd (s2F M u (alF M u n) (spU M n u) b) (((M 14) b).toNatClampNeg) ((s2F M u (alF M u n) (spU M n u) b (((M 14) b).toNatClampNeg)) - 0) from by rw [← e9]; rfl]) ?_
                    exact ihb (b + 1) (by omega) (by omega)
                  · refine j_aload_n hX dX12_spreads_117 rfl ?_
                    refine j_getf hX (v := .ref (ad 24)) dX12_spreads_118 fX12_spreads_82 0 (wMg0 _ _ _ _ _) rfl ?_
                    refine j_iload_n hX dX12_spreads_121 rfl ?_
                    refine j_iald hX (v := (M 24) u) dX12_spreads_122 24 (wMg24 _ _ _ _ _) (nI_in (by omega) (by decide)) (rdc (by omega)) ?_
                    refine j_aload_n hX dX12_spreads_123 rfl ?_
                    refine j_iload hX dX12_spreads_124 rfl ?_
                    refine j_dV hX (nA := 1) (cq := (RX12, TX12, 37)) (As := [.int (nI b)]) (st := [.int ((M 24) u)]) (st' := [.int (prM (sM M 3 (s2F M u (alF M u n) (spU M n u) b)) b), .int ((M 24) u)]) (ci := 13) rfl dX12_spreads_126 (c_X12_price G _ V (sM M 3 (s2F M u (alF M u n) (spU M n u) b)) _ b (by omega) (hB b (by omega))) gX12_spreads_X12_price rfl (by decide +kernel) (q := 0) (wMg0 _ _ _ _ _) (by decide) (Nat.le_of_ble_eq_true rfl) rfl (Nat.le_of_ble_eq_true rfl) rfl ⟨Nat.le_refl _, Nat.le_refl _⟩ rfl ?_
                    refine j_imul hX dX12_spreads_129 ?_
                    refine j_iload_n hX dX12_spreads_130 rfl ?_
                    refine j_idiv hX dX12_spreads_131 (hdiv u hinu b hinb h114) ?_
                    refine j_goto hX (tgt := 136) dX12_spreads_132 (by decide) ?_
                    refine j_istore hX (ls' := [some (.ref (ad 0)), some (.int sum), some (.int (nI u)), some (.int (alF M u n)), some (.int (s2L M u (alF M u n) b)), some (.int (nI b)), some (.int ((((M 24) u) * (prM (sM M 3 (s2F M u (alF M u n) (spU M n u) b)) b)) / (alF M u n)))]) dX12_spreads_136 (Nat.le_of_ble_eq_true rfl) rfl rfl ?_
                    refine j_aload_n hX dX12_spreads_138 rfl ?_
                    refine j_getf hX (v := .ref (ad 3)) dX12_spreads_139 fX12_spreads_16 0 (wMg0 _ _ _ _ _) rfl ?_
                    refine j_aload_n hX dX12_spreads_142 rfl ?_
                    refine j_getf hX (v := .ref (ad 14)) dX12_spreads_143 fX12_spreads_52 0 (wMg0 _ _ _ _ _) rfl ?_
                    refine j_iload hX dX12_spreads_146 rfl ?_
                    refine j_iald hX (v := (M 14) b) dX12_spreads_148 14 (wMg14 _ _ _ _ _) (nI_in (by omega) (by decide)) (rdc (by omega)) ?_
                    refine j_dup2 hX dX12_spreads_149 rfl rfl ?_
                    refine j_iald hX (v := s2F M u (alF M u n) (spU M n u) b (((M 14) b).toNatClampNeg)) dX12_spreads_150 3 (wMg3 _ _ _ _ _) (hB b (by omega)) rfl ?_
                    refine j_iload hX dX12_spreads_151 rfl ?_
                    refine j_isub hX dX12_spreads_153 ?_
                    refine j_iast hX (ws' := (wM G ad V (sM M 3 (upd (s2F M u (alF M u n) (spU M n u) b) (((M 14) b).toNatClampNeg) ((s2F M u (alF M u n) (spU M n u) b (((M 14) b).toNatClampNeg)) - ((((M 24) u) * (prM (sM M 3 (s2F M u (alF M u n) (spU M n u) b)) b)) / (alF M u n))))) t)) dX12_spreads_154 3 (wMg3 _ _ _ _ _) (hB b (by omega)) (wMo3 _ _ _ _ _ _ _) ?_
                    refine j_iload hX dX12_spreads_155 rfl ?_
                    refine j_iload hX dX12_spreads_157 rfl ?_
                    refine j_isub hX dX12_spreads_159 ?_
                    refine j_istore hX (ls' := [some (.ref (ad 0)), some (.int sum), some (.int (nI u)), some (.int (alF M u n)), some (.int ((s2L M u (alF M u n) b) - ((((M 24) u) * (prM (sM M 3 (s2F M u (alF M u n) (spU M n u) b)) b)) / (alF M u n)))), some (.int (nI b)), some (.int ((((M 24) u) * (prM (sM M 3 (s2F M u (alF M u n) (spU M n u) b)) b)) / (alF M u n)))]) dX12_spreads_160 (Nat.le_of_ble_eq_true rfl) rfl rfl ?_
                    refine j_iinc hX (v := nI (b + 1)) (ls' := [some (.ref (ad 0)), some (.int sum), some (.int (nI u)), some (.int (alF M u n)), some (.int ((s2L M u (alF M u n) b) - ((((M 24) u) * (prM (sM M 3 (s2F M u (alF M u n) (spU M n u) b)) b)) / (alF M u n)))), some (.int (nI (b + 1))), some (.int ((((M 24) u) * (prM (sM M 3 (s2F M u (alF M u n) (spU M n u) b)) b)) / (alF M u n)))]) dX12_spreads_162 rfl (j_inc1 _) rfl rfl ?_
                    refine j_goto hX (tgt := 97) dX12_spreads_165 (by decide) ?_
                    refine jW.drop (ls' := [some (.ref (ad 0)), some (.int sum), some (.int (nI u)), some (.int (alF M u n)), some (.int ((s2L M u (alF M u n) b) - ((((M 24) u) * (prM (sM M 3 (s2F M u (alF M u n) (spU M n u) b)) b)) / (alF M u n)))), some (.int (nI (b + 1))), none]) ⟨Or.inr rfl, Or.inr rfl, Or.inr rfl, Or.inr rfl, Or.inr rfl, Or.inr rfl, Or.inl rfl, trivial⟩ ?_
                    have e9 : gtF M u (alF M u n) b = (((M 24) u) * (prM (sM M 3 (s2F M u (alF M u n) (spU M n u) b)) b)) / (alF M u n) := if_pos h114
                    refine jW.locals (ls' := [some (.ref (ad 0)), some (.int sum), some (.int (nI u)), some (.int (alF M u n)), some (.int (s2L M u (alF M u n) (b + 1))), some (.int (nI (b + 1))), none]) (by rw [show s2L M u (alF M u n) (b + 1) = (s2L M u (alF M u n) b) - ((((M 24) u) * (prM (sM M 3 (s2F M u (alF M u n) (spU M n u) b)) b)) / (alF M u n)) from by rw [← e9]; rfl]) ?_
                    refine jW.world (ws' := (wM G ad V (sM M 3 (s2F M u (alF M u n) (spU M n u) (b + 1))) t)) (by rw [show s2F M u (alF M u n) (spU M n u) (b + 1) = upd (s2F M u (alF M u n) (spU M n u) b) (((M 14) b).toNatClampNeg) ((s2F M u (alF M u n) (spU M n u) b (((M 14) b).toNatClampNeg)) - ((((M 24) u) * (prM (sM M 3 (s2F M u (alF M u n) (spU M n u) b)) b)) / (alF M u n))) from by rw [← e9]; rfl]) ?_
                    exact ihb (b + 1) (by omega) (by omega)
              refine jW.world (ws' := (wM G ad V (sM M 3 (s2F M u (alF M u n) (spU M n u) 0)) t)) rfl ?_
              refine jW.locals (ls' := [some (.ref (ad 0)), some (.int sum), some (.int (nI u)), some (.int (alF M u n)), some (.int (s2L M u (alF M u n) 0)), some (.int (nI 0)), none]) rfl ?_
              exact L97 n 0 (Nat.le_refl _) (by omega)
            | succ za iha =>
              intro a h0a hia
              have hina : a < n := by omega
              refine j_iload hX dX12_spreads_47 rfl ?_
              refine j_aload_n hX dX12_spreads_49 rfl ?_
              refine j_getf hX (v := .int (V 5)) dX12_spreads_50 fX12_spreads_93 0 (wMg0 _ _ _ _ _) rfl ?_
              refine jW.top hn5 ?_
              refine j_icmp_ge_f hX (tgt := 86) dX12_spreads_53 (by decide) (nI_ge hina (by omega)) ?_
              refine j_iload_n hX dX12_spreads_56 rfl ?_
              refine j_aload_n hX dX12_spreads_57 rfl ?_
              refine j_getf hX (v := .ref (ad 21)) dX12_spreads_58 fX12_spreads_73 0 (wMg0 _ _ _ _ _) rfl ?_
              refine j_iload hX dX12_spreads_61 rfl ?_
              refine j_iald hX (v := (M 21) a) dX12_spreads_63 21 (wMg21 _ _ _ _ _) (nI_in (by omega) (by decide)) (rdc (by omega)) ?_
              refine j_iload_n hX dX12_spreads_64 rfl ?_
              refine j_icmp_ne hX (tgt := 77) dX12_spreads_65 (by decide) (fun h65 => ?_) (fun h65 => ?_)
              · refine j_iconst hX (v := 0) (by decide) dX12_spreads_77 ?_
                refine j_iadd hX dX12_spreads_78 ?_
                refine j_istore_n hX (ls' := [some (.ref (ad 0)), some (.int sum), some (.int (nI u)), some (.int ((alF M u a) + 0)), some (.int (nI a)), none, none]) dX12_spreads_79 (Nat.le_of_ble_eq_true rfl) rfl rfl ?_
                refine j_iinc hX (v := nI (a + 1)) (ls' := [some (.ref (ad 0)), some (.int sum), some (.int (nI u)), some (.int ((alF M u a) + 0)), some (.int (nI (a + 1))), none, none]) dX12_spreads_80 rfl (j_inc1 _) rfl rfl ?_
                refine j_goto hX (tgt := 47) dX12_spreads_83 (by decide) ?_
                refine jW.locals (ls' := [some (.ref (ad 0)), some (.int sum), some (.int (nI u)), some (.int (alF M u (a + 1))), some (.int (nI (a + 1))), none, none]) (by rw [show alF M u (a + 1) = (alF M u a) + 0 from by show alF M u a + (if M 21 a = nI u then prM M a else 0) = _; exact congrArg (fun z => alF M u a + z) (if_neg h65)]) ?_
                exact iha (a + 1) (by omega) (by omega)
              · refine j_aload_n hX dX12_spreads_68 rfl ?_
                refine j_iload hX dX12_spreads_69 rfl ?_
                refine j_dV hX (nA := 1) (cq := (RX12, TX12, 37)) (As := [.int (nI a)]) (st := [.int (alF M u a)]) (st' := [.int (prM (sM M 3 (spU M n u)) a), .int (alF M u a)]) (ci := 13) rfl dX12_spreads_71 (c_X12_price G _ V (sM M 3 (spU M n u)) _ a (by omega) (hB a (by omega))) gX12_spreads_X12_price rfl (by decide +kernel) (q := 0) (wMg0 _ _ _ _ _) (by decide) (Nat.le_of_ble_eq_true rfl) rfl (Nat.le_of_ble_eq_true rfl) rfl ⟨Nat.le_refl _, Nat.le_refl _⟩ rfl ?_
                refine j_goto hX (tgt := 78) dX12_spreads_74 (by decide) ?_
                refine j_iadd hX dX12_spreads_78 ?_
                refine j_istore_n hX (ls' := [some (.ref (ad 0)), some (.int sum), some (.int (nI u)), some (.int ((alF M u a) + (prM (sM M 3 (spU M n u)) a))), some (.int (nI a)), none, none]) dX12_spreads_79 (Nat.le_of_ble_eq_true rfl) rfl rfl ?_
                refine j_iinc hX (v := nI (a + 1)) (ls' := [some (.ref (ad 0)), some (.int sum), some (.int (nI u)), some (.int ((alF M u a) + (prM (sM M 3 (spU M n u)) a))), some (.int (nI (a + 1))), none, none]) dX12_spreads_80 rfl (j_inc1 _) rfl rfl ?_
                refine j_goto hX (tgt := 47) dX12_spreads_83 (by decide) ?_
                refine jW.locals (ls' := [some (.ref (ad 0)), some (.int sum), some (.int (nI u)), some (.int (alF M u (a + 1))), some (.int (nI (a + 1))), none, none]) (by rw [show alF M u (a + 1) = (alF M u a) + (prM (sM M 3 (spU M n u)) a) from by show alF M u a + (if M 21 a = nI u then prM M a else 0) = _; exact congrArg (fun z => alF M u a + z) (if_pos h65)]) ?_
                exact iha (a + 1) (by omega) (by omega)
          exact L47 n 0 (Nat.le_refl _) (by omega)
      refine jW.world (ws' := (wM G ad V (sM M 3 (spU M n 0)) t)) (by rw [hin]; rfl) ?_
      exact L34 bu 0 (Nat.le_refl _) (by omega)
    | succ zi ih =>
      intro i h0 hi
      have hin : i < n := by omega
      refine j_iload_n hX dX12_spreads_2 rfl ?_
      refine j_aload_n hX dX12_spreads_3 rfl ?_
      refine j_getf hX (v := .int (V 5)) dX12_spreads_4 fX12_spreads_93 0 (wMg0 _ _ _ _ _) rfl ?_
      refine jW.top hn5 ?_
      refine j_icmp_ge_f hX (tgt := 32) dX12_spreads_7 (by decide) (nI_ge hin (by omega)) ?_
      refine j_aload_n hX dX12_spreads_10 rfl ?_
      refine j_getf hX (v := .ref (ad 3)) dX12_spreads_11 fX12_spreads_16 0 (wMg0 _ _ _ _ _) rfl ?_
      refine j_aload_n hX dX12_spreads_14 rfl ?_
      refine j_getf hX (v := .ref (ad 14)) dX12_spreads_15 fX12_spreads_52 0 (wMg0 _ _ _ _ _) rfl ?_
      refine j_iload_n hX dX12_spreads_18 rfl ?_
      refine j_iald hX (v := (M 14) i) dX12_spreads_19 14 (wMg14 _ _ _ _ _) (nI_in (by omega) (by decide)) (rdc (by omega)) ?_
      refine j_aload_n hX dX12_spreads_20 rfl ?_
      refine j_iload_n hX dX12_spreads_21 rfl ?_
      refine j_dV hX (nA := 1) (cq := (RX12, TX12, 37)) (As := [.int (nI i)]) (st := [.int ((M 14) i), .ref (ad 3)]) (st' := [.int (prM (sM M 3 (np1 M i)) i), .int ((M 14) i), .ref (ad 3)]) (ci := 13) rfl dX12_spreads_22 (c_X12_price G _ V (sM M 3 (np1 M i)) _ i (by omega) (hB i (by omega))) gX12_spreads_X12_price rfl (by decide +kernel) (q := 0) (wMg0 _ _ _ _ _) (by decide) (Nat.le_of_ble_eq_true rfl) rfl (Nat.le_of_ble_eq_true rfl) rfl ⟨Nat.le_refl _, Nat.le_refl _⟩ rfl ?_
      refine j_iast hX (ws' := (wM G ad V (sM M 3 (upd (np1 M i) (((M 14) i).toNatClampNeg) (prM (sM M 3 (np1 M i)) i))) t)) dX12_spreads_25 3 (wMg3 _ _ _ _ _) (hB i (by omega)) (wMo3 _ _ _ _ _ _ _) ?_
      refine j_iinc hX (v := nI (i + 1)) (ls' := [some (.ref (ad 0)), some (.int sum), some (.int (nI (i + 1))), none, none, none, none]) dX12_spreads_26 rfl (j_inc1 _) rfl rfl ?_
      refine j_goto hX (tgt := 2) dX12_spreads_29 (by decide) ?_
      exact ih (i + 1) (by omega) (by omega)
  refine jW.world (ws' := (wM G ad V (sM M 3 (np1 M 0)) t)) (by rw [show np1 M 0 = M 3 from rfl, sM_eq]) ?_
  exact L2 n 0 (Nat.le_refl _) (by omega)

