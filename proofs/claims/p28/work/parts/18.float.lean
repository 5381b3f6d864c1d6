theorem fX11_discountShare_44 : jF wsX11_discountShare RX11 44 12 4 true (.object "BasketOffers$Ledger") := ⟨(RX11, TX11, 7), tyX11, rfl, by decide, by decide +kernel, by decide +kernel, tyX11_ok, nmX11, rfl, by decide +kernel, by decide +kernel⟩
theorem fX11_meanNetPrice_44 : jF wsX11_meanNetPrice RX11 44 12 4 true (.object "BasketOffers$Ledger") := ⟨(RX11, TX11, 7), tyX11, rfl, by decide, by decide +kernel, by decide +kernel, tyX11_ok, nmX11, rfl, by decide +kernel, by decide +kernel⟩
section JFL
variable {G : jG} {X : jX} {own : String} {cc : ByteArray} {Ts : List Cond} {ret : Option FieldType} {nL d mc ms k n pc : Nat} {post : Option Value → va_W → Prop} {ls : List (Option Value)} {st : List Value} {ws : va_W}
theorem j_i2f (hX : jOK G X own cc Ts ret nL d mc ms post) {x : Int32} (hd : decode cc pc = .ok (.i2f, 1)) (kk : jW G X k n (pc + 1) ls (.float (FP.i2f x) :: st) ws) : jW G X k n pc ls (.int x :: st) ws := by
  obtain ⟨p, e, R, s, m, args, below, meth, c, A, Q⟩ := X
  obtain ⟨hx, hb, hr, hml, hown, hts, hlocks, hK, hA, hN, hRoom, hCell, hQ⟩ := hX
  intro H locs la hP hD hS hL
  exact lv_i2f hx hb hd (kk H locs la hP hD hS hL)
theorem j_i2d (hX : jOK G X own cc Ts ret nL d mc ms post) {x : Int32} (hd : decode cc pc = .ok (.i2d, 1)) (kk : jW G X k n (pc + 1) ls (.double (FP.i2d x) :: st) ws) : jW G X k n pc ls (.int x :: st) ws := by
  obtain ⟨p, e, R, s, m, args, below, meth, c, A, Q⟩ := X
  obtain ⟨hx, hb, hr, hml, hown, hts, hlocks, hK, hA, hN, hRoom, hCell, hQ⟩ := hX
  intro H locs la hP hD hS hL
  exact lv_i2d hx hb hd (kk H locs la hP hD hS hL)
theorem j_fdiv (hX : jOK G X own cc Ts ret nL d mc ms post) {x y : UInt32} (hd : decode cc pc = .ok (.fdiv, 1)) (hne : vf_n32 (FP.fdiv x y)) (kk : jW G X k n (pc + 1) ls (.float (FP.fdiv x y) :: st) ws) : jW G X k n pc ls (.float y :: .float x :: st) ws := by
  obtain ⟨p, e, R, s, m, args, below, meth, c, A, Q⟩ := X
  obtain ⟨hx, hb, hr, hml, hown, hts, hlocks, hK, hA, hN, hRoom, hCell, hQ⟩ := hX
  intro H locs la hP hD hS hL
  exact lv_fdiv hx hb hd hne (kk H locs la hP hD hS hL)
theorem j_ddiv (hX : jOK G X own cc Ts ret nL d mc ms post) {x y : UInt64} (hd : decode cc pc = .ok (.ddiv, 1)) (hne : vf_n64 (FP.ddiv x y)) (kk : jW G X k n (pc + 1) ls (.double (FP.ddiv x y) :: st) ws) : jW G X k n pc ls (.double y :: .double x :: st) ws := by
  obtain ⟨p, e, R, s, m, args, below, meth, c, A, Q⟩ := X
  obtain ⟨hx, hb, hr, hml, hown, hts, hlocks, hK, hA, hN, hRoom, hCell, hQ⟩ := hX
  intro H locs la hP hD hS hL
  exact lv_ddiv hx hb hd hne (kk H locs la hP hD hS hL)
theorem j_f2d (hX : jOK G X own cc Ts ret nL d mc ms post) {x : UInt32} (hd : decode cc pc = .ok (.f2d, 1)) (hne : vf_n64 (FP.f2d x)) (kk : jW G X k n (pc + 1) ls (.double (FP.f2d x) :: st) ws) : jW G X k n pc ls (.float x :: st) ws := by
  obtain ⟨p, e, R, s, m, args, below, meth, c, A, Q⟩ := X
  obtain ⟨hx, hb, hr, hml, hown, hts, hlocks, hK, hA, hN, hRoom, hCell, hQ⟩ := hX
  intro H locs la hP hD hS hL
  exact lv_f2d hx hb hd hne (kk H locs la hP hD hS hL)
theorem j_fconst0 (hX : jOK G X own cc Ts ret nL d mc ms post) (hd : decode cc pc = .ok (.fconst 0, 1)) (kk : jW G X k n (pc + 1) ls (.float FP.fconst0 :: st) ws) : jW G X k n pc ls st ws := by
  obtain ⟨p, e, R, s, m, args, below, meth, c, A, Q⟩ := X
  obtain ⟨hx, hb, hr, hml, hown, hts, hlocks, hK, hA, hN, hRoom, hCell, hQ⟩ := hX
  intro H locs la hP hD hS hL
  exact lv_fconst0 hx hb hd (kk H locs la hP hD hS hL)
theorem j_dconst0 (hX : jOK G X own cc Ts ret nL d mc ms post) (hd : decode cc pc = .ok (.dconst 0, 1)) (kk : jW G X k n (pc + 1) ls (.double FP.dconst0 :: st) ws) : jW G X k n pc ls st ws := by
  obtain ⟨p, e, R, s, m, args, below, meth, c, A, Q⟩ := X
  obtain ⟨hx, hb, hr, hml, hown, hts, hlocks, hK, hA, hN, hRoom, hCell, hQ⟩ := hX
  intro H locs la hP hD hS hL
  exact lv_dconst0 hx hb hd (kk H locs la hP hD hS hL)
theorem j_fret (hX : jOK G X own cc Ts (some .float) nL d mc ms post) {v : UInt32} (hd : decode cc pc = .ok (.freturn, 1)) (hp : post (some (.float v)) ws) : jW G X mc ms pc ls [.float v] ws := by
  obtain ⟨p, e, R, s, m, args, below, meth, c, A, Q⟩ := X
  obtain ⟨hx, hb, hr, hml, hown, hts, hlocks, hK, hA, hN, hRoom, hCell, hQ⟩ := hX
  intro H locs la hP hD hS hL
  intro T hT XT
  obtain ⟨t, h1, h2⟩ := W.fret (v := v) (Qc := jQ G.2.1 post A) (free := A) hx hb hr (fun t ht hW => ⟨⟨(some (.float v)), ws, rfl, hp, by rw [ht]; exact hP, hD⟩, hS.F ht⟩) hS.2.2 hd hlocks T hT XT
  exact ⟨t, h1, hQ t h2⟩
theorem j_dret (hX : jOK G X own cc Ts (some .double) nL d mc ms post) {v : UInt64} (hd : decode cc pc = .ok (.dreturn, 1)) (hp : post (some (.double v)) ws) : jW G X mc ms pc ls [.double v] ws := by
  obtain ⟨p, e, R, s, m, args, below, meth, c, A, Q⟩ := X
  obtain ⟨hx, hb, hr, hml, hown, hts, hlocks, hK, hA, hN, hRoom, hCell, hQ⟩ := hX
  intro H locs la hP hD hS hL
  intro T hT XT
  obtain ⟨t, h1, h2⟩ := W.dret (v := v) (Qc := jQ G.2.1 post A) (free := A) hx hb hr (fun t ht hW => ⟨⟨(some (.double v)), ws, rfl, hp, by rw [ht]; exact hP, hD⟩, hS.F ht⟩) hS.2.2 hd hlocks T hT XT
  exact ⟨t, h1, hQ t h2⟩
end JFL
theorem n32_of {x : UInt32} (h : FP.Core.fIsNaN x = false) : vf_n32 x := by
  have h1 : ¬ 2139095040 < x.toNat % 2 ^ 31 := fun q => by rw [(FP.Core.isNaN_bits32 x).mpr q] at h; cases h
  unfold vf_n32
  rw [UInt32.le_iff_toNat_le]
  show (x &&& 2147483647).toNat ≤ 2139095040
  rw [UInt32.toNat_and, show (2147483647 : UInt32).toNat = 2 ^ 31 - 1 from rfl, Nat.and_two_pow_sub_one_eq_mod]
  omega
theorem n64_of {x : UInt64} (h : FP.Core.dIsNaN x = false) : vf_n64 x := by
  have h1 : ¬ 9218868437227405312 < x.toNat % 2 ^ 63 := fun q => by rw [(FP.Core.isNaN_bits x).mpr q] at h; cases h
  unfold vf_n64
  rw [UInt64.le_iff_toNat_le]
  show (x &&& 9223372036854775807).toNat ≤ 9218868437227405312
  rw [UInt64.toNat_and, show (9223372036854775807 : UInt64).toNat = 2 ^ 63 - 1 from rfl, Nat.and_two_pow_sub_one_eq_mod]
  omega
theorem i2f_num (v : Int32) : FP.Core.fIsNaN (FP.Core.i2f v) = false := by
  have h := FP.Core.i2f_mag v
  cases e : FP.Core.fIsNaN (FP.Core.i2f v)
  · rfl
  · have := (FP.Core.isNaN_bits32 _).mp e
    omega
theorem i2d_num (v : Int32) : FP.Core.dIsNaN (FP.Core.i2d v) = false := by
  have h := FP.Core.i2d_mag v
  cases e : FP.Core.dIsNaN (FP.Core.i2d v)
  · rfl
  · have := (FP.Core.isNaN_bits _).mp e
    omega
theorem fdiv_num {a b : Int32} (hb : ¬ b = 0) : FP.Core.fIsNaN (FP.fdiv (FP.i2f a) (FP.i2f b)) = false := by
  refine FP.Core.fdiv_out (i2f_num a) (FP.Core.i2f_fin b) (fun hz => ?_)
  exact FP.Core.i2f_ne_zero hb ((FP.Core.zero_bits232 _).mp hz)
theorem ddiv_num {a b : Int32} (hb : ¬ b = 0) : FP.Core.dIsNaN (FP.ddiv (FP.i2d a) (FP.i2d b)) = false := by
  refine FP.Core.ddiv_out (i2d_num a) (FP.Core.i2d_fin b) (fun hz => ?_)
  exact FP.Core.i2d_ne_zero hb ((FP.Core.zero_bits2 _).mp hz)
def xnone (v : Int32) : Option String := if 0 < v then none else some "java/lang/ArithmeticException"
theorem pos_ne {x : Int32} (h : 0 < x) : ¬ x = 0 := fun e => by rw [e] at h; exact absurd h (by decide)
set_option maxHeartbeats 4000000 in
set_option maxRecDepth 100000 in
theorem c_X11_discountShare (G : jG) (hG : G.1.stackTraces = false) (ad : Nat → Nat) (V : Nat → Int32) (M : Nat → Nat → Int32) (en : Nat → Option Nat) (wo : va_W) : jT G 30 yX11_discountShare wsX11_discountShare [.ref (ad 0)] (wC G ad V M en wo) 1 6 (fun rv w => xnone (V 11) = none ∧ rv = some (.float (FP.fdiv (FP.i2f (V 11 - V 12)) (FP.i2f (V 11)))) ∧ w = (wC G ad V M en wo)) (fun E => xnone (V 11) = some E) := by
  refine jT.of hG (maxL := 2) (cc := cX11_discountShare) (ret := (some .float)) rfl (by decide) [some (.ref (ad 0)), none] rfl (Nat.le_of_ble_eq_true rfl) (j_args rfl) (fun X hX hT => ?_)
  refine j_aload_n hX dX11_discountShare_0 rfl ?_
  refine j_getf hX (v := .ref (ad 25)) dX11_discountShare_1 fX11_discountShare_44 0 (wCg0 _ _ _ _ _ _) rfl ?_
  refine j_dV hX (nA := 0) (cq := (RX4, TX4, 9)) (As := []) (st := []) (st' := [.int (V 11)]) (ci := 6) rfl dX11_discountShare_4 (c_X4_pricesSold G _ _ _ _ _) gX11_discountShare_X4_pricesSold rfl (by decide +kernel) (q := 25) (wCg25 _ _ _ _ _ _) (by decide) (Nat.le_of_ble_eq_true rfl) rfl (Nat.le_of_ble_eq_true rfl) rfl ⟨by decide, by decide⟩ rfl ?_
  refine j_istore_n hX (ls' := [some (.ref (ad 0)), some (.int (V 11))]) dX11_discountShare_7 (Nat.le_of_ble_eq_true rfl) rfl rfl ?_
  refine j_iload_n hX dX11_discountShare_8 rfl ?_
  refine j_if_gt hX (tgt := 22) dX11_discountShare_9 (by decide) (fun h9 => ?_) (fun h9 => ?_)
  · refine j_iload_n hX dX11_discountShare_22 rfl ?_
    refine j_aload_n hX dX11_discountShare_23 rfl ?_
    refine j_getf hX (v := .ref (ad 25)) dX11_discountShare_24 fX11_discountShare_44 0 (wCg0 _ _ _ _ _ _) rfl ?_
    refine j_dV hX (nA := 0) (cq := (RX4, TX4, 9)) (As := []) (st := [.int (V 11)]) (st' := [.int (V 12), .int (V 11)]) (ci := 6) rfl dX11_discountShare_27 (c_X4_netsSold G _ _ _ _ _) gX11_discountShare_X4_netsSold rfl (by decide +kernel) (q := 25) (wCg25 _ _ _ _ _ _) (by decide) (Nat.le_of_ble_eq_true rfl) rfl (Nat.le_of_ble_eq_true rfl) rfl ⟨by decide, by decide⟩ rfl ?_
    refine j_isub hX dX11_discountShare_30 ?_
    refine j_i2f hX dX11_discountShare_31 ?_
    refine j_iload_n hX dX11_discountShare_32 rfl ?_
    refine j_i2f hX dX11_discountShare_33 ?_
    refine j_fdiv hX dX11_discountShare_34 (n32_of (fdiv_num (pos_ne h9))) ?_
    refine jW.widen (k' := 1) (n' := 6) (by omega) (by omega) ?_
    exact j_fret hX dX11_discountShare_35 ⟨((if_pos h9) : xnone (V 11) = none), rfl, rfl⟩
  · exact j_throw hX hT (cls := "java/lang/ArithmeticException") (text := "nothing was sold") (names := ["java/lang/RuntimeException", "java/lang/Exception"]) (ic := 231) (by decide +kernel) (by decide +kernel) (by decide +kernel) (by decide +kernel) (by decide +kernel) (by decide +kernel) (fun w (h : w ∈ (vx_atS RX11 231 "java/lang/ArithmeticException" ["java/lang/RuntimeException", "java/lang/Exception"]).filter goodWord) => by unfold wsX11_discountShare; simp only [List.mem_cons, List.mem_append, h, true_or, or_true]) x231_ng x231_good dX11_discountShare_12 dX11_discountShare_15 dX11_discountShare_16 dX11_discountShare_18 dX11_discountShare_21 ((if_neg h9) : xnone (V 11) = some "java/lang/ArithmeticException") (by decide) ⟨by decide, by decide⟩ (Nat.le_of_ble_eq_true rfl) rfl (by decide)

set_option maxHeartbeats 4000000 in
set_option maxRecDepth 100000 in
theorem c_X11_meanNetPrice (G : jG) (hG : G.1.stackTraces = false) (ad : Nat → Nat) (V : Nat → Int32) (M : Nat → Nat → Int32) (en : Nat → Option Nat) (wo : va_W) : jT G 30 yX11_meanNetPrice wsX11_meanNetPrice [.ref (ad 0)] (wC G ad V M en wo) 1 6 (fun rv w => xnone (V 10) = none ∧ rv = some (.double (FP.ddiv (FP.i2d (V 12)) (FP.i2d (V 10)))) ∧ w = (wC G ad V M en wo)) (fun E => xnone (V 10) = some E) := by
  refine jT.of hG (maxL := 2) (cc := cX11_meanNetPrice) (ret := (some .double)) rfl (by decide) [some (.ref (ad 0)), none] rfl (Nat.le_of_ble_eq_true rfl) (j_args rfl) (fun X hX hT => ?_)
  refine j_aload_n hX dX11_meanNetPrice_0 rfl ?_
  refine j_getf hX (v := .ref (ad 25)) dX11_meanNetPrice_1 fX11_meanNetPrice_44 0 (wCg0 _ _ _ _ _ _) rfl ?_
  refine j_dV hX (nA := 0) (cq := (RX4, TX4, 9)) (As := []) (st := []) (st' := [.int (V 10)]) (ci := 6) rfl dX11_meanNetPrice_4 (c_X4_itemsSold G _ _ _ _ _) gX11_meanNetPrice_X4_itemsSold rfl (by decide +kernel) (q := 25) (wCg25 _ _ _ _ _ _) (by decide) (Nat.le_of_ble_eq_true rfl) rfl (Nat.le_of_ble_eq_true rfl) rfl ⟨by decide, by decide⟩ rfl ?_
  refine j_istore_n hX (ls' := [some (.ref (ad 0)), some (.int (V 10))]) dX11_meanNetPrice_7 (Nat.le_of_ble_eq_true rfl) rfl rfl ?_
  refine j_iload_n hX dX11_meanNetPrice_8 rfl ?_
  refine j_if_gt hX (tgt := 22) dX11_meanNetPrice_9 (by decide) (fun h9 => ?_) (fun h9 => ?_)
  · refine j_aload_n hX dX11_meanNetPrice_22 rfl ?_
    refine j_getf hX (v := .ref (ad 25)) dX11_meanNetPrice_23 fX11_meanNetPrice_44 0 (wCg0 _ _ _ _ _ _) rfl ?_
    refine j_dV hX (nA := 0) (cq := (RX4, TX4, 9)) (As := []) (st := []) (st' := [.int (V 12)]) (ci := 6) rfl dX11_meanNetPrice_26 (c_X4_netsSold G _ _ _ _ _) gX11_meanNetPrice_X4_netsSold rfl (by decide +kernel) (q := 25) (wCg25 _ _ _ _ _ _) (by decide) (Nat.le_of_ble_eq_true rfl) rfl (Nat.le_of_ble_eq_true rfl) rfl ⟨by decide, by decide⟩ rfl ?_
    refine j_i2d hX dX11_meanNetPrice_29 ?_
    refine j_iload_n hX dX11_meanNetPrice_30 rfl ?_
    refine j_i2d hX dX11_meanNetPrice_31 ?_
    refine j_ddiv hX dX11_meanNetPrice_32 (n64_of (ddiv_num (pos_ne h9))) ?_
    refine jW.widen (k' := 1) (n' := 6) (by omega) (by omega) ?_
    exact j_dret hX dX11_meanNetPrice_33 ⟨((if_pos h9) : xnone (V 10) = none), rfl, rfl⟩
  · exact j_throw hX hT (cls := "java/lang/ArithmeticException") (text := "nothing was sold") (names := ["java/lang/RuntimeException", "java/lang/Exception"]) (ic := 231) (by decide +kernel) (by decide +kernel) (by decide +kernel) (by decide +kernel) (by decide +kernel) (by decide +kernel) (fun w (h : w ∈ (vx_atS RX11 231 "java/lang/ArithmeticException" ["java/lang/RuntimeException", "java/lang/Exception"]).filter goodWord) => by unfold wsX11_meanNetPrice; simp only [List.mem_cons, List.mem_append, h, true_or, or_true]) x231_ng x231_good dX11_meanNetPrice_12 dX11_meanNetPrice_15 dX11_meanNetPrice_16 dX11_meanNetPrice_18 dX11_meanNetPrice_21 ((if_neg h9) : xnone (V 10) = some "java/lang/ArithmeticException") (by decide) ⟨by decide, by decide⟩ (Nat.le_of_ble_eq_true rfl) rfl (by decide)

