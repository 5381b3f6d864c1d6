theorem fX5_limit_9_X2 : jF wsX5_limit RX5 9 4 0 true .int := ⟨(RX2, TX2, 9), tyX2, rfl, by decide, by decide +kernel, by decide +kernel, tyX2_ok, nmX2, rfl, by decide +kernel, by decide +kernel⟩
theorem fX5_limit_9_X3 : jF wsX5_limit RX5 9 5 0 true .int := ⟨(RX3, TX3, 4), tyX3, rfl, by decide, by decide +kernel, by decide +kernel, tyX3_ok, nmX3, rfl, by decide +kernel, by decide +kernel⟩
theorem fX5_limit_9_X7 : jF wsX5_limit RX5 9 8 0 true .int := ⟨(RX7, TX7, 4), tyX7, rfl, by decide, by decide +kernel, by decide +kernel, tyX7_ok, nmX7, rfl, by decide +kernel, by decide +kernel⟩
theorem fX5_limit_9_X9 : jF wsX5_limit RX5 9 10 0 true .int := ⟨(RX9, TX9, 4), tyX9, rfl, by decide, by decide +kernel, by decide +kernel, tyX9_ok, nmX9, rfl, by decide +kernel, by decide +kernel⟩
theorem fX3_itemsTaken_15 : jF wsX3_itemsTaken RX3 15 5 3 true .int := ⟨(RX3, TX3, 4), tyX3, rfl, by decide, by decide +kernel, by decide +kernel, tyX3_ok, nmX3, rfl, by decide +kernel, by decide +kernel⟩
theorem fX2_itemsTaken_18 : jF wsX2_itemsTaken RX2 18 4 4 true .int := ⟨(RX2, TX2, 9), tyX2, rfl, by decide, by decide +kernel, by decide +kernel, tyX2_ok, nmX2, rfl, by decide +kernel, by decide +kernel⟩
theorem fX9_threshold_7 : jF wsX9_threshold RX9 7 10 2 true .int := ⟨(RX9, TX9, 4), tyX9, rfl, by decide, by decide +kernel, by decide +kernel, tyX9_ok, nmX9, rfl, by decide +kernel, by decide +kernel⟩
theorem fX9_amount_13 : jF wsX9_amount RX9 13 10 3 true .int := ⟨(RX9, TX9, 4), tyX9, rfl, by decide, by decide +kernel, by decide +kernel, tyX9_ok, nmX9, rfl, by decide +kernel, by decide +kernel⟩
theorem fX7_discountOn_9 : jF wsX7_discountOn RX7 9 8 2 true .int := ⟨(RX7, TX7, 4), tyX7, rfl, by decide, by decide +kernel, by decide +kernel, tyX7_ok, nmX7, rfl, by decide +kernel, by decide +kernel⟩
theorem fX7_discountOn_15 : jF wsX7_discountOn RX7 15 8 3 true .int := ⟨(RX7, TX7, 4), tyX7, rfl, by decide, by decide +kernel, by decide +kernel, tyX7_ok, nmX7, rfl, by decide +kernel, by decide +kernel⟩
theorem fX3_discountOn_9 : jF wsX3_discountOn RX3 9 5 2 true .int := ⟨(RX3, TX3, 4), tyX3, rfl, by decide, by decide +kernel, by decide +kernel, tyX3_ok, nmX3, rfl, by decide +kernel, by decide +kernel⟩
theorem fX3_discountOn_15 : jF wsX3_discountOn RX3 15 5 3 true .int := ⟨(RX3, TX3, 4), tyX3, rfl, by decide, by decide +kernel, by decide +kernel, tyX3_ok, nmX3, rfl, by decide +kernel, by decide +kernel⟩
theorem fX2_discountOn_9 : jF wsX2_discountOn RX2 9 4 2 true .int := ⟨(RX2, TX2, 9), tyX2, rfl, by decide, by decide +kernel, by decide +kernel, tyX2_ok, nmX2, rfl, by decide +kernel, by decide +kernel⟩
theorem fX2_discountOn_24 : jF wsX2_discountOn RX2 24 4 5 true .int := ⟨(RX2, TX2, 9), tyX2, rfl, by decide, by decide +kernel, by decide +kernel, tyX2_ok, nmX2, rfl, by decide +kernel, by decide +kernel⟩
theorem fX2_discountOn_15 : jF wsX2_discountOn RX2 15 4 3 true .int := ⟨(RX2, TX2, 9), tyX2, rfl, by decide, by decide +kernel, by decide +kernel, tyX2_ok, nmX2, rfl, by decide +kernel, by decide +kernel⟩
theorem fX2_discountOn_27 : jF wsX2_discountOn RX2 27 4 6 true .int := ⟨(RX2, TX2, 9), tyX2, rfl, by decide, by decide +kernel, by decide +kernel, tyX2_ok, nmX2, rfl, by decide +kernel, by decide +kernel⟩
theorem fX2_discountOn_18 : jF wsX2_discountOn RX2 18 4 4 true .int := ⟨(RX2, TX2, 9), tyX2, rfl, by decide, by decide +kernel, by decide +kernel, tyX2_ok, nmX2, rfl, by decide +kernel, by decide +kernel⟩
theorem fX2_discountOn_21 : jF wsX2_discountOn RX2 21 4 8 true .int := ⟨(RX2, TX2, 9), tyX2, rfl, by decide, by decide +kernel, by decide +kernel, tyX2_ok, nmX2, rfl, by decide +kernel, by decide +kernel⟩
theorem fX2_discountOn_30 : jF wsX2_discountOn RX2 30 4 7 true .int := ⟨(RX2, TX2, 9), tyX2, rfl, by decide, by decide +kernel, by decide +kernel, tyX2_ok, nmX2, rfl, by decide +kernel, by decide +kernel⟩
/-! THE OFFERS: an offer is the number of its class (8 a percentage, 5 a free item, 4 a bundle, 10 a threshold) and its fields. -/
abbrev ofr : Type := Nat × (Nat → Int32)
def cellO (o : ofr) : va_E := bif Nat.beq o.1 4 then .inr (4, [.int (o.2 0), .int (o.2 1), .int (o.2 2), .int (o.2 3), .int (o.2 4), .int (o.2 5), .int (o.2 6), .int (o.2 7), .int (o.2 8)]) else .inr (o.1, [.int (o.2 0), .int (o.2 1), .int (o.2 2), .int (o.2 3)])
def okO (o : ofr) : Prop := o.1 = 8 ∨ o.1 = 5 ∨ o.1 = 4 ∨ o.1 = 10
theorem cellO_8 {w : va_W} {q b : Nat} {o : ofr} (h : o.1 = 8) (hq : w[q]? = some (b, cellO o)) : w[q]? = some (b, .inr (8, [.int (o.2 0), .int (o.2 1), .int (o.2 2), .int (o.2 3)])) := by rw [hq, cellO, h]; rfl
theorem cellO_5 {w : va_W} {q b : Nat} {o : ofr} (h : o.1 = 5) (hq : w[q]? = some (b, cellO o)) : w[q]? = some (b, .inr (5, [.int (o.2 0), .int (o.2 1), .int (o.2 2), .int (o.2 3)])) := by rw [hq, cellO, h]; rfl
theorem cellO_10 {w : va_W} {q b : Nat} {o : ofr} (h : o.1 = 10) (hq : w[q]? = some (b, cellO o)) : w[q]? = some (b, .inr (10, [.int (o.2 0), .int (o.2 1), .int (o.2 2), .int (o.2 3)])) := by rw [hq, cellO, h]; rfl
theorem cellO_4 {w : va_W} {q b : Nat} {o : ofr} (h : o.1 = 4) (hq : w[q]? = some (b, cellO o)) : w[q]? = some (b, .inr (4, [.int (o.2 0), .int (o.2 1), .int (o.2 2), .int (o.2 3), .int (o.2 4), .int (o.2 5), .int (o.2 6), .int (o.2 7), .int (o.2 8)])) := by rw [hq, cellO, h]; rfl
def takenO (o : ofr) : Int32 := bif Nat.beq o.1 8 then 1 else bif Nat.beq o.1 5 then o.2 3 else bif Nat.beq o.1 4 then (if o.2 4 = -1 then 2 else 3) else 0
def threshO (o : ofr) : Int32 := bif Nat.beq o.1 10 then o.2 2 else -1
def amountO (o : ofr) : Int32 := bif Nat.beq o.1 10 then o.2 3 else 0
def rivalO (o : ofr) (other : Option ofr) : Int32 := if o.2 1 = -1 then 0 else match other with
  | none => 0
  | some r => if o.2 1 = r.2 1 then 1 else 0
def dPc (o : ofr) (M : Nat → Nat → Int32) (mask : Int32) (n : Nat) : Int32 := if countOfF (M 3) mask (o.2 2) n = 1 then priceOfF (M 4) mask n * o.2 3 / 100 else -1
def dFr (o : ofr) (M : Nat → Nat → Int32) (mask : Int32) (n : Nat) : Int32 := if countOfF (M 3) mask (o.2 2) n = o.2 3 then cheapF (M 4) mask n else -1
def dBx (o : ofr) (M : Nat → Nat → Int32) (mask : Int32) (n : Nat) : Int32 := if priceOfF (M 4) mask n - o.2 8 ≤ 0 then -1 else priceOfF (M 4) mask n - o.2 8
def dBu (o : ofr) (M : Nat → Nat → Int32) (mask : Int32) (n : Nat) : Int32 := if countOfF (M 3) mask (o.2 2) n = o.2 5 then (if countOfF (M 3) mask (o.2 3) n = o.2 6 then (if o.2 4 = -1 then dBx o M mask n else (if countOfF (M 3) mask (o.2 4) n = o.2 7 then dBx o M mask n else -1)) else -1) else -1
def discO (o : ofr) (M : Nat → Nat → Int32) (mask : Int32) (n : Nat) : Int32 := bif Nat.beq o.1 8 then dPc o M mask n else bif Nat.beq o.1 5 then dFr o M mask n else bif Nat.beq o.1 4 then dBu o M mask n else -1
def enO (ad : Nat → Nat) (o : Nat) : Nat → Option Nat := fun j => if j < o then some (ad (30 + j)) else none
def wO (ad : Nat → Nat) (os : Nat → ofr) (o : Nat) : va_W := (List.range o).map (fun j => (ad (30 + j), cellO (os j)))
theorem wO_get (G : jG) (ad : Nat → Nat) (V : Nat → Int32) (M : Nat → Nat → Int32) (en : Nat → Option Nat) (os : Nat → ofr) (o : Nat) {j : Nat} (h : j < o) : (wC G ad V M en (wO ad os o))[30 + j]? = some (ad (30 + j), cellO (os j)) := by
  rw [wC, List.getElem?_append_right (by simp)]
  simp [wO, h]
set_option maxHeartbeats 4000000 in
set_option maxRecDepth 100000 in
theorem c_X5_limit_X2 (G : jG) {w : va_W} {q b : Nat} (o : ofr) (h : o.1 = 4) (hq : w[q]? = some (b, cellO o)) : jD G 0 yX5_limit wsX5_limit [.ref b] w (some (.int (o.2 0))) w := by
  refine jC.of (maxL := 1) (cc := cX5_limit) (ret := (some .int)) rfl (by decide) [some (.ref b)] rfl (Nat.le_of_ble_eq_true rfl) (j_args rfl) (fun X hX => ?_)
  refine j_aload_n hX dX5_limit_0 rfl ?_
  refine j_getf hX (v := .int (o.2 0)) dX5_limit_1 fX5_limit_9_X2 q (cellO_4 h hq) rfl ?_
  exact j_iret hX dX5_limit_4 ⟨rfl, rfl⟩

set_option maxHeartbeats 4000000 in
set_option maxRecDepth 100000 in
theorem c_X5_limit_X3 (G : jG) {w : va_W} {q b : Nat} (o : ofr) (h : o.1 = 5) (hq : w[q]? = some (b, cellO o)) : jD G 0 yX5_limit wsX5_limit [.ref b] w (some (.int (o.2 0))) w := by
  refine jC.of (maxL := 1) (cc := cX5_limit) (ret := (some .int)) rfl (by decide) [some (.ref b)] rfl (Nat.le_of_ble_eq_true rfl) (j_args rfl) (fun X hX => ?_)
  refine j_aload_n hX dX5_limit_0 rfl ?_
  refine j_getf hX (v := .int (o.2 0)) dX5_limit_1 fX5_limit_9_X3 q (cellO_5 h hq) rfl ?_
  exact j_iret hX dX5_limit_4 ⟨rfl, rfl⟩

set_option maxHeartbeats 4000000 in
set_option maxRecDepth 100000 in
theorem c_X5_limit_X7 (G : jG) {w : va_W} {q b : Nat} (o : ofr) (h : o.1 = 8) (hq : w[q]? = some (b, cellO o)) : jD G 0 yX5_limit wsX5_limit [.ref b] w (some (.int (o.2 0))) w := by
  refine jC.of (maxL := 1) (cc := cX5_limit) (ret := (some .int)) rfl (by decide) [some (.ref b)] rfl (Nat.le_of_ble_eq_true rfl) (j_args rfl) (fun X hX => ?_)
  refine j_aload_n hX dX5_limit_0 rfl ?_
  refine j_getf hX (v := .int (o.2 0)) dX5_limit_1 fX5_limit_9_X7 q (cellO_8 h hq) rfl ?_
  exact j_iret hX dX5_limit_4 ⟨rfl, rfl⟩

set_option maxHeartbeats 4000000 in
set_option maxRecDepth 100000 in
theorem c_X5_limit_X9 (G : jG) {w : va_W} {q b : Nat} (o : ofr) (h : o.1 = 10) (hq : w[q]? = some (b, cellO o)) : jD G 0 yX5_limit wsX5_limit [.ref b] w (some (.int (o.2 0))) w := by
  refine jC.of (maxL := 1) (cc := cX5_limit) (ret := (some .int)) rfl (by decide) [some (.ref b)] rfl (Nat.le_of_ble_eq_true rfl) (j_args rfl) (fun X hX => ?_)
  refine j_aload_n hX dX5_limit_0 rfl ?_
  refine j_getf hX (v := .int (o.2 0)) dX5_limit_1 fX5_limit_9_X9 q (cellO_10 h hq) rfl ?_
  exact j_iret hX dX5_limit_4 ⟨rfl, rfl⟩

set_option maxHeartbeats 4000000 in
set_option maxRecDepth 100000 in
theorem c_X5_itemsTaken (G : jG) {w : va_W} {b : Nat} : jD G 0 yX5_itemsTaken wsX5_itemsTaken [.ref b] w (some (.int 0)) w := by
  refine jC.of (maxL := 1) (cc := cX5_itemsTaken) (ret := (some .int)) rfl (by decide) [some (.ref b)] rfl (Nat.le_of_ble_eq_true rfl) (j_args rfl) (fun X hX => ?_)
  refine j_iconst hX (v := 0) (by decide) dX5_itemsTaken_0 ?_
  exact j_iret hX dX5_itemsTaken_1 ⟨rfl, rfl⟩

set_option maxHeartbeats 4000000 in
set_option maxRecDepth 100000 in
theorem c_X5_threshold (G : jG) {w : va_W} {b : Nat} : jD G 0 yX5_threshold wsX5_threshold [.ref b] w (some (.int (-1))) w := by
  refine jC.of (maxL := 1) (cc := cX5_threshold) (ret := (some .int)) rfl (by decide) [some (.ref b)] rfl (Nat.le_of_ble_eq_true rfl) (j_args rfl) (fun X hX => ?_)
  refine j_iconst hX (v := -1) (by decide) dX5_threshold_0 ?_
  exact j_iret hX dX5_threshold_1 ⟨rfl, rfl⟩

set_option maxHeartbeats 4000000 in
set_option maxRecDepth 100000 in
theorem c_X5_amount (G : jG) {w : va_W} {b : Nat} : jD G 0 yX5_amount wsX5_amount [.ref b] w (some (.int 0)) w := by
  refine jC.of (maxL := 1) (cc := cX5_amount) (ret := (some .int)) rfl (by decide) [some (.ref b)] rfl (Nat.le_of_ble_eq_true rfl) (j_args rfl) (fun X hX => ?_)
  refine j_iconst hX (v := 0) (by decide) dX5_amount_0 ?_
  exact j_iret hX dX5_amount_1 ⟨rfl, rfl⟩

set_option maxHeartbeats 4000000 in
set_option maxRecDepth 100000 in
theorem c_X5_discountOn (G : jG) {w : va_W} {b c : Nat} (m : Int32) : jD G 0 yX5_discountOn wsX5_discountOn [.ref b, .ref c, .int m] w (some (.int (-1))) w := by
  refine jC.of (maxL := 3) (cc := cX5_discountOn) (ret := (some .int)) rfl (by decide) [some (.ref b), some (.ref c), some (.int m)] rfl (Nat.le_of_ble_eq_true rfl) (j_args rfl) (fun X hX => ?_)
  refine j_iconst hX (v := -1) (by decide) dX5_discountOn_0 ?_
  exact j_iret hX dX5_discountOn_1 ⟨rfl, rfl⟩

set_option maxHeartbeats 4000000 in
set_option maxRecDepth 100000 in
theorem c_X7_itemsTaken (G : jG) {w : va_W} {b : Nat} : jD G 0 yX7_itemsTaken wsX7_itemsTaken [.ref b] w (some (.int 1)) w := by
  refine jC.of (maxL := 1) (cc := cX7_itemsTaken) (ret := (some .int)) rfl (by decide) [some (.ref b)] rfl (Nat.le_of_ble_eq_true rfl) (j_args rfl) (fun X hX => ?_)
  refine j_iconst hX (v := 1) (by decide) dX7_itemsTaken_0 ?_
  exact j_iret hX dX7_itemsTaken_1 ⟨rfl, rfl⟩

set_option maxHeartbeats 4000000 in
set_option maxRecDepth 100000 in
theorem c_X3_itemsTaken (G : jG) {w : va_W} {q b : Nat} (o : ofr) (h : o.1 = 5) (hq : w[q]? = some (b, cellO o)) : jD G 0 yX3_itemsTaken wsX3_itemsTaken [.ref b] w (some (.int (o.2 3))) w := by
  refine jC.of (maxL := 1) (cc := cX3_itemsTaken) (ret := (some .int)) rfl (by decide) [some (.ref b)] rfl (Nat.le_of_ble_eq_true rfl) (j_args rfl) (fun X hX => ?_)
  refine j_aload_n hX dX3_itemsTaken_0 rfl ?_
  refine j_getf hX (v := .int (o.2 3)) dX3_itemsTaken_1 fX3_itemsTaken_15 q (cellO_5 h hq) rfl ?_
  exact j_iret hX dX3_itemsTaken_4 ⟨rfl, rfl⟩

set_option maxHeartbeats 4000000 in
set_option maxRecDepth 100000 in
theorem c_X2_itemsTaken (G : jG) {w : va_W} {q b : Nat} (o : ofr) (h : o.1 = 4) (hq : w[q]? = some (b, cellO o)) : jD G 0 yX2_itemsTaken wsX2_itemsTaken [.ref b] w (some (.int (if o.2 4 = -1 then 2 else 3))) w := by
  refine jC.of (maxL := 1) (cc := cX2_itemsTaken) (ret := (some .int)) rfl (by decide) [some (.ref b)] rfl (Nat.le_of_ble_eq_true rfl) (j_args rfl) (fun X hX => ?_)
  refine j_aload_n hX dX2_itemsTaken_0 rfl ?_
  refine j_getf hX (v := .int (o.2 4)) dX2_itemsTaken_1 fX2_itemsTaken_18 q (cellO_4 h hq) rfl ?_
  refine j_iconst hX (v := -1) (by decide) dX2_itemsTaken_4 ?_
  refine j_icmp_ne hX (tgt := 12) dX2_itemsTaken_5 (by decide) (fun h5 => ?_) (fun h5 => ?_)
  · refine j_iconst hX (v := 3) (by decide) dX2_itemsTaken_12 ?_
    exact j_iret hX dX2_itemsTaken_13 ⟨(congrArg (fun z => some (Value.int z)) (if_neg h5)).symm, rfl⟩
  · refine j_iconst hX (v := 2) (by decide) dX2_itemsTaken_8 ?_
    refine j_goto hX (tgt := 13) dX2_itemsTaken_9 (by decide) ?_
    exact j_iret hX dX2_itemsTaken_13 ⟨(congrArg (fun z => some (Value.int z)) (if_pos h5)).symm, rfl⟩

set_option maxHeartbeats 4000000 in
set_option maxRecDepth 100000 in
theorem c_X9_threshold (G : jG) {w : va_W} {q b : Nat} (o : ofr) (h : o.1 = 10) (hq : w[q]? = some (b, cellO o)) : jD G 0 yX9_threshold wsX9_threshold [.ref b] w (some (.int (o.2 2))) w := by
  refine jC.of (maxL := 1) (cc := cX9_threshold) (ret := (some .int)) rfl (by decide) [some (.ref b)] rfl (Nat.le_of_ble_eq_true rfl) (j_args rfl) (fun X hX => ?_)
  refine j_aload_n hX dX9_threshold_0 rfl ?_
  refine j_getf hX (v := .int (o.2 2)) dX9_threshold_1 fX9_threshold_7 q (cellO_10 h hq) rfl ?_
  exact j_iret hX dX9_threshold_4 ⟨rfl, rfl⟩

set_option maxHeartbeats 4000000 in
set_option maxRecDepth 100000 in
theorem c_X9_amount (G : jG) {w : va_W} {q b : Nat} (o : ofr) (h : o.1 = 10) (hq : w[q]? = some (b, cellO o)) : jD G 0 yX9_amount wsX9_amount [.ref b] w (some (.int (o.2 3))) w := by
  refine jC.of (maxL := 1) (cc := cX9_amount) (ret := (some .int)) rfl (by decide) [some (.ref b)] rfl (Nat.le_of_ble_eq_true rfl) (j_args rfl) (fun X hX => ?_)
  refine j_aload_n hX dX9_amount_0 rfl ?_
  refine j_getf hX (v := .int (o.2 3)) dX9_amount_1 fX9_amount_13 q (cellO_10 h hq) rfl ?_
  exact j_iret hX dX9_amount_4 ⟨rfl, rfl⟩

set_option maxHeartbeats 4000000 in
set_option maxRecDepth 100000 in
theorem c_X7_discountOn (G : jG) (ad : Nat → Nat) (V : Nat → Int32) (M : Nat → Nat → Int32) (en : Nat → Option Nat) (wo : va_W) {q b : Nat} (o : ofr) (mask : Int32) (n : Nat) (hsz : V 2 = nI n) (hn : n ≤ 7) (h : o.1 = 8) (hq : (wC G ad V M en wo)[q]? = some (b, cellO o)) : jD G 2 yX7_discountOn wsX7_discountOn [.ref b, .ref (ad 1), .int mask] (wC G ad V M en wo) (some (.int (dPc o M mask n))) (wC G ad V M en wo) := by
  refine jC.of (maxL := 3) (cc := cX7_discountOn) (ret := (some .int)) rfl (by decide) [some (.ref b), some (.ref (ad 1)), some (.int mask)] rfl (Nat.le_of_ble_eq_true rfl) (j_args rfl) (fun X hX => ?_)
  refine j_aload_n hX dX7_discountOn_0 rfl ?_
  refine j_iload_n hX dX7_discountOn_1 rfl ?_
  refine j_aload_n hX dX7_discountOn_2 rfl ?_
  refine j_getf hX (v := .int (o.2 2)) dX7_discountOn_3 fX7_discountOn_9 q (cellO_8 h hq) rfl ?_
  refine j_dV hX (nA := 2) (cq := (RX0, TX0, 5)) (As := [.int mask, .int (o.2 2)]) (st := []) (st' := [.int (countOfF (M 3) mask (o.2 2) n)]) (ci := 2) rfl dX7_discountOn_6 (c_X0_countOf G _ _ _ _ _ _ _ n hsz hn) gX7_discountOn_X0_countOf rfl (by decide +kernel) (q := 1) (wCg1 _ _ _ _ _ _) (by omega) (Nat.le_of_ble_eq_true rfl) rfl (Nat.le_of_ble_eq_true rfl) rfl ⟨Nat.le_refl _, Nat.le_refl _⟩ rfl ?_
  refine j_iconst hX (v := 1) (by decide) dX7_discountOn_9 ?_
  refine j_icmp_ne hX (tgt := 29) dX7_discountOn_10 (by decide) (fun h10 => ?_) (fun h10 => ?_)
  · refine j_iconst hX (v := -1) (by decide) dX7_discountOn_29 ?_
    exact j_iret hX dX7_discountOn_30 ⟨(congrArg (fun z => some (Value.int z)) (if_neg h10)).symm, rfl⟩
  · refine j_aload_n hX dX7_discountOn_13 rfl ?_
    refine j_iload_n hX dX7_discountOn_14 rfl ?_
    refine j_dV hX (nA := 1) (cq := (RX0, TX0, 5)) (As := [.int mask]) (st := []) (st' := [.int (priceOfF (M 4) mask n)]) (ci := 2) rfl dX7_discountOn_15 (c_X0_priceOf G _ _ _ _ _ _ n hsz hn) gX7_discountOn_X0_priceOf rfl (by decide +kernel) (q := 1) (wCg1 _ _ _ _ _ _) (by omega) (Nat.le_of_ble_eq_true rfl) rfl (Nat.le_of_ble_eq_true rfl) rfl ⟨Nat.le_refl _, Nat.le_refl _⟩ rfl ?_
    refine j_aload_n hX dX7_discountOn_18 rfl ?_
    refine j_getf hX (v := .int (o.2 3)) dX7_discountOn_19 fX7_discountOn_15 q (cellO_8 h hq) rfl ?_
    refine j_imul hX dX7_discountOn_22 ?_
    refine j_bipush hX (v := 100) (by decide) dX7_discountOn_23 ?_
    refine j_idiv hX dX7_discountOn_25 (by decide) ?_
    refine j_goto hX (tgt := 30) dX7_discountOn_26 (by decide) ?_
    exact j_iret hX dX7_discountOn_30 ⟨(congrArg (fun z => some (Value.int z)) (if_pos h10)).symm, rfl⟩

set_option maxHeartbeats 4000000 in
set_option maxRecDepth 100000 in
theorem c_X3_discountOn (G : jG) (ad : Nat → Nat) (V : Nat → Int32) (M : Nat → Nat → Int32) (en : Nat → Option Nat) (wo : va_W) {q b : Nat} (o : ofr) (mask : Int32) (n : Nat) (hsz : V 2 = nI n) (hn : n ≤ 7) (h : o.1 = 5) (hq : (wC G ad V M en wo)[q]? = some (b, cellO o)) : jD G 2 yX3_discountOn wsX3_discountOn [.ref b, .ref (ad 1), .int mask] (wC G ad V M en wo) (some (.int (dFr o M mask n))) (wC G ad V M en wo) := by
  refine jC.of (maxL := 3) (cc := cX3_discountOn) (ret := (some .int)) rfl (by decide) [some (.ref b), some (.ref (ad 1)), some (.int mask)] rfl (Nat.le_of_ble_eq_true rfl) (j_args rfl) (fun X hX => ?_)
  refine j_aload_n hX dX3_discountOn_0 rfl ?_
  refine j_iload_n hX dX3_discountOn_1 rfl ?_
  refine j_aload_n hX dX3_discountOn_2 rfl ?_
  refine j_getf hX (v := .int (o.2 2)) dX3_discountOn_3 fX3_discountOn_9 q (cellO_5 h hq) rfl ?_
  refine j_dV hX (nA := 2) (cq := (RX0, TX0, 5)) (As := [.int mask, .int (o.2 2)]) (st := []) (st' := [.int (countOfF (M 3) mask (o.2 2) n)]) (ci := 2) rfl dX3_discountOn_6 (c_X0_countOf G _ _ _ _ _ _ _ n hsz hn) gX3_discountOn_X0_countOf rfl (by decide +kernel) (q := 1) (wCg1 _ _ _ _ _ _) (by omega) (Nat.le_of_ble_eq_true rfl) rfl (Nat.le_of_ble_eq_true rfl) rfl ⟨Nat.le_refl _, Nat.le_refl _⟩ rfl ?_
  refine j_aload_n hX dX3_discountOn_9 rfl ?_
  refine j_getf hX (v := .int (o.2 3)) dX3_discountOn_10 fX3_discountOn_15 q (cellO_5 h hq) rfl ?_
  refine j_icmp_ne hX (tgt := 24) dX3_discountOn_13 (by decide) (fun h13 => ?_) (fun h13 => ?_)
  · refine j_iconst hX (v := -1) (by decide) dX3_discountOn_24 ?_
    exact j_iret hX dX3_discountOn_25 ⟨(congrArg (fun z => some (Value.int z)) (if_neg h13)).symm, rfl⟩
  · refine j_aload_n hX dX3_discountOn_16 rfl ?_
    refine j_iload_n hX dX3_discountOn_17 rfl ?_
    refine j_dV hX (nA := 1) (cq := (RX0, TX0, 5)) (As := [.int mask]) (st := []) (st' := [.int (cheapF (M 4) mask n)]) (ci := 2) rfl dX3_discountOn_18 (c_X0_cheapestOf G _ _ _ _ _ _ n hsz hn) gX3_discountOn_X0_cheapestOf rfl (by decide +kernel) (q := 1) (wCg1 _ _ _ _ _ _) (by omega) (Nat.le_of_ble_eq_true rfl) rfl (Nat.le_of_ble_eq_true rfl) rfl ⟨Nat.le_refl _, Nat.le_refl _⟩ rfl ?_
    refine j_goto hX (tgt := 25) dX3_discountOn_21 (by decide) ?_
    exact j_iret hX dX3_discountOn_25 ⟨(congrArg (fun z => some (Value.int z)) (if_pos h13)).symm, rfl⟩

set_option maxHeartbeats 4000000 in
set_option maxRecDepth 100000 in
theorem c_X2_discountOn (G : jG) (ad : Nat → Nat) (V : Nat → Int32) (M : Nat → Nat → Int32) (en : Nat → Option Nat) (wo : va_W) {q b : Nat} (o : ofr) (mask : Int32) (n : Nat) (hsz : V 2 = nI n) (hn : n ≤ 7) (h : o.1 = 4) (hq : (wC G ad V M en wo)[q]? = some (b, cellO o)) : jD G 2 yX2_discountOn wsX2_discountOn [.ref b, .ref (ad 1), .int mask] (wC G ad V M en wo) (some (.int (dBu o M mask n))) (wC G ad V M en wo) := by
  refine jC.of (maxL := 4) (cc := cX2_discountOn) (ret := (some .int)) rfl (by decide) [some (.ref b), some (.ref (ad 1)), some (.int mask), none] rfl (Nat.le_of_ble_eq_true rfl) (j_args rfl) (fun X hX => ?_)
  refine j_aload_n hX dX2_discountOn_0 rfl ?_
  refine j_iload_n hX dX2_discountOn_1 rfl ?_
  refine j_aload_n hX dX2_discountOn_2 rfl ?_
  refine j_getf hX (v := .int (o.2 2)) dX2_discountOn_3 fX2_discountOn_9 q (cellO_4 h hq) rfl ?_
  refine j_dV hX (nA := 2) (cq := (RX0, TX0, 5)) (As := [.int mask, .int (o.2 2)]) (st := []) (st' := [.int (countOfF (M 3) mask (o.2 2) n)]) (ci := 2) rfl dX2_discountOn_6 (c_X0_countOf G _ _ _ _ _ _ _ n hsz hn) gX2_discountOn_X0_countOf rfl (by decide +kernel) (q := 1) (wCg1 _ _ _ _ _ _) (by omega) (Nat.le_of_ble_eq_true rfl) rfl (Nat.le_of_ble_eq_true rfl) rfl ⟨Nat.le_refl _, Nat.le_refl _⟩ rfl ?_
  refine j_aload_n hX dX2_discountOn_9 rfl ?_
  refine j_getf hX (v := .int (o.2 5)) dX2_discountOn_10 fX2_discountOn_24 q (cellO_4 h hq) rfl ?_
  refine j_icmp_ne hX (tgt := 56) dX2_discountOn_13 (by decide) (fun h13 => ?_) (fun h13 => ?_)
  · refine j_iconst hX (v := -1) (by decide) dX2_discountOn_56 ?_
    exact j_iret hX dX2_discountOn_57 ⟨(congrArg (fun z => some (Value.int z)) (if_neg h13)).symm, rfl⟩
  · refine j_aload_n hX dX2_discountOn_16 rfl ?_
    refine j_iload_n hX dX2_discountOn_17 rfl ?_
    refine j_aload_n hX dX2_discountOn_18 rfl ?_
    refine j_getf hX (v := .int (o.2 3)) dX2_discountOn_19 fX2_discountOn_15 q (cellO_4 h hq) rfl ?_
    refine j_dV hX (nA := 2) (cq := (RX0, TX0, 5)) (As := [.int mask, .int (o.2 3)]) (st := []) (st' := [.int (countOfF (M 3) mask (o.2 3) n)]) (ci := 2) rfl dX2_discountOn_22 (c_X0_countOf G _ _ _ _ _ _ _ n hsz hn) gX2_discountOn_X0_countOf rfl (by decide +kernel) (q := 1) (wCg1 _ _ _ _ _ _) (by omega) (Nat.le_of_ble_eq_true rfl) rfl (Nat.le_of_ble_eq_true rfl) rfl ⟨Nat.le_refl _, Nat.le_refl _⟩ rfl ?_
    refine j_aload_n hX dX2_discountOn_25 rfl ?_
    refine j_getf hX (v := .int (o.2 6)) dX2_discountOn_26 fX2_discountOn_27 q (cellO_4 h hq) rfl ?_
    refine j_icmp_ne hX (tgt := 56) dX2_discountOn_29 (by decide) (fun h29 => ?_) (fun h29 => ?_)
    · refine j_iconst hX (v := -1) (by decide) dX2_discountOn_56 ?_
      exact j_iret hX dX2_discountOn_57 ⟨(congrArg (fun z => some (Value.int z)) ((if_pos h13).trans (if_neg h29))).symm, rfl⟩
    · refine j_aload_n hX dX2_discountOn_32 rfl ?_
      refine j_getf hX (v := .int (o.2 4)) dX2_discountOn_33 fX2_discountOn_18 q (cellO_4 h hq) rfl ?_
      refine j_iconst hX (v := -1) (by decide) dX2_discountOn_36 ?_
      refine j_icmp_eq hX (tgt := 58) dX2_discountOn_37 (by decide) (fun h37 => ?_) (fun h37 => ?_)
      · refine j_aload_n hX dX2_discountOn_58 rfl ?_
        refine j_iload_n hX dX2_discountOn_59 rfl ?_
        refine j_dV hX (nA := 1) (cq := (RX0, TX0, 5)) (As := [.int mask]) (st := []) (st' := [.int (priceOfF (M 4) mask n)]) (ci := 2) rfl dX2_discountOn_60 (c_X0_priceOf G _ _ _ _ _ _ n hsz hn) gX2_discountOn_X0_priceOf rfl (by decide +kernel) (q := 1) (wCg1 _ _ _ _ _ _) (by omega) (Nat.le_of_ble_eq_true rfl) rfl (Nat.le_of_ble_eq_true rfl) rfl ⟨Nat.le_refl _, Nat.le_refl _⟩ rfl ?_
        refine j_aload_n hX dX2_discountOn_63 rfl ?_
        refine j_getf hX (v := .int (o.2 8)) dX2_discountOn_64 fX2_discountOn_21 q (cellO_4 h hq) rfl ?_
        refine j_isub hX dX2_discountOn_67 ?_
        refine j_istore_n hX (ls' := [some (.ref b), some (.ref (ad 1)), some (.int mask), some (.int ((priceOfF (M 4) mask n) - (o.2 8)))]) dX2_discountOn_68 (Nat.le_of_ble_eq_true rfl) rfl rfl ?_
        refine j_iload_n hX dX2_discountOn_69 rfl ?_
        refine j_if_le hX (tgt := 77) dX2_discountOn_70 (by decide) (fun h70 => ?_) (fun h70 => ?_)
        · refine j_iconst hX (v := -1) (by decide) dX2_discountOn_77 ?_
          exact j_iret hX dX2_discountOn_78 ⟨(congrArg (fun z => some (Value.int z)) ((((if_pos h13).trans (if_pos h29)).trans (if_pos h37)).trans (if_pos h70))).symm, rfl⟩
        · refine j_iload_n hX dX2_discountOn_73 rfl ?_
          refine j_goto hX (tgt := 78) dX2_discountOn_74 (by decide) ?_
          exact j_iret hX dX2_discountOn_78 ⟨(congrArg (fun z => some (Value.int z)) ((((if_pos h13).trans (if_pos h29)).trans (if_pos h37)).trans (if_neg h70))).symm, rfl⟩
      · refine j_aload_n hX dX2_discountOn_40 rfl ?_
        refine j_iload_n hX dX2_discountOn_41 rfl ?_
        refine j_aload_n hX dX2_discountOn_42 rfl ?_
        refine j_getf hX (v := .int (o.2 4)) dX2_discountOn_43 fX2_discountOn_18 q (cellO_4 h hq) rfl ?_
        refine j_dV hX (nA := 2) (cq := (RX0, TX0, 5)) (As := [.int mask, .int (o.2 4)]) (st := []) (st' := [.int (countOfF (M 3) mask (o.2 4) n)]) (ci := 2) rfl dX2_discountOn_46 (c_X0_countOf G _ _ _ _ _ _ _ n hsz hn) gX2_discountOn_X0_countOf rfl (by decide +kernel) (q := 1) (wCg1 _ _ _ _ _ _) (by omega) (Nat.le_of_ble_eq_true rfl) rfl (Nat.le_of_ble_eq_true rfl) rfl ⟨Nat.le_refl _, Nat.le_refl _⟩ rfl ?_
        refine j_aload_n hX dX2_discountOn_49 rfl ?_
        refine j_getf hX (v := .int (o.2 7)) dX2_discountOn_50 fX2_discountOn_30 q (cellO_4 h hq) rfl ?_
        refine j_icmp_eq hX (tgt := 58) dX2_discountOn_53 (by decide) (fun h53 => ?_) (fun h53 => ?_)
        · refine j_aload_n hX dX2_discountOn_58 rfl ?_
          refine j_iload_n hX dX2_discountOn_59 rfl ?_
          refine j_dV hX (nA := 1) (cq := (RX0, TX0, 5)) (As := [.int mask]) (st := []) (st' := [.int (priceOfF (M 4) mask n)]) (ci := 2) rfl dX2_discountOn_60 (c_X0_priceOf G _ _ _ _ _ _ n hsz hn) gX2_discountOn_X0_priceOf rfl (by decide +kernel) (q := 1) (wCg1 _ _ _ _ _ _) (by omega) (Nat.le_of_ble_eq_true rfl) rfl (Nat.le_of_ble_eq_true rfl) rfl ⟨Nat.le_refl _, Nat.le_refl _⟩ rfl ?_
          refine j_aload_n hX dX2_discountOn_63 rfl ?_
          refine j_getf hX (v := .int (o.2 8)) dX2_discountOn_64 fX2_discountOn_21 q (cellO_4 h hq) rfl ?_
          refine j_isub hX dX2_discountOn_67 ?_
          refine j_istore_n hX (ls' := [some (.ref b), some (.ref (ad 1)), some (.int mask), some (.int ((priceOfF (M 4) mask n) - (o.2 8)))]) dX2_discountOn_68 (Nat.le_of_ble_eq_true rfl) rfl rfl ?_
          refine j_iload_n hX dX2_discountOn_69 rfl ?_
          refine j_if_le hX (tgt := 77) dX2_discountOn_70 (by decide) (fun h70 => ?_) (fun h70 => ?_)
          · refine j_iconst hX (v := -1) (by decide) dX2_discountOn_77 ?_
            exact j_iret hX dX2_discountOn_78 ⟨(congrArg (fun z => some (Value.int z)) (((((if_pos h13).trans (if_pos h29)).trans (if_neg h37)).trans (if_pos h53)).trans (if_pos h70))).symm, rfl⟩
          · refine j_iload_n hX dX2_discountOn_73 rfl ?_
            refine j_goto hX (tgt := 78) dX2_discountOn_74 (by decide) ?_
            exact j_iret hX dX2_discountOn_78 ⟨(congrArg (fun z => some (Value.int z)) (((((if_pos h13).trans (if_pos h29)).trans (if_neg h37)).trans (if_pos h53)).trans (if_neg h70))).symm, rfl⟩
        · refine j_iconst hX (v := -1) (by decide) dX2_discountOn_56 ?_
          exact j_iret hX dX2_discountOn_57 ⟨(congrArg (fun z => some (Value.int z)) ((((if_pos h13).trans (if_pos h29)).trans (if_neg h37)).trans (if_neg h53))).symm, rfl⟩

def bc1 (x : Int32) : Int32 := x - ((x.toUInt32 >>> (Int32.toUInt32 1 &&& Int32.toUInt32 31)).toInt32 &&& 1431655765)
def bc2 (x : Int32) : Int32 := (x &&& 858993459) + ((x.toUInt32 >>> (Int32.toUInt32 2 &&& Int32.toUInt32 31)).toInt32 &&& 858993459)
def bc3 (x : Int32) : Int32 := (x + (x.toUInt32 >>> (Int32.toUInt32 4 &&& Int32.toUInt32 31)).toInt32) &&& 252645135
def bc4 (x : Int32) : Int32 := x + (x.toUInt32 >>> (Int32.toUInt32 8 &&& Int32.toUInt32 31)).toInt32
def bc5 (x : Int32) : Int32 := x + (x.toUInt32 >>> (Int32.toUInt32 16 &&& Int32.toUInt32 31)).toInt32
def bcF (x : Int32) : Int32 := bc5 (bc4 (bc3 (bc2 (bc1 x)))) &&& 63
set_option maxHeartbeats 4000000 in
set_option maxRecDepth 100000 in
theorem c_bitCount (G : jG) {w : va_W} (x : Int32) : jD G 0 yJ6_bitCount_0f7a4 wsJ6_bitCount_0f7a4 [.int x] w (some (.int (bcF x))) w := by
  refine jC.of (maxL := 1) (cc := cJ6_bitCount_0f7a4) (ret := (some .int)) rfl (by decide) [some (.int x)] rfl (Nat.le_of_ble_eq_true rfl) (j_args rfl) (fun X hX => ?_)
  refine j_iload_n hX dJ6_bitCount_0f7a4_0 rfl ?_
  refine j_iload_n hX dJ6_bitCount_0f7a4_1 rfl ?_
  refine j_iconst hX (v := 1) (by decide) dJ6_bitCount_0f7a4_2 ?_
  refine j_iushr hX dJ6_bitCount_0f7a4_3 ?_
  refine j_ldcw hX (v := 1431655765) dJ6_bitCount_0f7a4_4 (by decide +kernel) ?_
  refine j_iand hX dJ6_bitCount_0f7a4_7 ?_
  refine j_isub hX dJ6_bitCount_0f7a4_8 ?_
  refine jW.top (y := bc1 x) rfl ?_
  refine j_istore_n hX (ls' := [some (.int (bc1 x))]) dJ6_bitCount_0f7a4_9 (Nat.le_of_ble_eq_true rfl) rfl rfl ?_
  refine j_iload_n hX dJ6_bitCount_0f7a4_10 rfl ?_
  refine j_ldcw hX (v := 858993459) dJ6_bitCount_0f7a4_11 (by decide +kernel) ?_
  refine j_iand hX dJ6_bitCount_0f7a4_14 ?_
  refine j_iload_n hX dJ6_bitCount_0f7a4_15 rfl ?_
  refine j_iconst hX (v := 2) (by decide) dJ6_bitCount_0f7a4_16 ?_
  refine j_iushr hX dJ6_bitCount_0f7a4_17 ?_
  refine j_ldcw hX (v := 858993459) dJ6_bitCount_0f7a4_18 (by decide +kernel) ?_
  refine j_iand hX dJ6_bitCount_0f7a4_21 ?_
  refine j_iadd hX dJ6_bitCount_0f7a4_22 ?_
  refine jW.top (y := bc2 (bc1 x)) rfl ?_
  refine j_istore_n hX (ls' := [some (.int (bc2 (bc1 x)))]) dJ6_bitCount_0f7a4_23 (Nat.le_of_ble_eq_true rfl) rfl rfl ?_
  refine j_iload_n hX dJ6_bitCount_0f7a4_24 rfl ?_
  refine j_iload_n hX dJ6_bitCount_0f7a4_25 rfl ?_
  refine j_iconst hX (v := 4) (by decide) dJ6_bitCount_0f7a4_26 ?_
  refine j_iushr hX dJ6_bitCount_0f7a4_27 ?_
  refine j_iadd hX dJ6_bitCount_0f7a4_28 ?_
  refine j_ldcw hX (v := 252645135) dJ6_bitCount_0f7a4_29 (by decide +kernel) ?_
  refine j_iand hX dJ6_bitCount_0f7a4_32 ?_
  refine jW.top (y := bc3 (bc2 (bc1 x))) rfl ?_
  refine j_istore_n hX (ls' := [some (.int (bc3 (bc2 (bc1 x))))]) dJ6_bitCount_0f7a4_33 (Nat.le_of_ble_eq_true rfl) rfl rfl ?_
  refine j_iload_n hX dJ6_bitCount_0f7a4_34 rfl ?_
  refine j_iload_n hX dJ6_bitCount_0f7a4_35 rfl ?_
  refine j_bipush hX (v := 8) (by decide) dJ6_bitCount_0f7a4_36 ?_
  refine j_iushr hX dJ6_bitCount_0f7a4_38 ?_
  refine j_iadd hX dJ6_bitCount_0f7a4_39 ?_
  refine jW.top (y := bc4 (bc3 (bc2 (bc1 x)))) rfl ?_
  refine j_istore_n hX (ls' := [some (.int (bc4 (bc3 (bc2 (bc1 x)))))]) dJ6_bitCount_0f7a4_40 (Nat.le_of_ble_eq_true rfl) rfl rfl ?_
  refine j_iload_n hX dJ6_bitCount_0f7a4_41 rfl ?_
  refine j_iload_n hX dJ6_bitCount_0f7a4_42 rfl ?_
  refine j_bipush hX (v := 16) (by decide) dJ6_bitCount_0f7a4_43 ?_
  refine j_iushr hX dJ6_bitCount_0f7a4_45 ?_
  refine j_iadd hX dJ6_bitCount_0f7a4_46 ?_
  refine jW.top (y := bc5 (bc4 (bc3 (bc2 (bc1 x))))) rfl ?_
  refine j_istore_n hX (ls' := [some (.int (bc5 (bc4 (bc3 (bc2 (bc1 x))))))]) dJ6_bitCount_0f7a4_47 (Nat.le_of_ble_eq_true rfl) rfl rfl ?_
  refine j_iload_n hX dJ6_bitCount_0f7a4_48 rfl ?_
  refine j_bipush hX (v := 63) (by decide) dJ6_bitCount_0f7a4_49 ?_
  refine j_iand hX dJ6_bitCount_0f7a4_51 ?_
  exact j_iret hX dJ6_bitCount_0f7a4_52 ⟨rfl, rfl⟩

