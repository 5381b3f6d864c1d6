theorem fX5_isRivalOf_15_X7 : jF wsX5_isRivalOf RX5 15 8 1 true .int := ⟨(RX7, TX7, 4), tyX7, rfl, by decide, by decide +kernel, by decide +kernel, tyX7_ok, nmX7, rfl, by decide +kernel, by decide +kernel⟩
theorem fX5_isRivalOf_15_X3 : jF wsX5_isRivalOf RX5 15 5 1 true .int := ⟨(RX3, TX3, 4), tyX3, rfl, by decide, by decide +kernel, by decide +kernel, tyX3_ok, nmX3, rfl, by decide +kernel, by decide +kernel⟩
theorem fX5_isRivalOf_15_X2 : jF wsX5_isRivalOf RX5 15 4 1 true .int := ⟨(RX2, TX2, 9), tyX2, rfl, by decide, by decide +kernel, by decide +kernel, tyX2_ok, nmX2, rfl, by decide +kernel, by decide +kernel⟩
theorem fX5_isRivalOf_15_X9 : jF wsX5_isRivalOf RX5 15 10 1 true .int := ⟨(RX9, TX9, 4), tyX9, rfl, by decide, by decide +kernel, by decide +kernel, tyX9_ok, nmX9, rfl, by decide +kernel, by decide +kernel⟩
theorem fX6_append_30 : jF wsX6_append RX6 30 7 5 false .int := ⟨(RX6, TX6, 6), tyX6, rfl, by decide, by decide +kernel, by decide +kernel, tyX6_ok, nmX6, rfl, by decide +kernel, fun h => by cases h⟩
theorem fX6_append_11 : jF wsX6_append RX6 11 7 0 true (.array (.object "BasketOffers$Offer")) := ⟨(RX6, TX6, 6), tyX6, rfl, by decide, by decide +kernel, by decide +kernel, tyX6_ok, nmX6, rfl, by decide +kernel, by decide +kernel⟩
theorem fX6_append_21 : jF wsX6_append RX6 21 7 2 true (.array .int) := ⟨(RX6, TX6, 6), tyX6, rfl, by decide, by decide +kernel, by decide +kernel, tyX6_ok, nmX6, rfl, by decide +kernel, by decide +kernel⟩
theorem fX6_append_24 : jF wsX6_append RX6 24 7 3 true (.array .int) := ⟨(RX6, TX6, 6), tyX6, rfl, by decide, by decide +kernel, by decide +kernel, tyX6_ok, nmX6, rfl, by decide +kernel, by decide +kernel⟩
theorem fX6_append_17 : jF wsX6_append RX6 17 7 1 true (.array .int) := ⟨(RX6, TX6, 6), tyX6, rfl, by decide, by decide +kernel, by decide +kernel, tyX6_ok, nmX6, rfl, by decide +kernel, by decide +kernel⟩
def rivalV (o r : ofr) : Int32 := if o.2 1 = -1 then 0 else if o.2 1 = r.2 1 then 1 else 0
set_option maxHeartbeats 4000000 in
set_option maxRecDepth 100000 in
theorem c_isRivalOf_X7_X7 (G : jG) {w : va_W} {q b q2 b2 : Nat} (o r : ofr) (h : o.1 = 8) (h2 : r.1 = 8) (hq : w[q]? = some (b, cellO o)) (hq2 : w[q2]? = some (b2, cellO r)) : jD G 0 yX5_isRivalOf wsX5_isRivalOf [.ref b, .ref b2] w (some (.int (rivalV o r))) w := by
  refine jC.of (maxL := 2) (cc := cX5_isRivalOf) (ret := (some .boolean)) rfl (by decide) [some (.ref b), some (.ref b2)] rfl (Nat.le_of_ble_eq_true rfl) (j_args rfl) (fun X hX => ?_)
  refine j_aload_n hX dX5_isRivalOf_0 rfl ?_
  refine j_getf hX (v := .int (o.2 1)) dX5_isRivalOf_1 fX5_isRivalOf_15_X7 q (cellO_8 h hq) rfl ?_
  refine j_iconst hX (v := -1) (by decide) dX5_isRivalOf_4 ?_
  refine j_icmp_eq hX (tgt := 27) dX5_isRivalOf_5 (by decide) (fun h5 => ?_) (fun h5 => ?_)
  · refine j_iconst hX (v := 0) (by decide) dX5_isRivalOf_27 ?_
    exact j_zret hX (by decide) dX5_isRivalOf_28 ⟨(congrArg (fun z => some (Value.int z)) (show rivalV o r = 0 from (if_pos h5))).symm, rfl⟩
  · refine j_aload_n hX dX5_isRivalOf_8 rfl ?_
    refine j_ifnull hX dX5_isRivalOf_9 ?_
    refine j_aload_n hX dX5_isRivalOf_12 rfl ?_
    refine j_getf hX (v := .int (o.2 1)) dX5_isRivalOf_13 fX5_isRivalOf_15_X7 q (cellO_8 h hq) rfl ?_
    refine j_aload_n hX dX5_isRivalOf_16 rfl ?_
    refine j_getf hX (v := .int (r.2 1)) dX5_isRivalOf_17 fX5_isRivalOf_15_X7 q2 (cellO_8 h2 hq2) rfl ?_
    refine j_icmp_ne hX (tgt := 27) dX5_isRivalOf_20 (by decide) (fun h20 => ?_) (fun h20 => ?_)
    · refine j_iconst hX (v := 0) (by decide) dX5_isRivalOf_27 ?_
      exact j_zret hX (by decide) dX5_isRivalOf_28 ⟨(congrArg (fun z => some (Value.int z)) (show rivalV o r = 0 from ((if_neg h5).trans (if_neg h20)))).symm, rfl⟩
    · refine j_iconst hX (v := 1) (by decide) dX5_isRivalOf_23 ?_
      refine j_goto hX (tgt := 28) dX5_isRivalOf_24 (by decide) ?_
      exact j_zret hX (by decide) dX5_isRivalOf_28 ⟨(congrArg (fun z => some (Value.int z)) (show rivalV o r = 1 from ((if_neg h5).trans (if_pos h20)))).symm, rfl⟩

set_option maxHeartbeats 4000000 in
set_option maxRecDepth 100000 in
theorem c_isRivalOf_X7_X3 (G : jG) {w : va_W} {q b q2 b2 : Nat} (o r : ofr) (h : o.1 = 8) (h2 : r.1 = 5) (hq : w[q]? = some (b, cellO o)) (hq2 : w[q2]? = some (b2, cellO r)) : jD G 0 yX5_isRivalOf wsX5_isRivalOf [.ref b, .ref b2] w (some (.int (rivalV o r))) w := by
  refine jC.of (maxL := 2) (cc := cX5_isRivalOf) (ret := (some .boolean)) rfl (by decide) [some (.ref b), some (.ref b2)] rfl (Nat.le_of_ble_eq_true rfl) (j_args rfl) (fun X hX => ?_)
  refine j_aload_n hX dX5_isRivalOf_0 rfl ?_
  refine j_getf hX (v := .int (o.2 1)) dX5_isRivalOf_1 fX5_isRivalOf_15_X7 q (cellO_8 h hq) rfl ?_
  refine j_iconst hX (v := -1) (by decide) dX5_isRivalOf_4 ?_
  refine j_icmp_eq hX (tgt := 27) dX5_isRivalOf_5 (by decide) (fun h5 => ?_) (fun h5 => ?_)
  · refine j_iconst hX (v := 0) (by decide) dX5_isRivalOf_27 ?_
    exact j_zret hX (by decide) dX5_isRivalOf_28 ⟨(congrArg (fun z => some (Value.int z)) (show rivalV o r = 0 from (if_pos h5))).symm, rfl⟩
  · refine j_aload_n hX dX5_isRivalOf_8 rfl ?_
    refine j_ifnull hX dX5_isRivalOf_9 ?_
    refine j_aload_n hX dX5_isRivalOf_12 rfl ?_
    refine j_getf hX (v := .int (o.2 1)) dX5_isRivalOf_13 fX5_isRivalOf_15_X7 q (cellO_8 h hq) rfl ?_
    refine j_aload_n hX dX5_isRivalOf_16 rfl ?_
    refine j_getf hX (v := .int (r.2 1)) dX5_isRivalOf_17 fX5_isRivalOf_15_X3 q2 (cellO_5 h2 hq2) rfl ?_
    refine j_icmp_ne hX (tgt := 27) dX5_isRivalOf_20 (by decide) (fun h20 => ?_) (fun h20 => ?_)
    · refine j_iconst hX (v := 0) (by decide) dX5_isRivalOf_27 ?_
      exact j_zret hX (by decide) dX5_isRivalOf_28 ⟨(congrArg (fun z => some (Value.int z)) (show rivalV o r = 0 from ((if_neg h5).trans (if_neg h20)))).symm, rfl⟩
    · refine j_iconst hX (v := 1) (by decide) dX5_isRivalOf_23 ?_
      refine j_goto hX (tgt := 28) dX5_isRivalOf_24 (by decide) ?_
      exact j_zret hX (by decide) dX5_isRivalOf_28 ⟨(congrArg (fun z => some (Value.int z)) (show rivalV o r = 1 from ((if_neg h5).trans (if_pos h20)))).symm, rfl⟩

set_option maxHeartbeats 4000000 in
set_option maxRecDepth 100000 in
theorem c_isRivalOf_X7_X2 (G : jG) {w : va_W} {q b q2 b2 : Nat} (o r : ofr) (h : o.1 = 8) (h2 : r.1 = 4) (hq : w[q]? = some (b, cellO o)) (hq2 : w[q2]? = some (b2, cellO r)) : jD G 0 yX5_isRivalOf wsX5_isRivalOf [.ref b, .ref b2] w (some (.int (rivalV o r))) w := by
  refine jC.of (maxL := 2) (cc := cX5_isRivalOf) (ret := (some .boolean)) rfl (by decide) [some (.ref b), some (.ref b2)] rfl (Nat.le_of_ble_eq_true rfl) (j_args rfl) (fun X hX => ?_)
  refine j_aload_n hX dX5_isRivalOf_0 rfl ?_
  refine j_getf hX (v := .int (o.2 1)) dX5_isRivalOf_1 fX5_isRivalOf_15_X7 q (cellO_8 h hq) rfl ?_
  refine j_iconst hX (v := -1) (by decide) dX5_isRivalOf_4 ?_
  refine j_icmp_eq hX (tgt := 27) dX5_isRivalOf_5 (by decide) (fun h5 => ?_) (fun h5 => ?_)
  · refine j_iconst hX (v := 0) (by decide) dX5_isRivalOf_27 ?_
    exact j_zret hX (by decide) dX5_isRivalOf_28 ⟨(congrArg (fun z => some (Value.int z)) (show rivalV o r = 0 from (if_pos h5))).symm, rfl⟩
  · refine j_aload_n hX dX5_isRivalOf_8 rfl ?_
    refine j_ifnull hX dX5_isRivalOf_9 ?_
    refine j_aload_n hX dX5_isRivalOf_12 rfl ?_
    refine j_getf hX (v := .int (o.2 1)) dX5_isRivalOf_13 fX5_isRivalOf_15_X7 q (cellO_8 h hq) rfl ?_
    refine j_aload_n hX dX5_isRivalOf_16 rfl ?_
    refine j_getf hX (v := .int (r.2 1)) dX5_isRivalOf_17 fX5_isRivalOf_15_X2 q2 (cellO_4 h2 hq2) rfl ?_
    refine j_icmp_ne hX (tgt := 27) dX5_isRivalOf_20 (by decide) (fun h20 => ?_) (fun h20 => ?_)
    · refine j_iconst hX (v := 0) (by decide) dX5_isRivalOf_27 ?_
      exact j_zret hX (by decide) dX5_isRivalOf_28 ⟨(congrArg (fun z => some (Value.int z)) (show rivalV o r = 0 from ((if_neg h5).trans (if_neg h20)))).symm, rfl⟩
    · refine j_iconst hX (v := 1) (by decide) dX5_isRivalOf_23 ?_
      refine j_goto hX (tgt := 28) dX5_isRivalOf_24 (by decide) ?_
      exact j_zret hX (by decide) dX5_isRivalOf_28 ⟨(congrArg (fun z => some (Value.int z)) (show rivalV o r = 1 from ((if_neg h5).trans (if_pos h20)))).symm, rfl⟩

set_option maxHeartbeats 4000000 in
set_option maxRecDepth 100000 in
theorem c_isRivalOf_X7_X9 (G : jG) {w : va_W} {q b q2 b2 : Nat} (o r : ofr) (h : o.1 = 8) (h2 : r.1 = 10) (hq : w[q]? = some (b, cellO o)) (hq2 : w[q2]? = some (b2, cellO r)) : jD G 0 yX5_isRivalOf wsX5_isRivalOf [.ref b, .ref b2] w (some (.int (rivalV o r))) w := by
  refine jC.of (maxL := 2) (cc := cX5_isRivalOf) (ret := (some .boolean)) rfl (by decide) [some (.ref b), some (.ref b2)] rfl (Nat.le_of_ble_eq_true rfl) (j_args rfl) (fun X hX => ?_)
  refine j_aload_n hX dX5_isRivalOf_0 rfl ?_
  refine j_getf hX (v := .int (o.2 1)) dX5_isRivalOf_1 fX5_isRivalOf_15_X7 q (cellO_8 h hq) rfl ?_
  refine j_iconst hX (v := -1) (by decide) dX5_isRivalOf_4 ?_
  refine j_icmp_eq hX (tgt := 27) dX5_isRivalOf_5 (by decide) (fun h5 => ?_) (fun h5 => ?_)
  · refine j_iconst hX (v := 0) (by decide) dX5_isRivalOf_27 ?_
    exact j_zret hX (by decide) dX5_isRivalOf_28 ⟨(congrArg (fun z => some (Value.int z)) (show rivalV o r = 0 from (if_pos h5))).symm, rfl⟩
  · refine j_aload_n hX dX5_isRivalOf_8 rfl ?_
    refine j_ifnull hX dX5_isRivalOf_9 ?_
    refine j_aload_n hX dX5_isRivalOf_12 rfl ?_
    refine j_getf hX (v := .int (o.2 1)) dX5_isRivalOf_13 fX5_isRivalOf_15_X7 q (cellO_8 h hq) rfl ?_
    refine j_aload_n hX dX5_isRivalOf_16 rfl ?_
    refine j_getf hX (v := .int (r.2 1)) dX5_isRivalOf_17 fX5_isRivalOf_15_X9 q2 (cellO_10 h2 hq2) rfl ?_
    refine j_icmp_ne hX (tgt := 27) dX5_isRivalOf_20 (by decide) (fun h20 => ?_) (fun h20 => ?_)
    · refine j_iconst hX (v := 0) (by decide) dX5_isRivalOf_27 ?_
      exact j_zret hX (by decide) dX5_isRivalOf_28 ⟨(congrArg (fun z => some (Value.int z)) (show rivalV o r = 0 from ((if_neg h5).trans (if_neg h20)))).symm, rfl⟩
    · refine j_iconst hX (v := 1) (by decide) dX5_isRivalOf_23 ?_
      refine j_goto hX (tgt := 28) dX5_isRivalOf_24 (by decide) ?_
      exact j_zret hX (by decide) dX5_isRivalOf_28 ⟨(congrArg (fun z => some (Value.int z)) (show rivalV o r = 1 from ((if_neg h5).trans (if_pos h20)))).symm, rfl⟩

set_option maxHeartbeats 4000000 in
set_option maxRecDepth 100000 in
theorem c_isRivalOf_X3_X7 (G : jG) {w : va_W} {q b q2 b2 : Nat} (o r : ofr) (h : o.1 = 5) (h2 : r.1 = 8) (hq : w[q]? = some (b, cellO o)) (hq2 : w[q2]? = some (b2, cellO r)) : jD G 0 yX5_isRivalOf wsX5_isRivalOf [.ref b, .ref b2] w (some (.int (rivalV o r))) w := by
  refine jC.of (maxL := 2) (cc := cX5_isRivalOf) (ret := (some .boolean)) rfl (by decide) [some (.ref b), some (.ref b2)] rfl (Nat.le_of_ble_eq_true rfl) (j_args rfl) (fun X hX => ?_)
  refine j_aload_n hX dX5_isRivalOf_0 rfl ?_
  refine j_getf hX (v := .int (o.2 1)) dX5_isRivalOf_1 fX5_isRivalOf_15_X3 q (cellO_5 h hq) rfl ?_
  refine j_iconst hX (v := -1) (by decide) dX5_isRivalOf_4 ?_
  refine j_icmp_eq hX (tgt := 27) dX5_isRivalOf_5 (by decide) (fun h5 => ?_) (fun h5 => ?_)
  · refine j_iconst hX (v := 0) (by decide) dX5_isRivalOf_27 ?_
    exact j_zret hX (by decide) dX5_isRivalOf_28 ⟨(congrArg (fun z => some (Value.int z)) (show rivalV o r = 0 from (if_pos h5))).symm, rfl⟩
  · refine j_aload_n hX dX5_isRivalOf_8 rfl ?_
    refine j_ifnull hX dX5_isRivalOf_9 ?_
    refine j_aload_n hX dX5_isRivalOf_12 rfl ?_
    refine j_getf hX (v := .int (o.2 1)) dX5_isRivalOf_13 fX5_isRivalOf_15_X3 q (cellO_5 h hq) rfl ?_
    refine j_aload_n hX dX5_isRivalOf_16 rfl ?_
    refine j_getf hX (v := .int (r.2 1)) dX5_isRivalOf_17 fX5_isRivalOf_15_X7 q2 (cellO_8 h2 hq2) rfl ?_
    refine j_icmp_ne hX (tgt := 27) dX5_isRivalOf_20 (by decide) (fun h20 => ?_) (fun h20 => ?_)
    · refine j_iconst hX (v := 0) (by decide) dX5_isRivalOf_27 ?_
      exact j_zret hX (by decide) dX5_isRivalOf_28 ⟨(congrArg (fun z => some (Value.int z)) (show rivalV o r = 0 from ((if_neg h5).trans (if_neg h20)))).symm, rfl⟩
    · refine j_iconst hX (v := 1) (by decide) dX5_isRivalOf_23 ?_
      refine j_goto hX (tgt := 28) dX5_isRivalOf_24 (by decide) ?_
      exact j_zret hX (by decide) dX5_isRivalOf_28 ⟨(congrArg (fun z => some (Value.int z)) (show rivalV o r = 1 from ((if_neg h5).trans (if_pos h20)))).symm, rfl⟩

set_option maxHeartbeats 4000000 in
set_option maxRecDepth 100000 in
theorem c_isRivalOf_X3_X3 (G : jG) {w : va_W} {q b q2 b2 : Nat} (o r : ofr) (h : o.1 = 5) (h2 : r.1 = 5) (hq : w[q]? = some (b, cellO o)) (hq2 : w[q2]? = some (b2, cellO r)) : jD G 0 yX5_isRivalOf wsX5_isRivalOf [.ref b, .ref b2] w (some (.int (rivalV o r))) w := by
  refine jC.of (maxL := 2) (cc := cX5_isRivalOf) (ret := (some .boolean)) rfl (by decide) [some (.ref b), some (.ref b2)] rfl (Nat.le_of_ble_eq_true rfl) (j_args rfl) (fun X hX => ?_)
  refine j_aload_n hX dX5_isRivalOf_0 rfl ?_
  refine j_getf hX (v := .int (o.2 1)) dX5_isRivalOf_1 fX5_isRivalOf_15_X3 q (cellO_5 h hq) rfl ?_
  refine j_iconst hX (v := -1) (by decide) dX5_isRivalOf_4 ?_
  refine j_icmp_eq hX (tgt := 27) dX5_isRivalOf_5 (by decide) (fun h5 => ?_) (fun h5 => ?_)
  · refine j_iconst hX (v := 0) (by decide) dX5_isRivalOf_27 ?_
    exact j_zret hX (by decide) dX5_isRivalOf_28 ⟨(congrArg (fun z => some (Value.int z)) (show rivalV o r = 0 from (if_pos h5))).symm, rfl⟩
  · refine j_aload_n hX dX5_isRivalOf_8 rfl ?_
    refine j_ifnull hX dX5_isRivalOf_9 ?_
    refine j_aload_n hX dX5_isRivalOf_12 rfl ?_
    refine j_getf hX (v := .int (o.2 1)) dX5_isRivalOf_13 fX5_isRivalOf_15_X3 q (cellO_5 h hq) rfl ?_
    refine j_aload_n hX dX5_isRivalOf_16 rfl ?_
    refine j_getf hX (v := .int (r.2 1)) dX5_isRivalOf_17 fX5_isRivalOf_15_X3 q2 (cellO_5 h2 hq2) rfl ?_
    refine j_icmp_ne hX (tgt := 27) dX5_isRivalOf_20 (by decide) (fun h20 => ?_) (fun h20 => ?_)
    · refine j_iconst hX (v := 0) (by decide) dX5_isRivalOf_27 ?_
      exact j_zret hX (by decide) dX5_isRivalOf_28 ⟨(congrArg (fun z => some (Value.int z)) (show rivalV o r = 0 from ((if_neg h5).trans (if_neg h20)))).symm, rfl⟩
    · refine j_iconst hX (v := 1) (by decide) dX5_isRivalOf_23 ?_
      refine j_goto hX (tgt := 28) dX5_isRivalOf_24 (by decide) ?_
      exact j_zret hX (by decide) dX5_isRivalOf_28 ⟨(congrArg (fun z => some (Value.int z)) (show rivalV o r = 1 from ((if_neg h5).trans (if_pos h20)))).symm, rfl⟩

set_option maxHeartbeats 4000000 in
set_option maxRecDepth 100000 in
theorem c_isRivalOf_X3_X2 (G : jG) {w : va_W} {q b q2 b2 : Nat} (o r : ofr) (h : o.1 = 5) (h2 : r.1 = 4) (hq : w[q]? = some (b, cellO o)) (hq2 : w[q2]? = some (b2, cellO r)) : jD G 0 yX5_isRivalOf wsX5_isRivalOf [.ref b, .ref b2] w (some (.int (rivalV o r))) w := by
  refine jC.of (maxL := 2) (cc := cX5_isRivalOf) (ret := (some .boolean)) rfl (by decide) [some (.ref b), some (.ref b2)] rfl (Nat.le_of_ble_eq_true rfl) (j_args rfl) (fun X hX => ?_)
  refine j_aload_n hX dX5_isRivalOf_0 rfl ?_
  refine j_getf hX (v := .int (o.2 1)) dX5_isRivalOf_1 fX5_isRivalOf_15_X3 q (cellO_5 h hq) rfl ?_
  refine j_iconst hX (v := -1) (by decide) dX5_isRivalOf_4 ?_
  refine j_icmp_eq hX (tgt := 27) dX5_isRivalOf_5 (by decide) (fun h5 => ?_) (fun h5 => ?_)
  · refine j_iconst hX (v := 0) (by decide) dX5_isRivalOf_27 ?_
    exact j_zret hX (by decide) dX5_isRivalOf_28 ⟨(congrArg (fun z => some (Value.int z)) (show rivalV o r = 0 from (if_pos h5))).symm, rfl⟩
  · refine j_aload_n hX dX5_isRivalOf_8 rfl ?_
    refine j_ifnull hX dX5_isRivalOf_9 ?_
    refine j_aload_n hX dX5_isRivalOf_12 rfl ?_
    refine j_getf hX (v := .int (o.2 1)) dX5_isRivalOf_13 fX5_isRivalOf_15_X3 q (cellO_5 h hq) rfl ?_
    refine j_aload_n hX dX5_isRivalOf_16 rfl ?_
    refine j_getf hX (v := .int (r.2 1)) dX5_isRivalOf_17 fX5_isRivalOf_15_X2 q2 (cellO_4 h2 hq2) rfl ?_
    refine j_icmp_ne hX (tgt := 27) dX5_isRivalOf_20 (by decide) (fun h20 => ?_) (fun h20 => ?_)
    · refine j_iconst hX (v := 0) (by decide) dX5_isRivalOf_27 ?_
      exact j_zret hX (by decide) dX5_isRivalOf_28 ⟨(congrArg (fun z => some (Value.int z)) (show rivalV o r = 0 from ((if_neg h5).trans (if_neg h20)))).symm, rfl⟩
    · refine j_iconst hX (v := 1) (by decide) dX5_isRivalOf_23 ?_
      refine j_goto hX (tgt := 28) dX5_isRivalOf_24 (by decide) ?_
      exact j_zret hX (by decide) dX5_isRivalOf_28 ⟨(congrArg (fun z => some (Value.int z)) (show rivalV o r = 1 from ((if_neg h5).trans (if_pos h20)))).symm, rfl⟩

set_option maxHeartbeats 4000000 in
set_option maxRecDepth 100000 in
theorem c_isRivalOf_X3_X9 (G : jG) {w : va_W} {q b q2 b2 : Nat} (o r : ofr) (h : o.1 = 5) (h2 : r.1 = 10) (hq : w[q]? = some (b, cellO o)) (hq2 : w[q2]? = some (b2, cellO r)) : jD G 0 yX5_isRivalOf wsX5_isRivalOf [.ref b, .ref b2] w (some (.int (rivalV o r))) w := by
  refine jC.of (maxL := 2) (cc := cX5_isRivalOf) (ret := (some .boolean)) rfl (by decide) [some (.ref b), some (.ref b2)] rfl (Nat.le_of_ble_eq_true rfl) (j_args rfl) (fun X hX => ?_)
  refine j_aload_n hX dX5_isRivalOf_0 rfl ?_
  refine j_getf hX (v := .int (o.2 1)) dX5_isRivalOf_1 fX5_isRivalOf_15_X3 q (cellO_5 h hq) rfl ?_
  refine j_iconst hX (v := -1) (by decide) dX5_isRivalOf_4 ?_
  refine j_icmp_eq hX (tgt := 27) dX5_isRivalOf_5 (by decide) (fun h5 => ?_) (fun h5 => ?_)
  · refine j_iconst hX (v := 0) (by decide) dX5_isRivalOf_27 ?_
    exact j_zret hX (by decide) dX5_isRivalOf_28 ⟨(congrArg (fun z => some (Value.int z)) (show rivalV o r = 0 from (if_pos h5))).symm, rfl⟩
  · refine j_aload_n hX dX5_isRivalOf_8 rfl ?_
    refine j_ifnull hX dX5_isRivalOf_9 ?_
    refine j_aload_n hX dX5_isRivalOf_12 rfl ?_
    refine j_getf hX (v := .int (o.2 1)) dX5_isRivalOf_13 fX5_isRivalOf_15_X3 q (cellO_5 h hq) rfl ?_
    refine j_aload_n hX dX5_isRivalOf_16 rfl ?_
    refine j_getf hX (v := .int (r.2 1)) dX5_isRivalOf_17 fX5_isRivalOf_15_X9 q2 (cellO_10 h2 hq2) rfl ?_
    refine j_icmp_ne hX (tgt := 27) dX5_isRivalOf_20 (by decide) (fun h20 => ?_) (fun h20 => ?_)
    · refine j_iconst hX (v := 0) (by decide) dX5_isRivalOf_27 ?_
      exact j_zret hX (by decide) dX5_isRivalOf_28 ⟨(congrArg (fun z => some (Value.int z)) (show rivalV o r = 0 from ((if_neg h5).trans (if_neg h20)))).symm, rfl⟩
    · refine j_iconst hX (v := 1) (by decide) dX5_isRivalOf_23 ?_
      refine j_goto hX (tgt := 28) dX5_isRivalOf_24 (by decide) ?_
      exact j_zret hX (by decide) dX5_isRivalOf_28 ⟨(congrArg (fun z => some (Value.int z)) (show rivalV o r = 1 from ((if_neg h5).trans (if_pos h20)))).symm, rfl⟩

set_option maxHeartbeats 4000000 in
set_option maxRecDepth 100000 in
theorem c_isRivalOf_X2_X7 (G : jG) {w : va_W} {q b q2 b2 : Nat} (o r : ofr) (h : o.1 = 4) (h2 : r.1 = 8) (hq : w[q]? = some (b, cellO o)) (hq2 : w[q2]? = some (b2, cellO r)) : jD G 0 yX5_isRivalOf wsX5_isRivalOf [.ref b, .ref b2] w (some (.int (rivalV o r))) w := by
  refine jC.of (maxL := 2) (cc := cX5_isRivalOf) (ret := (some .boolean)) rfl (by decide) [some (.ref b), some (.ref b2)] rfl (Nat.le_of_ble_eq_true rfl) (j_args rfl) (fun X hX => ?_)
  refine j_aload_n hX dX5_isRivalOf_0 rfl ?_
  refine j_getf hX (v := .int (o.2 1)) dX5_isRivalOf_1 fX5_isRivalOf_15_X2 q (cellO_4 h hq) rfl ?_
  refine j_iconst hX (v := -1) (by decide) dX5_isRivalOf_4 ?_
  refine j_icmp_eq hX (tgt := 27) dX5_isRivalOf_5 (by decide) (fun h5 => ?_) (fun h5 => ?_)
  · refine j_iconst hX (v := 0) (by decide) dX5_isRivalOf_27 ?_
    exact j_zret hX (by decide) dX5_isRivalOf_28 ⟨(congrArg (fun z => some (Value.int z)) (show rivalV o r = 0 from (if_pos h5))).symm, rfl⟩
  · refine j_aload_n hX dX5_isRivalOf_8 rfl ?_
    refine j_ifnull hX dX5_isRivalOf_9 ?_
    refine j_aload_n hX dX5_isRivalOf_12 rfl ?_
    refine j_getf hX (v := .int (o.2 1)) dX5_isRivalOf_13 fX5_isRivalOf_15_X2 q (cellO_4 h hq) rfl ?_
    refine j_aload_n hX dX5_isRivalOf_16 rfl ?_
    refine j_getf hX (v := .int (r.2 1)) dX5_isRivalOf_17 fX5_isRivalOf_15_X7 q2 (cellO_8 h2 hq2) rfl ?_
    refine j_icmp_ne hX (tgt := 27) dX5_isRivalOf_20 (by decide) (fun h20 => ?_) (fun h20 => ?_)
    · refine j_iconst hX (v := 0) (by decide) dX5_isRivalOf_27 ?_
      exact j_zret hX (by decide) dX5_isRivalOf_28 ⟨(congrArg (fun z => some (Value.int z)) (show rivalV o r = 0 from ((if_neg h5).trans (if_neg h20)))).symm, rfl⟩
    · refine j_iconst hX (v := 1) (by decide) dX5_isRivalOf_23 ?_
      refine j_goto hX (tgt := 28) dX5_isRivalOf_24 (by decide) ?_
      exact j_zret hX (by decide) dX5_isRivalOf_28 ⟨(congrArg (fun z => some (Value.int z)) (show rivalV o r = 1 from ((if_neg h5).trans (if_pos h20)))).symm, rfl⟩

set_option maxHeartbeats 4000000 in
set_option maxRecDepth 100000 in
theorem c_isRivalOf_X2_X3 (G : jG) {w : va_W} {q b q2 b2 : Nat} (o r : ofr) (h : o.1 = 4) (h2 : r.1 = 5) (hq : w[q]? = some (b, cellO o)) (hq2 : w[q2]? = some (b2, cellO r)) : jD G 0 yX5_isRivalOf wsX5_isRivalOf [.ref b, .ref b2] w (some (.int (rivalV o r))) w := by
  refine jC.of (maxL := 2) (cc := cX5_isRivalOf) (ret := (some .boolean)) rfl (by decide) [some (.ref b), some (.ref b2)] rfl (Nat.le_of_ble_eq_true rfl) (j_args rfl) (fun X hX => ?_)
  refine j_aload_n hX dX5_isRivalOf_0 rfl ?_
  refine j_getf hX (v := .int (o.2 1)) dX5_isRivalOf_1 fX5_isRivalOf_15_X2 q (cellO_4 h hq) rfl ?_
  refine j_iconst hX (v := -1) (by decide) dX5_isRivalOf_4 ?_
  refine j_icmp_eq hX (tgt := 27) dX5_isRivalOf_5 (by decide) (fun h5 => ?_) (fun h5 => ?_)
  · refine j_iconst hX (v := 0) (by decide) dX5_isRivalOf_27 ?_
    exact j_zret hX (by decide) dX5_isRivalOf_28 ⟨(congrArg (fun z => some (Value.int z)) (show rivalV o r = 0 from (if_pos h5))).symm, rfl⟩
  · refine j_aload_n hX dX5_isRivalOf_8 rfl ?_
    refine j_ifnull hX dX5_isRivalOf_9 ?_
    refine j_aload_n hX dX5_isRivalOf_12 rfl ?_
    refine j_getf hX (v := .int (o.2 1)) dX5_isRivalOf_13 fX5_isRivalOf_15_X2 q (cellO_4 h hq) rfl ?_
    refine j_aload_n hX dX5_isRivalOf_16 rfl ?_
    refine j_getf hX (v := .int (r.2 1)) dX5_isRivalOf_17 fX5_isRivalOf_15_X3 q2 (cellO_5 h2 hq2) rfl ?_
    refine j_icmp_ne hX (tgt := 27) dX5_isRivalOf_20 (by decide) (fun h20 => ?_) (fun h20 => ?_)
    · refine j_iconst hX (v := 0) (by decide) dX5_isRivalOf_27 ?_
      exact j_zret hX (by decide) dX5_isRivalOf_28 ⟨(congrArg (fun z => some (Value.int z)) (show rivalV o r = 0 from ((if_neg h5).trans (if_neg h20)))).symm, rfl⟩
    · refine j_iconst hX (v := 1) (by decide) dX5_isRivalOf_23 ?_
      refine j_goto hX (tgt := 28) dX5_isRivalOf_24 (by decide) ?_
      exact j_zret hX (by decide) dX5_isRivalOf_28 ⟨(congrArg (fun z => some (Value.int z)) (show rivalV o r = 1 from ((if_neg h5).trans (if_pos h20)))).symm, rfl⟩

set_option maxHeartbeats 4000000 in
set_option maxRecDepth 100000 in
theorem c_isRivalOf_X2_X2 (G : jG) {w : va_W} {q b q2 b2 : Nat} (o r : ofr) (h : o.1 = 4) (h2 : r.1 = 4) (hq : w[q]? = some (b, cellO o)) (hq2 : w[q2]? = some (b2, cellO r)) : jD G 0 yX5_isRivalOf wsX5_isRivalOf [.ref b, .ref b2] w (some (.int (rivalV o r))) w := by
  refine jC.of (maxL := 2) (cc := cX5_isRivalOf) (ret := (some .boolean)) rfl (by decide) [some (.ref b), some (.ref b2)] rfl (Nat.le_of_ble_eq_true rfl) (j_args rfl) (fun X hX => ?_)
  refine j_aload_n hX dX5_isRivalOf_0 rfl ?_
  refine j_getf hX (v := .int (o.2 1)) dX5_isRivalOf_1 fX5_isRivalOf_15_X2 q (cellO_4 h hq) rfl ?_
  refine j_iconst hX (v := -1) (by decide) dX5_isRivalOf_4 ?_
  refine j_icmp_eq hX (tgt := 27) dX5_isRivalOf_5 (by decide) (fun h5 => ?_) (fun h5 => ?_)
  · refine j_iconst hX (v := 0) (by decide) dX5_isRivalOf_27 ?_
    exact j_zret hX (by decide) dX5_isRivalOf_28 ⟨(congrArg (fun z => some (Value.int z)) (show rivalV o r = 0 from (if_pos h5))).symm, rfl⟩
  · refine j_aload_n hX dX5_isRivalOf_8 rfl ?_
    refine j_ifnull hX dX5_isRivalOf_9 ?_
    refine j_aload_n hX dX5_isRivalOf_12 rfl ?_
    refine j_getf hX (v := .int (o.2 1)) dX5_isRivalOf_13 fX5_isRivalOf_15_X2 q (cellO_4 h hq) rfl ?_
    refine j_aload_n hX dX5_isRivalOf_16 rfl ?_
    refine j_getf hX (v := .int (r.2 1)) dX5_isRivalOf_17 fX5_isRivalOf_15_X2 q2 (cellO_4 h2 hq2) rfl ?_
    refine j_icmp_ne hX (tgt := 27) dX5_isRivalOf_20 (by decide) (fun h20 => ?_) (fun h20 => ?_)
    · refine j_iconst hX (v := 0) (by decide) dX5_isRivalOf_27 ?_
      exact j_zret hX (by decide) dX5_isRivalOf_28 ⟨(congrArg (fun z => some (Value.int z)) (show rivalV o r = 0 from ((if_neg h5).trans (if_neg h20)))).symm, rfl⟩
    · refine j_iconst hX (v := 1) (by decide) dX5_isRivalOf_23 ?_
      refine j_goto hX (tgt := 28) dX5_isRivalOf_24 (by decide) ?_
      exact j_zret hX (by decide) dX5_isRivalOf_28 ⟨(congrArg (fun z => some (Value.int z)) (show rivalV o r = 1 from ((if_neg h5).trans (if_pos h20)))).symm, rfl⟩

set_option maxHeartbeats 4000000 in
set_option maxRecDepth 100000 in
theorem c_isRivalOf_X2_X9 (G : jG) {w : va_W} {q b q2 b2 : Nat} (o r : ofr) (h : o.1 = 4) (h2 : r.1 = 10) (hq : w[q]? = some (b, cellO o)) (hq2 : w[q2]? = some (b2, cellO r)) : jD G 0 yX5_isRivalOf wsX5_isRivalOf [.ref b, .ref b2] w (some (.int (rivalV o r))) w := by
  refine jC.of (maxL := 2) (cc := cX5_isRivalOf) (ret := (some .boolean)) rfl (by decide) [some (.ref b), some (.ref b2)] rfl (Nat.le_of_ble_eq_true rfl) (j_args rfl) (fun X hX => ?_)
  refine j_aload_n hX dX5_isRivalOf_0 rfl ?_
  refine j_getf hX (v := .int (o.2 1)) dX5_isRivalOf_1 fX5_isRivalOf_15_X2 q (cellO_4 h hq) rfl ?_
  refine j_iconst hX (v := -1) (by decide) dX5_isRivalOf_4 ?_
  refine j_icmp_eq hX (tgt := 27) dX5_isRivalOf_5 (by decide) (fun h5 => ?_) (fun h5 => ?_)
  · refine j_iconst hX (v := 0) (by decide) dX5_isRivalOf_27 ?_
    exact j_zret hX (by decide) dX5_isRivalOf_28 ⟨(congrArg (fun z => some (Value.int z)) (show rivalV o r = 0 from (if_pos h5))).symm, rfl⟩
  · refine j_aload_n hX dX5_isRivalOf_8 rfl ?_
    refine j_ifnull hX dX5_isRivalOf_9 ?_
    refine j_aload_n hX dX5_isRivalOf_12 rfl ?_
    refine j_getf hX (v := .int (o.2 1)) dX5_isRivalOf_13 fX5_isRivalOf_15_X2 q (cellO_4 h hq) rfl ?_
    refine j_aload_n hX dX5_isRivalOf_16 rfl ?_
    refine j_getf hX (v := .int (r.2 1)) dX5_isRivalOf_17 fX5_isRivalOf_15_X9 q2 (cellO_10 h2 hq2) rfl ?_
    refine j_icmp_ne hX (tgt := 27) dX5_isRivalOf_20 (by decide) (fun h20 => ?_) (fun h20 => ?_)
    · refine j_iconst hX (v := 0) (by decide) dX5_isRivalOf_27 ?_
      exact j_zret hX (by decide) dX5_isRivalOf_28 ⟨(congrArg (fun z => some (Value.int z)) (show rivalV o r = 0 from ((if_neg h5).trans (if_neg h20)))).symm, rfl⟩
    · refine j_iconst hX (v := 1) (by decide) dX5_isRivalOf_23 ?_
      refine j_goto hX (tgt := 28) dX5_isRivalOf_24 (by decide) ?_
      exact j_zret hX (by decide) dX5_isRivalOf_28 ⟨(congrArg (fun z => some (Value.int z)) (show rivalV o r = 1 from ((if_neg h5).trans (if_pos h20)))).symm, rfl⟩

set_option maxHeartbeats 4000000 in
set_option maxRecDepth 100000 in
theorem c_isRivalOf_X9_X7 (G : jG) {w : va_W} {q b q2 b2 : Nat} (o r : ofr) (h : o.1 = 10) (h2 : r.1 = 8) (hq : w[q]? = some (b, cellO o)) (hq2 : w[q2]? = some (b2, cellO r)) : jD G 0 yX5_isRivalOf wsX5_isRivalOf [.ref b, .ref b2] w (some (.int (rivalV o r))) w := by
  refine jC.of (maxL := 2) (cc := cX5_isRivalOf) (ret := (some .boolean)) rfl (by decide) [some (.ref b), some (.ref b2)] rfl (Nat.le_of_ble_eq_true rfl) (j_args rfl) (fun X hX => ?_)
  refine j_aload_n hX dX5_isRivalOf_0 rfl ?_
  refine j_getf hX (v := .int (o.2 1)) dX5_isRivalOf_1 fX5_isRivalOf_15_X9 q (cellO_10 h hq) rfl ?_
  refine j_iconst hX (v := -1) (by decide) dX5_isRivalOf_4 ?_
  refine j_icmp_eq hX (tgt := 27) dX5_isRivalOf_5 (by decide) (fun h5 => ?_) (fun h5 => ?_)
  · refine j_iconst hX (v := 0) (by decide) dX5_isRivalOf_27 ?_
    exact j_zret hX (by decide) dX5_isRivalOf_28 ⟨(congrArg (fun z => some (Value.int z)) (show rivalV o r = 0 from (if_pos h5))).symm, rfl⟩
  · refine j_aload_n hX dX5_isRivalOf_8 rfl ?_
    refine j_ifnull hX dX5_isRivalOf_9 ?_
    refine j_aload_n hX dX5_isRivalOf_12 rfl ?_
    refine j_getf hX (v := .int (o.2 1)) dX5_isRivalOf_13 fX5_isRivalOf_15_X9 q (cellO_10 h hq) rfl ?_
    refine j_aload_n hX dX5_isRivalOf_16 rfl ?_
    refine j_getf hX (v := .int (r.2 1)) dX5_isRivalOf_17 fX5_isRivalOf_15_X7 q2 (cellO_8 h2 hq2) rfl ?_
    refine j_icmp_ne hX (tgt := 27) dX5_isRivalOf_20 (by decide) (fun h20 => ?_) (fun h20 => ?_)
    · refine j_iconst hX (v := 0) (by decide) dX5_isRivalOf_27 ?_
      exact j_zret hX (by decide) dX5_isRivalOf_28 ⟨(congrArg (fun z => some (Value.int z)) (show rivalV o r = 0 from ((if_neg h5).trans (if_neg h20)))).symm, rfl⟩
    · refine j_iconst hX (v := 1) (by decide) dX5_isRivalOf_23 ?_
      refine j_goto hX (tgt := 28) dX5_isRivalOf_24 (by decide) ?_
      exact j_zret hX (by decide) dX5_isRivalOf_28 ⟨(congrArg (fun z => some (Value.int z)) (show rivalV o r = 1 from ((if_neg h5).trans (if_pos h20)))).symm, rfl⟩

set_option maxHeartbeats 4000000 in
set_option maxRecDepth 100000 in
theorem c_isRivalOf_X9_X3 (G : jG) {w : va_W} {q b q2 b2 : Nat} (o r : ofr) (h : o.1 = 10) (h2 : r.1 = 5) (hq : w[q]? = some (b, cellO o)) (hq2 : w[q2]? = some (b2, cellO r)) : jD G 0 yX5_isRivalOf wsX5_isRivalOf [.ref b, .ref b2] w (some (.int (rivalV o r))) w := by
  refine jC.of (maxL := 2) (cc := cX5_isRivalOf) (ret := (some .boolean)) rfl (by decide) [some (.ref b), some (.ref b2)] rfl (Nat.le_of_ble_eq_true rfl) (j_args rfl) (fun X hX => ?_)
  refine j_aload_n hX dX5_isRivalOf_0 rfl ?_
  refine j_getf hX (v := .int (o.2 1)) dX5_isRivalOf_1 fX5_isRivalOf_15_X9 q (cellO_10 h hq) rfl ?_
  refine j_iconst hX (v := -1) (by decide) dX5_isRivalOf_4 ?_
  refine j_icmp_eq hX (tgt := 27) dX5_isRivalOf_5 (by decide) (fun h5 => ?_) (fun h5 => ?_)
  · refine j_iconst hX (v := 0) (by decide) dX5_isRivalOf_27 ?_
    exact j_zret hX (by decide) dX5_isRivalOf_28 ⟨(congrArg (fun z => some (Value.int z)) (show rivalV o r = 0 from (if_pos h5))).symm, rfl⟩
  · refine j_aload_n hX dX5_isRivalOf_8 rfl ?_
    refine j_ifnull hX dX5_isRivalOf_9 ?_
    refine j_aload_n hX dX5_isRivalOf_12 rfl ?_
    refine j_getf hX (v := .int (o.2 1)) dX5_isRivalOf_13 fX5_isRivalOf_15_X9 q (cellO_10 h hq) rfl ?_
    refine j_aload_n hX dX5_isRivalOf_16 rfl ?_
    refine j_getf hX (v := .int (r.2 1)) dX5_isRivalOf_17 fX5_isRivalOf_15_X3 q2 (cellO_5 h2 hq2) rfl ?_
    refine j_icmp_ne hX (tgt := 27) dX5_isRivalOf_20 (by decide) (fun h20 => ?_) (fun h20 => ?_)
    · refine j_iconst hX (v := 0) (by decide) dX5_isRivalOf_27 ?_
      exact j_zret hX (by decide) dX5_isRivalOf_28 ⟨(congrArg (fun z => some (Value.int z)) (show rivalV o r = 0 from ((if_neg h5).trans (if_neg h20)))).symm, rfl⟩
    · refine j_iconst hX (v := 1) (by decide) dX5_isRivalOf_23 ?_
      refine j_goto hX (tgt := 28) dX5_isRivalOf_24 (by decide) ?_
      exact j_zret hX (by decide) dX5_isRivalOf_28 ⟨(congrArg (fun z => some (Value.int z)) (show rivalV o r = 1 from ((if_neg h5).trans (if_pos h20)))).symm, rfl⟩

set_option maxHeartbeats 4000000 in
set_option maxRecDepth 100000 in
theorem c_isRivalOf_X9_X2 (G : jG) {w : va_W} {q b q2 b2 : Nat} (o r : ofr) (h : o.1 = 10) (h2 : r.1 = 4) (hq : w[q]? = some (b, cellO o)) (hq2 : w[q2]? = some (b2, cellO r)) : jD G 0 yX5_isRivalOf wsX5_isRivalOf [.ref b, .ref b2] w (some (.int (rivalV o r))) w := by
  refine jC.of (maxL := 2) (cc := cX5_isRivalOf) (ret := (some .boolean)) rfl (by decide) [some (.ref b), some (.ref b2)] rfl (Nat.le_of_ble_eq_true rfl) (j_args rfl) (fun X hX => ?_)
  refine j_aload_n hX dX5_isRivalOf_0 rfl ?_
  refine j_getf hX (v := .int (o.2 1)) dX5_isRivalOf_1 fX5_isRivalOf_15_X9 q (cellO_10 h hq) rfl ?_
  refine j_iconst hX (v := -1) (by decide) dX5_isRivalOf_4 ?_
  refine j_icmp_eq hX (tgt := 27) dX5_isRivalOf_5 (by decide) (fun h5 => ?_) (fun h5 => ?_)
  · refine j_iconst hX (v := 0) (by decide) dX5_isRivalOf_27 ?_
    exact j_zret hX (by decide) dX5_isRivalOf_28 ⟨(congrArg (fun z => some (Value.int z)) (show rivalV o r = 0 from (if_pos h5))).symm, rfl⟩
  · refine j_aload_n hX dX5_isRivalOf_8 rfl ?_
    refine j_ifnull hX dX5_isRivalOf_9 ?_
    refine j_aload_n hX dX5_isRivalOf_12 rfl ?_
    refine j_getf hX (v := .int (o.2 1)) dX5_isRivalOf_13 fX5_isRivalOf_15_X9 q (cellO_10 h hq) rfl ?_
    refine j_aload_n hX dX5_isRivalOf_16 rfl ?_
    refine j_getf hX (v := .int (r.2 1)) dX5_isRivalOf_17 fX5_isRivalOf_15_X2 q2 (cellO_4 h2 hq2) rfl ?_
    refine j_icmp_ne hX (tgt := 27) dX5_isRivalOf_20 (by decide) (fun h20 => ?_) (fun h20 => ?_)
    · refine j_iconst hX (v := 0) (by decide) dX5_isRivalOf_27 ?_
      exact j_zret hX (by decide) dX5_isRivalOf_28 ⟨(congrArg (fun z => some (Value.int z)) (show rivalV o r = 0 from ((if_neg h5).trans (if_neg h20)))).symm, rfl⟩
    · refine j_iconst hX (v := 1) (by decide) dX5_isRivalOf_23 ?_
      refine j_goto hX (tgt := 28) dX5_isRivalOf_24 (by decide) ?_
      exact j_zret hX (by decide) dX5_isRivalOf_28 ⟨(congrArg (fun z => some (Value.int z)) (show rivalV o r = 1 from ((if_neg h5).trans (if_pos h20)))).symm, rfl⟩

set_option maxHeartbeats 4000000 in
set_option maxRecDepth 100000 in
theorem c_isRivalOf_X9_X9 (G : jG) {w : va_W} {q b q2 b2 : Nat} (o r : ofr) (h : o.1 = 10) (h2 : r.1 = 10) (hq : w[q]? = some (b, cellO o)) (hq2 : w[q2]? = some (b2, cellO r)) : jD G 0 yX5_isRivalOf wsX5_isRivalOf [.ref b, .ref b2] w (some (.int (rivalV o r))) w := by
  refine jC.of (maxL := 2) (cc := cX5_isRivalOf) (ret := (some .boolean)) rfl (by decide) [some (.ref b), some (.ref b2)] rfl (Nat.le_of_ble_eq_true rfl) (j_args rfl) (fun X hX => ?_)
  refine j_aload_n hX dX5_isRivalOf_0 rfl ?_
  refine j_getf hX (v := .int (o.2 1)) dX5_isRivalOf_1 fX5_isRivalOf_15_X9 q (cellO_10 h hq) rfl ?_
  refine j_iconst hX (v := -1) (by decide) dX5_isRivalOf_4 ?_
  refine j_icmp_eq hX (tgt := 27) dX5_isRivalOf_5 (by decide) (fun h5 => ?_) (fun h5 => ?_)
  · refine j_iconst hX (v := 0) (by decide) dX5_isRivalOf_27 ?_
    exact j_zret hX (by decide) dX5_isRivalOf_28 ⟨(congrArg (fun z => some (Value.int z)) (show rivalV o r = 0 from (if_pos h5))).symm, rfl⟩
  · refine j_aload_n hX dX5_isRivalOf_8 rfl ?_
    refine j_ifnull hX dX5_isRivalOf_9 ?_
    refine j_aload_n hX dX5_isRivalOf_12 rfl ?_
    refine j_getf hX (v := .int (o.2 1)) dX5_isRivalOf_13 fX5_isRivalOf_15_X9 q (cellO_10 h hq) rfl ?_
    refine j_aload_n hX dX5_isRivalOf_16 rfl ?_
    refine j_getf hX (v := .int (r.2 1)) dX5_isRivalOf_17 fX5_isRivalOf_15_X9 q2 (cellO_10 h2 hq2) rfl ?_
    refine j_icmp_ne hX (tgt := 27) dX5_isRivalOf_20 (by decide) (fun h20 => ?_) (fun h20 => ?_)
    · refine j_iconst hX (v := 0) (by decide) dX5_isRivalOf_27 ?_
      exact j_zret hX (by decide) dX5_isRivalOf_28 ⟨(congrArg (fun z => some (Value.int z)) (show rivalV o r = 0 from ((if_neg h5).trans (if_neg h20)))).symm, rfl⟩
    · refine j_iconst hX (v := 1) (by decide) dX5_isRivalOf_23 ?_
      refine j_goto hX (tgt := 28) dX5_isRivalOf_24 (by decide) ?_
      exact j_zret hX (by decide) dX5_isRivalOf_28 ⟨(congrArg (fun z => some (Value.int z)) (show rivalV o r = 1 from ((if_neg h5).trans (if_pos h20)))).symm, rfl⟩

set_option maxRecDepth 100000 in
theorem vX6_append_38 {G : jG} {X : jX} {ret : Option FieldType} {nL d mc ms k n0 : Nat} {post : Option Value → va_W → Prop} {ls : List (Option Value)} {st st' : List Value} {ws : va_W} (hX : jOK G X RX6 cX6_append wsX6_append ret nL d mc ms post) {b q b2 q2 : Nat} {o r : ofr} (ho : okO o) (hq : ws[q]? = some (b, cellO o)) (hr : okO r) (hq2 : ws[q2]? = some (b2, cellO r)) (hdd : 1 ≤ d) (hlen : ls.length = nL) (hcat : (st.map fun v => v.category).sum ≤ 8) (hkn : k ≤ mc ∧ n0 ≤ ms) (hst : .int (rivalV o r) :: st = st') (kk : jW G X k n0 (38 + 3) ls st' ws) : jW G X k n0 38 ls (.ref b2 :: .ref b :: st) ws := by
  subst hst
  rcases ho with h | h | h | h <;> rcases hr with h2 | h2 | h2 | h2
  · exact j_dU hX (nA := 1) (cq := (RX7, TX7, 4)) (As := [.ref b2]) (st := st) (ci := 8) rfl dX6_append_38 (c_isRivalOf_X7_X7 G o r h h2 hq hq2) gX6_append_X5_isRivalOf_u34X7 rfl rfl (by decide +kernel) (cellO_8 h hq) (by omega) (Nat.le_of_ble_eq_true rfl) rfl hcat hlen hkn rfl kk
  · exact j_dU hX (nA := 1) (cq := (RX7, TX7, 4)) (As := [.ref b2]) (st := st) (ci := 8) rfl dX6_append_38 (c_isRivalOf_X7_X3 G o r h h2 hq hq2) gX6_append_X5_isRivalOf_u34X7 rfl rfl (by decide +kernel) (cellO_8 h hq) (by omega) (Nat.le_of_ble_eq_true rfl) rfl hcat hlen hkn rfl kk
  · exact j_dU hX (nA := 1) (cq := (RX7, TX7, 4)) (As := [.ref b2]) (st := st) (ci := 8) rfl dX6_append_38 (c_isRivalOf_X7_X2 G o r h h2 hq hq2) gX6_append_X5_isRivalOf_u34X7 rfl rfl (by decide +kernel) (cellO_8 h hq) (by omega) (Nat.le_of_ble_eq_true rfl) rfl hcat hlen hkn rfl kk
  · exact j_dU hX (nA := 1) (cq := (RX7, TX7, 4)) (As := [.ref b2]) (st := st) (ci := 8) rfl dX6_append_38 (c_isRivalOf_X7_X9 G o r h h2 hq hq2) gX6_append_X5_isRivalOf_u34X7 rfl rfl (by decide +kernel) (cellO_8 h hq) (by omega) (Nat.le_of_ble_eq_true rfl) rfl hcat hlen hkn rfl kk
  · exact j_dU hX (nA := 1) (cq := (RX3, TX3, 4)) (As := [.ref b2]) (st := st) (ci := 5) rfl dX6_append_38 (c_isRivalOf_X3_X7 G o r h h2 hq hq2) gX6_append_X5_isRivalOf_u34X3 rfl rfl (by decide +kernel) (cellO_5 h hq) (by omega) (Nat.le_of_ble_eq_true rfl) rfl hcat hlen hkn rfl kk
  · exact j_dU hX (nA := 1) (cq := (RX3, TX3, 4)) (As := [.ref b2]) (st := st) (ci := 5) rfl dX6_append_38 (c_isRivalOf_X3_X3 G o r h h2 hq hq2) gX6_append_X5_isRivalOf_u34X3 rfl rfl (by decide +kernel) (cellO_5 h hq) (by omega) (Nat.le_of_ble_eq_true rfl) rfl hcat hlen hkn rfl kk
  · exact j_dU hX (nA := 1) (cq := (RX3, TX3, 4)) (As := [.ref b2]) (st := st) (ci := 5) rfl dX6_append_38 (c_isRivalOf_X3_X2 G o r h h2 hq hq2) gX6_append_X5_isRivalOf_u34X3 rfl rfl (by decide +kernel) (cellO_5 h hq) (by omega) (Nat.le_of_ble_eq_true rfl) rfl hcat hlen hkn rfl kk
  · exact j_dU hX (nA := 1) (cq := (RX3, TX3, 4)) (As := [.ref b2]) (st := st) (ci := 5) rfl dX6_append_38 (c_isRivalOf_X3_X9 G o r h h2 hq hq2) gX6_append_X5_isRivalOf_u34X3 rfl rfl (by decide +kernel) (cellO_5 h hq) (by omega) (Nat.le_of_ble_eq_true rfl) rfl hcat hlen hkn rfl kk
  · exact j_dU hX (nA := 1) (cq := (RX2, TX2, 9)) (As := [.ref b2]) (st := st) (ci := 4) rfl dX6_append_38 (c_isRivalOf_X2_X7 G o r h h2 hq hq2) gX6_append_X5_isRivalOf_u34X2 rfl rfl (by decide +kernel) (cellO_4 h hq) (by omega) (Nat.le_of_ble_eq_true rfl) rfl hcat hlen hkn rfl kk
  · exact j_dU hX (nA := 1) (cq := (RX2, TX2, 9)) (As := [.ref b2]) (st := st) (ci := 4) rfl dX6_append_38 (c_isRivalOf_X2_X3 G o r h h2 hq hq2) gX6_append_X5_isRivalOf_u34X2 rfl rfl (by decide +kernel) (cellO_4 h hq) (by omega) (Nat.le_of_ble_eq_true rfl) rfl hcat hlen hkn rfl kk
  · exact j_dU hX (nA := 1) (cq := (RX2, TX2, 9)) (As := [.ref b2]) (st := st) (ci := 4) rfl dX6_append_38 (c_isRivalOf_X2_X2 G o r h h2 hq hq2) gX6_append_X5_isRivalOf_u34X2 rfl rfl (by decide +kernel) (cellO_4 h hq) (by omega) (Nat.le_of_ble_eq_true rfl) rfl hcat hlen hkn rfl kk
  · exact j_dU hX (nA := 1) (cq := (RX2, TX2, 9)) (As := [.ref b2]) (st := st) (ci := 4) rfl dX6_append_38 (c_isRivalOf_X2_X9 G o r h h2 hq hq2) gX6_append_X5_isRivalOf_u34X2 rfl rfl (by decide +kernel) (cellO_4 h hq) (by omega) (Nat.le_of_ble_eq_true rfl) rfl hcat hlen hkn rfl kk
  · exact j_dU hX (nA := 1) (cq := (RX9, TX9, 4)) (As := [.ref b2]) (st := st) (ci := 10) rfl dX6_append_38 (c_isRivalOf_X9_X7 G o r h h2 hq hq2) gX6_append_X5_isRivalOf_u34X9 rfl rfl (by decide +kernel) (cellO_10 h hq) (by omega) (Nat.le_of_ble_eq_true rfl) rfl hcat hlen hkn rfl kk
  · exact j_dU hX (nA := 1) (cq := (RX9, TX9, 4)) (As := [.ref b2]) (st := st) (ci := 10) rfl dX6_append_38 (c_isRivalOf_X9_X3 G o r h h2 hq hq2) gX6_append_X5_isRivalOf_u34X9 rfl rfl (by decide +kernel) (cellO_10 h hq) (by omega) (Nat.le_of_ble_eq_true rfl) rfl hcat hlen hkn rfl kk
  · exact j_dU hX (nA := 1) (cq := (RX9, TX9, 4)) (As := [.ref b2]) (st := st) (ci := 10) rfl dX6_append_38 (c_isRivalOf_X9_X2 G o r h h2 hq hq2) gX6_append_X5_isRivalOf_u34X9 rfl rfl (by decide +kernel) (cellO_10 h hq) (by omega) (Nat.le_of_ble_eq_true rfl) rfl hcat hlen hkn rfl kk
  · exact j_dU hX (nA := 1) (cq := (RX9, TX9, 4)) (As := [.ref b2]) (st := st) (ci := 10) rfl dX6_append_38 (c_isRivalOf_X9_X9 G o r h h2 hq hq2) gX6_append_X5_isRivalOf_u34X9 rfl rfl (by decide +kernel) (cellO_10 h hq) (by omega) (Nat.le_of_ble_eq_true rfl) rfl hcat hlen hkn rfl kk

set_option maxRecDepth 100000 in
theorem vX6_append_103 {G : jG} {X : jX} {ret : Option FieldType} {nL d mc ms k n0 : Nat} {post : Option Value → va_W → Prop} {ls : List (Option Value)} {st st' : List Value} {ws : va_W} (hX : jOK G X RX6 cX6_append wsX6_append ret nL d mc ms post) {b q : Nat} {o : ofr} (ho : okO o) (hq : ws[q]? = some (b, cellO o))  (hdd : 1 ≤ d) (hlen : ls.length = nL) (hcat : (st.map fun v => v.category).sum ≤ 8) (hkn : k ≤ mc ∧ n0 ≤ ms) (hst : .int (threshO o) :: st = st') (kk : jW G X k n0 (103 + 3) ls st' ws) : jW G X k n0 103 ls (.ref b :: st) ws := by
  subst hst
  rcases ho with h | h | h | h
  · exact j_dU hX (nA := 0) (cq := (RX7, TX7, 4)) (As := []) (st := st) (ci := 8) rfl dX6_append_103 (c_X5_threshold G) gX6_append_X5_threshold_u46X7 rfl rfl (by decide +kernel) (cellO_8 h hq) (by omega) (Nat.le_of_ble_eq_true rfl) rfl hcat hlen hkn (by rw [threshO, h]; rfl) kk
  · exact j_dU hX (nA := 0) (cq := (RX3, TX3, 4)) (As := []) (st := st) (ci := 5) rfl dX6_append_103 (c_X5_threshold G) gX6_append_X5_threshold_u46X3 rfl rfl (by decide +kernel) (cellO_5 h hq) (by omega) (Nat.le_of_ble_eq_true rfl) rfl hcat hlen hkn (by rw [threshO, h]; rfl) kk
  · exact j_dU hX (nA := 0) (cq := (RX2, TX2, 9)) (As := []) (st := st) (ci := 4) rfl dX6_append_103 (c_X5_threshold G) gX6_append_X5_threshold_u46X2 rfl rfl (by decide +kernel) (cellO_4 h hq) (by omega) (Nat.le_of_ble_eq_true rfl) rfl hcat hlen hkn (by rw [threshO, h]; rfl) kk
  · exact j_dO hX (nA := 0) (cq := (RX9, TX9, 4)) (As := []) (st := st) (ci := 10) rfl dX6_append_103 (c_X9_threshold G o h hq) gX6_append_X9_threshold_u46X9 rfl (b0 := cX5_threshold) (m0 := 1) (r0 := (some .int)) (by decide +kernel) (by decide +kernel) (cellO_10 h hq) (by omega) (Nat.le_of_ble_eq_true rfl) rfl hcat hlen hkn (by rw [threshO, h]; rfl) kk

set_option maxRecDepth 100000 in
theorem vX6_append_115 {G : jG} {X : jX} {ret : Option FieldType} {nL d mc ms k n0 : Nat} {post : Option Value → va_W → Prop} {ls : List (Option Value)} {st st' : List Value} {ws : va_W} (hX : jOK G X RX6 cX6_append wsX6_append ret nL d mc ms post) {b q : Nat} {o : ofr} (ho : okO o) (hq : ws[q]? = some (b, cellO o))  (hdd : 1 ≤ d) (hlen : ls.length = nL) (hcat : (st.map fun v => v.category).sum ≤ 8) (hkn : k ≤ mc ∧ n0 ≤ ms) (hst : .int (amountO o) :: st = st') (kk : jW G X k n0 (115 + 3) ls st' ws) : jW G X k n0 115 ls (.ref b :: st) ws := by
  subst hst
  rcases ho with h | h | h | h
  · exact j_dU hX (nA := 0) (cq := (RX7, TX7, 4)) (As := []) (st := st) (ci := 8) rfl dX6_append_115 (c_X5_amount G) gX6_append_X5_amount_u50X7 rfl rfl (by decide +kernel) (cellO_8 h hq) (by omega) (Nat.le_of_ble_eq_true rfl) rfl hcat hlen hkn (by rw [amountO, h]; rfl) kk
  · exact j_dU hX (nA := 0) (cq := (RX3, TX3, 4)) (As := []) (st := st) (ci := 5) rfl dX6_append_115 (c_X5_amount G) gX6_append_X5_amount_u50X3 rfl rfl (by decide +kernel) (cellO_5 h hq) (by omega) (Nat.le_of_ble_eq_true rfl) rfl hcat hlen hkn (by rw [amountO, h]; rfl) kk
  · exact j_dU hX (nA := 0) (cq := (RX2, TX2, 9)) (As := []) (st := st) (ci := 4) rfl dX6_append_115 (c_X5_amount G) gX6_append_X5_amount_u50X2 rfl rfl (by decide +kernel) (cellO_4 h hq) (by omega) (Nat.le_of_ble_eq_true rfl) rfl hcat hlen hkn (by rw [amountO, h]; rfl) kk
  · exact j_dO hX (nA := 0) (cq := (RX9, TX9, 4)) (As := []) (st := st) (ci := 10) rfl dX6_append_115 (c_X9_amount G o h hq) gX6_append_X9_amount_u50X9 rfl (b0 := cX5_amount) (m0 := 1) (r0 := (some .int)) (by decide +kernel) (by decide +kernel) (cellO_10 h hq) (by omega) (Nat.le_of_ble_eq_true rfl) rfl hcat hlen hkn (by rw [amountO, h]; rfl) kk

def rvS (os : Nat → ofr) (o : Nat) (j : Nat) (b : Nat → Int32) : Nat → Int32 := if rivalV (os o) (os j) = 0 then b else setF 6 (setF 6 b (nI o) (atF 6 b (nI o) ||| (1 <<< (nI j &&& 31)))) (nI j) (atF 6 (setF 6 b (nI o) (atF 6 b (nI o) ||| (1 <<< (nI j &&& 31)))) (nI j) ||| (1 <<< (nI o &&& 31)))
def rvA (os : Nat → ofr) (o : Nat) (b : Nat → Int32) (n : Nat) : Nat → Int32 := itr (rvS os o) n b
def appF (os : Nat → ofr) (o : Nat) (s : VM) : VM := (sV s.1 4 (s.1 4 + 1), sM (sM (sM s.2 7 (rvA os o (s.2 7) o)) 8 (setF 6 (s.2 8) (nI o) (threshO (os o)))) 9 (setF 6 (s.2 9) (nI o) (amountO (os o))))
theorem wO_getn (G : jG) (ad : Nat → Nat) (V : Nat → Int32) (M : Nat → Nat → Int32) (en : Nat → Option Nat) (os : Nat → ofr) (o : Nat) {j : Nat} (h : j < o + 1) : (wC G ad V M en (wO ad os (o + 1)))[30 + j]? = some (ad (30 + j), cellO (os j)) := wO_get G ad V M en os (o + 1) h
theorem enO_up (ad : Nat → Nat) (o : Nat) : va_up (enO ad o) o (some (ad (30 + o))) = enO ad (o + 1) := by
  funext j
  unfold va_up enO
  by_cases h : j = o
  · subst h
    simp
  · by_cases h2 : j < o
    · rw [if_neg h, if_pos h2, if_pos (by omega)]
    · rw [if_neg h, if_neg h2, if_neg (by omega)]
theorem aast_O {G : jG} {X : jX} {own : String} {cc : ByteArray} {Ts : List Cond} {ret : Option FieldType} {nL d mc ms k n pc : Nat} {post : Option Value → va_W → Prop} {ls : List (Option Value)} {st : List Value} (hX : jOK G X own cc Ts ret nL d mc ms post) {ad : Nat → Nat} {V : Nat → Int32} {M : Nat → Nat → Int32} {os : Nat → ofr} {o : Nat} (ho : okO (os o)) (ho6 : o < 6) (hd : decode cc pc = .ok (.aastore, 1))
    (kk : jW G X k n (pc + 1) ls st (wC G ad V M (enO ad (o + 1)) (wO ad os (o + 1)))) : jW G X k n pc ls (.ref (ad (30 + o)) :: .int (nI o) :: .ref (ad 6) :: st) (wC G ad V M (enO ad o) (wO ad os (o + 1))) := by
  have hq := wO_getn G ad V M (enO ad o) os o (j := o) (by omega)
  have hw : (wC G ad V M (enO ad o) (wO ad os (o + 1))).set 6 (ad 6, .inl (G.2.2 3, 6, .inr (.inr (.inr (.inr (va_up (enO ad o) (nI o).toNatClampNeg (some (ad (30 + o)))))))))  = wC G ad V M (enO ad (o + 1)) (wO ad os (o + 1)) := by
    rw [nI_clamp (by omega), enO_up]
    rfl
  have hin : vp_in (nI o) 6 := vp_in_nI ho6 (by decide)
  rcases ho with h | h | h | h
  · exact j_aast hX (cq := (RX7, TX7, 4)) hd 6 (30 + o) (wCg6 _ _ _ _ _ _) (cellO_8 h hq) rfl (by decide +kernel) hin hw kk
  · exact j_aast hX (cq := (RX3, TX3, 4)) hd 6 (30 + o) (wCg6 _ _ _ _ _ _) (cellO_5 h hq) rfl (by decide +kernel) hin hw kk
  · exact j_aast hX (cq := (RX2, TX2, 9)) hd 6 (30 + o) (wCg6 _ _ _ _ _ _) (cellO_4 h hq) rfl (by decide +kernel) hin hw kk
  · exact j_aast hX (cq := (RX9, TX9, 4)) hd 6 (30 + o) (wCg6 _ _ _ _ _ _) (cellO_10 h hq) rfl (by decide +kernel) hin hw kk
set_option maxHeartbeats 4000000 in
set_option maxRecDepth 100000 in
theorem c_X6_append (G : jG) (ad : Nat → Nat) (V : Nat → Int32) (M : Nat → Nat → Int32) (os : Nat → ofr) (o : Nat) (ho6 : o < 6) (hos : ∀ j, j < o + 1 → okO (os j)) (hso : V 4 = nI o) : jD G 2 yX6_append wsX6_append [.ref (ad 5), .ref (ad (30 + o))] (wC G ad V M (enO ad o) (wO ad os (o + 1))) (some (.int (nI o))) (wC G ad (appF os o (V, M)).1 (appF os o (V, M)).2 (enO ad (o + 1)) (wO ad os (o + 1))) := by
  refine jC.of (maxL := 4) (cc := cX6_append) (ret := (some .int)) rfl (by decide) [some (.ref (ad 5)), some (.ref (ad (30 + o))), none, none] rfl (Nat.le_of_ble_eq_true rfl) (j_args rfl) (fun X hX => ?_)
  refine j_aload_n hX dX6_append_0 rfl ?_
  refine j_getf hX (v := .int (V 4)) dX6_append_1 fX6_append_30 5 (wCg5 _ _ _ _ _ _) rfl ?_
  refine jW.top hso ?_
  refine j_istore_n hX (ls' := [some (.ref (ad 5)), some (.ref (ad (30 + o))), some (.int (nI o)), none]) dX6_append_4 (Nat.le_of_ble_eq_true rfl) rfl rfl ?_
  refine j_aload_n hX dX6_append_5 rfl ?_
  refine j_ifnull hX dX6_append_6 ?_
  refine j_iload_n hX dX6_append_9 rfl ?_
  refine j_if_lt_f hX (tgt := 22) dX6_append_10 (by decide) (nI_pos (by omega)) ?_
  refine j_iload_n hX dX6_append_13 rfl ?_
  refine j_aload_n hX dX6_append_14 rfl ?_
  refine j_getf hX (v := .ref (ad 6)) dX6_append_15 fX6_append_11 5 (wCg5 _ _ _ _ _ _) rfl ?_
  refine j_alen hX (v := 6) dX6_append_18 6 rfl 3 rfl rfl ?_
  refine j_icmp_lt_t hX (tgt := 24) dX6_append_19 (by decide) (nI_lt (a := o) (b := 6) (by omega) (by decide)) ?_
  refine j_iconst hX (v := 0) (by decide) dX6_append_24 ?_
  refine j_istore_n hX (ls' := [some (.ref (ad 5)), some (.ref (ad (30 + o))), some (.int (nI o)), some (.int 0)]) dX6_append_25 (Nat.le_of_ble_eq_true rfl) rfl rfl ?_
  have L26 : ∀ zj j : Nat, 0 ≤ j → j + zj = o → jW G X 0 0 26 [some (.ref (ad 5)), some (.ref (ad (30 + o))), some (.int (nI o)), some (.int (nI j))] [] (wC G ad V (sM M 7 (rvA os o (M 7) j)) (enO ad o) (wO ad os (o + 1))) := by
    intro zj
    induction zj with
    | zero =>
      intro j h0j hij
      have hinj : j = o := by omega
      refine j_iload_n hX dX6_append_26 rfl ?_
      refine j_iload_n hX dX6_append_27 rfl ?_
      refine j_icmp_ge_t hX (tgt := 90) dX6_append_28 (by decide) (by rw [hinj]; exact nI_le (Nat.le_refl _) (by omega)) ?_
      refine j_aload_n hX dX6_append_90 rfl ?_
      refine j_getf hX (v := .ref (ad 6)) dX6_append_91 fX6_append_11 5 (wCg5 _ _ _ _ _ _) rfl ?_
      refine j_iload_n hX dX6_append_94 rfl ?_
      refine j_aload_n hX dX6_append_95 rfl ?_
      refine aast_O hX (hos o (by omega)) (by omega) dX6_append_96 ?_
      refine j_aload_n hX dX6_append_97 rfl ?_
      refine j_getf hX (v := .ref (ad 8)) dX6_append_98 fX6_append_21 5 (wCg5 _ _ _ _ _ _) rfl ?_
      refine j_iload_n hX dX6_append_101 rfl ?_
      refine j_aload_n hX dX6_append_102 rfl ?_
      refine vX6_append_103 hX (st := [.int (nI o), .ref (ad 8)]) (st' := [.int (threshO (os o)), .int (nI o), .ref (ad 8)]) (hos o (by omega)) (wO_getn _ _ _ _ _ _ _ (by omega))  (by omega) rfl (Nat.le_of_ble_eq_true rfl) ⟨Nat.le_refl _, Nat.le_refl _⟩ rfl ?_
      refine j_dSN hX (nA := 3) (As := [.ref (ad 8), .int (nI o), .int (threshO (os o))]) (st := []) (st' := []) dX6_append_106 (c_setAt G (q := 8) (wCg8 _ _ _ _ _ _) (by decide) (wCp8 _ _ _ _ _ _ _)) gX6_append_X11_setAt_n42 rfl (by decide +kernel) (host := "BasketOffers") (by decide +kernel) (by decide +kernel) (by decide +kernel) (by omega) (Nat.le_of_ble_eq_true rfl) rfl (Nat.le_of_ble_eq_true rfl) rfl ⟨Nat.le_refl _, Nat.le_refl _⟩ rfl ?_
      refine j_aload_n hX dX6_append_109 rfl ?_
      refine j_getf hX (v := .ref (ad 9)) dX6_append_110 fX6_append_24 5 (wCg5 _ _ _ _ _ _) rfl ?_
      refine j_iload_n hX dX6_append_113 rfl ?_
      refine j_aload_n hX dX6_append_114 rfl ?_
      refine vX6_append_115 hX (st := [.int (nI o), .ref (ad 9)]) (st' := [.int (amountO (os o)), .int (nI o), .ref (ad 9)]) (hos o (by omega)) (wO_getn _ _ _ _ _ _ _ (by omega))  (by omega) rfl (Nat.le_of_ble_eq_true rfl) ⟨Nat.le_refl _, Nat.le_refl _⟩ rfl ?_
      refine j_dSN hX (nA := 3) (As := [.ref (ad 9), .int (nI o), .int (amountO (os o))]) (st := []) (st' := []) dX6_append_118 (c_setAt G (q := 9) (wCg9 _ _ _ _ _ _) (by decide) (wCp9 _ _ _ _ _ _ _)) gX6_append_X11_setAt_n42 rfl (by decide +kernel) (host := "BasketOffers") (by decide +kernel) (by decide +kernel) (by decide +kernel) (by omega) (Nat.le_of_ble_eq_true rfl) rfl (Nat.le_of_ble_eq_true rfl) rfl ⟨Nat.le_refl _, Nat.le_refl _⟩ rfl ?_
      refine j_aload_n hX dX6_append_121 rfl ?_
      refine j_dup hX dX6_append_122 rfl ?_
      refine j_getf hX (v := .int (V 4)) dX6_append_123 fX6_append_30 5 (wCg5 _ _ _ _ _ _) rfl ?_
      refine j_iconst hX (v := 1) (by decide) dX6_append_126 ?_
      refine j_iadd hX dX6_append_127 ?_
      refine j_putf hX (ws' := (wC G ad (sV V 4 ((V 4) + 1)) (sM (sM (sM M 7 (rvA os o (M 7) j)) 8 (setF 6 (M 8) (nI o) (threshO (os o)))) 9 (setF 6 (M 9) (nI o) (amountO (os o)))) (enO ad (o + 1)) (wO ad os (o + 1)))) dX6_append_128 fX6_append_30 5 (wCg5 _ _ _ _ _ _) (Nat.le_of_ble_eq_true rfl) rfl rfl (wCp5_5 _ _ _ _ _ _ _) ?_
      refine j_iload_n hX dX6_append_131 rfl ?_
      exact j_iret hX dX6_append_132 ⟨rfl, by rw [hinj]; rfl⟩
    | succ zj ihj =>
      intro j h0j hij
      have hinj : j < o := by omega
      refine j_iload_n hX dX6_append_26 rfl ?_
      refine j_iload_n hX dX6_append_27 rfl ?_
      refine j_icmp_ge_f hX (tgt := 90) dX6_append_28 (by decide) (nI_ge hinj (by omega)) ?_
      refine j_aload_n hX dX6_append_31 rfl ?_
      refine j_aload_n hX dX6_append_32 rfl ?_
      refine j_getf hX (v := .ref (ad 6)) dX6_append_33 fX6_append_11 5 (wCg5 _ _ _ _ _ _) rfl ?_
      refine j_iload_n hX dX6_append_36 rfl ?_
      refine j_aald hX (v := .ref (ad (30 + j))) dX6_append_37 6 (wCg6 _ _ _ _ _ _) (vp_in_nI (by omega) (by decide)) (by rw [nI_clamp (by omega)]; show va_rf (enO ad o j) = _; rw [enO, if_pos hinj]; rfl) ?_
      refine vX6_append_38 hX (st := []) (st' := [.int (rivalV (os o) (os j))]) (hos o (by omega)) (wO_getn _ _ _ _ _ _ _ (by omega)) (hos j (by omega)) (wO_getn _ _ _ _ _ _ _ (by omega)) (by omega) rfl (Nat.le_of_ble_eq_true rfl) ⟨Nat.le_refl _, Nat.le_refl _⟩ rfl ?_
      refine j_if_eq hX (tgt := 84) dX6_append_41 (by decide) (fun h41 => ?_) (fun h41 => ?_)
      · refine j_iinc hX (v := nI (j + 1)) (ls' := [some (.ref (ad 5)), some (.ref (ad (30 + o))), some (.int (nI o)), some (.int (nI (j + 1)))]) dX6_append_84 rfl (j_inc1 _) rfl rfl ?_
        refine j_goto hX (tgt := 26) dX6_append_87 (by decide) ?_
        refine jW.world (ws' := (wC G ad V (sM M 7 (rvA os o (M 7) (j + 1))) (enO ad o) (wO ad os (o + 1)))) (by rw [show rvA os o (M 7) (j + 1) = rvA os o (M 7) j from (if_pos h41)]) ?_
        exact ihj (j + 1) (by omega) (by omega)
      · refine j_aload_n hX dX6_append_44 rfl ?_
        refine j_getf hX (v := .ref (ad 7)) dX6_append_45 fX6_append_17 5 (wCg5 _ _ _ _ _ _) rfl ?_
        refine j_iload_n hX dX6_append_48 rfl ?_
        refine j_aload_n hX dX6_append_49 rfl ?_
        refine j_getf hX (v := .ref (ad 7)) dX6_append_50 fX6_append_17 5 (wCg5 _ _ _ _ _ _) rfl ?_
        refine j_iload_n hX dX6_append_53 rfl ?_
        refine j_dSN hX (nA := 2) (As := [.ref (ad 7), .int (nI o)]) (st := [.int (nI o), .ref (ad 7)]) (st' := [.int (atF 6 (rvA os o (M 7) j) (nI o)), .int (nI o), .ref (ad 7)]) dX6_append_54 (c_at G (q := 7) (wCg7 _ _ _ _ _ _) (by decide)) gX6_append_X11_at_n38 rfl (by decide +kernel) (host := "BasketOffers") (by decide +kernel) (by decide +kernel) (by decide +kernel) (by omega) (Nat.le_of_ble_eq_true rfl) rfl (Nat.le_of_ble_eq_true rfl) rfl ⟨Nat.le_refl _, Nat.le_refl _⟩ rfl ?_
        refine j_iconst hX (v := 1) (by decide) dX6_append_57 ?_
        refine j_iload_n hX dX6_append_58 rfl ?_
        refine j_ishl hX dX6_append_59 ?_
        refine j_ior hX dX6_append_60 ?_
        refine j_dSN hX (nA := 3) (As := [.ref (ad 7), .int (nI o), .int ((atF 6 (rvA os o (M 7) j) (nI o)) ||| (1 <<< ((nI j) &&& 31)))]) (st := []) (st' := []) dX6_append_61 (c_setAt G (q := 7) (wCg7 _ _ _ _ _ _) (by decide) (w1 := (wC G ad V (sM M 7 (setF 6 (rvA os o (M 7) j) (nI o) ((atF 6 (rvA os o (M 7) j) (nI o)) ||| (1 <<< ((nI j) &&& 31))))) (enO ad o) (wO ad os (o + 1)))) (wCo7 _ _ _ _ _ _ _ _)) gX6_append_X11_setAt_n42 rfl (by decide +kernel) (host := "BasketOffers") (by decide +kernel) (by decide +kernel) (by decide +kernel) (by omega) (Nat.le_of_ble_eq_true rfl) rfl (Nat.le_of_ble_eq_true rfl) rfl ⟨Nat.le_refl _, Nat.le_refl _⟩ rfl ?_
        refine j_aload_n hX dX6_append_64 rfl ?_
        refine j_getf hX (v := .ref (ad 7)) dX6_append_65 fX6_append_17 5 (wCg5 _ _ _ _ _ _) rfl ?_
        refine j_iload_n hX dX6_append_68 rfl ?_
        refine j_aload_n hX dX6_append_69 rfl ?_
        refine j_getf hX (v := .ref (ad 7)) dX6_append_70 fX6_append_17 5 (wCg5 _ _ _ _ _ _) rfl ?_
        refine j_iload_n hX dX6_append_73 rfl ?_
        refine j_dSN hX (nA := 2) (As := [.ref (ad 7), .int (nI j)]) (st := [.int (nI j), .ref (ad 7)]) (st' := [.int (atF 6 (setF 6 (rvA os o (M 7) j) (nI o) ((atF 6 (rvA os o (M 7) j) (nI o)) ||| (1 <<< ((nI j) &&& 31)))) (nI j)), .int (nI j), .ref (ad 7)]) dX6_append_74 (c_at G (q := 7) (wCg7 _ _ _ _ _ _) (by decide)) gX6_append_X11_at_n38 rfl (by decide +kernel) (host := "BasketOffers") (by decide +kernel) (by decide +kernel) (by decide +kernel) (by omega) (Nat.le_of_ble_eq_true rfl) rfl (Nat.le_of_ble_eq_true rfl) rfl ⟨Nat.le_refl _, Nat.le_refl _⟩ rfl ?_
        refine j_iconst hX (v := 1) (by decide) dX6_append_77 ?_
        refine j_iload_n hX dX6_append_78 rfl ?_
        refine j_ishl hX dX6_append_79 ?_
        refine j_ior hX dX6_append_80 ?_
        refine j_dSN hX (nA := 3) (As := [.ref (ad 7), .int (nI j), .int ((atF 6 (setF 6 (rvA os o (M 7) j) (nI o) ((atF 6 (rvA os o (M 7) j) (nI o)) ||| (1 <<< ((nI j) &&& 31)))) (nI j)) ||| (1 <<< ((nI o) &&& 31)))]) (st := []) (st' := []) dX6_append_81 (c_setAt G (q := 7) (wCg7 _ _ _ _ _ _) (by decide) (w1 := (wC G ad V (sM M 7 (setF 6 (setF 6 (rvA os o (M 7) j) (nI o) ((atF 6 (rvA os o (M 7) j) (nI o)) ||| (1 <<< ((nI j) &&& 31)))) (nI j) ((atF 6 (setF 6 (rvA os o (M 7) j) (nI o) ((atF 6 (rvA os o (M 7) j) (nI o)) ||| (1 <<< ((nI j) &&& 31)))) (nI j)) ||| (1 <<< ((nI o) &&& 31))))) (enO ad o) (wO ad os (o + 1)))) (wCo7 _ _ _ _ _ _ _ _)) gX6_append_X11_setAt_n42 rfl (by decide +kernel) (host := "BasketOffers") (by decide +kernel) (by decide +kernel) (by decide +kernel) (by omega) (Nat.le_of_ble_eq_true rfl) rfl (Nat.le_of_ble_eq_true rfl) rfl ⟨Nat.le_refl _, Nat.le_refl _⟩ rfl ?_
        refine j_iinc hX (v := nI (j + 1)) (ls' := [some (.ref (ad 5)), some (.ref (ad (30 + o))), some (.int (nI o)), some (.int (nI (j + 1)))]) dX6_append_84 rfl (j_inc1 _) rfl rfl ?_
        refine j_goto hX (tgt := 26) dX6_append_87 (by decide) ?_
        refine jW.world (ws' := (wC G ad V (sM M 7 (rvA os o (M 7) (j + 1))) (enO ad o) (wO ad os (o + 1)))) (by rw [show rvA os o (M 7) (j + 1) = setF 6 (setF 6 (rvA os o (M 7) j) (nI o) ((atF 6 (rvA os o (M 7) j) (nI o)) ||| (1 <<< ((nI j) &&& 31)))) (nI j) ((atF 6 (setF 6 (rvA os o (M 7) j) (nI o) ((atF 6 (rvA os o (M 7) j) (nI o)) ||| (1 <<< ((nI j) &&& 31)))) (nI j)) ||| (1 <<< ((nI o) &&& 31))) from (if_neg h41)]) ?_
        exact ihj (j + 1) (by omega) (by omega)
  refine jW.world (ws' := (wC G ad V (sM M 7 (rvA os o (M 7) 0)) (enO ad o) (wO ad os (o + 1)))) rfl ?_
  exact L26 o 0 (Nat.le_refl _) (by omega)

def findF (os : Nat → ofr) (o n : Nat) (s : VM) : VM := if s.1 1 = 0 then (sV (runF os o n (s.1 0) s).1 1 1, writeM (runF os o n (s.1 0) s).1 (runF os o n (s.1 0) s).2 n) else s
