set_option maxHeartbeats 4000000 in
set_option maxRecDepth 100000 in
theorem c_L_put (G : jG) {w0 : va_W} {b : Nat} {fs : List Value} (he : w0[0]? = some (b, .inr (12, fs))) (p0 p1 : Int32) {post' : Option Value → va_W → Prop} {postX' : String → Prop} (hC : jT G 30 yX11_put wsX11_put [.ref b, .int p0, .int p1] w0 1 6 post' postX') (hv : ∀ rv w1, post' rv w1 → ∃ v : Int32, rv = some (.int v)) (hE : ∀ E, postX' E → E = "java/lang/IllegalArgumentException" ∨ E = "java/lang/IllegalStateException") : jH G 31 yL_put wsL_put [.ref b, .int p0, .int p1] w0 1 6 (fun rv w => post' rv w ∨ (∃ E, postX' E ∧ ((E = "java/lang/IllegalArgumentException" ∧ rv = some (.int (-1001))) ∨ (E = "java/lang/IllegalStateException" ∧ rv = some (.int (-1002)))) ∧ w = w0)) := by
  refine jH.of (maxL := 4) (cc := cL_put) (ret := some .int) (hh := [(0, 6, 7, 13), (0, 6, 12, 15)]) rfl (by decide) [some (.ref b), some (.int p0), some (.int p1), none] rfl (Nat.le_of_ble_eq_true rfl) (j_args rfl) (fun X hX hH => ?_)
  refine j_aload_n hX dL_put_0 rfl ?_
  refine j_iload_n hX dL_put_1 rfl ?_
  refine j_iload_n hX dL_put_2 rfl ?_
  refine j_tryV hX hH (nA := 2) (cq := (RX11, TX11, 7)) (As := [.int p0, .int p1]) (st := []) (wa := []) (w0 := w0) (wb := []) (ci := 12) rfl dL_put_3 hC gL_put_X11_put rfl (by decide +kernel) (q := 0) (by simpa using he) (by decide) (Nat.le_of_ble_eq_true rfl) rfl (Nat.le_of_ble_eq_true rfl) ⟨by decide, by decide⟩ rfl (by simp) (fun rv w1 hp => ?_) (fun E hx => ?_)
  · obtain ⟨v, rfl⟩ := hv _ _ hp
    refine jW.stk (st' := [.int v]) rfl ?_
    refine jW.world (ws' := w1) (by simp) ?_
    exact j_iret hX dL_put_6 (Or.inl hp)
  · rcases hE E hx with rfl | rfl
    · refine ⟨[], _, _, rfl, (fun z hz => by cases hz), by decide, by decide, (by decide +kernel : Cond.classLink RL 13 "java/lang/IllegalArgumentException" ∈ wsL_put), by decide, fun qx => ?_⟩
      show jW G X (0 + 1) (0 + 6) 7 _ [.ref qx] _
      refine j_astore_n hX (ls' := [some (.ref b), some (.int p0), some (.int p1), some (.ref qx)]) dL_put_7 (Nat.le_of_ble_eq_true rfl) rfl rfl ?_
      refine j_sipush hX (v := -1001) (by decide) dL_put_8 ?_
      exact j_iret hX dL_put_11 (Or.inr ⟨_, hx, Or.inl ⟨rfl, rfl⟩, by simp⟩)
    · refine ⟨[_], _, _, rfl, (fun z hz => by rcases List.mem_singleton.mp hz with rfl; exact ⟨by decide, rfl, _, (by decide +kernel : Cond.classLink RL 13 "java/lang/IllegalArgumentException" ∈ wsL_put), Or.inl rfl⟩), by decide, by decide, (by decide +kernel : Cond.classLink RL 15 "java/lang/IllegalStateException" ∈ wsL_put), by decide, fun qx => ?_⟩
      show jW G X (0 + 1) (0 + 6) 12 _ [.ref qx] _
      refine j_astore_n hX (ls' := [some (.ref b), some (.int p0), some (.int p1), some (.ref qx)]) dL_put_12 (Nat.le_of_ble_eq_true rfl) rfl rfl ?_
      refine j_sipush hX (v := -1002) (by decide) dL_put_13 ?_
      exact j_iret hX dL_put_16 (Or.inr ⟨_, hx, Or.inr ⟨rfl, rfl⟩, by simp⟩)

set_option maxHeartbeats 4000000 in
set_option maxRecDepth 100000 in
theorem c_L_out (G : jG) {w0 : va_W} {b : Nat} {fs : List Value} (he : w0[0]? = some (b, .inr (12, fs))) (p0 : Int32) {post' : Option Value → va_W → Prop} {postX' : String → Prop} (hC : jT G 30 yX11_takeOut wsX11_takeOut [.ref b, .int p0] w0 1 6 post' postX') (hv : ∀ rv w1, post' rv w1 → ∃ v : Int32, rv = some (.int v)) (hE : ∀ E, postX' E → E = "java/util/NoSuchElementException") : jH G 31 yL_out wsL_out [.ref b, .int p0] w0 1 6 (fun rv w => post' rv w ∨ (∃ E, postX' E ∧ ((E = "java/util/NoSuchElementException" ∧ rv = some (.int (-1001)))) ∧ w = w0)) := by
  refine jH.of (maxL := 3) (cc := cL_out) (ret := some .int) (hh := [(0, 5, 6, 21)]) rfl (by decide) [some (.ref b), some (.int p0), none] rfl (Nat.le_of_ble_eq_true rfl) (j_args rfl) (fun X hX hH => ?_)
  refine j_aload_n hX dL_out_0 rfl ?_
  refine j_iload_n hX dL_out_1 rfl ?_
  refine j_tryV hX hH (nA := 1) (cq := (RX11, TX11, 7)) (As := [.int p0]) (st := []) (wa := []) (w0 := w0) (wb := []) (ci := 12) rfl dL_out_2 hC gL_out_X11_takeOut rfl (by decide +kernel) (q := 0) (by simpa using he) (by decide) (Nat.le_of_ble_eq_true rfl) rfl (Nat.le_of_ble_eq_true rfl) ⟨by decide, by decide⟩ rfl (by simp) (fun rv w1 hp => ?_) (fun E hx => ?_)
  · obtain ⟨v, rfl⟩ := hv _ _ hp
    refine jW.stk (st' := [.int v]) rfl ?_
    refine jW.world (ws' := w1) (by simp) ?_
    exact j_iret hX dL_out_5 (Or.inl hp)
  · obtain rfl := hE E hx
    refine ⟨[], _, _, rfl, (fun z hz => by cases hz), by decide, by decide, (by decide +kernel : Cond.classLink RL 21 "java/util/NoSuchElementException" ∈ wsL_out), by decide, fun qx => ?_⟩
    show jW G X (0 + 1) (0 + 6) 6 _ [.ref qx] _
    refine j_astore_n hX (ls' := [some (.ref b), some (.int p0), some (.ref qx)]) dL_out_6 (Nat.le_of_ble_eq_true rfl) rfl rfl ?_
    refine j_sipush hX (v := -1001) (by decide) dL_out_7 ?_
    exact j_iret hX dL_out_10 (Or.inr ⟨_, hx, ⟨rfl, rfl⟩, by simp⟩)

set_option maxHeartbeats 4000000 in
set_option maxRecDepth 100000 in
theorem c_L_customer (G : jG) {w0 : va_W} {b : Nat} {fs : List Value} (he : w0[0]? = some (b, .inr (12, fs))) (p0 : Int32) {post' : Option Value → va_W → Prop} {postX' : String → Prop} (hC : jT G 30 yX11_setCustomer wsX11_setCustomer [.ref b, .int p0] w0 1 6 post' postX') (hv : ∀ rv w1, post' rv w1 → ∃ v : Int32, rv = some (.int v)) (hE : ∀ E, postX' E → E = "java/lang/IllegalArgumentException") : jH G 31 yL_customer wsL_customer [.ref b, .int p0] w0 1 6 (fun rv w => post' rv w ∨ (∃ E, postX' E ∧ ((E = "java/lang/IllegalArgumentException" ∧ rv = some (.int (-1001)))) ∧ w = w0)) := by
  refine jH.of (maxL := 3) (cc := cL_customer) (ret := some .int) (hh := [(0, 5, 6, 13)]) rfl (by decide) [some (.ref b), some (.int p0), none] rfl (Nat.le_of_ble_eq_true rfl) (j_args rfl) (fun X hX hH => ?_)
  refine j_aload_n hX dL_customer_0 rfl ?_
  refine j_iload_n hX dL_customer_1 rfl ?_
  refine j_tryV hX hH (nA := 1) (cq := (RX11, TX11, 7)) (As := [.int p0]) (st := []) (wa := []) (w0 := w0) (wb := []) (ci := 12) rfl dL_customer_2 hC gL_customer_X11_setCustomer rfl (by decide +kernel) (q := 0) (by simpa using he) (by decide) (Nat.le_of_ble_eq_true rfl) rfl (Nat.le_of_ble_eq_true rfl) ⟨by decide, by decide⟩ rfl (by simp) (fun rv w1 hp => ?_) (fun E hx => ?_)
  · obtain ⟨v, rfl⟩ := hv _ _ hp
    refine jW.stk (st' := [.int v]) rfl ?_
    refine jW.world (ws' := w1) (by simp) ?_
    exact j_iret hX dL_customer_5 (Or.inl hp)
  · obtain rfl := hE E hx
    refine ⟨[], _, _, rfl, (fun z hz => by cases hz), by decide, by decide, (by decide +kernel : Cond.classLink RL 13 "java/lang/IllegalArgumentException" ∈ wsL_customer), by decide, fun qx => ?_⟩
    show jW G X (0 + 1) (0 + 6) 6 _ [.ref qx] _
    refine j_astore_n hX (ls' := [some (.ref b), some (.int p0), some (.ref qx)]) dL_customer_6 (Nat.le_of_ble_eq_true rfl) rfl rfl ?_
    refine j_sipush hX (v := -1001) (by decide) dL_customer_7 ?_
    exact j_iret hX dL_customer_10 (Or.inr ⟨_, hx, ⟨rfl, rfl⟩, by simp⟩)

set_option maxHeartbeats 4000000 in
set_option maxRecDepth 100000 in
theorem c_L_tries (G : jG) {w0 : va_W} {b : Nat} {fs : List Value} (he : w0[0]? = some (b, .inr (12, fs))) {post' : Option Value → va_W → Prop} {postX' : String → Prop} (hC : jT G 30 yX11_bestByTrying wsX11_bestByTrying [.ref b] w0 1 6 post' postX') (hv : ∀ rv w1, post' rv w1 → ∃ v : Int32, rv = some (.int v)) (hE : ∀ E, postX' E → E = "java/lang/UnsupportedOperationException") : jH G 31 yL_tries wsL_tries [.ref b] w0 1 6 (fun rv w => post' rv w ∨ (∃ E, postX' E ∧ ((E = "java/lang/UnsupportedOperationException" ∧ rv = some (.int (-1001)))) ∧ w = w0)) := by
  refine jH.of (maxL := 2) (cc := cL_tries) (ret := some .int) (hh := [(0, 4, 5, 62)]) rfl (by decide) [some (.ref b), none] rfl (Nat.le_of_ble_eq_true rfl) (j_args rfl) (fun X hX hH => ?_)
  refine j_aload_n hX dL_tries_0 rfl ?_
  refine j_tryV hX hH (nA := 0) (cq := (RX11, TX11, 7)) (As := []) (st := []) (wa := []) (w0 := w0) (wb := []) (ci := 12) rfl dL_tries_1 hC gL_tries_X11_bestByTrying rfl (by decide +kernel) (q := 0) (by simpa using he) (by decide) (Nat.le_of_ble_eq_true rfl) rfl (Nat.le_of_ble_eq_true rfl) ⟨by decide, by decide⟩ rfl (by simp) (fun rv w1 hp => ?_) (fun E hx => ?_)
  · obtain ⟨v, rfl⟩ := hv _ _ hp
    refine jW.stk (st' := [.int v]) rfl ?_
    refine jW.world (ws' := w1) (by simp) ?_
    exact j_iret hX dL_tries_4 (Or.inl hp)
  · obtain rfl := hE E hx
    refine ⟨[], _, _, rfl, (fun z hz => by cases hz), by decide, by decide, (by decide +kernel : Cond.classLink RL 62 "java/lang/UnsupportedOperationException" ∈ wsL_tries), by decide, fun qx => ?_⟩
    show jW G X (0 + 1) (0 + 6) 5 _ [.ref qx] _
    refine j_astore_n hX (ls' := [some (.ref b), some (.ref qx)]) dL_tries_5 (Nat.le_of_ble_eq_true rfl) rfl rfl ?_
    refine j_sipush hX (v := -1001) (by decide) dL_tries_6 ?_
    exact j_iret hX dL_tries_9 (Or.inr ⟨_, hx, ⟨rfl, rfl⟩, by simp⟩)

set_option maxHeartbeats 4000000 in
set_option maxRecDepth 100000 in
theorem c_L_sell (G : jG) {w0 : va_W} {b : Nat} {fs : List Value} (he : w0[0]? = some (b, .inr (12, fs))) {post' : Option Value → va_W → Prop} {postX' : String → Prop} (hC : jT G 30 yX11_sell wsX11_sell [.ref b] w0 1 6 post' postX') (hv : ∀ rv w1, post' rv w1 → ∃ v : Int32, rv = some (.int v)) (hE : ∀ E, postX' E → E = "java/lang/IllegalStateException") : jH G 31 yL_sell wsL_sell [.ref b] w0 1 6 (fun rv w => post' rv w ∨ (∃ E, postX' E ∧ ((E = "java/lang/IllegalStateException" ∧ rv = some (.int (-1001)))) ∧ w = w0)) := by
  refine jH.of (maxL := 2) (cc := cL_sell) (ret := some .int) (hh := [(0, 4, 5, 15)]) rfl (by decide) [some (.ref b), none] rfl (Nat.le_of_ble_eq_true rfl) (j_args rfl) (fun X hX hH => ?_)
  refine j_aload_n hX dL_sell_0 rfl ?_
  refine j_tryV hX hH (nA := 0) (cq := (RX11, TX11, 7)) (As := []) (st := []) (wa := []) (w0 := w0) (wb := []) (ci := 12) rfl dL_sell_1 hC gL_sell_X11_sell rfl (by decide +kernel) (q := 0) (by simpa using he) (by decide) (Nat.le_of_ble_eq_true rfl) rfl (Nat.le_of_ble_eq_true rfl) ⟨by decide, by decide⟩ rfl (by simp) (fun rv w1 hp => ?_) (fun E hx => ?_)
  · obtain ⟨v, rfl⟩ := hv _ _ hp
    refine jW.stk (st' := [.int v]) rfl ?_
    refine jW.world (ws' := w1) (by simp) ?_
    exact j_iret hX dL_sell_4 (Or.inl hp)
  · obtain rfl := hE E hx
    refine ⟨[], _, _, rfl, (fun z hz => by cases hz), by decide, by decide, (by decide +kernel : Cond.classLink RL 15 "java/lang/IllegalStateException" ∈ wsL_sell), by decide, fun qx => ?_⟩
    show jW G X (0 + 1) (0 + 6) 5 _ [.ref qx] _
    refine j_astore_n hX (ls' := [some (.ref b), some (.ref qx)]) dL_sell_5 (Nat.le_of_ble_eq_true rfl) rfl rfl ?_
    refine j_sipush hX (v := -1001) (by decide) dL_sell_6 ?_
    exact j_iret hX dL_sell_9 (Or.inr ⟨_, hx, ⟨rfl, rfl⟩, by simp⟩)

set_option maxHeartbeats 4000000 in
set_option maxRecDepth 100000 in
theorem c_L_back (G : jG) {w0 : va_W} {b : Nat} {fs : List Value} (he : w0[0]? = some (b, .inr (12, fs))) (p0 : Int32) {post' : Option Value → va_W → Prop} {postX' : String → Prop} (hC : jT G 30 yX11_giveBack wsX11_giveBack [.ref b, .int p0] w0 1 6 post' postX') (hv : ∀ rv w1, post' rv w1 → ∃ v : Int32, rv = some (.int v)) (hE : ∀ E, postX' E → E = "java/util/NoSuchElementException" ∨ E = "java/lang/IllegalStateException") : jH G 31 yL_back wsL_back [.ref b, .int p0] w0 1 6 (fun rv w => post' rv w ∨ (∃ E, postX' E ∧ ((E = "java/util/NoSuchElementException" ∧ rv = some (.int (-1001))) ∨ (E = "java/lang/IllegalStateException" ∧ rv = some (.int (-1002)))) ∧ w = w0)) := by
  refine jH.of (maxL := 3) (cc := cL_back) (ret := some .int) (hh := [(0, 5, 6, 21), (0, 5, 11, 15)]) rfl (by decide) [some (.ref b), some (.int p0), none] rfl (Nat.le_of_ble_eq_true rfl) (j_args rfl) (fun X hX hH => ?_)
  refine j_aload_n hX dL_back_0 rfl ?_
  refine j_iload_n hX dL_back_1 rfl ?_
  refine j_tryV hX hH (nA := 1) (cq := (RX11, TX11, 7)) (As := [.int p0]) (st := []) (wa := []) (w0 := w0) (wb := []) (ci := 12) rfl dL_back_2 hC gL_back_X11_giveBack rfl (by decide +kernel) (q := 0) (by simpa using he) (by decide) (Nat.le_of_ble_eq_true rfl) rfl (Nat.le_of_ble_eq_true rfl) ⟨by decide, by decide⟩ rfl (by simp) (fun rv w1 hp => ?_) (fun E hx => ?_)
  · obtain ⟨v, rfl⟩ := hv _ _ hp
    refine jW.stk (st' := [.int v]) rfl ?_
    refine jW.world (ws' := w1) (by simp) ?_
    exact j_iret hX dL_back_5 (Or.inl hp)
  · rcases hE E hx with rfl | rfl
    · refine ⟨[], _, _, rfl, (fun z hz => by cases hz), by decide, by decide, (by decide +kernel : Cond.classLink RL 21 "java/util/NoSuchElementException" ∈ wsL_back), by decide, fun qx => ?_⟩
      show jW G X (0 + 1) (0 + 6) 6 _ [.ref qx] _
      refine j_astore_n hX (ls' := [some (.ref b), some (.int p0), some (.ref qx)]) dL_back_6 (Nat.le_of_ble_eq_true rfl) rfl rfl ?_
      refine j_sipush hX (v := -1001) (by decide) dL_back_7 ?_
      exact j_iret hX dL_back_10 (Or.inr ⟨_, hx, Or.inl ⟨rfl, rfl⟩, by simp⟩)
    · refine ⟨[_], _, _, rfl, (fun z hz => by rcases List.mem_singleton.mp hz with rfl; exact ⟨by decide, rfl, _, (by decide +kernel : Cond.classLink RL 21 "java/util/NoSuchElementException" ∈ wsL_back), Or.inr rfl⟩), by decide, by decide, (by decide +kernel : Cond.classLink RL 15 "java/lang/IllegalStateException" ∈ wsL_back), by decide, fun qx => ?_⟩
      show jW G X (0 + 1) (0 + 6) 11 _ [.ref qx] _
      refine j_astore_n hX (ls' := [some (.ref b), some (.int p0), some (.ref qx)]) dL_back_11 (Nat.le_of_ble_eq_true rfl) rfl rfl ?_
      refine j_sipush hX (v := -1002) (by decide) dL_back_12 ?_
      exact j_iret hX dL_back_15 (Or.inr ⟨_, hx, Or.inr ⟨rfl, rfl⟩, by simp⟩)

set_option maxHeartbeats 4000000 in
set_option maxRecDepth 100000 in
theorem c_L_buyer (G : jG) {w0 : va_W} {b : Nat} {fs : List Value} (he : w0[0]? = some (b, .inr (12, fs))) (p0 : Int32) {post' : Option Value → va_W → Prop} {postX' : String → Prop} (hC : jT G 30 yX11_soldTo wsX11_soldTo [.ref b, .int p0] w0 1 6 post' postX') (hv : ∀ rv w1, post' rv w1 → ∃ v : Int32, rv = some (.int v)) (hE : ∀ E, postX' E → E = "java/util/NoSuchElementException") : jH G 31 yL_buyer wsL_buyer [.ref b, .int p0] w0 1 6 (fun rv w => post' rv w ∨ (∃ E, postX' E ∧ ((E = "java/util/NoSuchElementException" ∧ rv = some (.int (-1001)))) ∧ w = w0)) := by
  refine jH.of (maxL := 3) (cc := cL_buyer) (ret := some .int) (hh := [(0, 5, 6, 21)]) rfl (by decide) [some (.ref b), some (.int p0), none] rfl (Nat.le_of_ble_eq_true rfl) (j_args rfl) (fun X hX hH => ?_)
  refine j_aload_n hX dL_buyer_0 rfl ?_
  refine j_iload_n hX dL_buyer_1 rfl ?_
  refine j_tryV hX hH (nA := 1) (cq := (RX11, TX11, 7)) (As := [.int p0]) (st := []) (wa := []) (w0 := w0) (wb := []) (ci := 12) rfl dL_buyer_2 hC gL_buyer_X11_soldTo rfl (by decide +kernel) (q := 0) (by simpa using he) (by decide) (Nat.le_of_ble_eq_true rfl) rfl (Nat.le_of_ble_eq_true rfl) ⟨by decide, by decide⟩ rfl (by simp) (fun rv w1 hp => ?_) (fun E hx => ?_)
  · obtain ⟨v, rfl⟩ := hv _ _ hp
    refine jW.stk (st' := [.int v]) rfl ?_
    refine jW.world (ws' := w1) (by simp) ?_
    exact j_iret hX dL_buyer_5 (Or.inl hp)
  · obtain rfl := hE E hx
    refine ⟨[], _, _, rfl, (fun z hz => by cases hz), by decide, by decide, (by decide +kernel : Cond.classLink RL 21 "java/util/NoSuchElementException" ∈ wsL_buyer), by decide, fun qx => ?_⟩
    show jW G X (0 + 1) (0 + 6) 6 _ [.ref qx] _
    refine j_astore_n hX (ls' := [some (.ref b), some (.int p0), some (.ref qx)]) dL_buyer_6 (Nat.le_of_ble_eq_true rfl) rfl rfl ?_
    refine j_sipush hX (v := -1001) (by decide) dL_buyer_7 ?_
    exact j_iret hX dL_buyer_10 (Or.inr ⟨_, hx, ⟨rfl, rfl⟩, by simp⟩)

set_option maxHeartbeats 4000000 in
set_option maxRecDepth 100000 in
theorem c_L_share (G : jG) {w0 : va_W} {b : Nat} {fs : List Value} (he : w0[0]? = some (b, .inr (12, fs))) {post' : Option Value → va_W → Prop} {postX' : String → Prop} (hC : jT G 30 yX11_discountShare wsX11_discountShare [.ref b] w0 1 6 post' postX') (hv : ∀ rv w1, post' rv w1 → ∃ v : UInt32, rv = some (.float v)) (hE : ∀ E, postX' E → E = "java/lang/ArithmeticException") : jH G 31 yL_share wsL_share [.ref b] w0 1 6 (fun rv w => post' rv w ∨ (∃ E, postX' E ∧ ((E = "java/lang/ArithmeticException" ∧ rv = some (.float 3212836864))) ∧ w = w0)) := by
  refine jH.of (maxL := 2) (cc := cL_share) (ret := some .float) (hh := [(0, 4, 5, 77)]) rfl (by decide) [some (.ref b), none] rfl (Nat.le_of_ble_eq_true rfl) (j_args rfl) (fun X hX hH => ?_)
  refine j_aload_n hX dL_share_0 rfl ?_
  refine j_tryV hX hH (nA := 0) (cq := (RX11, TX11, 7)) (As := []) (st := []) (wa := []) (w0 := w0) (wb := []) (ci := 12) rfl dL_share_1 hC gL_share_X11_discountShare rfl (by decide +kernel) (q := 0) (by simpa using he) (by decide) (Nat.le_of_ble_eq_true rfl) rfl (Nat.le_of_ble_eq_true rfl) ⟨by decide, by decide⟩ rfl (by simp) (fun rv w1 hp => ?_) (fun E hx => ?_)
  · obtain ⟨v, rfl⟩ := hv _ _ hp
    refine jW.stk (st' := [.float v]) rfl ?_
    refine jW.world (ws' := w1) (by simp) ?_
    exact j_fret hX dL_share_4 (Or.inl hp)
  · obtain rfl := hE E hx
    refine ⟨[], _, _, rfl, (fun z hz => by cases hz), by decide, by decide, (by decide +kernel : Cond.classLink RL 77 "java/lang/ArithmeticException" ∈ wsL_share), by decide, fun qx => ?_⟩
    show jW G X (0 + 1) (0 + 6) 5 _ [.ref qx] _
    refine j_astore_n hX (ls' := [some (.ref b), some (.ref qx)]) dL_share_5 (Nat.le_of_ble_eq_true rfl) rfl rfl ?_
    refine j_ldcf hX (v := 3212836864) dL_share_6 (by decide +kernel) ?_
    exact j_fret hX dL_share_8 (Or.inr ⟨_, hx, ⟨rfl, rfl⟩, by simp⟩)

set_option maxHeartbeats 4000000 in
set_option maxRecDepth 100000 in
theorem c_L_mean (G : jG) {w0 : va_W} {b : Nat} {fs : List Value} (he : w0[0]? = some (b, .inr (12, fs))) {post' : Option Value → va_W → Prop} {postX' : String → Prop} (hC : jT G 30 yX11_meanNetPrice wsX11_meanNetPrice [.ref b] w0 1 6 post' postX') (hv : ∀ rv w1, post' rv w1 → ∃ v : UInt64, rv = some (.double v)) (hE : ∀ E, postX' E → E = "java/lang/ArithmeticException") : jH G 31 yL_mean wsL_mean [.ref b] w0 1 6 (fun rv w => post' rv w ∨ (∃ E, postX' E ∧ ((E = "java/lang/ArithmeticException" ∧ rv = some (.double 13830554455654793216))) ∧ w = w0)) := by
  refine jH.of (maxL := 2) (cc := cL_mean) (ret := some .double) (hh := [(0, 4, 5, 77)]) rfl (by decide) [some (.ref b), none] rfl (Nat.le_of_ble_eq_true rfl) (j_args rfl) (fun X hX hH => ?_)
  refine j_aload_n hX dL_mean_0 rfl ?_
  refine j_tryV hX hH (nA := 0) (cq := (RX11, TX11, 7)) (As := []) (st := []) (wa := []) (w0 := w0) (wb := []) (ci := 12) rfl dL_mean_1 hC gL_mean_X11_meanNetPrice rfl (by decide +kernel) (q := 0) (by simpa using he) (by decide) (Nat.le_of_ble_eq_true rfl) rfl (Nat.le_of_ble_eq_true rfl) ⟨by decide, by decide⟩ rfl (by simp) (fun rv w1 hp => ?_) (fun E hx => ?_)
  · obtain ⟨v, rfl⟩ := hv _ _ hp
    refine jW.stk (st' := [.double v]) rfl ?_
    refine jW.world (ws' := w1) (by simp) ?_
    exact j_dret hX dL_mean_4 (Or.inl hp)
  · obtain rfl := hE E hx
    refine ⟨[], _, _, rfl, (fun z hz => by cases hz), by decide, by decide, (by decide +kernel : Cond.classLink RL 77 "java/lang/ArithmeticException" ∈ wsL_mean), by decide, fun qx => ?_⟩
    show jW G X (0 + 1) (0 + 6) 5 _ [.ref qx] _
    refine j_astore_n hX (ls' := [some (.ref b), some (.ref qx)]) dL_mean_5 (Nat.le_of_ble_eq_true rfl) rfl rfl ?_
    refine j_ldc2d hX (v := 13830554455654793216) dL_mean_6 (by decide +kernel) ?_
    exact j_dret hX dL_mean_9 (Or.inr ⟨_, hx, ⟨rfl, rfl⟩, by simp⟩)

set_option maxHeartbeats 4000000 in
set_option maxRecDepth 100000 in
theorem c_L_item_n (G : jG) {w0 : va_W} {b : Nat} {fs : List Value} (he : w0[0]? = some (b, .inr (12, fs))) (p0 : Int32) {post' : Option Value → va_W → Prop} {postX' : String → Prop} (hC : jT G 30 yX11_netPrice wsX11_netPrice [.ref b, .int p0] w0 1 6 post' postX') (hv : ∀ rv w1, post' rv w1 → ∃ v : Int32, rv = some (.int v)) (hE : ∀ E, postX' E → E = "java/util/NoSuchElementException") : jH G 31 yL_item wsL_item [.ref b, .int p0, .int 1] w0 1 6 (fun rv w => post' rv w ∨ (∃ E, postX' E ∧ ((E = "java/util/NoSuchElementException" ∧ rv = some (.int (-1001)))) ∧ w = w0)) := by
  refine jH.of (maxL := 4) (cc := cL_item) (ret := some .int) (hh := [(0, 17, 18, 21)]) rfl (by decide) [some (.ref b), some (.int p0), some (.int 1), none] rfl (Nat.le_of_ble_eq_true rfl) (j_args rfl) (fun X hX hH => ?_)
  refine j_iload_n hX dL_item_0 rfl ?_
  refine j_if_eq_f hX (tgt := 12) dL_item_1 (by decide) (by decide) ?_
  refine j_aload_n hX dL_item_4 rfl ?_
  refine j_iload_n hX dL_item_5 rfl ?_
  refine j_tryV hX hH (nA := 1) (cq := (RX11, TX11, 7)) (As := [.int p0]) (st := []) (wa := []) (w0 := w0) (wb := []) (ci := 12) rfl dL_item_6 hC gL_item_X11_netPrice rfl (by decide +kernel) (q := 0) (by simpa using he) (by decide) (Nat.le_of_ble_eq_true rfl) rfl (Nat.le_of_ble_eq_true rfl) ⟨by decide, by decide⟩ rfl (by simp) (fun rv w1 hp => ?_) (fun E hx => ?_)
  · obtain ⟨v, rfl⟩ := hv _ _ hp
    refine jW.stk (st' := [.int v]) rfl ?_
    refine jW.world (ws' := w1) (by simp) ?_
    refine j_goto hX (tgt := 17) dL_item_9 (by decide) ?_
    exact j_iret hX dL_item_17 (Or.inl hp)
  · obtain rfl := hE E hx
    refine ⟨[], _, _, rfl, (fun z hz => by cases hz), by decide, by decide, (by decide +kernel : Cond.classLink RL 21 "java/util/NoSuchElementException" ∈ wsL_item), by decide, fun qx => ?_⟩
    show jW G X (0 + 1) (0 + 6) 18 _ [.ref qx] _
    refine j_astore_n hX (ls' := [some (.ref b), some (.int p0), some (.int 1), some (.ref qx)]) dL_item_18 (Nat.le_of_ble_eq_true rfl) rfl rfl ?_
    refine j_sipush hX (v := -1001) (by decide) dL_item_19 ?_
    exact j_iret hX dL_item_22 (Or.inr ⟨_, hx, ⟨rfl, rfl⟩, by simp⟩)

set_option maxHeartbeats 4000000 in
set_option maxRecDepth 100000 in
theorem c_L_item_o (G : jG) {w0 : va_W} {b : Nat} {fs : List Value} (he : w0[0]? = some (b, .inr (12, fs))) (p0 : Int32) {post' : Option Value → va_W → Prop} {postX' : String → Prop} (hC : jT G 30 yX11_offerOf wsX11_offerOf [.ref b, .int p0] w0 1 6 post' postX') (hv : ∀ rv w1, post' rv w1 → ∃ v : Int32, rv = some (.int v)) (hE : ∀ E, postX' E → E = "java/util/NoSuchElementException") : jH G 31 yL_item wsL_item [.ref b, .int p0, .int 0] w0 1 6 (fun rv w => post' rv w ∨ (∃ E, postX' E ∧ ((E = "java/util/NoSuchElementException" ∧ rv = some (.int (-1001)))) ∧ w = w0)) := by
  refine jH.of (maxL := 4) (cc := cL_item) (ret := some .int) (hh := [(0, 17, 18, 21)]) rfl (by decide) [some (.ref b), some (.int p0), some (.int 0), none] rfl (Nat.le_of_ble_eq_true rfl) (j_args rfl) (fun X hX hH => ?_)
  refine j_iload_n hX dL_item_0 rfl ?_
  refine j_if_eq_t hX (tgt := 12) dL_item_1 (by decide) (by decide) ?_
  refine j_aload_n hX dL_item_12 rfl ?_
  refine j_iload_n hX dL_item_13 rfl ?_
  refine j_tryV hX hH (nA := 1) (cq := (RX11, TX11, 7)) (As := [.int p0]) (st := []) (wa := []) (w0 := w0) (wb := []) (ci := 12) rfl dL_item_14 hC gL_item_X11_offerOf rfl (by decide +kernel) (q := 0) (by simpa using he) (by decide) (Nat.le_of_ble_eq_true rfl) rfl (Nat.le_of_ble_eq_true rfl) ⟨by decide, by decide⟩ rfl (by simp) (fun rv w1 hp => ?_) (fun E hx => ?_)
  · obtain ⟨v, rfl⟩ := hv _ _ hp
    refine jW.stk (st' := [.int v]) rfl ?_
    refine jW.world (ws' := w1) (by simp) ?_
    exact j_iret hX dL_item_17 (Or.inl hp)
  · obtain rfl := hE E hx
    refine ⟨[], _, _, rfl, (fun z hz => by cases hz), by decide, by decide, (by decide +kernel : Cond.classLink RL 21 "java/util/NoSuchElementException" ∈ wsL_item), by decide, fun qx => ?_⟩
    show jW G X (0 + 1) (0 + 6) 18 _ [.ref qx] _
    refine j_astore_n hX (ls' := [some (.ref b), some (.int p0), some (.int 0), some (.ref qx)]) dL_item_18 (Nat.le_of_ble_eq_true rfl) rfl rfl ?_
    refine j_sipush hX (v := -1001) (by decide) dL_item_19 ?_
    exact j_iret hX dL_item_22 (Or.inr ⟨_, hx, ⟨rfl, rfl⟩, by simp⟩)

set_option maxHeartbeats 4000000 in
set_option maxRecDepth 100000 in
theorem c_L_of_l (G : jG) {w0 : va_W} {b : Nat} {fs : List Value} (he : w0[0]? = some (b, .inr (12, fs))) (p0 : Int32) {post' : Option Value → va_W → Prop} {postX' : String → Prop} (hC : jT G 30 yX11_left wsX11_left [.ref b, .int p0] w0 1 6 post' postX') (hv : ∀ rv w1, post' rv w1 → ∃ v : Int32, rv = some (.int v)) (hE : ∀ E, postX' E → E = "java/lang/IndexOutOfBoundsException") : jH G 31 yL_of wsL_of [.ref b, .int p0, .int 108] w0 1 6 (fun rv w => post' rv w ∨ (∃ E, postX' E ∧ ((E = "java/lang/IndexOutOfBoundsException" ∧ rv = some (.int (-1001)))) ∧ w = w0)) := by
  refine jH.of (maxL := 4) (cc := cL_of) (ret := some .int) (hh := [(0, 33, 34, 50)]) rfl (by decide) [some (.ref b), some (.int p0), some (.int 108), none] rfl (Nat.le_of_ble_eq_true rfl) (j_args rfl) (fun X hX hH => ?_)
  refine j_iload_n hX dL_of_0 rfl ?_
  refine j_bipush hX (v := 108) (by decide) dL_of_1 ?_
  refine j_icmp_ne_f hX (tgt := 14) dL_of_3 (by decide) (by decide) ?_
  refine j_aload_n hX dL_of_6 rfl ?_
  refine j_iload_n hX dL_of_7 rfl ?_
  refine j_tryV hX hH (nA := 1) (cq := (RX11, TX11, 7)) (As := [.int p0]) (st := []) (wa := []) (w0 := w0) (wb := []) (ci := 12) rfl dL_of_8 hC gL_of_X11_left rfl (by decide +kernel) (q := 0) (by simpa using he) (by decide) (Nat.le_of_ble_eq_true rfl) rfl (Nat.le_of_ble_eq_true rfl) ⟨by decide, by decide⟩ rfl (by simp) (fun rv w1 hp => ?_) (fun E hx => ?_)
  · obtain ⟨v, rfl⟩ := hv _ _ hp
    refine jW.stk (st' := [.int v]) rfl ?_
    refine jW.world (ws' := w1) (by simp) ?_
    refine j_goto hX (tgt := 33) dL_of_11 (by decide) ?_
    exact j_iret hX dL_of_33 (Or.inl hp)
  · obtain rfl := hE E hx
    refine ⟨[], _, _, rfl, (fun z hz => by cases hz), by decide, by decide, (by decide +kernel : Cond.classLink RL 50 "java/lang/IndexOutOfBoundsException" ∈ wsL_of), by decide, fun qx => ?_⟩
    show jW G X (0 + 1) (0 + 6) 34 _ [.ref qx] _
    refine j_astore_n hX (ls' := [some (.ref b), some (.int p0), some (.int 108), some (.ref qx)]) dL_of_34 (Nat.le_of_ble_eq_true rfl) rfl rfl ?_
    refine j_sipush hX (v := -1001) (by decide) dL_of_35 ?_
    exact j_iret hX dL_of_38 (Or.inr ⟨_, hx, ⟨rfl, rfl⟩, by simp⟩)

set_option maxHeartbeats 4000000 in
set_option maxRecDepth 100000 in
theorem c_L_of_u (G : jG) {w0 : va_W} {b : Nat} {fs : List Value} (he : w0[0]? = some (b, .inr (12, fs))) (p0 : Int32) {post' : Option Value → va_W → Prop} {postX' : String → Prop} (hC : jT G 30 yX11_uses wsX11_uses [.ref b, .int p0] w0 1 6 post' postX') (hv : ∀ rv w1, post' rv w1 → ∃ v : Int32, rv = some (.int v)) (hE : ∀ E, postX' E → E = "java/lang/IndexOutOfBoundsException") : jH G 31 yL_of wsL_of [.ref b, .int p0, .int 117] w0 1 6 (fun rv w => post' rv w ∨ (∃ E, postX' E ∧ ((E = "java/lang/IndexOutOfBoundsException" ∧ rv = some (.int (-1001)))) ∧ w = w0)) := by
  refine jH.of (maxL := 4) (cc := cL_of) (ret := some .int) (hh := [(0, 33, 34, 50)]) rfl (by decide) [some (.ref b), some (.int p0), some (.int 117), none] rfl (Nat.le_of_ble_eq_true rfl) (j_args rfl) (fun X hX hH => ?_)
  refine j_iload_n hX dL_of_0 rfl ?_
  refine j_bipush hX (v := 108) (by decide) dL_of_1 ?_
  refine j_icmp_ne_t hX (tgt := 14) dL_of_3 (by decide) (by decide) ?_
  refine j_iload_n hX dL_of_14 rfl ?_
  refine j_bipush hX (v := 117) (by decide) dL_of_15 ?_
  refine j_icmp_ne_f hX (tgt := 28) dL_of_17 (by decide) (by decide) ?_
  refine j_aload_n hX dL_of_20 rfl ?_
  refine j_iload_n hX dL_of_21 rfl ?_
  refine j_tryV hX hH (nA := 1) (cq := (RX11, TX11, 7)) (As := [.int p0]) (st := []) (wa := []) (w0 := w0) (wb := []) (ci := 12) rfl dL_of_22 hC gL_of_X11_uses rfl (by decide +kernel) (q := 0) (by simpa using he) (by decide) (Nat.le_of_ble_eq_true rfl) rfl (Nat.le_of_ble_eq_true rfl) ⟨by decide, by decide⟩ rfl (by simp) (fun rv w1 hp => ?_) (fun E hx => ?_)
  · obtain ⟨v, rfl⟩ := hv _ _ hp
    refine jW.stk (st' := [.int v]) rfl ?_
    refine jW.world (ws' := w1) (by simp) ?_
    refine j_goto hX (tgt := 33) dL_of_25 (by decide) ?_
    exact j_iret hX dL_of_33 (Or.inl hp)
  · obtain rfl := hE E hx
    refine ⟨[], _, _, rfl, (fun z hz => by cases hz), by decide, by decide, (by decide +kernel : Cond.classLink RL 50 "java/lang/IndexOutOfBoundsException" ∈ wsL_of), by decide, fun qx => ?_⟩
    show jW G X (0 + 1) (0 + 6) 34 _ [.ref qx] _
    refine j_astore_n hX (ls' := [some (.ref b), some (.int p0), some (.int 117), some (.ref qx)]) dL_of_34 (Nat.le_of_ble_eq_true rfl) rfl rfl ?_
    refine j_sipush hX (v := -1001) (by decide) dL_of_35 ?_
    exact j_iret hX dL_of_38 (Or.inr ⟨_, hx, ⟨rfl, rfl⟩, by simp⟩)

set_option maxHeartbeats 4000000 in
set_option maxRecDepth 100000 in
theorem c_L_of_r (G : jG) {w0 : va_W} {b : Nat} {fs : List Value} (he : w0[0]? = some (b, .inr (12, fs))) (p0 : Int32) {post' : Option Value → va_W → Prop} {postX' : String → Prop} (hC : jT G 30 yX11_reason wsX11_reason [.ref b, .int p0] w0 1 6 post' postX') (hv : ∀ rv w1, post' rv w1 → ∃ v : Int32, rv = some (.int v)) (hE : ∀ E, postX' E → E = "java/lang/IndexOutOfBoundsException") : jH G 31 yL_of wsL_of [.ref b, .int p0, .int 114] w0 1 6 (fun rv w => post' rv w ∨ (∃ E, postX' E ∧ ((E = "java/lang/IndexOutOfBoundsException" ∧ rv = some (.int (-1001)))) ∧ w = w0)) := by
  refine jH.of (maxL := 4) (cc := cL_of) (ret := some .int) (hh := [(0, 33, 34, 50)]) rfl (by decide) [some (.ref b), some (.int p0), some (.int 114), none] rfl (Nat.le_of_ble_eq_true rfl) (j_args rfl) (fun X hX hH => ?_)
  refine j_iload_n hX dL_of_0 rfl ?_
  refine j_bipush hX (v := 108) (by decide) dL_of_1 ?_
  refine j_icmp_ne_t hX (tgt := 14) dL_of_3 (by decide) (by decide) ?_
  refine j_iload_n hX dL_of_14 rfl ?_
  refine j_bipush hX (v := 117) (by decide) dL_of_15 ?_
  refine j_icmp_ne_t hX (tgt := 28) dL_of_17 (by decide) (by decide) ?_
  refine j_aload_n hX dL_of_28 rfl ?_
  refine j_iload_n hX dL_of_29 rfl ?_
  refine j_tryV hX hH (nA := 1) (cq := (RX11, TX11, 7)) (As := [.int p0]) (st := []) (wa := []) (w0 := w0) (wb := []) (ci := 12) rfl dL_of_30 hC gL_of_X11_reason rfl (by decide +kernel) (q := 0) (by simpa using he) (by decide) (Nat.le_of_ble_eq_true rfl) rfl (Nat.le_of_ble_eq_true rfl) ⟨by decide, by decide⟩ rfl (by simp) (fun rv w1 hp => ?_) (fun E hx => ?_)
  · obtain ⟨v, rfl⟩ := hv _ _ hp
    refine jW.stk (st' := [.int v]) rfl ?_
    refine jW.world (ws' := w1) (by simp) ?_
    exact j_iret hX dL_of_33 (Or.inl hp)
  · obtain rfl := hE E hx
    refine ⟨[], _, _, rfl, (fun z hz => by cases hz), by decide, by decide, (by decide +kernel : Cond.classLink RL 50 "java/lang/IndexOutOfBoundsException" ∈ wsL_of), by decide, fun qx => ?_⟩
    show jW G X (0 + 1) (0 + 6) 34 _ [.ref qx] _
    refine j_astore_n hX (ls' := [some (.ref b), some (.int p0), some (.int 114), some (.ref qx)]) dL_of_34 (Nat.le_of_ble_eq_true rfl) rfl rfl ?_
    refine j_sipush hX (v := -1001) (by decide) dL_of_35 ?_
    exact j_iret hX dL_of_38 (Or.inr ⟨_, hx, ⟨rfl, rfl⟩, by simp⟩)

set_option maxHeartbeats 4000000 in
set_option maxRecDepth 100000 in
theorem c_L_offer_p (G : jG) {w0 : va_W} {b : Nat} {fs : List Value} (he : w0[0]? = some (b, .inr (12, fs))) {qn N : Nat} {f : Nat → Int32} (hN0 : vp_in 0 N) (hN1 : vp_in 1 N) (p2 p3 : Int32) {post' : Option Value → va_W → Prop} {postX' : String → Prop} (hC : jT G 30 yX11_addPercentage wsX11_addPercentage [.ref b, .int (f 0), .int (f 1), .int p2, .int p3] w0 1 6 post' postX') (hv : ∀ rv w1, post' rv w1 → ∃ v : Int32, rv = some (.int v)) (hE : ∀ E, postX' E → E = "java/lang/IllegalArgumentException" ∨ E = "java/lang/IllegalStateException") : jH G 31 yL_offer wsL_offer [.ref b, .int 112, .ref qn, .int p2, .int p3] ((qn, .inl (G.2.2 0, N, .inl f)) :: w0) 1 6 (fun rv w => (∃ w1, post' rv w1 ∧ w = (qn, .inl (G.2.2 0, N, .inl f)) :: w1) ∨ (∃ E, postX' E ∧ ((E = "java/lang/IllegalArgumentException" ∧ rv = some (.int (-1001))) ∨ (E = "java/lang/IllegalStateException" ∧ rv = some (.int (-1002)))) ∧ w = ((qn, .inl (G.2.2 0, N, .inl f)) :: w0))) := by
  refine jH.of (maxL := 6) (cc := cL_offer) (ret := some .int) (hh := [(0, 85, 86, 13), (0, 85, 92, 15)]) rfl (by decide) [some (.ref b), some (.int 112), some (.ref qn), some (.int p2), some (.int p3), none] rfl (Nat.le_of_ble_eq_true rfl) (j_args rfl) (fun X hX hH => ?_)
  refine j_iload_n hX dL_offer_0 rfl ?_
  refine j_bipush hX (v := 112) (by decide) dL_offer_1 ?_
  refine j_icmp_ne_f hX (tgt := 22) dL_offer_3 (by decide) (by decide) ?_
  refine j_aload_n hX dL_offer_6 rfl ?_
  refine j_aload_n hX dL_offer_7 rfl ?_
  refine j_iconst hX (v := 0) (by decide) dL_offer_8 ?_
  refine j_iald hX (v := f 0) dL_offer_9 0 rfl hN0 (congrArg f (by decide +kernel)) ?_
  refine j_aload_n hX dL_offer_10 rfl ?_
  refine j_iconst hX (v := 1) (by decide) dL_offer_11 ?_
  refine j_iald hX (v := f 1) dL_offer_12 0 rfl hN1 (congrArg f (by decide +kernel)) ?_
  refine j_iload_n hX dL_offer_13 rfl ?_
  refine j_iload hX dL_offer_14 rfl ?_
  refine j_tryV hX hH (nA := 4) (cq := (RX11, TX11, 7)) (As := [.int (f 0), .int (f 1), .int p2, .int p3]) (st := []) (wa := [(qn, .inl (G.2.2 0, N, .inl f))]) (w0 := w0) (wb := []) (ci := 12) rfl dL_offer_16 hC gL_offer_X11_addPercentage rfl (by decide +kernel) (q := 1) (by simpa using he) (by decide) (Nat.le_of_ble_eq_true rfl) rfl (Nat.le_of_ble_eq_true rfl) ⟨by decide, by decide⟩ rfl (by simp) (fun rv w1 hp => ?_) (fun E hx => ?_)
  · obtain ⟨v, rfl⟩ := hv _ _ hp
    refine jW.stk (st' := [.int v]) rfl ?_
    refine jW.world (ws' := (qn, .inl (G.2.2 0, N, .inl f)) :: w1) (by simp) ?_
    refine j_goto hX (tgt := 85) dL_offer_19 (by decide) ?_
    exact j_iret hX dL_offer_85 (Or.inl ⟨w1, hp, rfl⟩)
  · rcases hE E hx with rfl | rfl
    · refine ⟨[], _, _, rfl, (fun z hz => by cases hz), by decide, by decide, (by decide +kernel : Cond.classLink RL 13 "java/lang/IllegalArgumentException" ∈ wsL_offer), by decide, fun qx => ?_⟩
      show jW G X (0 + 1) (0 + 6) 86 _ [.ref qx] _
      refine j_astore hX (ls' := [some (.ref b), some (.int 112), some (.ref qn), some (.int p2), some (.int p3), some (.ref qx)]) dL_offer_86 (Nat.le_of_ble_eq_true rfl) rfl rfl ?_
      refine j_sipush hX (v := -1001) (by decide) dL_offer_88 ?_
      exact j_iret hX dL_offer_91 (Or.inr ⟨_, hx, Or.inl ⟨rfl, rfl⟩, by simp⟩)
    · refine ⟨[_], _, _, rfl, (fun z hz => by rcases List.mem_singleton.mp hz with rfl; exact ⟨by decide, rfl, _, (by decide +kernel : Cond.classLink RL 13 "java/lang/IllegalArgumentException" ∈ wsL_offer), Or.inl rfl⟩), by decide, by decide, (by decide +kernel : Cond.classLink RL 15 "java/lang/IllegalStateException" ∈ wsL_offer), by decide, fun qx => ?_⟩
      show jW G X (0 + 1) (0 + 6) 92 _ [.ref qx] _
      refine j_astore hX (ls' := [some (.ref b), some (.int 112), some (.ref qn), some (.int p2), some (.int p3), some (.ref qx)]) dL_offer_92 (Nat.le_of_ble_eq_true rfl) rfl rfl ?_
      refine j_sipush hX (v := -1002) (by decide) dL_offer_94 ?_
      exact j_iret hX dL_offer_97 (Or.inr ⟨_, hx, Or.inr ⟨rfl, rfl⟩, by simp⟩)

set_option maxHeartbeats 4000000 in
set_option maxRecDepth 100000 in
theorem c_L_offer_f (G : jG) {w0 : va_W} {b : Nat} {fs : List Value} (he : w0[0]? = some (b, .inr (12, fs))) {qn N : Nat} {f : Nat → Int32} (hN0 : vp_in 0 N) (hN1 : vp_in 1 N) (p2 p3 : Int32) {post' : Option Value → va_W → Prop} {postX' : String → Prop} (hC : jT G 30 yX11_addFreeItem wsX11_addFreeItem [.ref b, .int (f 0), .int (f 1), .int p2, .int p3] w0 1 6 post' postX') (hv : ∀ rv w1, post' rv w1 → ∃ v : Int32, rv = some (.int v)) (hE : ∀ E, postX' E → E = "java/lang/IllegalArgumentException" ∨ E = "java/lang/IllegalStateException") : jH G 31 yL_offer wsL_offer [.ref b, .int 102, .ref qn, .int p2, .int p3] ((qn, .inl (G.2.2 0, N, .inl f)) :: w0) 1 6 (fun rv w => (∃ w1, post' rv w1 ∧ w = (qn, .inl (G.2.2 0, N, .inl f)) :: w1) ∨ (∃ E, postX' E ∧ ((E = "java/lang/IllegalArgumentException" ∧ rv = some (.int (-1001))) ∨ (E = "java/lang/IllegalStateException" ∧ rv = some (.int (-1002)))) ∧ w = ((qn, .inl (G.2.2 0, N, .inl f)) :: w0))) := by
  refine jH.of (maxL := 6) (cc := cL_offer) (ret := some .int) (hh := [(0, 85, 86, 13), (0, 85, 92, 15)]) rfl (by decide) [some (.ref b), some (.int 102), some (.ref qn), some (.int p2), some (.int p3), none] rfl (Nat.le_of_ble_eq_true rfl) (j_args rfl) (fun X hX hH => ?_)
  refine j_iload_n hX dL_offer_0 rfl ?_
  refine j_bipush hX (v := 112) (by decide) dL_offer_1 ?_
  refine j_icmp_ne_t hX (tgt := 22) dL_offer_3 (by decide) (by decide) ?_
  refine j_iload_n hX dL_offer_22 rfl ?_
  refine j_bipush hX (v := 102) (by decide) dL_offer_23 ?_
  refine j_icmp_ne_f hX (tgt := 44) dL_offer_25 (by decide) (by decide) ?_
  refine j_aload_n hX dL_offer_28 rfl ?_
  refine j_aload_n hX dL_offer_29 rfl ?_
  refine j_iconst hX (v := 0) (by decide) dL_offer_30 ?_
  refine j_iald hX (v := f 0) dL_offer_31 0 rfl hN0 (congrArg f (by decide +kernel)) ?_
  refine j_aload_n hX dL_offer_32 rfl ?_
  refine j_iconst hX (v := 1) (by decide) dL_offer_33 ?_
  refine j_iald hX (v := f 1) dL_offer_34 0 rfl hN1 (congrArg f (by decide +kernel)) ?_
  refine j_iload_n hX dL_offer_35 rfl ?_
  refine j_iload hX dL_offer_36 rfl ?_
  refine j_tryV hX hH (nA := 4) (cq := (RX11, TX11, 7)) (As := [.int (f 0), .int (f 1), .int p2, .int p3]) (st := []) (wa := [(qn, .inl (G.2.2 0, N, .inl f))]) (w0 := w0) (wb := []) (ci := 12) rfl dL_offer_38 hC gL_offer_X11_addFreeItem rfl (by decide +kernel) (q := 1) (by simpa using he) (by decide) (Nat.le_of_ble_eq_true rfl) rfl (Nat.le_of_ble_eq_true rfl) ⟨by decide, by decide⟩ rfl (by simp) (fun rv w1 hp => ?_) (fun E hx => ?_)
  · obtain ⟨v, rfl⟩ := hv _ _ hp
    refine jW.stk (st' := [.int v]) rfl ?_
    refine jW.world (ws' := (qn, .inl (G.2.2 0, N, .inl f)) :: w1) (by simp) ?_
    refine j_goto hX (tgt := 85) dL_offer_41 (by decide) ?_
    exact j_iret hX dL_offer_85 (Or.inl ⟨w1, hp, rfl⟩)
  · rcases hE E hx with rfl | rfl
    · refine ⟨[], _, _, rfl, (fun z hz => by cases hz), by decide, by decide, (by decide +kernel : Cond.classLink RL 13 "java/lang/IllegalArgumentException" ∈ wsL_offer), by decide, fun qx => ?_⟩
      show jW G X (0 + 1) (0 + 6) 86 _ [.ref qx] _
      refine j_astore hX (ls' := [some (.ref b), some (.int 102), some (.ref qn), some (.int p2), some (.int p3), some (.ref qx)]) dL_offer_86 (Nat.le_of_ble_eq_true rfl) rfl rfl ?_
      refine j_sipush hX (v := -1001) (by decide) dL_offer_88 ?_
      exact j_iret hX dL_offer_91 (Or.inr ⟨_, hx, Or.inl ⟨rfl, rfl⟩, by simp⟩)
    · refine ⟨[_], _, _, rfl, (fun z hz => by rcases List.mem_singleton.mp hz with rfl; exact ⟨by decide, rfl, _, (by decide +kernel : Cond.classLink RL 13 "java/lang/IllegalArgumentException" ∈ wsL_offer), Or.inl rfl⟩), by decide, by decide, (by decide +kernel : Cond.classLink RL 15 "java/lang/IllegalStateException" ∈ wsL_offer), by decide, fun qx => ?_⟩
      show jW G X (0 + 1) (0 + 6) 92 _ [.ref qx] _
      refine j_astore hX (ls' := [some (.ref b), some (.int 102), some (.ref qn), some (.int p2), some (.int p3), some (.ref qx)]) dL_offer_92 (Nat.le_of_ble_eq_true rfl) rfl rfl ?_
      refine j_sipush hX (v := -1002) (by decide) dL_offer_94 ?_
      exact j_iret hX dL_offer_97 (Or.inr ⟨_, hx, Or.inr ⟨rfl, rfl⟩, by simp⟩)

set_option maxHeartbeats 4000000 in
set_option maxRecDepth 100000 in
theorem c_L_offer_b (G : jG) {w0 : va_W} {b : Nat} {fs : List Value} (he : w0[0]? = some (b, .inr (12, fs))) {qn N : Nat} {f : Nat → Int32} (hN0 : vp_in 0 N) (hN1 : vp_in 1 N) (hN2 : vp_in 2 N) (hN3 : vp_in 3 N) (p2 p3 : Int32) {post' : Option Value → va_W → Prop} {postX' : String → Prop} (hC : jT G 30 yX11_addBundle wsX11_addBundle [.ref b, .int (f 0), .int (f 1), .int (f 2), .int (f 3), .int p2, .int p3] w0 1 9 post' postX') (hv : ∀ rv w1, post' rv w1 → ∃ v : Int32, rv = some (.int v)) (hE : ∀ E, postX' E → E = "java/lang/IllegalArgumentException" ∨ E = "java/lang/IllegalStateException") : jH G 31 yL_offer wsL_offer [.ref b, .int 98, .ref qn, .int p2, .int p3] ((qn, .inl (G.2.2 0, N, .inl f)) :: w0) 1 9 (fun rv w => (∃ w1, post' rv w1 ∧ w = (qn, .inl (G.2.2 0, N, .inl f)) :: w1) ∨ (∃ E, postX' E ∧ ((E = "java/lang/IllegalArgumentException" ∧ rv = some (.int (-1001))) ∨ (E = "java/lang/IllegalStateException" ∧ rv = some (.int (-1002)))) ∧ w = ((qn, .inl (G.2.2 0, N, .inl f)) :: w0))) := by
  refine jH.of (maxL := 6) (cc := cL_offer) (ret := some .int) (hh := [(0, 85, 86, 13), (0, 85, 92, 15)]) rfl (by decide) [some (.ref b), some (.int 98), some (.ref qn), some (.int p2), some (.int p3), none] rfl (Nat.le_of_ble_eq_true rfl) (j_args rfl) (fun X hX hH => ?_)
  refine j_iload_n hX dL_offer_0 rfl ?_
  refine j_bipush hX (v := 112) (by decide) dL_offer_1 ?_
  refine j_icmp_ne_t hX (tgt := 22) dL_offer_3 (by decide) (by decide) ?_
  refine j_iload_n hX dL_offer_22 rfl ?_
  refine j_bipush hX (v := 102) (by decide) dL_offer_23 ?_
  refine j_icmp_ne_t hX (tgt := 44) dL_offer_25 (by decide) (by decide) ?_
  refine j_iload_n hX dL_offer_44 rfl ?_
  refine j_bipush hX (v := 98) (by decide) dL_offer_45 ?_
  refine j_icmp_ne_f hX (tgt := 72) dL_offer_47 (by decide) (by decide) ?_
  refine j_aload_n hX dL_offer_50 rfl ?_
  refine j_aload_n hX dL_offer_51 rfl ?_
  refine j_iconst hX (v := 0) (by decide) dL_offer_52 ?_
  refine j_iald hX (v := f 0) dL_offer_53 0 rfl hN0 (congrArg f (by decide +kernel)) ?_
  refine j_aload_n hX dL_offer_54 rfl ?_
  refine j_iconst hX (v := 1) (by decide) dL_offer_55 ?_
  refine j_iald hX (v := f 1) dL_offer_56 0 rfl hN1 (congrArg f (by decide +kernel)) ?_
  refine j_aload_n hX dL_offer_57 rfl ?_
  refine j_iconst hX (v := 2) (by decide) dL_offer_58 ?_
  refine j_iald hX (v := f 2) dL_offer_59 0 rfl hN2 (congrArg f (by decide +kernel)) ?_
  refine j_aload_n hX dL_offer_60 rfl ?_
  refine j_iconst hX (v := 3) (by decide) dL_offer_61 ?_
  refine j_iald hX (v := f 3) dL_offer_62 0 rfl hN3 (congrArg f (by decide +kernel)) ?_
  refine j_iload_n hX dL_offer_63 rfl ?_
  refine j_iload hX dL_offer_64 rfl ?_
  refine j_tryV hX hH (nA := 6) (cq := (RX11, TX11, 7)) (As := [.int (f 0), .int (f 1), .int (f 2), .int (f 3), .int p2, .int p3]) (st := []) (wa := [(qn, .inl (G.2.2 0, N, .inl f))]) (w0 := w0) (wb := []) (ci := 12) rfl dL_offer_66 hC gL_offer_X11_addBundle rfl (by decide +kernel) (q := 1) (by simpa using he) (by decide) (Nat.le_of_ble_eq_true rfl) rfl (Nat.le_of_ble_eq_true rfl) ⟨by decide, by decide⟩ rfl (by simp) (fun rv w1 hp => ?_) (fun E hx => ?_)
  · obtain ⟨v, rfl⟩ := hv _ _ hp
    refine jW.stk (st' := [.int v]) rfl ?_
    refine jW.world (ws' := (qn, .inl (G.2.2 0, N, .inl f)) :: w1) (by simp) ?_
    refine j_goto hX (tgt := 85) dL_offer_69 (by decide) ?_
    exact j_iret hX dL_offer_85 (Or.inl ⟨w1, hp, rfl⟩)
  · rcases hE E hx with rfl | rfl
    · refine ⟨[], _, _, rfl, (fun z hz => by cases hz), by decide, by decide, (by decide +kernel : Cond.classLink RL 13 "java/lang/IllegalArgumentException" ∈ wsL_offer), by decide, fun qx => ?_⟩
      show jW G X (0 + 1) (0 + 9) 86 _ [.ref qx] _
      refine j_astore hX (ls' := [some (.ref b), some (.int 98), some (.ref qn), some (.int p2), some (.int p3), some (.ref qx)]) dL_offer_86 (Nat.le_of_ble_eq_true rfl) rfl rfl ?_
      refine j_sipush hX (v := -1001) (by decide) dL_offer_88 ?_
      exact j_iret hX dL_offer_91 (Or.inr ⟨_, hx, Or.inl ⟨rfl, rfl⟩, by simp⟩)
    · refine ⟨[_], _, _, rfl, (fun z hz => by rcases List.mem_singleton.mp hz with rfl; exact ⟨by decide, rfl, _, (by decide +kernel : Cond.classLink RL 13 "java/lang/IllegalArgumentException" ∈ wsL_offer), Or.inl rfl⟩), by decide, by decide, (by decide +kernel : Cond.classLink RL 15 "java/lang/IllegalStateException" ∈ wsL_offer), by decide, fun qx => ?_⟩
      show jW G X (0 + 1) (0 + 9) 92 _ [.ref qx] _
      refine j_astore hX (ls' := [some (.ref b), some (.int 98), some (.ref qn), some (.int p2), some (.int p3), some (.ref qx)]) dL_offer_92 (Nat.le_of_ble_eq_true rfl) rfl rfl ?_
      refine j_sipush hX (v := -1002) (by decide) dL_offer_94 ?_
      exact j_iret hX dL_offer_97 (Or.inr ⟨_, hx, Or.inr ⟨rfl, rfl⟩, by simp⟩)

set_option maxHeartbeats 4000000 in
set_option maxRecDepth 100000 in
theorem c_L_offer_t (G : jG) {w0 : va_W} {b : Nat} {fs : List Value} (he : w0[0]? = some (b, .inr (12, fs))) {qn N : Nat} {f : Nat → Int32} (hN0 : vp_in 0 N) (hN1 : vp_in 1 N) (p2 p3 : Int32) {post' : Option Value → va_W → Prop} {postX' : String → Prop} (hC : jT G 30 yX11_addThreshold wsX11_addThreshold [.ref b, .int (f 0), .int (f 1), .int p2, .int p3] w0 1 6 post' postX') (hv : ∀ rv w1, post' rv w1 → ∃ v : Int32, rv = some (.int v)) (hE : ∀ E, postX' E → E = "java/lang/IllegalArgumentException" ∨ E = "java/lang/IllegalStateException") : jH G 31 yL_offer wsL_offer [.ref b, .int 116, .ref qn, .int p2, .int p3] ((qn, .inl (G.2.2 0, N, .inl f)) :: w0) 1 6 (fun rv w => (∃ w1, post' rv w1 ∧ w = (qn, .inl (G.2.2 0, N, .inl f)) :: w1) ∨ (∃ E, postX' E ∧ ((E = "java/lang/IllegalArgumentException" ∧ rv = some (.int (-1001))) ∨ (E = "java/lang/IllegalStateException" ∧ rv = some (.int (-1002)))) ∧ w = ((qn, .inl (G.2.2 0, N, .inl f)) :: w0))) := by
  refine jH.of (maxL := 6) (cc := cL_offer) (ret := some .int) (hh := [(0, 85, 86, 13), (0, 85, 92, 15)]) rfl (by decide) [some (.ref b), some (.int 116), some (.ref qn), some (.int p2), some (.int p3), none] rfl (Nat.le_of_ble_eq_true rfl) (j_args rfl) (fun X hX hH => ?_)
  refine j_iload_n hX dL_offer_0 rfl ?_
  refine j_bipush hX (v := 112) (by decide) dL_offer_1 ?_
  refine j_icmp_ne_t hX (tgt := 22) dL_offer_3 (by decide) (by decide) ?_
  refine j_iload_n hX dL_offer_22 rfl ?_
  refine j_bipush hX (v := 102) (by decide) dL_offer_23 ?_
  refine j_icmp_ne_t hX (tgt := 44) dL_offer_25 (by decide) (by decide) ?_
  refine j_iload_n hX dL_offer_44 rfl ?_
  refine j_bipush hX (v := 98) (by decide) dL_offer_45 ?_
  refine j_icmp_ne_t hX (tgt := 72) dL_offer_47 (by decide) (by decide) ?_
  refine j_aload_n hX dL_offer_72 rfl ?_
  refine j_aload_n hX dL_offer_73 rfl ?_
  refine j_iconst hX (v := 0) (by decide) dL_offer_74 ?_
  refine j_iald hX (v := f 0) dL_offer_75 0 rfl hN0 (congrArg f (by decide +kernel)) ?_
  refine j_aload_n hX dL_offer_76 rfl ?_
  refine j_iconst hX (v := 1) (by decide) dL_offer_77 ?_
  refine j_iald hX (v := f 1) dL_offer_78 0 rfl hN1 (congrArg f (by decide +kernel)) ?_
  refine j_iload_n hX dL_offer_79 rfl ?_
  refine j_iload hX dL_offer_80 rfl ?_
  refine j_tryV hX hH (nA := 4) (cq := (RX11, TX11, 7)) (As := [.int (f 0), .int (f 1), .int p2, .int p3]) (st := []) (wa := [(qn, .inl (G.2.2 0, N, .inl f))]) (w0 := w0) (wb := []) (ci := 12) rfl dL_offer_82 hC gL_offer_X11_addThreshold rfl (by decide +kernel) (q := 1) (by simpa using he) (by decide) (Nat.le_of_ble_eq_true rfl) rfl (Nat.le_of_ble_eq_true rfl) ⟨by decide, by decide⟩ rfl (by simp) (fun rv w1 hp => ?_) (fun E hx => ?_)
  · obtain ⟨v, rfl⟩ := hv _ _ hp
    refine jW.stk (st' := [.int v]) rfl ?_
    refine jW.world (ws' := (qn, .inl (G.2.2 0, N, .inl f)) :: w1) (by simp) ?_
    exact j_iret hX dL_offer_85 (Or.inl ⟨w1, hp, rfl⟩)
  · rcases hE E hx with rfl | rfl
    · refine ⟨[], _, _, rfl, (fun z hz => by cases hz), by decide, by decide, (by decide +kernel : Cond.classLink RL 13 "java/lang/IllegalArgumentException" ∈ wsL_offer), by decide, fun qx => ?_⟩
      show jW G X (0 + 1) (0 + 6) 86 _ [.ref qx] _
      refine j_astore hX (ls' := [some (.ref b), some (.int 116), some (.ref qn), some (.int p2), some (.int p3), some (.ref qx)]) dL_offer_86 (Nat.le_of_ble_eq_true rfl) rfl rfl ?_
      refine j_sipush hX (v := -1001) (by decide) dL_offer_88 ?_
      exact j_iret hX dL_offer_91 (Or.inr ⟨_, hx, Or.inl ⟨rfl, rfl⟩, by simp⟩)
    · refine ⟨[_], _, _, rfl, (fun z hz => by rcases List.mem_singleton.mp hz with rfl; exact ⟨by decide, rfl, _, (by decide +kernel : Cond.classLink RL 13 "java/lang/IllegalArgumentException" ∈ wsL_offer), Or.inl rfl⟩), by decide, by decide, (by decide +kernel : Cond.classLink RL 15 "java/lang/IllegalStateException" ∈ wsL_offer), by decide, fun qx => ?_⟩
      show jW G X (0 + 1) (0 + 6) 92 _ [.ref qx] _
      refine j_astore hX (ls' := [some (.ref b), some (.int 116), some (.ref qn), some (.int p2), some (.int p3), some (.ref qx)]) dL_offer_92 (Nat.le_of_ble_eq_true rfl) rfl rfl ?_
      refine j_sipush hX (v := -1002) (by decide) dL_offer_94 ?_
      exact j_iret hX dL_offer_97 (Or.inr ⟨_, hx, Or.inr ⟨rfl, rfl⟩, by simp⟩)
