set_option maxHeartbeats 4000000 in
set_option maxRecDepth 100000 in
theorem c_L_put (G : jG) {w0 : va_W} {b : Nat} {fs : List Value} (he : w0[0]? = some (b, .inr (12, fs))) (p0 p1 : Int32) {post' : Option Value → va_W → Prop} {postX' : String → Prop} (hC : jT G 30 yX11_put wsX11_put [.ref b, .int p0, .int p1] w0 1 6 post' postX') (hv : ∀ rv w1, post' rv w1 → ∃ v : Int32, rv = some (.int v)) (hE : ∀ E, postX' E → E = "java/lang/IllegalArgumentException" ∨ E = "java/lang/IllegalStateException") (ao : Nat) (fo : Nat → Int64) : jH G 31 yL_put wsL_put [.ref b, .int p0, .int p1, .ref ao] ((ao, .inl (G.2.2 5, 1, .inr (.inl fo))) :: w0) 1 6 (fun rv w => (∃ (v : Int32) (w1 : va_W), post' (some (.int v)) w1 ∧ rv = some (.int 0) ∧ w = (ao, .inl (G.2.2 5, 1, .inr (.inl (vp_updL fo 0 v.toInt64)))) :: w1) ∨ (∃ E, postX' E ∧ ((E = "java/lang/IllegalArgumentException" ∧ rv = some (.int 1)) ∨ (E = "java/lang/IllegalStateException" ∧ rv = some (.int 2))) ∧ w = (ao, .inl (G.2.2 5, 1, .inr (.inl fo))) :: w0)) := by
  refine jH.of (maxL := 5) (cc := cL_put) (ret := some .int) (hh := [(0, 10, 13, 13), (0, 10, 17, 15)]) rfl (by decide) [some (.ref b), some (.int p0), some (.int p1), some (.ref ao), none] rfl (Nat.le_of_ble_eq_true rfl) (j_args rfl) (fun X hX hH => ?_)
  refine j_aload_n hX dL_put_0 rfl ?_
  refine j_iconst hX (v := 0) (by decide) dL_put_1 ?_
  refine j_aload_n hX dL_put_2 rfl ?_
  refine j_iload_n hX dL_put_3 rfl ?_
  refine j_iload_n hX dL_put_4 rfl ?_
  refine j_tryV hX hH (nA := 2) (cq := (RX11, TX11, 7)) (As := [.int p0, .int p1]) (st := [.int 0, .ref ao]) (wa := [(ao, .inl (G.2.2 5, 1, .inr (.inl fo)))]) (w0 := w0) (wb := []) (ci := 12) rfl dL_put_5 hC gL_put_X11_put rfl (by decide +kernel) (q := 1) (by simpa using he) (by decide) (Nat.le_of_ble_eq_true rfl) rfl (Nat.le_of_ble_eq_true rfl) ⟨by decide, by decide⟩ rfl (by simp) (fun rv w1 hp => ?_) (fun E hx => ?_)
  · obtain ⟨v, rfl⟩ := hv _ _ hp
    refine jW.stk (st' := [.int v, .int 0, .ref ao]) rfl ?_
    refine jW.world (ws' := (ao, .inl (G.2.2 5, 1, .inr (.inl fo))) :: w1) (by simp) ?_
    refine j_i2l hX dL_put_8 ?_
    refine j_last hX (ws' := (ao, .inl (G.2.2 5, 1, .inr (.inl (vp_updL fo 0 v.toInt64)))) :: w1) dL_put_9 0 rfl (by unfold vp_in; decide +kernel) rfl ?_
    refine j_goto hX (tgt := 21) dL_put_10 (by decide) ?_
    refine j_iconst hX (v := 0) (by decide) dL_put_21 ?_
    exact j_iret hX dL_put_22 (Or.inl ⟨v, w1, hp, rfl, rfl⟩)
  · rcases hE E hx with rfl | rfl
    · refine ⟨[], _, _, rfl, (fun z hz => by cases hz), by decide, by decide, (by decide +kernel : Cond.classLink RL 13 "java/lang/IllegalArgumentException" ∈ wsL_put), by decide, fun qx => ?_⟩
      show jW G X (0 + 1) (0 + 6) 13 _ [.ref qx] _
      refine j_astore hX (ls' := [some (.ref b), some (.int p0), some (.int p1), some (.ref ao), some (.ref qx)]) dL_put_13 (Nat.le_of_ble_eq_true rfl) rfl rfl ?_
      refine j_iconst hX (v := 1) (by decide) dL_put_15 ?_
      exact j_iret hX dL_put_16 (Or.inr ⟨_, hx, Or.inl ⟨rfl, rfl⟩, by simp⟩)
    · refine ⟨[_], _, _, rfl, (fun z hz => by rcases List.mem_singleton.mp hz with rfl; exact ⟨by decide, rfl, _, (by decide +kernel : Cond.classLink RL 13 "java/lang/IllegalArgumentException" ∈ wsL_put), Or.inl rfl⟩), by decide, by decide, (by decide +kernel : Cond.classLink RL 15 "java/lang/IllegalStateException" ∈ wsL_put), by decide, fun qx => ?_⟩
      show jW G X (0 + 1) (0 + 6) 17 _ [.ref qx] _
      refine j_astore hX (ls' := [some (.ref b), some (.int p0), some (.int p1), some (.ref ao), some (.ref qx)]) dL_put_17 (Nat.le_of_ble_eq_true rfl) rfl rfl ?_
      refine j_iconst hX (v := 2) (by decide) dL_put_19 ?_
      exact j_iret hX dL_put_20 (Or.inr ⟨_, hx, Or.inr ⟨rfl, rfl⟩, by simp⟩)

set_option maxHeartbeats 4000000 in
set_option maxRecDepth 100000 in
theorem c_L_takeOut (G : jG) {w0 : va_W} {b : Nat} {fs : List Value} (he : w0[0]? = some (b, .inr (12, fs))) (p0 : Int32) {post' : Option Value → va_W → Prop} {postX' : String → Prop} (hC : jT G 30 yX11_takeOut wsX11_takeOut [.ref b, .int p0] w0 1 6 post' postX') (hv : ∀ rv w1, post' rv w1 → ∃ v : Int32, rv = some (.int v)) (hE : ∀ E, postX' E → E = "java/util/NoSuchElementException") (ao : Nat) (fo : Nat → Int64) : jH G 31 yL_takeOut wsL_takeOut [.ref b, .int p0, .ref ao] ((ao, .inl (G.2.2 5, 1, .inr (.inl fo))) :: w0) 1 6 (fun rv w => (∃ (v : Int32) (w1 : va_W), post' (some (.int v)) w1 ∧ rv = some (.int 0) ∧ w = (ao, .inl (G.2.2 5, 1, .inr (.inl (vp_updL fo 0 v.toInt64)))) :: w1) ∨ (∃ E, postX' E ∧ ((E = "java/util/NoSuchElementException" ∧ rv = some (.int 1))) ∧ w = (ao, .inl (G.2.2 5, 1, .inr (.inl fo))) :: w0)) := by
  refine jH.of (maxL := 4) (cc := cL_takeOut) (ret := some .int) (hh := [(0, 9, 12, 21)]) rfl (by decide) [some (.ref b), some (.int p0), some (.ref ao), none] rfl (Nat.le_of_ble_eq_true rfl) (j_args rfl) (fun X hX hH => ?_)
  refine j_aload_n hX dL_takeOut_0 rfl ?_
  refine j_iconst hX (v := 0) (by decide) dL_takeOut_1 ?_
  refine j_aload_n hX dL_takeOut_2 rfl ?_
  refine j_iload_n hX dL_takeOut_3 rfl ?_
  refine j_tryV hX hH (nA := 1) (cq := (RX11, TX11, 7)) (As := [.int p0]) (st := [.int 0, .ref ao]) (wa := [(ao, .inl (G.2.2 5, 1, .inr (.inl fo)))]) (w0 := w0) (wb := []) (ci := 12) rfl dL_takeOut_4 hC gL_takeOut_X11_takeOut rfl (by decide +kernel) (q := 1) (by simpa using he) (by decide) (Nat.le_of_ble_eq_true rfl) rfl (Nat.le_of_ble_eq_true rfl) ⟨by decide, by decide⟩ rfl (by simp) (fun rv w1 hp => ?_) (fun E hx => ?_)
  · obtain ⟨v, rfl⟩ := hv _ _ hp
    refine jW.stk (st' := [.int v, .int 0, .ref ao]) rfl ?_
    refine jW.world (ws' := (ao, .inl (G.2.2 5, 1, .inr (.inl fo))) :: w1) (by simp) ?_
    refine j_i2l hX dL_takeOut_7 ?_
    refine j_last hX (ws' := (ao, .inl (G.2.2 5, 1, .inr (.inl (vp_updL fo 0 v.toInt64)))) :: w1) dL_takeOut_8 0 rfl (by unfold vp_in; decide +kernel) rfl ?_
    refine j_goto hX (tgt := 15) dL_takeOut_9 (by decide) ?_
    refine j_iconst hX (v := 0) (by decide) dL_takeOut_15 ?_
    exact j_iret hX dL_takeOut_16 (Or.inl ⟨v, w1, hp, rfl, rfl⟩)
  · obtain rfl := hE E hx
    refine ⟨[], _, _, rfl, (fun z hz => by cases hz), by decide, by decide, (by decide +kernel : Cond.classLink RL 21 "java/util/NoSuchElementException" ∈ wsL_takeOut), by decide, fun qx => ?_⟩
    show jW G X (0 + 1) (0 + 6) 12 _ [.ref qx] _
    refine j_astore_n hX (ls' := [some (.ref b), some (.int p0), some (.ref ao), some (.ref qx)]) dL_takeOut_12 (Nat.le_of_ble_eq_true rfl) rfl rfl ?_
    refine j_iconst hX (v := 1) (by decide) dL_takeOut_13 ?_
    exact j_iret hX dL_takeOut_14 (Or.inr ⟨_, hx, ⟨rfl, rfl⟩, by simp⟩)

set_option maxHeartbeats 4000000 in
set_option maxRecDepth 100000 in
theorem c_L_setCustomer (G : jG) {w0 : va_W} {b : Nat} {fs : List Value} (he : w0[0]? = some (b, .inr (12, fs))) (p0 : Int32) {post' : Option Value → va_W → Prop} {postX' : String → Prop} (hC : jT G 30 yX11_setCustomer wsX11_setCustomer [.ref b, .int p0] w0 1 6 post' postX') (hv : ∀ rv w1, post' rv w1 → ∃ v : Int32, rv = some (.int v)) (hE : ∀ E, postX' E → E = "java/lang/IllegalArgumentException") (ao : Nat) (fo : Nat → Int64) : jH G 31 yL_setCustomer wsL_setCustomer [.ref b, .int p0, .ref ao] ((ao, .inl (G.2.2 5, 1, .inr (.inl fo))) :: w0) 1 6 (fun rv w => (∃ (v : Int32) (w1 : va_W), post' (some (.int v)) w1 ∧ rv = some (.int 0) ∧ w = (ao, .inl (G.2.2 5, 1, .inr (.inl (vp_updL fo 0 v.toInt64)))) :: w1) ∨ (∃ E, postX' E ∧ ((E = "java/lang/IllegalArgumentException" ∧ rv = some (.int 1))) ∧ w = (ao, .inl (G.2.2 5, 1, .inr (.inl fo))) :: w0)) := by
  refine jH.of (maxL := 4) (cc := cL_setCustomer) (ret := some .int) (hh := [(0, 9, 12, 13)]) rfl (by decide) [some (.ref b), some (.int p0), some (.ref ao), none] rfl (Nat.le_of_ble_eq_true rfl) (j_args rfl) (fun X hX hH => ?_)
  refine j_aload_n hX dL_setCustomer_0 rfl ?_
  refine j_iconst hX (v := 0) (by decide) dL_setCustomer_1 ?_
  refine j_aload_n hX dL_setCustomer_2 rfl ?_
  refine j_iload_n hX dL_setCustomer_3 rfl ?_
  refine j_tryV hX hH (nA := 1) (cq := (RX11, TX11, 7)) (As := [.int p0]) (st := [.int 0, .ref ao]) (wa := [(ao, .inl (G.2.2 5, 1, .inr (.inl fo)))]) (w0 := w0) (wb := []) (ci := 12) rfl dL_setCustomer_4 hC gL_setCustomer_X11_setCustomer rfl (by decide +kernel) (q := 1) (by simpa using he) (by decide) (Nat.le_of_ble_eq_true rfl) rfl (Nat.le_of_ble_eq_true rfl) ⟨by decide, by decide⟩ rfl (by simp) (fun rv w1 hp => ?_) (fun E hx => ?_)
  · obtain ⟨v, rfl⟩ := hv _ _ hp
    refine jW.stk (st' := [.int v, .int 0, .ref ao]) rfl ?_
    refine jW.world (ws' := (ao, .inl (G.2.2 5, 1, .inr (.inl fo))) :: w1) (by simp) ?_
    refine j_i2l hX dL_setCustomer_7 ?_
    refine j_last hX (ws' := (ao, .inl (G.2.2 5, 1, .inr (.inl (vp_updL fo 0 v.toInt64)))) :: w1) dL_setCustomer_8 0 rfl (by unfold vp_in; decide +kernel) rfl ?_
    refine j_goto hX (tgt := 15) dL_setCustomer_9 (by decide) ?_
    refine j_iconst hX (v := 0) (by decide) dL_setCustomer_15 ?_
    exact j_iret hX dL_setCustomer_16 (Or.inl ⟨v, w1, hp, rfl, rfl⟩)
  · obtain rfl := hE E hx
    refine ⟨[], _, _, rfl, (fun z hz => by cases hz), by decide, by decide, (by decide +kernel : Cond.classLink RL 13 "java/lang/IllegalArgumentException" ∈ wsL_setCustomer), by decide, fun qx => ?_⟩
    show jW G X (0 + 1) (0 + 6) 12 _ [.ref qx] _
    refine j_astore_n hX (ls' := [some (.ref b), some (.int p0), some (.ref ao), some (.ref qx)]) dL_setCustomer_12 (Nat.le_of_ble_eq_true rfl) rfl rfl ?_
    refine j_iconst hX (v := 1) (by decide) dL_setCustomer_13 ?_
    exact j_iret hX dL_setCustomer_14 (Or.inr ⟨_, hx, ⟨rfl, rfl⟩, by simp⟩)

set_option maxHeartbeats 4000000 in
set_option maxRecDepth 100000 in
theorem c_L_addPercentage (G : jG) {w0 : va_W} {b : Nat} {fs : List Value} (he : w0[0]? = some (b, .inr (12, fs))) (p0 p1 p2 p3 : Int32) {post' : Option Value → va_W → Prop} {postX' : String → Prop} (hC : jT G 30 yX11_addPercentage wsX11_addPercentage [.ref b, .int p0, .int p1, .int p2, .int p3] w0 1 6 post' postX') (hv : ∀ rv w1, post' rv w1 → ∃ v : Int32, rv = some (.int v)) (hE : ∀ E, postX' E → E = "java/lang/IllegalArgumentException" ∨ E = "java/lang/IllegalStateException") (ao : Nat) (fo : Nat → Int64) : jH G 31 yL_addPercentage wsL_addPercentage [.ref b, .int p0, .int p1, .int p2, .int p3, .ref ao] ((ao, .inl (G.2.2 5, 1, .inr (.inl fo))) :: w0) 1 6 (fun rv w => (∃ (v : Int32) (w1 : va_W), post' (some (.int v)) w1 ∧ rv = some (.int 0) ∧ w = (ao, .inl (G.2.2 5, 1, .inr (.inl (vp_updL fo 0 v.toInt64)))) :: w1) ∨ (∃ E, postX' E ∧ ((E = "java/lang/IllegalArgumentException" ∧ rv = some (.int 1)) ∨ (E = "java/lang/IllegalStateException" ∧ rv = some (.int 2))) ∧ w = (ao, .inl (G.2.2 5, 1, .inr (.inl fo))) :: w0)) := by
  refine jH.of (maxL := 7) (cc := cL_addPercentage) (ret := some .int) (hh := [(0, 14, 17, 13), (0, 14, 21, 15)]) rfl (by decide) [some (.ref b), some (.int p0), some (.int p1), some (.int p2), some (.int p3), some (.ref ao), none] rfl (Nat.le_of_ble_eq_true rfl) (j_args rfl) (fun X hX hH => ?_)
  refine j_aload hX dL_addPercentage_0 rfl ?_
  refine j_iconst hX (v := 0) (by decide) dL_addPercentage_2 ?_
  refine j_aload_n hX dL_addPercentage_3 rfl ?_
  refine j_iload_n hX dL_addPercentage_4 rfl ?_
  refine j_iload_n hX dL_addPercentage_5 rfl ?_
  refine j_iload_n hX dL_addPercentage_6 rfl ?_
  refine j_iload hX dL_addPercentage_7 rfl ?_
  refine j_tryV hX hH (nA := 4) (cq := (RX11, TX11, 7)) (As := [.int p0, .int p1, .int p2, .int p3]) (st := [.int 0, .ref ao]) (wa := [(ao, .inl (G.2.2 5, 1, .inr (.inl fo)))]) (w0 := w0) (wb := []) (ci := 12) rfl dL_addPercentage_9 hC gL_addPercentage_X11_addPercentage rfl (by decide +kernel) (q := 1) (by simpa using he) (by decide) (Nat.le_of_ble_eq_true rfl) rfl (Nat.le_of_ble_eq_true rfl) ⟨by decide, by decide⟩ rfl (by simp) (fun rv w1 hp => ?_) (fun E hx => ?_)
  · obtain ⟨v, rfl⟩ := hv _ _ hp
    refine jW.stk (st' := [.int v, .int 0, .ref ao]) rfl ?_
    refine jW.world (ws' := (ao, .inl (G.2.2 5, 1, .inr (.inl fo))) :: w1) (by simp) ?_
    refine j_i2l hX dL_addPercentage_12 ?_
    refine j_last hX (ws' := (ao, .inl (G.2.2 5, 1, .inr (.inl (vp_updL fo 0 v.toInt64)))) :: w1) dL_addPercentage_13 0 rfl (by unfold vp_in; decide +kernel) rfl ?_
    refine j_goto hX (tgt := 25) dL_addPercentage_14 (by decide) ?_
    refine j_iconst hX (v := 0) (by decide) dL_addPercentage_25 ?_
    exact j_iret hX dL_addPercentage_26 (Or.inl ⟨v, w1, hp, rfl, rfl⟩)
  · rcases hE E hx with rfl | rfl
    · refine ⟨[], _, _, rfl, (fun z hz => by cases hz), by decide, by decide, (by decide +kernel : Cond.classLink RL 13 "java/lang/IllegalArgumentException" ∈ wsL_addPercentage), by decide, fun qx => ?_⟩
      show jW G X (0 + 1) (0 + 6) 17 _ [.ref qx] _
      refine j_astore hX (ls' := [some (.ref b), some (.int p0), some (.int p1), some (.int p2), some (.int p3), some (.ref ao), some (.ref qx)]) dL_addPercentage_17 (Nat.le_of_ble_eq_true rfl) rfl rfl ?_
      refine j_iconst hX (v := 1) (by decide) dL_addPercentage_19 ?_
      exact j_iret hX dL_addPercentage_20 (Or.inr ⟨_, hx, Or.inl ⟨rfl, rfl⟩, by simp⟩)
    · refine ⟨[_], _, _, rfl, (fun z hz => by rcases List.mem_singleton.mp hz with rfl; exact ⟨by decide, rfl, _, (by decide +kernel : Cond.classLink RL 13 "java/lang/IllegalArgumentException" ∈ wsL_addPercentage), Or.inl rfl⟩), by decide, by decide, (by decide +kernel : Cond.classLink RL 15 "java/lang/IllegalStateException" ∈ wsL_addPercentage), by decide, fun qx => ?_⟩
      show jW G X (0 + 1) (0 + 6) 21 _ [.ref qx] _
      refine j_astore hX (ls' := [some (.ref b), some (.int p0), some (.int p1), some (.int p2), some (.int p3), some (.ref ao), some (.ref qx)]) dL_addPercentage_21 (Nat.le_of_ble_eq_true rfl) rfl rfl ?_
      refine j_iconst hX (v := 2) (by decide) dL_addPercentage_23 ?_
      exact j_iret hX dL_addPercentage_24 (Or.inr ⟨_, hx, Or.inr ⟨rfl, rfl⟩, by simp⟩)

set_option maxHeartbeats 4000000 in
set_option maxRecDepth 100000 in
theorem c_L_addFreeItem (G : jG) {w0 : va_W} {b : Nat} {fs : List Value} (he : w0[0]? = some (b, .inr (12, fs))) (p0 p1 p2 p3 : Int32) {post' : Option Value → va_W → Prop} {postX' : String → Prop} (hC : jT G 30 yX11_addFreeItem wsX11_addFreeItem [.ref b, .int p0, .int p1, .int p2, .int p3] w0 1 6 post' postX') (hv : ∀ rv w1, post' rv w1 → ∃ v : Int32, rv = some (.int v)) (hE : ∀ E, postX' E → E = "java/lang/IllegalArgumentException" ∨ E = "java/lang/IllegalStateException") (ao : Nat) (fo : Nat → Int64) : jH G 31 yL_addFreeItem wsL_addFreeItem [.ref b, .int p0, .int p1, .int p2, .int p3, .ref ao] ((ao, .inl (G.2.2 5, 1, .inr (.inl fo))) :: w0) 1 6 (fun rv w => (∃ (v : Int32) (w1 : va_W), post' (some (.int v)) w1 ∧ rv = some (.int 0) ∧ w = (ao, .inl (G.2.2 5, 1, .inr (.inl (vp_updL fo 0 v.toInt64)))) :: w1) ∨ (∃ E, postX' E ∧ ((E = "java/lang/IllegalArgumentException" ∧ rv = some (.int 1)) ∨ (E = "java/lang/IllegalStateException" ∧ rv = some (.int 2))) ∧ w = (ao, .inl (G.2.2 5, 1, .inr (.inl fo))) :: w0)) := by
  refine jH.of (maxL := 7) (cc := cL_addFreeItem) (ret := some .int) (hh := [(0, 14, 17, 13), (0, 14, 21, 15)]) rfl (by decide) [some (.ref b), some (.int p0), some (.int p1), some (.int p2), some (.int p3), some (.ref ao), none] rfl (Nat.le_of_ble_eq_true rfl) (j_args rfl) (fun X hX hH => ?_)
  refine j_aload hX dL_addFreeItem_0 rfl ?_
  refine j_iconst hX (v := 0) (by decide) dL_addFreeItem_2 ?_
  refine j_aload_n hX dL_addFreeItem_3 rfl ?_
  refine j_iload_n hX dL_addFreeItem_4 rfl ?_
  refine j_iload_n hX dL_addFreeItem_5 rfl ?_
  refine j_iload_n hX dL_addFreeItem_6 rfl ?_
  refine j_iload hX dL_addFreeItem_7 rfl ?_
  refine j_tryV hX hH (nA := 4) (cq := (RX11, TX11, 7)) (As := [.int p0, .int p1, .int p2, .int p3]) (st := [.int 0, .ref ao]) (wa := [(ao, .inl (G.2.2 5, 1, .inr (.inl fo)))]) (w0 := w0) (wb := []) (ci := 12) rfl dL_addFreeItem_9 hC gL_addFreeItem_X11_addFreeItem rfl (by decide +kernel) (q := 1) (by simpa using he) (by decide) (Nat.le_of_ble_eq_true rfl) rfl (Nat.le_of_ble_eq_true rfl) ⟨by decide, by decide⟩ rfl (by simp) (fun rv w1 hp => ?_) (fun E hx => ?_)
  · obtain ⟨v, rfl⟩ := hv _ _ hp
    refine jW.stk (st' := [.int v, .int 0, .ref ao]) rfl ?_
    refine jW.world (ws' := (ao, .inl (G.2.2 5, 1, .inr (.inl fo))) :: w1) (by simp) ?_
    refine j_i2l hX dL_addFreeItem_12 ?_
    refine j_last hX (ws' := (ao, .inl (G.2.2 5, 1, .inr (.inl (vp_updL fo 0 v.toInt64)))) :: w1) dL_addFreeItem_13 0 rfl (by unfold vp_in; decide +kernel) rfl ?_
    refine j_goto hX (tgt := 25) dL_addFreeItem_14 (by decide) ?_
    refine j_iconst hX (v := 0) (by decide) dL_addFreeItem_25 ?_
    exact j_iret hX dL_addFreeItem_26 (Or.inl ⟨v, w1, hp, rfl, rfl⟩)
  · rcases hE E hx with rfl | rfl
    · refine ⟨[], _, _, rfl, (fun z hz => by cases hz), by decide, by decide, (by decide +kernel : Cond.classLink RL 13 "java/lang/IllegalArgumentException" ∈ wsL_addFreeItem), by decide, fun qx => ?_⟩
      show jW G X (0 + 1) (0 + 6) 17 _ [.ref qx] _
      refine j_astore hX (ls' := [some (.ref b), some (.int p0), some (.int p1), some (.int p2), some (.int p3), some (.ref ao), some (.ref qx)]) dL_addFreeItem_17 (Nat.le_of_ble_eq_true rfl) rfl rfl ?_
      refine j_iconst hX (v := 1) (by decide) dL_addFreeItem_19 ?_
      exact j_iret hX dL_addFreeItem_20 (Or.inr ⟨_, hx, Or.inl ⟨rfl, rfl⟩, by simp⟩)
    · refine ⟨[_], _, _, rfl, (fun z hz => by rcases List.mem_singleton.mp hz with rfl; exact ⟨by decide, rfl, _, (by decide +kernel : Cond.classLink RL 13 "java/lang/IllegalArgumentException" ∈ wsL_addFreeItem), Or.inl rfl⟩), by decide, by decide, (by decide +kernel : Cond.classLink RL 15 "java/lang/IllegalStateException" ∈ wsL_addFreeItem), by decide, fun qx => ?_⟩
      show jW G X (0 + 1) (0 + 6) 21 _ [.ref qx] _
      refine j_astore hX (ls' := [some (.ref b), some (.int p0), some (.int p1), some (.int p2), some (.int p3), some (.ref ao), some (.ref qx)]) dL_addFreeItem_21 (Nat.le_of_ble_eq_true rfl) rfl rfl ?_
      refine j_iconst hX (v := 2) (by decide) dL_addFreeItem_23 ?_
      exact j_iret hX dL_addFreeItem_24 (Or.inr ⟨_, hx, Or.inr ⟨rfl, rfl⟩, by simp⟩)

set_option maxHeartbeats 4000000 in
set_option maxRecDepth 100000 in
theorem c_L_addBundle (G : jG) {w0 : va_W} {b : Nat} {fs : List Value} (he : w0[0]? = some (b, .inr (12, fs))) (p0 p1 p2 p3 p4 p5 : Int32) {post' : Option Value → va_W → Prop} {postX' : String → Prop} (hC : jT G 30 yX11_addBundle wsX11_addBundle [.ref b, .int p0, .int p1, .int p2, .int p3, .int p4, .int p5] w0 1 9 post' postX') (hv : ∀ rv w1, post' rv w1 → ∃ v : Int32, rv = some (.int v)) (hE : ∀ E, postX' E → E = "java/lang/IllegalArgumentException" ∨ E = "java/lang/IllegalStateException") (ao : Nat) (fo : Nat → Int64) : jH G 31 yL_addBundle wsL_addBundle [.ref b, .int p0, .int p1, .int p2, .int p3, .int p4, .int p5, .ref ao] ((ao, .inl (G.2.2 5, 1, .inr (.inl fo))) :: w0) 1 9 (fun rv w => (∃ (v : Int32) (w1 : va_W), post' (some (.int v)) w1 ∧ rv = some (.int 0) ∧ w = (ao, .inl (G.2.2 5, 1, .inr (.inl (vp_updL fo 0 v.toInt64)))) :: w1) ∨ (∃ E, postX' E ∧ ((E = "java/lang/IllegalArgumentException" ∧ rv = some (.int 1)) ∨ (E = "java/lang/IllegalStateException" ∧ rv = some (.int 2))) ∧ w = (ao, .inl (G.2.2 5, 1, .inr (.inl fo))) :: w0)) := by
  refine jH.of (maxL := 9) (cc := cL_addBundle) (ret := some .int) (hh := [(0, 18, 21, 13), (0, 18, 25, 15)]) rfl (by decide) [some (.ref b), some (.int p0), some (.int p1), some (.int p2), some (.int p3), some (.int p4), some (.int p5), some (.ref ao), none] rfl (Nat.le_of_ble_eq_true rfl) (j_args rfl) (fun X hX hH => ?_)
  refine j_aload hX dL_addBundle_0 rfl ?_
  refine j_iconst hX (v := 0) (by decide) dL_addBundle_2 ?_
  refine j_aload_n hX dL_addBundle_3 rfl ?_
  refine j_iload_n hX dL_addBundle_4 rfl ?_
  refine j_iload_n hX dL_addBundle_5 rfl ?_
  refine j_iload_n hX dL_addBundle_6 rfl ?_
  refine j_iload hX dL_addBundle_7 rfl ?_
  refine j_iload hX dL_addBundle_9 rfl ?_
  refine j_iload hX dL_addBundle_11 rfl ?_
  refine j_tryV hX hH (nA := 6) (cq := (RX11, TX11, 7)) (As := [.int p0, .int p1, .int p2, .int p3, .int p4, .int p5]) (st := [.int 0, .ref ao]) (wa := [(ao, .inl (G.2.2 5, 1, .inr (.inl fo)))]) (w0 := w0) (wb := []) (ci := 12) rfl dL_addBundle_13 hC gL_addBundle_X11_addBundle rfl (by decide +kernel) (q := 1) (by simpa using he) (by decide) (Nat.le_of_ble_eq_true rfl) rfl (Nat.le_of_ble_eq_true rfl) ⟨by decide, by decide⟩ rfl (by simp) (fun rv w1 hp => ?_) (fun E hx => ?_)
  · obtain ⟨v, rfl⟩ := hv _ _ hp
    refine jW.stk (st' := [.int v, .int 0, .ref ao]) rfl ?_
    refine jW.world (ws' := (ao, .inl (G.2.2 5, 1, .inr (.inl fo))) :: w1) (by simp) ?_
    refine j_i2l hX dL_addBundle_16 ?_
    refine j_last hX (ws' := (ao, .inl (G.2.2 5, 1, .inr (.inl (vp_updL fo 0 v.toInt64)))) :: w1) dL_addBundle_17 0 rfl (by unfold vp_in; decide +kernel) rfl ?_
    refine j_goto hX (tgt := 29) dL_addBundle_18 (by decide) ?_
    refine j_iconst hX (v := 0) (by decide) dL_addBundle_29 ?_
    exact j_iret hX dL_addBundle_30 (Or.inl ⟨v, w1, hp, rfl, rfl⟩)
  · rcases hE E hx with rfl | rfl
    · refine ⟨[], _, _, rfl, (fun z hz => by cases hz), by decide, by decide, (by decide +kernel : Cond.classLink RL 13 "java/lang/IllegalArgumentException" ∈ wsL_addBundle), by decide, fun qx => ?_⟩
      show jW G X (0 + 1) (0 + 9) 21 _ [.ref qx] _
      refine j_astore hX (ls' := [some (.ref b), some (.int p0), some (.int p1), some (.int p2), some (.int p3), some (.int p4), some (.int p5), some (.ref ao), some (.ref qx)]) dL_addBundle_21 (Nat.le_of_ble_eq_true rfl) rfl rfl ?_
      refine j_iconst hX (v := 1) (by decide) dL_addBundle_23 ?_
      exact j_iret hX dL_addBundle_24 (Or.inr ⟨_, hx, Or.inl ⟨rfl, rfl⟩, by simp⟩)
    · refine ⟨[_], _, _, rfl, (fun z hz => by rcases List.mem_singleton.mp hz with rfl; exact ⟨by decide, rfl, _, (by decide +kernel : Cond.classLink RL 13 "java/lang/IllegalArgumentException" ∈ wsL_addBundle), Or.inl rfl⟩), by decide, by decide, (by decide +kernel : Cond.classLink RL 15 "java/lang/IllegalStateException" ∈ wsL_addBundle), by decide, fun qx => ?_⟩
      show jW G X (0 + 1) (0 + 9) 25 _ [.ref qx] _
      refine j_astore hX (ls' := [some (.ref b), some (.int p0), some (.int p1), some (.int p2), some (.int p3), some (.int p4), some (.int p5), some (.ref ao), some (.ref qx)]) dL_addBundle_25 (Nat.le_of_ble_eq_true rfl) rfl rfl ?_
      refine j_iconst hX (v := 2) (by decide) dL_addBundle_27 ?_
      exact j_iret hX dL_addBundle_28 (Or.inr ⟨_, hx, Or.inr ⟨rfl, rfl⟩, by simp⟩)

set_option maxHeartbeats 4000000 in
set_option maxRecDepth 100000 in
theorem c_L_addThreshold (G : jG) {w0 : va_W} {b : Nat} {fs : List Value} (he : w0[0]? = some (b, .inr (12, fs))) (p0 p1 p2 p3 : Int32) {post' : Option Value → va_W → Prop} {postX' : String → Prop} (hC : jT G 30 yX11_addThreshold wsX11_addThreshold [.ref b, .int p0, .int p1, .int p2, .int p3] w0 1 6 post' postX') (hv : ∀ rv w1, post' rv w1 → ∃ v : Int32, rv = some (.int v)) (hE : ∀ E, postX' E → E = "java/lang/IllegalArgumentException" ∨ E = "java/lang/IllegalStateException") (ao : Nat) (fo : Nat → Int64) : jH G 31 yL_addThreshold wsL_addThreshold [.ref b, .int p0, .int p1, .int p2, .int p3, .ref ao] ((ao, .inl (G.2.2 5, 1, .inr (.inl fo))) :: w0) 1 6 (fun rv w => (∃ (v : Int32) (w1 : va_W), post' (some (.int v)) w1 ∧ rv = some (.int 0) ∧ w = (ao, .inl (G.2.2 5, 1, .inr (.inl (vp_updL fo 0 v.toInt64)))) :: w1) ∨ (∃ E, postX' E ∧ ((E = "java/lang/IllegalArgumentException" ∧ rv = some (.int 1)) ∨ (E = "java/lang/IllegalStateException" ∧ rv = some (.int 2))) ∧ w = (ao, .inl (G.2.2 5, 1, .inr (.inl fo))) :: w0)) := by
  refine jH.of (maxL := 7) (cc := cL_addThreshold) (ret := some .int) (hh := [(0, 14, 17, 13), (0, 14, 21, 15)]) rfl (by decide) [some (.ref b), some (.int p0), some (.int p1), some (.int p2), some (.int p3), some (.ref ao), none] rfl (Nat.le_of_ble_eq_true rfl) (j_args rfl) (fun X hX hH => ?_)
  refine j_aload hX dL_addThreshold_0 rfl ?_
  refine j_iconst hX (v := 0) (by decide) dL_addThreshold_2 ?_
  refine j_aload_n hX dL_addThreshold_3 rfl ?_
  refine j_iload_n hX dL_addThreshold_4 rfl ?_
  refine j_iload_n hX dL_addThreshold_5 rfl ?_
  refine j_iload_n hX dL_addThreshold_6 rfl ?_
  refine j_iload hX dL_addThreshold_7 rfl ?_
  refine j_tryV hX hH (nA := 4) (cq := (RX11, TX11, 7)) (As := [.int p0, .int p1, .int p2, .int p3]) (st := [.int 0, .ref ao]) (wa := [(ao, .inl (G.2.2 5, 1, .inr (.inl fo)))]) (w0 := w0) (wb := []) (ci := 12) rfl dL_addThreshold_9 hC gL_addThreshold_X11_addThreshold rfl (by decide +kernel) (q := 1) (by simpa using he) (by decide) (Nat.le_of_ble_eq_true rfl) rfl (Nat.le_of_ble_eq_true rfl) ⟨by decide, by decide⟩ rfl (by simp) (fun rv w1 hp => ?_) (fun E hx => ?_)
  · obtain ⟨v, rfl⟩ := hv _ _ hp
    refine jW.stk (st' := [.int v, .int 0, .ref ao]) rfl ?_
    refine jW.world (ws' := (ao, .inl (G.2.2 5, 1, .inr (.inl fo))) :: w1) (by simp) ?_
    refine j_i2l hX dL_addThreshold_12 ?_
    refine j_last hX (ws' := (ao, .inl (G.2.2 5, 1, .inr (.inl (vp_updL fo 0 v.toInt64)))) :: w1) dL_addThreshold_13 0 rfl (by unfold vp_in; decide +kernel) rfl ?_
    refine j_goto hX (tgt := 25) dL_addThreshold_14 (by decide) ?_
    refine j_iconst hX (v := 0) (by decide) dL_addThreshold_25 ?_
    exact j_iret hX dL_addThreshold_26 (Or.inl ⟨v, w1, hp, rfl, rfl⟩)
  · rcases hE E hx with rfl | rfl
    · refine ⟨[], _, _, rfl, (fun z hz => by cases hz), by decide, by decide, (by decide +kernel : Cond.classLink RL 13 "java/lang/IllegalArgumentException" ∈ wsL_addThreshold), by decide, fun qx => ?_⟩
      show jW G X (0 + 1) (0 + 6) 17 _ [.ref qx] _
      refine j_astore hX (ls' := [some (.ref b), some (.int p0), some (.int p1), some (.int p2), some (.int p3), some (.ref ao), some (.ref qx)]) dL_addThreshold_17 (Nat.le_of_ble_eq_true rfl) rfl rfl ?_
      refine j_iconst hX (v := 1) (by decide) dL_addThreshold_19 ?_
      exact j_iret hX dL_addThreshold_20 (Or.inr ⟨_, hx, Or.inl ⟨rfl, rfl⟩, by simp⟩)
    · refine ⟨[_], _, _, rfl, (fun z hz => by rcases List.mem_singleton.mp hz with rfl; exact ⟨by decide, rfl, _, (by decide +kernel : Cond.classLink RL 13 "java/lang/IllegalArgumentException" ∈ wsL_addThreshold), Or.inl rfl⟩), by decide, by decide, (by decide +kernel : Cond.classLink RL 15 "java/lang/IllegalStateException" ∈ wsL_addThreshold), by decide, fun qx => ?_⟩
      show jW G X (0 + 1) (0 + 6) 21 _ [.ref qx] _
      refine j_astore hX (ls' := [some (.ref b), some (.int p0), some (.int p1), some (.int p2), some (.int p3), some (.ref ao), some (.ref qx)]) dL_addThreshold_21 (Nat.le_of_ble_eq_true rfl) rfl rfl ?_
      refine j_iconst hX (v := 2) (by decide) dL_addThreshold_23 ?_
      exact j_iret hX dL_addThreshold_24 (Or.inr ⟨_, hx, Or.inr ⟨rfl, rfl⟩, by simp⟩)

set_option maxHeartbeats 4000000 in
set_option maxRecDepth 100000 in
theorem c_L_left (G : jG) {w0 : va_W} {b : Nat} {fs : List Value} (he : w0[0]? = some (b, .inr (12, fs))) (p0 : Int32) {post' : Option Value → va_W → Prop} {postX' : String → Prop} (hC : jT G 30 yX11_left wsX11_left [.ref b, .int p0] w0 1 6 post' postX') (hv : ∀ rv w1, post' rv w1 → ∃ v : Int32, rv = some (.int v)) (hE : ∀ E, postX' E → E = "java/lang/IndexOutOfBoundsException") (ao : Nat) (fo : Nat → Int64) : jH G 31 yL_left wsL_left [.ref b, .int p0, .ref ao] ((ao, .inl (G.2.2 5, 1, .inr (.inl fo))) :: w0) 1 6 (fun rv w => (∃ (v : Int32) (w1 : va_W), post' (some (.int v)) w1 ∧ rv = some (.int 0) ∧ w = (ao, .inl (G.2.2 5, 1, .inr (.inl (vp_updL fo 0 v.toInt64)))) :: w1) ∨ (∃ E, postX' E ∧ ((E = "java/lang/IndexOutOfBoundsException" ∧ rv = some (.int 1))) ∧ w = (ao, .inl (G.2.2 5, 1, .inr (.inl fo))) :: w0)) := by
  refine jH.of (maxL := 4) (cc := cL_left) (ret := some .int) (hh := [(0, 9, 12, 43)]) rfl (by decide) [some (.ref b), some (.int p0), some (.ref ao), none] rfl (Nat.le_of_ble_eq_true rfl) (j_args rfl) (fun X hX hH => ?_)
  refine j_aload_n hX dL_left_0 rfl ?_
  refine j_iconst hX (v := 0) (by decide) dL_left_1 ?_
  refine j_aload_n hX dL_left_2 rfl ?_
  refine j_iload_n hX dL_left_3 rfl ?_
  refine j_tryV hX hH (nA := 1) (cq := (RX11, TX11, 7)) (As := [.int p0]) (st := [.int 0, .ref ao]) (wa := [(ao, .inl (G.2.2 5, 1, .inr (.inl fo)))]) (w0 := w0) (wb := []) (ci := 12) rfl dL_left_4 hC gL_left_X11_left rfl (by decide +kernel) (q := 1) (by simpa using he) (by decide) (Nat.le_of_ble_eq_true rfl) rfl (Nat.le_of_ble_eq_true rfl) ⟨by decide, by decide⟩ rfl (by simp) (fun rv w1 hp => ?_) (fun E hx => ?_)
  · obtain ⟨v, rfl⟩ := hv _ _ hp
    refine jW.stk (st' := [.int v, .int 0, .ref ao]) rfl ?_
    refine jW.world (ws' := (ao, .inl (G.2.2 5, 1, .inr (.inl fo))) :: w1) (by simp) ?_
    refine j_i2l hX dL_left_7 ?_
    refine j_last hX (ws' := (ao, .inl (G.2.2 5, 1, .inr (.inl (vp_updL fo 0 v.toInt64)))) :: w1) dL_left_8 0 rfl (by unfold vp_in; decide +kernel) rfl ?_
    refine j_goto hX (tgt := 15) dL_left_9 (by decide) ?_
    refine j_iconst hX (v := 0) (by decide) dL_left_15 ?_
    exact j_iret hX dL_left_16 (Or.inl ⟨v, w1, hp, rfl, rfl⟩)
  · obtain rfl := hE E hx
    refine ⟨[], _, _, rfl, (fun z hz => by cases hz), by decide, by decide, (by decide +kernel : Cond.classLink RL 43 "java/lang/IndexOutOfBoundsException" ∈ wsL_left), by decide, fun qx => ?_⟩
    show jW G X (0 + 1) (0 + 6) 12 _ [.ref qx] _
    refine j_astore_n hX (ls' := [some (.ref b), some (.int p0), some (.ref ao), some (.ref qx)]) dL_left_12 (Nat.le_of_ble_eq_true rfl) rfl rfl ?_
    refine j_iconst hX (v := 1) (by decide) dL_left_13 ?_
    exact j_iret hX dL_left_14 (Or.inr ⟨_, hx, ⟨rfl, rfl⟩, by simp⟩)

set_option maxHeartbeats 4000000 in
set_option maxRecDepth 100000 in
theorem c_L_bestByTrying (G : jG) {w0 : va_W} {b : Nat} {fs : List Value} (he : w0[0]? = some (b, .inr (12, fs))) {post' : Option Value → va_W → Prop} {postX' : String → Prop} (hC : jT G 30 yX11_bestByTrying wsX11_bestByTrying [.ref b] w0 1 6 post' postX') (hv : ∀ rv w1, post' rv w1 → ∃ v : Int32, rv = some (.int v)) (hE : ∀ E, postX' E → E = "java/lang/UnsupportedOperationException") (ao : Nat) (fo : Nat → Int64) : jH G 31 yL_bestByTrying wsL_bestByTrying [.ref b, .ref ao] ((ao, .inl (G.2.2 5, 1, .inr (.inl fo))) :: w0) 1 6 (fun rv w => (∃ (v : Int32) (w1 : va_W), post' (some (.int v)) w1 ∧ rv = some (.int 0) ∧ w = (ao, .inl (G.2.2 5, 1, .inr (.inl (vp_updL fo 0 v.toInt64)))) :: w1) ∨ (∃ E, postX' E ∧ ((E = "java/lang/UnsupportedOperationException" ∧ rv = some (.int 1))) ∧ w = (ao, .inl (G.2.2 5, 1, .inr (.inl fo))) :: w0)) := by
  refine jH.of (maxL := 3) (cc := cL_bestByTrying) (ret := some .int) (hh := [(0, 8, 11, 49)]) rfl (by decide) [some (.ref b), some (.ref ao), none] rfl (Nat.le_of_ble_eq_true rfl) (j_args rfl) (fun X hX hH => ?_)
  refine j_aload_n hX dL_bestByTrying_0 rfl ?_
  refine j_iconst hX (v := 0) (by decide) dL_bestByTrying_1 ?_
  refine j_aload_n hX dL_bestByTrying_2 rfl ?_
  refine j_tryV hX hH (nA := 0) (cq := (RX11, TX11, 7)) (As := []) (st := [.int 0, .ref ao]) (wa := [(ao, .inl (G.2.2 5, 1, .inr (.inl fo)))]) (w0 := w0) (wb := []) (ci := 12) rfl dL_bestByTrying_3 hC gL_bestByTrying_X11_bestByTrying rfl (by decide +kernel) (q := 1) (by simpa using he) (by decide) (Nat.le_of_ble_eq_true rfl) rfl (Nat.le_of_ble_eq_true rfl) ⟨by decide, by decide⟩ rfl (by simp) (fun rv w1 hp => ?_) (fun E hx => ?_)
  · obtain ⟨v, rfl⟩ := hv _ _ hp
    refine jW.stk (st' := [.int v, .int 0, .ref ao]) rfl ?_
    refine jW.world (ws' := (ao, .inl (G.2.2 5, 1, .inr (.inl fo))) :: w1) (by simp) ?_
    refine j_i2l hX dL_bestByTrying_6 ?_
    refine j_last hX (ws' := (ao, .inl (G.2.2 5, 1, .inr (.inl (vp_updL fo 0 v.toInt64)))) :: w1) dL_bestByTrying_7 0 rfl (by unfold vp_in; decide +kernel) rfl ?_
    refine j_goto hX (tgt := 14) dL_bestByTrying_8 (by decide) ?_
    refine j_iconst hX (v := 0) (by decide) dL_bestByTrying_14 ?_
    exact j_iret hX dL_bestByTrying_15 (Or.inl ⟨v, w1, hp, rfl, rfl⟩)
  · obtain rfl := hE E hx
    refine ⟨[], _, _, rfl, (fun z hz => by cases hz), by decide, by decide, (by decide +kernel : Cond.classLink RL 49 "java/lang/UnsupportedOperationException" ∈ wsL_bestByTrying), by decide, fun qx => ?_⟩
    show jW G X (0 + 1) (0 + 6) 11 _ [.ref qx] _
    refine j_astore_n hX (ls' := [some (.ref b), some (.ref ao), some (.ref qx)]) dL_bestByTrying_11 (Nat.le_of_ble_eq_true rfl) rfl rfl ?_
    refine j_iconst hX (v := 1) (by decide) dL_bestByTrying_12 ?_
    exact j_iret hX dL_bestByTrying_13 (Or.inr ⟨_, hx, ⟨rfl, rfl⟩, by simp⟩)

set_option maxHeartbeats 4000000 in
set_option maxRecDepth 100000 in
theorem c_L_offerOf (G : jG) {w0 : va_W} {b : Nat} {fs : List Value} (he : w0[0]? = some (b, .inr (12, fs))) (p0 : Int32) {post' : Option Value → va_W → Prop} {postX' : String → Prop} (hC : jT G 30 yX11_offerOf wsX11_offerOf [.ref b, .int p0] w0 1 6 post' postX') (hv : ∀ rv w1, post' rv w1 → ∃ v : Int32, rv = some (.int v)) (hE : ∀ E, postX' E → E = "java/util/NoSuchElementException") (ao : Nat) (fo : Nat → Int64) : jH G 31 yL_offerOf wsL_offerOf [.ref b, .int p0, .ref ao] ((ao, .inl (G.2.2 5, 1, .inr (.inl fo))) :: w0) 1 6 (fun rv w => (∃ (v : Int32) (w1 : va_W), post' (some (.int v)) w1 ∧ rv = some (.int 0) ∧ w = (ao, .inl (G.2.2 5, 1, .inr (.inl (vp_updL fo 0 v.toInt64)))) :: w1) ∨ (∃ E, postX' E ∧ ((E = "java/util/NoSuchElementException" ∧ rv = some (.int 1))) ∧ w = (ao, .inl (G.2.2 5, 1, .inr (.inl fo))) :: w0)) := by
  refine jH.of (maxL := 4) (cc := cL_offerOf) (ret := some .int) (hh := [(0, 9, 12, 21)]) rfl (by decide) [some (.ref b), some (.int p0), some (.ref ao), none] rfl (Nat.le_of_ble_eq_true rfl) (j_args rfl) (fun X hX hH => ?_)
  refine j_aload_n hX dL_offerOf_0 rfl ?_
  refine j_iconst hX (v := 0) (by decide) dL_offerOf_1 ?_
  refine j_aload_n hX dL_offerOf_2 rfl ?_
  refine j_iload_n hX dL_offerOf_3 rfl ?_
  refine j_tryV hX hH (nA := 1) (cq := (RX11, TX11, 7)) (As := [.int p0]) (st := [.int 0, .ref ao]) (wa := [(ao, .inl (G.2.2 5, 1, .inr (.inl fo)))]) (w0 := w0) (wb := []) (ci := 12) rfl dL_offerOf_4 hC gL_offerOf_X11_offerOf rfl (by decide +kernel) (q := 1) (by simpa using he) (by decide) (Nat.le_of_ble_eq_true rfl) rfl (Nat.le_of_ble_eq_true rfl) ⟨by decide, by decide⟩ rfl (by simp) (fun rv w1 hp => ?_) (fun E hx => ?_)
  · obtain ⟨v, rfl⟩ := hv _ _ hp
    refine jW.stk (st' := [.int v, .int 0, .ref ao]) rfl ?_
    refine jW.world (ws' := (ao, .inl (G.2.2 5, 1, .inr (.inl fo))) :: w1) (by simp) ?_
    refine j_i2l hX dL_offerOf_7 ?_
    refine j_last hX (ws' := (ao, .inl (G.2.2 5, 1, .inr (.inl (vp_updL fo 0 v.toInt64)))) :: w1) dL_offerOf_8 0 rfl (by unfold vp_in; decide +kernel) rfl ?_
    refine j_goto hX (tgt := 15) dL_offerOf_9 (by decide) ?_
    refine j_iconst hX (v := 0) (by decide) dL_offerOf_15 ?_
    exact j_iret hX dL_offerOf_16 (Or.inl ⟨v, w1, hp, rfl, rfl⟩)
  · obtain rfl := hE E hx
    refine ⟨[], _, _, rfl, (fun z hz => by cases hz), by decide, by decide, (by decide +kernel : Cond.classLink RL 21 "java/util/NoSuchElementException" ∈ wsL_offerOf), by decide, fun qx => ?_⟩
    show jW G X (0 + 1) (0 + 6) 12 _ [.ref qx] _
    refine j_astore_n hX (ls' := [some (.ref b), some (.int p0), some (.ref ao), some (.ref qx)]) dL_offerOf_12 (Nat.le_of_ble_eq_true rfl) rfl rfl ?_
    refine j_iconst hX (v := 1) (by decide) dL_offerOf_13 ?_
    exact j_iret hX dL_offerOf_14 (Or.inr ⟨_, hx, ⟨rfl, rfl⟩, by simp⟩)

set_option maxHeartbeats 4000000 in
set_option maxRecDepth 100000 in
theorem c_L_uses (G : jG) {w0 : va_W} {b : Nat} {fs : List Value} (he : w0[0]? = some (b, .inr (12, fs))) (p0 : Int32) {post' : Option Value → va_W → Prop} {postX' : String → Prop} (hC : jT G 30 yX11_uses wsX11_uses [.ref b, .int p0] w0 1 6 post' postX') (hv : ∀ rv w1, post' rv w1 → ∃ v : Int32, rv = some (.int v)) (hE : ∀ E, postX' E → E = "java/lang/IndexOutOfBoundsException") (ao : Nat) (fo : Nat → Int64) : jH G 31 yL_uses wsL_uses [.ref b, .int p0, .ref ao] ((ao, .inl (G.2.2 5, 1, .inr (.inl fo))) :: w0) 1 6 (fun rv w => (∃ (v : Int32) (w1 : va_W), post' (some (.int v)) w1 ∧ rv = some (.int 0) ∧ w = (ao, .inl (G.2.2 5, 1, .inr (.inl (vp_updL fo 0 v.toInt64)))) :: w1) ∨ (∃ E, postX' E ∧ ((E = "java/lang/IndexOutOfBoundsException" ∧ rv = some (.int 1))) ∧ w = (ao, .inl (G.2.2 5, 1, .inr (.inl fo))) :: w0)) := by
  refine jH.of (maxL := 4) (cc := cL_uses) (ret := some .int) (hh := [(0, 9, 12, 43)]) rfl (by decide) [some (.ref b), some (.int p0), some (.ref ao), none] rfl (Nat.le_of_ble_eq_true rfl) (j_args rfl) (fun X hX hH => ?_)
  refine j_aload_n hX dL_uses_0 rfl ?_
  refine j_iconst hX (v := 0) (by decide) dL_uses_1 ?_
  refine j_aload_n hX dL_uses_2 rfl ?_
  refine j_iload_n hX dL_uses_3 rfl ?_
  refine j_tryV hX hH (nA := 1) (cq := (RX11, TX11, 7)) (As := [.int p0]) (st := [.int 0, .ref ao]) (wa := [(ao, .inl (G.2.2 5, 1, .inr (.inl fo)))]) (w0 := w0) (wb := []) (ci := 12) rfl dL_uses_4 hC gL_uses_X11_uses rfl (by decide +kernel) (q := 1) (by simpa using he) (by decide) (Nat.le_of_ble_eq_true rfl) rfl (Nat.le_of_ble_eq_true rfl) ⟨by decide, by decide⟩ rfl (by simp) (fun rv w1 hp => ?_) (fun E hx => ?_)
  · obtain ⟨v, rfl⟩ := hv _ _ hp
    refine jW.stk (st' := [.int v, .int 0, .ref ao]) rfl ?_
    refine jW.world (ws' := (ao, .inl (G.2.2 5, 1, .inr (.inl fo))) :: w1) (by simp) ?_
    refine j_i2l hX dL_uses_7 ?_
    refine j_last hX (ws' := (ao, .inl (G.2.2 5, 1, .inr (.inl (vp_updL fo 0 v.toInt64)))) :: w1) dL_uses_8 0 rfl (by unfold vp_in; decide +kernel) rfl ?_
    refine j_goto hX (tgt := 15) dL_uses_9 (by decide) ?_
    refine j_iconst hX (v := 0) (by decide) dL_uses_15 ?_
    exact j_iret hX dL_uses_16 (Or.inl ⟨v, w1, hp, rfl, rfl⟩)
  · obtain rfl := hE E hx
    refine ⟨[], _, _, rfl, (fun z hz => by cases hz), by decide, by decide, (by decide +kernel : Cond.classLink RL 43 "java/lang/IndexOutOfBoundsException" ∈ wsL_uses), by decide, fun qx => ?_⟩
    show jW G X (0 + 1) (0 + 6) 12 _ [.ref qx] _
    refine j_astore_n hX (ls' := [some (.ref b), some (.int p0), some (.ref ao), some (.ref qx)]) dL_uses_12 (Nat.le_of_ble_eq_true rfl) rfl rfl ?_
    refine j_iconst hX (v := 1) (by decide) dL_uses_13 ?_
    exact j_iret hX dL_uses_14 (Or.inr ⟨_, hx, ⟨rfl, rfl⟩, by simp⟩)

set_option maxHeartbeats 4000000 in
set_option maxRecDepth 100000 in
theorem c_L_reason (G : jG) {w0 : va_W} {b : Nat} {fs : List Value} (he : w0[0]? = some (b, .inr (12, fs))) (p0 : Int32) {post' : Option Value → va_W → Prop} {postX' : String → Prop} (hC : jT G 30 yX11_reason wsX11_reason [.ref b, .int p0] w0 1 6 post' postX') (hv : ∀ rv w1, post' rv w1 → ∃ v : Int32, rv = some (.int v)) (hE : ∀ E, postX' E → E = "java/lang/IndexOutOfBoundsException") (ao : Nat) (fo : Nat → Int64) : jH G 31 yL_reason wsL_reason [.ref b, .int p0, .ref ao] ((ao, .inl (G.2.2 5, 1, .inr (.inl fo))) :: w0) 1 6 (fun rv w => (∃ (v : Int32) (w1 : va_W), post' (some (.int v)) w1 ∧ rv = some (.int 0) ∧ w = (ao, .inl (G.2.2 5, 1, .inr (.inl (vp_updL fo 0 v.toInt64)))) :: w1) ∨ (∃ E, postX' E ∧ ((E = "java/lang/IndexOutOfBoundsException" ∧ rv = some (.int 1))) ∧ w = (ao, .inl (G.2.2 5, 1, .inr (.inl fo))) :: w0)) := by
  refine jH.of (maxL := 4) (cc := cL_reason) (ret := some .int) (hh := [(0, 9, 12, 43)]) rfl (by decide) [some (.ref b), some (.int p0), some (.ref ao), none] rfl (Nat.le_of_ble_eq_true rfl) (j_args rfl) (fun X hX hH => ?_)
  refine j_aload_n hX dL_reason_0 rfl ?_
  refine j_iconst hX (v := 0) (by decide) dL_reason_1 ?_
  refine j_aload_n hX dL_reason_2 rfl ?_
  refine j_iload_n hX dL_reason_3 rfl ?_
  refine j_tryV hX hH (nA := 1) (cq := (RX11, TX11, 7)) (As := [.int p0]) (st := [.int 0, .ref ao]) (wa := [(ao, .inl (G.2.2 5, 1, .inr (.inl fo)))]) (w0 := w0) (wb := []) (ci := 12) rfl dL_reason_4 hC gL_reason_X11_reason rfl (by decide +kernel) (q := 1) (by simpa using he) (by decide) (Nat.le_of_ble_eq_true rfl) rfl (Nat.le_of_ble_eq_true rfl) ⟨by decide, by decide⟩ rfl (by simp) (fun rv w1 hp => ?_) (fun E hx => ?_)
  · obtain ⟨v, rfl⟩ := hv _ _ hp
    refine jW.stk (st' := [.int v, .int 0, .ref ao]) rfl ?_
    refine jW.world (ws' := (ao, .inl (G.2.2 5, 1, .inr (.inl fo))) :: w1) (by simp) ?_
    refine j_i2l hX dL_reason_7 ?_
    refine j_last hX (ws' := (ao, .inl (G.2.2 5, 1, .inr (.inl (vp_updL fo 0 v.toInt64)))) :: w1) dL_reason_8 0 rfl (by unfold vp_in; decide +kernel) rfl ?_
    refine j_goto hX (tgt := 15) dL_reason_9 (by decide) ?_
    refine j_iconst hX (v := 0) (by decide) dL_reason_15 ?_
    exact j_iret hX dL_reason_16 (Or.inl ⟨v, w1, hp, rfl, rfl⟩)
  · obtain rfl := hE E hx
    refine ⟨[], _, _, rfl, (fun z hz => by cases hz), by decide, by decide, (by decide +kernel : Cond.classLink RL 43 "java/lang/IndexOutOfBoundsException" ∈ wsL_reason), by decide, fun qx => ?_⟩
    show jW G X (0 + 1) (0 + 6) 12 _ [.ref qx] _
    refine j_astore_n hX (ls' := [some (.ref b), some (.int p0), some (.ref ao), some (.ref qx)]) dL_reason_12 (Nat.le_of_ble_eq_true rfl) rfl rfl ?_
    refine j_iconst hX (v := 1) (by decide) dL_reason_13 ?_
    exact j_iret hX dL_reason_14 (Or.inr ⟨_, hx, ⟨rfl, rfl⟩, by simp⟩)

set_option maxHeartbeats 4000000 in
set_option maxRecDepth 100000 in
theorem c_L_netPrice (G : jG) {w0 : va_W} {b : Nat} {fs : List Value} (he : w0[0]? = some (b, .inr (12, fs))) (p0 : Int32) {post' : Option Value → va_W → Prop} {postX' : String → Prop} (hC : jT G 30 yX11_netPrice wsX11_netPrice [.ref b, .int p0] w0 1 6 post' postX') (hv : ∀ rv w1, post' rv w1 → ∃ v : Int32, rv = some (.int v)) (hE : ∀ E, postX' E → E = "java/util/NoSuchElementException") (ao : Nat) (fo : Nat → Int64) : jH G 31 yL_netPrice wsL_netPrice [.ref b, .int p0, .ref ao] ((ao, .inl (G.2.2 5, 1, .inr (.inl fo))) :: w0) 1 6 (fun rv w => (∃ (v : Int32) (w1 : va_W), post' (some (.int v)) w1 ∧ rv = some (.int 0) ∧ w = (ao, .inl (G.2.2 5, 1, .inr (.inl (vp_updL fo 0 v.toInt64)))) :: w1) ∨ (∃ E, postX' E ∧ ((E = "java/util/NoSuchElementException" ∧ rv = some (.int 1))) ∧ w = (ao, .inl (G.2.2 5, 1, .inr (.inl fo))) :: w0)) := by
  refine jH.of (maxL := 4) (cc := cL_netPrice) (ret := some .int) (hh := [(0, 9, 12, 21)]) rfl (by decide) [some (.ref b), some (.int p0), some (.ref ao), none] rfl (Nat.le_of_ble_eq_true rfl) (j_args rfl) (fun X hX hH => ?_)
  refine j_aload_n hX dL_netPrice_0 rfl ?_
  refine j_iconst hX (v := 0) (by decide) dL_netPrice_1 ?_
  refine j_aload_n hX dL_netPrice_2 rfl ?_
  refine j_iload_n hX dL_netPrice_3 rfl ?_
  refine j_tryV hX hH (nA := 1) (cq := (RX11, TX11, 7)) (As := [.int p0]) (st := [.int 0, .ref ao]) (wa := [(ao, .inl (G.2.2 5, 1, .inr (.inl fo)))]) (w0 := w0) (wb := []) (ci := 12) rfl dL_netPrice_4 hC gL_netPrice_X11_netPrice rfl (by decide +kernel) (q := 1) (by simpa using he) (by decide) (Nat.le_of_ble_eq_true rfl) rfl (Nat.le_of_ble_eq_true rfl) ⟨by decide, by decide⟩ rfl (by simp) (fun rv w1 hp => ?_) (fun E hx => ?_)
  · obtain ⟨v, rfl⟩ := hv _ _ hp
    refine jW.stk (st' := [.int v, .int 0, .ref ao]) rfl ?_
    refine jW.world (ws' := (ao, .inl (G.2.2 5, 1, .inr (.inl fo))) :: w1) (by simp) ?_
    refine j_i2l hX dL_netPrice_7 ?_
    refine j_last hX (ws' := (ao, .inl (G.2.2 5, 1, .inr (.inl (vp_updL fo 0 v.toInt64)))) :: w1) dL_netPrice_8 0 rfl (by unfold vp_in; decide +kernel) rfl ?_
    refine j_goto hX (tgt := 15) dL_netPrice_9 (by decide) ?_
    refine j_iconst hX (v := 0) (by decide) dL_netPrice_15 ?_
    exact j_iret hX dL_netPrice_16 (Or.inl ⟨v, w1, hp, rfl, rfl⟩)
  · obtain rfl := hE E hx
    refine ⟨[], _, _, rfl, (fun z hz => by cases hz), by decide, by decide, (by decide +kernel : Cond.classLink RL 21 "java/util/NoSuchElementException" ∈ wsL_netPrice), by decide, fun qx => ?_⟩
    show jW G X (0 + 1) (0 + 6) 12 _ [.ref qx] _
    refine j_astore_n hX (ls' := [some (.ref b), some (.int p0), some (.ref ao), some (.ref qx)]) dL_netPrice_12 (Nat.le_of_ble_eq_true rfl) rfl rfl ?_
    refine j_iconst hX (v := 1) (by decide) dL_netPrice_13 ?_
    exact j_iret hX dL_netPrice_14 (Or.inr ⟨_, hx, ⟨rfl, rfl⟩, by simp⟩)

set_option maxHeartbeats 4000000 in
set_option maxRecDepth 100000 in
theorem c_L_sell (G : jG) {w0 : va_W} {b : Nat} {fs : List Value} (he : w0[0]? = some (b, .inr (12, fs))) {post' : Option Value → va_W → Prop} {postX' : String → Prop} (hC : jT G 30 yX11_sell wsX11_sell [.ref b] w0 1 6 post' postX') (hv : ∀ rv w1, post' rv w1 → ∃ v : Int32, rv = some (.int v)) (hE : ∀ E, postX' E → E = "java/lang/IllegalStateException") (ao : Nat) (fo : Nat → Int64) : jH G 31 yL_sell wsL_sell [.ref b, .ref ao] ((ao, .inl (G.2.2 5, 1, .inr (.inl fo))) :: w0) 1 6 (fun rv w => (∃ (v : Int32) (w1 : va_W), post' (some (.int v)) w1 ∧ rv = some (.int 0) ∧ w = (ao, .inl (G.2.2 5, 1, .inr (.inl (vp_updL fo 0 v.toInt64)))) :: w1) ∨ (∃ E, postX' E ∧ ((E = "java/lang/IllegalStateException" ∧ rv = some (.int 1))) ∧ w = (ao, .inl (G.2.2 5, 1, .inr (.inl fo))) :: w0)) := by
  refine jH.of (maxL := 3) (cc := cL_sell) (ret := some .int) (hh := [(0, 8, 11, 15)]) rfl (by decide) [some (.ref b), some (.ref ao), none] rfl (Nat.le_of_ble_eq_true rfl) (j_args rfl) (fun X hX hH => ?_)
  refine j_aload_n hX dL_sell_0 rfl ?_
  refine j_iconst hX (v := 0) (by decide) dL_sell_1 ?_
  refine j_aload_n hX dL_sell_2 rfl ?_
  refine j_tryV hX hH (nA := 0) (cq := (RX11, TX11, 7)) (As := []) (st := [.int 0, .ref ao]) (wa := [(ao, .inl (G.2.2 5, 1, .inr (.inl fo)))]) (w0 := w0) (wb := []) (ci := 12) rfl dL_sell_3 hC gL_sell_X11_sell rfl (by decide +kernel) (q := 1) (by simpa using he) (by decide) (Nat.le_of_ble_eq_true rfl) rfl (Nat.le_of_ble_eq_true rfl) ⟨by decide, by decide⟩ rfl (by simp) (fun rv w1 hp => ?_) (fun E hx => ?_)
  · obtain ⟨v, rfl⟩ := hv _ _ hp
    refine jW.stk (st' := [.int v, .int 0, .ref ao]) rfl ?_
    refine jW.world (ws' := (ao, .inl (G.2.2 5, 1, .inr (.inl fo))) :: w1) (by simp) ?_
    refine j_i2l hX dL_sell_6 ?_
    refine j_last hX (ws' := (ao, .inl (G.2.2 5, 1, .inr (.inl (vp_updL fo 0 v.toInt64)))) :: w1) dL_sell_7 0 rfl (by unfold vp_in; decide +kernel) rfl ?_
    refine j_goto hX (tgt := 14) dL_sell_8 (by decide) ?_
    refine j_iconst hX (v := 0) (by decide) dL_sell_14 ?_
    exact j_iret hX dL_sell_15 (Or.inl ⟨v, w1, hp, rfl, rfl⟩)
  · obtain rfl := hE E hx
    refine ⟨[], _, _, rfl, (fun z hz => by cases hz), by decide, by decide, (by decide +kernel : Cond.classLink RL 15 "java/lang/IllegalStateException" ∈ wsL_sell), by decide, fun qx => ?_⟩
    show jW G X (0 + 1) (0 + 6) 11 _ [.ref qx] _
    refine j_astore_n hX (ls' := [some (.ref b), some (.ref ao), some (.ref qx)]) dL_sell_11 (Nat.le_of_ble_eq_true rfl) rfl rfl ?_
    refine j_iconst hX (v := 1) (by decide) dL_sell_12 ?_
    exact j_iret hX dL_sell_13 (Or.inr ⟨_, hx, ⟨rfl, rfl⟩, by simp⟩)

set_option maxHeartbeats 4000000 in
set_option maxRecDepth 100000 in
theorem c_L_giveBack (G : jG) {w0 : va_W} {b : Nat} {fs : List Value} (he : w0[0]? = some (b, .inr (12, fs))) (p0 : Int32) {post' : Option Value → va_W → Prop} {postX' : String → Prop} (hC : jT G 30 yX11_giveBack wsX11_giveBack [.ref b, .int p0] w0 1 6 post' postX') (hv : ∀ rv w1, post' rv w1 → ∃ v : Int32, rv = some (.int v)) (hE : ∀ E, postX' E → E = "java/util/NoSuchElementException" ∨ E = "java/lang/IllegalStateException") (ao : Nat) (fo : Nat → Int64) : jH G 31 yL_giveBack wsL_giveBack [.ref b, .int p0, .ref ao] ((ao, .inl (G.2.2 5, 1, .inr (.inl fo))) :: w0) 1 6 (fun rv w => (∃ (v : Int32) (w1 : va_W), post' (some (.int v)) w1 ∧ rv = some (.int 0) ∧ w = (ao, .inl (G.2.2 5, 1, .inr (.inl (vp_updL fo 0 v.toInt64)))) :: w1) ∨ (∃ E, postX' E ∧ ((E = "java/util/NoSuchElementException" ∧ rv = some (.int 1)) ∨ (E = "java/lang/IllegalStateException" ∧ rv = some (.int 2))) ∧ w = (ao, .inl (G.2.2 5, 1, .inr (.inl fo))) :: w0)) := by
  refine jH.of (maxL := 4) (cc := cL_giveBack) (ret := some .int) (hh := [(0, 9, 12, 21), (0, 9, 15, 15)]) rfl (by decide) [some (.ref b), some (.int p0), some (.ref ao), none] rfl (Nat.le_of_ble_eq_true rfl) (j_args rfl) (fun X hX hH => ?_)
  refine j_aload_n hX dL_giveBack_0 rfl ?_
  refine j_iconst hX (v := 0) (by decide) dL_giveBack_1 ?_
  refine j_aload_n hX dL_giveBack_2 rfl ?_
  refine j_iload_n hX dL_giveBack_3 rfl ?_
  refine j_tryV hX hH (nA := 1) (cq := (RX11, TX11, 7)) (As := [.int p0]) (st := [.int 0, .ref ao]) (wa := [(ao, .inl (G.2.2 5, 1, .inr (.inl fo)))]) (w0 := w0) (wb := []) (ci := 12) rfl dL_giveBack_4 hC gL_giveBack_X11_giveBack rfl (by decide +kernel) (q := 1) (by simpa using he) (by decide) (Nat.le_of_ble_eq_true rfl) rfl (Nat.le_of_ble_eq_true rfl) ⟨by decide, by decide⟩ rfl (by simp) (fun rv w1 hp => ?_) (fun E hx => ?_)
  · obtain ⟨v, rfl⟩ := hv _ _ hp
    refine jW.stk (st' := [.int v, .int 0, .ref ao]) rfl ?_
    refine jW.world (ws' := (ao, .inl (G.2.2 5, 1, .inr (.inl fo))) :: w1) (by simp) ?_
    refine j_i2l hX dL_giveBack_7 ?_
    refine j_last hX (ws' := (ao, .inl (G.2.2 5, 1, .inr (.inl (vp_updL fo 0 v.toInt64)))) :: w1) dL_giveBack_8 0 rfl (by unfold vp_in; decide +kernel) rfl ?_
    refine j_goto hX (tgt := 18) dL_giveBack_9 (by decide) ?_
    refine j_iconst hX (v := 0) (by decide) dL_giveBack_18 ?_
    exact j_iret hX dL_giveBack_19 (Or.inl ⟨v, w1, hp, rfl, rfl⟩)
  · rcases hE E hx with rfl | rfl
    · refine ⟨[], _, _, rfl, (fun z hz => by cases hz), by decide, by decide, (by decide +kernel : Cond.classLink RL 21 "java/util/NoSuchElementException" ∈ wsL_giveBack), by decide, fun qx => ?_⟩
      show jW G X (0 + 1) (0 + 6) 12 _ [.ref qx] _
      refine j_astore_n hX (ls' := [some (.ref b), some (.int p0), some (.ref ao), some (.ref qx)]) dL_giveBack_12 (Nat.le_of_ble_eq_true rfl) rfl rfl ?_
      refine j_iconst hX (v := 1) (by decide) dL_giveBack_13 ?_
      exact j_iret hX dL_giveBack_14 (Or.inr ⟨_, hx, Or.inl ⟨rfl, rfl⟩, by simp⟩)
    · refine ⟨[_], _, _, rfl, (fun z hz => by rcases List.mem_singleton.mp hz with rfl; exact ⟨by decide, rfl, _, (by decide +kernel : Cond.classLink RL 21 "java/util/NoSuchElementException" ∈ wsL_giveBack), Or.inr rfl⟩), by decide, by decide, (by decide +kernel : Cond.classLink RL 15 "java/lang/IllegalStateException" ∈ wsL_giveBack), by decide, fun qx => ?_⟩
      show jW G X (0 + 1) (0 + 6) 15 _ [.ref qx] _
      refine j_astore_n hX (ls' := [some (.ref b), some (.int p0), some (.ref ao), some (.ref qx)]) dL_giveBack_15 (Nat.le_of_ble_eq_true rfl) rfl rfl ?_
      refine j_iconst hX (v := 2) (by decide) dL_giveBack_16 ?_
      exact j_iret hX dL_giveBack_17 (Or.inr ⟨_, hx, Or.inr ⟨rfl, rfl⟩, by simp⟩)

set_option maxHeartbeats 4000000 in
set_option maxRecDepth 100000 in
theorem c_L_soldTo (G : jG) {w0 : va_W} {b : Nat} {fs : List Value} (he : w0[0]? = some (b, .inr (12, fs))) (p0 : Int32) {post' : Option Value → va_W → Prop} {postX' : String → Prop} (hC : jT G 30 yX11_soldTo wsX11_soldTo [.ref b, .int p0] w0 1 6 post' postX') (hv : ∀ rv w1, post' rv w1 → ∃ v : Int32, rv = some (.int v)) (hE : ∀ E, postX' E → E = "java/util/NoSuchElementException") (ao : Nat) (fo : Nat → Int64) : jH G 31 yL_soldTo wsL_soldTo [.ref b, .int p0, .ref ao] ((ao, .inl (G.2.2 5, 1, .inr (.inl fo))) :: w0) 1 6 (fun rv w => (∃ (v : Int32) (w1 : va_W), post' (some (.int v)) w1 ∧ rv = some (.int 0) ∧ w = (ao, .inl (G.2.2 5, 1, .inr (.inl (vp_updL fo 0 v.toInt64)))) :: w1) ∨ (∃ E, postX' E ∧ ((E = "java/util/NoSuchElementException" ∧ rv = some (.int 1))) ∧ w = (ao, .inl (G.2.2 5, 1, .inr (.inl fo))) :: w0)) := by
  refine jH.of (maxL := 4) (cc := cL_soldTo) (ret := some .int) (hh := [(0, 9, 12, 21)]) rfl (by decide) [some (.ref b), some (.int p0), some (.ref ao), none] rfl (Nat.le_of_ble_eq_true rfl) (j_args rfl) (fun X hX hH => ?_)
  refine j_aload_n hX dL_soldTo_0 rfl ?_
  refine j_iconst hX (v := 0) (by decide) dL_soldTo_1 ?_
  refine j_aload_n hX dL_soldTo_2 rfl ?_
  refine j_iload_n hX dL_soldTo_3 rfl ?_
  refine j_tryV hX hH (nA := 1) (cq := (RX11, TX11, 7)) (As := [.int p0]) (st := [.int 0, .ref ao]) (wa := [(ao, .inl (G.2.2 5, 1, .inr (.inl fo)))]) (w0 := w0) (wb := []) (ci := 12) rfl dL_soldTo_4 hC gL_soldTo_X11_soldTo rfl (by decide +kernel) (q := 1) (by simpa using he) (by decide) (Nat.le_of_ble_eq_true rfl) rfl (Nat.le_of_ble_eq_true rfl) ⟨by decide, by decide⟩ rfl (by simp) (fun rv w1 hp => ?_) (fun E hx => ?_)
  · obtain ⟨v, rfl⟩ := hv _ _ hp
    refine jW.stk (st' := [.int v, .int 0, .ref ao]) rfl ?_
    refine jW.world (ws' := (ao, .inl (G.2.2 5, 1, .inr (.inl fo))) :: w1) (by simp) ?_
    refine j_i2l hX dL_soldTo_7 ?_
    refine j_last hX (ws' := (ao, .inl (G.2.2 5, 1, .inr (.inl (vp_updL fo 0 v.toInt64)))) :: w1) dL_soldTo_8 0 rfl (by unfold vp_in; decide +kernel) rfl ?_
    refine j_goto hX (tgt := 15) dL_soldTo_9 (by decide) ?_
    refine j_iconst hX (v := 0) (by decide) dL_soldTo_15 ?_
    exact j_iret hX dL_soldTo_16 (Or.inl ⟨v, w1, hp, rfl, rfl⟩)
  · obtain rfl := hE E hx
    refine ⟨[], _, _, rfl, (fun z hz => by cases hz), by decide, by decide, (by decide +kernel : Cond.classLink RL 21 "java/util/NoSuchElementException" ∈ wsL_soldTo), by decide, fun qx => ?_⟩
    show jW G X (0 + 1) (0 + 6) 12 _ [.ref qx] _
    refine j_astore_n hX (ls' := [some (.ref b), some (.int p0), some (.ref ao), some (.ref qx)]) dL_soldTo_12 (Nat.le_of_ble_eq_true rfl) rfl rfl ?_
    refine j_iconst hX (v := 1) (by decide) dL_soldTo_13 ?_
    exact j_iret hX dL_soldTo_14 (Or.inr ⟨_, hx, ⟨rfl, rfl⟩, by simp⟩)

set_option maxHeartbeats 4000000 in
set_option maxRecDepth 100000 in
theorem c_L_discountShare (G : jG) {w0 : va_W} {b : Nat} {fs : List Value} (he : w0[0]? = some (b, .inr (12, fs))) {post' : Option Value → va_W → Prop} {postX' : String → Prop} (hC : jT G 30 yX11_discountShare wsX11_discountShare [.ref b] w0 1 6 post' postX') (hv : ∀ rv w1, post' rv w1 → ∃ v : UInt32, rv = some (.float v) ∧ vf_n64 (FP.f2d v)) (hE : ∀ E, postX' E → E = "java/lang/ArithmeticException") (ao : Nat) (fo : Nat → UInt64) : jH G 31 yL_discountShare wsL_discountShare [.ref b, .ref ao] ((ao, .inl (G.2.2 6, 1, .inr (.inr (.inr (.inl fo))))) :: w0) 1 6 (fun rv w => (∃ (v : UInt32) (w1 : va_W), post' (some (.float v)) w1 ∧ rv = some (.int 0) ∧ w = (ao, .inl (G.2.2 6, 1, .inr (.inr (.inr (.inl (vf_upd fo 0 (FP.f2d v))))))) :: w1) ∨ (∃ E, postX' E ∧ ((E = "java/lang/ArithmeticException" ∧ rv = some (.int 1))) ∧ w = (ao, .inl (G.2.2 6, 1, .inr (.inr (.inr (.inl fo))))) :: w0)) := by
  refine jH.of (maxL := 3) (cc := cL_discountShare) (ret := some .int) (hh := [(0, 8, 11, 77)]) rfl (by decide) [some (.ref b), some (.ref ao), none] rfl (Nat.le_of_ble_eq_true rfl) (j_args rfl) (fun X hX hH => ?_)
  refine j_aload_n hX dL_discountShare_0 rfl ?_
  refine j_iconst hX (v := 0) (by decide) dL_discountShare_1 ?_
  refine j_aload_n hX dL_discountShare_2 rfl ?_
  refine j_tryV hX hH (nA := 0) (cq := (RX11, TX11, 7)) (As := []) (st := [.int 0, .ref ao]) (wa := [(ao, .inl (G.2.2 6, 1, .inr (.inr (.inr (.inl fo)))))]) (w0 := w0) (wb := []) (ci := 12) rfl dL_discountShare_3 hC gL_discountShare_X11_discountShare rfl (by decide +kernel) (q := 1) (by simpa using he) (by decide) (Nat.le_of_ble_eq_true rfl) rfl (Nat.le_of_ble_eq_true rfl) ⟨by decide, by decide⟩ rfl (by simp) (fun rv w1 hp => ?_) (fun E hx => ?_)
  · obtain ⟨v, rfl, hne⟩ := hv _ _ hp
    refine jW.stk (st' := [.float v, .int 0, .ref ao]) rfl ?_
    refine jW.world (ws' := (ao, .inl (G.2.2 6, 1, .inr (.inr (.inr (.inl fo))))) :: w1) (by simp) ?_
    refine j_f2d hX dL_discountShare_6 hne ?_
    refine j_dast hX (ws' := (ao, .inl (G.2.2 6, 1, .inr (.inr (.inr (.inl (vf_upd fo 0 (FP.f2d v))))))) :: w1) dL_discountShare_7 0 rfl (by unfold vp_in; decide +kernel) rfl ?_
    refine j_goto hX (tgt := 14) dL_discountShare_8 (by decide) ?_
    refine j_iconst hX (v := 0) (by decide) dL_discountShare_14 ?_
    exact j_iret hX dL_discountShare_15 (Or.inl ⟨v, w1, hp, rfl, rfl⟩)
  · obtain rfl := hE E hx
    refine ⟨[], _, _, rfl, (fun z hz => by cases hz), by decide, by decide, (by decide +kernel : Cond.classLink RL 77 "java/lang/ArithmeticException" ∈ wsL_discountShare), by decide, fun qx => ?_⟩
    show jW G X (0 + 1) (0 + 6) 11 _ [.ref qx] _
    refine j_astore_n hX (ls' := [some (.ref b), some (.ref ao), some (.ref qx)]) dL_discountShare_11 (Nat.le_of_ble_eq_true rfl) rfl rfl ?_
    refine j_iconst hX (v := 1) (by decide) dL_discountShare_12 ?_
    exact j_iret hX dL_discountShare_13 (Or.inr ⟨_, hx, ⟨rfl, rfl⟩, by simp⟩)

set_option maxHeartbeats 4000000 in
set_option maxRecDepth 100000 in
theorem c_L_meanNetPrice (G : jG) {w0 : va_W} {b : Nat} {fs : List Value} (he : w0[0]? = some (b, .inr (12, fs))) {post' : Option Value → va_W → Prop} {postX' : String → Prop} (hC : jT G 30 yX11_meanNetPrice wsX11_meanNetPrice [.ref b] w0 1 6 post' postX') (hv : ∀ rv w1, post' rv w1 → ∃ v : UInt64, rv = some (.double v)) (hE : ∀ E, postX' E → E = "java/lang/ArithmeticException") (ao : Nat) (fo : Nat → UInt64) : jH G 31 yL_meanNetPrice wsL_meanNetPrice [.ref b, .ref ao] ((ao, .inl (G.2.2 6, 1, .inr (.inr (.inr (.inl fo))))) :: w0) 1 6 (fun rv w => (∃ (v : UInt64) (w1 : va_W), post' (some (.double v)) w1 ∧ rv = some (.int 0) ∧ w = (ao, .inl (G.2.2 6, 1, .inr (.inr (.inr (.inl (vf_upd fo 0 v)))))) :: w1) ∨ (∃ E, postX' E ∧ ((E = "java/lang/ArithmeticException" ∧ rv = some (.int 1))) ∧ w = (ao, .inl (G.2.2 6, 1, .inr (.inr (.inr (.inl fo))))) :: w0)) := by
  refine jH.of (maxL := 3) (cc := cL_meanNetPrice) (ret := some .int) (hh := [(0, 7, 10, 77)]) rfl (by decide) [some (.ref b), some (.ref ao), none] rfl (Nat.le_of_ble_eq_true rfl) (j_args rfl) (fun X hX hH => ?_)
  refine j_aload_n hX dL_meanNetPrice_0 rfl ?_
  refine j_iconst hX (v := 0) (by decide) dL_meanNetPrice_1 ?_
  refine j_aload_n hX dL_meanNetPrice_2 rfl ?_
  refine j_tryV hX hH (nA := 0) (cq := (RX11, TX11, 7)) (As := []) (st := [.int 0, .ref ao]) (wa := [(ao, .inl (G.2.2 6, 1, .inr (.inr (.inr (.inl fo)))))]) (w0 := w0) (wb := []) (ci := 12) rfl dL_meanNetPrice_3 hC gL_meanNetPrice_X11_meanNetPrice rfl (by decide +kernel) (q := 1) (by simpa using he) (by decide) (Nat.le_of_ble_eq_true rfl) rfl (Nat.le_of_ble_eq_true rfl) ⟨by decide, by decide⟩ rfl (by simp) (fun rv w1 hp => ?_) (fun E hx => ?_)
  · obtain ⟨v, rfl⟩ := hv _ _ hp
    refine jW.stk (st' := [.double v, .int 0, .ref ao]) rfl ?_
    refine jW.world (ws' := (ao, .inl (G.2.2 6, 1, .inr (.inr (.inr (.inl fo))))) :: w1) (by simp) ?_
    refine j_dast hX (ws' := (ao, .inl (G.2.2 6, 1, .inr (.inr (.inr (.inl (vf_upd fo 0 v)))))) :: w1) dL_meanNetPrice_6 0 rfl (by unfold vp_in; decide +kernel) rfl ?_
    refine j_goto hX (tgt := 13) dL_meanNetPrice_7 (by decide) ?_
    refine j_iconst hX (v := 0) (by decide) dL_meanNetPrice_13 ?_
    exact j_iret hX dL_meanNetPrice_14 (Or.inl ⟨v, w1, hp, rfl, rfl⟩)
  · obtain rfl := hE E hx
    refine ⟨[], _, _, rfl, (fun z hz => by cases hz), by decide, by decide, (by decide +kernel : Cond.classLink RL 77 "java/lang/ArithmeticException" ∈ wsL_meanNetPrice), by decide, fun qx => ?_⟩
    show jW G X (0 + 1) (0 + 6) 10 _ [.ref qx] _
    refine j_astore_n hX (ls' := [some (.ref b), some (.ref ao), some (.ref qx)]) dL_meanNetPrice_10 (Nat.le_of_ble_eq_true rfl) rfl rfl ?_
    refine j_iconst hX (v := 1) (by decide) dL_meanNetPrice_11 ?_
    exact j_iret hX dL_meanNetPrice_12 (Or.inr ⟨_, hx, ⟨rfl, rfl⟩, by simp⟩)
