/-! THE LAW'S CALLS, each with its answer as a function of the state. -/
theorem jH.imp {G : jG} {d mc ms : Nat} {y : MethodName} {Ts : List Cond} {As : List Value} {w0 : va_W} {post post' : Option Value → va_W → Prop} (h : jH G d y Ts As w0 mc ms post) (hi : ∀ rv w, post rv w → post' rv w) : jH G d y Ts As w0 mc ms post' := by
  intro sz p e ha hc hk s m args below hf happ hP hK
  obtain ⟨n, o, h1, h2, h3, hQ⟩ := h sz p e ha hc hk s m args below hf happ hP hK
  refine ⟨n, o, h1, h2, h3, ?_⟩
  rcases hQ with ⟨⟨⟨rv, w1, e1, e2, e3⟩, e4⟩, e5⟩ | hx
  · exact Or.inl ⟨⟨⟨rv, w1, e1, hi _ _ e2, e3⟩, e4⟩, e5⟩
  · exact Or.inr hx
/-- what each call asks of a state -/
def KS (V : Nat → Int32) (os : Nat → ofr) (o n : Nat) : Prop := V 2 = nI n ∧ n ≤ 7 ∧ V 4 = nI o ∧ o ≤ 6 ∧ ∀ j, j < o → okO (os j)
/-- a state that knows its best set -/
def ZS (V : Nat → Int32) (M : Nat → Nat → Int32) (os : Nat → ofr) (o n : Nat) : Prop := KS V os o n ∧ findF os o n (V, M) = (V, M) ∧ ∃ u9, V 9 = nI u9 ∧ u9 ≤ 210
theorem rx_KS {V : Nat → Int32} {M : Nat → Nat → Int32} {os : Nat → ofr} {V' : Nat → Int32} {M' : Nat → Nat → Int32} {t : Int64} {a o c : Nat} (h : RX V M os V' M' t a o c) : KS V os o (cb (M' 5) a) := ⟨h.1.2.2.1.1, h.1.2.2.1.2, h.1.2.2.2.1.1, h.1.2.2.2.1.2.2, RX_okO h⟩
theorem st_ZS {V : Nat → Int32} {M : Nat → Nat → Int32} {os : Nat → ofr} {V' : Nat → Int32} {M' : Nat → Nat → Int32} {t : Int64} {a o c : Nat} (h : ST V M os V' M' t a o c) : ZS V M os o (cb (M' 5) a) := by
  refine ⟨rx_KS h.1, st_id h _, ?_⟩
  obtain ⟨u9, h1, h2⟩ := ask_u9 h.1
  rw [st_id h] at h1
  exact ⟨u9, h1, h2⟩
def ansN (s : VM) (n : Nat) (x : Int32) : Int32 := if xpos s.2 x n = none then atF 7 (s.2 23) (posF (s.2 2) x 0 n) else -1001
def ansO (s : VM) (n : Nat) (x : Int32) : Int32 := if xpos s.2 x n = none then onF s.2 (posF (s.2 2) x 0 n) 0 7 else -1001
def ansB (s : VM) (x : Int32) : Int32 := if xsold s.2 x = none then atF 60 (s.2 28) x else -1001
def ansL (os : Nat → ofr) (o : Nat) (s : VM) (x : Int32) : Int32 := if xoff s.1 x = none then leftF os o (s.2 10) (s.1 0) x.toNatClampNeg else -1001
def ansU (s : VM) (x : Int32) : Int32 := if xoff s.1 x = none then timesV s.1 s.2 x else -1001
def ansR (os : Nat → ofr) (o : Nat) (s : VM) (x : Int32) : Int32 := if xoff s.1 x = none then whyV os o s x.toNatClampNeg (s.1 9).toNatClampNeg else -1001
theorem xpos_E {M : Nat → Nat → Int32} {x : Int32} {n : Nat} {E : String} (h : xpos M x n = some E) : E = "java/util/NoSuchElementException" := by
  unfold xpos at h
  split at h
  · cases h; rfl
  · cases h
theorem xsold_E {M : Nat → Nat → Int32} {x : Int32} {E : String} (h : xsold M x = some E) : E = "java/util/NoSuchElementException" := by
  unfold xsold at h
  split at h
  · cases h; rfl
  · cases h
theorem xoff_E {V : Nat → Int32} {x : Int32} {E : String} (h : xoff V x = some E) : E = "java/lang/IndexOutOfBoundsException" := by
  unfold xoff at h
  by_cases e : (if x < 0 then 0 else if V 4 ≤ x then 0 else 1 : Int32) = 0
  · rw [if_pos e] at h; cases h; rfl
  · rw [if_neg e] at h; cases h
theorem xput_E {V : Nat → Int32} {k p : Int32} {E : String} (h : xput V k p = some E) : E = "java/lang/IllegalArgumentException" ∨ E = "java/lang/IllegalStateException" := by
  unfold xput at h
  split at h
  · cases h; exact Or.inl rfl
  · split at h
    · cases h; exact Or.inl rfl
    · split at h
      · cases h; exact Or.inr rfl
      · cases h
theorem xcust_E {x : Int32} {E : String} (h : xcust x = some E) : E = "java/lang/IllegalArgumentException" := by
  unfold xcust at h
  split at h
  · cases h; rfl
  · cases h
theorem xback_E {M : Nat → Nat → Int32} {x : Int32} {E : String} (h : xback M x = some E) : E = "java/util/NoSuchElementException" ∨ E = "java/lang/IllegalStateException" := by
  unfold xback at h
  split at h
  · cases h; exact Or.inl rfl
  · split at h
    · cases h
    · cases h; exact Or.inr rfl
theorem xtry_E {V : Nat → Int32} {E : String} (h : xtry V = some E) : E = "java/lang/UnsupportedOperationException" := by
  unfold xtry at h
  split at h
  · cases h
  · cases h; rfl
theorem xsell_E {V : Nat → Int32} {E : String} (h : xsell V = some E) : E = "java/lang/IllegalStateException" := by
  unfold xsell at h
  split at h
  · cases h; rfl
  · cases h
theorem xnone_E {v : Int32} {E : String} (h : xnone v = some E) : E = "java/lang/ArithmeticException" := by
  unfold xnone at h
  split at h
  · cases h
  · cases h; rfl
theorem some_nn {α : Type} {x : Option α} {v : α} (h : x = some v) : ¬ x = none := fun e => by rw [h] at e; cases e
/-- between the law's steps: related to some picture, and nothing sold above its price -/
def IV (V : Nat → Int32) (M : Nat → Nat → Int32) (os : Nat → ofr) (o a : Nat) : Prop := (∃ (V' : Nat → Int32) (M' : Nat → Nat → Int32) (t : Int64) (c : Nat), RX V M os V' M' t a o c) ∧ LE9 V
theorem neg_1001 : (-1001 : Int32) < 0 ∧ (-1002 : Int32) < 0 := by decide
theorem out_ge : ∀ n, n < 8 → ¬ nI n - 1 < -1000 := by decide +kernel
theorem nI_ge9 {n : Nat} (h : n < 2 ^ 31) : ¬ nI n < -1000 := by
  rw [Int32.lt_iff_toInt_lt, nI_toInt h]
  have e : (-1000 : Int32).toInt = -1000 := by decide
  omega
set_option maxHeartbeats 4000000 in
set_option maxRecDepth 100000 in
theorem d_item_n (G : jG) (hG : G.1.stackTraces = false) (ad : Nat → Nat) {V : Nat → Int32} {M : Nat → Nat → Int32} {os : Nat → ofr} {o : Nat} {n : Nat} (hZ : ZS V M os o n) (x : Int32) : jH G 31 yL_item wsL_item [.ref (ad 0), .int x, .int 1] (wC G ad V M (enO ad o) (wO ad os o)) 1 6 (fun rv w => rv = some (.int (ansN (V, M) n x)) ∧ w = (wC G ad V M (enO ad o) (wO ad os o))) := by
  obtain ⟨⟨hsz, hn, hso, ho6, hos⟩, hid, u9, h9, hu⟩ := hZ
  refine (c_L_item_n G (wCg0 G ad V M (enO ad o) (wO ad os o)) x (c_X11_netPrice G hG ad V M os o x n hsz hn hso ho6 hos) (fun rv w1 hp => ⟨_, hp.2.1⟩) (fun E hE => xpos_E hE)).imp (fun rv w hp => ?_)
  rcases hp with ⟨h1, h2, h3⟩ | ⟨E, h1, ⟨-, h2⟩, h3⟩
  · rw [hid] at h2 h3
    exact ⟨h2.trans (congrArg (fun z => some (Value.int z)) (show _ = ansN (V, M) n x from by exact (if_pos h1).symm)), h3⟩
  · exact ⟨h2.trans (congrArg (fun z => some (Value.int z)) (show _ = ansN (V, M) n x from (if_neg (some_nn h1)).symm)), h3⟩
set_option maxHeartbeats 4000000 in
set_option maxRecDepth 100000 in
theorem d_item_o (G : jG) (hG : G.1.stackTraces = false) (ad : Nat → Nat) {V : Nat → Int32} {M : Nat → Nat → Int32} {os : Nat → ofr} {o : Nat} {n : Nat} (hZ : ZS V M os o n) (x : Int32) : jH G 31 yL_item wsL_item [.ref (ad 0), .int x, .int 0] (wC G ad V M (enO ad o) (wO ad os o)) 1 6 (fun rv w => rv = some (.int (ansO (V, M) n x)) ∧ w = (wC G ad V M (enO ad o) (wO ad os o))) := by
  obtain ⟨⟨hsz, hn, hso, ho6, hos⟩, hid, u9, h9, hu⟩ := hZ
  refine (c_L_item_o G (wCg0 G ad V M (enO ad o) (wO ad os o)) x (c_X11_offerOf G hG ad V M os o x n hsz hn hso ho6 hos) (fun rv w1 hp => ⟨_, hp.2.1⟩) (fun E hE => xpos_E hE)).imp (fun rv w hp => ?_)
  rcases hp with ⟨h1, h2, h3⟩ | ⟨E, h1, ⟨-, h2⟩, h3⟩
  · rw [hid] at h2 h3
    exact ⟨h2.trans (congrArg (fun z => some (Value.int z)) (show _ = ansO (V, M) n x from by exact (if_pos h1).symm)), h3⟩
  · exact ⟨h2.trans (congrArg (fun z => some (Value.int z)) (show _ = ansO (V, M) n x from (if_neg (some_nn h1)).symm)), h3⟩
set_option maxHeartbeats 4000000 in
set_option maxRecDepth 100000 in
theorem d_of_l (G : jG) (hG : G.1.stackTraces = false) (ad : Nat → Nat) {V : Nat → Int32} {M : Nat → Nat → Int32} {os : Nat → ofr} {o : Nat} {n : Nat} (hZ : ZS V M os o n) (x : Int32) : jH G 31 yL_of wsL_of [.ref (ad 0), .int x, .int 108] (wC G ad V M (enO ad o) (wO ad os o)) 1 6 (fun rv w => rv = some (.int (ansL os o (V, M) x)) ∧ w = (wC G ad V M (enO ad o) (wO ad os o))) := by
  obtain ⟨⟨hsz, hn, hso, ho6, hos⟩, hid, u9, h9, hu⟩ := hZ
  refine (c_L_of_l G (wCg0 G ad V M (enO ad o) (wO ad os o)) x (c_X11_left G hG ad V M os o x hso ho6 hos) (fun rv w1 hp => ⟨_, hp.2.1⟩) (fun E hE => xoff_E hE)).imp (fun rv w hp => ?_)
  rcases hp with ⟨h1, h2, h3⟩ | ⟨E, h1, ⟨-, h2⟩, h3⟩
  · skip
    exact ⟨h2.trans (congrArg (fun z => some (Value.int z)) (show _ = ansL os o (V, M) x from by exact (if_pos h1).symm)), h3⟩
  · exact ⟨h2.trans (congrArg (fun z => some (Value.int z)) (show _ = ansL os o (V, M) x from (if_neg (some_nn h1)).symm)), h3⟩
set_option maxHeartbeats 4000000 in
set_option maxRecDepth 100000 in
theorem d_of_u (G : jG) (hG : G.1.stackTraces = false) (ad : Nat → Nat) {V : Nat → Int32} {M : Nat → Nat → Int32} {os : Nat → ofr} {o : Nat} {n : Nat} (hZ : ZS V M os o n) (x : Int32) : jH G 31 yL_of wsL_of [.ref (ad 0), .int x, .int 117] (wC G ad V M (enO ad o) (wO ad os o)) 1 6 (fun rv w => rv = some (.int (ansU (V, M) x)) ∧ w = (wC G ad V M (enO ad o) (wO ad os o))) := by
  obtain ⟨⟨hsz, hn, hso, ho6, hos⟩, hid, u9, h9, hu⟩ := hZ
  refine (c_L_of_u G (wCg0 G ad V M (enO ad o) (wO ad os o)) x (c_X11_uses G hG ad V M os o x n hsz hn hso ho6 hos) (fun rv w1 hp => ⟨_, hp.2.1⟩) (fun E hE => xoff_E hE)).imp (fun rv w hp => ?_)
  rcases hp with ⟨h1, h2, h3⟩ | ⟨E, h1, ⟨-, h2⟩, h3⟩
  · rw [hid] at h2 h3
    exact ⟨h2.trans (congrArg (fun z => some (Value.int z)) (show _ = ansU (V, M) x from by exact (if_pos h1).symm)), h3⟩
  · exact ⟨h2.trans (congrArg (fun z => some (Value.int z)) (show _ = ansU (V, M) x from (if_neg (some_nn h1)).symm)), h3⟩
set_option maxHeartbeats 4000000 in
set_option maxRecDepth 100000 in
theorem d_of_r (G : jG) (hG : G.1.stackTraces = false) (ad : Nat → Nat) {V : Nat → Int32} {M : Nat → Nat → Int32} {os : Nat → ofr} {o : Nat} {n : Nat} (hZ : ZS V M os o n) (x : Int32) : jH G 31 yL_of wsL_of [.ref (ad 0), .int x, .int 114] (wC G ad V M (enO ad o) (wO ad os o)) 1 6 (fun rv w => rv = some (.int (ansR os o (V, M) x)) ∧ w = (wC G ad V M (enO ad o) (wO ad os o))) := by
  obtain ⟨⟨hsz, hn, hso, ho6, hos⟩, hid, u9, h9, hu⟩ := hZ
  refine (c_L_of_r G (wCg0 G ad V M (enO ad o) (wO ad os o)) x (c_X11_reason G hG ad V M os o x u9 n hsz hn hso ho6 hos (by rw [hid]; exact h9) hu) (fun rv w1 hp => ⟨_, hp.2.1⟩) (fun E hE => xoff_E hE)).imp (fun rv w hp => ?_)
  rcases hp with ⟨h1, h2, h3⟩ | ⟨E, h1, ⟨-, h2⟩, h3⟩
  · rw [hid] at h2 h3
    exact ⟨h2.trans (congrArg (fun z => some (Value.int z)) (show _ = ansR os o (V, M) x from by refine Eq.trans ?_ (if_pos h1).symm; show _ = whyV os o (V, M) x.toNatClampNeg (V 9).toNatClampNeg; rw [h9, nI_clamp (by omega)])), h3⟩
  · exact ⟨h2.trans (congrArg (fun z => some (Value.int z)) (show _ = ansR os o (V, M) x from (if_neg (some_nn h1)).symm)), h3⟩
set_option maxHeartbeats 4000000 in
set_option maxRecDepth 100000 in
theorem d_buyer (G : jG) (hG : G.1.stackTraces = false) (ad : Nat → Nat) {V : Nat → Int32} {M : Nat → Nat → Int32} {os : Nat → ofr} {o : Nat} {n : Nat} (hZ : ZS V M os o n) (x : Int32) : jH G 31 yL_buyer wsL_buyer [.ref (ad 0), .int x] (wC G ad V M (enO ad o) (wO ad os o)) 1 6 (fun rv w => rv = some (.int (ansB (V, M) x)) ∧ w = (wC G ad V M (enO ad o) (wO ad os o))) := by
  obtain ⟨⟨hsz, hn, hso, ho6, hos⟩, hid, u9, h9, hu⟩ := hZ
  refine (c_L_buyer G (wCg0 G ad V M (enO ad o) (wO ad os o)) x (c_X11_soldTo G hG ad V M (enO ad o) (wO ad os o) x) (fun rv w1 hp => ⟨_, hp.2.1⟩) (fun E hE => xsold_E hE)).imp (fun rv w hp => ?_)
  rcases hp with ⟨h1, h2, h3⟩ | ⟨E, h1, ⟨-, h2⟩, h3⟩
  · skip
    exact ⟨h2.trans (congrArg (fun z => some (Value.int z)) (show _ = ansB (V, M) x from by exact (if_pos h1).symm)), h3⟩
  · exact ⟨h2.trans (congrArg (fun z => some (Value.int z)) (show _ = ansB (V, M) x from (if_neg (some_nn h1)).symm)), h3⟩
set_option maxHeartbeats 4000000 in
set_option maxRecDepth 100000 in
theorem d_tries (G : jG) (hG : G.1.stackTraces = false) (ad : Nat → Nat) {V : Nat → Int32} {M : Nat → Nat → Int32} {os : Nat → ofr} {V' : Nat → Int32} {M' : Nat → Nat → Int32} {t : Int64} {a o c : Nat} (h : ST V M os V' M' t a o c) : jH G 31 yL_tries wsL_tries [.ref (ad 0)] (wC G ad V M (enO ad o) (wO ad os o)) 1 6 (fun rv w => ∃ (W : Nat → Int32) (N : Nat → Nat → Int32), rv = some (.int (if (cb (M' 5) a) ≤ 5 then V 6 else -1001)) ∧ w = (wC G ad W N (enO ad o) (wO ad os o)) ∧ ST W N os V' M' t a o c) := by
  obtain ⟨⟨hsz, hn, hso, ho6, hos⟩, hid, -⟩ := st_ZS h
  have hst := ask_st h.1
  rw [hid] at hst
  refine (c_L_tries G (wCg0 G ad V M (enO ad o) (wO ad os o)) (c_X11_bestByTrying G hG ad V M os o (stF M) (cb (M' 5) a) hsz hn hso ho6 hos (by rw [hid]; exact hst)) (fun rv w1 hp => ⟨_, hp.2.1⟩) (fun E hE => xtry_E hE)).imp (fun rv w hp => ?_)
  rcases hp with ⟨h1, h2, h3⟩ | ⟨E, h1, ⟨-, h2⟩, h3⟩
  · rw [hid] at h2 h3
    have h5 : (cb (M' 5) a) ≤ 5 := by
      unfold xtry at h1
      split at h1
      · rename_i hle
        rw [hsz] at hle
        exact (nI_leI (a := (cb (M' 5) a)) (b := 5) (by omega) (by decide)).mp hle
      · cases h1
    exact ⟨_, _, by rw [if_pos h5, h2, (st_try h).1], h3, (st_try h).2⟩
  · have h5 : ¬ (cb (M' 5) a) ≤ 5 := fun hle => by
      unfold xtry at h1
      rw [if_pos (show V 2 ≤ 5 by rw [hsz]; exact (nI_leI (a := (cb (M' 5) a)) (b := 5) (by omega) (by decide)).mpr hle)] at h1
      cases h1
    exact ⟨V, M, by rw [if_neg h5]; exact h2, h3, h⟩
set_option maxHeartbeats 4000000 in
set_option maxRecDepth 100000 in
theorem d_put (G : jG) (hG : G.1.stackTraces = false) (ad : Nat → Nat) {V : Nat → Int32} {M : Nat → Nat → Int32} {os : Nat → ofr} {V' : Nat → Int32} {M' : Nat → Nat → Int32} {t : Int64} {a o c : Nat} (h : RX V M os V' M' t a o c) (hL : LE9 V) (k p : Int32) : jH G 31 yL_put wsL_put [.ref (ad 0), .int k, .int p] (wC G ad V M (enO ad o) (wO ad os o)) 1 6 (fun rv w => (∃ (W : Nat → Int32) (N : Nat → Nat → Int32) (W' : Nat → Int32) (N' : Nat → Nat → Int32), rv = some (.int (nI a)) ∧ w = (wC G ad W N (enO ad o) (wO ad os o)) ∧ RX W N os W' N' t (a + 1) o c ∧ N' 5 a = 98 ∧ LE9 W) ∨ (∃ z : Int32, rv = some (.int z) ∧ z < 0 ∧ w = (wC G ad V M (enO ad o) (wO ad os o)))) := by
  refine (c_L_put G (wCg0 G ad V M (enO ad o) (wO ad os o)) k p (c_X11_put G hG ad V M (enO ad o) (wO ad os o) k p) (fun rv w1 hp => ⟨_, hp.2.1⟩) (fun E hE => xput_E hE)).imp (fun rv w hp => ?_)
  rcases hp with ⟨h1, h2, h3⟩ | ⟨E, h1, h2, h3⟩
  · obtain ⟨e4, -, hR⟩ := (cl_put h k p).1 h1
    exact Or.inl ⟨_, _, _, _, by rw [h2, h.1.2.1.1], h3, hR, st_put e4, LE9_of hL rfl rfl⟩
  · rcases h2 with ⟨-, h2⟩ | ⟨-, h2⟩
    · exact Or.inr ⟨_, h2, neg_1001.1, h3⟩
    · exact Or.inr ⟨_, h2, neg_1001.2, h3⟩
theorem d_put_no (G : jG) (hG : G.1.stackTraces = false) (ad : Nat → Nat) {V : Nat → Int32} {M : Nat → Nat → Int32} {os : Nat → ofr} {o : Nat} (k p : Int32) (hx : xput V k p = some "java/lang/IllegalArgumentException") : jH G 31 yL_put wsL_put [.ref (ad 0), .int k, .int p] (wC G ad V M (enO ad o) (wO ad os o)) 1 6 (fun rv w => rv = some (.int (-1001)) ∧ w = (wC G ad V M (enO ad o) (wO ad os o))) := by
  refine (c_L_put G (wCg0 G ad V M (enO ad o) (wO ad os o)) k p (c_X11_put G hG ad V M (enO ad o) (wO ad os o) k p) (fun rv w1 hp => ⟨_, hp.2.1⟩) (fun E hE => xput_E hE)).imp (fun rv w hp => ?_)
  rcases hp with ⟨h1, h2, h3⟩ | ⟨E, h1, h2, h3⟩
  · rw [hx] at h1; cases h1
  · rcases h2 with ⟨-, h2⟩ | ⟨e, -⟩
    · exact ⟨h2, h3⟩
    · rw [hx, e] at h1; exact absurd (Option.some.inj h1) (by decide)
set_option maxHeartbeats 4000000 in
set_option maxRecDepth 100000 in
theorem d_out (G : jG) (hG : G.1.stackTraces = false) (ad : Nat → Nat) {V : Nat → Int32} {M : Nat → Nat → Int32} {os : Nat → ofr} {V' : Nat → Int32} {M' : Nat → Nat → Int32} {t : Int64} {a o c : Nat} (h : RX V M os V' M' t a o c) (hL : LE9 V) (x : Int32) : jH G 31 yL_out wsL_out [.ref (ad 0), .int x] (wC G ad V M (enO ad o) (wO ad os o)) 1 6 (fun rv w => (∃ (W : Nat → Int32) (N : Nat → Nat → Int32) (z : Int32), rv = some (.int z) ∧ ¬ z < -1000 ∧ w = (wC G ad W N (enO ad o) (wO ad os o)) ∧ IV W N os o a) ∨ (∃ z : Int32, rv = some (.int z) ∧ z < 0 ∧ w = (wC G ad V M (enO ad o) (wO ad os o)))) := by
  obtain ⟨hsz, hn, hso, ho6, hos⟩ := rx_KS h
  refine (c_L_out G (wCg0 G ad V M (enO ad o) (wO ad os o)) x (c_X11_takeOut G hG ad V M (enO ad o) (wO ad os o) x (cb (M' 5) a) hsz hn) (fun rv w1 hp => ⟨_, hp.2.1⟩) (fun E hE => xpos_E hE)).imp (fun rv w hp => ?_)
  rcases hp with ⟨h1, h2, h3⟩ | ⟨E, h1, ⟨-, h2⟩, h3⟩
  · obtain ⟨-, -, hR⟩ := (cl_take h x).1 h1
    exact Or.inl ⟨_, _, _, h2, by rw [hsz]; exact out_ge (cb (M' 5) a) (by omega), h3, ⟨⟨_, _, _, _, hR⟩, LE9_of hL rfl rfl⟩⟩
  · exact Or.inr ⟨_, h2, neg_1001.1, h3⟩
theorem d_out_no (G : jG) (hG : G.1.stackTraces = false) (ad : Nat → Nat) {V : Nat → Int32} {M : Nat → Nat → Int32} {os : Nat → ofr} {o : Nat} {n : Nat} (hK : KS V os o n) (x : Int32) (hx : xpos M x n = some "java/util/NoSuchElementException") : jH G 31 yL_out wsL_out [.ref (ad 0), .int x] (wC G ad V M (enO ad o) (wO ad os o)) 1 6 (fun rv w => rv = some (.int (-1001)) ∧ w = (wC G ad V M (enO ad o) (wO ad os o))) := by
  obtain ⟨hsz, hn, hso, ho6, hos⟩ := hK
  refine (c_L_out G (wCg0 G ad V M (enO ad o) (wO ad os o)) x (c_X11_takeOut G hG ad V M (enO ad o) (wO ad os o) x n hsz hn) (fun rv w1 hp => ⟨_, hp.2.1⟩) (fun E hE => xpos_E hE)).imp (fun rv w hp => ?_)
  rcases hp with ⟨h1, h2, h3⟩ | ⟨E, h1, ⟨-, h2⟩, h3⟩
  · rw [hx] at h1; cases h1
  · exact ⟨h2, h3⟩
set_option maxHeartbeats 4000000 in
set_option maxRecDepth 100000 in
theorem d_cust (G : jG) (hG : G.1.stackTraces = false) (ad : Nat → Nat) {V : Nat → Int32} {M : Nat → Nat → Int32} {os : Nat → ofr} {V' : Nat → Int32} {M' : Nat → Nat → Int32} {t : Int64} {a o c : Nat} (h : RX V M os V' M' t a o c) (hL : LE9 V) (x : Int32) : jH G 31 yL_customer wsL_customer [.ref (ad 0), .int x] (wC G ad V M (enO ad o) (wO ad os o)) 1 6 (fun rv w => (∃ (W : Nat → Int32) (N : Nat → Nat → Int32) (z : Int32), rv = some (.int z) ∧ ¬ z < -1000 ∧ w = (wC G ad W N (enO ad o) (wO ad os o)) ∧ IV W N os o a) ∨ (∃ z : Int32, rv = some (.int z) ∧ z < 0 ∧ w = (wC G ad V M (enO ad o) (wO ad os o)))) := by
  refine (c_L_customer G (wCg0 G ad V M (enO ad o) (wO ad os o)) x (c_X11_setCustomer G hG ad V M (enO ad o) (wO ad os o) x) (fun rv w1 hp => ⟨_, hp.2.1⟩) (fun E hE => xcust_E hE)).imp (fun rv w hp => ?_)
  rcases hp with ⟨h1, h2, h3⟩ | ⟨E, h1, ⟨-, h2⟩, h3⟩
  · obtain ⟨-, -, c', hR⟩ := (cl_cust h x).1 h1
    have hc := h.1.1.2.2
    exact Or.inl ⟨_, _, _, h2, by rw [h.1.1.1]; exact nI_ge9 (by omega), h3, ⟨⟨_, _, _, _, hR⟩, LE9_of hL rfl rfl⟩⟩
  · exact Or.inr ⟨_, h2, neg_1001.1, h3⟩
theorem d_cust_no (G : jG) (hG : G.1.stackTraces = false) (ad : Nat → Nat) {V : Nat → Int32} {M : Nat → Nat → Int32} {os : Nat → ofr} {o : Nat} (x : Int32) (hx : xcust x = some "java/lang/IllegalArgumentException") : jH G 31 yL_customer wsL_customer [.ref (ad 0), .int x] (wC G ad V M (enO ad o) (wO ad os o)) 1 6 (fun rv w => rv = some (.int (-1001)) ∧ w = (wC G ad V M (enO ad o) (wO ad os o))) := by
  refine (c_L_customer G (wCg0 G ad V M (enO ad o) (wO ad os o)) x (c_X11_setCustomer G hG ad V M (enO ad o) (wO ad os o) x) (fun rv w1 hp => ⟨_, hp.2.1⟩) (fun E hE => xcust_E hE)).imp (fun rv w hp => ?_)
  rcases hp with ⟨h1, h2, h3⟩ | ⟨E, h1, ⟨-, h2⟩, h3⟩
  · rw [hx] at h1; cases h1
  · exact ⟨h2, h3⟩
theorem xaddP_E {V : Nat → Int32} {x0 x1 l g : Int32} {E : String} (h : xaddP V x0 x1 l g = some E) : E = "java/lang/IllegalArgumentException" ∨ E = "java/lang/IllegalStateException" := by
  unfold xaddP at h
  repeat' split at h
  all_goals first | (cases h; exact Or.inl rfl) | (cases h; exact Or.inr rfl) | cases h
set_option maxHeartbeats 4000000 in
set_option maxRecDepth 100000 in
theorem d_offer_p (G : jG) (hG : G.1.stackTraces = false) (ad : Nat → Nat) {V : Nat → Int32} {M : Nat → Nat → Int32} {os : Nat → ofr} {V' : Nat → Int32} {M' : Nat → Nat → Int32} {t : Int64} {a o c : Nat} (h : RX V M os V' M' t a o c) (hL : LE9 V) {qn K : Nat} {f : Nat → Int32} (hN0 : vp_in 0 K) (hN1 : vp_in 1 K) (l g : Int32) : jH G 31 yL_offer wsL_offer [.ref (ad 0), .int 112, .ref qn, .int l, .int g] ((qn, .inl (G.2.2 0, K, .inl f)) :: (wC G ad V M (enO ad o) (wO ad os o))) 1 6 (fun rv w => (∃ (W : Nat → Int32) (N : Nat → Nat → Int32) (W' : Nat → Int32) (N' : Nat → Nat → Int32) (os' : Nat → ofr) (q : Nat), rv = some (.int (nI o)) ∧ w = (qn, .inl (G.2.2 0, K, .inl f)) :: (wC G (adU ad o q) W N (enO (adU ad o q) (o + 1)) (wO (adU ad o q) os' (o + 1))) ∧ RX W N os' W' N' t a (o + 1) c ∧ addN o M' N' ∧ LE9 W ∧ (∀ j, j < o → os' j = os j) ∧ (os' o).2 1 = g) ∨ (∃ z : Int32, rv = some (.int z) ∧ z < 0 ∧ w = (qn, .inl (G.2.2 0, K, .inl f)) :: (wC G ad V M (enO ad o) (wO ad os o)))) := by
  obtain ⟨hsz, hn, hso, ho6, hos⟩ := rx_KS h
  refine (c_L_offer_p G (wCg0 G ad V M (enO ad o) (wO ad os o)) hN0 hN1 l g (c_X11_addPercentage G hG ad V M os o (f 0) (f 1) l g hso ho6 hos) (fun rv w1 hp => ⟨_, hp.2.1⟩) (fun E hE => xaddP_E hE)).imp (fun rv w hp => ?_)
  rcases hp with ⟨w1, ⟨h1, h2, q, h3⟩, h4⟩ | ⟨E, h1, h2, h3⟩
  · obtain ⟨e4, -, hR⟩ := (cl_pct h (f 0) (f 1) l g).1 h1
    have ho : o < 6 := by
      have := hR.1.2.2.2.1.2.2
      omega
    exact Or.inl ⟨_, _, _, _, osU os o (ofr4 8 l g (f 0) (f 1)), q, h2, by rw [h4, h3], hR, addN_madd e4, LE9_of hL rfl rfl, fun j hj => if_neg (by omega), congrArg (fun z : ofr => z.2 1) (show osU os o (ofr4 8 l g (f 0) (f 1)) o = ofr4 8 l g (f 0) (f 1) from if_pos rfl)⟩
  · rcases h2 with ⟨-, h2⟩ | ⟨-, h2⟩
    · exact Or.inr ⟨_, h2, neg_1001.1, h3⟩
    · exact Or.inr ⟨_, h2, neg_1001.2, h3⟩
theorem d_offer_p_no (G : jG) (hG : G.1.stackTraces = false) (ad : Nat → Nat) {V : Nat → Int32} {M : Nat → Nat → Int32} {os : Nat → ofr} {o : Nat} {n : Nat} (hK : KS V os o n) {qn K : Nat} {f : Nat → Int32} (hN0 : vp_in 0 K) (hN1 : vp_in 1 K) (l g : Int32) (hx : xaddP V (f 0) (f 1) l g = some "java/lang/IllegalArgumentException") : jH G 31 yL_offer wsL_offer [.ref (ad 0), .int 112, .ref qn, .int l, .int g] ((qn, .inl (G.2.2 0, K, .inl f)) :: (wC G ad V M (enO ad o) (wO ad os o))) 1 6 (fun rv w => rv = some (.int (-1001)) ∧ w = (qn, .inl (G.2.2 0, K, .inl f)) :: (wC G ad V M (enO ad o) (wO ad os o))) := by
  obtain ⟨hsz, hn, hso, ho6, hos⟩ := hK
  refine (c_L_offer_p G (wCg0 G ad V M (enO ad o) (wO ad os o)) hN0 hN1 l g (c_X11_addPercentage G hG ad V M os o (f 0) (f 1) l g hso ho6 hos) (fun rv w1 hp => ⟨_, hp.2.1⟩) (fun E hE => xaddP_E hE)).imp (fun rv w hp => ?_)
  rcases hp with ⟨w1, ⟨h1, h2, q, h3⟩, h4⟩ | ⟨E, h1, h2, h3⟩
  · rw [hx] at h1; cases h1
  · rcases h2 with ⟨-, h2⟩ | ⟨e, -⟩
    · exact ⟨h2, h3⟩
    · rw [hx, e] at h1; exact absurd (Option.some.inj h1) (by decide)
theorem xaddF_E {V : Nat → Int32} {x0 x1 l g : Int32} {E : String} (h : xaddF V x0 x1 l g = some E) : E = "java/lang/IllegalArgumentException" ∨ E = "java/lang/IllegalStateException" := by
  unfold xaddF at h
  repeat' split at h
  all_goals first | (cases h; exact Or.inl rfl) | (cases h; exact Or.inr rfl) | cases h
set_option maxHeartbeats 4000000 in
set_option maxRecDepth 100000 in
theorem d_offer_f (G : jG) (hG : G.1.stackTraces = false) (ad : Nat → Nat) {V : Nat → Int32} {M : Nat → Nat → Int32} {os : Nat → ofr} {V' : Nat → Int32} {M' : Nat → Nat → Int32} {t : Int64} {a o c : Nat} (h : RX V M os V' M' t a o c) (hL : LE9 V) {qn K : Nat} {f : Nat → Int32} (hN0 : vp_in 0 K) (hN1 : vp_in 1 K) (l g : Int32) : jH G 31 yL_offer wsL_offer [.ref (ad 0), .int 102, .ref qn, .int l, .int g] ((qn, .inl (G.2.2 0, K, .inl f)) :: (wC G ad V M (enO ad o) (wO ad os o))) 1 6 (fun rv w => (∃ (W : Nat → Int32) (N : Nat → Nat → Int32) (W' : Nat → Int32) (N' : Nat → Nat → Int32) (os' : Nat → ofr) (q : Nat), rv = some (.int (nI o)) ∧ w = (qn, .inl (G.2.2 0, K, .inl f)) :: (wC G (adU ad o q) W N (enO (adU ad o q) (o + 1)) (wO (adU ad o q) os' (o + 1))) ∧ RX W N os' W' N' t a (o + 1) c ∧ addN o M' N' ∧ LE9 W ∧ (∀ j, j < o → os' j = os j) ∧ (os' o).2 1 = g) ∨ (∃ z : Int32, rv = some (.int z) ∧ z < 0 ∧ w = (qn, .inl (G.2.2 0, K, .inl f)) :: (wC G ad V M (enO ad o) (wO ad os o)))) := by
  obtain ⟨hsz, hn, hso, ho6, hos⟩ := rx_KS h
  refine (c_L_offer_f G (wCg0 G ad V M (enO ad o) (wO ad os o)) hN0 hN1 l g (c_X11_addFreeItem G hG ad V M os o (f 0) (f 1) l g hso ho6 hos) (fun rv w1 hp => ⟨_, hp.2.1⟩) (fun E hE => xaddF_E hE)).imp (fun rv w hp => ?_)
  rcases hp with ⟨w1, ⟨h1, h2, q, h3⟩, h4⟩ | ⟨E, h1, h2, h3⟩
  · obtain ⟨e4, -, hR⟩ := (cl_free h (f 0) (f 1) l g).1 h1
    have ho : o < 6 := by
      have := hR.1.2.2.2.1.2.2
      omega
    exact Or.inl ⟨_, _, _, _, osU os o (ofr4 5 l g (f 0) (f 1)), q, h2, by rw [h4, h3], hR, addN_madd e4, LE9_of hL rfl rfl, fun j hj => if_neg (by omega), congrArg (fun z : ofr => z.2 1) (show osU os o (ofr4 5 l g (f 0) (f 1)) o = ofr4 5 l g (f 0) (f 1) from if_pos rfl)⟩
  · rcases h2 with ⟨-, h2⟩ | ⟨-, h2⟩
    · exact Or.inr ⟨_, h2, neg_1001.1, h3⟩
    · exact Or.inr ⟨_, h2, neg_1001.2, h3⟩
theorem d_offer_f_no (G : jG) (hG : G.1.stackTraces = false) (ad : Nat → Nat) {V : Nat → Int32} {M : Nat → Nat → Int32} {os : Nat → ofr} {o : Nat} {n : Nat} (hK : KS V os o n) {qn K : Nat} {f : Nat → Int32} (hN0 : vp_in 0 K) (hN1 : vp_in 1 K) (l g : Int32) (hx : xaddF V (f 0) (f 1) l g = some "java/lang/IllegalArgumentException") : jH G 31 yL_offer wsL_offer [.ref (ad 0), .int 102, .ref qn, .int l, .int g] ((qn, .inl (G.2.2 0, K, .inl f)) :: (wC G ad V M (enO ad o) (wO ad os o))) 1 6 (fun rv w => rv = some (.int (-1001)) ∧ w = (qn, .inl (G.2.2 0, K, .inl f)) :: (wC G ad V M (enO ad o) (wO ad os o))) := by
  obtain ⟨hsz, hn, hso, ho6, hos⟩ := hK
  refine (c_L_offer_f G (wCg0 G ad V M (enO ad o) (wO ad os o)) hN0 hN1 l g (c_X11_addFreeItem G hG ad V M os o (f 0) (f 1) l g hso ho6 hos) (fun rv w1 hp => ⟨_, hp.2.1⟩) (fun E hE => xaddF_E hE)).imp (fun rv w hp => ?_)
  rcases hp with ⟨w1, ⟨h1, h2, q, h3⟩, h4⟩ | ⟨E, h1, h2, h3⟩
  · rw [hx] at h1; cases h1
  · rcases h2 with ⟨-, h2⟩ | ⟨e, -⟩
    · exact ⟨h2, h3⟩
    · rw [hx, e] at h1; exact absurd (Option.some.inj h1) (by decide)
theorem xaddB_E {V : Nat → Int32} {x0 x1 x2 x3 l g : Int32} {E : String} (h : xaddB V x0 x1 x2 x3 l g = some E) : E = "java/lang/IllegalArgumentException" ∨ E = "java/lang/IllegalStateException" := by
  unfold xaddB at h
  repeat' split at h
  all_goals first | (cases h; exact Or.inl rfl) | (cases h; exact Or.inr rfl) | cases h
set_option maxHeartbeats 4000000 in
set_option maxRecDepth 100000 in
theorem d_offer_b (G : jG) (hG : G.1.stackTraces = false) (ad : Nat → Nat) {V : Nat → Int32} {M : Nat → Nat → Int32} {os : Nat → ofr} {V' : Nat → Int32} {M' : Nat → Nat → Int32} {t : Int64} {a o c : Nat} (h : RX V M os V' M' t a o c) (hL : LE9 V) {qn K : Nat} {f : Nat → Int32} (hN0 : vp_in 0 K) (hN1 : vp_in 1 K) (hN2 : vp_in 2 K) (hN3 : vp_in 3 K) (l g : Int32) : jH G 31 yL_offer wsL_offer [.ref (ad 0), .int 98, .ref qn, .int l, .int g] ((qn, .inl (G.2.2 0, K, .inl f)) :: (wC G ad V M (enO ad o) (wO ad os o))) 1 9 (fun rv w => (∃ (W : Nat → Int32) (N : Nat → Nat → Int32) (W' : Nat → Int32) (N' : Nat → Nat → Int32) (os' : Nat → ofr) (q : Nat), rv = some (.int (nI o)) ∧ w = (qn, .inl (G.2.2 0, K, .inl f)) :: (wC G (adU ad o q) W N (enO (adU ad o q) (o + 1)) (wO (adU ad o q) os' (o + 1))) ∧ RX W N os' W' N' t a (o + 1) c ∧ addN o M' N' ∧ LE9 W ∧ (∀ j, j < o → os' j = os j) ∧ (os' o).2 1 = g) ∨ (∃ z : Int32, rv = some (.int z) ∧ z < 0 ∧ w = (qn, .inl (G.2.2 0, K, .inl f)) :: (wC G ad V M (enO ad o) (wO ad os o)))) := by
  obtain ⟨hsz, hn, hso, ho6, hos⟩ := rx_KS h
  refine (c_L_offer_b G (wCg0 G ad V M (enO ad o) (wO ad os o)) hN0 hN1 hN2 hN3 l g (c_X11_addBundle G hG ad V M os o (f 0) (f 1) (f 2) (f 3) l g hso ho6 hos) (fun rv w1 hp => ⟨_, hp.2.1⟩) (fun E hE => xaddB_E hE)).imp (fun rv w hp => ?_)
  rcases hp with ⟨w1, ⟨h1, h2, q, h3⟩, h4⟩ | ⟨E, h1, h2, h3⟩
  · obtain ⟨e4, -, hR⟩ := (cl_bun h (f 0) (f 1) (f 2) (f 3) l g).1 h1
    have ho : o < 6 := by
      have := hR.1.2.2.2.1.2.2
      omega
    exact Or.inl ⟨_, _, _, _, osU os o (ofrB l g (f 0) (f 1) (f 2) (f 3)), q, h2, by rw [h4, h3], hR, addN_mbun ho e4, LE9_of hL rfl rfl, fun j hj => if_neg (by omega), congrArg (fun z : ofr => z.2 1) (show osU os o (ofrB l g (f 0) (f 1) (f 2) (f 3)) o = ofrB l g (f 0) (f 1) (f 2) (f 3) from if_pos rfl)⟩
  · rcases h2 with ⟨-, h2⟩ | ⟨-, h2⟩
    · exact Or.inr ⟨_, h2, neg_1001.1, h3⟩
    · exact Or.inr ⟨_, h2, neg_1001.2, h3⟩
theorem d_offer_b_no (G : jG) (hG : G.1.stackTraces = false) (ad : Nat → Nat) {V : Nat → Int32} {M : Nat → Nat → Int32} {os : Nat → ofr} {o : Nat} {n : Nat} (hK : KS V os o n) {qn K : Nat} {f : Nat → Int32} (hN0 : vp_in 0 K) (hN1 : vp_in 1 K) (hN2 : vp_in 2 K) (hN3 : vp_in 3 K) (l g : Int32) (hx : xaddB V (f 0) (f 1) (f 2) (f 3) l g = some "java/lang/IllegalArgumentException") : jH G 31 yL_offer wsL_offer [.ref (ad 0), .int 98, .ref qn, .int l, .int g] ((qn, .inl (G.2.2 0, K, .inl f)) :: (wC G ad V M (enO ad o) (wO ad os o))) 1 9 (fun rv w => rv = some (.int (-1001)) ∧ w = (qn, .inl (G.2.2 0, K, .inl f)) :: (wC G ad V M (enO ad o) (wO ad os o))) := by
  obtain ⟨hsz, hn, hso, ho6, hos⟩ := hK
  refine (c_L_offer_b G (wCg0 G ad V M (enO ad o) (wO ad os o)) hN0 hN1 hN2 hN3 l g (c_X11_addBundle G hG ad V M os o (f 0) (f 1) (f 2) (f 3) l g hso ho6 hos) (fun rv w1 hp => ⟨_, hp.2.1⟩) (fun E hE => xaddB_E hE)).imp (fun rv w hp => ?_)
  rcases hp with ⟨w1, ⟨h1, h2, q, h3⟩, h4⟩ | ⟨E, h1, h2, h3⟩
  · rw [hx] at h1; cases h1
  · rcases h2 with ⟨-, h2⟩ | ⟨e, -⟩
    · exact ⟨h2, h3⟩
    · rw [hx, e] at h1; exact absurd (Option.some.inj h1) (by decide)
theorem xaddT_E {V : Nat → Int32} {x0 x1 l g : Int32} {E : String} (h : xaddT V x0 x1 l g = some E) : E = "java/lang/IllegalArgumentException" ∨ E = "java/lang/IllegalStateException" := by
  unfold xaddT at h
  repeat' split at h
  all_goals first | (cases h; exact Or.inl rfl) | (cases h; exact Or.inr rfl) | cases h
set_option maxHeartbeats 4000000 in
set_option maxRecDepth 100000 in
theorem d_offer_t (G : jG) (hG : G.1.stackTraces = false) (ad : Nat → Nat) {V : Nat → Int32} {M : Nat → Nat → Int32} {os : Nat → ofr} {V' : Nat → Int32} {M' : Nat → Nat → Int32} {t : Int64} {a o c : Nat} (h : RX V M os V' M' t a o c) (hL : LE9 V) {qn K : Nat} {f : Nat → Int32} (hN0 : vp_in 0 K) (hN1 : vp_in 1 K) (l g : Int32) : jH G 31 yL_offer wsL_offer [.ref (ad 0), .int 116, .ref qn, .int l, .int g] ((qn, .inl (G.2.2 0, K, .inl f)) :: (wC G ad V M (enO ad o) (wO ad os o))) 1 6 (fun rv w => (∃ (W : Nat → Int32) (N : Nat → Nat → Int32) (W' : Nat → Int32) (N' : Nat → Nat → Int32) (os' : Nat → ofr) (q : Nat), rv = some (.int (nI o)) ∧ w = (qn, .inl (G.2.2 0, K, .inl f)) :: (wC G (adU ad o q) W N (enO (adU ad o q) (o + 1)) (wO (adU ad o q) os' (o + 1))) ∧ RX W N os' W' N' t a (o + 1) c ∧ addN o M' N' ∧ LE9 W ∧ (∀ j, j < o → os' j = os j) ∧ (os' o).2 1 = g) ∨ (∃ z : Int32, rv = some (.int z) ∧ z < 0 ∧ w = (qn, .inl (G.2.2 0, K, .inl f)) :: (wC G ad V M (enO ad o) (wO ad os o)))) := by
  obtain ⟨hsz, hn, hso, ho6, hos⟩ := rx_KS h
  refine (c_L_offer_t G (wCg0 G ad V M (enO ad o) (wO ad os o)) hN0 hN1 l g (c_X11_addThreshold G hG ad V M os o (f 0) (f 1) l g hso ho6 hos) (fun rv w1 hp => ⟨_, hp.2.1⟩) (fun E hE => xaddT_E hE)).imp (fun rv w hp => ?_)
  rcases hp with ⟨w1, ⟨h1, h2, q, h3⟩, h4⟩ | ⟨E, h1, h2, h3⟩
  · obtain ⟨e4, -, hR⟩ := (cl_thr h (f 0) (f 1) l g).1 h1
    have ho : o < 6 := by
      have := hR.1.2.2.2.1.2.2
      omega
    exact Or.inl ⟨_, _, _, _, osU os o (ofr4 10 l g (f 0) (f 1)), q, h2, by rw [h4, h3], hR, addN_madd e4, LE9_of hL rfl rfl, fun j hj => if_neg (by omega), congrArg (fun z : ofr => z.2 1) (show osU os o (ofr4 10 l g (f 0) (f 1)) o = ofr4 10 l g (f 0) (f 1) from if_pos rfl)⟩
  · rcases h2 with ⟨-, h2⟩ | ⟨-, h2⟩
    · exact Or.inr ⟨_, h2, neg_1001.1, h3⟩
    · exact Or.inr ⟨_, h2, neg_1001.2, h3⟩
theorem d_offer_t_no (G : jG) (hG : G.1.stackTraces = false) (ad : Nat → Nat) {V : Nat → Int32} {M : Nat → Nat → Int32} {os : Nat → ofr} {o : Nat} {n : Nat} (hK : KS V os o n) {qn K : Nat} {f : Nat → Int32} (hN0 : vp_in 0 K) (hN1 : vp_in 1 K) (l g : Int32) (hx : xaddT V (f 0) (f 1) l g = some "java/lang/IllegalArgumentException") : jH G 31 yL_offer wsL_offer [.ref (ad 0), .int 116, .ref qn, .int l, .int g] ((qn, .inl (G.2.2 0, K, .inl f)) :: (wC G ad V M (enO ad o) (wO ad os o))) 1 6 (fun rv w => rv = some (.int (-1001)) ∧ w = (qn, .inl (G.2.2 0, K, .inl f)) :: (wC G ad V M (enO ad o) (wO ad os o))) := by
  obtain ⟨hsz, hn, hso, ho6, hos⟩ := hK
  refine (c_L_offer_t G (wCg0 G ad V M (enO ad o) (wO ad os o)) hN0 hN1 l g (c_X11_addThreshold G hG ad V M os o (f 0) (f 1) l g hso ho6 hos) (fun rv w1 hp => ⟨_, hp.2.1⟩) (fun E hE => xaddT_E hE)).imp (fun rv w hp => ?_)
  rcases hp with ⟨w1, ⟨h1, h2, q, h3⟩, h4⟩ | ⟨E, h1, h2, h3⟩
  · rw [hx] at h1; cases h1
  · rcases h2 with ⟨-, h2⟩ | ⟨e, -⟩
    · exact ⟨h2, h3⟩
    · rw [hx, e] at h1; exact absurd (Option.some.inj h1) (by decide)
set_option maxHeartbeats 4000000 in
set_option maxRecDepth 100000 in
theorem d_sell (G : jG) (hG : G.1.stackTraces = false) (ad : Nat → Nat) {V : Nat → Int32} {M : Nat → Nat → Int32} {os : Nat → ofr} {V' : Nat → Int32} {M' : Nat → Nat → Int32} {t : Int64} {a o c : Nat} (h : ST V M os V' M' t a o c) (hL : LE9 V) : jH G 31 yL_sell wsL_sell [.ref (ad 0)] (wC G ad V M (enO ad o) (wO ad os o)) 1 6 (fun rv w => (∃ (W : Nat → Int32) (N : Nat → Nat → Int32) (tn : Nat → Nat), rv = some (.int (nI (sm (fl a o c M') (cb (M' 5) a)))) ∧ w = (wC G ad W N (enO ad o) (wO ad os o)) ∧ IV W N os o a ∧ W 2 = 0 ∧ (∀ j, j < o → timesV V M (nI j) = nI (tn j)) ∧ W 14 = V 14 + nI (sm tn o) ∧ (W 12).toInt64 - (W 13).toInt64 = ((V 12).toInt64 - (V 13).toInt64) + (nI (sm (fl a o c M') (cb (M' 5) a))).toInt64) ∨ (∃ z : Int32, rv = some (.int z) ∧ z < 0 ∧ w = (wC G ad V M (enO ad o) (wO ad os o)))) := by
  obtain ⟨⟨hsz, hn, hso, ho6, hos⟩, hid, -⟩ := st_ZS h
  refine (c_L_sell G (wCg0 G ad V M (enO ad o) (wO ad os o)) (c_X11_sell G hG ad V M os o (cb (M' 5) a) hsz hn hso ho6 hos) (fun rv w1 hp => ⟨_, hp.2.1⟩) (fun E hE => xsell_E hE)).imp (fun rv w hp => ?_)
  rcases hp with ⟨h1, h2, h3⟩ | ⟨E, h1, ⟨-, h2⟩, h3⟩
  · obtain ⟨-, -, hR⟩ := (cl_sell h.1).1 h1
    obtain ⟨tn, g1, g2, -, -, -, g6⟩ := st_sell h
    rw [hid] at h2
    exact Or.inl ⟨_, _, tn, by rw [h2]; exact congrArg (fun z => some (Value.int z)) (st_pay h), h3, ⟨⟨_, _, _, _, hR⟩, st_LE h hL⟩, g6, g1, g2, st_turn h⟩
  · exact Or.inr ⟨_, h2, neg_1001.1, h3⟩
theorem d_sell_no (G : jG) (hG : G.1.stackTraces = false) (ad : Nat → Nat) {V : Nat → Int32} {M : Nat → Nat → Int32} {os : Nat → ofr} {o : Nat} {n : Nat} (hK : KS V os o n) (hx : xsell V = some "java/lang/IllegalStateException") : jH G 31 yL_sell wsL_sell [.ref (ad 0)] (wC G ad V M (enO ad o) (wO ad os o)) 1 6 (fun rv w => rv = some (.int (-1001)) ∧ w = (wC G ad V M (enO ad o) (wO ad os o))) := by
  obtain ⟨hsz, hn, hso, ho6, hos⟩ := hK
  refine (c_L_sell G (wCg0 G ad V M (enO ad o) (wO ad os o)) (c_X11_sell G hG ad V M os o n hsz hn hso ho6 hos) (fun rv w1 hp => ⟨_, hp.2.1⟩) (fun E hE => xsell_E hE)).imp (fun rv w hp => ?_)
  rcases hp with ⟨h1, h2, h3⟩ | ⟨E, h1, ⟨-, h2⟩, h3⟩
  · rw [hx] at h1; cases h1
  · exact ⟨h2, h3⟩
set_option maxHeartbeats 4000000 in
set_option maxRecDepth 100000 in
theorem d_back (G : jG) (hG : G.1.stackTraces = false) (ad : Nat → Nat) {V : Nat → Int32} {M : Nat → Nat → Int32} {os : Nat → ofr} {V' : Nat → Int32} {M' : Nat → Nat → Int32} {t : Int64} {a o c : Nat} (h : RX V M os V' M' t a o c) (hL : LE9 V) (x : Int32) : jH G 31 yL_back wsL_back [.ref (ad 0), .int x] (wC G ad V M (enO ad o) (wO ad os o)) 1 6 (fun rv w => (∃ (W : Nat → Int32) (N : Nat → Nat → Int32) (u : Nat), rv = some (.int (nI u)) ∧ u ≤ 9999 ∧ w = (wC G ad W N (enO ad o) (wO ad os o)) ∧ IV W N os o a ∧ (W 12).toInt64 - (W 13).toInt64 = ((V 12).toInt64 - (V 13).toInt64) - (nI u).toInt64 ∧ xback N x = some "java/lang/IllegalStateException") ∨ (∃ z : Int32, rv = some (.int z) ∧ z < 0 ∧ w = (wC G ad V M (enO ad o) (wO ad os o)))) := by
  refine (c_L_back G (wCg0 G ad V M (enO ad o) (wO ad os o)) x (c_X11_giveBack G hG ad V M (enO ad o) (wO ad os o) x) (fun rv w1 hp => ⟨_, hp.2.1⟩) (fun E hE => xback_E hE)).imp (fun rv w hp => ?_)
  rcases hp with ⟨h1, h2, h3⟩ | ⟨E, h1, h2, h3⟩
  · obtain ⟨-, -, hR⟩ := (cl_back h x).1 h1
    obtain ⟨u, e1, e2, e3, e4, e5, e6⟩ := st_back h h1
    exact Or.inl ⟨_, _, u, by rw [h2, e1], e2, h3, ⟨⟨_, _, _, _, hR⟩, LE9_of hL e5 e4⟩, by rw [e3, e4]; exact st_kept h e2, e6⟩
  · rcases h2 with ⟨-, h2⟩ | ⟨-, h2⟩
    · exact Or.inr ⟨_, h2, neg_1001.1, h3⟩
    · exact Or.inr ⟨_, h2, neg_1001.2, h3⟩
theorem d_back2 (G : jG) (hG : G.1.stackTraces = false) (ad : Nat → Nat) {V : Nat → Int32} {M : Nat → Nat → Int32} {os : Nat → ofr} {o : Nat} (x : Int32) (hx : xback M x = some "java/lang/IllegalStateException") : jH G 31 yL_back wsL_back [.ref (ad 0), .int x] (wC G ad V M (enO ad o) (wO ad os o)) 1 6 (fun rv w => rv = some (.int (-1002)) ∧ w = (wC G ad V M (enO ad o) (wO ad os o))) := by
  refine (c_L_back G (wCg0 G ad V M (enO ad o) (wO ad os o)) x (c_X11_giveBack G hG ad V M (enO ad o) (wO ad os o) x) (fun rv w1 hp => ⟨_, hp.2.1⟩) (fun E hE => xback_E hE)).imp (fun rv w hp => ?_)
  rcases hp with ⟨h1, h2, h3⟩ | ⟨E, h1, h2, h3⟩
  · rw [hx] at h1; cases h1
  · rcases h2 with ⟨e, -⟩ | ⟨-, h2⟩
    · rw [hx, e] at h1; exact absurd (Option.some.inj h1) (by decide)
    · exact ⟨h2, h3⟩
theorem d_back_no (G : jG) (hG : G.1.stackTraces = false) (ad : Nat → Nat) {V : Nat → Int32} {M : Nat → Nat → Int32} {os : Nat → ofr} {o : Nat} (x : Int32) (hx : xback M x = some "java/util/NoSuchElementException") : jH G 31 yL_back wsL_back [.ref (ad 0), .int x] (wC G ad V M (enO ad o) (wO ad os o)) 1 6 (fun rv w => rv = some (.int (-1001)) ∧ w = (wC G ad V M (enO ad o) (wO ad os o))) := by
  refine (c_L_back G (wCg0 G ad V M (enO ad o) (wO ad os o)) x (c_X11_giveBack G hG ad V M (enO ad o) (wO ad os o) x) (fun rv w1 hp => ⟨_, hp.2.1⟩) (fun E hE => xback_E hE)).imp (fun rv w hp => ?_)
  rcases hp with ⟨h1, h2, h3⟩ | ⟨E, h1, h2, h3⟩
  · rw [hx] at h1; cases h1
  · rcases h2 with ⟨-, h2⟩ | ⟨e, -⟩
    · exact ⟨h2, h3⟩
    · rw [hx, e] at h1; exact absurd (Option.some.inj h1) (by decide)
set_option maxHeartbeats 4000000 in
set_option maxRecDepth 100000 in
theorem d_share (G : jG) (hG : G.1.stackTraces = false) (ad : Nat → Nat) {V : Nat → Int32} {M : Nat → Nat → Int32} {os : Nat → ofr} {o : Nat} : jH G 31 yL_share wsL_share [.ref (ad 0)] (wC G ad V M (enO ad o) (wO ad os o)) 1 6 (fun rv w => rv = some (.float (if 0 < V 11 then FP.fdiv (FP.i2f (V 11 - V 12)) (FP.i2f (V 11)) else 3212836864)) ∧ w = (wC G ad V M (enO ad o) (wO ad os o))) := by
  refine (c_L_share G (wCg0 G ad V M (enO ad o) (wO ad os o)) (c_X11_discountShare G hG ad V M (enO ad o) (wO ad os o)) (fun rv w1 hp => ⟨_, hp.2.1⟩) (fun E hE => xnone_E hE)).imp (fun rv w hp => ?_)
  rcases hp with ⟨h1, h2, h3⟩ | ⟨E, h1, ⟨-, h2⟩, h3⟩
  · exact ⟨by rw [if_pos (by unfold xnone at h1; split at h1; assumption; cases h1)]; exact h2, h3⟩
  · exact ⟨by rw [if_neg (by unfold xnone at h1; split at h1; cases h1; assumption)]; exact h2, h3⟩
theorem d_mean (G : jG) (hG : G.1.stackTraces = false) (ad : Nat → Nat) {V : Nat → Int32} {M : Nat → Nat → Int32} {os : Nat → ofr} {o : Nat} : jH G 31 yL_mean wsL_mean [.ref (ad 0)] (wC G ad V M (enO ad o) (wO ad os o)) 1 6 (fun rv w => rv = some (.double (if 0 < V 10 then FP.ddiv (FP.i2d (V 12)) (FP.i2d (V 10)) else 13830554455654793216)) ∧ w = (wC G ad V M (enO ad o) (wO ad os o))) := by
  refine (c_L_mean G (wCg0 G ad V M (enO ad o) (wO ad os o)) (c_X11_meanNetPrice G hG ad V M (enO ad o) (wO ad os o)) (fun rv w1 hp => ⟨_, hp.2.1⟩) (fun E hE => xnone_E hE)).imp (fun rv w hp => ?_)
  rcases hp with ⟨h1, h2, h3⟩ | ⟨E, h1, ⟨-, h2⟩, h3⟩
  · exact ⟨by rw [if_pos (by unfold xnone at h1; split at h1; assumption; cases h1)]; exact h2, h3⟩
  · exact ⟨by rw [if_neg (by unfold xnone at h1; split at h1; cases h1; assumption)]; exact h2, h3⟩
