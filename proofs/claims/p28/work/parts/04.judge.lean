/-! A SMALL JUDGEMENT over the kit's W: the fixed things of a walk in one tuple, locals by place, the world as one list of cells. -/
set_option linter.unusedVariables false
abbrev jG : Type := Launch × va_G × (Nat → ClassId)
def jtys (cy : Nat → ClassId) : List (ClassId × FieldType) := [(cy 0, .int), (cy 1, .int), (cy 2, .boolean), (cy 3, .object "BasketOffers$Offer")]
abbrev jX : Type := Program × Env × Room × State × MethodId × Array Value × List Frame × Method × Code × (Nat → Prop) × (State → Prop)
/-- the locals, by their places -/
def jL (la : Array Slot) (ls : List (Option Value)) : Prop := la.size = ls.length ∧ lv_wf la ∧ ∀ (i : Nat) (v : Value), ls[i]? = some (some v) → la[i]? = some (.val v)
def jA : Nat → List (Option Value) → List (Nat × Value)
  | _, [] => []
  | i, some v :: r => (i, v) :: jA (i + 1) r
  | i, none :: r => jA (i + 1) r
theorem jA_of : ∀ (l : List (Option Value)) (i k : Nat) (v : Value), l[k]? = some (some v) → (i + k, v) ∈ jA i l
  | [], i, k, v, h => by simp at h
  | some a :: r, i, 0, v, h => by
    simp at h
    subst h
    exact List.mem_cons_self
  | some a :: r, i, k + 1, v, h => by
    have h1 : r[k]? = some (some v) := by simpa using h
    have h2 := jA_of r (i + 1) k v h1
    rw [show i + (k + 1) = i + 1 + k by omega]
    exact List.mem_cons_of_mem _ h2
  | none :: r, i, 0, v, h => by simp at h
  | none :: r, i, k + 1, v, h => by
    have h1 : r[k]? = some (some v) := by simpa using h
    have h2 := jA_of r (i + 1) k v h1
    rw [show i + (k + 1) = i + 1 + k by omega]
    exact h2
theorem jA_to : ∀ (l : List (Option Value)) (i : Nat) (q : Nat × Value), q ∈ jA i l → ∃ k, q.1 = i + k ∧ l[k]? = some (some q.2)
  | [], i, q, h => by cases h
  | some a :: r, i, q, h => by
    rcases List.mem_cons.mp h with rfl | h
    · exact ⟨0, rfl, rfl⟩
    · obtain ⟨k, h1, h2⟩ := jA_to r (i + 1) q h
      exact ⟨k + 1, by omega, by simpa using h2⟩
  | none :: r, i, q, h => by
    obtain ⟨k, h1, h2⟩ := jA_to r (i + 1) q h
    exact ⟨k + 1, by omega, by simpa using h2⟩
theorem jL.has {la : Array Slot} {ls : List (Option Value)} (h : jL la ls) : lv_has la ls.length (jA 0 ls) := by
  refine ⟨h.1, h.2.1, fun q hq => ?_⟩
  obtain ⟨k, h1, h2⟩ := jA_to ls 0 q hq
  rw [h1, Nat.zero_add]
  exact h.2.2 k q.2 h2
/-- no value of two places stands just before place i -/
def jok (ls : List (Option Value)) : Nat → Bool
  | 0 => true
  | j + 1 => match ls[j]? with
    | some (some v) => v.category == 1
    | _ => true
theorem jL.set {la la' : Array Slot} {ls : List (Option Value)} {i : Nat} {v : Value} (h : jL la ls) (hi : i < ls.length) (hok : jok ls i = true)
    (h' : lv_has la' ls.length ((i, v) :: (jA 0 ls).filter (fun q => !(q.1 == i) && !(q.1 + 1 == i && q.2.category == 2)))) : jL la' (ls.set i (some v)) := by
  refine ⟨by rw [List.length_set]; exact h'.1, h'.2.1, fun j x hj => ?_⟩
  by_cases e : j = i
  · subst e
    rw [List.getElem?_set_self hi] at hj
    cases hj
    exact h'.2.2 _ List.mem_cons_self
  · rw [List.getElem?_set_ne (Ne.symm e)] at hj
    refine h'.2.2 (j, x) (List.mem_cons_of_mem _ (List.mem_filter.mpr ⟨?_, ?_⟩))
    · have := jA_of ls 0 j x hj
      rwa [Nat.zero_add] at this
    · have h1 : (j == i) = false := by simp [e]
      by_cases e2 : j + 1 = i
      · subst e2
        have h2 : (x.category == 1) = true := by
          have h3 : (match ls[j]? with
            | some (some v) => v.category == 1
            | _ => true) = true := hok
          rw [hj] at h3
          exact h3
        have h4 : x.category = 1 := by simpa using h2
        simp [h4]
      · simp [e, e2]
/-- the class links of nest mates -/
def jNestL : List (String × Nat × MethodName × String) := [("BasketOffers", 18, ⟨"BasketOffers$OfferBook", "<init>", "()V"⟩, "BasketOffers"), ("BasketOffers", 43, ⟨"BasketOffers$Ledger", "<init>", "()V"⟩, "BasketOffers"), ("BasketOffers", 9, ⟨"BasketOffers$Basket", "<init>", "()V"⟩, "BasketOffers"), ("BasketOffers$Basket", 28, ⟨"BasketOffers", "setAt", "([III)V"⟩, "BasketOffers"), ("BasketOffers$Basket", 32, ⟨"BasketOffers", "at", "([II)I"⟩, "BasketOffers"), ("BasketOffers$Basket", 36, ⟨"BasketOffers", "bitOf", "(I)I"⟩, "BasketOffers"), ("BasketOffers$Basket", 40, ⟨"BasketOffers", "isIn", "(II)Z"⟩, "BasketOffers"), ("BasketOffers$Bill", 32, ⟨"BasketOffers", "setAt", "([III)V"⟩, "BasketOffers"), ("BasketOffers$Bill", 70, ⟨"BasketOffers", "isIn", "(II)Z"⟩, "BasketOffers"), ("BasketOffers$Bill", 74, ⟨"BasketOffers", "at", "([II)I"⟩, "BasketOffers"), ("BasketOffers$Ledger", 25, ⟨"BasketOffers", "setAt", "([III)V"⟩, "BasketOffers"), ("BasketOffers$Ledger", 45, ⟨"BasketOffers", "at", "([II)I"⟩, "BasketOffers"), ("BasketOffers$OfferBook", 38, ⟨"BasketOffers", "at", "([II)I"⟩, "BasketOffers"), ("BasketOffers$OfferBook", 42, ⟨"BasketOffers", "setAt", "([III)V"⟩, "BasketOffers"), ("BasketOffers$Search", 107, ⟨"BasketOffers", "isIn", "(II)Z"⟩, "BasketOffers"), ("BasketOffers$Search", 11, ⟨"BasketOffers$UseList", "<init>", "()V"⟩, "BasketOffers"), ("BasketOffers$Search", 140, ⟨"BasketOffers", "bitOf", "(I)I"⟩, "BasketOffers"), ("BasketOffers$Search", 163, ⟨"BasketOffers", "isWithin", "(III)Z"⟩, "BasketOffers"), ("BasketOffers$Search", 52, ⟨"BasketOffers", "setAt", "([III)V"⟩, "BasketOffers"), ("BasketOffers$Search", 86, ⟨"BasketOffers", "at", "([II)I"⟩, "BasketOffers"), ("BasketOffers$UseList", 33, ⟨"BasketOffers", "setAt", "([III)V"⟩, "BasketOffers"), ("BasketOffers$UseList", 52, ⟨"BasketOffers", "bitOf", "(I)I"⟩, "BasketOffers"), ("BasketOffers$UseList", 77, ⟨"BasketOffers", "at", "([II)I"⟩, "BasketOffers")]
def jCastL : List String := ["BasketOffers$Bundle", "BasketOffers$FreeItem", "BasketOffers$Percentage", "BasketOffers$Threshold"]
theorem va_AOA.spec {ty : FieldType} {u : State} (h : va_AOA ty u) : ∃ comp c k, u.vm.findClass (FieldType.array ty).toString = some comp ∧ (u.vm.classes.findIdx? fun (x : Class) => match x.kind with | .array component _ => component == comp | _ => false) = some c ∧ u.vm.classes[c]? = some k ∧ k.kind = .array comp (.array ty) ∧
    u.vm.findClass ("[" ++ (FieldType.array ty).toString) = some c := by
  unfold va_AOA Cond.before at h
  simp only [Cond.holds, Cond.value, beq_iff_eq] at h
  cases hc : u.vm.findClass (FieldType.array ty).toString with
  | none => simp [hc] at h
  | some comp =>
    simp only [hc, Option.bind_some, Option.bind_eq_some_iff, Option.map_eq_some_iff] at h
    obtain ⟨c, hi, k, hk, hb⟩ := h
    obtain ⟨hlt, hp, -⟩ := Array.findIdx?_eq_some_iff_getElem.mp hi
    have hkk : u.vm.classes[c] = k := (Array.getElem?_eq_some_iff.mp hk).2
    rw [hkk] at hp
    cases hkind : k.kind with
    | array component ty' =>
      rw [hkind] at hb hp
      simp at hb hp
      exact ⟨comp, c, k, rfl, hi, hk, by rw [hkind, hp, hb.1], hb.2⟩
    | _ => rw [hkind] at hb; simp at hb
theorem va_AOA.moved {ty : FieldType} {u U : State} (hvm : u.vm.Alike U.vm) (h : va_AOA ty u) : va_AOA ty U := by
  obtain ⟨comp, c, k, h1, h2, h3, h4, h5⟩ := va_AOA.spec h
  obtain ⟨k', hk', he⟩ := hvm.2.2 _ _ h3
  have hi : (U.vm.classes.findIdx? fun (x : Class) => match x.kind with | .array component _ => component == comp | _ => false) = some c := by
    refine (va_idx_bare U.vm comp).symm.trans ?_
    have e : U.vm.bare = u.vm.bare := by first | exact hvm.bare_eq.symm | exact hvm.bare_eq
    rw [e]
    exact (va_idx_bare u.vm comp).trans h2
  have hkind : k'.kind = .array comp (.array ty) := by rw [he]; exact h4
  have f1 : U.vm.findClass (FieldType.array ty).toString = some comp := by rw [hvm.findClass]; exact h1
  have f2 : U.vm.findClass ("[" ++ (FieldType.array ty).toString) = some c := by rw [hvm.findClass]; exact h5
  unfold va_AOA Cond.before Cond.holds
  simp only [Cond.value]
  rw [f1, Option.bind_some]
  refine (congrArg (fun o : Option Nat => (o.bind (fun c => (U.vm.classes[c]?).map fun (k : Class) => match k.kind with | .array _ ty' => decide (ty' = FieldType.array ty) && decide (U.vm.findClass ("[" ++ (FieldType.array ty).toString) = some c) | _ => false) == some true)) hi).trans ?_
  simp [hk', hkind, f2]
def jNests (U : State) : Prop := (∀ q ∈ jNestL, va_Nw (.methodLinkNest q.1 q.2.1 q.2.2.1 q.2.2.2) U) ∧ (∀ C ∈ jCastL, va_Nw (.castable C "BasketOffers$Offer") U) ∧ va_AO "BasketOffers$Offer" U
theorem jNests.warm {s U : State} (hW : s.WarmedH U.vm) (h : jNests s) : jNests U := ⟨fun q hq => va_Nw.warmM hW (h.1 q hq), fun q hq => va_Nw.warmC hW (h.2.1 q hq), va_AO.moved hW.alike h.2.2⟩
theorem jNests.same {s U : State} (hv : s.vm = U.vm) (h : jNests s) : jNests U := ⟨fun q hq => va_Nw.same rfl hv (h.1 q hq), fun q hq => va_Nw.same rfl hv (h.2.1 q hq), va_AO.moved (hv ▸ Vm.Alike.refl s.vm) h.2.2⟩
def jRm (d mc ms : Nat) : Room := { frames := d, cells := mc, slots := ms, locals := 40 * d }
/-- behind a method: its answer and its world -/
def jQ (D : va_G) (post : Option Value → va_W → Prop) (A : Nat → Prop) : Array Value → State → Outcome → State → Prop := fun _ st oc t =>
  (∃ (rv : Option Value) (w1 : va_W), oc = .returned rv ∧ post rv w1 ∧ va_P D vwCl w1 t.heap ∧ va_D A w1) ∧ va_F A st t
def jPc (G : jG) (As : List Value) (w0 : va_W) (sz : Nat) : Array Value → State → Prop := va_Pc As (fun U => U.heap.size = sz ∧ va_P G.2.1 vwCl w0 U.heap ∧ va_K G.2.1 vwCl (jtys G.2.2) U ∧ va_D (fun _ => True) w0 ∧ jNests U)
/-- a method's contract: from the arguments As in the world w0 it returns, and the answer and the world behind it are of post; it makes mc cells of ms slots -/
def jC (G : jG) (d : Nat) (y : MethodName) (Ts : List Cond) (As : List Value) (w0 : va_W) (mc ms : Nat) (post : Option Value → va_W → Prop) : Prop :=
  ∀ sz : Nat, Met G.1 y Ts (jRm d mc ms) (jPc G As w0 sz) (jQ G.2.1 post (va_A w0 sz)) mc ms (va_A w0 sz)
/-- what is known all the way -/
def jOK (G : jG) (X : jX) (own : String) (cc : ByteArray) (Ts : List Cond) (ret : Option FieldType) (nL d mc ms : Nat) (post : Option Value → va_W → Prop) : Prop := match X with
  | (p, e, R, s, m, args, below, meth, c, A, Q) => p.tables.exec = Jvm.exec ∧ c.code = cc ∧ meth.sig.returnType = ret ∧ c.maxLocals = nL ∧ s.vm.findClass own = some m.cls ∧ (∀ w ∈ Ts, w.before args s = true) ∧ meth.locks = false ∧
    va_K G.2.1 vwCl (jtys G.2.2) s ∧ (∀ q : Nat, s.heap.size ≤ q → A q) ∧ jNests s ∧ (d ≤ R.frames ∧ 40 * d ≤ R.locals) ∧ (R.cells = mc ∧ R.slots = ms) ∧
    (∀ t : State, MQ below (jQ G.2.1 post A) args s mc ms A t → Q t)
def jW (G : jG) (X : jX) (k n pc : Nat) (ls : List (Option Value)) (st : List Value) (ws : va_W) : Prop := match X with
  | (p, e, R, s, m, args, below, meth, c, A, Q) => ∀ (H : Heap) (locs : List Loc) (la : Array Slot), va_P G.2.1 vwCl ws H → va_D A ws → va_S A s.heap H locs → jL la ls → W p G.1 e R s m args below meth c H locs k n Q (F0 m pc la st)
section JR
variable {G : jG} {X : jX} {own : String} {cc : ByteArray} {Ts : List Cond} {ret : Option FieldType} {nL d mc ms k n pc : Nat} {post : Option Value → va_W → Prop} {ls : List (Option Value)} {st : List Value} {ws : va_W}

theorem j_iconst (hX : jOK G X own cc Ts ret nL d mc ms post) {z : Int} {v : Int32} (hv : Int32.ofInt z = v) (hd : decode cc pc = .ok (.iconst z, 1)) (kk : jW G X k n (pc + 1) ls (.int v :: st) ws) : jW G X k n pc ls st ws := by
  obtain ⟨p, e, R, s, m, args, below, meth, c, A, Q⟩ := X
  obtain ⟨hx, hb, hr, hml, hown, hts, hlocks, hK, hA, hN, hRoom, hCell, hQ⟩ := hX
  intro H locs la hP hD hS hL
  exact lv_iconst hx hb hd hv (kk H locs la hP hD hS hL)

theorem j_bipush (hX : jOK G X own cc Ts ret nL d mc ms post) {z : Int} {v : Int32} (hv : (Int8.ofInt z).toInt32 = v) (hd : decode cc pc = .ok (.bipush z, 2)) (kk : jW G X k n (pc + 2) ls (.int v :: st) ws) : jW G X k n pc ls st ws := by
  obtain ⟨p, e, R, s, m, args, below, meth, c, A, Q⟩ := X
  obtain ⟨hx, hb, hr, hml, hown, hts, hlocks, hK, hA, hN, hRoom, hCell, hQ⟩ := hX
  intro H locs la hP hD hS hL
  exact lv_bipush hx hb hd hv (kk H locs la hP hD hS hL)

theorem j_sipush (hX : jOK G X own cc Ts ret nL d mc ms post) {z : Int} {v : Int32} (hv : (Int16.ofInt z).toInt32 = v) (hd : decode cc pc = .ok (.sipush z, 3)) (kk : jW G X k n (pc + 3) ls (.int v :: st) ws) : jW G X k n pc ls st ws := by
  obtain ⟨p, e, R, s, m, args, below, meth, c, A, Q⟩ := X
  obtain ⟨hx, hb, hr, hml, hown, hts, hlocks, hK, hA, hN, hRoom, hCell, hQ⟩ := hX
  intro H locs la hP hD hS hL
  exact lv_sipush hx hb hd hv (kk H locs la hP hD hS hL)

theorem j_iload_n (hX : jOK G X own cc Ts ret nL d mc ms post) {i : Fin 4} {x : Int32} (hd : decode cc pc = .ok (.iload_n i, 1)) (hl : ls[(i : Nat)]? = some (some (.int x))) (kk : jW G X k n (pc + 1) ls (.int x :: st) ws) : jW G X k n pc ls st ws := by
  obtain ⟨p, e, R, s, m, args, below, meth, c, A, Q⟩ := X
  obtain ⟨hx, hb, hr, hml, hown, hts, hlocks, hK, hA, hN, hRoom, hCell, hQ⟩ := hX
  intro H locs la hP hD hS hL
  exact lv_iload_n hx hb hd rfl (hL.2.2 _ _ hl) (kk H locs la hP hD hS hL)

theorem j_iload (hX : jOK G X own cc Ts ret nL d mc ms post) {i : Nat} {x : Int32} (hd : decode cc pc = .ok (.iload i, 2)) (hl : ls[i]? = some (some (.int x))) (kk : jW G X k n (pc + 2) ls (.int x :: st) ws) : jW G X k n pc ls st ws := by
  obtain ⟨p, e, R, s, m, args, below, meth, c, A, Q⟩ := X
  obtain ⟨hx, hb, hr, hml, hown, hts, hlocks, hK, hA, hN, hRoom, hCell, hQ⟩ := hX
  intro H locs la hP hD hS hL
  exact lv_iload hx hb hd (hL.2.2 _ _ hl) (kk H locs la hP hD hS hL)

theorem j_lload_n (hX : jOK G X own cc Ts ret nL d mc ms post) {i : Fin 4} {x : Int64} (hd : decode cc pc = .ok (.lload_n i, 1)) (hl : ls[(i : Nat)]? = some (some (.long x))) (kk : jW G X k n (pc + 1) ls (.long x :: st) ws) : jW G X k n pc ls st ws := by
  obtain ⟨p, e, R, s, m, args, below, meth, c, A, Q⟩ := X
  obtain ⟨hx, hb, hr, hml, hown, hts, hlocks, hK, hA, hN, hRoom, hCell, hQ⟩ := hX
  intro H locs la hP hD hS hL
  exact lv_lload_n hx hb hd rfl (hL.2.2 _ _ hl) (kk H locs la hP hD hS hL)

theorem j_lload (hX : jOK G X own cc Ts ret nL d mc ms post) {i : Nat} {x : Int64} (hd : decode cc pc = .ok (.lload i, 2)) (hl : ls[i]? = some (some (.long x))) (kk : jW G X k n (pc + 2) ls (.long x :: st) ws) : jW G X k n pc ls st ws := by
  obtain ⟨p, e, R, s, m, args, below, meth, c, A, Q⟩ := X
  obtain ⟨hx, hb, hr, hml, hown, hts, hlocks, hK, hA, hN, hRoom, hCell, hQ⟩ := hX
  intro H locs la hP hD hS hL
  exact lv_lload hx hb hd (hL.2.2 _ _ hl) (kk H locs la hP hD hS hL)

theorem j_fload_n (hX : jOK G X own cc Ts ret nL d mc ms post) {i : Fin 4} {x : UInt32} (hd : decode cc pc = .ok (.fload_n i, 1)) (hl : ls[(i : Nat)]? = some (some (.float x))) (kk : jW G X k n (pc + 1) ls (.float x :: st) ws) : jW G X k n pc ls st ws := by
  obtain ⟨p, e, R, s, m, args, below, meth, c, A, Q⟩ := X
  obtain ⟨hx, hb, hr, hml, hown, hts, hlocks, hK, hA, hN, hRoom, hCell, hQ⟩ := hX
  intro H locs la hP hD hS hL
  exact lv_fload_n hx hb hd rfl (hL.2.2 _ _ hl) (kk H locs la hP hD hS hL)

theorem j_fload (hX : jOK G X own cc Ts ret nL d mc ms post) {i : Nat} {x : UInt32} (hd : decode cc pc = .ok (.fload i, 2)) (hl : ls[i]? = some (some (.float x))) (kk : jW G X k n (pc + 2) ls (.float x :: st) ws) : jW G X k n pc ls st ws := by
  obtain ⟨p, e, R, s, m, args, below, meth, c, A, Q⟩ := X
  obtain ⟨hx, hb, hr, hml, hown, hts, hlocks, hK, hA, hN, hRoom, hCell, hQ⟩ := hX
  intro H locs la hP hD hS hL
  exact lv_fload hx hb hd (hL.2.2 _ _ hl) (kk H locs la hP hD hS hL)

theorem j_dload_n (hX : jOK G X own cc Ts ret nL d mc ms post) {i : Fin 4} {x : UInt64} (hd : decode cc pc = .ok (.dload_n i, 1)) (hl : ls[(i : Nat)]? = some (some (.double x))) (kk : jW G X k n (pc + 1) ls (.double x :: st) ws) : jW G X k n pc ls st ws := by
  obtain ⟨p, e, R, s, m, args, below, meth, c, A, Q⟩ := X
  obtain ⟨hx, hb, hr, hml, hown, hts, hlocks, hK, hA, hN, hRoom, hCell, hQ⟩ := hX
  intro H locs la hP hD hS hL
  exact lv_dload_n hx hb hd rfl (hL.2.2 _ _ hl) (kk H locs la hP hD hS hL)

theorem j_dload (hX : jOK G X own cc Ts ret nL d mc ms post) {i : Nat} {x : UInt64} (hd : decode cc pc = .ok (.dload i, 2)) (hl : ls[i]? = some (some (.double x))) (kk : jW G X k n (pc + 2) ls (.double x :: st) ws) : jW G X k n pc ls st ws := by
  obtain ⟨p, e, R, s, m, args, below, meth, c, A, Q⟩ := X
  obtain ⟨hx, hb, hr, hml, hown, hts, hlocks, hK, hA, hN, hRoom, hCell, hQ⟩ := hX
  intro H locs la hP hD hS hL
  exact lv_dload hx hb hd (hL.2.2 _ _ hl) (kk H locs la hP hD hS hL)

theorem j_aload_n (hX : jOK G X own cc Ts ret nL d mc ms post) {i : Fin 4} {x : Nat} (hd : decode cc pc = .ok (.aload_n i, 1)) (hl : ls[(i : Nat)]? = some (some (.ref x))) (kk : jW G X k n (pc + 1) ls (.ref x :: st) ws) : jW G X k n pc ls st ws := by
  obtain ⟨p, e, R, s, m, args, below, meth, c, A, Q⟩ := X
  obtain ⟨hx, hb, hr, hml, hown, hts, hlocks, hK, hA, hN, hRoom, hCell, hQ⟩ := hX
  intro H locs la hP hD hS hL
  exact lv_aload_n hx hb hd rfl (hL.2.2 _ _ hl) (kk H locs la hP hD hS hL)

theorem j_aload (hX : jOK G X own cc Ts ret nL d mc ms post) {i : Nat} {x : Nat} (hd : decode cc pc = .ok (.aload i, 2)) (hl : ls[i]? = some (some (.ref x))) (kk : jW G X k n (pc + 2) ls (.ref x :: st) ws) : jW G X k n pc ls st ws := by
  obtain ⟨p, e, R, s, m, args, below, meth, c, A, Q⟩ := X
  obtain ⟨hx, hb, hr, hml, hown, hts, hlocks, hK, hA, hN, hRoom, hCell, hQ⟩ := hX
  intro H locs la hP hD hS hL
  exact lv_aload hx hb hd (hL.2.2 _ _ hl) (kk H locs la hP hD hS hL)

theorem j_aload_nN (hX : jOK G X own cc Ts ret nL d mc ms post) {i : Fin 4} (hd : decode cc pc = .ok (.aload_n i, 1)) (hl : ls[(i : Nat)]? = some (some .null)) (kk : jW G X k n (pc + 1) ls (.null :: st) ws) : jW G X k n pc ls st ws := by
  obtain ⟨p, e, R, s, m, args, below, meth, c, A, Q⟩ := X
  obtain ⟨hx, hb, hr, hml, hown, hts, hlocks, hK, hA, hN, hRoom, hCell, hQ⟩ := hX
  intro H locs la hP hD hS hL
  exact lv_aload_nN hx hb hd rfl (hL.2.2 _ _ hl) (kk H locs la hP hD hS hL)

theorem j_aloadN (hX : jOK G X own cc Ts ret nL d mc ms post) {i : Nat} (hd : decode cc pc = .ok (.aload i, 2)) (hl : ls[i]? = some (some .null)) (kk : jW G X k n (pc + 2) ls (.null :: st) ws) : jW G X k n pc ls st ws := by
  obtain ⟨p, e, R, s, m, args, below, meth, c, A, Q⟩ := X
  obtain ⟨hx, hb, hr, hml, hown, hts, hlocks, hK, hA, hN, hRoom, hCell, hQ⟩ := hX
  intro H locs la hP hD hS hL
  exact lv_aloadN hx hb hd (hL.2.2 _ _ hl) (kk H locs la hP hD hS hL)

theorem j_istore_n (hX : jOK G X own cc Ts ret nL d mc ms post) {i : Fin 4} {x : Int32} {ls' : List (Option Value)} (hd : decode cc pc = .ok (.istore_n i, 1)) (hi : (i : Nat) < ls.length) (hok : jok ls i = true) (hl : ls.set i (some (.int x)) = ls') (kk : jW G X k n (pc + 1) ls' st ws) : jW G X k n pc ls (.int x :: st) ws := by
  obtain ⟨p, e, R, s, m, args, below, meth, c, A, Q⟩ := X
  obtain ⟨hx, hb, hr, hml, hown, hts, hlocks, hK, hA, hN, hRoom, hCell, hQ⟩ := hX
  intro H locs la hP hD hS hL
  subst hl
  exact lv_istore_n hx hb hd rfl hL.has hi rfl (fun la' h' => kk H locs la' hP hD hS (hL.set hi hok h'))

theorem j_istore (hX : jOK G X own cc Ts ret nL d mc ms post) {i : Nat} {x : Int32} {ls' : List (Option Value)} (hd : decode cc pc = .ok (.istore i, 2)) (hi : i < ls.length) (hok : jok ls i = true) (hl : ls.set i (some (.int x)) = ls') (kk : jW G X k n (pc + 2) ls' st ws) : jW G X k n pc ls (.int x :: st) ws := by
  obtain ⟨p, e, R, s, m, args, below, meth, c, A, Q⟩ := X
  obtain ⟨hx, hb, hr, hml, hown, hts, hlocks, hK, hA, hN, hRoom, hCell, hQ⟩ := hX
  intro H locs la hP hD hS hL
  subst hl
  exact lv_istore hx hb hd hL.has hi rfl (fun la' h' => kk H locs la' hP hD hS (hL.set hi hok h'))

theorem j_astore_n (hX : jOK G X own cc Ts ret nL d mc ms post) {i : Fin 4} {x : Nat} {ls' : List (Option Value)} (hd : decode cc pc = .ok (.astore_n i, 1)) (hi : (i : Nat) < ls.length) (hok : jok ls i = true) (hl : ls.set i (some (.ref x)) = ls') (kk : jW G X k n (pc + 1) ls' st ws) : jW G X k n pc ls (.ref x :: st) ws := by
  obtain ⟨p, e, R, s, m, args, below, meth, c, A, Q⟩ := X
  obtain ⟨hx, hb, hr, hml, hown, hts, hlocks, hK, hA, hN, hRoom, hCell, hQ⟩ := hX
  intro H locs la hP hD hS hL
  subst hl
  exact lv_astore_n hx hb hd rfl hL.has hi rfl (fun la' h' => kk H locs la' hP hD hS (hL.set hi hok h'))

theorem j_astore (hX : jOK G X own cc Ts ret nL d mc ms post) {i : Nat} {x : Nat} {ls' : List (Option Value)} (hd : decode cc pc = .ok (.astore i, 2)) (hi : i < ls.length) (hok : jok ls i = true) (hl : ls.set i (some (.ref x)) = ls') (kk : jW G X k n (pc + 2) ls' st ws) : jW G X k n pc ls (.ref x :: st) ws := by
  obtain ⟨p, e, R, s, m, args, below, meth, c, A, Q⟩ := X
  obtain ⟨hx, hb, hr, hml, hown, hts, hlocks, hK, hA, hN, hRoom, hCell, hQ⟩ := hX
  intro H locs la hP hD hS hL
  subst hl
  exact lv_astore hx hb hd hL.has hi rfl (fun la' h' => kk H locs la' hP hD hS (hL.set hi hok h'))

theorem j_astore_nN (hX : jOK G X own cc Ts ret nL d mc ms post) {i : Fin 4} {ls' : List (Option Value)} (hd : decode cc pc = .ok (.astore_n i, 1)) (hi : (i : Nat) < ls.length) (hok : jok ls (i : Nat) = true) (hl : ls.set (i : Nat) (some .null) = ls') (kk : jW G X k n (pc + 1) ls' st ws) : jW G X k n pc ls (.null :: st) ws := by
  obtain ⟨p, e, R, s, m, args, below, meth, c, A, Q⟩ := X
  obtain ⟨hx, hb, hr, hml, hown, hts, hlocks, hK, hA, hN, hRoom, hCell, hQ⟩ := hX
  intro H locs la hP hD hS hL
  subst hl
  exact lv_astore_nN hx hb hd rfl hL.has hi rfl (fun la' h' => kk H locs la' hP hD hS (hL.set hi hok h'))

theorem j_astoreN (hX : jOK G X own cc Ts ret nL d mc ms post) {i : Nat} {ls' : List (Option Value)} (hd : decode cc pc = .ok (.astore i, 2)) (hi : i < ls.length) (hok : jok ls i = true) (hl : ls.set i (some .null) = ls') (kk : jW G X k n (pc + 2) ls' st ws) : jW G X k n pc ls (.null :: st) ws := by
  obtain ⟨p, e, R, s, m, args, below, meth, c, A, Q⟩ := X
  obtain ⟨hx, hb, hr, hml, hown, hts, hlocks, hK, hA, hN, hRoom, hCell, hQ⟩ := hX
  intro H locs la hP hD hS hL
  subst hl
  exact lv_astoreN hx hb hd hL.has hi rfl (fun la' h' => kk H locs la' hP hD hS (hL.set hi hok h'))

theorem j_iinc (hX : jOK G X own cc Ts ret nL d mc ms post) {i : Nat} {z : Int} {x v : Int32} {ls' : List (Option Value)} (hd : decode cc pc = .ok (.iinc i z, 3)) (hg : ls[i]? = some (some (.int x))) (hv : x + Int32.ofInt z = v) (hok : jok ls i = true) (hl : ls.set i (some (.int v)) = ls') (kk : jW G X k n (pc + 3) ls' st ws) : jW G X k n pc ls st ws := by
  obtain ⟨p, e, R, s, m, args, below, meth, c, A, Q⟩ := X
  obtain ⟨hx, hb, hr, hml, hown, hts, hlocks, hK, hA, hN, hRoom, hCell, hQ⟩ := hX
  intro H locs la hP hD hS hL
  subst hl
  have hi : i < ls.length := (List.getElem?_eq_some_iff.mp hg).1
  have hm : (i, Value.int x) ∈ jA 0 ls := by
    have h9 := jA_of ls 0 i (.int x) hg
    rwa [Nat.zero_add] at h9
  obtain ⟨q, hq⟩ := List.getElem?_of_mem hm
  exact lv_iinc hx hb hd hL.has hq hv hi rfl (fun la' h' => kk H locs la' hP hD hS (hL.set hi hok h'))

theorem j_iadd (hX : jOK G X own cc Ts ret nL d mc ms post) {x y : Int32} (hd : decode cc pc = .ok (.iadd, 1)) (kk : jW G X k n (pc + 1) ls (.int (x + y) :: st) ws) : jW G X k n pc ls (.int y :: .int x :: st) ws := by
  obtain ⟨p, e, R, s, m, args, below, meth, c, A, Q⟩ := X
  obtain ⟨hx, hb, hr, hml, hown, hts, hlocks, hK, hA, hN, hRoom, hCell, hQ⟩ := hX
  intro H locs la hP hD hS hL
  exact lv_iadd hx hb hd (kk H locs la hP hD hS hL)

theorem j_isub (hX : jOK G X own cc Ts ret nL d mc ms post) {x y : Int32} (hd : decode cc pc = .ok (.isub, 1)) (kk : jW G X k n (pc + 1) ls (.int (x - y) :: st) ws) : jW G X k n pc ls (.int y :: .int x :: st) ws := by
  obtain ⟨p, e, R, s, m, args, below, meth, c, A, Q⟩ := X
  obtain ⟨hx, hb, hr, hml, hown, hts, hlocks, hK, hA, hN, hRoom, hCell, hQ⟩ := hX
  intro H locs la hP hD hS hL
  exact lv_isub hx hb hd (kk H locs la hP hD hS hL)

theorem j_imul (hX : jOK G X own cc Ts ret nL d mc ms post) {x y : Int32} (hd : decode cc pc = .ok (.imul, 1)) (kk : jW G X k n (pc + 1) ls (.int (x * y) :: st) ws) : jW G X k n pc ls (.int y :: .int x :: st) ws := by
  obtain ⟨p, e, R, s, m, args, below, meth, c, A, Q⟩ := X
  obtain ⟨hx, hb, hr, hml, hown, hts, hlocks, hK, hA, hN, hRoom, hCell, hQ⟩ := hX
  intro H locs la hP hD hS hL
  exact lv_imul hx hb hd (kk H locs la hP hD hS hL)

theorem j_iand (hX : jOK G X own cc Ts ret nL d mc ms post) {x y : Int32} (hd : decode cc pc = .ok (.iand, 1)) (kk : jW G X k n (pc + 1) ls (.int (x &&& y) :: st) ws) : jW G X k n pc ls (.int y :: .int x :: st) ws := by
  obtain ⟨p, e, R, s, m, args, below, meth, c, A, Q⟩ := X
  obtain ⟨hx, hb, hr, hml, hown, hts, hlocks, hK, hA, hN, hRoom, hCell, hQ⟩ := hX
  intro H locs la hP hD hS hL
  exact lv_iand hx hb hd (kk H locs la hP hD hS hL)

theorem j_ior (hX : jOK G X own cc Ts ret nL d mc ms post) {x y : Int32} (hd : decode cc pc = .ok (.ior, 1)) (kk : jW G X k n (pc + 1) ls (.int (x ||| y) :: st) ws) : jW G X k n pc ls (.int y :: .int x :: st) ws := by
  obtain ⟨p, e, R, s, m, args, below, meth, c, A, Q⟩ := X
  obtain ⟨hx, hb, hr, hml, hown, hts, hlocks, hK, hA, hN, hRoom, hCell, hQ⟩ := hX
  intro H locs la hP hD hS hL
  exact lv_ior hx hb hd (kk H locs la hP hD hS hL)

theorem j_ixor (hX : jOK G X own cc Ts ret nL d mc ms post) {x y : Int32} (hd : decode cc pc = .ok (.ixor, 1)) (kk : jW G X k n (pc + 1) ls (.int (x ^^^ y) :: st) ws) : jW G X k n pc ls (.int y :: .int x :: st) ws := by
  obtain ⟨p, e, R, s, m, args, below, meth, c, A, Q⟩ := X
  obtain ⟨hx, hb, hr, hml, hown, hts, hlocks, hK, hA, hN, hRoom, hCell, hQ⟩ := hX
  intro H locs la hP hD hS hL
  exact lv_ixor hx hb hd (kk H locs la hP hD hS hL)

theorem j_ishl (hX : jOK G X own cc Ts ret nL d mc ms post) {x y : Int32} (hd : decode cc pc = .ok (.ishl, 1)) (kk : jW G X k n (pc + 1) ls (.int (x <<< (y &&& 31)) :: st) ws) : jW G X k n pc ls (.int y :: .int x :: st) ws := by
  obtain ⟨p, e, R, s, m, args, below, meth, c, A, Q⟩ := X
  obtain ⟨hx, hb, hr, hml, hown, hts, hlocks, hK, hA, hN, hRoom, hCell, hQ⟩ := hX
  intro H locs la hP hD hS hL
  exact lv_ishl hx hb hd (kk H locs la hP hD hS hL)

theorem j_ishr (hX : jOK G X own cc Ts ret nL d mc ms post) {x y : Int32} (hd : decode cc pc = .ok (.ishr, 1)) (kk : jW G X k n (pc + 1) ls (.int (x >>> (y &&& 31)) :: st) ws) : jW G X k n pc ls (.int y :: .int x :: st) ws := by
  obtain ⟨p, e, R, s, m, args, below, meth, c, A, Q⟩ := X
  obtain ⟨hx, hb, hr, hml, hown, hts, hlocks, hK, hA, hN, hRoom, hCell, hQ⟩ := hX
  intro H locs la hP hD hS hL
  exact lv_ishr hx hb hd (kk H locs la hP hD hS hL)

theorem j_idiv (hX : jOK G X own cc Ts ret nL d mc ms post) {x y : Int32} (hd : decode cc pc = .ok (.idiv, 1)) (hne : ¬ y = 0) (kk : jW G X k n (pc + 1) ls (.int (x / y) :: st) ws) : jW G X k n pc ls (.int y :: .int x :: st) ws := by
  obtain ⟨p, e, R, s, m, args, below, meth, c, A, Q⟩ := X
  obtain ⟨hx, hb, hr, hml, hown, hts, hlocks, hK, hA, hN, hRoom, hCell, hQ⟩ := hX
  intro H locs la hP hD hS hL
  exact lv_idiv hx hb hd hne (kk H locs la hP hD hS hL)

theorem j_iushr (hX : jOK G X own cc Ts ret nL d mc ms post) {x y : Int32} (hd : decode cc pc = .ok (.iushr, 1)) (kk : jW G X k n (pc + 1) ls (.int ((x.toUInt32 >>> (y.toUInt32 &&& Int32.toUInt32 31)).toInt32) :: st) ws) : jW G X k n pc ls (.int y :: .int x :: st) ws := by
  obtain ⟨p, e, R, s, m, args, below, meth, c, A, Q⟩ := X
  obtain ⟨hx, hb, hr, hml, hown, hts, hlocks, hK, hA, hN, hRoom, hCell, hQ⟩ := hX
  intro H locs la hP hD hS hL
  exact lv_iushr hx hb hd rfl (kk H locs la hP hD hS hL)

theorem j_ldcw (hX : jOK G X own cc Ts ret nL d mc ms post) {idx : Nat} {v : Int32} (hd : decode cc pc = .ok (.ldc_w idx, 3)) (hc : Cond.constant own idx v ∈ Ts) (kk : jW G X k n (pc + 3) ls (.int v :: st) ws) : jW G X k n pc ls st ws := by
  obtain ⟨p, e, R, s, m, args, below, meth, c, A, Q⟩ := X
  obtain ⟨hx, hb, hr, hml, hown, hts, hlocks, hK, hA, hN, hRoom, hCell, hQ⟩ := hX
  intro H locs la hP hD hS hL
  exact lv_ldcw hx hb hown (hts _ hc) hd (kk H locs la hP hD hS hL)

theorem j_ldc (hX : jOK G X own cc Ts ret nL d mc ms post) {idx : Nat} {v : Int32} (hd : decode cc pc = .ok (.ldc idx, 2)) (hc : Cond.constant own idx v ∈ Ts) (kk : jW G X k n (pc + 2) ls (.int v :: st) ws) : jW G X k n pc ls st ws := by
  obtain ⟨p, e, R, s, m, args, below, meth, c, A, Q⟩ := X
  obtain ⟨hx, hb, hr, hml, hown, hts, hlocks, hK, hA, hN, hRoom, hCell, hQ⟩ := hX
  intro H locs la hP hD hS hL
  exact lv_ldc hx hb hown (hts _ hc) hd (kk H locs la hP hD hS hL)

theorem j_ladd (hX : jOK G X own cc Ts ret nL d mc ms post) {x y : Int64} (hd : decode cc pc = .ok (.ladd, 1)) (kk : jW G X k n (pc + 1) ls (.long (x + y) :: st) ws) : jW G X k n pc ls (.long y :: .long x :: st) ws := by
  obtain ⟨p, e, R, s, m, args, below, meth, c, A, Q⟩ := X
  obtain ⟨hx, hb, hr, hml, hown, hts, hlocks, hK, hA, hN, hRoom, hCell, hQ⟩ := hX
  intro H locs la hP hD hS hL
  exact lv_ladd hx hb hd (kk H locs la hP hD hS hL)

theorem j_lsub (hX : jOK G X own cc Ts ret nL d mc ms post) {x y : Int64} (hd : decode cc pc = .ok (.lsub, 1)) (kk : jW G X k n (pc + 1) ls (.long (x - y) :: st) ws) : jW G X k n pc ls (.long y :: .long x :: st) ws := by
  obtain ⟨p, e, R, s, m, args, below, meth, c, A, Q⟩ := X
  obtain ⟨hx, hb, hr, hml, hown, hts, hlocks, hK, hA, hN, hRoom, hCell, hQ⟩ := hX
  intro H locs la hP hD hS hL
  exact lv_lsub hx hb hd (kk H locs la hP hD hS hL)

theorem j_i2l (hX : jOK G X own cc Ts ret nL d mc ms post) {x : Int32} (hd : decode cc pc = .ok (.i2l, 1)) (kk : jW G X k n (pc + 1) ls (.long x.toInt64 :: st) ws) : jW G X k n pc ls (.int x :: st) ws := by
  obtain ⟨p, e, R, s, m, args, below, meth, c, A, Q⟩ := X
  obtain ⟨hx, hb, hr, hml, hown, hts, hlocks, hK, hA, hN, hRoom, hCell, hQ⟩ := hX
  intro H locs la hP hD hS hL
  exact lv_i2l hx hb hd rfl (kk H locs la hP hD hS hL)

theorem j_dup (hX : jOK G X own cc Ts ret nL d mc ms post) {v : Value} (hd : decode cc pc = .ok (.dup, 1)) (hv : v.category = 1) (kk : jW G X k n (pc + 1) ls (v :: v :: st) ws) : jW G X k n pc ls (v :: st) ws := by
  obtain ⟨p, e, R, s, m, args, below, meth, c, A, Q⟩ := X
  obtain ⟨hx, hb, hr, hml, hown, hts, hlocks, hK, hA, hN, hRoom, hCell, hQ⟩ := hX
  intro H locs la hP hD hS hL
  exact lv_dup hx hb hd hv (kk H locs la hP hD hS hL)

theorem j_pop (hX : jOK G X own cc Ts ret nL d mc ms post) {v : Value} (hd : decode cc pc = .ok (.pop, 1)) (hv : v.category = 1) (kk : jW G X k n (pc + 1) ls st ws) : jW G X k n pc ls (v :: st) ws := by
  obtain ⟨p, e, R, s, m, args, below, meth, c, A, Q⟩ := X
  obtain ⟨hx, hb, hr, hml, hown, hts, hlocks, hK, hA, hN, hRoom, hCell, hQ⟩ := hX
  intro H locs la hP hD hS hL
  exact lv_pop hx hb hd hv (kk H locs la hP hD hS hL)

theorem j_dup_x1 (hX : jOK G X own cc Ts ret nL d mc ms post) {v u : Value} (hd : decode cc pc = .ok (.dup_x1, 1)) (hv : v.category = 1) (hu : u.category = 1) (kk : jW G X k n (pc + 1) ls (v :: u :: v :: st) ws) : jW G X k n pc ls (v :: u :: st) ws := by
  obtain ⟨p, e, R, s, m, args, below, meth, c, A, Q⟩ := X
  obtain ⟨hx, hb, hr, hml, hown, hts, hlocks, hK, hA, hN, hRoom, hCell, hQ⟩ := hX
  intro H locs la hP hD hS hL
  exact lv_dup_x1 hx hb hd hv hu (kk H locs la hP hD hS hL)

theorem j_dup2 (hX : jOK G X own cc Ts ret nL d mc ms post) {v u : Value} (hd : decode cc pc = .ok (.dup2, 1)) (hv : v.category = 1) (hu : u.category = 1) (kk : jW G X k n (pc + 1) ls (v :: u :: v :: u :: st) ws) : jW G X k n pc ls (v :: u :: st) ws := by
  obtain ⟨p, e, R, s, m, args, below, meth, c, A, Q⟩ := X
  obtain ⟨hx, hb, hr, hml, hown, hts, hlocks, hK, hA, hN, hRoom, hCell, hQ⟩ := hX
  intro H locs la hP hD hS hL
  exact lv_dup2_11 hx hb hd hv hu (kk H locs la hP hD hS hL)

theorem j_null (hX : jOK G X own cc Ts ret nL d mc ms post) (hd : decode cc pc = .ok (.aconst_null, 1)) (kk : jW G X k n (pc + 1) ls (.null :: st) ws) : jW G X k n pc ls st ws := by
  obtain ⟨p, e, R, s, m, args, below, meth, c, A, Q⟩ := X
  obtain ⟨hx, hb, hr, hml, hown, hts, hlocks, hK, hA, hN, hRoom, hCell, hQ⟩ := hX
  intro H locs la hP hD hS hL
  exact lv_null hx hb hd (kk H locs la hP hD hS hL)

theorem j_goto (hX : jOK G X own cc Ts ret nL d mc ms post) {off : Int} {tgt : Nat} (hd : decode cc pc = .ok (.goto off, 3)) (ht : (pc : Int) + off = (tgt : Int)) (kk : jW G X k n tgt ls st ws) : jW G X k n pc ls st ws := by
  obtain ⟨p, e, R, s, m, args, below, meth, c, A, Q⟩ := X
  obtain ⟨hx, hb, hr, hml, hown, hts, hlocks, hK, hA, hN, hRoom, hCell, hQ⟩ := hX
  intro H locs la hP hD hS hL
  exact lv_goto hx hb hd ht (kk H locs la hP hD hS hL)

theorem j_if_ne (hX : jOK G X own cc Ts ret nL d mc ms post) {x : Int32} {off : Int} {tgt : Nat} (hd : decode cc pc = .ok (.ifCond .ne off, 3)) (ht : (pc : Int) + off = (tgt : Int)) (kt : ¬ (x = 0) → jW G X k n tgt ls st ws) (kf : (x = 0) → jW G X k n (pc + 3) ls st ws) : jW G X k n pc ls (.int x :: st) ws := by
  obtain ⟨p, e, R, s, m, args, below, meth, c, A, Q⟩ := X
  obtain ⟨hx, hb, hr, hml, hown, hts, hlocks, hK, hA, hN, hRoom, hCell, hQ⟩ := hX
  intro H locs la hP hD hS hL
  exact lv_if_ne hx hb hd ht (fun h => kt h H locs la hP hD hS hL) (fun h => kf h H locs la hP hD hS hL)

theorem j_if_ne_t (hX : jOK G X own cc Ts ret nL d mc ms post) {x : Int32} {off : Int} {tgt : Nat} (hd : decode cc pc = .ok (.ifCond .ne off, 3)) (ht : (pc : Int) + off = (tgt : Int)) (hc : ¬ (x = 0)) (kt : jW G X k n tgt ls st ws) : jW G X k n pc ls (.int x :: st) ws := j_if_ne hX hd ht (fun _ => kt) (fun h => absurd h hc)

theorem j_if_ne_f (hX : jOK G X own cc Ts ret nL d mc ms post) {x : Int32} {off : Int} (hd : decode cc pc = .ok (.ifCond .ne off, 3)) {tgt : Nat} (ht : (pc : Int) + off = (tgt : Int)) (hc : (x = 0)) (kf : jW G X k n (pc + 3) ls st ws) : jW G X k n pc ls (.int x :: st) ws := j_if_ne hX hd ht (fun h => absurd hc h) (fun _ => kf)

theorem j_icmp_ne (hX : jOK G X own cc Ts ret nL d mc ms post) {x y : Int32} {off : Int} {tgt : Nat} (hd : decode cc pc = .ok (.if_icmp .ne off, 3)) (ht : (pc : Int) + off = (tgt : Int)) (kt : ¬ (x = y) → jW G X k n tgt ls st ws) (kf : (x = y) → jW G X k n (pc + 3) ls st ws) : jW G X k n pc ls (.int y :: .int x :: st) ws := by
  obtain ⟨p, e, R, s, m, args, below, meth, c, A, Q⟩ := X
  obtain ⟨hx, hb, hr, hml, hown, hts, hlocks, hK, hA, hN, hRoom, hCell, hQ⟩ := hX
  intro H locs la hP hD hS hL
  exact lv_icmp_ne hx hb hd ht (fun h => kt h H locs la hP hD hS hL) (fun h => kf h H locs la hP hD hS hL)

theorem j_icmp_ne_t (hX : jOK G X own cc Ts ret nL d mc ms post) {x y : Int32} {off : Int} {tgt : Nat} (hd : decode cc pc = .ok (.if_icmp .ne off, 3)) (ht : (pc : Int) + off = (tgt : Int)) (hc : ¬ (x = y)) (kt : jW G X k n tgt ls st ws) : jW G X k n pc ls (.int y :: .int x :: st) ws := j_icmp_ne hX hd ht (fun _ => kt) (fun h => absurd h hc)

theorem j_icmp_ne_f (hX : jOK G X own cc Ts ret nL d mc ms post) {x y : Int32} {off : Int} (hd : decode cc pc = .ok (.if_icmp .ne off, 3)) {tgt : Nat} (ht : (pc : Int) + off = (tgt : Int)) (hc : (x = y)) (kf : jW G X k n (pc + 3) ls st ws) : jW G X k n pc ls (.int y :: .int x :: st) ws := j_icmp_ne hX hd ht (fun h => absurd hc h) (fun _ => kf)

theorem j_if_eq (hX : jOK G X own cc Ts ret nL d mc ms post) {x : Int32} {off : Int} {tgt : Nat} (hd : decode cc pc = .ok (.ifCond .eq off, 3)) (ht : (pc : Int) + off = (tgt : Int)) (kt : (x = 0) → jW G X k n tgt ls st ws) (kf : ¬ (x = 0) → jW G X k n (pc + 3) ls st ws) : jW G X k n pc ls (.int x :: st) ws := by
  obtain ⟨p, e, R, s, m, args, below, meth, c, A, Q⟩ := X
  obtain ⟨hx, hb, hr, hml, hown, hts, hlocks, hK, hA, hN, hRoom, hCell, hQ⟩ := hX
  intro H locs la hP hD hS hL
  exact lv_if_eq hx hb hd ht (fun h => kt h H locs la hP hD hS hL) (fun h => kf h H locs la hP hD hS hL)

theorem j_if_eq_t (hX : jOK G X own cc Ts ret nL d mc ms post) {x : Int32} {off : Int} {tgt : Nat} (hd : decode cc pc = .ok (.ifCond .eq off, 3)) (ht : (pc : Int) + off = (tgt : Int)) (hc : (x = 0)) (kt : jW G X k n tgt ls st ws) : jW G X k n pc ls (.int x :: st) ws := j_if_eq hX hd ht (fun _ => kt) (fun h => absurd hc h)

theorem j_if_eq_f (hX : jOK G X own cc Ts ret nL d mc ms post) {x : Int32} {off : Int} (hd : decode cc pc = .ok (.ifCond .eq off, 3)) {tgt : Nat} (ht : (pc : Int) + off = (tgt : Int)) (hc : ¬ (x = 0)) (kf : jW G X k n (pc + 3) ls st ws) : jW G X k n pc ls (.int x :: st) ws := j_if_eq hX hd ht (fun h => absurd h hc) (fun _ => kf)

theorem j_icmp_eq (hX : jOK G X own cc Ts ret nL d mc ms post) {x y : Int32} {off : Int} {tgt : Nat} (hd : decode cc pc = .ok (.if_icmp .eq off, 3)) (ht : (pc : Int) + off = (tgt : Int)) (kt : (x = y) → jW G X k n tgt ls st ws) (kf : ¬ (x = y) → jW G X k n (pc + 3) ls st ws) : jW G X k n pc ls (.int y :: .int x :: st) ws := by
  obtain ⟨p, e, R, s, m, args, below, meth, c, A, Q⟩ := X
  obtain ⟨hx, hb, hr, hml, hown, hts, hlocks, hK, hA, hN, hRoom, hCell, hQ⟩ := hX
  intro H locs la hP hD hS hL
  exact lv_icmp_eq hx hb hd ht (fun h => kt h H locs la hP hD hS hL) (fun h => kf h H locs la hP hD hS hL)

theorem j_icmp_eq_t (hX : jOK G X own cc Ts ret nL d mc ms post) {x y : Int32} {off : Int} {tgt : Nat} (hd : decode cc pc = .ok (.if_icmp .eq off, 3)) (ht : (pc : Int) + off = (tgt : Int)) (hc : (x = y)) (kt : jW G X k n tgt ls st ws) : jW G X k n pc ls (.int y :: .int x :: st) ws := j_icmp_eq hX hd ht (fun _ => kt) (fun h => absurd hc h)

theorem j_icmp_eq_f (hX : jOK G X own cc Ts ret nL d mc ms post) {x y : Int32} {off : Int} (hd : decode cc pc = .ok (.if_icmp .eq off, 3)) {tgt : Nat} (ht : (pc : Int) + off = (tgt : Int)) (hc : ¬ (x = y)) (kf : jW G X k n (pc + 3) ls st ws) : jW G X k n pc ls (.int y :: .int x :: st) ws := j_icmp_eq hX hd ht (fun h => absurd h hc) (fun _ => kf)

theorem j_if_lt (hX : jOK G X own cc Ts ret nL d mc ms post) {x : Int32} {off : Int} {tgt : Nat} (hd : decode cc pc = .ok (.ifCond .lt off, 3)) (ht : (pc : Int) + off = (tgt : Int)) (kt : (x < 0) → jW G X k n tgt ls st ws) (kf : ¬ (x < 0) → jW G X k n (pc + 3) ls st ws) : jW G X k n pc ls (.int x :: st) ws := by
  obtain ⟨p, e, R, s, m, args, below, meth, c, A, Q⟩ := X
  obtain ⟨hx, hb, hr, hml, hown, hts, hlocks, hK, hA, hN, hRoom, hCell, hQ⟩ := hX
  intro H locs la hP hD hS hL
  exact lv_if_lt hx hb hd ht (fun h => kt h H locs la hP hD hS hL) (fun h => kf h H locs la hP hD hS hL)

theorem j_if_lt_t (hX : jOK G X own cc Ts ret nL d mc ms post) {x : Int32} {off : Int} {tgt : Nat} (hd : decode cc pc = .ok (.ifCond .lt off, 3)) (ht : (pc : Int) + off = (tgt : Int)) (hc : (x < 0)) (kt : jW G X k n tgt ls st ws) : jW G X k n pc ls (.int x :: st) ws := j_if_lt hX hd ht (fun _ => kt) (fun h => absurd hc h)

theorem j_if_lt_f (hX : jOK G X own cc Ts ret nL d mc ms post) {x : Int32} {off : Int} (hd : decode cc pc = .ok (.ifCond .lt off, 3)) {tgt : Nat} (ht : (pc : Int) + off = (tgt : Int)) (hc : ¬ (x < 0)) (kf : jW G X k n (pc + 3) ls st ws) : jW G X k n pc ls (.int x :: st) ws := j_if_lt hX hd ht (fun h => absurd h hc) (fun _ => kf)

theorem j_icmp_lt (hX : jOK G X own cc Ts ret nL d mc ms post) {x y : Int32} {off : Int} {tgt : Nat} (hd : decode cc pc = .ok (.if_icmp .lt off, 3)) (ht : (pc : Int) + off = (tgt : Int)) (kt : (x < y) → jW G X k n tgt ls st ws) (kf : ¬ (x < y) → jW G X k n (pc + 3) ls st ws) : jW G X k n pc ls (.int y :: .int x :: st) ws := by
  obtain ⟨p, e, R, s, m, args, below, meth, c, A, Q⟩ := X
  obtain ⟨hx, hb, hr, hml, hown, hts, hlocks, hK, hA, hN, hRoom, hCell, hQ⟩ := hX
  intro H locs la hP hD hS hL
  exact lv_icmp_lt hx hb hd ht (fun h => kt h H locs la hP hD hS hL) (fun h => kf h H locs la hP hD hS hL)

theorem j_icmp_lt_t (hX : jOK G X own cc Ts ret nL d mc ms post) {x y : Int32} {off : Int} {tgt : Nat} (hd : decode cc pc = .ok (.if_icmp .lt off, 3)) (ht : (pc : Int) + off = (tgt : Int)) (hc : (x < y)) (kt : jW G X k n tgt ls st ws) : jW G X k n pc ls (.int y :: .int x :: st) ws := j_icmp_lt hX hd ht (fun _ => kt) (fun h => absurd hc h)

theorem j_icmp_lt_f (hX : jOK G X own cc Ts ret nL d mc ms post) {x y : Int32} {off : Int} (hd : decode cc pc = .ok (.if_icmp .lt off, 3)) {tgt : Nat} (ht : (pc : Int) + off = (tgt : Int)) (hc : ¬ (x < y)) (kf : jW G X k n (pc + 3) ls st ws) : jW G X k n pc ls (.int y :: .int x :: st) ws := j_icmp_lt hX hd ht (fun h => absurd h hc) (fun _ => kf)

theorem j_if_ge (hX : jOK G X own cc Ts ret nL d mc ms post) {x : Int32} {off : Int} {tgt : Nat} (hd : decode cc pc = .ok (.ifCond .ge off, 3)) (ht : (pc : Int) + off = (tgt : Int)) (kt : (0 ≤ x) → jW G X k n tgt ls st ws) (kf : ¬ (0 ≤ x) → jW G X k n (pc + 3) ls st ws) : jW G X k n pc ls (.int x :: st) ws := by
  obtain ⟨p, e, R, s, m, args, below, meth, c, A, Q⟩ := X
  obtain ⟨hx, hb, hr, hml, hown, hts, hlocks, hK, hA, hN, hRoom, hCell, hQ⟩ := hX
  intro H locs la hP hD hS hL
  exact lv_if_ge hx hb hd ht (fun h => kt h H locs la hP hD hS hL) (fun h => kf h H locs la hP hD hS hL)

theorem j_if_ge_t (hX : jOK G X own cc Ts ret nL d mc ms post) {x : Int32} {off : Int} {tgt : Nat} (hd : decode cc pc = .ok (.ifCond .ge off, 3)) (ht : (pc : Int) + off = (tgt : Int)) (hc : (0 ≤ x)) (kt : jW G X k n tgt ls st ws) : jW G X k n pc ls (.int x :: st) ws := j_if_ge hX hd ht (fun _ => kt) (fun h => absurd hc h)

theorem j_if_ge_f (hX : jOK G X own cc Ts ret nL d mc ms post) {x : Int32} {off : Int} (hd : decode cc pc = .ok (.ifCond .ge off, 3)) {tgt : Nat} (ht : (pc : Int) + off = (tgt : Int)) (hc : ¬ (0 ≤ x)) (kf : jW G X k n (pc + 3) ls st ws) : jW G X k n pc ls (.int x :: st) ws := j_if_ge hX hd ht (fun h => absurd h hc) (fun _ => kf)

theorem j_icmp_ge (hX : jOK G X own cc Ts ret nL d mc ms post) {x y : Int32} {off : Int} {tgt : Nat} (hd : decode cc pc = .ok (.if_icmp .ge off, 3)) (ht : (pc : Int) + off = (tgt : Int)) (kt : (y ≤ x) → jW G X k n tgt ls st ws) (kf : ¬ (y ≤ x) → jW G X k n (pc + 3) ls st ws) : jW G X k n pc ls (.int y :: .int x :: st) ws := by
  obtain ⟨p, e, R, s, m, args, below, meth, c, A, Q⟩ := X
  obtain ⟨hx, hb, hr, hml, hown, hts, hlocks, hK, hA, hN, hRoom, hCell, hQ⟩ := hX
  intro H locs la hP hD hS hL
  exact lv_icmp_ge hx hb hd ht (fun h => kt h H locs la hP hD hS hL) (fun h => kf h H locs la hP hD hS hL)

theorem j_icmp_ge_t (hX : jOK G X own cc Ts ret nL d mc ms post) {x y : Int32} {off : Int} {tgt : Nat} (hd : decode cc pc = .ok (.if_icmp .ge off, 3)) (ht : (pc : Int) + off = (tgt : Int)) (hc : (y ≤ x)) (kt : jW G X k n tgt ls st ws) : jW G X k n pc ls (.int y :: .int x :: st) ws := j_icmp_ge hX hd ht (fun _ => kt) (fun h => absurd hc h)

theorem j_icmp_ge_f (hX : jOK G X own cc Ts ret nL d mc ms post) {x y : Int32} {off : Int} (hd : decode cc pc = .ok (.if_icmp .ge off, 3)) {tgt : Nat} (ht : (pc : Int) + off = (tgt : Int)) (hc : ¬ (y ≤ x)) (kf : jW G X k n (pc + 3) ls st ws) : jW G X k n pc ls (.int y :: .int x :: st) ws := j_icmp_ge hX hd ht (fun h => absurd h hc) (fun _ => kf)

theorem j_if_gt (hX : jOK G X own cc Ts ret nL d mc ms post) {x : Int32} {off : Int} {tgt : Nat} (hd : decode cc pc = .ok (.ifCond .gt off, 3)) (ht : (pc : Int) + off = (tgt : Int)) (kt : (0 < x) → jW G X k n tgt ls st ws) (kf : ¬ (0 < x) → jW G X k n (pc + 3) ls st ws) : jW G X k n pc ls (.int x :: st) ws := by
  obtain ⟨p, e, R, s, m, args, below, meth, c, A, Q⟩ := X
  obtain ⟨hx, hb, hr, hml, hown, hts, hlocks, hK, hA, hN, hRoom, hCell, hQ⟩ := hX
  intro H locs la hP hD hS hL
  exact lv_if_gt hx hb hd ht (fun h => kt h H locs la hP hD hS hL) (fun h => kf h H locs la hP hD hS hL)

theorem j_if_gt_t (hX : jOK G X own cc Ts ret nL d mc ms post) {x : Int32} {off : Int} {tgt : Nat} (hd : decode cc pc = .ok (.ifCond .gt off, 3)) (ht : (pc : Int) + off = (tgt : Int)) (hc : (0 < x)) (kt : jW G X k n tgt ls st ws) : jW G X k n pc ls (.int x :: st) ws := j_if_gt hX hd ht (fun _ => kt) (fun h => absurd hc h)

theorem j_if_gt_f (hX : jOK G X own cc Ts ret nL d mc ms post) {x : Int32} {off : Int} (hd : decode cc pc = .ok (.ifCond .gt off, 3)) {tgt : Nat} (ht : (pc : Int) + off = (tgt : Int)) (hc : ¬ (0 < x)) (kf : jW G X k n (pc + 3) ls st ws) : jW G X k n pc ls (.int x :: st) ws := j_if_gt hX hd ht (fun h => absurd h hc) (fun _ => kf)

theorem j_icmp_gt (hX : jOK G X own cc Ts ret nL d mc ms post) {x y : Int32} {off : Int} {tgt : Nat} (hd : decode cc pc = .ok (.if_icmp .gt off, 3)) (ht : (pc : Int) + off = (tgt : Int)) (kt : (y < x) → jW G X k n tgt ls st ws) (kf : ¬ (y < x) → jW G X k n (pc + 3) ls st ws) : jW G X k n pc ls (.int y :: .int x :: st) ws := by
  obtain ⟨p, e, R, s, m, args, below, meth, c, A, Q⟩ := X
  obtain ⟨hx, hb, hr, hml, hown, hts, hlocks, hK, hA, hN, hRoom, hCell, hQ⟩ := hX
  intro H locs la hP hD hS hL
  exact lv_icmp_gt hx hb hd ht (fun h => kt h H locs la hP hD hS hL) (fun h => kf h H locs la hP hD hS hL)

theorem j_icmp_gt_t (hX : jOK G X own cc Ts ret nL d mc ms post) {x y : Int32} {off : Int} {tgt : Nat} (hd : decode cc pc = .ok (.if_icmp .gt off, 3)) (ht : (pc : Int) + off = (tgt : Int)) (hc : (y < x)) (kt : jW G X k n tgt ls st ws) : jW G X k n pc ls (.int y :: .int x :: st) ws := j_icmp_gt hX hd ht (fun _ => kt) (fun h => absurd hc h)

theorem j_icmp_gt_f (hX : jOK G X own cc Ts ret nL d mc ms post) {x y : Int32} {off : Int} (hd : decode cc pc = .ok (.if_icmp .gt off, 3)) {tgt : Nat} (ht : (pc : Int) + off = (tgt : Int)) (hc : ¬ (y < x)) (kf : jW G X k n (pc + 3) ls st ws) : jW G X k n pc ls (.int y :: .int x :: st) ws := j_icmp_gt hX hd ht (fun h => absurd h hc) (fun _ => kf)

theorem j_if_le (hX : jOK G X own cc Ts ret nL d mc ms post) {x : Int32} {off : Int} {tgt : Nat} (hd : decode cc pc = .ok (.ifCond .le off, 3)) (ht : (pc : Int) + off = (tgt : Int)) (kt : (x ≤ 0) → jW G X k n tgt ls st ws) (kf : ¬ (x ≤ 0) → jW G X k n (pc + 3) ls st ws) : jW G X k n pc ls (.int x :: st) ws := by
  obtain ⟨p, e, R, s, m, args, below, meth, c, A, Q⟩ := X
  obtain ⟨hx, hb, hr, hml, hown, hts, hlocks, hK, hA, hN, hRoom, hCell, hQ⟩ := hX
  intro H locs la hP hD hS hL
  exact lv_if_le hx hb hd ht (fun h => kt h H locs la hP hD hS hL) (fun h => kf h H locs la hP hD hS hL)

theorem j_if_le_t (hX : jOK G X own cc Ts ret nL d mc ms post) {x : Int32} {off : Int} {tgt : Nat} (hd : decode cc pc = .ok (.ifCond .le off, 3)) (ht : (pc : Int) + off = (tgt : Int)) (hc : (x ≤ 0)) (kt : jW G X k n tgt ls st ws) : jW G X k n pc ls (.int x :: st) ws := j_if_le hX hd ht (fun _ => kt) (fun h => absurd hc h)

theorem j_if_le_f (hX : jOK G X own cc Ts ret nL d mc ms post) {x : Int32} {off : Int} (hd : decode cc pc = .ok (.ifCond .le off, 3)) {tgt : Nat} (ht : (pc : Int) + off = (tgt : Int)) (hc : ¬ (x ≤ 0)) (kf : jW G X k n (pc + 3) ls st ws) : jW G X k n pc ls (.int x :: st) ws := j_if_le hX hd ht (fun h => absurd h hc) (fun _ => kf)

theorem j_icmp_le (hX : jOK G X own cc Ts ret nL d mc ms post) {x y : Int32} {off : Int} {tgt : Nat} (hd : decode cc pc = .ok (.if_icmp .le off, 3)) (ht : (pc : Int) + off = (tgt : Int)) (kt : (x ≤ y) → jW G X k n tgt ls st ws) (kf : ¬ (x ≤ y) → jW G X k n (pc + 3) ls st ws) : jW G X k n pc ls (.int y :: .int x :: st) ws := by
  obtain ⟨p, e, R, s, m, args, below, meth, c, A, Q⟩ := X
  obtain ⟨hx, hb, hr, hml, hown, hts, hlocks, hK, hA, hN, hRoom, hCell, hQ⟩ := hX
  intro H locs la hP hD hS hL
  exact lv_icmp_le hx hb hd ht (fun h => kt h H locs la hP hD hS hL) (fun h => kf h H locs la hP hD hS hL)

theorem j_icmp_le_t (hX : jOK G X own cc Ts ret nL d mc ms post) {x y : Int32} {off : Int} {tgt : Nat} (hd : decode cc pc = .ok (.if_icmp .le off, 3)) (ht : (pc : Int) + off = (tgt : Int)) (hc : (x ≤ y)) (kt : jW G X k n tgt ls st ws) : jW G X k n pc ls (.int y :: .int x :: st) ws := j_icmp_le hX hd ht (fun _ => kt) (fun h => absurd hc h)

theorem j_icmp_le_f (hX : jOK G X own cc Ts ret nL d mc ms post) {x y : Int32} {off : Int} (hd : decode cc pc = .ok (.if_icmp .le off, 3)) {tgt : Nat} (ht : (pc : Int) + off = (tgt : Int)) (hc : ¬ (x ≤ y)) (kf : jW G X k n (pc + 3) ls st ws) : jW G X k n pc ls (.int y :: .int x :: st) ws := j_icmp_le hX hd ht (fun h => absurd h hc) (fun _ => kf)

theorem j_ifnull (hX : jOK G X own cc Ts ret nL d mc ms post) {x : Nat} {off : Int} (hd : decode cc pc = .ok (.ifnull off, 3)) (kk : jW G X k n (pc + 3) ls st ws) : jW G X k n pc ls (.ref x :: st) ws := by
  obtain ⟨p, e, R, s, m, args, below, meth, c, A, Q⟩ := X
  obtain ⟨hx, hb, hr, hml, hown, hts, hlocks, hK, hA, hN, hRoom, hCell, hQ⟩ := hX
  intro H locs la hP hD hS hL
  exact lv_ifnull hx hb hd (kk H locs la hP hD hS hL)

theorem j_ifnullN (hX : jOK G X own cc Ts ret nL d mc ms post) {off : Int} {tgt : Nat} (hd : decode cc pc = .ok (.ifnull off, 3)) (ht : (pc : Int) + off = (tgt : Int)) (kk : jW G X k n tgt ls st ws) : jW G X k n pc ls (.null :: st) ws := by
  obtain ⟨p, e, R, s, m, args, below, meth, c, A, Q⟩ := X
  obtain ⟨hx, hb, hr, hml, hown, hts, hlocks, hK, hA, hN, hRoom, hCell, hQ⟩ := hX
  intro H locs la hP hD hS hL
  exact lv_ifnullN hx hb hd ht (kk H locs la hP hD hS hL)

theorem j_ifnonnull (hX : jOK G X own cc Ts ret nL d mc ms post) {x : Nat} {off : Int} {tgt : Nat} (hd : decode cc pc = .ok (.ifnonnull off, 3)) (ht : (pc : Int) + off = (tgt : Int)) (kk : jW G X k n tgt ls st ws) : jW G X k n pc ls (.ref x :: st) ws := by
  obtain ⟨p, e, R, s, m, args, below, meth, c, A, Q⟩ := X
  obtain ⟨hx, hb, hr, hml, hown, hts, hlocks, hK, hA, hN, hRoom, hCell, hQ⟩ := hX
  intro H locs la hP hD hS hL
  exact lv_ifnonnull hx hb hd ht (kk H locs la hP hD hS hL)

theorem j_ifnonnullN (hX : jOK G X own cc Ts ret nL d mc ms post) {off : Int} (hd : decode cc pc = .ok (.ifnonnull off, 3)) (kk : jW G X k n (pc + 3) ls st ws) : jW G X k n pc ls (.null :: st) ws := by
  obtain ⟨p, e, R, s, m, args, below, meth, c, A, Q⟩ := X
  obtain ⟨hx, hb, hr, hml, hown, hts, hlocks, hK, hA, hN, hRoom, hCell, hQ⟩ := hX
  intro H locs la hP hD hS hL
  exact lv_ifnonnullN hx hb hd (kk H locs la hP hD hS hL)

/-- a field's link among the words: class number ci, its place f; fin: final; ty: its type -/
def jF (Ts : List Cond) (own : String) (idx ci f : Nat) (fin : Bool) (ty : FieldType) : Prop := ∃ (q : vw_C) (ty0 : Nat → FieldType), vwCl[ci]? = some q ∧ f < q.2.2 ∧ (∀ w ∈ u_ws q.1 q.2.1 q.2.2, w ∈ Ts) ∧ Cond.fieldLink own idx (q.2.1 f).1 (q.2.1 f).2.1 (q.2.1 f).2.2.1 ∈ Ts ∧
  (∀ j, j < q.2.2 → parseFieldDescriptor (q.2.1 j).2.2.1 = some (ty0 j)) ∧ (∀ a, a < q.2.2 → ∀ b, b < q.2.2 → a ≠ b → (q.2.1 a).2.1 ≠ (q.2.1 b).2.1) ∧ (q.2.1 f).2.2.2 = fin ∧ parseFieldDescriptor (q.2.1 f).2.2.1 = some ty ∧ (fin = true → (q.2.1 f).1 = own)

theorem j_getf (hX : jOK G X own cc Ts ret nL d mc ms post) {idx ci f a : Nat} {fin : Bool} {ty : FieldType} {fs : List Value} {v : Value} (hd : decode cc pc = .ok (.getfield idx, 3)) (hF : jF Ts own idx ci f fin ty) (q : Nat) (he : ws[q]? = some (a, .inr (ci, fs))) (hv : fs[f]? = some v) (kk : jW G X k n (pc + 3) ls (v :: st) ws) : jW G X k n pc ls (.ref a :: st) ws := by
  obtain ⟨p, e, R, s, m, args, below, meth, c, A, Q⟩ := X
  obtain ⟨hx, hb, hr, hml, hown, hts, hlocks, hK, hA, hN, hRoom, hCell, hQ⟩ := hX
  intro H locs la hP hD hS hL
  obtain ⟨⟨C, T, N⟩, ty0, f1, f2, f3, f4, -⟩ := hF
  exact va_get hx hb hts f3 hown hK hP q he f1 f f2 (hts _ f4) (fun _ h9 => h9) hv hd (kk H locs la hP hD hS hL)

theorem j_putf (hX : jOK G X own cc Ts ret nL d mc ms post) {idx ci f a : Nat} {ty : FieldType} {fs : List Value} {v : Value} {ws' : va_W} (hd : decode cc pc = .ok (.putfield idx, 3)) (hF : jF Ts own idx ci f false ty) (q : Nat) (he : ws[q]? = some (a, .inr (ci, fs))) (hl : f < fs.length) (hn : narrow ty v = v) (hfit : fits ty v = true) (hw : ws.set q (a, .inr (ci, fs.set f v)) = ws') (kk : jW G X k n (pc + 3) ls st ws') : jW G X k n pc ls (v :: .ref a :: st) ws := by
  obtain ⟨p, e, R, s, m, args, below, meth, c, A, Q⟩ := X
  obtain ⟨hx, hb, hr, hml, hown, hts, hlocks, hK, hA, hN, hRoom, hCell, hQ⟩ := hX
  intro H locs la hP hD hS hL
  subst hw
  obtain ⟨⟨C, T, N⟩, ty0, f1, f2, f3, f4, f5, f6, f7, f8, -⟩ := hF
  exact va_put hx hb hts f3 ty0 f5 f6 hown hK hP hD hS q he f1 f f2 (hts _ f4) (fun _ h9 => h9) f7 f8 hn hfit hl hd (fun H1 locs1 hP1 hD1 hS1 => kk H1 locs1 la hP1 hD1 hS1 hL)

theorem j_iald (hX : jOK G X own cc Ts ret nL d mc ms post) {a N : Nat} {f : Nat → Int32} {i v : Int32} (hd : decode cc pc = .ok (.iaload, 1)) (q : Nat) (he : ws[q]? = some (a, .inl (G.2.2 0, N, .inl f))) (hin : vp_in i N) (hv : f i.toNatClampNeg = v) (kk : jW G X k n (pc + 1) ls (.int v :: st) ws) : jW G X k n pc ls (.int i :: .ref a :: st) ws := by
  obtain ⟨p, e, R, s, m, args, below, meth, c, A, Q⟩ := X
  obtain ⟨hx, hb, hr, hml, hown, hts, hlocks, hK, hA, hN, hRoom, hCell, hQ⟩ := hX
  intro H locs la hP hD hS hL
  subst hv
  exact va_iald hx hb hK hP q 0 he rfl hin hd (kk H locs la hP hD hS hL)

theorem j_zald (hX : jOK G X own cc Ts ret nL d mc ms post) {a N : Nat} {f : Nat → Int32} {i v : Int32} (hd : decode cc pc = .ok (.baload, 1)) (q : Nat) (he : ws[q]? = some (a, .inl (G.2.2 2, N, .inl f))) (hin : vp_in i N) (hv : f i.toNatClampNeg = v) (kk : jW G X k n (pc + 1) ls (.int v :: st) ws) : jW G X k n pc ls (.int i :: .ref a :: st) ws := by
  obtain ⟨p, e, R, s, m, args, below, meth, c, A, Q⟩ := X
  obtain ⟨hx, hb, hr, hml, hown, hts, hlocks, hK, hA, hN, hRoom, hCell, hQ⟩ := hX
  intro H locs la hP hD hS hL
  subst hv
  exact va_zald hx hb hK hP q 2 he rfl hin hd (kk H locs la hP hD hS hL)

theorem j_iast (hX : jOK G X own cc Ts ret nL d mc ms post) {a N : Nat} {f : Nat → Int32} {i x : Int32} {ws' : va_W} (hd : decode cc pc = .ok (.iastore, 1)) (q : Nat) (he : ws[q]? = some (a, .inl (G.2.2 0, N, .inl f))) (hin : vp_in i N) (hw : ws.set q (a, .inl (G.2.2 0, N, .inl (upd f i.toNatClampNeg x))) = ws') (kk : jW G X k n (pc + 1) ls st ws') : jW G X k n pc ls (.int x :: .int i :: .ref a :: st) ws := by
  obtain ⟨p, e, R, s, m, args, below, meth, c, A, Q⟩ := X
  obtain ⟨hx, hb, hr, hml, hown, hts, hlocks, hK, hA, hN, hRoom, hCell, hQ⟩ := hX
  intro H locs la hP hD hS hL
  subst hw
  exact va_iast hx hb hK hP hD hS q 0 he rfl hin hd (fun H1 locs1 hP1 hD1 hS1 => kk H1 locs1 la hP1 hD1 hS1 hL)

theorem j_zast (hX : jOK G X own cc Ts ret nL d mc ms post) {a N : Nat} {f : Nat → Int32} {i x : Int32} {ws' : va_W} (hd : decode cc pc = .ok (.bastore, 1)) (q : Nat) (he : ws[q]? = some (a, .inl (G.2.2 2, N, .inl f))) (hin : vp_in i N) (hw : ws.set q (a, .inl (G.2.2 2, N, .inl (upd f i.toNatClampNeg (vp_nar .boolean x)))) = ws') (kk : jW G X k n (pc + 1) ls st ws') : jW G X k n pc ls (.int x :: .int i :: .ref a :: st) ws := by
  obtain ⟨p, e, R, s, m, args, below, meth, c, A, Q⟩ := X
  obtain ⟨hx, hb, hr, hml, hown, hts, hlocks, hK, hA, hN, hRoom, hCell, hQ⟩ := hX
  intro H locs la hP hD hS hL
  subst hw
  exact va_zast hx hb hK hP hD hS q 2 he rfl hin hd (fun H1 locs1 hP1 hD1 hS1 => kk H1 locs1 la hP1 hD1 hS1 hL)

theorem j_alen (hX : jOK G X own cc Ts ret nL d mc ms post) {a : Nat} {cA : ClassId} {x : vp_A} {v : Int32} {ty : FieldType} (hd : decode cc pc = .ok (.arraylength, 1)) (q : Nat) (he : ws[q]? = some (a, .inl (cA, x))) (t0 : Nat) (ht : (jtys G.2.2)[t0]? = some (cA, ty)) (hv : Int32.ofNat x.1 = v) (kk : jW G X k n (pc + 1) ls (.int v :: st) ws) : jW G X k n pc ls (.ref a :: st) ws := by
  obtain ⟨p, e, R, s, m, args, below, meth, c, A, Q⟩ := X
  obtain ⟨hx, hb, hr, hml, hown, hts, hlocks, hK, hA, hN, hRoom, hCell, hQ⟩ := hX
  intro H locs la hP hD hS hL
  exact va_alen hx hb hK hP q t0 he ht hv hd (kk H locs la hP hD hS hL)

theorem j_aald (hX : jOK G X own cc Ts ret nL d mc ms post) {a N : Nat} {f : Nat → Option Nat} {i : Int32} {v : Value} (hd : decode cc pc = .ok (.aaload, 1)) (q : Nat) (he : ws[q]? = some (a, .inl (G.2.2 3, N, .inr (.inr (.inr (.inr f)))))) (hin : vp_in i N) (hv : va_rf (f i.toNatClampNeg) = v) (kk : jW G X k n (pc + 1) ls (v :: st) ws) : jW G X k n pc ls (.int i :: .ref a :: st) ws := by
  obtain ⟨p, e, R, s, m, args, below, meth, c, A, Q⟩ := X
  obtain ⟨hx, hb, hr, hml, hown, hts, hlocks, hK, hA, hN, hRoom, hCell, hQ⟩ := hX
  intro H locs la hP hD hS hL
  subst hv
  exact va_aldq hx hb hK hP q 3 he rfl hin hd (kk H locs la hP hD hS hL)

theorem j_aast (hX : jOK G X own cc Ts ret nL d mc ms post) {a b N ci : Nat} {f : Nat → Option Nat} {i : Int32} {vs : List Value} {cq : vw_C} {ws' : va_W} (hd : decode cc pc = .ok (.aastore, 1)) (q qk : Nat) (he : ws[q]? = some (a, .inl (G.2.2 3, N, .inr (.inr (.inr (.inr f)))))) (hv : ws[qk]? = some (b, .inr (ci, vs))) (hc : vwCl[ci]? = some cq) (hca : cq.1 ∈ jCastL) (hin : vp_in i N) (hw : ws.set q (a, .inl (G.2.2 3, N, .inr (.inr (.inr (.inr (va_up f i.toNatClampNeg (some b))))))) = ws') (kk : jW G X k n (pc + 1) ls st ws') : jW G X k n pc ls (.ref b :: .int i :: .ref a :: st) ws := by
  obtain ⟨p, e, R, s, m, args, below, meth, c, A, Q⟩ := X
  obtain ⟨hx, hb, hr, hml, hown, hts, hlocks, hK, hA, hN, hRoom, hCell, hQ⟩ := hX
  intro H locs la hP hD hS hL
  subst hw
  exact va_astqO hx hb hK hP hD hS q 3 qk ci he rfl (hN.2.1 _ hca) hv hc hin hd (fun H1 locs1 hP1 hD1 hS1 => kk H1 locs1 la hP1 hD1 hS1 hL)

theorem j_iret  (hX : jOK G X own cc Ts (some .int) nL d mc ms post) {v : Int32} (hd : decode cc pc = .ok (.ireturn, 1)) (hp : post (some (.int v)) ws) : jW G X mc ms pc ls [.int v] ws := by
  obtain ⟨p, e, R, s, m, args, below, meth, c, A, Q⟩ := X
  obtain ⟨hx, hb, hr, hml, hown, hts, hlocks, hK, hA, hN, hRoom, hCell, hQ⟩ := hX
  intro H locs la hP hD hS hL
  intro T hT XT
  obtain ⟨t, h1, h2⟩ := W.iret (v := v) (Qc := jQ G.2.1 post A) (free := A) hx hb hr (fun t ht hW => ⟨⟨(some (.int v)), ws, rfl, hp, by rw [ht]; exact hP, hD⟩, hS.F ht⟩) hS.2.2 hd hlocks T hT XT
  exact ⟨t, h1, hQ t h2⟩

theorem j_zret {rt : FieldType} (hX : jOK G X own cc Ts (some rt) nL d mc ms post) {v : Int32} (hn : narrow rt (.int v) = .int v) (hd : decode cc pc = .ok (.ireturn, 1)) (hp : post (some (.int v)) ws) : jW G X mc ms pc ls [.int v] ws := by
  obtain ⟨p, e, R, s, m, args, below, meth, c, A, Q⟩ := X
  obtain ⟨hx, hb, hr, hml, hown, hts, hlocks, hK, hA, hN, hRoom, hCell, hQ⟩ := hX
  intro H locs la hP hD hS hL
  intro T hT XT
  obtain ⟨t, h1, h2⟩ := W.zret (v := v) (Qc := jQ G.2.1 post A) (free := A) hx hb hr hn (fun t ht hW => ⟨⟨(some (.int v)), ws, rfl, hp, by rw [ht]; exact hP, hD⟩, hS.F ht⟩) hS.2.2 hd hlocks T hT XT
  exact ⟨t, h1, hQ t h2⟩

theorem j_lret  (hX : jOK G X own cc Ts (some .long) nL d mc ms post) {v : Int64} (hd : decode cc pc = .ok (.lreturn, 1)) (hp : post (some (.long v)) ws) : jW G X mc ms pc ls [.long v] ws := by
  obtain ⟨p, e, R, s, m, args, below, meth, c, A, Q⟩ := X
  obtain ⟨hx, hb, hr, hml, hown, hts, hlocks, hK, hA, hN, hRoom, hCell, hQ⟩ := hX
  intro H locs la hP hD hS hL
  intro T hT XT
  obtain ⟨t, h1, h2⟩ := W.lret (v := v) (Qc := jQ G.2.1 post A) (free := A) hx hb hr (fun t ht hW => ⟨⟨(some (.long v)), ws, rfl, hp, by rw [ht]; exact hP, hD⟩, hS.F ht⟩) hS.2.2 hd hlocks T hT XT
  exact ⟨t, h1, hQ t h2⟩

theorem j_vret  (hX : jOK G X own cc Ts none nL d mc ms post)  (hd : decode cc pc = .ok (.return_, 1)) (hp : post none ws) : jW G X mc ms pc ls [] ws := by
  obtain ⟨p, e, R, s, m, args, below, meth, c, A, Q⟩ := X
  obtain ⟨hx, hb, hr, hml, hown, hts, hlocks, hK, hA, hN, hRoom, hCell, hQ⟩ := hX
  intro H locs la hP hD hS hL
  intro T hT XT
  obtain ⟨t, h1, h2⟩ := W.vret (Qc := jQ G.2.1 post A) (free := A) hx hb hr (fun t ht hW => ⟨⟨none, ws, rfl, hp, by rw [ht]; exact hP, hD⟩, hS.F ht⟩) hS.2.2 hd hlocks T hT XT
  exact ⟨t, h1, hQ t h2⟩

theorem j_aret {rt : FieldType} (hX : jOK G X own cc Ts (some rt) nL d mc ms post) {v : Value} (hrt : (∃ n, rt = .object n) ∨ ∃ t, rt = .array t) (hv : v = .null ∨ ∃ a, v = .ref a) (hd : decode cc pc = .ok (.areturn, 1)) (hp : post (some v) ws) : jW G X mc ms pc ls [v] ws := by
  obtain ⟨p, e, R, s, m, args, below, meth, c, A, Q⟩ := X
  obtain ⟨hx, hb, hr, hml, hown, hts, hlocks, hK, hA, hN, hRoom, hCell, hQ⟩ := hX
  intro H locs la hP hD hS hL
  intro T hT XT
  obtain ⟨t, h1, h2⟩ := W.aret (v := v) (Qc := jQ G.2.1 post A) (free := A) hx hb hr hrt hv (fun t ht hW => ⟨⟨(some v), ws, rfl, hp, by rw [ht]; exact hP, hD⟩, hS.F ht⟩) hS.2.2 hd hlocks T hT XT
  exact ⟨t, h1, hQ t h2⟩

theorem jW.widen {k' n' : Nat} (h1 : k ≤ k') (h2 : n ≤ n') (kk : jW G X k' n' pc ls st ws) : jW G X k n pc ls st ws := by
  obtain ⟨p, e, R, s, m, args, below, meth, c, A, Q⟩ := X
  intro H locs la hP hD hS hL
  exact W.widen h1 h2 (kk H locs la hP hD hS hL)
/-- another order of the cells, or fewer -/
theorem jW.perm {ws' : va_W} (is : List Nat) (hs : is.map (fun i => ws[i]?) = ws'.map some) (hn : va_nd is = true) (kk : jW G X k n pc ls st ws') : jW G X k n pc ls st ws := by
  obtain ⟨p, e, R, s, m, args, below, meth, c, A, Q⟩ := X
  intro H locs la hP hD hS hL
  refine kk H locs la ?_ (hD.sub is hn hs) hS hL
  intro j q hj
  have h1 : (is.map (fun i => ws[i]?))[j]? = some (some q) := by rw [hs, List.getElem?_map, hj]; rfl
  rw [List.getElem?_map] at h1
  cases hi : is[j]? with
  | none => rw [hi] at h1; cases h1
  | some i =>
    rw [hi] at h1
    exact hP i q (Option.some.inj h1)
/-- some locals forgotten -/
def jsub : List (Option Value) → List (Option Value) → Prop
  | [], [] => True
  | a :: l, b :: l' => (b = none ∨ b = a) ∧ jsub l l'
  | _, _ => False
theorem jsub_at : ∀ {l l' : List (Option Value)}, jsub l l' → l'.length = l.length ∧ ∀ (i : Nat) (v : Value), l'[i]? = some (some v) → l[i]? = some (some v)
  | [], [], _ => ⟨rfl, fun i v h => by simp at h⟩
  | a :: l, b :: l', h => by
    obtain ⟨h1, h2⟩ := h
    obtain ⟨h3, h4⟩ := jsub_at h2
    refine ⟨by simp [h3], fun i v hi => ?_⟩
    cases i with
    | zero =>
      have hb : b = some v := by simpa using hi
      rcases h1 with h1 | h1
      · rw [h1] at hb
        cases hb
      · rw [← h1, hb]
        rfl
    | succ i =>
      have := h4 i v (by simpa using hi)
      simpa using this
  | [], _ :: _, h => h.elim
  | _ :: _, [], h => h.elim
theorem jW.drop {ls' : List (Option Value)} (h : jsub ls ls') (kk : jW G X k n pc ls' st ws) : jW G X k n pc ls st ws := by
  obtain ⟨p, e, R, s, m, args, below, meth, c, A, Q⟩ := X
  intro H locs la hP hD hS hL
  obtain ⟨h1, h2⟩ := jsub_at h
  exact kk H locs la hP hD hS ⟨hL.1.trans h1.symm, hL.2.1, fun i v hi => hL.2.2 i v (h2 i v hi)⟩
/-- a top of the stack under another name -/
theorem jW.top {x y : Int32} (h : x = y) (kk : jW G X k n pc ls (.int y :: st) ws) : jW G X k n pc ls (.int x :: st) ws := h ▸ kk
theorem jW.world {ws' : va_W} (h : ws = ws') (kk : jW G X k n pc ls st ws') : jW G X k n pc ls st ws := h ▸ kk
theorem jW.locals {ls' : List (Option Value)} (h : ls = ls') (kk : jW G X k n pc ls' st ws) : jW G X k n pc ls st ws := h ▸ kk
end JR

/-- distinct addresses, by the list of them -/
theorem j_D_iff {A : Nat → Prop} {ws : va_W} : va_D A ws ↔ (ws.map Prod.fst).Nodup ∧ ∀ q ∈ ws, A q.1 := by
  constructor
  · intro h
    refine ⟨?_, fun q hq => ?_⟩
    · refine List.pairwise_iff_getElem.mpr ?_
      intro i j hi hj hij e9
      have hi' : i < ws.length := by simpa using hi
      have hj' : j < ws.length := by simpa using hj
      have e : (ws[i]).1 = (ws[j]).1 := by simpa using e9
      have := h.1 i j ws[i] ws[j] (List.getElem?_eq_getElem hi') (List.getElem?_eq_getElem hj') e
      omega
    · obtain ⟨i, hi⟩ := List.getElem?_of_mem hq
      exact h.2 i q hi
  · intro h
    refine ⟨fun i j p q hi hj hpq => ?_, fun i q hi => h.2 q (List.mem_of_getElem? hi)⟩
    have hi' := (List.getElem?_eq_some_iff.mp hi).1
    have hj' := (List.getElem?_eq_some_iff.mp hj).1
    have e1 := (List.getElem?_eq_some_iff.mp hi).2
    have e2 := (List.getElem?_eq_some_iff.mp hj).2
    have hnd := List.pairwise_iff_getElem.mp h.1
    rcases Nat.lt_trichotomy i j with hl | hl | hl
    · refine absurd ?_ (hnd i j (by simpa using hi') (by simpa using hj') hl)
      rw [List.getElem_map, List.getElem_map, e1, e2]
      exact hpq
    · exact hl
    · refine absurd ?_ (hnd j i (by simpa using hj') (by simpa using hi') hl)
      rw [List.getElem_map, List.getElem_map, e1, e2]
      exact hpq.symm
/-- the frame rule: the cells w0 in the middle become w1 -/
theorem j_frame {A : Nat → Prop} {D : va_G} {wa w0 wb w1 : va_W} {H H1 : Heap} (hP : va_P D vwCl (wa ++ (w0 ++ wb)) H) (hD : va_D A (wa ++ (w0 ++ wb)))
    (hk : ∀ q : Nat, q < H.size → ¬ va_A w0 H.size q → H1[q]? = H[q]?) (hF : ∀ q, va_A w0 H.size q → A q) (hP1 : va_P D vwCl w1 H1) (hD1 : va_D (va_A w0 H.size) w1) : va_P D vwCl (wa ++ (w1 ++ wb)) H1 ∧ va_D A (wa ++ (w1 ++ wb)) := by
  have hPm : ∀ q ∈ wa ++ (w0 ++ wb), va_at D vwCl q H := fun q hq => by
    obtain ⟨i, hi⟩ := List.getElem?_of_mem hq
    exact hP i q hi
  obtain ⟨hn, hAq⟩ := j_D_iff.mp hD
  obtain ⟨hn1, hAq1⟩ := j_D_iff.mp hD1
  rw [List.map_append, List.map_append, List.nodup_append] at hn
  obtain ⟨na, n0b, nab⟩ := hn
  rw [List.nodup_append] at n0b
  obtain ⟨n0, nb, n0b⟩ := n0b
  have apart : ∀ q ∈ wa ++ wb, q.1 < H.size ∧ ¬ va_A w0 H.size q.1 := by
    intro q hq
    have hq' : q ∈ wa ++ (w0 ++ wb) := by
      rcases List.mem_append.mp hq with h | h
      · exact List.mem_append_left _ h
      · exact List.mem_append_right _ (List.mem_append_right _ h)
    have hlt := (hPm q hq').lt
    refine ⟨hlt, fun hA => ?_⟩
    rcases hA with ⟨i, e, hi⟩ | h
    · have hm : q.1 ∈ w0.map Prod.fst := List.mem_map.mpr ⟨_, List.mem_of_getElem? hi, rfl⟩
      rcases List.mem_append.mp hq with h | h
      · exact nab q.1 (List.mem_map.mpr ⟨q, h, rfl⟩) q.1 (List.mem_append_left _ hm) rfl
      · exact n0b q.1 hm q.1 (List.mem_map.mpr ⟨q, h, rfl⟩) rfl
    · omega
  have hx : ∀ q ∈ wa ++ wb, ∀ r ∈ w1, q.1 ≠ r.1 := fun q hq r hr e => (apart q hq).2 (e ▸ hAq1 r hr)
  constructor
  · intro i q hi
    have hm := List.mem_of_getElem? hi
    have hcase : q ∈ w1 ∨ q ∈ wa ++ wb := by
      rcases List.mem_append.mp hm with h | h
      · exact Or.inr (List.mem_append_left _ h)
      · rcases List.mem_append.mp h with h | h
        · exact Or.inl h
        · exact Or.inr (List.mem_append_right _ h)
    rcases hcase with h | h
    · obtain ⟨j, hj⟩ := List.getElem?_of_mem h
      exact hP1 j q hj
    · have h3 := apart q h
      refine (hPm q ?_).kept (hk q.1 h3.1 h3.2)
      rcases List.mem_append.mp h with h | h
      · exact List.mem_append_left _ h
      · exact List.mem_append_right _ (List.mem_append_right _ h)
  · refine j_D_iff.mpr ⟨?_, fun q hq => ?_⟩
    · rw [List.map_append, List.map_append, List.nodup_append, List.nodup_append]
      refine ⟨na, ⟨hn1, nb, ?_⟩, ?_⟩
      · intro a ha b hb e
        obtain ⟨r, hr, rfl⟩ := List.mem_map.mp ha
        obtain ⟨q, hq, rfl⟩ := List.mem_map.mp hb
        exact hx q (List.mem_append_right _ hq) r hr e.symm
      · intro a ha b hb e
        obtain ⟨q, hq, rfl⟩ := List.mem_map.mp ha
        rcases List.mem_append.mp hb with h | h
        · obtain ⟨r, hr, rfl⟩ := List.mem_map.mp h
          exact hx q (List.mem_append_left _ hq) r hr e
        · exact nab _ ha _ (List.mem_append_right _ h) e
    · rcases List.mem_append.mp hq with h | h
      · exact hAq q (List.mem_append_left _ h)
      · rcases List.mem_append.mp h with h | h
        · exact hF _ (hAq1 q h)
        · exact hAq q (List.mem_append_right _ (List.mem_append_right _ h))
theorem j_free {A : Nat → Prop} {wa w0 wb : va_W} {H0 H : Heap} {locs : List Loc} (hD : va_D A (wa ++ (w0 ++ wb))) (hS : va_S A H0 H locs) (hA : ∀ q : Nat, H0.size ≤ q → A q) : ∀ q, va_A w0 H.size q → A q := by
  intro q h
  rcases h with ⟨i, e, hi⟩ | h
  · exact (j_D_iff.mp hD).2 (q, e) (List.mem_append_right _ (List.mem_append_left _ (List.mem_of_getElem? hi)))
  · exact hA q (Nat.le_trans hS.1 h)
theorem j_blind {G : jG} {As : List Value} {w0 : va_W} {sz : Nat} : FrameBlind (jPc G As w0 sz) := by
  intro a U g mk h
  obtain ⟨e, h1, h2, h3, h4, h5⟩ := h
  exact ⟨e, h1, h2, va_K.moved (u := U) (U := U.calling g mk a) (Vm.Alike.refl U.vm) h3, h4, jNests.same (s := U) rfl h5⟩
theorem j_pre {G : jG} {As : List Value} {wa w0 wb : va_W} {A : Nat → Prop} {s : State} {H : Heap} (hP : va_P G.2.1 vwCl (wa ++ (w0 ++ wb)) H) (hD : va_D A (wa ++ (w0 ++ wb))) (hK : va_K G.2.1 vwCl (jtys G.2.2) s) (hN : jNests s) : ∀ U : State, U.heap = H → s.WarmedH U.vm → jPc G As w0 H.size As.toArray U := by
  intro U hU hW
  refine ⟨rfl, by rw [hU], ?_, va_K.moved hW.alike hK, ?_, hN.warm hW⟩
  · rw [hU]
    intro i q hi
    obtain ⟨j, hj⟩ := List.getElem?_of_mem (List.mem_append_right wa (List.mem_append_left wb (List.mem_of_getElem? hi)))
    exact hP j q hj
  · have h := (j_D_iff.mp hD).1
    rw [List.map_append, List.map_append, List.nodup_append, List.nodup_append] at h
    exact j_D_iff.mpr ⟨h.2.1.1, fun _ _ => trivial⟩
section JCALL
variable {G : jG} {X : jX} {own : String} {cc : ByteArray} {Ts : List Cond} {ret : Option FieldType} {nL d mc ms k n pc : Nat} {post : Option Value → va_W → Prop} {ls : List (Option Value)} {st : List Value} {ws : va_W}
theorem j_after {p : Program} {e : Env} {R : Room} {s : State} {m : MethodId} {args : Array Value} {below : List Frame} {meth : Method} {c : Code} {A : Nat → Prop} {Q : State → Prop} {H : Heap} {locs : List Loc} {la : Array Slot} {st0 rest : List Value} {mc' ms' : Nat} {a : Array Value} {wa w0 wb : va_W} {post' : Option Value → va_W → Prop}
    (hr : va_Run p G.1 e R s m args below meth c H locs k n mc' ms' (F0 m pc la st0) rest (jQ G.2.1 post' (va_A w0 H.size) a) (va_A w0 H.size)) (hP : va_P G.2.1 vwCl (wa ++ (w0 ++ wb)) H) (hD : va_D A (wa ++ (w0 ++ wb))) (hS : va_S A s.heap H locs) (hL : jL la ls) (hA : ∀ q : Nat, s.heap.size ≤ q → A q)
    (kk : ∀ (rv : Option Value) (w1 : va_W), post' rv w1 → jW G (p, e, R, s, m, args, below, meth, c, A, Q) (k + mc') (n + ms') (pc + 3) ls (rv.toList ++ rest) (wa ++ (w1 ++ wb))) : W p G.1 e R s m args below meth c H locs k n Q (F0 m pc la st0) := by
  intro T hT XT
  have hF := j_free hD hS hA
  obtain ⟨v, st₀, t, T', L, h0, X', hL', e1, e2, ⟨⟨rv, w1, hv, hp, hP1, hD1⟩, hz, hk⟩, stp⟩ := hr T hT XT
  have e9 : v = rv := by cases hv; rfl
  subst e9
  rw [h0] at hz hk
  obtain ⟨j1, j2⟩ := j_frame hP hD (H1 := t.heap) (fun q q1 q2 => hk q q1 q2) hF hP1 hD1
  obtain ⟨t2, a1, b1⟩ := kk v w1 hp T'.heap (locs ++ L) la (by rw [e1]; exact j1) j2
    ⟨Nat.le_trans hS.1 (by rw [e1]; exact hz), fun q h1 h2 => by rw [e1, hk q (Nat.lt_of_lt_of_le h1 hS.1) (fun z => h2 (hF q z))]; exact hS.2.1 q h1 h2, fun q hq => by
      rcases List.mem_append.mp hq with h | h
      · exact hS.2.2 q h
      · exact hF _ (hL' q h)⟩ hL T' rfl X'
  exact ⟨t2, stp t2 a1, b1⟩
theorem j_room {d d' maxL mc' ms' : Nat} {R : Room} (hR : d ≤ R.frames ∧ 40 * d ≤ R.locals) (hd : d' + 1 ≤ d) (hm : maxL ≤ 21) : (jRm d' mc' ms').frames + 1 ≤ R.frames ∧ 8 + (maxL + 11) + (jRm d' mc' ms').locals ≤ R.locals := by
  refine ⟨Nat.le_trans hd hR.1, ?_⟩
  show 8 + (maxL + 11) + 40 * d' ≤ R.locals
  omega

theorem j_callS (hX : jOK G X own cc Ts ret nL d mc ms post) {idx d' maxL mc' ms' nA : Nat} {y : MethodName} {bytes : ByteArray} {rt : Option FieldType} {Ws Ws' : List Cond} {wa w0 wb : va_W} {post' : Option Value → va_W → Prop} {As : List Value} (hd : decode cc pc = .ok (.invokestatic idx, 3)) (hC : jC G d' y Ws (As) w0 mc' ms' post') (hG : GoodIn Ts (va_wsS own idx y Ws)) (hWs : Ws = Cond.code y bytes maxL rt :: Ws') (hdd0 : y.cls ≠ "java/lang/invoke/MethodHandle" ∧ y.cls ≠ "java/lang/invoke/VarHandle" ∧ (parseMethodDescriptor y.desc).map (fun d => d.parameters.length) = some nA) (hdd : d' + 1 ≤ d) (hmx : maxL ≤ 21) (hnA : As.length = nA) (hcat : (st.map fun v => v.category).sum ≤ 8) (hcs : k + mc' ≤ mc ∧ n + ms' ≤ ms) (hlen : ls.length = nL) (hw : ws = wa ++ (w0 ++ wb)) (kk : ∀ (rv : Option Value) (w1 : va_W), post' rv w1 → jW G X (k + mc') (n + ms') (pc + 3) ls (rv.toList ++ st) (wa ++ (w1 ++ wb))) : jW G X k n pc ls (As.reverse ++ st) ws := by
  subst hw
  obtain ⟨p, e, R, s, m, args, below, meth, c, A, Q⟩ := X
  obtain ⟨hx, hb, hr, hml, hown, hts, hlocks, hK, hA, hN, hRoom, hCell, hQ⟩ := hX
  intro H locs la hP hD hS hL
  have hsz : la.size = nL ∨ True := Or.inr trivial
  refine j_after (va_runS (As := As) (rest := st) ⟨hx, hb, hml, hown, hts⟩ (hC H.size) (va_cwS nA hts hG hWs rfl rfl hdd0 (j_room hRoom hdd hmx)) ⟨j_blind, fun U hU hW => j_pre hP hD hK hN U hU hW⟩ rfl hnA (hL.1.trans hlen) rfl (lv_room hcat) hd (by rw [hCell.1, hCell.2]; exact hcs)) hP hD hS hL hA kk

theorem j_callV (hX : jOK G X own cc Ts ret nL d mc ms post) {idx d' maxL mc' ms' nA : Nat} {y : MethodName} {bytes : ByteArray} {rt : Option FieldType} {Ws Ws' : List Cond} {wa w0 wb : va_W} {post' : Option Value → va_W → Prop} {b q ci : Nat} {As fs : List Value} {cq : vw_C} (hci : vwCl[ci]? = some cq) (hd : decode cc pc = .ok (.invokevirtual idx, 3)) (hC : jC G d' y Ws (.ref b :: As) w0 mc' ms' post') (hG : GoodIn Ts (wsV own idx cq.1 y Ws)) (hWs : Ws = Cond.code y bytes maxL rt :: Ws') (hdd0 : y.cls = cq.1 ∧ y.cls ≠ "java/lang/invoke/MethodHandle" ∧ y.cls ≠ "java/lang/invoke/VarHandle" ∧ (parseMethodDescriptor y.desc).map (fun d => d.parameters.length) = some nA) (he : ws[q]? = some (b, .inr (ci, fs))) (hdd : d' + 1 ≤ d) (hmx : maxL ≤ 21) (hnA : As.length = nA) (hcat : (st.map fun v => v.category).sum ≤ 8) (hcs : k + mc' ≤ mc ∧ n + ms' ≤ ms) (hlen : ls.length = nL) (hw : ws = wa ++ (w0 ++ wb)) (kk : ∀ (rv : Option Value) (w1 : va_W), post' rv w1 → jW G X (k + mc') (n + ms') (pc + 3) ls (rv.toList ++ st) (wa ++ (w1 ++ wb))) : jW G X k n pc ls (As.reverse ++ (.ref b :: st)) ws := by
  subst hw
  obtain ⟨p, e, R, s, m, args, below, meth, c, A, Q⟩ := X
  obtain ⟨hx, hb, hr, hml, hown, hts, hlocks, hK, hA, hN, hRoom, hCell, hQ⟩ := hX
  intro H locs la hP hD hS hL
  have hsz : la.size = nL ∨ True := Or.inr trivial
  refine j_after (va_runV (As := As) (rest := st) ⟨hx, hb, hml, hown, hts⟩ (hC H.size) (cwV nA hts hG hWs rfl rfl hdd0 (j_room hRoom hdd hmx)) ⟨j_blind, va_recv hK hP hci he, fun U hU hW => j_pre (As := .ref b :: As) hP hD hK hN U hU hW⟩ rfl hnA (hL.1.trans hlen) rfl (lv_room hcat) hd (by rw [hCell.1, hCell.2]; exact hcs)) hP hD hS hL hA kk

theorem j_callO (hX : jOK G X own cc Ts ret nL d mc ms post) {idx d' maxL mc' ms' nA : Nat} {y : MethodName} {bytes : ByteArray} {rt : Option FieldType} {Ws Ws' : List Cond} {wa w0 wb : va_W} {post' : Option Value → va_W → Prop} {b q ci : Nat} {As fs : List Value} {cq : vw_C} {owner : String} {x : MethodName} {b0 : ByteArray} {m0 : Nat} {r0 : Option FieldType} (hci : vwCl[ci]? = some cq) (hd : decode cc pc = .ok (.invokevirtual idx, 3)) (hC : jC G d' y Ws (.ref b :: As) w0 mc' ms' post') (hG : GoodIn Ts (va_wsO own idx cq.1 owner x y Ws)) (hWs : Ws = Cond.code y bytes maxL rt :: Ws') (h0 : Cond.code ⟨owner, x.name, x.desc⟩ b0 m0 r0 ∈ Ts) (hdd0 : owner ≠ "java/lang/invoke/MethodHandle" ∧ owner ≠ "java/lang/invoke/VarHandle" ∧ (parseMethodDescriptor x.desc).map (fun d => d.parameters.length) = some nA) (he : ws[q]? = some (b, .inr (ci, fs))) (hdd : d' + 1 ≤ d) (hmx : maxL ≤ 21) (hnA : As.length = nA) (hcat : (st.map fun v => v.category).sum ≤ 8) (hcs : k + mc' ≤ mc ∧ n + ms' ≤ ms) (hlen : ls.length = nL) (hw : ws = wa ++ (w0 ++ wb)) (kk : ∀ (rv : Option Value) (w1 : va_W), post' rv w1 → jW G X (k + mc') (n + ms') (pc + 3) ls (rv.toList ++ st) (wa ++ (w1 ++ wb))) : jW G X k n pc ls (As.reverse ++ (.ref b :: st)) ws := by
  subst hw
  obtain ⟨p, e, R, s, m, args, below, meth, c, A, Q⟩ := X
  obtain ⟨hx, hb, hr, hml, hown, hts, hlocks, hK, hA, hN, hRoom, hCell, hQ⟩ := hX
  intro H locs la hP hD hS hL
  have hsz : la.size = nL ∨ True := Or.inr trivial
  refine j_after (va_runU (As := As) (rest := st) ⟨hx, hb, hml, hown, hts⟩ (hC H.size) (va_cwO nA hts hG hWs rfl rfl h0 hdd0 (j_room hRoom hdd hmx)) ⟨j_blind, va_recv hK hP hci he, fun U hU hW => j_pre (As := .ref b :: As) hP hD hK hN U hU hW⟩ rfl hnA (hL.1.trans hlen) rfl (lv_room hcat) hd (by rw [hCell.1, hCell.2]; exact hcs)) hP hD hS hL hA kk

theorem j_callU (hX : jOK G X own cc Ts ret nL d mc ms post) {idx d' maxL mc' ms' nA : Nat} {y : MethodName} {bytes : ByteArray} {rt : Option FieldType} {Ws Ws' : List Cond} {wa w0 wb : va_W} {post' : Option Value → va_W → Prop} {b q ci : Nat} {As fs : List Value} {cq : vw_C} {owner : String} {x : MethodName} (hci : vwCl[ci]? = some cq) (hd : decode cc pc = .ok (.invokevirtual idx, 3)) (hC : jC G d' y Ws (.ref b :: As) w0 mc' ms' post') (hG : GoodIn Ts (va_wsU own idx cq.1 owner x y Ws)) (hWs : Ws = Cond.code y bytes maxL rt :: Ws') (hyx : y = ⟨owner, x.name, x.desc⟩) (hdd0 : owner ≠ "java/lang/invoke/MethodHandle" ∧ owner ≠ "java/lang/invoke/VarHandle" ∧ (parseMethodDescriptor x.desc).map (fun d => d.parameters.length) = some nA) (he : ws[q]? = some (b, .inr (ci, fs))) (hdd : d' + 1 ≤ d) (hmx : maxL ≤ 21) (hnA : As.length = nA) (hcat : (st.map fun v => v.category).sum ≤ 8) (hcs : k + mc' ≤ mc ∧ n + ms' ≤ ms) (hlen : ls.length = nL) (hw : ws = wa ++ (w0 ++ wb)) (kk : ∀ (rv : Option Value) (w1 : va_W), post' rv w1 → jW G X (k + mc') (n + ms') (pc + 3) ls (rv.toList ++ st) (wa ++ (w1 ++ wb))) : jW G X k n pc ls (As.reverse ++ (.ref b :: st)) ws := by
  subst hw
  obtain ⟨p, e, R, s, m, args, below, meth, c, A, Q⟩ := X
  obtain ⟨hx, hb, hr, hml, hown, hts, hlocks, hK, hA, hN, hRoom, hCell, hQ⟩ := hX
  intro H locs la hP hD hS hL
  have hsz : la.size = nL ∨ True := Or.inr trivial
  refine j_after (va_runU (As := As) (rest := st) ⟨hx, hb, hml, hown, hts⟩ (hC H.size) (va_cwU nA hts hG hWs rfl rfl hyx hdd0 (j_room hRoom hdd hmx)) ⟨j_blind, va_recv hK hP hci he, fun U hU hW => j_pre (As := .ref b :: As) hP hD hK hN U hU hW⟩ rfl hnA (hL.1.trans hlen) rfl (lv_room hcat) hd (by rw [hCell.1, hCell.2]; exact hcs)) hP hD hS hL hA kk

theorem j_callSN (hX : jOK G X own cc Ts ret nL d mc ms post) {idx d' maxL mc' ms' nA : Nat} {y : MethodName} {bytes : ByteArray} {rt : Option FieldType} {Ws Ws' : List Cond} {wa w0 wb : va_W} {post' : Option Value → va_W → Prop} {As : List Value} (hd : decode cc pc = .ok (.invokestatic idx, 3)) (hC : jC G d' y Ws (As) w0 mc' ms' post') (hG : GoodIn Ts Ws) (hWs : Ws = Cond.code y bytes maxL rt :: Ws') (hini : Cond.initialized y.cls ∈ Ts) {host : String} (hnest : (own, idx, y, host) ∈ jNestL) (hst : Cond.static y ∈ Ts) (hdd0 : y.cls ≠ "java/lang/invoke/MethodHandle" ∧ y.cls ≠ "java/lang/invoke/VarHandle" ∧ (parseMethodDescriptor y.desc).map (fun d => d.parameters.length) = some nA) (hdd : d' + 1 ≤ d) (hmx : maxL ≤ 21) (hnA : As.length = nA) (hcat : (st.map fun v => v.category).sum ≤ 8) (hcs : k + mc' ≤ mc ∧ n + ms' ≤ ms) (hlen : ls.length = nL) (hw : ws = wa ++ (w0 ++ wb)) (kk : ∀ (rv : Option Value) (w1 : va_W), post' rv w1 → jW G X (k + mc') (n + ms') (pc + 3) ls (rv.toList ++ st) (wa ++ (w1 ++ wb))) : jW G X k n pc ls (As.reverse ++ st) ws := by
  subst hw
  obtain ⟨p, e, R, s, m, args, below, meth, c, A, Q⟩ := X
  obtain ⟨hx, hb, hr, hml, hown, hts, hlocks, hK, hA, hN, hRoom, hCell, hQ⟩ := hX
  intro H locs la hP hD hS hL
  have hsz : la.size = nL ∨ True := Or.inr trivial
  refine j_after (va_runSN (As := As) (rest := st) ⟨hx, hb, hml, hown, hts⟩ (hC H.size) ⟨va_cnB nA hts hG hWs rfl rfl (hN.1 _ hnest) (hts _ hini) hdd0 (j_room hRoom hdd hmx), hts _ hst, trivial⟩ ⟨j_blind, fun U hU hW => j_pre hP hD hK hN U hU hW⟩ rfl hnA (hL.1.trans hlen) rfl (lv_room hcat) hd (by rw [hCell.1, hCell.2]; exact hcs)) hP hD hS hL hA kk

theorem j_callIN (hX : jOK G X own cc Ts ret nL d mc ms post) {idx d' maxL mc' ms' nA : Nat} {y : MethodName} {bytes : ByteArray} {rt : Option FieldType} {Ws Ws' : List Cond} {wa w0 wb : va_W} {post' : Option Value → va_W → Prop} {b : Nat} {As : List Value} (hd : decode cc pc = .ok (.invokespecial idx, 3)) (hC : jC G d' y Ws (.ref b :: As) w0 mc' ms' post') (hG : GoodIn Ts Ws) (hWs : Ws = Cond.code y bytes maxL rt :: Ws') (hini : Cond.initialized y.cls ∈ Ts) {host : String} (hnest : (own, idx, y, host) ∈ jNestL) (hin : Cond.instanceMethod y ∈ Ts) (hnm : y.name = "<init>") (hrt : rt = none) (hdd0 : y.cls ≠ "java/lang/invoke/MethodHandle" ∧ y.cls ≠ "java/lang/invoke/VarHandle" ∧ (parseMethodDescriptor y.desc).map (fun d => d.parameters.length) = some nA) (hdd : d' + 1 ≤ d) (hmx : maxL ≤ 21) (hnA : As.length = nA) (hcat : (st.map fun v => v.category).sum ≤ 8) (hcs : k + mc' ≤ mc ∧ n + ms' ≤ ms) (hlen : ls.length = nL) (hw : ws = wa ++ (w0 ++ wb)) (kk : ∀ (rv : Option Value) (w1 : va_W), post' rv w1 → jW G X (k + mc') (n + ms') (pc + 3) ls (rv.toList ++ st) (wa ++ (w1 ++ wb))) : jW G X k n pc ls (As.reverse ++ (.ref b :: st)) ws := by
  subst hw
  obtain ⟨p, e, R, s, m, args, below, meth, c, A, Q⟩ := X
  obtain ⟨hx, hb, hr, hml, hown, hts, hlocks, hK, hA, hN, hRoom, hCell, hQ⟩ := hX
  intro H locs la hP hD hS hL
  have hsz : la.size = nL ∨ True := Or.inr trivial
  refine j_after (va_runIN (As := As) (rest := st) ⟨hx, hb, hml, hown, hts⟩ (hC H.size) (by subst hrt; exact ⟨va_cnB nA hts hG hWs rfl rfl (hN.1 _ hnest) (hts _ hini) hdd0 (j_room hRoom hdd hmx), hnm, hts _ hin⟩) ⟨j_blind, fun U hU hW => j_pre (As := .ref b :: As) hP hD hK hN U hU hW⟩ rfl hnA (hL.1.trans hlen) rfl (lv_room hcat) hd (by rw [hCell.1, hCell.2]; exact hcs)) hP hD hS hL hA kk

theorem j_callI (hX : jOK G X own cc Ts ret nL d mc ms post) {idx d' maxL mc' ms' nA : Nat} {y : MethodName} {bytes : ByteArray} {rt : Option FieldType} {Ws Ws' : List Cond} {wa w0 wb : va_W} {post' : Option Value → va_W → Prop} {b : Nat} {As : List Value} (hd : decode cc pc = .ok (.invokespecial idx, 3)) (hC : jC G d' y Ws (.ref b :: As) w0 mc' ms' post') (hG : GoodIn Ts Ws) (hWs : Ws = Cond.code y bytes maxL rt :: Ws') (hini : Cond.initialized y.cls ∈ Ts) (hlk : Cond.methodLink own idx y ∈ Ts) (hin : Cond.instanceMethod y ∈ Ts) (hnm : y.name = "<init>") (hrt : rt = none) (hdd0 : y.cls ≠ "java/lang/invoke/MethodHandle" ∧ y.cls ≠ "java/lang/invoke/VarHandle" ∧ (parseMethodDescriptor y.desc).map (fun d => d.parameters.length) = some nA) (hdd : d' + 1 ≤ d) (hmx : maxL ≤ 21) (hnA : As.length = nA) (hcat : (st.map fun v => v.category).sum ≤ 8) (hcs : k + mc' ≤ mc ∧ n + ms' ≤ ms) (hlen : ls.length = nL) (hw : ws = wa ++ (w0 ++ wb)) (kk : ∀ (rv : Option Value) (w1 : va_W), post' rv w1 → jW G X (k + mc') (n + ms') (pc + 3) ls (rv.toList ++ st) (wa ++ (w1 ++ wb))) : jW G X k n pc ls (As.reverse ++ (.ref b :: st)) ws := by
  subst hw
  obtain ⟨p, e, R, s, m, args, below, meth, c, A, Q⟩ := X
  obtain ⟨hx, hb, hr, hml, hown, hts, hlocks, hK, hA, hN, hRoom, hCell, hQ⟩ := hX
  intro H locs la hP hD hS hL
  have hsz : la.size = nL ∨ True := Or.inr trivial
  refine j_after (va_runI (As := As) (rest := st) ⟨hx, hb, hml, hown, hts⟩ (hC H.size) (by subst hrt; exact cwI nA hts hG hWs rfl rfl (hts _ hini) (hts _ hlk) (hts _ hin) hnm hdd0 (j_room hRoom hdd hmx)) ⟨j_blind, fun U hU hW => j_pre (As := .ref b :: As) hP hD hK hN U hU hW⟩ rfl hnA (hL.1.trans hlen) rfl (lv_room hcat) hd (by rw [hCell.1, hCell.2]; exact hcs)) hP hD hS hL hA kk

end JCALL
/-- a contract by a walk -/
theorem jC.of {G : jG} {d mc ms maxL : Nat} {y : MethodName} {Ts Ts' : List Cond} {cc : ByteArray} {ret : Option FieldType} {As : List Value} {w0 : va_W} {post : Option Value → va_W → Prop} (hTs : Ts = Cond.code y cc maxL ret :: Ts') (hy : plainName y.cls = true) (ls : List (Option Value)) (hls : ls.length = maxL) (hlen : (lg_sl As).length ≤ maxL) (hargs : ∀ (i : Nat) (v : Value), ls[i]? = some (some v) → (i, v) ∈ lv_args 0 As)
    (body : ∀ X : jX, jOK G X y.cls cc Ts ret maxL d mc ms post → jW G X 0 0 0 ls [] w0) : jC G d y Ts As w0 mc ms post := by
  intro sz
  refine Met.ofW (cc := cc) (maxL := maxL) (ret := ret) hy hTs ?_
  intro p e s m args below meth c s₁ B hml hv
  obtain ⟨rfl, hsz, hP, hK, hD0, hN⟩ := hv
  have hts := atoms_spec (ws := Ts) B.pre
  have hown : s.vm.findClass y.cls = some m.cls := findClass_of_methodNamed B.named
  have hlocks := B.notSynchronized
  subst hsz
  have hD := hD0.self (sz := s.heap.size)
  have hl := lv_entry As (n := maxL) hlen
  rw [lg_entry_eq]
  generalize (lg_sl As ++ List.replicate (maxL - (lg_sl As).length) Slot.unset).toArray = la at hl ⊢
  refine body (p, e, (headSpec Ts (jRm d mc ms)).room, s, m, As.toArray, below, meth, c, va_A w0 s.heap.size, MQ below (jQ G.2.1 post (va_A w0 s.heap.size)) As.toArray s mc ms (va_A w0 s.heap.size)) ⟨B.exec, B.bytes, B.returns, hml, hown, hts, hlocks, hK, fun q h => Or.inr h, hN, ⟨Nat.le_refl _, Nat.le_refl _⟩, ⟨rfl, rfl⟩, fun t h => h⟩ s.heap [] la hP hD va_S.rf ⟨by rw [hls]; exact hl.1, hl.2.1, fun i v h => hl.2.2 (i, v) (hargs i v h)⟩

/-- a contract with one answer and one world behind it, nothing made -/
def jD (G : jG) (d : Nat) (y : MethodName) (Ts : List Cond) (As : List Value) (w0 : va_W) (r : Option Value) (w1 : va_W) : Prop := jC G d y Ts As w0 0 0 (fun rv w => rv = r ∧ w = w1)
section JDET
variable {G : jG} {X : jX} {own : String} {cc : ByteArray} {Ts : List Cond} {ret : Option FieldType} {nL d mc ms k n pc : Nat} {post : Option Value → va_W → Prop} {ls : List (Option Value)} {st : List Value} {ws : va_W}
theorem j_det {r : Option Value} {w1 : va_W} {st' : List Value} (hst : r.toList ++ st = st') (kk : jW G X k n (pc + 3) ls st' w1) : ∀ (rv : Option Value) (w : va_W), (rv = r ∧ w = w1) → jW G X (k + 0) (n + 0) (pc + 3) ls (rv.toList ++ st) ([] ++ (w ++ [])) := by
  intro rv w h
  obtain ⟨rfl, rfl⟩ := h
  subst hst
  rw [List.nil_append, List.append_nil]
  exact kk

theorem j_dS (hX : jOK G X own cc Ts ret nL d mc ms post) {idx d' maxL nA : Nat} {y : MethodName} {bytes : ByteArray} {rt : Option FieldType} {Ws Ws' : List Cond} {r : Option Value} {w1 : va_W} {st' : List Value} {As : List Value} (hd : decode cc pc = .ok (.invokestatic idx, 3)) (hC : jD G d' y Ws (As) ws r w1) (hG : GoodIn Ts (va_wsS own idx y Ws)) (hWs : Ws = Cond.code y bytes maxL rt :: Ws') (hdd0 : y.cls ≠ "java/lang/invoke/MethodHandle" ∧ y.cls ≠ "java/lang/invoke/VarHandle" ∧ (parseMethodDescriptor y.desc).map (fun d => d.parameters.length) = some nA) (hdd : d' + 1 ≤ d) (hmx : maxL ≤ 21) (hnA : As.length = nA) (hcat : (st.map fun v => v.category).sum ≤ 8) (hlen : ls.length = nL) (hkn : k ≤ mc ∧ n ≤ ms) (hst : r.toList ++ st = st') (kk : jW G X k n (pc + 3) ls st' w1) : jW G X k n pc ls (As.reverse ++ st) ws :=
  j_callS hX (wa := []) (wb := []) (w0 := ws) hd hC hG hWs hdd0 hdd hmx hnA hcat hkn hlen (by rw [List.nil_append, List.append_nil]) (j_det hst kk)

theorem j_dSN (hX : jOK G X own cc Ts ret nL d mc ms post) {idx d' maxL nA : Nat} {y : MethodName} {bytes : ByteArray} {rt : Option FieldType} {Ws Ws' : List Cond} {r : Option Value} {w1 : va_W} {st' : List Value} {As : List Value} (hd : decode cc pc = .ok (.invokestatic idx, 3)) (hC : jD G d' y Ws (As) ws r w1) (hG : GoodIn Ts Ws) (hWs : Ws = Cond.code y bytes maxL rt :: Ws') (hini : Cond.initialized y.cls ∈ Ts) {host : String} (hnest : (own, idx, y, host) ∈ jNestL) (hst0 : Cond.static y ∈ Ts) (hdd0 : y.cls ≠ "java/lang/invoke/MethodHandle" ∧ y.cls ≠ "java/lang/invoke/VarHandle" ∧ (parseMethodDescriptor y.desc).map (fun d => d.parameters.length) = some nA) (hdd : d' + 1 ≤ d) (hmx : maxL ≤ 21) (hnA : As.length = nA) (hcat : (st.map fun v => v.category).sum ≤ 8) (hlen : ls.length = nL) (hkn : k ≤ mc ∧ n ≤ ms) (hst : r.toList ++ st = st') (kk : jW G X k n (pc + 3) ls st' w1) : jW G X k n pc ls (As.reverse ++ st) ws :=
  j_callSN hX (wa := []) (wb := []) (w0 := ws) hd hC hG hWs hini hnest hst0 hdd0 hdd hmx hnA hcat hkn hlen (by rw [List.nil_append, List.append_nil]) (j_det hst kk)

theorem j_dV (hX : jOK G X own cc Ts ret nL d mc ms post) {idx d' maxL nA : Nat} {y : MethodName} {bytes : ByteArray} {rt : Option FieldType} {Ws Ws' : List Cond} {r : Option Value} {w1 : va_W} {st' : List Value} {b q ci : Nat} {As fs : List Value} {cq : vw_C} (hci : vwCl[ci]? = some cq) (hd : decode cc pc = .ok (.invokevirtual idx, 3)) (hC : jD G d' y Ws (.ref b :: As) ws r w1) (hG : GoodIn Ts (wsV own idx cq.1 y Ws)) (hWs : Ws = Cond.code y bytes maxL rt :: Ws') (hdd0 : y.cls = cq.1 ∧ y.cls ≠ "java/lang/invoke/MethodHandle" ∧ y.cls ≠ "java/lang/invoke/VarHandle" ∧ (parseMethodDescriptor y.desc).map (fun d => d.parameters.length) = some nA) (he : ws[q]? = some (b, .inr (ci, fs))) (hdd : d' + 1 ≤ d) (hmx : maxL ≤ 21) (hnA : As.length = nA) (hcat : (st.map fun v => v.category).sum ≤ 8) (hlen : ls.length = nL) (hkn : k ≤ mc ∧ n ≤ ms) (hst : r.toList ++ st = st') (kk : jW G X k n (pc + 3) ls st' w1) : jW G X k n pc ls (As.reverse ++ (.ref b :: st)) ws :=
  j_callV hX (wa := []) (wb := []) (w0 := ws) hci hd hC hG hWs hdd0 he hdd hmx hnA hcat hkn hlen (by rw [List.nil_append, List.append_nil]) (j_det hst kk)

theorem j_dO (hX : jOK G X own cc Ts ret nL d mc ms post) {idx d' maxL nA : Nat} {y : MethodName} {bytes : ByteArray} {rt : Option FieldType} {Ws Ws' : List Cond} {r : Option Value} {w1 : va_W} {st' : List Value} {b q ci : Nat} {As fs : List Value} {cq : vw_C} {owner : String} {x : MethodName} {b0 : ByteArray} {m0 : Nat} {r0 : Option FieldType} (hci : vwCl[ci]? = some cq) (hd : decode cc pc = .ok (.invokevirtual idx, 3)) (hC : jD G d' y Ws (.ref b :: As) ws r w1) (hG : GoodIn Ts (va_wsO own idx cq.1 owner x y Ws)) (hWs : Ws = Cond.code y bytes maxL rt :: Ws') (h0 : Cond.code ⟨owner, x.name, x.desc⟩ b0 m0 r0 ∈ Ts) (hdd0 : owner ≠ "java/lang/invoke/MethodHandle" ∧ owner ≠ "java/lang/invoke/VarHandle" ∧ (parseMethodDescriptor x.desc).map (fun d => d.parameters.length) = some nA) (he : ws[q]? = some (b, .inr (ci, fs))) (hdd : d' + 1 ≤ d) (hmx : maxL ≤ 21) (hnA : As.length = nA) (hcat : (st.map fun v => v.category).sum ≤ 8) (hlen : ls.length = nL) (hkn : k ≤ mc ∧ n ≤ ms) (hst : r.toList ++ st = st') (kk : jW G X k n (pc + 3) ls st' w1) : jW G X k n pc ls (As.reverse ++ (.ref b :: st)) ws :=
  j_callO hX (wa := []) (wb := []) (w0 := ws) hci hd hC hG hWs h0 hdd0 he hdd hmx hnA hcat hkn hlen (by rw [List.nil_append, List.append_nil]) (j_det hst kk)

theorem j_dU (hX : jOK G X own cc Ts ret nL d mc ms post) {idx d' maxL nA : Nat} {y : MethodName} {bytes : ByteArray} {rt : Option FieldType} {Ws Ws' : List Cond} {r : Option Value} {w1 : va_W} {st' : List Value} {b q ci : Nat} {As fs : List Value} {cq : vw_C} {owner : String} {x : MethodName} (hci : vwCl[ci]? = some cq) (hd : decode cc pc = .ok (.invokevirtual idx, 3)) (hC : jD G d' y Ws (.ref b :: As) ws r w1) (hG : GoodIn Ts (va_wsU own idx cq.1 owner x y Ws)) (hWs : Ws = Cond.code y bytes maxL rt :: Ws') (hyx : y = ⟨owner, x.name, x.desc⟩) (hdd0 : owner ≠ "java/lang/invoke/MethodHandle" ∧ owner ≠ "java/lang/invoke/VarHandle" ∧ (parseMethodDescriptor x.desc).map (fun d => d.parameters.length) = some nA) (he : ws[q]? = some (b, .inr (ci, fs))) (hdd : d' + 1 ≤ d) (hmx : maxL ≤ 21) (hnA : As.length = nA) (hcat : (st.map fun v => v.category).sum ≤ 8) (hlen : ls.length = nL) (hkn : k ≤ mc ∧ n ≤ ms) (hst : r.toList ++ st = st') (kk : jW G X k n (pc + 3) ls st' w1) : jW G X k n pc ls (As.reverse ++ (.ref b :: st)) ws :=
  j_callU hX (wa := []) (wb := []) (w0 := ws) hci hd hC hG hWs hyx hdd0 he hdd hmx hnA hcat hkn hlen (by rw [List.nil_append, List.append_nil]) (j_det hst kk)

theorem j_mmax (hX : jOK G X own cc Ts ret nL d mc ms post) {idx : Nat} {x y : Int32} (hd : decode cc pc = .ok (.invokestatic idx, 3)) (hlk : Cond.methodLink own idx Lib.Math.max.name ∈ Ts) (hst0 : Cond.static Lib.Math.max.name ∈ Ts) (hini : Cond.initialized "java/lang/Math" ∈ Ts) (hco : Cond.code Lib.Math.max.name Lib.Math.max.code 2 (some .int) ∈ Ts) (hd1 : 1 ≤ d) (hlen : ls.length = nL) (hcat : (st.map fun v => v.category).sum ≤ 8) (hkn : k ≤ mc ∧ n ≤ ms) (kk : jW G X k n (pc + 3) ls (.int (if x < y then y else x) :: st) ws) : jW G X k n pc ls (.int y :: .int x :: st) ws := by
  obtain ⟨p, e, R, s, m, args, below, meth, c, A, Q⟩ := X
  obtain ⟨hx, hb, hr, hml, hown, hts, hlocks, hK, hA, hN, hRoom, hCell, hQ⟩ := hX
  intro H locs la hP hD hS hL
  exact va_mmax hx hb (hml.trans (hL.1.trans hlen).symm) hown (hts _ hlk) (hts _ hst0) (hts _ hini) (hts _ hco) (Nat.le_trans hd1 hRoom.1) (by have := hRoom.2; omega) (by rw [hCell.1]; exact hkn.1) (by rw [hCell.2]; exact hkn.2) hd (kk H locs la hP hD hS hL)

theorem j_mmin (hX : jOK G X own cc Ts ret nL d mc ms post) {idx : Nat} {x y : Int32} (hd : decode cc pc = .ok (.invokestatic idx, 3)) (hlk : Cond.methodLink own idx Lib.Math.min.name ∈ Ts) (hst0 : Cond.static Lib.Math.min.name ∈ Ts) (hini : Cond.initialized "java/lang/Math" ∈ Ts) (hco : Cond.code Lib.Math.min.name Lib.Math.min.code 2 (some .int) ∈ Ts) (hd1 : 1 ≤ d) (hlen : ls.length = nL) (hcat : (st.map fun v => v.category).sum ≤ 8) (hkn : k ≤ mc ∧ n ≤ ms) (kk : jW G X k n (pc + 3) ls (.int (if y < x then y else x) :: st) ws) : jW G X k n pc ls (.int y :: .int x :: st) ws := by
  obtain ⟨p, e, R, s, m, args, below, meth, c, A, Q⟩ := X
  obtain ⟨hx, hb, hr, hml, hown, hts, hlocks, hK, hA, hN, hRoom, hCell, hQ⟩ := hX
  intro H locs la hP hD hS hL
  exact va_mmin hx hb (hml.trans (hL.1.trans hlen).symm) hown (hts _ hlk) (hts _ hst0) (hts _ hini) (hts _ hco) (Nat.le_trans hd1 hRoom.1) (by have := hRoom.2; omega) (by rw [hCell.1]; exact hkn.1) (by rw [hCell.2]; exact hkn.2) hd (kk H locs la hP hD hS hL)

end JDET