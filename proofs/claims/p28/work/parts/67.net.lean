/-! SPREADING, without any machine. -/
/-- what is left to give, behind k places (P: who can get one) -/
def rsN (P : Nat → Bool) (r0 : Nat) : Nat → Nat
  | 0 => r0
  | k + 1 => if 0 < rsN P r0 k ∧ P k = true then rsN P r0 k - 1 else rsN P r0 k
def gvN (P : Nat → Bool) (r0 k : Nat) : Nat := if 0 < rsN P r0 k ∧ P k = true then 1 else 0
theorem rsN_s (P : Nat → Bool) (r0 k : Nat) : rsN P r0 (k + 1) = rsN P r0 k - gvN P r0 k := by
  rw [rsN]
  unfold gvN
  split <;> rfl
theorem rsN_0 (P : Nat → Bool) : ∀ k, rsN P 0 k = 0
  | 0 => rfl
  | k + 1 => by rw [rsN, rsN_0 P k, if_neg (fun h => absurd h.1 (Nat.lt_irrefl _))]
theorem rsN_eq (P : Nat → Bool) (r0 : Nat) : ∀ k, rsN P r0 k = r0 - sm (fun i => if P i = true then 1 else 0) k
  | 0 => rfl
  | k + 1 => by
    have ih := rsN_eq P r0 k
    rw [rsN, sm]
    by_cases e : P k = true
    · rw [if_pos e]
      by_cases e2 : 0 < rsN P r0 k
      · rw [if_pos ⟨e2, e⟩]; omega
      · rw [if_neg (fun h => e2 h.1)]; omega
    · rw [if_neg (fun h => e h.2), if_neg e]
      omega
theorem gv_sum (P : Nat → Bool) (r0 : Nat) : ∀ k, sm (gvN P r0) k + rsN P r0 k = r0
  | 0 => Nat.zero_add _
  | k + 1 => by
    have ih := gv_sum P r0 k
    rw [sm, rsN_s]
    have hle : gvN P r0 k ≤ rsN P r0 k := by
      unfold gvN
      split
      · rename_i h; exact h.1
      · exact Nat.zero_le _
    omega
theorem rs_congr {P P' : Nat → Bool} {r0 : Nat} : ∀ {k : Nat}, (∀ i, i < k → P i = P' i) → rsN P r0 k = rsN P' r0 k
  | 0, _ => rfl
  | k + 1, h => by rw [rsN, rsN, rs_congr (fun i hi => h i (by omega)), h k (by omega)]
def cuN (x : Nat → Nat) (S : Nat → Bool) (t W k : Nat) : Nat := if S k = true then t * x k / W else 0
/-- the parts rounded down leave less than one a place -/
theorem cu_rest {x : Nat → Nat} {S : Nat → Bool} {t W m : Nat} (hW : W = sm (fun k => if S k = true then x k else 0) m) (h0 : 0 < W) : sm (cuN x S t W) m ≤ t ∧ t - sm (cuN x S t W) m ≤ sm (fun k => if S k = true then 1 else 0) m := by
  have hlow : ∀ m', W * sm (cuN x S t W) m' ≤ t * sm (fun k => if S k = true then x k else 0) m' ∧ t * sm (fun k => if S k = true then x k else 0) m' ≤ W * sm (cuN x S t W) m' + W * sm (fun k => if S k = true then 1 else 0) m' := by
    intro m'
    induction m' with
    | zero => exact ⟨Nat.le_refl _, Nat.zero_le _⟩
    | succ m' ih =>
      rw [sm, sm, sm, Nat.mul_add, Nat.mul_add, Nat.mul_add]
      unfold cuN at ih ⊢
      by_cases e : S m' = true
      · simp only [if_pos e]
        have h1 := Nat.div_add_mod (t * x m') W
        have h2 := Nat.mod_lt (t * x m') h0
        omega
      · simp only [if_neg e]
        omega
  obtain ⟨a, b⟩ := hlow m
  rw [← hW] at a b
  have a' : sm (cuN x S t W) m ≤ t := Nat.le_of_mul_le_mul_left (by rw [Nat.mul_comm W t]; exact a) h0
  refine ⟨a', ?_⟩
  rw [Nat.mul_comm t W, ← Nat.mul_add] at b
  have := Nat.le_of_mul_le_mul_left b h0
  omega
theorem sm_sub {f g : Nat → Nat} : ∀ {n : Nat}, (∀ i, i < n → g i ≤ f i) → sm (fun i => f i - g i) n + sm g n = sm f n
  | 0, _ => rfl
  | n + 1, h => by
    have ih := sm_sub (f := f) (g := g) (n := n) (fun i hi => h i (by omega))
    have h1 := h n (by omega)
    rw [sm, sm, sm]
    omega
/-- a use's mask, as places -/
def pk (u : us3) (k : Nat) : Bool := u.2.1.testBit (6 - k)
def wN (x : Nat → Nat) (u : us3) : Nat := sm (fun k => if pk u k = true then x k else 0) 7
/-- the nets behind one use's spreading -/
def nw (x : Nat → Nat) (u : us3) (k : Nat) : Nat := x k - (cuN x (pk u) u.2.2 (wN x u) k + gvN (pk u) (u.2.2 - sm (cuN x (pk u) u.2.2 (wN x u)) 7) k)
theorem cu_lt {x : Nat → Nat} {u : us3} {k : Nat} (hd : u.2.2 < wN x u) (hk : pk u k = true) (hx : 0 < x k) : cuN x (pk u) u.2.2 (wN x u) k < x k := by
  unfold cuN
  rw [if_pos hk]
  have h0 : 0 < wN x u := by omega
  rw [Nat.div_lt_iff_lt_mul h0, Nat.mul_comm (x k)]
  exact Nat.mul_lt_mul_of_pos_right hd hx
theorem nw_off {x : Nat → Nat} {u : us3} {k : Nat} (hk : pk u k = false) : nw x u k = x k := by
  unfold nw cuN gvN
  rw [if_neg (by rw [hk]; decide), if_neg (fun h => by rw [hk] at h; exact absurd h.2 (by decide))]
  rfl
theorem nw_le (x : Nat → Nat) (u : us3) (k : Nat) : nw x u k ≤ x k := Nat.sub_le _ _
theorem nw_sum {x : Nat → Nat} {u : us3} (hd : u.2.2 < wN x u) (hx : ∀ k, k < 7 → pk u k = true → 0 < x k) : sm (nw x u) 7 + u.2.2 = sm x 7 := by
  have h0 : 0 < wN x u := by omega
  obtain ⟨a, b⟩ := cu_rest (x := x) (S := pk u) (t := u.2.2) (W := wN x u) (m := 7) rfl h0
  have hg := gv_sum (pk u) (u.2.2 - sm (cuN x (pk u) u.2.2 (wN x u)) 7) 7
  have hr := rsN_eq (pk u) (u.2.2 - sm (cuN x (pk u) u.2.2 (wN x u)) 7) 7
  have hs := sm_sub (f := x) (g := fun k => cuN x (pk u) u.2.2 (wN x u) k + gvN (pk u) (u.2.2 - sm (cuN x (pk u) u.2.2 (wN x u)) 7) k) (n := 7) (fun k hk => by
    by_cases e : pk u k = true
    · have := cu_lt hd e (hx k hk e)
      have hg1 : gvN (pk u) (u.2.2 - sm (cuN x (pk u) u.2.2 (wN x u)) 7) k ≤ 1 := by unfold gvN; split <;> omega
      omega
    · unfold cuN gvN
      rw [if_neg e, if_neg (fun h => e h.2)]
      exact Nat.zero_le _)
  rw [sm_add] at hs
  have e1 : sm (nw x u) 7 = sm (fun i => x i - (cuN x (pk u) u.2.2 (wN x u) i + gvN (pk u) (u.2.2 - sm (cuN x (pk u) u.2.2 (wN x u)) 7) i)) 7 := rfl
  rw [e1]
  omega
/-- nets behind all uses of a set, the first laid first -/
def nt (pr : Nat → Nat) : List us3 → Nat → Nat
  | [] => pr
  | u :: r => nw (nt pr r) u
def dsj : List us3 → Prop
  | [] => True
  | u :: r => (∀ k, k < 7 → pk u k = true → uK r k = false) ∧ dsj r
theorem nt_off {pr : Nat → Nat} : ∀ {acc : List us3} {k : Nat}, uK acc k = false → nt pr acc k = pr k
  | [], _, _ => rfl
  | u :: r, k, h => by
    rw [uK, Bool.or_eq_false_iff] at h
    show nw (nt pr r) u k = pr k
    rw [nw_off h.1, nt_off h.2]
theorem nt_le {pr : Nat → Nat} : ∀ (acc : List us3) (k : Nat), nt pr acc k ≤ pr k
  | [], _ => Nat.le_refl _
  | u :: r, k => Nat.le_trans (nw_le _ u k) (nt_le r k)
theorem wN_nt {pr : Nat → Nat} {u : us3} {r : List us3} (h : ∀ k, k < 7 → pk u k = true → uK r k = false) : wN (nt pr r) u = wN pr u := sm_eq (fun k hk => by
  by_cases e : pk u k = true
  · rw [if_pos e, if_pos e, nt_off (h k hk e)]
  · rw [if_neg e, if_neg e])
theorem nt_sum {pr : Nat → Nat} : ∀ {acc : List us3}, dsj acc → (∀ u ∈ acc, u.2.2 < wN pr u ∧ ∀ k, k < 7 → pk u k = true → 0 < pr k) → sm (nt pr acc) 7 + uD acc = sm pr 7
  | [], _, _ => rfl
  | u :: r, hd, h => by
    have ih := nt_sum (pr := pr) hd.2 (fun v hv => h v (List.mem_cons_of_mem _ hv))
    obtain ⟨h1, h2⟩ := h u List.mem_cons_self
    have hs := nw_sum (x := nt pr r) (u := u) (by rw [wN_nt hd.1]; exact h1) (fun k hk e => by rw [nt_off (hd.1 k hk e)]; exact h2 k hk e)
    have e : nt pr (u :: r) = nw (nt pr r) u := rfl
    rw [e, uD]
    omega
/-- the last spreading, of the thresholds' sum over all of n places -/
def fnS (n : Nat) (k : Nat) : Bool := decide (k < n)
def fnW (n : Nat) (x : Nat → Nat) : Nat := sm (fun k => if fnS n k = true then x k else 0) 7
def fnT (n : Nat) (x : Nat → Nat) (t : Nat) : Nat := if fnW n x < t then fnW n x else t
def fnP (n : Nat) (x : Nat → Nat) (k : Nat) : Bool := fnS n k && decide (0 < x k)
def fn (n : Nat) (x : Nat → Nat) (t k : Nat) : Nat := x k - (cuN x (fnS n) (fnT n x t) (fnW n x) k + gvN (fnP n x) (fnT n x t - sm (cuN x (fnS n) (fnT n x t) (fnW n x)) 7) k)
/-- who can get one more: whoever has something left, if not all is taken off -/
theorem fn_P {n t : Nat} {x : Nat → Nat} (hW : 0 < fnW n x) : (fnT n x t - sm (cuN x (fnS n) (fnT n x t) (fnW n x)) 7 = 0) ∨ ∀ k, k < 7 → (fnS n k && decide (cuN x (fnS n) (fnT n x t) (fnW n x) k < x k)) = fnP n x k := by
  by_cases e : fnT n x t < fnW n x
  · right
    intro k hk
    unfold fnP
    by_cases e2 : fnS n k = true
    · rw [e2, Bool.true_and, Bool.true_and]
      by_cases e3 : 0 < x k
      · rw [decide_eq_true e3, decide_eq_true]
        unfold cuN
        rw [if_pos e2, Nat.div_lt_iff_lt_mul hW, Nat.mul_comm (x k)]
        exact Nat.mul_lt_mul_of_pos_right e e3
      · rw [decide_eq_false e3, decide_eq_false (by omega)]
    · have e2' : fnS n k = false := by
        cases h : fnS n k
        · rfl
        · exact absurd h e2
      rw [e2', Bool.false_and, Bool.false_and]
  · left
    have e1 : fnT n x t = fnW n x := by
      unfold fnT at e ⊢
      by_cases h : fnW n x < t
      · rw [if_pos h]
      · rw [if_neg h] at e ⊢
        omega
    have e2 : sm (cuN x (fnS n) (fnT n x t) (fnW n x)) 7 = fnW n x := by
      rw [e1]
      refine sm_eq (fun k hk => ?_)
      unfold cuN
      by_cases e3 : fnS n k = true
      · rw [if_pos e3, if_pos e3, Nat.mul_div_cancel_left _ hW]
      · rw [if_neg e3, if_neg e3]
    rw [e2, e1]
    exact Nat.sub_self _
