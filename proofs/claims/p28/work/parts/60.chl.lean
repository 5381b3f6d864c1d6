/-! THE MODEL'S CHOICES: its sets for a use, in its order, are the class's masks downward. -/
theorem by_in {S k : Nat} (hS : S < 128) (hk : k < 7) : inB (nI S) k = if S.testBit k = true then 1 else 0 :=
  (show ∀ S, S < 128 → ∀ k, k < 7 → inB (nI S) k = if S.testBit k = true then 1 else 0 by decide +kernel) S hS k hk
theorem by_or {S k : Nat} (hS : S < 128) (hk : k < 7) : nI S ||| (1 <<< (nI k &&& 31)) = nI (S ||| 2 ^ k) :=
  (show ∀ S, S < 128 → ∀ k, k < 7 → nI S ||| (1 <<< (nI k &&& 31)) = nI (S ||| 2 ^ k) by decide +kernel) S hS k hk
theorem by_orlt {a b : Nat} (ha : a < 128) (hb : b < 128) : a ||| b < 128 := Nat.or_lt_two_pow (n := 7) ha hb
theorem by_or2 {a b : Nat} (ha : a < 128) (hb : b < 128) : nI a ||| nI b = nI (a ||| b) :=
  (show ∀ a, a < 128 → ∀ b, b < 128 → nI a ||| nI b = nI (a ||| b) by decide +kernel) a ha b hb
theorem by_bit {p : Nat} (hp : p < 7) : (1 : Int32) <<< (nI p &&& 31) = nI (2 ^ p) := (show ∀ p, p < 7 → (1 : Int32) <<< (nI p &&& 31) = nI (2 ^ p) by decide +kernel) p hp
theorem by_p2 {p : Nat} (hp : p < 7) : 2 ^ p < 128 := (show ∀ p, p < 7 → 2 ^ p < 128 by decide) p hp
theorem rv_lt {m : Nat} (hm : m < 128) : rv7 m < 128 := (show ∀ m, m < 128 → rv7 m < 128 by decide +kernel) m hm
theorem rv_bit {m k : Nat} (hm : m < 128) (hk : k < 7) : (rv7 m).testBit k = m.testBit (6 - k) := (show ∀ m, m < 128 → ∀ k, k < 7 → (rv7 m).testBit k = m.testBit (6 - k) by decide +kernel) m hm k hk
/-- how many places a set has -/
def pc (S : Nat) : Nat := S % 2 + S / 2 % 2 + S / 4 % 2 + S / 8 % 2 + S / 16 % 2 + S / 32 % 2 + S / 64 % 2
theorem bc_pc {S : Nat} (hS : S < 128) : bcF (nI S) = nI (pc S) := (show ∀ S, S < 128 → bcF (nI S) = nI (pc S) by decide +kernel) S hS
theorem pc_le (S : Nat) : pc S ≤ 7 := by unfold pc; omega
def chl (sz : Nat) : Nat → Nat → Nat → List Nat
  | 0, _, _ => []
  | f + 1, k, S => (if pc (S ||| 2 ^ k) = sz then [S ||| 2 ^ k] else chl sz f (k + 1) (S ||| 2 ^ k)) ++ chl sz f (k + 1) S
def ch0 (sz f p : Nat) : List Nat := if pc (2 ^ p) = sz then [2 ^ p] else chl sz f (p + 1) (2 ^ p)
/-- the class's masks with p as their first place, sz places, in a basket of n -/
def ml (n p sz : Nat) : List Nat := ((List.range (2 ^ (6 - p))).map (fun i => 2 * 2 ^ (6 - p) - 1 - i)).filter (fun m => decide (m % 2 ^ (7 - n) = 0) && decide (pc m = sz))
def chk3 (f : Nat → Nat → Nat → Bool) : Bool := (List.range 8).all (fun n => (List.range 7).all (fun p => (List.range 8).all (fun z => f n p z)))
theorem chk3_of {f : Nat → Nat → Nat → Bool} (h : chk3 f = true) {n p z : Nat} (hn : n < 8) (hp : p < 7) (hz : z < 8) : f n p z = true := by
  unfold chk3 at h
  simp only [List.all_eq_true, List.mem_range] at h
  exact h n hn p hp z hz
theorem ch_ml0 : chk3 (fun n p z => !(decide (p < n) && (decide (1 ≤ z) && decide (z ≤ 5))) || decide (ch0 z (n - (p + 1)) p = (ml n p z).map rv7)) = true := by decide +kernel
theorem ch_ml {n p sz : Nat} (hn : n ≤ 7) (hp : p < n) (h1 : 1 ≤ sz) (h5 : sz ≤ 5) : ch0 sz (n - (p + 1)) p = (ml n p sz).map rv7 := by
  have h := chk3_of ch_ml0 (n := n) (p := p) (z := sz) (by omega) (by omega) (by omega)
  rw [decide_eq_true hp, decide_eq_true h1, decide_eq_true h5] at h
  simpa using h
/-- what a mask of the list is -/
def mlB (n p m : Nat) : Bool := decide (m < 128) && (m.testBit (6 - p) && ((List.range 7).all (fun k => !(decide (k < p) || decide (n ≤ k)) || !m.testBit (6 - k))))
theorem mlB_iff {n p m : Nat} : mlB n p m = true ↔ m < 128 ∧ m.testBit (6 - p) = true ∧ ∀ k, k < 7 → (k < p ∨ n ≤ k) → m.testBit (6 - k) = false := by
  unfold mlB
  simp only [Bool.and_eq_true, decide_eq_true_eq, List.all_eq_true, List.mem_range, Bool.or_eq_true, Bool.not_eq_true', Bool.or_eq_false_iff, decide_eq_false_iff_not]
  refine and_congr_right fun _ => and_congr_right fun _ => ⟨fun h k hk ho => ?_, fun h k hk => ?_⟩
  · rcases h k hk with ⟨a, b⟩ | h
    · rcases ho with ho | ho
      · exact absurd ho a
      · exact absurd ho b
    · exact h
  · by_cases a : k < p
    · exact Or.inr (h k hk (Or.inl a))
    · by_cases b : n ≤ k
      · exact Or.inr (h k hk (Or.inr b))
      · exact Or.inl ⟨a, b⟩
theorem ml_B0 : chk3 (fun n p z => !decide (p < n) || (ml n p z).all (fun m => mlB n p m && decide (pc m = z))) = true := by decide +kernel
theorem ml_B {n p sz m : Nat} (hn : n ≤ 7) (hp : p < n) (hs : sz ≤ 7) (h : m ∈ ml n p sz) : mlB n p m = true ∧ pc m = sz := by
  have h0 := chk3_of ml_B0 (n := n) (p := p) (z := sz) (by omega) (by omega) (by omega)
  rw [decide_eq_true hp] at h0
  have h1 : (ml n p sz).all (fun m => mlB n p m && decide (pc m = sz)) = true := by simpa using h0
  have h2 := List.all_eq_true.mp h1 m h
  simp only [Bool.and_eq_true, decide_eq_true_eq] at h2
  exact h2
theorem chl_sup {sz : Nat} : ∀ {f k S X : Nat}, X ∈ chl sz f k S → ∀ i, S.testBit i = true → X.testBit i = true
  | 0, _, _, _, h, _, _ => nomatch h
  | f + 1, k, S, X, h, i, hi => by
    have hor : (S ||| 2 ^ k).testBit i = true := by rw [Nat.testBit_or, hi, Bool.true_or]
    rw [chl] at h
    rcases List.mem_append.mp h with h | h
    · split at h
      · rw [List.mem_singleton.mp h]
        exact hor
      · exact chl_sup h i hor
    · exact chl_sup h i hi
/-- a set apart from the places that are taken -/
def dj (tak X : Nat) : Bool := (List.range 7).all (fun k => !(X.testBit k && tak.testBit k))
theorem dj_iff {tak X : Nat} : dj tak X = true ↔ ∀ k, k < 7 → X.testBit k = true → tak.testBit k = false := by
  unfold dj
  simp only [List.all_eq_true, List.mem_range, Bool.not_eq_true', Bool.and_eq_false_iff]
  refine ⟨fun h k hk hx => ?_, fun h k hk => ?_⟩
  · rcases h k hk with e | e
    · rw [hx] at e; cases e
    · exact e
  · cases e : X.testBit k
    · exact Or.inl rfl
    · exact Or.inr (h k hk e)
/-- one set of the list -/
def stp (g : Nat → Bool) (T : Int32 → VM → VM) (tak : Nat) (s : VM) (X : Nat) : VM := if dj tak X = true then (if g X = true then T (nI X) s else s) else s
theorem stp_off {g : Nat → Bool} {T : Int32 → VM → VM} {tak : Nat} : ∀ {l : List Nat} {s : VM}, (∀ X ∈ l, dj tak X = false) → l.foldl (stp g T tak) s = s
  | [], _, _ => rfl
  | X :: l, s, h => by
    rw [List.foldl_cons]
    have e : stp g T tak s X = s := if_neg (by rw [h X List.mem_cons_self]; decide)
    rw [e]
    exact stp_off (fun Y hY => h Y (List.mem_cons_of_mem _ hY))
/-- the model's choosing is one step a set, in the list's order; I: what each step keeps -/
theorem chF_fold {T : Int32 → VM → VM} {n j sz tak : Nat} {g : Nat → Bool} {I : VM → Prop} (hn : n ≤ 7) (htak : tak < 128) (hsz : sz ≤ 7) (hI : ∀ s, I s → szM s.2 j = nI sz ∧ ∀ X, X < 128 → (goM s.2 n j (nI X) = 0 ↔ g X = false)) (hT : ∀ X s, X < 128 → I s → I (T (nI X) s)) :
    ∀ (f k S : Nat) (s : VM), k + f = n → S < 128 → dj tak S = true → I s → chF T n j (nI tak) f k (nI S) s = (chl sz f k S).foldl (stp g T tak) s ∧ I ((chl sz f k S).foldl (stp g T tak) s) := by
  have one : ∀ (L : Int32 → VM → VM) (l : List Nat) (X : Nat) (s : VM), X < 128 → dj tak X = true → I s → (L (nI X) s = l.foldl (stp g T tak) s ∧ I (l.foldl (stp g T tak) s)) → chC L T n j (nI X) s = (if pc X = sz then [X] else l).foldl (stp g T tak) s ∧ I ((if pc X = sz then [X] else l).foldl (stp g T tak) s) := by
    intro L l X s hX hd hs hL
    obtain ⟨h1, h2⟩ := hI s hs
    unfold chC
    rw [h1, bc_pc hX]
    have hp7 := pc_le X
    by_cases e : pc X = sz
    · rw [if_pos e, if_pos (by rw [e]), List.foldl_cons, List.foldl_nil]
      unfold stp
      rw [if_pos hd]
      by_cases e2 : goM s.2 n j (nI X) = 0
      · rw [if_pos e2, if_neg (by rw [(h2 X hX).mp e2]; decide)]
        exact ⟨rfl, hs⟩
      · have e3 : g X = true := by
          cases h : g X
          · exact absurd ((h2 X hX).mpr h) e2
          · rfl
        rw [if_neg e2, if_pos e3]
        exact ⟨rfl, hT X s hX hs⟩
    · rw [if_neg e, if_neg (fun h => e ((nI_eq (by omega) (by omega)).mp h))]
      exact hL
  intro f
  induction f with
  | zero => intro k S s _ _ _ hs; exact ⟨rfl, hs⟩
  | succ f ih =>
    intro k S s hk hS hd hs
    have hk7 : k < 7 := by omega
    have hSk : S ||| 2 ^ k < 128 := by_orlt hS (by_p2 hk7)
    rw [chF, chl, List.foldl_append, by_in htak hk7]
    by_cases e : tak.testBit k = true
    · rw [if_pos e, if_neg (by decide)]
      have hoff : ((if pc (S ||| 2 ^ k) = sz then [S ||| 2 ^ k] else chl sz f (k + 1) (S ||| 2 ^ k))).foldl (stp g T tak) s = s := stp_off (fun X hX => by
        have hXk : X.testBit k = true := by
          have hb : (S ||| 2 ^ k).testBit k = true := by rw [Nat.testBit_or, Nat.testBit_two_pow_self, Bool.or_true]
          split at hX
          · rw [List.mem_singleton.mp hX]; exact hb
          · exact chl_sup hX k hb
        cases h : dj tak X
        · rfl
        · have := dj_iff.mp h k hk7 hXk
          rw [e] at this; cases this)
      rw [hoff]
      exact ih (k + 1) S s (by omega) hS hd hs
    · rw [if_neg e, if_pos rfl, by_or hS hk7]
      have hd2 : dj tak (S ||| 2 ^ k) = true := dj_iff.mpr fun i hi hb => by
        rw [Nat.testBit_or, Nat.testBit_two_pow, Bool.or_eq_true, decide_eq_true_eq] at hb
        rcases hb with hb | hb
        · exact dj_iff.mp hd i hi hb
        · rw [← hb]
          cases h : tak.testBit k
          · rfl
          · exact absurd h e
      have h1 := one (chF T n j (nI tak) f (k + 1)) (chl sz f (k + 1) (S ||| 2 ^ k)) (S ||| 2 ^ k) s hSk hd2 hs (ih (k + 1) (S ||| 2 ^ k) s (by omega) hSk hd2 hs)
      rw [h1.1]
      exact ih (k + 1) S _ (by omega) hS hd h1.2
theorem ch0_fold {T : Int32 → VM → VM} {n j sz tak p : Nat} {g : Nat → Bool} {I : VM → Prop} (hn : n ≤ 7) (hp : p < n) (htak : tak < 128) (hsz1 : 1 ≤ sz) (hsz : sz ≤ 5) (hI : ∀ s, I s → szM s.2 j = nI sz ∧ ∀ X, X < 128 → (goM s.2 n j (nI X) = 0 ↔ g X = false)) (hT : ∀ X s, X < 128 → I s → I (T (nI X) s)) (hdp : tak.testBit p = false) {s : VM} (hs : I s) :
    chC (chF T n j (nI tak) (n - (p + 1)) (p + 1)) T n j (1 <<< (nI p &&& 31)) s = ((ml n p sz).map rv7).foldl (stp g T tak) s := by
  have hp7 : p < 7 := by omega
  have hd : dj tak (2 ^ p) = true := dj_iff.mpr fun i hi hb => by
    rw [Nat.testBit_two_pow, decide_eq_true_eq] at hb
    rw [← hb]
    exact hdp
  rw [← ch_ml hn hp hsz1 hsz, by_bit hp7]
  have h := chF_fold (T := T) hn htak (by omega : sz ≤ 7) hI hT (n - (p + 1)) (p + 1) (2 ^ p) s (by omega) (by_p2 hp7) hd hs
  obtain ⟨h1, h2⟩ := hI s hs
  unfold chC ch0
  rw [h1, bc_pc (by_p2 hp7)]
  have hpc := pc_le (2 ^ p)
  by_cases e : pc (2 ^ p) = sz
  · rw [if_pos e, if_pos (by rw [e]), List.foldl_cons, List.foldl_nil]
    unfold stp
    rw [if_pos hd]
    by_cases e2 : goM s.2 n j (nI (2 ^ p)) = 0
    · rw [if_pos e2, if_neg (by rw [(h2 _ (by_p2 hp7)).mp e2]; decide)]
    · have e3 : g (2 ^ p) = true := by
        cases h : g (2 ^ p)
        · exact absurd ((h2 _ (by_p2 hp7)).mpr h) e2
        · rfl
      rw [if_neg e2, if_pos e3]
  · rw [if_neg e, if_neg (fun h => e ((nI_eq (by omega) (by omega)).mp h))]
    exact h.1
