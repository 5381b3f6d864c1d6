/-! THE MODEL'S SPREADING is that one. -/
theorem uX_lt {k : Nat} : ∀ {acc : List us3}, uX acc k = -1 ∨ ∃ i, i < acc.length ∧ uX acc k = nI i
  | [] => Or.inl rfl
  | u :: r => by
    rw [uX]
    split
    · exact Or.inr ⟨r.length, Nat.lt_succ_self _, rfl⟩
    · rcases uX_lt (k := k) (acc := r) with h | ⟨i, h1, h2⟩
      · exact Or.inl h
      · exact Or.inr ⟨i, Nat.lt_succ_of_lt h1, h2⟩
theorem uX_suf {u : us3} {r : List us3} {k : Nat} (hk : k < 7) : ∀ {pre : List us3}, (pre ++ u :: r).length < 2 ^ 31 → dsj (pre ++ u :: r) → (uX (pre ++ u :: r) k = nI r.length ↔ pk u k = true)
  | [], hl, _ => by
    have hr : r.length < 2 ^ 31 := by
      rw [List.nil_append, List.length_cons] at hl
      omega
    rw [List.nil_append, uX]
    by_cases e : pk u k = true
    · rw [if_pos (show u.2.1.testBit (6 - k) = true from e)]
      exact ⟨fun _ => e, fun _ => rfl⟩
    · rw [if_neg (show ¬ u.2.1.testBit (6 - k) = true from e)]
      refine ⟨fun h => ?_, fun h => absurd h e⟩
      rcases uX_lt (k := k) (acc := r) with h1 | ⟨i, h1, h2⟩
      · exact absurd (h.symm.trans h1) (nI_neg1 hr)
      · have := (nI_eq (by omega) hr).mp (h2.symm.trans h)
        omega
  | v :: pre, hl, hd => by
    have hl2 : (pre ++ u :: r).length < 2 ^ 31 := by
      rw [List.cons_append, List.length_cons] at hl
      omega
    have ih := uX_suf hk (pre := pre) hl2 hd.2
    rw [List.cons_append, uX]
    by_cases e : v.2.1.testBit (6 - k) = true
    · rw [if_pos e]
      have hno := hd.1 k hk e
      have hlen : r.length < (pre ++ u :: r).length := by
        rw [List.length_append, List.length_cons]
        omega
      refine ⟨fun h => ?_, fun h => ?_⟩
      · have := (nI_eq (by omega) (by omega)).mp h
        have h9 : (pre ++ u :: r).length = r.length := this
        omega
      · have hK : ∀ {l : List us3}, uK (l ++ u :: r) k = true := by
          intro l
          induction l with
          | nil => rw [List.nil_append, uK, show u.2.1.testBit (6 - k) = true from h, Bool.true_or]
          | cons w l ih => rw [List.cons_append, uK, ih, Bool.or_true]
        have h9 : uK (pre ++ u :: r) k = false := hno
        rw [hK] at h9
        cases h9
    · rw [if_neg e]
      exact ih
theorem lsR_suf {f g : Nat → Int32} {u : us3} {r : List us3} : ∀ {pre : List us3}, lsR f g (pre ++ u :: r) → f r.length = nI u.1 ∧ g r.length = nI u.2.2
  | [], h => ⟨h.1, h.2.1⟩
  | _ :: pre, h => lsR_suf (pre := pre) h.2.2
theorem dsj_suf {r : List us3} : ∀ {pre : List us3}, dsj (pre ++ r) → dsj r
  | [], h => h
  | _ :: pre, h => dsj_suf (pre := pre) h.2
/-- the model's nets, place by place -/
def nM (M : Nat → Nat → Int32) (n : Nat) (b : Nat → Nat) : Prop := (∀ k, k < n → (M 14 k).toNatClampNeg = b k) ∧ ∀ k k', k < n → k' < n → b k = b k' → k = k'
theorem np_spec {M : Nat → Nat → Int32} {n : Nat} {b : Nat → Nat} (hb : nM M n b) : ∀ i, i ≤ n → (∀ k, k < i → np1 M i (b k) = prM M k) ∧ ∀ z, (∀ k, k < n → z ≠ b k) → np1 M i z = M 3 z
  | 0, _ => ⟨fun k hk => absurd hk (Nat.not_lt_zero _), fun _ _ => rfl⟩
  | i + 1, hi => by
    obtain ⟨h1, h2⟩ := np_spec hb i (by omega)
    have es : np1 M (i + 1) = upd (np1 M i) (M 14 i).toNatClampNeg (prM M i) := rfl
    rw [es, hb.1 i (by omega)]
    refine ⟨fun k hk => ?_, fun z hz => ?_⟩
    · by_cases e : k = i
      · rw [e, upd_self9]
      · rw [upd_ne9 (fun h => e (hb.2 k i (by omega) (by omega) h))]
        exact h1 k (by omega)
    · rw [upd_ne9 (hz i (by omega))]
      exact h2 z hz
/-- one use's spreading -/
theorem ms_spec {M : Nat → Nat → Int32} {n u : Nat} {b pr x : Nat → Nat} {U : us3} (hn : n ≤ 7) (hb : nM M n b) (hpr : ∀ k, k < n → prM M k = nI (pr k) ∧ pr k ≤ 9999 ∧ 0 < pr k) (hS : ∀ k, k < n → (M 21 k = nI u ↔ pk U k = true)) (hSn : ∀ k, k < 7 → pk U k = true → k < n) (h24 : M 24 u = nI U.2.2) (hd : U.2.2 ≤ 70000) (hdW : U.2.2 < wN pr U)
    (hxS : ∀ k, k < n → pk U k = true → x k = pr k) {f : Nat → Int32} (hf : ∀ k, k < n → f (b k) = nI (x k) ∧ x k ≤ 9999) : alF M u n = nI (wN pr U) ∧ (∀ k, k < n → spS M n u f (b k) = nI (nw x U k)) ∧ ∀ z, (∀ k, k < n → z ≠ b k) → spS M n u f z = f z := by
  have hsum : ∀ g : Nat → Nat, sm (fun k => if pk U k = true then g k else 0) n = sm (fun k => if pk U k = true then g k else 0) 7 := fun g => by
    have h : ∀ i, i ≤ 7 → n ≤ i → sm (fun k => if pk U k = true then g k else 0) i = sm (fun k => if pk U k = true then g k else 0) n := by
      intro i
      induction i with
      | zero => intro _ h; rw [show n = 0 by omega]
      | succ i ih =>
        intro h7 h
        by_cases e : n = i + 1
        · rw [e]
        · rw [sm, ih (by omega) (by omega), if_neg (fun e2 => by have := hSn i (by omega) e2; omega)]
          rfl
    exact (h 7 (Nat.le_refl _) hn).symm
  have hal : ∀ i, i ≤ n → alF M u i = nI (sm (fun k => if pk U k = true then pr k else 0) i) := by
    intro i
    induction i with
    | zero => intro _; rfl
    | succ i ih =>
      intro hi
      have es : alF M u (i + 1) = alF M u i + (if M 21 i = nI u then prM M i else 0) := rfl
      rw [es, ih (by omega), sm]
      by_cases e : pk U i = true
      · rw [if_pos ((hS i (by omega)).mpr e), if_pos e, (hpr i (by omega)).1, nI_add]
      · rw [if_neg (fun h => e ((hS i (by omega)).mp h)), if_neg e, Int32.add_zero]
        rfl
  have eal : alF M u n = nI (wN pr U) := by
    rw [hal n (Nat.le_refl _), hsum]
    rfl
  refine ⟨eal, ?_⟩
  have hWl : wN pr U ≤ 69993 := sm_Sle (S := pk U) (fun k hk e => (hpr k (hSn k hk e)).2.1)
  have hWx : wN x U = wN pr U := sm_eq (fun k hk => by
    by_cases e : pk U k = true
    · rw [if_pos e, if_pos e, hxS k (hSn k hk e) e]
    · rw [if_neg e, if_neg e])
  have hgt : ∀ k, k < n → gtF M u (nI (wN pr U)) k = nI (cuN x (pk U) U.2.2 (wN x U) k) := fun k hk => by
    unfold gtF cuN
    rw [hWx]
    by_cases e : pk U k = true
    · rw [if_pos ((hS k hk).mpr e), if_pos e, h24, (hpr k hk).1, hxS k hk e, nI_mul]
      have h1 := (hpr k hk).2.1
      have hb2 : U.2.2 * pr k ≤ 70000 * 9999 := Nat.mul_le_mul hd h1
      rw [nI_div (by omega) (by omega) (by omega)]
    · rw [if_neg (fun h => e ((hS k hk).mp h)), if_neg e]
      rfl
  have hcu : ∀ k, k < n → pk U k = true → cuN x (pk U) U.2.2 (wN x U) k < x k := fun k hk e => cu_lt (by rw [hWx]; exact hdW) e (by rw [hxS k hk e]; exact (hpr k hk).2.2)
  have hcu0 : ∀ k, ¬ pk U k = true → cuN x (pk U) U.2.2 (wN x U) k = 0 := fun k e => if_neg e
  have hcsum : ∀ i, n ≤ i → i ≤ 7 → sm (cuN x (pk U) U.2.2 (wN x U)) i = sm (cuN x (pk U) U.2.2 (wN x U)) n := by
    intro i
    induction i with
    | zero => intro h _; rw [show n = 0 by omega]
    | succ i ih =>
      intro h h7
      by_cases e : n = i + 1
      · rw [e]
      · rw [sm, ih (by omega) (by omega), hcu0 i (fun e2 => by have := hSn i (by omega) e2; omega), Nat.add_zero]
  obtain ⟨c1, -⟩ := cu_rest (x := x) (S := pk U) (t := U.2.2) (W := wN x U) (m := 7) rfl (by rw [hWx]; omega)
  have hs2 : ∀ i, i ≤ n → (∀ k, k < n → s2F M u (nI (wN pr U)) f i (b k) = nI (if k < i then x k - cuN x (pk U) U.2.2 (wN x U) k else x k)) ∧ (∀ z, (∀ k, k < n → z ≠ b k) → s2F M u (nI (wN pr U)) f i z = f z) ∧ s2L M u (nI (wN pr U)) i = nI (U.2.2 - sm (cuN x (pk U) U.2.2 (wN x U)) i) := by
    intro i
    induction i with
    | zero => intro _; exact ⟨fun k hk => by rw [if_neg (Nat.not_lt_zero _)]; exact (hf k hk).1, fun _ _ => rfl, h24⟩
    | succ i ih =>
      intro hi
      obtain ⟨i1, i2, i3⟩ := ih (by omega)
      have es : s2F M u (nI (wN pr U)) f (i + 1) = upd (s2F M u (nI (wN pr U)) f i) (M 14 i).toNatClampNeg (s2F M u (nI (wN pr U)) f i (M 14 i).toNatClampNeg - gtF M u (nI (wN pr U)) i) := rfl
      have el : s2L M u (nI (wN pr U)) (i + 1) = s2L M u (nI (wN pr U)) i - gtF M u (nI (wN pr U)) i := rfl
      have hmono := sm_mono (f := cuN x (pk U) U.2.2 (wN x U)) (a := i + 1) (b := 7) (by omega)
      rw [sm] at hmono
      have hcx : cuN x (pk U) U.2.2 (wN x U) i ≤ x i := by
        by_cases e : pk U i = true
        · exact Nat.le_of_lt (hcu i (by omega) e)
        · rw [hcu0 i e]; exact Nat.zero_le _
      rw [es, el, hb.1 i (by omega), hgt i (by omega), i3, i1 i (by omega), if_neg (Nat.lt_irrefl i), nI_sub hcx, nI_sub (by omega)]
      refine ⟨fun k hk => ?_, fun z hz => ?_, by rw [sm]; congr 1; omega⟩
      · by_cases e : k = i
        · rw [e, upd_self9, if_pos (Nat.lt_succ_self i)]
        · rw [upd_ne9 (fun h => e (hb.2 k i hk (by omega) h)), i1 k hk]
          by_cases e2 : k < i
          · rw [if_pos e2, if_pos (by omega)]
          · rw [if_neg e2, if_neg (by omega)]
      · rw [upd_ne9 (hz i (by omega))]
        exact i2 z hz
  obtain ⟨p1, p2, p3⟩ := hs2 n (Nat.le_refl _)
  have hr31 : ∀ i, rsN (pk U) (U.2.2 - sm (cuN x (pk U) U.2.2 (wN x U)) 7) i < 2 ^ 31 := fun i => by
    rw [rsN_eq]
    omega
  have hs3 : ∀ i, i ≤ n → (∀ k, k < n → (s3F M u (s2F M u (nI (wN pr U)) f n, s2L M u (nI (wN pr U)) n) i).1 (b k) = nI (if k < i then nw x U k else x k - cuN x (pk U) U.2.2 (wN x U) k)) ∧ (∀ z, (∀ k, k < n → z ≠ b k) → (s3F M u (s2F M u (nI (wN pr U)) f n, s2L M u (nI (wN pr U)) n) i).1 z = f z) ∧ (s3F M u (s2F M u (nI (wN pr U)) f n, s2L M u (nI (wN pr U)) n) i).2 = nI (rsN (pk U) (U.2.2 - sm (cuN x (pk U) U.2.2 (wN x U)) 7) i) := by
    intro i
    induction i with
    | zero =>
      intro _
      refine ⟨fun k hk => by rw [if_neg (Nat.not_lt_zero _)]; exact (p1 k hk).trans (by rw [if_pos hk]), p2, ?_⟩
      show s2L M u (nI (wN pr U)) n = nI (U.2.2 - sm (cuN x (pk U) U.2.2 (wN x U)) 7)
      rw [p3, hcsum 7 hn (Nat.le_refl _)]
    | succ i ih =>
      intro hi
      obtain ⟨i1, i2, i3⟩ := ih (by omega)
      have es : s3F M u (s2F M u (nI (wN pr U)) f n, s2L M u (nI (wN pr U)) n) (i + 1) = s3S M u i (s3F M u (s2F M u (nI (wN pr U)) f n, s2L M u (nI (wN pr U)) n) i) := rfl
      rw [es]
      generalize s3F M u (s2F M u (nI (wN pr U)) f n, s2L M u (nI (wN pr U)) n) i = t at i1 i2 i3
      have keep : gvN (pk U) (U.2.2 - sm (cuN x (pk U) U.2.2 (wN x U)) 7) i = 0 → (∀ k, k < n → t.1 (b k) = nI (if k < i + 1 then nw x U k else x k - cuN x (pk U) U.2.2 (wN x U) k)) ∧ (∀ z, (∀ k, k < n → z ≠ b k) → t.1 z = f z) ∧ t.2 = nI (rsN (pk U) (U.2.2 - sm (cuN x (pk U) U.2.2 (wN x U)) 7) (i + 1)) := fun h0 => by
        refine ⟨fun k hk => (i1 k hk).trans ?_, i2, by rw [i3, rsN_s, h0, Nat.sub_zero]⟩
        by_cases e : k = i
        · rw [e, if_neg (Nat.lt_irrefl i), if_pos (Nat.lt_succ_self i)]
          unfold nw
          rw [h0, Nat.add_zero]
        · by_cases e2 : k < i
          · rw [if_pos e2, if_pos (by omega)]
          · rw [if_neg e2, if_neg (by omega)]
      unfold s3S
      rw [i3]
      by_cases a1 : 0 < rsN (pk U) (U.2.2 - sm (cuN x (pk U) U.2.2 (wN x U)) 7) i
      · rw [if_neg (nI_nle a1 (hr31 i))]
        by_cases a2 : pk U i = true
        · have hg : gvN (pk U) (U.2.2 - sm (cuN x (pk U) U.2.2 (wN x U)) 7) i = 1 := if_pos ⟨a1, a2⟩
          rw [if_pos ((hS i (by omega)).mpr a2), hb.1 i (by omega), i1 i (by omega), if_neg (Nat.lt_irrefl i)]
          have hlt := hcu i (by omega) a2
          refine ⟨fun k hk => ?_, fun z hz => ?_, ?_⟩
          · show upd t.1 (b i) (nI (x i - cuN x (pk U) U.2.2 (wN x U) i) - 1) (b k) = _
            by_cases e : k = i
            · rw [e, upd_self9, if_pos (Nat.lt_succ_self i), show (1 : Int32) = nI 1 from rfl, nI_sub (by omega)]
              unfold nw
              rw [hg]
              congr 1
            · rw [upd_ne9 (fun h => e (hb.2 k i hk (by omega) h)), i1 k hk]
              by_cases e2 : k < i
              · rw [if_pos e2, if_pos (by omega)]
              · rw [if_neg e2, if_neg (by omega)]
          · show upd t.1 (b i) _ z = f z
            rw [upd_ne9 (hz i (by omega))]
            exact i2 z hz
          · show nI (rsN (pk U) (U.2.2 - sm (cuN x (pk U) U.2.2 (wN x U)) 7) i) - 1 = _
            rw [rsN_s, hg, show (1 : Int32) = nI 1 from rfl, nI_sub a1]
        · rw [if_neg (fun h => a2 ((hS i (by omega)).mp h))]
          exact keep (if_neg (fun h => a2 h.2))
      · rw [if_pos ((nI_le0 (hr31 i)).mpr (by omega))]
        exact keep (if_neg (fun h => a1 h.1))
  obtain ⟨t1, t2, -⟩ := hs3 n (Nat.le_refl _)
  unfold spS
  rw [eal]
  exact ⟨fun k hk => (t1 k hk).trans (by rw [if_pos hk]), t2⟩
/-- all uses' spreading -/
theorem su_spec {M : Nat → Nat → Int32} {n : Nat} {b pr : Nat → Nat} {L : List us3} (hn : n ≤ 7) (hb : nM M n b) (hpr : ∀ k, k < n → prM M k = nI (pr k) ∧ pr k ≤ 9999 ∧ 0 < pr k) (hL : L.length ≤ 7) (hdj : dsj L) (hu : ∀ u ∈ L, u.2.2 ≤ 70000 ∧ u.2.2 < wN pr u ∧ ∀ k, k < 7 → pk u k = true → k < n)
    (h21 : ∀ k, k < n → M 21 k = uX L k) {g : Nat → Int32} (hls : lsR g (M 24) L) : ∀ {r pre : List us3}, pre ++ r = L → (∀ k, k < n → spU M n r.length (b k) = nI (nt pr r k)) ∧ (∀ z, (∀ k, k < n → z ≠ b k) → spU M n r.length z = M 3 z) ∧ ∀ i, i < r.length → ∃ W, 0 < W ∧ W ≤ 69993 ∧ alF M i n = nI W
  | [], pre, _ => by
    obtain ⟨h1, h2⟩ := np_spec hb n (Nat.le_refl _)
    exact ⟨fun k hk => (h1 k hk).trans (hpr k hk).1, h2, fun i hi => absurd hi (Nat.not_lt_zero _)⟩
  | u :: r, pre, e => by
    obtain ⟨g1, g2, g3⟩ := su_spec hn hb hpr hL hdj hu h21 hls (r := r) (pre := pre ++ [u]) (by rw [List.append_assoc]; exact e)
    have hmem : u ∈ L := by rw [← e]; exact List.mem_append_right _ List.mem_cons_self
    obtain ⟨u1, u2, u3⟩ := hu u hmem
    have hdu : dsj (u :: r) := dsj_suf (pre := pre) (by rw [e]; exact hdj)
    have hx := ms_spec (M := M) (n := n) (u := r.length) (b := b) (pr := pr) (x := nt pr r) (U := u) hn hb hpr (fun k hk => by
      rw [h21 k hk, ← e]
      exact uX_suf (by omega) (by rw [e]; omega) (by rw [e]; exact hdj)) u3 (by
      have := hls
      rw [← e] at this
      exact (lsR_suf this).2) u1 u2 (fun k hk e2 => nt_off (hdu.1 k (by omega) e2)) (f := spU M n r.length) (fun k hk => ⟨g1 k hk, Nat.le_trans (nt_le r k) (hpr k hk).2.1⟩)
    refine ⟨hx.2.1, fun z hz => (hx.2.2 z hz).trans (g2 z hz), fun i hi => ?_⟩
    by_cases e2 : i = r.length
    · rw [e2]
      exact ⟨wN pr u, by omega, sm_Sle (S := pk u) (fun k hk e3 => (hpr k (u3 k hk e3)).2.1), hx.1⟩
    · exact g3 i (by rw [List.length_cons] at hi; omega)
theorem fn_sum {n : Nat} (hn : n ≤ 7) (x : Nat → Nat) : ∀ i, n ≤ i → sm (fun k => if fnS n k = true then x k else 0) i = sm x n := by
  have h0 : ∀ i, i ≤ n → sm (fun k => if fnS n k = true then x k else 0) i = sm x i := fun i hi => sm_eq (fun k hk => if_pos (decide_eq_true (by omega)))
  intro i
  induction i with
  | zero => intro h; rw [show n = 0 by omega]; rfl
  | succ i ih =>
    intro h
    by_cases e : n = i + 1
    · rw [← e]; exact h0 n (Nat.le_refl _)
    · rw [sm, ih (by omega), if_neg (fun h => by have := of_decide_eq_true h; omega), Nat.add_zero]
/-- the last spreading -/
theorem mf_spec {M : Nat → Nat → Int32} {n t : Nat} {b x : Nat → Nat} (hn : n ≤ 7) (hb : nM M n b) {f : Nat → Int32} (hf : ∀ k, k < n → f (b k) = nI (x k) ∧ x k ≤ 9999) {W T : Nat} (hW : W = fnW n x) (hT : T = fnT n x t) :
    (∀ k, k < n → (s5F M (s4G M f (nI T) (nI W) n) (f, s4L M f (nI T) (nI W) n) n).1 (b k) = nI (if 0 < W then fn n x t k else x k)) ∧ ∀ z, (∀ k, k < n → z ≠ b k) → (s5F M (s4G M f (nI T) (nI W) n) (f, s4L M f (nI T) (nI W) n) n).1 z = f z := by
  have hTW : T ≤ W := by
    rw [hT, hW]
    unfold fnT
    split <;> omega
  have hWl : W ≤ 69993 := by
    rw [hW]
    exact sm_Sle (S := fnS n) (fun k _ e => (hf k (of_decide_eq_true e)).2)
  -- the parts rounded down; nothing where nothing is left
  have hX : ∀ k, k < n → s4X M f (nI T) (nI W) k = nI (if 0 < W then cuN x (fnS n) T W k else 0) := fun k hk => by
    unfold s4X
    by_cases h0 : 0 < W
    · rw [if_neg (nI_ne0 h0 (by omega)), if_pos h0, hb.1 k hk, (hf k hk).1, nI_mul]
      unfold cuN
      rw [if_pos (show fnS n k = true from decide_eq_true hk)]
      have hb2 : T * x k ≤ 69993 * 9999 := Nat.mul_le_mul (by omega) (hf k hk).2
      rw [nI_div (by omega) h0 (by omega)]
    · rw [if_neg h0, if_pos (by rw [show W = 0 by omega]; rfl)]
      rfl
  have hc1 : 0 < W → sm (cuN x (fnS n) T W) 7 ≤ T := fun h0 => (cu_rest (x := x) (S := fnS n) (t := T) (W := W) (m := 7) hW h0).1
  have hcn : sm (cuN x (fnS n) T W) 7 = sm (cuN x (fnS n) T W) n := by
    have h : ∀ i, n ≤ i → i ≤ 7 → sm (cuN x (fnS n) T W) i = sm (cuN x (fnS n) T W) n := by
      intro i
      induction i with
      | zero => intro h _; rw [show n = 0 by omega]
      | succ i ih =>
        intro h h7
        by_cases e : n = i + 1
        · rw [e]
        · rw [sm, ih (by omega) (by omega)]
          unfold cuN
          rw [if_neg (fun h => by have := of_decide_eq_true h; omega), Nat.add_zero]
    exact h 7 hn (Nat.le_refl _)
  have hG : ∀ i, i ≤ n → (∀ k, k < i → s4G M f (nI T) (nI W) i k = nI (if 0 < W then cuN x (fnS n) T W k else 0)) ∧ s4L M f (nI T) (nI W) i = nI (if 0 < W then T - sm (cuN x (fnS n) T W) i else 0) := by
    intro i
    induction i with
    | zero =>
      intro _
      refine ⟨fun k hk => absurd hk (Nat.not_lt_zero _), ?_⟩
      show nI T = _
      by_cases h0 : 0 < W
      · rw [if_pos h0]; rfl
      · rw [if_neg h0, show T = 0 by omega]
    | succ i ih =>
      intro hi
      obtain ⟨i1, i2⟩ := ih (by omega)
      have e1 : s4G M f (nI T) (nI W) (i + 1) = upd (s4G M f (nI T) (nI W) i) i (s4X M f (nI T) (nI W) i) := rfl
      have e2 : s4L M f (nI T) (nI W) (i + 1) = s4L M f (nI T) (nI W) i - s4X M f (nI T) (nI W) i := rfl
      rw [e1, e2, hX i (by omega), i2]
      refine ⟨fun k hk => ?_, ?_⟩
      · by_cases e : k = i
        · rw [e, upd_self9]
        · rw [upd_ne9 e]; exact i1 k (by omega)
      · by_cases h0 : 0 < W
        · rw [if_pos h0, if_pos h0, if_pos h0]
          have h1 := sm_mono (f := cuN x (fnS n) T W) (a := i + 1) (b := 7) (by omega)
          have h2 := hc1 h0
          rw [sm] at h1
          rw [nI_sub (by omega), sm]
          congr 1
          omega
        · rw [if_neg h0, if_neg h0, if_neg h0]
          rfl
  obtain ⟨q1, q2⟩ := hG n (Nat.le_refl _)
  generalize s4G M f (nI T) (nI W) n = G at q1
  rw [q2]
  -- one more for whoever has something left
  have hcle : 0 < W → ∀ k, k < n → cuN x (fnS n) T W k ≤ x k := fun h0 k hk => by
    unfold cuN
    rw [if_pos (show fnS n k = true from decide_eq_true hk), Nat.div_le_iff_le_mul_add_pred h0]
    have : T * x k ≤ W * x k := Nat.mul_le_mul_right _ hTW
    omega
  by_cases h0 : 0 < W
  · rw [if_pos h0]
    have hg1 : ∀ k, k < n → 0 < gvN (fnP n x) (T - sm (cuN x (fnS n) T W) 7) k → cuN x (fnS n) T W k < x k := fun k hk hg => by
      have hW0 : 0 < fnW n x := by omega
      rcases fn_P (n := n) (t := t) (x := x) hW0 with e | e
      · rw [← hT, ← hW] at e
        unfold gvN at hg
        rw [e, rsN_0, if_neg (fun h => absurd h.1 (Nat.lt_irrefl _))] at hg
        exact absurd hg (Nat.lt_irrefl _)
      · have h1 := e k (by omega)
        rw [← hT, ← hW] at h1
        unfold gvN at hg
        split at hg
        · rename_i h2
          have h3 := h1.trans h2.2
          rw [Bool.and_eq_true, decide_eq_true_eq] at h3
          exact h3.2
        · exact absurd hg (Nat.lt_irrefl _)
    have hs : ∀ i, i ≤ n → (∀ k, k < n → (s5F M G (f, nI (T - sm (cuN x (fnS n) T W) n)) i).1 (b k) = nI (if k < i then fn n x t k else x k)) ∧ (∀ z, (∀ k, k < n → z ≠ b k) → (s5F M G (f, nI (T - sm (cuN x (fnS n) T W) n)) i).1 z = f z) ∧ (s5F M G (f, nI (T - sm (cuN x (fnS n) T W) n)) i).2 = nI (rsN (fnP n x) (T - sm (cuN x (fnS n) T W) 7) i) := by
      intro i
      induction i with
      | zero =>
        intro _
        exact ⟨fun k hk => by rw [if_neg (Nat.not_lt_zero _)]; exact (hf k hk).1, fun _ _ => rfl, by rw [hcn]; rfl⟩
      | succ i ih =>
        intro hi
        obtain ⟨i1, i2, i3⟩ := ih (by omega)
        have es : s5F M G (f, nI (T - sm (cuN x (fnS n) T W) n)) (i + 1) = s5S M G i (s5F M G (f, nI (T - sm (cuN x (fnS n) T W) n)) i) := rfl
        rw [es]
        generalize s5F M G (f, nI (T - sm (cuN x (fnS n) T W) n)) i = y at i1 i2 i3
        have hr31 : rsN (fnP n x) (T - sm (cuN x (fnS n) T W) 7) i < 2 ^ 31 := by
          rw [rsN_eq]
          omega
        have eg := q1 i (by omega)
        rw [if_pos h0] at eg
        have ei := i1 i (by omega)
        rw [if_neg (Nat.lt_irrefl i)] at ei
        have hxi := (hf i (by omega)).2
        have hci := hcle h0 i (by omega)
        have step : ∀ mm : Nat, mm = gvN (fnP n x) (T - sm (cuN x (fnS n) T W) 7) i → (∀ k, k < n → upd y.1 (b i) (nI (x i) - (nI (cuN x (fnS n) T W i) + nI mm)) (b k) = nI (if k < i + 1 then fn n x t k else x k)) ∧ (∀ z, (∀ k, k < n → z ≠ b k) → upd y.1 (b i) (nI (x i) - (nI (cuN x (fnS n) T W i) + nI mm)) z = f z) ∧ nI (rsN (fnP n x) (T - sm (cuN x (fnS n) T W) 7) i) - nI mm = nI (rsN (fnP n x) (T - sm (cuN x (fnS n) T W) 7) (i + 1)) := fun mm hmm => by
          have hmle : cuN x (fnS n) T W i + mm ≤ x i := by
            rcases Nat.eq_zero_or_pos mm with e | e
            · omega
            · have h1 := hg1 i (by omega) (by rw [← hmm]; exact e)
              have h2 : mm ≤ 1 := by rw [hmm]; unfold gvN; split <;> omega
              omega
          have hmr : mm ≤ rsN (fnP n x) (T - sm (cuN x (fnS n) T W) 7) i := by
            rw [hmm]
            unfold gvN
            split
            · rename_i h; exact h.1
            · exact Nat.zero_le _
          rw [nI_add, nI_sub hmle, nI_sub hmr, rsN_s, ← hmm]
          refine ⟨fun k hk => ?_, fun z hz => ?_, rfl⟩
          · by_cases e : k = i
            · rw [e, upd_self9, if_pos (Nat.lt_succ_self i)]
              unfold fn
              rw [← hT, ← hW, ← hmm]
            · rw [upd_ne9 (fun h => e (hb.2 k i hk (by omega) h)), i1 k hk]
              by_cases e2 : k < i
              · rw [if_pos e2, if_pos (by omega)]
              · rw [if_neg e2, if_neg (by omega)]
          · rw [upd_ne9 (hz i (by omega))]
            exact i2 z hz
        unfold s5S
        rw [i3, hb.1 i (by omega), ei, eg]
        by_cases a1 : 0 < rsN (fnP n x) (T - sm (cuN x (fnS n) T W) 7) i
        · rw [if_neg (nI_nle a1 hr31)]
          by_cases a2 : 0 < x i
          · rw [if_neg (nI_nle a2 (by omega))]
            exact step 1 (if_pos ⟨a1, by unfold fnP; rw [show fnS n i = true from decide_eq_true (by omega), decide_eq_true a2]; rfl⟩).symm
          · rw [if_pos ((nI_le0 (by omega)).mpr (by omega))]
            exact step 0 (if_neg (fun h => by have h9 := h.2; unfold fnP at h9; rw [decide_eq_false a2, Bool.and_false] at h9; cases h9)).symm
        · rw [if_pos ((nI_le0 hr31).mpr (by omega))]
          exact step 0 (if_neg (fun h => a1 h.1)).symm
    obtain ⟨t1, t2, -⟩ := hs n (Nat.le_refl _)
    exact ⟨fun k hk => (t1 k hk).trans (by rw [if_pos hk, if_pos h0]), t2⟩
  · rw [if_neg h0]
    have hs : ∀ i, i ≤ n → (∀ k, k < n → (s5F M G (f, nI 0) i).1 (b k) = nI (x k)) ∧ (∀ z, (∀ k, k < n → z ≠ b k) → (s5F M G (f, nI 0) i).1 z = f z) ∧ (s5F M G (f, nI 0) i).2 = nI 0 := by
      intro i
      induction i with
      | zero => intro _; exact ⟨fun k hk => (hf k hk).1, fun _ _ => rfl, rfl⟩
      | succ i ih =>
        intro hi
        obtain ⟨i1, i2, i3⟩ := ih (by omega)
        have es : s5F M G (f, nI 0) (i + 1) = s5S M G i (s5F M G (f, nI 0) i) := rfl
        rw [es]
        generalize s5F M G (f, nI 0) i = y at i1 i2 i3
        have eg := q1 i (by omega)
        rw [if_neg h0] at eg
        unfold s5S
        rw [i3, if_pos (by decide), hb.1 i (by omega), i1 i (by omega), eg]
        refine ⟨fun k hk => ?_, fun z hz => ?_, rfl⟩
        · show upd y.1 (b i) (nI (x i) - (nI 0 + 0)) (b k) = nI (x k)
          by_cases e : k = i
          · rw [e, upd_self9, show nI 0 + 0 = 0 from rfl, Int32.sub_zero]
          · rw [upd_ne9 (fun h => e (hb.2 k i hk (by omega) h))]
            exact i1 k hk
        · show upd y.1 (b i) _ z = f z
          rw [upd_ne9 (hz i (by omega))]
          exact i2 z hz
    obtain ⟨t1, t2, -⟩ := hs n (Nat.le_refl _)
    exact ⟨fun k hk => (t1 k hk).trans (by rw [if_neg h0]), t2⟩
/-- the model's nets -/
theorem sp_spec {s : VM} {n : Nat} {b pr : Nat → Nat} {q : tq} {L : List us3} (hn : n ≤ 7) (hb : nM s.2 n b) (hpr : ∀ k, k < n → prM s.2 k = nI (pr k) ∧ pr k ≤ 9999 ∧ 0 < pr k) (hpr0 : ∀ k, n ≤ k → pr k = 0) (hL : L.length ≤ 7) (hdj : dsj L) (hu : ∀ u ∈ L, u.2.2 ≤ 70000 ∧ u.2.2 < wN pr u ∧ ∀ k, k < 7 → pk u k = true → k < n)
    (h21 : ∀ k, k < n → s.2 21 k = uX L k) {g : Nat → Int32} (hls : lsR g (s.2 24) L) (h8 : s.1 8 = nI (vl q L)) (h10 : s.1 10 = nI (uD L)) (hth : thr q L < 2 ^ 31) :
    (∀ k, k < n → (spF n L.length (nI (sm pr 7)) s).2 3 (b k) = nI (fnl n pr q L k)) ∧ (∀ z, (∀ k, k < n → z ≠ b k) → (spF n L.length (nI (sm pr 7)) s).2 3 z = s.2 3 z) ∧ ∀ i, i < L.length → ∃ W, 0 < W ∧ W ≤ 69993 ∧ alF s.2 i n = nI W := by
  obtain ⟨g1, g2, g3⟩ := su_spec hn hb hpr hL hdj hu h21 hls (r := L) (pre := []) rfl
  have hsum := nt_sum (pr := pr) hdj (fun u hu' => ⟨(hu u hu').2.1, fun k hk e => (hpr k ((hu u hu').2.2 k hk e)).2.2⟩)
  have hnt0 : ∀ k, n ≤ k → nt pr L k = 0 := fun k hk => by have := nt_le (pr := pr) L k; rw [hpr0 k hk] at this; omega
  have hWn : sm (nt pr L) 7 = fnW n (nt pr L) := by
    unfold fnW
    rw [fn_sum hn _ 7 hn]
    exact sm_up (fun i hi => hnt0 i hi) hn
  have hm1 : spMore s.1 (nI (sm pr 7)) = nI (fnT n (nt pr L) (thr q L)) := by
    unfold spMore mnM
    have hW2 : fnW n (nt pr L) ≤ 69993 := sm_Sle (S := fnS n) (fun k _ e => Nat.le_trans (nt_le L k) (hpr k (of_decide_eq_true e)).2.1)
    rw [h8, h10, show vl q L = uD L + thr q L from rfl, nI_sub (Nat.le_add_right _ _), Nat.add_sub_cancel_left, nI_sub (by omega), show sm pr 7 - uD L = fnW n (nt pr L) by omega]
    unfold fnT
    by_cases e : fnW n (nt pr L) < thr q L
    · rw [if_pos e]
      rw [if_pos (nI_lt e hth)]
    · rw [if_neg e, if_neg (nI_nlt (by omega) (by omega))]
  have hr : nI (sm pr 7) - s.1 10 = nI (fnW n (nt pr L)) := by
    rw [h10, nI_sub (by omega)]
    congr 1
    omega
  obtain ⟨f1, f2⟩ := mf_spec (M := s.2) (n := n) (t := thr q L) (b := b) (x := nt pr L) hn hb (f := spU s.2 n L.length) (fun k hk => ⟨g1 k hk, Nat.le_trans (nt_le L k) (hpr k hk).2.1⟩) rfl rfl
  have e3 : (spF n L.length (nI (sm pr 7)) s).2 3 = (s5F s.2 (s4G s.2 (spU s.2 n L.length) (spMore s.1 (nI (sm pr 7))) (nI (sm pr 7) - s.1 10) n) (spU s.2 n L.length, s4L s.2 (spU s.2 n L.length) (spMore s.1 (nI (sm pr 7))) (nI (sm pr 7) - s.1 10) n) n).1 := by
    unfold spF
    dsimp only
    rw [sM_ne (show Nat.beq 3 15 = false from rfl), sM_at]
  rw [e3, hm1, hr]
  exact ⟨f1, fun z hz => (f2 z hz).trans (g2 z hz), g3⟩
