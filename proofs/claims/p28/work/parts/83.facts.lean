/-! WHAT THE PROPERTY ASKS of the class's answers, out of the relation (its other side is a picture only). -/
theorem ofK_mem {k : Nat} : ∀ {acc : List us3}, uK acc k = true → ∃ u, u ∈ acc ∧ ofK acc k = nI u.1
  | [], h => nomatch (show false = true from h)
  | u :: r, h => by
    rw [uK, Bool.or_eq_true] at h
    rw [ofK]
    by_cases e : pk u k = true
    · exact ⟨u, List.mem_cons_self, if_pos e⟩
    · have h2 : uK r k = true := h.elim (fun q => absurd q e) (fun q => q)
      obtain ⟨v, hv, e2⟩ := ofK_mem h2
      exact ⟨v, List.mem_cons_of_mem _ hv, (if_neg e).trans e2⟩
/-- no two offers of a group in a set of the tree -/
def apt (q : tq) (acc : List us3) : Prop := ∀ i j, i < 6 → j < 6 → uO acc i = true → uO acc j = true → qrv q i j = false
theorem apt_nil (q : tq) : apt q [] := fun i j _ _ h1 _ => by
  have h2 : false = true := h1
  cases h2
theorem apt_cons {q : tq} (hq : qOK q) {acc : List us3} {u : us3} (h : apt q acc) (hk : okB q acc u = true) : apt q (u :: acc) := by
  intro i j hi hj h1 h2
  obtain ⟨-, -, h3⟩ := okB_iff.mp hk
  rw [uO, Bool.or_eq_true, decide_eq_true_eq] at h1 h2
  rcases h1 with e1 | h1
  · rcases h2 with e2 | h2
    · rw [← e1, ← e2]; exact hq.2.1 _
    · rw [← e1]
      cases e : qrv q u.1 j
      · rfl
      · have h4 := h3 j hj h2
        rw [hq.1 _ _ e] at h4
        cases h4
  · rcases h2 with e2 | h2
    · rw [← e2]; exact h3 i hi h1
    · exact h i j hi hj h1 h2
theorem lvs_ap {q : tq} (hq : qOK q) {us : Nat → List us3} : ∀ {f p : Nat} {acc L : List us3}, apt q acc → L ∈ lvs q us f p acc → apt q L := by
  intro f
  induction f with
  | zero =>
    intro p acc L h hm
    rw [List.mem_singleton.mp hm]
    exact h
  | succ f ih =>
    intro p acc L h hm
    rw [lvs] at hm
    split at hm
    · exact ih h hm
    · rcases List.mem_append.mp hm with hm | hm
      · obtain ⟨u, -, h2⟩ := List.mem_flatMap.mp hm
        split at h2
        · rename_i hok
          exact ih (apt_cons hq h hok) h2
        · exact nomatch h2
      · exact ih h hm
/-- the last spreading takes just what it is to take -/
theorem fn_tot {n : Nat} {x : Nat → Nat} {t : Nat} (hW : 0 < fnW n x) : sm (fn n x t) 7 + fnT n x t = sm x 7 := by
  have hT : fnT n x t ≤ fnW n x := by unfold fnT; split <;> omega
  have eC : ∀ k, cuN x (fnP n x) (fnT n x t) (fnW n x) k = cuN x (fnS n) (fnT n x t) (fnW n x) k := fun k => by
    unfold cuN fnP
    cases e : fnS n k
    · rfl
    · by_cases e2 : 0 < x k
      · rw [decide_eq_true e2]; rfl
      · rw [decide_eq_false e2, show x k = 0 by omega, Nat.mul_zero, Nat.zero_div]; rfl
  have eP : fnW n x = sm (fun k => if fnP n x k = true then x k else 0) 7 := sm_eq (fun k hk => by
    unfold fnP
    cases e : fnS n k
    · rfl
    · by_cases e2 : 0 < x k
      · rw [decide_eq_true e2]; rfl
      · rw [decide_eq_false e2, show x k = 0 by omega]; rfl)
  obtain ⟨r1, r2⟩ := cu_rest (x := x) (S := fnP n x) (t := fnT n x t) (W := fnW n x) (m := 7) eP hW
  rw [sm_eq (f := cuN x (fnP n x) (fnT n x t) (fnW n x)) (g := cuN x (fnS n) (fnT n x t) (fnW n x)) (fun k _ => eC k)] at r1 r2
  have hg := gv_sum (fnP n x) (fnT n x t - sm (cuN x (fnS n) (fnT n x t) (fnW n x)) 7) 7
  have hr := rsN_eq (fnP n x) (fnT n x t - sm (cuN x (fnS n) (fnT n x t) (fnW n x)) 7) 7
  have hle : ∀ k, k < 7 → cuN x (fnS n) (fnT n x t) (fnW n x) k + gvN (fnP n x) (fnT n x t - sm (cuN x (fnS n) (fnT n x t) (fnW n x)) 7) k ≤ x k := by
    intro k hk
    have hc1 : cuN x (fnS n) (fnT n x t) (fnW n x) k ≤ x k := by
      unfold cuN
      split
      · exact Nat.div_le_of_le_mul (Nat.mul_le_mul_right _ hT)
      · exact Nat.zero_le _
    by_cases e0 : gvN (fnP n x) (fnT n x t - sm (cuN x (fnS n) (fnT n x t) (fnW n x)) 7) k = 0
    · omega
    · have e1 : 0 < rsN (fnP n x) (fnT n x t - sm (cuN x (fnS n) (fnT n x t) (fnW n x)) 7) k ∧ fnP n x k = true := Classical.byContradiction fun hh => e0 (if_neg hh)
      have e2 : gvN (fnP n x) (fnT n x t - sm (cuN x (fnS n) (fnT n x t) (fnW n x)) 7) k ≤ 1 := by unfold gvN; split <;> omega
      have e3 := rsN_eq (fnP n x) (fnT n x t - sm (cuN x (fnS n) (fnT n x t) (fnW n x)) 7) k
      rcases fn_P (n := n) (t := t) (x := x) hW with h0 | hp
      · omega
      · have e4 := hp k hk
        rw [e1.2, Bool.and_eq_true, decide_eq_true_eq] at e4
        omega
  have hs := sm_sub (f := x) (g := fun k => cuN x (fnS n) (fnT n x t) (fnW n x) k + gvN (fnP n x) (fnT n x t - sm (cuN x (fnS n) (fnT n x t) (fnW n x)) 7) k) (n := 7) hle
  rw [sm_add] at hs
  have e1 : sm (fn n x t) 7 = sm (fun i => x i - (cuN x (fnS n) (fnT n x t) (fnW n x) i + gvN (fnP n x) (fnT n x t - sm (cuN x (fnS n) (fnT n x t) (fnW n x)) 7) i)) 7 := rfl
  rw [e1]
  omega
theorem fnW_all {n : Nat} {x : Nat → Nat} (hx : ∀ k, n ≤ k → x k = 0) : fnW n x = sm x 7 := sm_eq (fun k _ => by
  unfold fnS
  by_cases e : k < n
  · rw [decide_eq_true e]; rfl
  · rw [decide_eq_false e, hx k (by omega)]; rfl)
theorem fnl_tot {n : Nat} (hn : n ≤ 7) {pr : Nat → Nat} {q : tq} {L : List us3} (h0 : ∀ k, n ≤ k → nt pr L k = 0) : sm (fnl n pr q L) n = sm (nt pr L) 7 - thr q L := by
  have eW := fnW_all h0
  have hz : ∀ k, n ≤ k → fnl n pr q L k = 0 := fun k hk => by
    unfold fnl
    have h9 := h0 k hk
    split
    · unfold fn; omega
    · exact h9
  rw [← sm_up hz hn]
  by_cases hW : 0 < fnW n (nt pr L)
  · have e : sm (fnl n pr q L) 7 = sm (fn n (nt pr L) (thr q L)) 7 := sm_eq (fun k _ => if_pos hW)
    have h1 := fn_tot (t := thr q L) hW
    unfold fnT at h1
    rw [eW] at h1 hW
    rw [e]
    split at h1 <;> omega
  · have e : sm (fnl n pr q L) 7 = sm (nt pr L) 7 := sm_eq (fun k _ => if_neg hW)
    rw [e]
    omega
section FACTS
variable {V : Nat → Int32} {M : Nat → Nat → Int32} {os : Nat → ofr} {V' : Nat → Int32} {M' : Nat → Nat → Int32} {t : Int64} {a o c : Nat}
/-- both know the best set -/
def ST (V : Nat → Int32) (M : Nat → Nat → Int32) (os : Nat → ofr) (V' : Nat → Int32) (M' : Nat → Nat → Int32) (t : Int64) (a o c : Nat) : Prop := RX V M os V' M' t a o c ∧ V 1 = 1 ∧ V' 7 = 1 ∧ FD (cb (M' 5) a) o c (BX a M') V M V' M'
theorem st_find (h : RX V M os V' M' t a o c) : ST (findF os o (cb (M' 5) a) (V, M)).1 (findF os o (cb (M' 5) a) (V, M)).2 os (fdF a o c (V', M')).1 (fdF a o c (V', M')).2 t a o c ∧ (fdF a o c (V', M')).2 5 = M' 5 ∧ BX a (fdF a o c (V', M')).2 = BX a M' := by
  obtain ⟨f1, -, -, f4, f5⟩ := find_RX h
  rcases id f1.2 with ⟨q, -⟩ | ⟨q1, q7, hF⟩
  · exact absurd q (findF_1 _ _ _ _)
  · exact ⟨⟨f1, q1, q7, hF⟩, f4, f5⟩
theorem st_id (h : ST V M os V' M' t a o c) (n : Nat) : findF os o n (V, M) = (V, M) := if_neg (show ¬ V 1 = 0 by rw [h.2.1]; decide)
theorem st_ch (h : ST V M os V' M' t a o c) : chs M (M 21) 7 (LX (cb (M' 5) a) o c (BX a M')) := (h.2.2.2.1.2 (Int.natCast_nonneg _)).2
theorem st_best (h : ST V M os V' M' t a o c) : V 6 = nI (vl (qX (cb (M' 5) a) o c (BX a M')) (LX (cb (M' 5) a) o c (BX a M'))) ∧ vl (qX (cb (M' 5) a) o c (BX a M')) (LX (cb (M' 5) a) o c (BX a M')) < 2 ^ 21 := by
  have hv := bs_vl h.1.1
  have h6 : (V 6).toInt = ((vl (qX (cb (M' 5) a) o c (BX a M')) (LX (cb (M' 5) a) o c (BX a M')) : Nat) : Int) := h.2.2.2.1.1
  exact ⟨Int32.toInt_inj.mp (h6.trans (nI_toInt (by omega)).symm), hv⟩
/-- an item's net price -/
theorem st_net (h : ST V M os V' M' t a o c) {z : Nat} (hz : z < a) :
    (M' 5 z = 98 → xpos M (nI z) (cb (M' 5) a) = none ∧ posF (M 2) (nI z) 0 (cb (M' 5) a) = nI (cb (M' 5) z) ∧ atF 7 (M 23) (posF (M 2) (nI z) 0 (cb (M' 5) a)) = nI (fl a o c M' (cb (M' 5) z)) ∧ cb (M' 5) z < (cb (M' 5) a)) ∧ (¬ M' 5 z = 98 → xpos M (nI z) (cb (M' 5) a) = some eNSE) := by
  have ha := h.1.1.2.1.2.2
  have hn := h.1.1.2.2.1.2
  rcases pos_two h.1 (nI z) with ⟨h0, hx⟩ | ⟨h1, hx, y, hy, e, h98, hp, hlt⟩
  · refine ⟨fun h98 => ?_, fun _ => hx⟩
    exfalso
    rcases ib_spec (a := a) (f := M' 5) (x := nI z) ha with ⟨-, g⟩ | ⟨g, -⟩
    · exact g z hz rfl h98
    · rw [h0] at g
      exact absurd g (by decide)
  · have e2 : z = y := (nI_eq (by omega) (by omega)).mp e
    subst e2
    refine ⟨fun _ => ⟨hx, hp, ?_, hlt⟩, fun hh => absurd h98 hh⟩
    rw [hp, atF_nI (by omega) (by decide)]
    exact h.2.2.2.2.2.2.2.2.2.1 _ hlt
theorem st_out (h : RX V M os V' M' t a o c) {z : Nat} (hz : a ≤ z) (hz2 : z < 2 ^ 20) : xpos M (nI z) (cb (M' 5) a) = some eNSE := by
  have ha := h.1.2.1.2.2
  rcases pos_two h (nI z) with ⟨-, hx⟩ | ⟨-, -, y, hy, e, -⟩
  · exact hx
  · have := (nI_eq (by omega) (by omega)).mp e
    omega
/-- the offer on a place -/
theorem st_off (h : ST V M os V' M' t a o c) {k : Nat} (hk : k < (cb (M' 5) a)) : onF M (nI k) 0 7 = -1 ∨ ∃ j, j < o ∧ onF M (nI k) 0 7 = nI j ∧ uO (LX (cb (M' 5) a) o c (BX a M')) j = true := by
  have hn := h.1.1.2.2.1.2
  have hc := st_ch h
  have hL := bs_Lu h.1.1
  obtain ⟨-, ⟨-, hdj, -⟩, -⟩ := bs_L h.1.1
  cases e : uK (LX (cb (M' 5) a) o c (BX a M')) k
  · left
    have g := on_skip (k := k) (by omega) (Nat.le_refl 7) (fun u hu => (hL u hu).2.1) hc e
    exact g
  · right
    obtain ⟨u, hu, e2⟩ := ofK_mem e
    exact ⟨u.1, (hL u hu).1, (on_spec (k := k) (by omega) (Nat.le_refl 7) (fun u hu => (hL u hu).2.1) hdj hc e).trans e2, uO_of hu⟩
/-- an offer's uses, and what is left -/
theorem st_uses (h : ST V M os V' M' t a o c) {j : Nat} (hj : j < o) : ∃ w, timesV V M (nI j) = nI w ∧ w ≤ qL (qX (cb (M' 5) a) o c (BX a M')) j ∧ qL (qX (cb (M' 5) a) o c (BX a M')) j ≤ 9 ∧ leftF os o (M 10) (V 0) j = nI (qL (qX (cb (M' 5) a) o c (BX a M')) j) ∧ (0 < w ↔ (uO (LX (cb (M' 5) a) o c (BX a M')) j = true ∨ sel (qX (cb (M' 5) a) o c (BX a M')) (LX (cb (M' 5) a) o c (BX a M')) j = true)) := by
  obtain ⟨w, e, hw⟩ := us_nat h.1 h.2.2.2 hj
  obtain ⟨b1, -, b3, -⟩ := bs_left h.1.1 hj
  have hp := FD_pos h.1 h.2.2.2 hj
  refine ⟨w, (FD_uses h.1 h.2.2.2 hj).trans e, hw, b3, by rw [h.1.1.1.1]; exact b1, ?_⟩
  rw [← hp, e, nI_le0 (by omega)]
  omega
/-- no two of a group are used -/
theorem st_alone (h : ST V M os V' M' t a o c) {i j : Nat} (hi : i < o) (hj : j < o) (hne : i ≠ j) (h1 : uO (LX (cb (M' 5) a) o c (BX a M')) i = true ∨ sel (qX (cb (M' 5) a) o c (BX a M')) (LX (cb (M' 5) a) o c (BX a M')) i = true) (h2 : uO (LX (cb (M' 5) a) o c (BX a M')) j = true ∨ sel (qX (cb (M' 5) a) o c (BX a M')) (LX (cb (M' 5) a) o c (BX a M')) j = true) (e1 : (os i).2 1 = (os j).2 1) : (os j).2 1 = -1 := by
  have ho := h.1.1.2.2.2.1.2.2
  have hq := qX_OK (cb (M' 5) a) o c (BX a M')
  obtain ⟨-, -, hmem⟩ := bs_L h.1.1
  have hap : apt (qX (cb (M' 5) a) o c (BX a M')) (LX (cb (M' 5) a) o c (BX a M')) := lvs_ap hq (apt_nil _) hmem
  have key : qrv (qX (cb (M' 5) a) o c (BX a M')) i j = false := by
    rcases h1 with h1 | h1
    · rcases h2 with h2 | h2
      · exact hap i j (by omega) (by omega) h1 h2
      · exact (can_iff.mp (sel_iff.mp h2).1).2.2.2 i (by omega) h1
    · rcases h2 with h2 | h2
      · have g := (can_iff.mp (sel_iff.mp h1).1).2.2.2 j (by omega) h2
        cases e : qrv (qX (cb (M' 5) a) o c (BX a M')) i j
        · rfl
        · rw [hq.1 _ _ e] at g
          cases g
      · cases e : qrv (qX (cb (M' 5) a) o c (BX a M')) i j
        · rfl
        · exact (sel_apart (by omega) (by omega) hq h1 h2 e).elim
  have ei : M' 12 i = (os i).2 1 := (h.1.1.2.2.2.2.2.1 i hi).2.1
  have ej : M' 12 j = (os j).2 1 := (h.1.1.2.2.2.2.2.1 j hj).2.1
  by_cases e9 : (os j).2 1 = -1
  · exact e9
  · have hr : qrv (qX (cb (M' 5) a) o c (BX a M')) i j = true := (fm_rv i j).mpr ⟨hi, hj, hne, show M' 12 i = M' 12 j by rw [ei, ej, e1], show ¬ M' 12 j = -1 by rw [ej]; exact e9⟩
    rw [key] at hr
    cases hr
/-- net prices make the sum less the best discount, or 0 -/
theorem st_sum (h : ST V M os V' M' t a o c) : sm (fl a o c M') (cb (M' 5) a) = sm (prX (cb (M' 5) a) (BX a M')) 7 - vl (qX (cb (M' 5) a) o c (BX a M')) (LX (cb (M' 5) a) o c (BX a M')) := by
  have hn := h.1.1.2.2.1.2
  obtain ⟨-, ⟨-, hdj, -⟩, -⟩ := bs_L h.1.1
  have hs := nt_sum (pr := (prX (cb (M' 5) a) (BX a M'))) hdj (fun u hu => ⟨(bs_Lu h.1.1 u hu).2.2.2.2.1, fun k hk e => (bs_pr h.1.1 ((bs_Lu h.1.1 u hu).2.2.2.2.2 k hk e)).2.2.2⟩)
  have h0 : ∀ k, (cb (M' 5) a) ≤ k → nt (prX (cb (M' 5) a) (BX a M')) (LX (cb (M' 5) a) o c (BX a M')) k = 0 := fun k hk => by
    have h1 := nt_le (pr := (prX (cb (M' 5) a) (BX a M'))) (LX (cb (M' 5) a) o c (BX a M')) k
    have e : (prX (cb (M' 5) a) (BX a M')) k = 0 := if_neg (by omega)
    omega
  have ht := fnl_tot (q := (qX (cb (M' 5) a) o c (BX a M'))) (L := (LX (cb (M' 5) a) o c (BX a M'))) hn h0
  have e : sm (fl a o c M') (cb (M' 5) a) = sm (fnl (cb (M' 5) a) (prX (cb (M' 5) a) (BX a M')) (qX (cb (M' 5) a) o c (BX a M')) (LX (cb (M' 5) a) o c (BX a M'))) (cb (M' 5) a) := rfl
  rw [e, ht]
  unfold vl
  omega
theorem st_pay (h : ST V M os V' M' t a o c) : mostSum (M 23) (maskF (cb (M' 5) a)) 7 = nI (sm (fl a o c M') (cb (M' 5) a)) := (FD_pay h.1 h.2.2.2 (fun _ => 0)).trans (pay_nat h.1 h.2.2.2 (fun _ => 0) (cb (M' 5) a) (Nat.le_refl _))
theorem st_psum (h : RB V M os V' M' t a o c) : sm (fun z => if M' 5 z = 98 then fl a o c M' (cb (M' 5) z) else 0) a = sm (fl a o c M') (cb (M' 5) a) := by
  have ha := h.2.1.2.2
  rw [sm_bas (f := M' 5) (b0 := fun _ => 0) (g := fun z => fl a o c M' (cb (M' 5) z)) a ha]
  exact sm_eq (fun k hk => by
    show fl a o c M' (cb (M' 5) (nb a M' k)) = fl a o c M' k
    rw [(nb_spec h hk).2.2.1])
/-- by trying: the same number, and all else as it was -/
theorem st_try (h : ST V M os V' M' t a o c) : (tryF (stF M) (cb (M' 5) a) (V, M)).1 7 = V 6 ∧ ST (tryF (stF M) (cb (M' 5) a) (V, M)).1 (tryF (stF M) (cb (M' 5) a) (V, M)).2 os V' M' t a o c := by
  obtain ⟨g1, g2⟩ := FD_try h.1 h.2.1 h.2.2.1 h.2.2.2
  refine ⟨g1.trans (FD_best h.2.2.2).symm, ?_⟩
  rcases id g2.2 with ⟨-, q7⟩ | ⟨q1, q7, hF⟩
  · rw [h.2.2.1] at q7
    exact absurd q7 (by decide)
  · exact ⟨g2, q1, q7, hF⟩
end FACTS
theorem mx_sub {S B : Nat} (hS : S < 2 ^ 20) (hB : B < 2 ^ 21) : (if (0 : Int32) < nI S - nI B then nI S - nI B else 0) = nI (S - B) := by
  by_cases e : B ≤ S
  · rw [nI_sub e]
    by_cases e2 : S - B = 0
    · rw [e2]; rfl
    · rw [if_pos]
      rw [Int32.lt_iff_toInt_lt, nI_toInt (by omega)]
      show (0 : Int) < _
      omega
  · rw [show S - B = 0 by omega, if_neg]
    · rfl
    · rw [Int32.lt_iff_toInt_lt, Int32.toInt_sub, nI_toInt (by omega), nI_toInt (by omega), Int.bmod_eq_of_le (by omega) (by omega)]
      show ¬ (0 : Int) < _
      omega
