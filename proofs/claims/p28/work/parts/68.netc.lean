/-! THE CLASS'S SPREADING is that one. -/
theorem gv_congr {P P' : Nat → Bool} {r0 k : Nat} (h : ∀ i, i ≤ k → P i = P' i) : gvN P r0 k = gvN P' r0 k := by
  unfold gvN
  rw [rs_congr (fun i hi => h i (by omega)), h k (Nat.le_refl k)]
theorem mostSum_g {f : Nat → Int32} {x : Nat → Nat} {m : Nat} (hm : m < 128) (hf : ∀ k, k < 7 → m.testBit (6 - k) = true → f k = nI (x k)) : ∀ i, i ≤ 7 → mostSum f (nI m) i = nI (sm (fun k => if m.testBit (6 - k) = true then x k else 0) i)
  | 0, _ => rfl
  | i + 1, hi => by
    have es : mostSum f (nI m) (i + 1) = if isInV (nI m) (nI i) = 0 then mostSum f (nI m) i else mostSum f (nI m) i + atF 7 f (nI i) := rfl
    rw [es, mostSum_g hm hf i (by omega), bx_in hm (by omega), atF_nI (by omega) (by decide), sm]
    by_cases e : m.testBit (6 - i) = true
    · rw [if_pos e, if_neg (by decide), if_pos e, hf i (by omega) e, nI_add]
    · rw [if_neg e, if_pos rfl, if_neg e]
      rfl
theorem sm_Sle {x : Nat → Nat} {S : Nat → Bool} {b : Nat} (h : ∀ k, k < 7 → S k = true → x k ≤ b) : sm (fun k => if S k = true then x k else 0) 7 ≤ 7 * b := by
  have h1 : sm (fun k => if S k = true then x k else 0) 7 ≤ sm (fun _ => b) 7 := sm_le (fun k hk => by
    by_cases e : S k = true
    · rw [if_pos e]; exact h k hk e
    · rw [if_neg e]; exact Nat.zero_le _)
  rw [sm_const] at h1
  omega
/-- one spreading over the places of a mask -/
theorem spread_spec {M : Nat → Nat → Int32} {x : Nat → Nat} {m d : Nat} (hm : m < 128) (hd : d < 2 ^ 20) {S : Nat → Bool} (hS : ∀ k, k < 7 → m.testBit (6 - k) = S k) (hx : ∀ k, k < 7 → S k = true → M 23 k = nI (x k) ∧ x k ≤ 9999) {W T : Nat} (hW : W = sm (fun k => if S k = true then x k else 0) 7) (hT : T = if W < d then W else d) :
    (∀ k, k < 7 → S k = true → spreadM M (nI d) (nI m) 23 k = nI (if 0 < W then x k - (cuN x S T W k + gvN (fun k => S k && decide (cuN x S T W k < x k)) (T - sm (cuN x S T W) 7) k) else x k)) ∧ (∀ k, k < 7 → S k = false → spreadM M (nI d) (nI m) 23 k = M 23 k) ∧ ∀ z, Nat.beq z 23 = false → Nat.beq z 24 = false → spreadM M (nI d) (nI m) z = M z := by
  have hWl : W ≤ 69993 := by rw [hW]; exact sm_Sle (fun k hk e => (hx k hk e).2)
  have eW : spW M (nI m) = nI W := by
    unfold spW
    rw [mostSum_g (x := x) hm (fun k hk e => (hx k hk ((hS k hk).symm.trans e)).1) 7 (Nat.le_refl _), hW]
    congr 1
    exact sm_eq (fun k hk => by rw [hS k hk])
  have eT : spT M (nI d) (nI m) = nI T := by
    unfold spT mnF
    rw [eW, hT]
    by_cases e : W < d
    · rw [if_pos e, if_pos (nI_lt e (by omega))]
    · rw [if_neg e, if_neg (nI_nlt (by omega) (by omega))]
  have hTW : T ≤ W := by rw [hT]; split <;> omega
  refine ⟨?_, ?_, fun z h1 h2 => ?_⟩
  rotate_left 2
  · unfold spreadM
    split
    · exact (sM_ne h1).trans (sM_ne h2)
    · rfl
  all_goals
    by_cases h0 : 0 < W
    · have e0 : (0 : Int32) < spW M (nI m) := by rw [eW]; exact nI_lt (a := 0) h0 (by omega)
      have hcut : ∀ k, k < 7 → cutV (M 23) (nI T) (nI W) (nI m) k = nI (cuN x S T W k) := fun k hk => by
        unfold cutV cuN
        rw [bx_in hm hk, hS k hk]
        by_cases e : S k = true
        · rw [if_pos e, if_neg (by decide), if_pos e, atF_nI hk (by decide), (hx k hk e).1, nI_mul]
          have hb : T * x k ≤ 69993 * 9999 := Nat.mul_le_mul (by omega) (hx k hk e).2
          rw [nI_div (by omega) h0 (by omega)]
        · rw [if_neg e, if_pos rfl, if_neg e]
          rfl
      obtain ⟨c1, c2⟩ := cu_rest (x := x) (S := S) (t := T) (W := W) (m := 7) hW h0
      have hK : ∀ i, i ≤ 7 → (∀ k, k < i → (spK M (nI d) (nI m) i).1 k = nI (cuN x S T W k)) ∧ (spK M (nI d) (nI m) i).2 = nI (T - sm (cuN x S T W) i) := by
        intro i
        induction i with
        | zero => intro _; exact ⟨fun k hk => absurd hk (Nat.not_lt_zero _), eT⟩
        | succ i ih =>
          intro hi
          obtain ⟨i1, i2⟩ := ih (by omega)
          have es : spK M (nI d) (nI m) (i + 1) = (setF 7 (spK M (nI d) (nI m) i).1 (nI i) (cutV (M 23) (spT M (nI d) (nI m)) (spW M (nI m)) (nI m) i), (spK M (nI d) (nI m) i).2 - cutV (M 23) (spT M (nI d) (nI m)) (spW M (nI m)) (nI m) i) := rfl
          rw [es, eT, eW, hcut i (by omega)]
          refine ⟨fun k hk => ?_, ?_⟩
          · show setF 7 _ (nI i) _ k = _
            rw [setF_nI (by omega) (by decide)]
            by_cases e : k = i
            · rw [e, upd_self9]
            · rw [upd_ne9 e]; exact i1 k (by omega)
          · show (spK M (nI d) (nI m) i).2 - _ = _
            have h1 := sm_mono (f := cuN x S T W) (a := i + 1) (b := 7) (by omega)
            rw [sm] at h1
            rw [i2, nI_sub (by omega), sm]
            congr 1
            omega
      obtain ⟨k1, k2⟩ := hK 7 (Nat.le_refl _)
      have hle : ∀ k, k < 7 → S k = true → cuN x S T W k ≤ x k := fun k hk e => by
        unfold cuN
        rw [if_pos e, Nat.div_le_iff_le_mul_add_pred h0]
        have : T * x k ≤ W * x k := Nat.mul_le_mul_right _ hTW
        omega
      have hN : ∀ i, i ≤ 7 → (∀ k, k < i → S k = true → (spN M (nI d) (nI m) i).1 k = nI (x k - (cuN x S T W k + gvN (fun k => S k && decide (cuN x S T W k < x k)) (T - sm (cuN x S T W) 7) k))) ∧ (∀ k, k < 7 → (S k = false ∨ i ≤ k) → (spN M (nI d) (nI m) i).1 k = M 23 k) ∧ (spN M (nI d) (nI m) i).2 = nI (rsN (fun k => S k && decide (cuN x S T W k < x k)) (T - sm (cuN x S T W) 7) i) := by
        intro i
        induction i with
        | zero => intro _; exact ⟨fun k hk => absurd hk (Nat.not_lt_zero _), fun k _ _ => rfl, k2⟩
        | succ i ih =>
          intro hi
          obtain ⟨i1, i2, i3⟩ := ih (by omega)
          have es : spN M (nI d) (nI m) (i + 1) = sp2S (spK M (nI d) (nI m) 7).1 (nI m) i (spN M (nI d) (nI m) i) := rfl
          have hrl : rsN (fun k => S k && decide (cuN x S T W k < x k)) (T - sm (cuN x S T W) 7) i < 2 ^ 31 := by
            rw [rsN_eq]
            omega
          have e23 : atF 7 (spN M (nI d) (nI m) i).1 (nI i) = M 23 i := by rw [atF_nI (by omega) (by decide)]; exact i2 i (by omega) (Or.inr (Nat.le_refl _))
          have eK : atF 7 (spK M (nI d) (nI m) 7).1 (nI i) = nI (cuN x S T W i) := by rw [atF_nI (by omega) (by decide)]; exact k1 i (by omega)
          have hstep : ∀ mm : Nat, mm = gvN (fun k => S k && decide (cuN x S T W k < x k)) (T - sm (cuN x S T W) 7) i → (S i = true → cuN x S T W i + mm ≤ x i) → (S i = false → mm = 0) → (mm ≤ rsN (fun k => S k && decide (cuN x S T W k < x k)) (T - sm (cuN x S T W) 7) i) →
              (∀ k, k < i + 1 → S k = true → (sp2g (spK M (nI d) (nI m) 7).1 i (spN M (nI d) (nI m) i) (nI mm)).1 k = nI (x k - (cuN x S T W k + gvN (fun k => S k && decide (cuN x S T W k < x k)) (T - sm (cuN x S T W) 7) k))) ∧ (∀ k, k < 7 → (S k = false ∨ i + 1 ≤ k) → (sp2g (spK M (nI d) (nI m) 7).1 i (spN M (nI d) (nI m) i) (nI mm)).1 k = M 23 k) ∧ (sp2g (spK M (nI d) (nI m) 7).1 i (spN M (nI d) (nI m) i) (nI mm)).2 = nI (rsN (fun k => S k && decide (cuN x S T W k < x k)) (T - sm (cuN x S T W) 7) (i + 1)) := by
            intro mm hmm hle2 hz hmr
            unfold sp2g
            rw [e23, eK, nI_add, i3, nI_sub hmr, rsN_s, ← hmm, setF_nI (by omega) (by decide)]
            refine ⟨fun k hk e => ?_, fun k hk e => ?_, rfl⟩
            · show upd _ i _ k = _
              by_cases e2 : k = i
              · subst e2
                rw [upd_self9, (hx k (by omega) e).1, nI_sub (hle2 e), hmm]
              · rw [upd_ne9 e2]
                exact i1 k (by omega) e
            · show upd _ i _ k = _
              by_cases e2 : k = i
              · subst e2
                rcases e with e | e
                · have c0 : cuN x S T W k = 0 := by unfold cuN; rw [if_neg (by rw [e]; decide)]
                  rw [upd_self9, c0, hz e, show nI (0 + 0) = 0 from rfl, Int32.sub_zero]
                · omega
              · rw [upd_ne9 e2]
                exact i2 k hk (e.elim Or.inl fun h => Or.inr (by omega))
          rw [es]
          unfold sp2S
          rw [i3, bx_in hm (by omega), hS i (by omega), e23, eK]
          by_cases a1 : 0 < rsN (fun k => S k && decide (cuN x S T W k < x k)) (T - sm (cuN x S T W) 7) i
          · rw [if_neg (nI_nle a1 hrl)]
            by_cases a2 : S i = true
            · rw [if_pos a2, if_neg (by decide), (hx i (by omega) a2).1]
              have hxi := (hx i (by omega) a2).2
              have hci := hle i (by omega) a2
              by_cases a3 : cuN x S T W i < x i
              · rw [if_neg (nI_ge a3 (by omega))]
                exact hstep 1 (by unfold gvN; rw [if_pos ⟨a1, by show (S i && decide (cuN x S T W i < x i)) = true; rw [a2, decide_eq_true a3]; rfl⟩]) (fun _ => a3) (fun h => by rw [a2] at h; cases h) a1
              · rw [if_pos (nI_le (by omega) (by omega))]
                exact hstep 0 (by unfold gvN; rw [if_neg (fun h => by have h9 : (S i && decide (cuN x S T W i < x i)) = true := h.2; rw [a2, decide_eq_false a3] at h9; cases h9)]) (fun _ => hci) (fun _ => rfl) (Nat.zero_le _)
            · have a2' : S i = false := by
                cases h : S i
                · rfl
                · exact absurd h a2
              rw [if_neg a2, if_pos rfl]
              exact hstep 0 (by unfold gvN; rw [if_neg (fun h => by have h9 : (S i && decide (cuN x S T W i < x i)) = true := h.2; rw [a2'] at h9; cases h9)]) (fun h => absurd h a2) (fun _ => rfl) (Nat.zero_le _)
          · have a1' : rsN (fun k => S k && decide (cuN x S T W k < x k)) (T - sm (cuN x S T W) 7) i = 0 := by omega
            rw [if_pos ((nI_le0 hrl).mpr a1')]
            exact hstep 0 (by unfold gvN; rw [if_neg (fun h => a1 h.1)]) (fun e => hle i (by omega) e) (fun _ => rfl) (Nat.zero_le _)
      obtain ⟨n1, n2, -⟩ := hN 7 (Nat.le_refl _)
      have esp : spreadM M (nI d) (nI m) 23 = (spN M (nI d) (nI m) 7).1 := by
        unfold spreadM
        rw [if_pos e0, sM_at]
      rw [esp]
      first
        | exact fun k hk e => by rw [if_pos h0]; exact n1 k hk e
        | exact fun k hk e => n2 k hk (Or.inl e)
    · have e0 : ¬ (0 : Int32) < spW M (nI m) := by
        rw [eW, show W = 0 by omega]
        decide
      have esp : spreadM M (nI d) (nI m) = M := if_neg e0
      rw [esp]
      first
        | exact fun k hk e => by rw [if_neg h0]; exact (hx k hk e).1
        | exact fun k hk e => rfl
/-- the nets behind the uses of the places below p -/
theorem wr_spec {M : Nat → Nat → Int32} {pr : Nat → Nat} {n : Nat} (hn : n ≤ 7) (hpr : ∀ k, k < n → M 4 k = nI (pr k) ∧ pr k ≤ 9999 ∧ 0 < pr k) : ∀ {p : Nat} {acc : List us3}, p ≤ n → chs M (M 21) p acc → dsj acc → (∀ u ∈ acc, u.2.1 < 128 ∧ u.2.2 ≤ 70000 ∧ u.2.2 < wN pr u ∧ ∀ k, k < 7 → pk u k = true → k < n) →
    (∀ k, k < n → wrU M p 23 k = nI (nt pr acc k)) ∧ ∀ z, Nat.beq z 23 = false → Nat.beq z 24 = false → wrU M p z = M z
  | 0, acc, _, hc, _, _ => by
    have e : acc = [] := hc
    subst e
    refine ⟨fun k hk => ?_, fun z h1 _ => sM_ne h1⟩
    have hwr : ∀ i, i ≤ 7 → ∀ k, k < i → wrA (M 4) (M 23) i k = M 4 k := by
      intro i
      induction i with
      | zero => intro _ k hk; exact absurd hk (Nat.not_lt_zero _)
      | succ i ih =>
        intro hi k hk
        show setF 7 (wrA (M 4) (M 23) i) (nI i) (atF 7 (M 4) (nI i)) k = M 4 k
        rw [setF_nI (by omega) (by decide), atF_nI (by omega) (by decide)]
        by_cases e : k = i
        · rw [e, upd_self9]
        · rw [upd_ne9 e]; exact ih (by omega) k (by omega)
    show wrA (M 4) (M 23) 7 k = nI (pr k)
    rw [hwr 7 (Nat.le_refl _) k (by omega)]
    exact (hpr k hk).1
  | p + 1, acc, hp, hc, hd, hu => by
    have es : wrU M (p + 1) = wrS p (wrU M p) := rfl
    rw [es]
    have huse : ∀ N : Nat → Nat → Int32, N 21 = M 21 → useV N (nI p) = M 21 p := fun N h => by
      unfold useV
      rw [if_neg (by rw [(show ∀ p, p < 7 → withinV (nI p) 0 6 = 1 by decide +kernel) p (by omega)]; decide), h, atF_nI (by omega) (by decide)]
    rcases hc with ⟨h1, h2⟩ | ⟨i, u, r, a1, a2, -, a4, a5, rfl, -, a7⟩
    · obtain ⟨g1, g2⟩ := wr_spec hn hpr (by omega) h2 hd hu
      unfold wrS
      rw [huse _ (g2 21 rfl rfl), h1, if_pos rfl]
      exact ⟨g1, g2⟩
    · obtain ⟨u1, u2, u3, u4⟩ := hu u List.mem_cons_self
      obtain ⟨g1, g2⟩ := wr_spec hn hpr (by omega) a7 hd.2 (fun v hv => hu v (List.mem_cons_of_mem _ hv))
      unfold wrS
      rw [huse _ (g2 21 rfl rfl), a2, if_neg (nI_neg1 (by omega)), g2 15 rfl rfl, g2 14 rfl rfl, atF_nI a1 (by decide), atF_nI a1 (by decide), a4, a5]
      have hW : wN (nt pr r) u = wN pr u := wN_nt hd.1
      obtain ⟨s1, s2, s3⟩ := spread_spec (M := wrU M p) (x := nt pr r) (m := u.2.1) (d := u.2.2) u1 (by omega) (S := pk u) (fun k _ => rfl) (fun k hk e => ⟨g1 k (u4 k hk e), Nat.le_trans (nt_le r k) (hpr k (u4 k hk e)).2.1⟩) (W := wN pr u) (T := u.2.2) hW.symm (by rw [if_neg (by omega)])
      refine ⟨fun k hk => ?_, fun z b1 b2 => (s3 z b1 b2).trans (g2 z b1 b2)⟩
      show _ = nI (nw (nt pr r) u k)
      by_cases e : pk u k = true
      · rw [s1 k (by omega) e, if_pos (by omega)]
        unfold nw
        rw [hW]
        congr 2
        have hPP : ∀ z, z < 7 → (pk u z && decide (cuN (nt pr r) (pk u) u.2.2 (wN pr u) z < nt pr r z)) = pk u z := fun z hz => by
          by_cases e3 : pk u z = true
          · have h9 : 0 < nt pr r z := by rw [nt_off (hd.1 z hz e3)]; exact (hpr z (u4 z hz e3)).2.2
            have h8 := cu_lt (x := nt pr r) (u := u) (k := z) (by rw [hW]; exact u3) e3 h9
            rw [hW] at h8
            rw [e3, decide_eq_true h8]
            rfl
          · cases h : pk u z
            · rfl
            · exact absurd h e3
        congr 1
        exact gv_congr (fun i hi => hPP i (by omega))
      · have e' : pk u k = false := by
          cases h : pk u k
          · rfl
          · exact absurd h e
        rw [s2 k (by omega) e', g1 k hk, nw_off e']
/-- the class's nets -/
def fnl (n : Nat) (pr : Nat → Nat) (q : tq) (L : List us3) (k : Nat) : Nat := if 0 < fnW n (nt pr L) then fn n (nt pr L) (thr q L) k else nt pr L k
theorem mask_fn {n : Nat} (hn : n ≤ 7) : ∃ F, F < 128 ∧ maskF n = nI F ∧ ∀ k, k < 7 → F.testBit (6 - k) = fnS n k :=
  (show ∀ n, n < 8 → ∃ F, F < 128 ∧ maskF n = nI F ∧ ∀ k, k < 7 → F.testBit (6 - k) = fnS n k by decide +kernel) n (by omega)
theorem write_spec {V : Nat → Int32} {M : Nat → Nat → Int32} {pr : Nat → Nat} {n : Nat} {q : tq} {L : List us3} (hn : n ≤ 7) (hpr : ∀ k, k < n → M 4 k = nI (pr k) ∧ pr k ≤ 9999 ∧ 0 < pr k) (hc : chs M (M 21) n L) (hd : dsj L) (hu : ∀ u ∈ L, u.2.1 < 128 ∧ u.2.2 ≤ 70000 ∧ u.2.2 < wN pr u ∧ ∀ k, k < 7 → pk u k = true → k < n)
    (ham : amtF (M 9) (V 5) 6 = nI (thr q L)) (hth : thr q L < 2 ^ 20) : ∀ k, k < n → writeM V M n 23 k = nI (fnl n pr q L k) := by
  intro k hk
  obtain ⟨g1, g2⟩ := wr_spec hn hpr (Nat.le_refl n) hc hd hu
  obtain ⟨F, hF, eF, hFb⟩ := mask_fn hn
  unfold writeM
  rw [g2 9 rfl rfl, ham, eF]
  have hkS : fnS n k = true := decide_eq_true hk
  obtain ⟨s1, -, -⟩ := spread_spec (M := wrU M n) (x := nt pr L) (m := F) (d := thr q L) hF hth (S := fnS n) hFb (fun z hz e => by
    have hzn : z < n := of_decide_eq_true e
    exact ⟨g1 z hzn, Nat.le_trans (nt_le L z) (hpr z hzn).2.1⟩) (W := fnW n (nt pr L)) (T := fnT n (nt pr L) (thr q L)) rfl rfl
  rw [s1 k (by omega) hkS]
  unfold fnl
  by_cases h0 : 0 < fnW n (nt pr L)
  · rw [if_pos h0, if_pos h0]
    unfold fn
    congr 3
    rcases fn_P (n := n) (t := thr q L) h0 with e | e
    · rw [e]
      unfold gvN
      rw [rsN_0, rsN_0, if_neg (fun h => absurd h.1 (Nat.lt_irrefl _)), if_neg (fun h => absurd h.1 (Nat.lt_irrefl _))]
    · exact gv_congr (fun i hi => e i (by omega))
  · rw [if_neg h0, if_neg h0]
