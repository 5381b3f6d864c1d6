/-! SELL, over the relation. -/
theorem sm_bas {f b0 : Nat → Int32} {g : Nat → Nat} : ∀ a, a ≤ 60 → sm (fun z => if f z = 98 then g z else 0) a = sm (fun k => g (lkA f b0 a k).toNatClampNeg) (cb f a)
  | 0, _ => rfl
  | a + 1, ha => by
    have ih := sm_bas (f := f) (b0 := b0) (g := g) a (by omega)
    rw [sm, ih, cb]
    by_cases e : f a = 98
    · rw [if_pos e, if_pos e, sm]
      have h1 : sm (fun k => g (lkA f b0 (a + 1) k).toNatClampNeg) (cb f a) = sm (fun k => g (lkA f b0 a k).toNatClampNeg) (cb f a) := sm_eq (fun k hk => by rw [lkA_s, if_pos e, upd_ne9 (by omega)])
      have h2 : g (lkA f b0 (a + 1) (cb f a)).toNatClampNeg = g a := by rw [lkA_s, if_pos e, upd_self9, nI_clamp (by omega)]
      rw [h1, h2]
    · rw [if_neg e, if_neg e, Nat.add_zero]
      exact sm_eq (fun k _ => by rw [lkA_s, if_neg e])
/-- the items at the till, place by place -/
theorem seA_spec {b f : Nat → Int32} {y : Int32} : ∀ n z, seA b y f n z = if ∃ k, k < n ∧ (b k).toNatClampNeg = z then y else f z
  | 0, z => by
    rw [if_neg (fun ⟨k, hk, _⟩ => absurd hk (Nat.not_lt_zero _))]
    rfl
  | n + 1, z => by
    have es : seA b y f (n + 1) = upd (seA b y f n) (b n).toNatClampNeg y := rfl
    rw [es]
    by_cases e : z = (b n).toNatClampNeg
    · rw [e, upd_self9, if_pos ⟨n, Nat.lt_succ_self n, rfl⟩]
    · rw [upd_ne9 e, seA_spec n z]
      by_cases h : ∃ k, k < n ∧ (b k).toNatClampNeg = z
      · obtain ⟨k, h1, h2⟩ := h
        rw [if_pos ⟨k, h1, h2⟩, if_pos ⟨k, by omega, h2⟩]
      · rw [if_neg h, if_neg (fun ⟨k, h1, h2⟩ => h ⟨k, by
          by_cases e2 : k = n
          · rw [e2] at h2; exact absurd h2.symm e
          · omega, h2⟩)]
section SELL
variable {V : Nat → Int32} {M : Nat → Nat → Int32} {os : Nat → ofr} {V' : Nat → Int32} {M' : Nat → Nat → Int32} {t : Int64} {a o c : Nat}
def nb (a : Nat) (M' : Nat → Nat → Int32) (k : Nat) : Nat := (BX a M' 14 k).toNatClampNeg
def fl (a o c : Nat) (M' : Nat → Nat → Int32) (k : Nat) : Nat := fnl (cb (M' 5) a) (prX (cb (M' 5) a) (BX a M')) (qX (cb (M' 5) a) o c (BX a M')) (LX (cb (M' 5) a) o c (BX a M')) k
theorem fl_le (h : RB V M os V' M' t a o c) {k : Nat} (hk : k < cb (M' 5) a) : fl a o c M' k ≤ 9999 := by
  have h1 := nt_le (pr := prX (cb (M' 5) a) (BX a M')) (LX (cb (M' 5) a) o c (BX a M')) k
  have h2 := (bs_pr h hk).2.2.1
  unfold fl fnl
  split
  · unfold fn
    omega
  · omega
theorem nb_spec (h : RB V M os V' M' t a o c) {k : Nat} (hk : k < cb (M' 5) a) : nb a M' k < a ∧ M' 5 (nb a M' k) = 98 ∧ cb (M' 5) (nb a M' k) = k ∧ BX a M' 14 k = nI (nb a M' k) := by
  obtain ⟨z, h1, h2, h3, h4⟩ := bs_item h hk
  have ha := h.2.1.2.2
  have e : nb a M' k = z := by
    unfold nb
    rw [h2, nI_clamp (by omega)]
  rw [e]
  exact ⟨h1, h3, h4, h2⟩
theorem nb_of (h : RB V M os V' M' t a o c) {z : Nat} (hz : z < a) (h98 : M' 5 z = 98) : ∃ k, k < cb (M' 5) a ∧ nb a M' k = z := by
  have ha := h.2.1.2.2
  refine ⟨cb (M' 5) z, cb_lt h98 hz, ?_⟩
  show (lkA (M' 5) (fun _ => 0) a (cb (M' 5) z)).toNatClampNeg = z
  rw [lkA_hit h98 hz, nI_clamp (by omega)]
theorem pay_nat (h : RX V M os V' M' t a o c) (hF : FD (cb (M' 5) a) o c (BX a M') V M V' M') (f14 : Nat → Int32) : ∀ i, i ≤ cb (M' 5) a → sumB (M' 3) (lkA (M' 5) f14 a) i = nI (sm (fl a o c M') i)
  | 0, _ => rfl
  | i + 1, hi => by
    have es : sumB (M' 3) (lkA (M' 5) f14 a) (i + 1) = sumB (M' 3) (lkA (M' 5) f14 a) i + M' 3 (lkA (M' 5) f14 a i).toNatClampNeg := rfl
    have e9 : M' 3 (lkA (M' 5) (fun _ => 0) a i).toNatClampNeg = nI (fl a o c M' i) := hF.2.2.2.2.2.2.2.2 i (by omega)
    rw [es, pay_nat h hF f14 i (by omega), lk_0 (by omega), e9, nI_add, sm]
/-- how often the best set uses an offer -/
theorem us_nat (h : RX V M os V' M' t a o c) (hF : FD (cb (M' 5) a) o c (BX a M') V M V' M') {j : Nat} (hj : j < o) : ∃ w, usM M' j = nI w ∧ w ≤ qL (qX (cb (M' 5) a) o c (BX a M')) j := by
  have ho := h.1.2.2.2.1.2.2
  obtain ⟨-, ⟨gA, -, -⟩, -⟩ := bs_L h.1
  obtain ⟨-, -, -, m22, -, m25⟩ := hF.2.2.2.2.2.2.2.1.2 (Int.natCast_nonneg _)
  have m22' : M' 22 j = nI (uC (LX (cb (M' 5) a) o c (BX a M')) j) := m22 j hj
  have m25' : M' 25 j = if sel (qX (cb (M' 5) a) o c (BX a M')) (LX (cb (M' 5) a) o c (BX a M')) j = true then 1 else 0 := m25 j hj
  unfold usM
  by_cases eT : M' 6 j = 116
  · rw [if_pos eT, m25']
    by_cases e : sel (qX (cb (M' 5) a) o c (BX a M')) (LX (cb (M' 5) a) o c (BX a M')) j = true
    · rw [if_pos e, if_neg (by decide)]
      exact ⟨1, rfl, (can_iff.mp (sel_iff.mp e).1).2.1⟩
    · rw [if_neg e, if_pos rfl]
      exact ⟨0, rfl, Nat.zero_le _⟩
  · rw [if_neg eT, m22']
    exact ⟨_, rfl, gA.2.2 j (by omega)⟩
/-- the class enters the sales -/
theorem slA_spec (h : RX V M os V' M' t a o c) (hF : FD (cb (M' 5) a) o c (BX a M') V M V' M') : ∀ i, i ≤ cb (M' 5) a →
    (slA (V, M) i).1 10 = nI (nS M' a + i) ∧ (slA (V, M) i).1 11 = nI (pS M' a + sm (prX (cb (M' 5) a) (BX a M')) i) ∧ (slA (V, M) i).1 12 = nI (eS M' a + sm (fl a o c M') i) ∧ (∀ z, z ≠ 10 → z ≠ 11 → z ≠ 12 → (slA (V, M) i).1 z = V z) ∧ (∀ z, z ≠ 26 → z ≠ 28 → z ≠ 29 → (slA (V, M) i).2 z = M z) ∧
    (∀ k, k < i → (slA (V, M) i).2 26 (nb a M' k) = 1 ∧ (slA (V, M) i).2 28 (nb a M' k) = nI c ∧ (slA (V, M) i).2 29 (nb a M' k) = nI (fl a o c M' k)) ∧ ∀ z, (∀ k, k < i → z ≠ nb a M' k) → (slA (V, M) i).2 26 z = M 26 z ∧ (slA (V, M) i).2 28 z = M 28 z ∧ (slA (V, M) i).2 29 z = M 29 z
  | 0, _ => by
    obtain ⟨-, v10, v11, v12, -⟩ := h.1.2.2.2.2.2.2.2.2.2.2
    exact ⟨v10, v11, v12, fun _ _ _ _ => rfl, fun _ _ _ _ => rfl, fun k hk => absurd hk (Nat.not_lt_zero _), fun _ _ => ⟨rfl, rfl, rfl⟩⟩
  | i + 1, hi => by
    have hn := h.1.2.2.1.2
    have ha := h.1.2.1.2.2
    obtain ⟨g10, g11, g12, gV, gM, gk, gz⟩ := slA_spec h hF i (by omega)
    have es : slA (V, M) (i + 1) = saleF (slA (V, M) i) (atF 7 ((slA (V, M) i).2 2) (nI i)) ((slA (V, M) i).1 0) (atF 7 ((slA (V, M) i).2 4) (nI i)) (atF 7 ((slA (V, M) i).2 23) (nI i)) := rfl
    obtain ⟨n1, n2, n3, n4⟩ := nb_spec h.1 (show i < cb (M' 5) a by omega)
    have e2 : M 2 i = nI (nb a M' i) := ((h.1.2.2.2.2.1 i (by omega)).1.trans (lk_0 (by omega))).trans n4
    have e4 := (bs_pr h.1 (show i < cb (M' 5) a by omega)).1
    have e23 : M 23 i = nI (fl a o c M' i) := hF.2.2.2.2.2.2.1 i (by omega)
    have e0 : (slA (V, M) i).1 0 = nI c := (gV 0 (by omega) (by omega) (by omega)).trans h.1.1.1
    rw [es, gM 2 (by omega) (by omega) (by omega), gM 4 (by omega) (by omega) (by omega), gM 23 (by omega) (by omega) (by omega), atF_nI (by omega) (by decide), atF_nI (by omega) (by decide), atF_nI (by omega) (by decide), e2, e4, e23, e0]
    generalize slA (V, M) i = s at g10 g11 g12 gV gM gk gz
    have hlt : nI (nb a M' i) < 60 := nI_lt (b := 60) (by omega) (by decide)
    have esale : saleF s (nI (nb a M' i)) (nI c) (nI (prX (cb (M' 5) a) (BX a M') i)) (nI (fl a o c M' i)) = (sV (sV (sV s.1 10 (s.1 10 + 1)) 11 (s.1 11 + nI (prX (cb (M' 5) a) (BX a M') i))) 12 (s.1 12 + nI (fl a o c M' i)), sM (sM (sM s.2 26 (upd (s.2 26) (nb a M' i) 1)) 28 (upd (s.2 28) (nb a M' i) (nI c))) 29 (upd (s.2 29) (nb a M' i) (nI (fl a o c M' i)))) := by
      unfold saleF
      rw [if_neg (nI_pos (by omega)), if_pos hlt, nI_clamp (by omega), setF_nI (by omega) (by decide), setF_nI (by omega) (by decide)]
    rw [esale]
    have hinj : ∀ k, k < i → nb a M' k ≠ nb a M' i := fun k hk e => by
      obtain ⟨-, -, m3, -⟩ := nb_spec h.1 (show k < cb (M' 5) a by omega)
      rw [e, n3] at m3
      omega
    refine ⟨?_, ?_, ?_, fun z h1 h2 h3 => ?_, fun z h1 h2 h3 => ?_, fun k hk => ?_, fun z hz => ?_⟩
    · show s.1 10 + 1 = _
      rw [g10, nI_1]
      rfl
    · show s.1 11 + _ = _
      rw [g11, nI_add, sm, Nat.add_assoc]
    · show s.1 12 + _ = _
      rw [g12, nI_add, sm, Nat.add_assoc]
    · show sV (sV (sV s.1 10 _) 11 _) 12 _ z = V z
      rw [sV_ne (ne_beq h3), sV_ne (ne_beq h2), sV_ne (ne_beq h1)]
      exact gV z h1 h2 h3
    · show sM (sM (sM s.2 26 _) 28 _) 29 _ z = M z
      rw [sM_ne (ne_beq h3), sM_ne (ne_beq h2), sM_ne (ne_beq h1)]
      exact gM z h1 h2 h3
    · show upd (s.2 26) (nb a M' i) 1 (nb a M' k) = 1 ∧ upd (s.2 28) (nb a M' i) (nI c) (nb a M' k) = nI c ∧ upd (s.2 29) (nb a M' i) (nI (fl a o c M' i)) (nb a M' k) = nI (fl a o c M' k)
      by_cases e : k = i
      · rw [e, upd_self9, upd_self9, upd_self9]
        exact ⟨rfl, rfl, rfl⟩
      · have hne := hinj k (by omega)
        rw [upd_ne9 hne, upd_ne9 hne, upd_ne9 hne]
        exact gk k (by omega)
    · show upd (s.2 26) (nb a M' i) 1 z = M 26 z ∧ upd (s.2 28) (nb a M' i) (nI c) z = M 28 z ∧ upd (s.2 29) (nb a M' i) (nI (fl a o c M' i)) z = M 29 z
      have hne := hz i (Nat.lt_succ_self i)
      rw [upd_ne9 hne, upd_ne9 hne, upd_ne9 hne]
      exact gz z (fun k hk => hz k (by omega))
/-- the class counts the uses -/
theorem slB_spec {s : VM} {tn : Nat → Nat} (hc : c < 4) (ho : o ≤ 6) (h0 : s.1 0 = nI c) (ht : ∀ j, j < o → ∀ r : VM, r.1 5 = s.1 5 → r.2 21 = s.2 21 → r.2 13 = s.2 13 → timesV r.1 r.2 (nI j) = nI (tn j)) : ∀ i, i ≤ o →
    (slB s i).1 14 = s.1 14 + nI (sm tn i) ∧ (∀ z, z ≠ 14 → (slB s i).1 z = s.1 z) ∧ (∀ z, z ≠ 10 → (slB s i).2 z = s.2 z) ∧ (∀ j, j < i → (slB s i).2 10 (6 * c + j) = s.2 10 (6 * c + j) + nI (tn j)) ∧ ∀ z, (∀ j, j < i → z ≠ 6 * c + j) → (slB s i).2 10 z = s.2 10 z
  | 0, _ => ⟨(Int32.add_zero _).symm, fun _ _ => rfl, fun _ _ => rfl, fun j hj => absurd hj (Nat.not_lt_zero _), fun _ _ => rfl⟩
  | i + 1, hi => by
    obtain ⟨g14, gV, gM, gj, gz⟩ := slB_spec hc ho h0 ht i (by omega)
    have es : slB s (i + 1) = (sV (slB s i).1 14 ((slB s i).1 14 + timesV (slB s i).1 (slB s i).2 (nI i)), sM (slB s i).2 10 (setF 24 ((slB s i).2 10) ((slB s i).1 0 * 6 + nI i) (atF 24 ((slB s i).2 10) ((slB s i).1 0 * 6 + nI i) + timesV (slB s i).1 (slB s i).2 (nI i)))) := rfl
    rw [es, ht i (by omega) (slB s i) (gV 5 (by omega)) (gM 21 (by omega)) (gM 13 (by omega)), gV 0 (by omega), h0, show (6 : Int32) = nI 6 from rfl, nI_mul, nI_add, Nat.mul_comm c 6, setF_nI (by omega) (by decide), atF_nI (by omega) (by decide)]
    generalize slB s i = r at g14 gV gM gj gz
    refine ⟨?_, fun z hz => ?_, fun z hz => ?_, fun j hj => ?_, fun z hz => ?_⟩
    · show r.1 14 + nI (tn i) = _
      rw [g14, Int32.add_assoc, nI_add, sm]
    · show sV r.1 14 _ z = s.1 z
      rw [sV_ne (ne_beq hz)]
      exact gV z hz
    · show sM r.2 10 _ z = s.2 z
      rw [sM_ne (ne_beq hz)]
      exact gM z hz
    · show upd (r.2 10) (6 * c + i) _ (6 * c + j) = _
      by_cases e : j = i
      · rw [e, upd_self9, gz (6 * c + i) (fun j hj => by omega)]
      · rw [upd_ne9 (by omega)]
        exact gj j (by omega)
    · show upd (r.2 10) (6 * c + i) _ z = _
      rw [upd_ne9 (hz i (Nat.lt_succ_self i))]
      exact gz z (fun j hj => hz j (by omega))
theorem usA_spec {N f : Nat → Int32} {M' : Nat → Nat → Int32} : ∀ i z, usA M' f i z = if z < i then f z + usM M' z else f z
  | 0, z => by rw [if_neg (Nat.not_lt_zero _)]; rfl
  | i + 1, z => by
    have es : usA M' f (i + 1) = upd (usA M' f i) i (usA M' f i i + usM M' i) := rfl
    rw [es]
    by_cases e : z = i
    · rw [e, upd_self9, usA_spec (N := N) i i, if_neg (Nat.lt_irrefl i), if_pos (Nat.lt_succ_self i)]
    · rw [upd_ne9 e, usA_spec (N := N) i z]
      by_cases e2 : z < i
      · rw [if_pos e2, if_pos (by omega)]
      · rw [if_neg e2, if_neg (by omega)]
theorem usN_spec {M' : Nat → Nat → Int32} {tn : Nat → Nat} {x : Int32} : ∀ i, (∀ j, j < i → usM M' j = nI (tn j)) → usN M' x i = x + nI (sm tn i)
  | 0, _ => (Int32.add_zero _).symm
  | i + 1, h => by
    have es : usN M' x (i + 1) = usN M' x i + usM M' i := rfl
    rw [es, usN_spec i (fun j hj => h j (by omega)), h i (Nat.lt_succ_self i), Int32.add_assoc, nI_add, sm]
set_option maxHeartbeats 2000000 in
/-- the sale, from a state in which both know the best set -/
theorem sell_RX (h : RX V M os V' M' t a o c) (hF : FD (cb (M' 5) a) o c (BX a M') V M V' M') (h14 : ∀ k, k < cb (M' 5) a → M' 14 k = BX a M' 14 k) {p : Int64} (hp : p = lN (sm (fl a o c M') (cb (M' 5) a))) :
    RX (sV (sV (slB (slA (V, M) (cb (M' 5) a)) o).1 2 0) 1 0) (slB (slA (V, M) (cb (M' 5) a)) o).2 os (selF a o c (V', M')).1 (selF a o c (V', M')).2 (t + p) a o c := by
  have hn := h.1.2.2.1.2
  have ha := h.1.2.1.2.2
  have ho := h.1.2.2.2.1.2.2
  have hc := h.1.1.2.2
  obtain ⟨a10, a11, a12, aV, aM, ak, az⟩ := slA_spec h hF (cb (M' 5) a) (Nat.le_refl _)
  have htn : ∃ tn : Nat → Nat, ∀ j, j < o → usM M' j = nI (tn j) ∧ tn j ≤ qL (qX (cb (M' 5) a) o c (BX a M')) j := by
    refine ⟨fun j => (usM M' j).toNatClampNeg, fun j hj => ?_⟩
    obtain ⟨w, w1, w2⟩ := us_nat h hF hj
    have := (bs_left h.1 hj).2.2.1
    show usM M' j = nI (usM M' j).toNatClampNeg ∧ (usM M' j).toNatClampNeg ≤ _
    rw [w1, nI_clamp (by omega)]
    exact ⟨rfl, w2⟩
  obtain ⟨tn, htn⟩ := htn
  generalize slA (V, M) (cb (M' 5) a) = sA at a10 a11 a12 aV aM ak az
  obtain ⟨b14, bV, bM, bj, bz⟩ := slB_spec (s := sA) (tn := tn) (c := c) (o := o) hc ho ((aV 0 (by omega) (by omega) (by omega)).trans h.1.1.1) (fun j hj r r5 r21 r13 => by
    have e5 : r.1 5 = V 5 := r5.trans (aV 5 (by omega) (by omega) (by omega))
    have e21 : r.2 21 = M 21 := r21.trans (aM 21 (by omega) (by omega) (by omega))
    have e13 : r.2 13 = M 13 := r13.trans (aM 13 (by omega) (by omega) (by omega))
    have e : timesV r.1 r.2 (nI j) = timesV V M (nI j) := by
      have htm : ∀ n, tmF r.2 (nI j) n = tmF M (nI j) n := fun n => itr_ext (fun i s => by
        have hu : useV r.2 (nI i) = useV M (nI i) := by unfold useV; rw [e21]
        rw [hu, e13]) n 0
      unfold timesV
      rw [htm, e5]
    rw [e, FD_uses h hF hj]
    exact (htn j hj).1) o (Nat.le_refl o)
  generalize slB sA o = sB at b14 bV bM bj bz
  obtain ⟨r1, r2, r3, r4, r5, r6, r7, r8, r9, r10, r11⟩ := h.1
  -- the model's new arrays
  have e14 : ∀ y f z, seA (M' 14) y f (cb (M' 5) a) z = if ∃ k, k < cb (M' 5) a ∧ nb a M' k = z then y else f z := fun y f z => by
    rw [seA_spec]
    have hiff : (∃ k, k < cb (M' 5) a ∧ (M' 14 k).toNatClampNeg = z) ↔ ∃ k, k < cb (M' 5) a ∧ nb a M' k = z := ⟨fun ⟨k, h1, h2⟩ => ⟨k, h1, by rw [← h2, h14 k h1]; rfl⟩, fun ⟨k, h1, h2⟩ => ⟨k, h1, by rw [← h2, h14 k h1]; rfl⟩⟩
    by_cases e : ∃ k, k < cb (M' 5) a ∧ nb a M' k = z
    · rw [if_pos e, if_pos (hiff.mpr e)]
    · rw [if_neg e, if_neg (fun hh => e (hiff.mp hh))]
  have hin : ∀ z, z < a → ((∃ k, k < cb (M' 5) a ∧ nb a M' k = z) ↔ M' 5 z = 98) := fun z hz => ⟨fun ⟨k, h1, h2⟩ => by rw [← h2]; exact (nb_spec h.1 h1).2.1, fun h98 => nb_of h.1 hz h98⟩
  have k5 : (selF a o c (V', M')).2 5 = seA (M' 14) 115 (M' 5) (cb (M' 5) a) := rfl
  have k4 : (selF a o c (V', M')).2 4 = seA (M' 14) (nI c) (M' 4) (cb (M' 5) a) := rfl
  have kc : (selF a o c (V', M')).2 (c + 26) = usA M' (M' (c + 26)) o := by
    show sM (sM (sM M' (c + 26) (usA M' (M' (c + 26)) o)) 5 (seA (M' 14) 115 (M' 5) (cb (M' 5) a))) 4 (seA (M' 14) (nI c) (M' 4) (cb (M' 5) a)) (c + 26) = _
    rw [sM_ne (ne_beq (by omega)), sM_ne (ne_beq (by omega)), sM_at]
  have ko : ∀ z, z ≠ 4 → z ≠ 5 → z ≠ c + 26 → (selF a o c (V', M')).2 z = M' z := fun z h1 h2 h3 => by
    show sM (sM (sM M' (c + 26) _) 5 _) 4 _ z = _
    rw [sM_ne (ne_beq h1), sM_ne (ne_beq h2), sM_ne (ne_beq h3)]
  have kV : ∀ z, z ≠ 3 → z ≠ 7 → (selF a o c (V', M')).1 z = V' z := fun z h1 h2 => by
    show sV (sV V' 3 _) 7 _ z = _
    rw [sV_ne (ne_beq h2), sV_ne (ne_beq h1)]
  have k7 : (selF a o c (V', M')).1 7 = 0 := rfl
  have k3 : (selF a o c (V', M')).1 3 = V' 3 + nI (sm tn o) := by
    show usN M' (V' 3) o = _
    exact usN_spec o (fun j hj => (htn j hj).1)
  generalize selF a o c (V', M') = S at k5 k4 kc ko kV k7 k3
  have s5 : ∀ z, z < a → S.2 5 z = if M' 5 z = 98 then 115 else M' 5 z := fun z hz => by
    rw [k5, e14]
    by_cases e : M' 5 z = 98
    · rw [if_pos ((hin z hz).mpr e), if_pos e]
    · rw [if_neg (fun hh => e ((hin z hz).mp hh)), if_neg e]
  have hcb : ∀ i, i ≤ a → cb (S.2 5) i = 0 := by
    intro i
    induction i with
    | zero => intro _; rfl
    | succ i ih =>
      intro hi
      rw [cb, ih (by omega), s5 i (by omega)]
      by_cases e : M' 5 i = 98
      · rw [if_pos e, if_neg (by decide)]
      · rw [if_neg e, if_neg e]
  have hsd : ∀ z, z < a → (sdB S.2 z = (sdB M' z || decide (M' 5 z = 98))) := fun z hz => by
    unfold sdB
    rw [s5 z hz]
    by_cases e : M' 5 z = 98
    · rw [if_pos e, e]
      decide
    · rw [if_neg e, decide_eq_false e, Bool.or_false]
  have hdis : ∀ z, M' 5 z = 98 → sdB M' z = false := fun z e => by unfold sdB; rw [e]; decide
  have hsplit : ∀ g : Nat → Nat, sm (fun z => if sdB S.2 z = true then g z else 0) a = sm (fun z => if sdB M' z = true then g z else 0) a + sm (fun k => g (nb a M' k)) (cb (M' 5) a) := fun g => by
    have h1 : sm (fun k => g (nb a M' k)) (cb (M' 5) a) = sm (fun z => if M' 5 z = 98 then g z else 0) a := (sm_bas (b0 := fun _ => 0) a ha).symm
    rw [h1, ← sm_add]
    refine sm_eq (fun z hz => ?_)
    rw [hsd z hz]
    by_cases e : M' 5 z = 98
    · rw [hdis z e, decide_eq_true e, if_pos (by rfl), if_neg (by decide), if_pos e, Nat.zero_add]
    · rw [decide_eq_false e, Bool.or_false, if_neg e, Nat.add_zero]
  have m3 : S.2 3 = M' 3 := ko 3 (by omega) (by omega) (by omega)
  have m2 : S.2 2 = M' 2 := ko 2 (by omega) (by omega) (by omega)
  have hfl : ∀ k, k < cb (M' 5) a → M' 3 (nb a M' k) = nI (fl a o c M' k) := fun k hk => hF.2.2.2.2.2.2.2.2 k hk
  have hprn : ∀ k, k < cb (M' 5) a → M' 2 (nb a M' k) = nI (prX (cb (M' 5) a) (BX a M') k) := fun k hk => (bs_pr h.1 hk).2.1
  have eN : nS S.2 a = nS M' a + cb (M' 5) a := by
    have h1 := hsplit (fun _ => 1)
    rw [sm_const] at h1
    unfold nS
    omega
  have eP : pS S.2 a = pS M' a + sm (prX (cb (M' 5) a) (BX a M')) (cb (M' 5) a) := by
    have h1 := hsplit (fun z => (M' 2 z).toNatClampNeg)
    have h2 : sm (fun k => (M' 2 (nb a M' k)).toNatClampNeg) (cb (M' 5) a) = sm (prX (cb (M' 5) a) (BX a M')) (cb (M' 5) a) := sm_eq (fun k hk => by rw [hprn k hk, nI_clamp (by have := (bs_pr h.1 hk).2.2.1; omega)])
    unfold pS
    rw [m2, h1, h2]
  have eE : eS S.2 a = eS M' a + sm (fl a o c M') (cb (M' 5) a) := by
    have h1 := hsplit (fun z => (M' 3 z).toNatClampNeg)
    have h2 : sm (fun k => (M' 3 (nb a M' k)).toNatClampNeg) (cb (M' 5) a) = sm (fl a o c M') (cb (M' 5) a) := sm_eq (fun k hk => by rw [hfl k hk, nI_clamp (by have := fl_le h.1 hk; omega)])
    unfold eS
    rw [m3, h1, h2]
  have eG : gS S.2 a = gS M' a := sm_eq (fun z hz => by
    rw [s5 z hz, m3]
    by_cases e : M' 5 z = 98
    · rw [if_pos e, e, if_neg (by decide), if_neg (by decide)]
    · rw [if_neg e])
  have bV' : ∀ z, z ≠ 14 → sB.1 z = sA.1 z := bV
  refine RX_0 ⟨⟨?_, ?_, hc⟩, ⟨?_, ?_, ha⟩, ⟨?_, ?_⟩, ⟨?_, ?_, ho⟩, ?_, fun j hj => ?_, ?_, ?_, ?_, ?_, ?_, ?_, ?_, ?_, ?_, ?_, ?_⟩ rfl k7
  · show sB.1 0 = nI c
    rw [bV 0 (by omega), aV 0 (by omega) (by omega) (by omega)]
    exact r1.1
  · rw [kV 1 (by omega) (by omega)]; exact r1.2.1
  · show sB.1 3 = nI a
    rw [bV 3 (by omega), aV 3 (by omega) (by omega) (by omega)]
    exact r2.1
  · rw [kV 0 (by omega) (by omega)]; exact r2.2.1
  · show (0 : Int32) = nI (cb (S.2 5) a)
    rw [hcb a (Nat.le_refl a)]
    rfl
  · rw [hcb a (Nat.le_refl a)]
    exact Nat.zero_le _
  · show sB.1 4 = nI o
    rw [bV 4 (by omega), aV 4 (by omega) (by omega) (by omega)]
    exact r4.1
  · rw [kV 2 (by omega) (by omega)]; exact r4.2.1
  · intro k hk
    rw [hcb a (Nat.le_refl a)] at hk
    exact absurd hk (Nat.not_lt_zero _)
  · exact relO_K (r6 j hj) (congrFun (ko 6 (by omega) (by omega) (by omega)) j) (congrFun (ko 7 (by omega) (by omega) (by omega)) j) (congrFun (ko 8 (by omega) (by omega) (by omega)) j) (congrFun (ko 9 (by omega) (by omega) (by omega)) j) (congrFun (ko 10 (by omega) (by omega) (by omega)) j) (congrFun (ko 11 (by omega) (by omega) (by omega)) j) (congrFun (ko 12 (by omega) (by omega) (by omega)) j)
  · unfold rvX
    rw [bM 7 (by omega), aM 7 (by omega) (by omega) (by omega), ko 12 (by omega) (by omega) (by omega)]
    exact r7
  · unfold thX
    rw [bM 8 (by omega), aM 8 (by omega) (by omega) (by omega), bM 9 (by omega), aM 9 (by omega) (by omega) (by omega)]
    exact r8
  · intro c' hc' j hj
    obtain ⟨z, u1, u2, u3, u4⟩ := r9 c' hc' j hj
    have e10 : sA.2 10 = M 10 := aM 10 (by omega) (by omega) (by omega)
    rw [ko 11 (by omega) (by omega) (by omega)]
    by_cases ec : c' = c
    · rw [ec] at u1 u2 ⊢
      rw [kc, usA_spec (N := M' 0)]
      by_cases hjo : j < o
      · obtain ⟨l, l1, l2, l3⟩ := u3 hjo
        have hq := (htn j hjo).2
        have hL : qL (qX (cb (M' 5) a) o c (BX a M')) j = l - z := by
          have e9 := (bs_left h.1 hjo).2.2.2
          unfold lfM at e9
          rw [l1, u2, nI_sub l2] at e9
          have := (bs_left h.1 hjo).2.2.1
          exact ((nI_eq (by omega) (by omega)).mp e9).symm
        refine ⟨z + tn j, ?_, ?_, fun _ => ⟨l, l1, by omega, l3⟩, fun hh => absurd hjo (by omega)⟩
        · rw [bj j hjo, e10, u1, nI_add]
        · rw [if_pos hjo, u2, (htn j hjo).1, nI_add]
      · refine ⟨z, ?_, ?_, u3, u4⟩
        · rw [bz _ (fun j' hj' => by omega), e10]
          exact u1
        · rw [if_neg hjo]
          exact u2
    · refine ⟨z, ?_, ?_, u3, u4⟩
      · rw [bz _ (fun j' hj' => by omega), e10]
        exact u1
      · rw [ko (c' + 26) (by omega) (by omega) (by omega)]
        exact u2
  · intro z hz
    obtain ⟨k', p', q1, q2, q3, q4, q5, q6⟩ := r10 z hz
    refine ⟨k', p', q1, ?_, q3, q4, ?_, ?_⟩
    · rw [ko 1 (by omega) (by omega) (by omega)]; exact q2
    · rw [m2]; exact q5
    · rw [s5 z hz]
      by_cases e : M' 5 z = 98
      · rw [if_pos e]
        exact Or.inr (Or.inr (Or.inl rfl))
      · rw [if_neg e]
        exact q6
  · intro z hz
    obtain ⟨b1, b2, b3⟩ := r11.1 z hz
    show (sB.2 26 z = 0 ↔ _) ∧ (sB.2 27 z = 0 ↔ _) ∧ _
    rw [bM 26 (by omega), bM 27 (by omega), bM 28 (by omega), bM 29 (by omega), aM 27 (by omega) (by omega) (by omega), m3, k4]
    by_cases hza : z < a
    · by_cases e : M' 5 z = 98
      · obtain ⟨k, hk, ek⟩ := nb_of h.1 hza e
        obtain ⟨x1, x2, x3⟩ := ak k hk
        rw [ek] at x1 x2 x3
        have s5z : S.2 5 z = 115 := by rw [s5 z hza, if_pos e]
        have hsdz : sdX S.2 z := Or.inl s5z
        refine ⟨⟨fun hh => ?_, fun hh => absurd ⟨hza, hsdz⟩ hh⟩, ⟨fun _ hh => ?_, fun _ => ?_⟩, fun _ _ => ⟨?_, ?_, fl a o c M' k, fl_le h.1 hk, ?_⟩⟩
        · rw [x1] at hh; exact absurd hh (by decide)
        · rw [s5z] at hh; exact absurd hh.2 (by decide)
        · exact b2.mpr (fun hh => by rw [e] at hh; exact absurd hh.2 (by decide))
        · rw [x2, e14, if_pos ⟨k, hk, ek⟩]
        · rw [x3, ← ek, hfl k hk]
        · rw [← ek, hfl k hk]
      · have hno : ∀ k, k < cb (M' 5) a → z ≠ nb a M' k := fun k hk ez => e (by rw [ez]; exact (nb_spec h.1 hk).2.1)
        obtain ⟨x1, x2, x3⟩ := az z hno
        have s5z : S.2 5 z = M' 5 z := by rw [s5 z hza, if_neg e]
        have hsdz : sdX S.2 z ↔ sdX M' z := by unfold sdX; rw [s5z]
        rw [x1, x2, x3, s5z, hsdz, e14, if_neg (fun ⟨k, hk, ek⟩ => hno k hk ek.symm)]
        exact ⟨b1, b2, b3⟩
    · have hno : ∀ k, k < cb (M' 5) a → z ≠ nb a M' k := fun k hk ez => by have := (nb_spec h.1 hk).1; omega
      obtain ⟨x1, x2, x3⟩ := az z hno
      rw [x1]
      exact ⟨b1.trans ⟨fun _ hh => absurd hh.1 hza, fun _ hh => absurd hh.1 hza⟩, b2.trans ⟨fun _ hh => absurd hh.1 hza, fun _ hh => absurd hh.1 hza⟩, fun hh => absurd hh hza⟩
  · show sB.1 10 = _
    rw [bV 10 (by omega), a10, eN]
  · show sB.1 11 = _
    rw [bV 11 (by omega), a11, eP]
  · show sB.1 12 = _
    rw [bV 12 (by omega), a12, eE]
  · show sB.1 13 = _
    rw [bV 13 (by omega), aV 13 (by omega) (by omega) (by omega), eG]
    exact r11.2.2.2.2.1
  · show sB.1 14 = S.1 3
    rw [b14, aV 14 (by omega) (by omega) (by omega), k3, r11.2.2.2.2.2.1]
  · rw [eE, eG, hp, r11.2.2.2.2.2.2, ← lN_add]
    simp only [Int64.sub_eq_add_neg, Int64.add_assoc]
    rw [Int64.add_comm (-lN (gS M' a))]
theorem cl_sell (h : RX V M os V' M' t a o c) :
    (xsell V = none → (msel a o c V' M' t).2.1.1 4 = 0 ∧ mostSum ((findF os o (cb (M' 5) a) (V, M)).2 23) (maskF (cb (M' 5) a)) 7 = (msel a o c V' M' t).1 ∧ RX (sellF os o (cb (M' 5) a) (V, M)).1 (sellF os o (cb (M' 5) a) (V, M)).2 os (msel a o c V' M' t).2.1.1 (msel a o c V' M' t).2.1.2 (msel a o c V' M' t).2.2 a o c) ∧
    (∀ E, xsell V = some E → (E = eISE ∧ (msel a o c V' M' t).2.1.1 4 = 1) ∧ RX V M os (msel a o c V' M' t).2.1.1 (msel a o c V' M' t).2.1.2 (msel a o c V' M' t).2.2 a o c) ∧
    (V' 7 = 0 → fdOK a o c (sV (sV V' 5 (nI (cb (M' 5) a))) 4 0, sM M' 14 (lkA (M' 5) (M' 14) a))) := by
  have hn := h.1.2.2.1.2
  obtain ⟨hV2, -⟩ := h.1.2.2.1
  have h1 : RX V M os (sV (sV V' 5 (nI (cb (M' 5) a))) 4 0) (sM M' 14 (lkA (M' 5) (M' 14) a)) t a o c := RX_L h _ (fun k h4 h5 => by rw [sV_ne (ne_beq h4), sV_ne (ne_beq h5)])
  obtain ⟨f1, f2, f3, f5, fB⟩ := find_RX h1
  refine ⟨fun hx => ?_, fun E hE => ?_, fun h7 => f3 h7⟩
  · have hne : ¬ nI (cb (M' 5) a) = 0 := fun e => by
      unfold xsell at hx
      rw [hV2, if_pos e] at hx
      cases hx
    have em : msel a o c V' M' t = (paysF a o c (sV (sV V' 5 (nI (cb (M' 5) a))) 4 0, sM M' 14 (lkA (M' 5) (M' 14) a)), selF a o c (fdL a o c (sV (sV V' 5 (nI (cb (M' 5) a))) 4 0, sM M' 14 (lkA (M' 5) (M' 14) a))), t + (paysF a o c (sV (sV V' 5 (nI (cb (M' 5) a))) 4 0, sM M' 14 (lkA (M' 5) (M' 14) a))).toInt64) := if_neg hne
    have e5 : (sM M' 14 (lkA (M' 5) (M' 14) a)) 5 = M' 5 := rfl
    rw [e5] at f1 f2 f5
    rw [em]
    unfold sellF
    generalize findF os o (cb (M' 5) a) (V, M) = sC at f1 f2
    have eL : fdL a o c (sV (sV V' 5 (nI (cb (M' 5) a))) 4 0, sM M' 14 (lkA (M' 5) (M' 14) a)) = (sV (fdF a o c (sV (sV V' 5 (nI (cb (M' 5) a))) 4 0, sM M' 14 (lkA (M' 5) (M' 14) a))).1 5 (nI (cb ((fdF a o c (sV (sV V' 5 (nI (cb (M' 5) a))) 4 0, sM M' 14 (lkA (M' 5) (M' 14) a))).2 5) a)), sM (fdF a o c (sV (sV V' 5 (nI (cb (M' 5) a))) 4 0, sM M' 14 (lkA (M' 5) (M' 14) a))).2 14 (lkA ((fdF a o c (sV (sV V' 5 (nI (cb (M' 5) a))) 4 0, sM M' 14 (lkA (M' 5) (M' 14) a))).2 5) ((fdF a o c (sV (sV V' 5 (nI (cb (M' 5) a))) 4 0, sM M' 14 (lkA (M' 5) (M' 14) a))).2 14) a)) := rfl
    have e4 : (fdF a o c (sV (sV V' 5 (nI (cb (M' 5) a))) 4 0, sM M' 14 (lkA (M' 5) (M' 14) a))).1 4 = 0 := (fdF_VM _).1 4 (fkV_of (by omega))
    have ep : paysF a o c (sV (sV V' 5 (nI (cb (M' 5) a))) 4 0, sM M' 14 (lkA (M' 5) (M' 14) a)) = sumB ((fdF a o c (sV (sV V' 5 (nI (cb (M' 5) a))) 4 0, sM M' 14 (lkA (M' 5) (M' 14) a))).2 3) (lkA ((fdF a o c (sV (sV V' 5 (nI (cb (M' 5) a))) 4 0, sM M' 14 (lkA (M' 5) (M' 14) a))).2 5) ((fdF a o c (sV (sV V' 5 (nI (cb (M' 5) a))) 4 0, sM M' 14 (lkA (M' 5) (M' 14) a))).2 14) a) (cb ((fdF a o c (sV (sV V' 5 (nI (cb (M' 5) a))) 4 0, sM M' 14 (lkA (M' 5) (M' 14) a))).2 5) a) := rfl
    rw [ep, eL]
    generalize fdF a o c (sV (sV V' 5 (nI (cb (M' 5) a))) 4 0, sM M' 14 (lkA (M' 5) (M' 14) a)) = sm' at f1 f2 f5 fB e4
    have hcb : cb (sm'.2 5) a = cb (M' 5) a := by rw [f5]
    have eBX : BX a (sM M' 14 (lkA (M' 5) (M' 14) a)) = BX a M' := BX_K rfl rfl rfl rfl rfl rfl rfl rfl rfl rfl rfl rfl rfl rfl
    have hF2 : FD (cb (sm'.2 5) a) o c (BX a sm'.2) sC.1 sC.2 sm'.1 sm'.2 := by rw [hcb, fB]; exact f2
    have hRL : RX sC.1 sC.2 os (sV sm'.1 5 (nI (cb (sm'.2 5) a))) (sM sm'.2 14 (lkA (sm'.2 5) (sm'.2 14) a)) t a o c := RX_L f1 _ (fun k _ h5 => by rw [sV_ne (ne_beq h5)])
    have eB2 : BX a (sM sm'.2 14 (lkA (sm'.2 5) (sm'.2 14) a)) = BX a sm'.2 := BX_K rfl rfl rfl rfl rfl rfl rfl rfl rfl rfl rfl rfl rfl rfl
    have hFL : FD (cb (sM sm'.2 14 (lkA (sm'.2 5) (sm'.2 14) a) 5) a) o c (BX a (sM sm'.2 14 (lkA (sm'.2 5) (sm'.2 14) a))) sC.1 sC.2 (sV sm'.1 5 (nI (cb (sm'.2 5) a))) (sM sm'.2 14 (lkA (sm'.2 5) (sm'.2 14) a)) := by
      rw [eB2]
      obtain ⟨d1, d2, d3, d4, d5, d6, d7, d8, d9⟩ := hF2
      exact ⟨d1, d2, d3, d4, d5, d6, d7, mB_K d8 rfl rfl rfl rfl rfl rfl rfl rfl, d9⟩
    have hpay := pay_nat f1 hF2 (sm'.2 14) (cb (sm'.2 5) a) (Nat.le_refl _)
    have hfl : fl a o c (sM sm'.2 14 (lkA (sm'.2 5) (sm'.2 14) a)) = fl a o c sm'.2 := by
      unfold fl
      rw [eB2]
      rfl
    have hsl := sell_RX hRL hFL (fun k hk => (lk_0 hk).trans (by rw [eB2]; rfl)) (p := (sumB (sm'.2 3) (lkA (sm'.2 5) (sm'.2 14) a) (cb (sm'.2 5) a)).toInt64) (by
      rw [hpay, hfl]
      have hb : sm (fl a o c sm'.2) (cb (sm'.2 5) a) ≤ sm (fun _ => 9999) (cb (sm'.2 5) a) := sm_le (fun k hk => fl_le f1.1 hk)
      rw [sm_const] at hb
      have : 9999 * cb (sm'.2 5) a ≤ 9999 * 7 := Nat.mul_le_mul_left _ (by omega)
      exact nI_l (by omega))
    have hmp := FD_pay f1 hF2 (sm'.2 14)
    rw [hcb] at hmp
    have e5L : sM sm'.2 14 (lkA (sm'.2 5) (sm'.2 14) a) 5 = sm'.2 5 := rfl
    rw [e5L, hcb] at hsl
    rw [hcb]
    refine ⟨?_, hmp, hsl⟩
    show (selF a o c (sV sm'.1 5 (nI (cb (M' 5) a)), sM sm'.2 14 (lkA (sm'.2 5) (sm'.2 14) a))).1 4 = 0
    exact e4
  · unfold xsell at hE
    rw [hV2] at hE
    by_cases e : nI (cb (M' 5) a) = 0
    · rw [if_pos e] at hE
      cases hE
      have em : msel a o c V' M' t = (0, (sV (sV V' 5 (nI (cb (M' 5) a))) 4 1, sM M' 14 (lkA (M' 5) (M' 14) a)), t) := if_pos e
      rw [em]
      exact ⟨⟨rfl, rfl⟩, RX_L h _ (fun k h4 h5 => by show sV (sV V' 5 (nI (cb (M' 5) a))) 4 1 k = V' k; rw [sV_ne (ne_beq h4), sV_ne (ne_beq h5)])⟩
    · rw [if_neg e] at hE
      cases hE
end SELL
