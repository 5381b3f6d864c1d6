/-! THE RELATION of the two sides between calls. -/
/-- what the model's searches look at, apart from all else -/
def BXf (m1 m2 m6 m7 m8 m9 m10 m11 m12 m26 m27 m28 m29 lk : Nat → Int32) : Nat → Nat → Int32 :=
  sM (sM (sM (sM (sM (sM (sM (sM (sM (sM (sM (sM (sM (sM (fun _ _ => 0) 1 m1) 2 m2) 6 m6) 7 m7) 8 m8) 9 m9) 10 m10) 11 m11) 12 m12) 26 m26) 27 m27) 28 m28) 29 m29) 14 lk
def BX (a : Nat) (M' : Nat → Nat → Int32) : Nat → Nat → Int32 := BXf (M' 1) (M' 2) (M' 6) (M' 7) (M' 8) (M' 9) (M' 10) (M' 11) (M' 12) (M' 26) (M' 27) (M' 28) (M' 29) (lkA (M' 5) (fun _ => 0) a)
theorem BX_c {a c : Nat} {M' : Nat → Nat → Int32} (hc : c < 4) : BX a M' (c + 26) = M' (c + 26) := by
  rcases (show c = 0 ∨ c = 1 ∨ c = 2 ∨ c = 3 by omega) with rfl | rfl | rfl | rfl <;> rfl
def prX (n : Nat) (B : Nat → Nat → Int32) (k : Nat) : Nat := if k < n then prN B k else 0
def qX (n o c : Nat) (B : Nat → Nat → Int32) : tq :=
  (fun j => if j < o then (lfM c B j).toNatClampNeg else 0, fun j => (B 7 j).toNatClampNeg, fun j => if j < o ∧ B 6 j = 116 then (B 8 j).toNatClampNeg else 0, sm (prX n B) 7, fun i j => decide (i < o ∧ j < o ∧ i ≠ j ∧ B 12 i = B 12 j ∧ ¬ B 12 j = -1), fun j => decide (j < o ∧ B 6 j = 116))
def szX (B : Nat → Nat → Int32) (j : Nat) : Nat := (szM B j).toNatClampNeg
def usX (n o c : Nat) (B : Nat → Nat → Int32) : Nat → List us3 := usA3 (qX n o c B) n o (szX B) B
def LX (n o c : Nat) (B : Nat → Nat → Int32) : List us3 := (bst (qX n o c B) (-1, []) (lvs (qX n o c B) (usX n o c B) n 0 [])).2
theorem qX_OK (n o c : Nat) (B : Nat → Nat → Int32) : qOK (qX n o c B) := by
  refine ⟨fun i j h => ?_, fun i => ?_, fun i j k h1 h2 hne => ?_⟩
  · have h0 : i < o ∧ j < o ∧ i ≠ j ∧ B 12 i = B 12 j ∧ ¬ B 12 j = -1 := of_decide_eq_true h
    obtain ⟨a1, a2, a3, a4, a5⟩ := h0
    exact decide_eq_true ⟨a2, a1, fun e => a3 e.symm, a4.symm, by rw [a4]; exact a5⟩
  · exact decide_eq_false (fun h => h.2.2.1 rfl)
  · have h0 : i < o ∧ j < o ∧ i ≠ j ∧ B 12 i = B 12 j ∧ ¬ B 12 j = -1 := of_decide_eq_true h1
    have h3 : i < o ∧ k < o ∧ i ≠ k ∧ B 12 i = B 12 k ∧ ¬ B 12 k = -1 := of_decide_eq_true h2
    exact decide_eq_true ⟨h0.2.1, h3.2.1, hne, h0.2.2.2.1.symm.trans h3.2.2.2.1, h3.2.2.2.2⟩
/-- a good use depends on few arrays, and on the basket's places alone -/
def cgM (n : Nat) (M N : Nat → Nat → Int32) : Prop := N 1 = M 1 ∧ N 2 = M 2 ∧ N 6 = M 6 ∧ N 7 = M 7 ∧ N 8 = M 8 ∧ N 9 = M 9 ∧ N 10 = M 10 ∧ ∀ k, k < n → N 14 k = M 14 k
theorem szM_c {n : Nat} {M N : Nat → Nat → Int32} (h : cgM n M N) (j : Nat) : szM N j = szM M j := by
  obtain ⟨h1, h2, h6, h7, h8, h9, h10, h14⟩ := h
  unfold szM
  rw [h6, h8, h9]
theorem prM_c {n k : Nat} {M N : Nat → Nat → Int32} (h : cgM n M N) (hk : k < n) : prM N k = prM M k := by
  unfold prM
  rw [h.2.1, h.2.2.2.2.2.2.2 k hk]
theorem kdM_c {n k : Nat} {M N : Nat → Nat → Int32} (h : cgM n M N) (hk : k < n) : kdM N k = kdM M k := by
  unfold kdM
  rw [h.1, h.2.2.2.2.2.2.2 k hk]
theorem diM_c {n : Nat} {M N : Nat → Nat → Int32} (h : cgM n M N) (j : Nat) (set : Int32) : diM N n j set = diM M n j set := by
  have e1 : dsM N set n = dsM M set n := itr_congr (fun i hi s => by rw [prM_c h hi])
  have e2 : dcM N set n = dcM M set n := itr_congr (fun i hi s => by rw [prM_c h hi])
  unfold diM
  rw [e1, e2, h.2.2.1, h.2.2.2.2.1, h.2.2.2.2.2.2.1]
theorem fiL_c {n : Nat} {M N : Nat → Nat → Int32} (h : cgM n M N) (j : Nat) (set : Int32) : ∀ k i, fiL N n j set i k = fiL M n j set i k
  | 0, _ => rfl
  | k + 1, i => by
    have e1 : cnM N set (nI i) n = cnM M set (nI i) n := itr_congr (fun z hz s => by unfold cnS; rw [kdM_c h hz])
    have e2 : wtM N j (nI i) = wtM M j (nI i) := by
      unfold wtM
      rw [szM_c h, h.2.2.1, h.2.2.2.1, h.2.2.2.2.1, h.2.2.2.2.2.1]
    rw [fiL, fiL, e1, e2, fiL_c h j set k (i + 1)]
theorem goM_c {n : Nat} {M N : Nat → Nat → Int32} (h : cgM n M N) (j : Nat) (set : Int32) : goM N n j set = goM M n j set := by
  unfold goM fiM
  rw [fiL_c h, diM_c h, szM_c h, h.2.2.1]
theorem usA_c {n : Nat} {M N : Nat → Nat → Int32} (h : cgM n M N) (q : tq) (o : Nat) (sz : Nat → Nat) : usA3 q n o sz N = usA3 q n o sz M := by
  have e : ∀ j, mkU N n j = mkU M n j := fun j => funext fun m => by
    unfold mkU
    rw [goM_c h, diM_c h]
  have e2 : ∀ p, usj q n sz N p = usj q n sz M p := fun p => funext fun j => by
    unfold usj
    rw [e j]
  funext p
  unfold usA3
  rw [e2]
/-- the parts of the base -/
def rvX (M M' : Nat → Nat → Int32) (o : Nat) : Prop := ∀ j, j < 6 → ∃ R, R < 64 ∧ M 7 j = nI R ∧ ∀ i, i < 6 → R.testBit i = decide (i < o ∧ j < o ∧ i ≠ j ∧ M' 12 i = M' 12 j ∧ ¬ M' 12 j = -1)
def thX (M : Nat → Nat → Int32) (os : Nat → ofr) (o : Nat) : Prop := (∀ j, j < o → M 8 j = threshO (os j) ∧ M 9 j = amountO (os j)) ∧ ∀ j, o ≤ j → j < 6 → M 8 j = 0 ∧ M 9 j = 0
def udX (M M' : Nat → Nat → Int32) (o : Nat) : Prop := ∀ c, c < 4 → ∀ j, j < 6 → ∃ z, M 10 (6 * c + j) = nI z ∧ M' (c + 26) j = nI z ∧ (j < o → ∃ l, M' 11 j = nI l ∧ z ≤ l ∧ l ≤ 9) ∧ (o ≤ j → z = 0)
def itX (M' : Nat → Nat → Int32) (a : Nat) : Prop := ∀ z, z < a → ∃ k pr, k < 10 ∧ M' 1 z = nI k ∧ 1 ≤ pr ∧ pr ≤ 9999 ∧ M' 2 z = nI pr ∧ (M' 5 z = 98 ∨ M' 5 z = 111 ∨ M' 5 z = 115 ∨ M' 5 z = 114)
def sdX (M' : Nat → Nat → Int32) (z : Nat) : Prop := M' 5 z = 115 ∨ M' 5 z = 114
def sdB (M' : Nat → Nat → Int32) (z : Nat) : Bool := decide (M' 5 z = 115) || decide (M' 5 z = 114)
theorem sdB_iff {M' : Nat → Nat → Int32} {z : Nat} : sdB M' z = true ↔ sdX M' z := by
  unfold sdB sdX
  rw [Bool.or_eq_true, decide_eq_true_eq, decide_eq_true_eq]
def nS (M' : Nat → Nat → Int32) (a : Nat) : Nat := sm (fun z => if sdB M' z = true then 1 else 0) a
def pS (M' : Nat → Nat → Int32) (a : Nat) : Nat := sm (fun z => if sdB M' z = true then (M' 2 z).toNatClampNeg else 0) a
def eS (M' : Nat → Nat → Int32) (a : Nat) : Nat := sm (fun z => if sdB M' z = true then (M' 3 z).toNatClampNeg else 0) a
def gS (M' : Nat → Nat → Int32) (a : Nat) : Nat := sm (fun z => if M' 5 z = 114 then (M' 3 z).toNatClampNeg else 0) a
def ldX (V : Nat → Int32) (M : Nat → Nat → Int32) (V' : Nat → Int32) (M' : Nat → Nat → Int32) (t : Int64) (a : Nat) : Prop :=
  (∀ z, z < 60 → (M 26 z = 0 ↔ ¬ (z < a ∧ sdX M' z)) ∧ (M 27 z = 0 ↔ ¬ (z < a ∧ M' 5 z = 114)) ∧ (z < a → sdX M' z → M 28 z = M' 4 z ∧ M 29 z = M' 3 z ∧ ∃ w, w ≤ 9999 ∧ M' 3 z = nI w)) ∧
  V 10 = nI (nS M' a) ∧ V 11 = nI (pS M' a) ∧ V 12 = nI (eS M' a) ∧ V 13 = nI (gS M' a) ∧ V 14 = V' 3 ∧ t = lN (eS M' a) - lN (gS M' a)
def RB (V : Nat → Int32) (M : Nat → Nat → Int32) (os : Nat → ofr) (V' : Nat → Int32) (M' : Nat → Nat → Int32) (t : Int64) (a o c : Nat) : Prop :=
  (V 0 = nI c ∧ V' 1 = nI c ∧ c < 4) ∧ (V 3 = nI a ∧ V' 0 = nI a ∧ a ≤ 60) ∧ (V 2 = nI (cb (M' 5) a) ∧ cb (M' 5) a ≤ 7) ∧ (V 4 = nI o ∧ V' 2 = nI o ∧ o ≤ 6) ∧ relB M M' a ∧ (∀ j, j < o → relO (os j) M' j) ∧ rvX M M' o ∧ thX M os o ∧ udX M M' o ∧ itX M' a ∧ ldX V M V' M' t a
/-- what both know when the best set is known -/
def FD (n o c : Nat) (B : Nat → Nat → Int32) (V : Nat → Int32) (M : Nat → Nat → Int32) (V' : Nat → Int32) (M' : Nat → Nat → Int32) : Prop :=
  bC (qX n o c B) (((vl (qX n o c B) (LX n o c B) : Nat) : Int), LX n o c B) (V, M) ∧ srC (qX n o c B) (usX n o c B) n (stF M) V M ∧ (∀ j, j < 6 → M 17 j = nI (qL (qX n o c B) j)) ∧ HL (V, M) (GL (qX n o c B) n o (szX B) B n) ∧ (∀ z, z ≤ 7 → M 16 z = nI (stF M z) ∧ stF M z ≤ 210) ∧
  (V 7 = -1 ∨ V 7 = nI (vl (qX n o c B) (LX n o c B))) ∧ (∀ k, k < n → M 23 k = nI (fnl n (prX n B) (qX n o c B) (LX n o c B) k)) ∧ mB (qX n o c B) n o (((vl (qX n o c B) (LX n o c B) : Nat) : Int), LX n o c B) (V', M') ∧ ∀ k, k < n → M' 3 (B 14 k).toNatClampNeg = nI (fnl n (prX n B) (qX n o c B) (LX n o c B) k)
def RX (V : Nat → Int32) (M : Nat → Nat → Int32) (os : Nat → ofr) (V' : Nat → Int32) (M' : Nat → Nat → Int32) (t : Int64) (a o c : Nat) : Prop :=
  RB V M os V' M' t a o c ∧ ((V 1 = 0 ∧ V' 7 = 0) ∨ (V 1 = 1 ∧ V' 7 = 1 ∧ FD (cb (M' 5) a) o c (BX a M') V M V' M'))
theorem relO_K {x : ofr} {M N : Nat → Nat → Int32} {j : Nat} (h : relO x M j) (h6 : N 6 j = M 6 j) (h7 : N 7 j = M 7 j) (h8 : N 8 j = M 8 j) (h9 : N 9 j = M 9 j) (h10 : N 10 j = M 10 j) (h11 : N 11 j = M 11 j) (h12 : N 12 j = M 12 j) : relO x N j := by
  unfold relO
  rw [h6, h7, h8, h9, h10, h11, h12]
  exact h
/-- the base, when what it speaks of stays -/
theorem RB_K {V : Nat → Int32} {M : Nat → Nat → Int32} {os : Nat → ofr} {V' : Nat → Int32} {M' : Nat → Nat → Int32} {t : Int64} {a o c : Nat} (h : RB V M os V' M' t a o c) {W : Nat → Int32} {N : Nat → Nat → Int32} {W' : Nat → Int32} {N' : Nat → Nat → Int32}
    (hV : W 0 = V 0 ∧ W 2 = V 2 ∧ W 3 = V 3 ∧ W 4 = V 4 ∧ W 10 = V 10 ∧ W 11 = V 11 ∧ W 12 = V 12 ∧ W 13 = V 13 ∧ W 14 = V 14)
    (hM : N 2 = M 2 ∧ N 3 = M 3 ∧ N 4 = M 4 ∧ N 7 = M 7 ∧ N 8 = M 8 ∧ N 9 = M 9 ∧ N 10 = M 10 ∧ N 26 = M 26 ∧ N 27 = M 27 ∧ N 28 = M 28 ∧ N 29 = M 29)
    (hV' : W' 0 = V' 0 ∧ W' 1 = V' 1 ∧ W' 2 = V' 2 ∧ W' 3 = V' 3)
    (hM' : N' 1 = M' 1 ∧ N' 2 = M' 2 ∧ N' 4 = M' 4 ∧ N' 5 = M' 5 ∧ N' 6 = M' 6 ∧ N' 7 = M' 7 ∧ N' 8 = M' 8 ∧ N' 9 = M' 9 ∧ N' 10 = M' 10 ∧ N' 11 = M' 11 ∧ N' 12 = M' 12 ∧ N' 26 = M' 26 ∧ N' 27 = M' 27 ∧ N' 28 = M' 28 ∧ N' 29 = M' 29)
    (h3 : ∀ z, z < a → sdX M' z → N' 3 z = M' 3 z) : RB W N os W' N' t a o c := by
  obtain ⟨r1, r2, r3, r4, r5, r6, r7, r8, r9, r10, r11⟩ := h
  obtain ⟨v0, v2, v3, v4, v10, v11, v12, v13, v14⟩ := hV
  obtain ⟨m2, m3, m4, m7, m8, m9, m10, m26, m27, m28, m29⟩ := hM
  obtain ⟨w0, w1, w2, w3⟩ := hV'
  obtain ⟨p1, p2, p4, p5, p6, p7, p8, p9, p10, p11, p12, p26, p27, p28, p29⟩ := hM'
  have hsd : ∀ z, sdX N' z = sdX M' z := fun z => by unfold sdX; rw [p5]
  have hsb : ∀ z, sdB N' z = sdB M' z := fun z => by unfold sdB; rw [p5]
  have en : nS N' a = nS M' a := sm_eq (fun z _ => by rw [hsb z])
  have ep : pS N' a = pS M' a := sm_eq (fun z _ => by rw [hsb z, p2])
  have ee : eS N' a = eS M' a := sm_eq (fun z hz => by
    rw [hsb z]
    by_cases e : sdB M' z = true
    · rw [if_pos e, if_pos e, h3 z hz (sdB_iff.mp e)]
    · rw [if_neg e, if_neg e])
  have eg : gS N' a = gS M' a := sm_eq (fun z hz => by
    rw [p5]
    by_cases e : M' 5 z = 114
    · rw [if_pos e, if_pos e, h3 z hz (Or.inr e)]
    · rw [if_neg e, if_neg e])
  have hc26 : ∀ c, c < 4 → N' (c + 26) = M' (c + 26) := fun c hc => by
    rcases (show c = 0 ∨ c = 1 ∨ c = 2 ∨ c = 3 by omega) with rfl | rfl | rfl | rfl
    · exact p26
    · exact p27
    · exact p28
    · exact p29
  refine ⟨by rw [v0, w1]; exact r1, by rw [v3, w0]; exact r2, by rw [v2, p5]; exact r3, by rw [v4, w2]; exact r4, ?_, fun j hj => relO_K (r6 j hj) (by rw [p6]) (by rw [p7]) (by rw [p8]) (by rw [p9]) (by rw [p10]) (by rw [p11]) (by rw [p12]), ?_, ?_, ?_, ?_, ?_, ?_, ?_, ?_, ?_, ?_, ?_⟩
  · intro k hk
    rw [p5] at hk ⊢
    obtain ⟨b1, b2, b3⟩ := r5 k hk
    rw [m2, m3, m4, p1, p2]
    exact ⟨b1.trans (lkA_base hk), b2, b3⟩
  · unfold rvX
    rw [m7, p12]
    exact r7
  · unfold thX
    rw [m8, m9]
    exact r8
  · intro c hc j hj
    rw [m10, hc26 c hc, p11]
    exact r9 c hc j hj
  · unfold itX
    rw [p1, p2, p5]
    exact r10
  · intro z hz
    rw [m26, m27, m28, m29, hsd z, p5, p4]
    obtain ⟨b1, b2, b3⟩ := r11.1 z hz
    refine ⟨b1, b2, fun h1 h2 => ?_⟩
    rw [h3 z h1 h2]
    exact b3 h1 h2
  · rw [v10, en]; exact r11.2.1
  · rw [v11, ep]; exact r11.2.2.1
  · rw [v12, ee]; exact r11.2.2.2.1
  · rw [v13, eg]; exact r11.2.2.2.2.1
  · rw [v14, w3]; exact r11.2.2.2.2.2.1
  · rw [ee, eg]; exact r11.2.2.2.2.2.2
/-- the search's arrays, when what they speak of stays -/
theorem BX_K {a : Nat} {M' N' : Nat → Nat → Int32} (h1 : N' 1 = M' 1) (h2 : N' 2 = M' 2) (h6 : N' 6 = M' 6) (h7 : N' 7 = M' 7) (h8 : N' 8 = M' 8) (h9 : N' 9 = M' 9) (h10 : N' 10 = M' 10) (h11 : N' 11 = M' 11) (h12 : N' 12 = M' 12) (h26 : N' 26 = M' 26) (h27 : N' 27 = M' 27) (h28 : N' 28 = M' 28) (h29 : N' 29 = M' 29) (hl : lkA (N' 5) (fun _ => 0) a = lkA (M' 5) (fun _ => 0) a) : BX a N' = BX a M' := by
  unfold BX
  rw [h1, h2, h6, h7, h8, h9, h10, h11, h12, h26, h27, h28, h29, hl]
/-- the model's looking again, and its word of a throw, change nothing -/
theorem RX_L {V : Nat → Int32} {M : Nat → Nat → Int32} {os : Nat → ofr} {V' : Nat → Int32} {M' : Nat → Nat → Int32} {t : Int64} {a o c : Nat} (h : RX V M os V' M' t a o c) {W' : Nat → Int32} (f14 : Nat → Int32) (hW : ∀ k, k ≠ 4 → k ≠ 5 → W' k = V' k) : RX V M os W' (sM M' 14 f14) t a o c := by
  refine ⟨RB_K h.1 ⟨rfl, rfl, rfl, rfl, rfl, rfl, rfl, rfl, rfl⟩ ⟨rfl, rfl, rfl, rfl, rfl, rfl, rfl, rfl, rfl, rfl, rfl⟩ ⟨hW 0 (by omega) (by omega), hW 1 (by omega) (by omega), hW 2 (by omega) (by omega), hW 3 (by omega) (by omega)⟩ ⟨rfl, rfl, rfl, rfl, rfl, rfl, rfl, rfl, rfl, rfl, rfl, rfl, rfl, rfl, rfl⟩ (fun _ _ _ => rfl), ?_⟩
  rcases h.2 with ⟨h1, h2⟩ | ⟨h1, h2, h3⟩
  · exact Or.inl ⟨h1, (hW 7 (by omega) (by omega)).trans h2⟩
  · refine Or.inr ⟨h1, (hW 7 (by omega) (by omega)).trans h2, ?_⟩
    have e5 : sM M' 14 f14 5 = M' 5 := rfl
    have eB : BX a (sM M' 14 f14) = BX a M' := BX_K rfl rfl rfl rfl rfl rfl rfl rfl rfl rfl rfl rfl rfl rfl
    rw [e5, eB]
    obtain ⟨g1, g2, g3, g4, g5, g6, g7, g8, g9⟩ := h3
    exact ⟨g1, g2, g3, g4, g5, g6, g7, mB_K g8 (hW 8 (by omega) (by omega)) (hW 9 (by omega) (by omega)) (hW 10 (by omega) (by omega)) rfl rfl rfl rfl rfl, g9⟩
theorem RX_V {V : Nat → Int32} {M : Nat → Nat → Int32} {os : Nat → ofr} {V' : Nat → Int32} {M' : Nat → Nat → Int32} {t : Int64} {a o c : Nat} (h : RX V M os V' M' t a o c) (x : Int32) : RX V M os (sV V' 4 x) M' t a o c := by
  have h1 := RX_L (W' := sV V' 4 x) h (M' 14) (fun k h4 _ => by unfold sV; cases hb : Nat.beq k 4; rfl; exact absurd (Nat.eq_of_beq_eq_true hb) h4)
  have e : sM M' 14 (M' 14) = M' := funext fun k => by
    unfold sM
    cases hb : Nat.beq k 14
    · rfl
    · rw [Nat.eq_of_beq_eq_true hb]; rfl
  rw [e] at h1
  exact h1
