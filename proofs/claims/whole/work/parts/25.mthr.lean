theorem fX12_thresholds_121 : jF wsX12_thresholds RX12 121 13 14 false .int := ⟨(RX12, TX12, 37), tyX12, rfl, by decide, by decide +kernel, by decide +kernel, tyX12_ok, nmX12, rfl, by decide +kernel, fun h => by cases h⟩
theorem fX12_thresholds_32 : jF wsX12_thresholds RX12 32 13 9 true (.array .int) := ⟨(RX12, TX12, 37), tyX12, rfl, by decide, by decide +kernel, by decide +kernel, tyX12_ok, nmX12, rfl, by decide +kernel, by decide +kernel⟩
theorem fX12_thresholds_44 : jF wsX12_thresholds RX12 44 13 13 true (.array .int) := ⟨(RX12, TX12, 37), tyX12, rfl, by decide, by decide +kernel, by decide +kernel, tyX12_ok, nmX12, rfl, by decide +kernel, by decide +kernel⟩
theorem fX12_thresholds_85 : jF wsX12_thresholds RX12 85 13 36 true (.array .boolean) := ⟨(RX12, TX12, 37), tyX12, rfl, by decide, by decide +kernel, by decide +kernel, tyX12_ok, nmX12, rfl, by decide +kernel, by decide +kernel⟩
theorem fX12_goes_93 : jF wsX12_goes RX12 93 13 20 false .int := ⟨(RX12, TX12, 37), tyX12, rfl, by decide, by decide +kernel, by decide +kernel, tyX12_ok, nmX12, rfl, by decide +kernel, fun h => by cases h⟩
theorem fX12_goes_169 : jF wsX12_goes RX12 169 13 29 false .int := ⟨(RX12, TX12, 37), tyX12, rfl, by decide, by decide +kernel, by decide +kernel, tyX12_ok, nmX12, rfl, by decide +kernel, fun h => by cases h⟩
theorem fX12_goes_172 : jF wsX12_goes RX12 172 13 35 false .int := ⟨(RX12, TX12, 37), tyX12, rfl, by decide, by decide +kernel, by decide +kernel, tyX12_ok, nmX12, rfl, by decide +kernel, fun h => by cases h⟩
theorem fX12_goes_175 : jF wsX12_goes RX12 175 13 26 false .int := ⟨(RX12, TX12, 37), tyX12, rfl, by decide, by decide +kernel, by decide +kernel, tyX12_ok, nmX12, rfl, by decide +kernel, fun h => by cases h⟩
theorem fX12_goes_178 : jF wsX12_goes RX12 178 13 34 false .int := ⟨(RX12, TX12, 37), tyX12, rfl, by decide, by decide +kernel, by decide +kernel, tyX12_ok, nmX12, rfl, by decide +kernel, fun h => by cases h⟩
theorem fX12_goes_121 : jF wsX12_goes RX12 121 13 14 false .int := ⟨(RX12, TX12, 37), tyX12, rfl, by decide, by decide +kernel, by decide +kernel, tyX12_ok, nmX12, rfl, by decide +kernel, fun h => by cases h⟩
theorem fX12_goes_79 : jF wsX12_goes RX12 79 13 32 true (.array .int) := ⟨(RX12, TX12, 37), tyX12, rfl, by decide, by decide +kernel, by decide +kernel, tyX12_ok, nmX12, rfl, by decide +kernel, by decide +kernel⟩
theorem fX12_goes_64 : jF wsX12_goes RX12 64 13 24 true (.array .int) := ⟨(RX12, TX12, 37), tyX12, rfl, by decide, by decide +kernel, by decide +kernel, tyX12_ok, nmX12, rfl, by decide +kernel, by decide +kernel⟩
theorem fX12_goes_82 : jF wsX12_goes RX12 82 13 33 true (.array .int) := ⟨(RX12, TX12, 37), tyX12, rfl, by decide, by decide +kernel, by decide +kernel, tyX12_ok, nmX12, rfl, by decide +kernel, by decide +kernel⟩
theorem fX12_goes_67 : jF wsX12_goes RX12 67 13 25 true (.array .int) := ⟨(RX12, TX12, 37), tyX12, rfl, by decide, by decide +kernel, by decide +kernel, tyX12_ok, nmX12, rfl, by decide +kernel, by decide +kernel⟩
theorem fX12_goes_76 : jF wsX12_goes RX12 76 13 31 true (.array .int) := ⟨(RX12, TX12, 37), tyX12, rfl, by decide, by decide +kernel, by decide +kernel, tyX12_ok, nmX12, rfl, by decide +kernel, by decide +kernel⟩
theorem fX12_goes_58 : jF wsX12_goes RX12 58 13 22 true (.array .int) := ⟨(RX12, TX12, 37), tyX12, rfl, by decide, by decide +kernel, by decide +kernel, tyX12_ok, nmX12, rfl, by decide +kernel, by decide +kernel⟩
theorem fX12_goes_73 : jF wsX12_goes RX12 73 13 30 true (.array .int) := ⟨(RX12, TX12, 37), tyX12, rfl, by decide, by decide +kernel, by decide +kernel, tyX12_ok, nmX12, rfl, by decide +kernel, by decide +kernel⟩
theorem fX12_goes_55 : jF wsX12_goes RX12 55 13 21 true (.array .int) := ⟨(RX12, TX12, 37), tyX12, rfl, by decide, by decide +kernel, by decide +kernel, tyX12_ok, nmX12, rfl, by decide +kernel, by decide +kernel⟩
/-- the thresholds laid greedily: whether one is, all of them, the marks -/
def isS (c : Nat) (M : Nat → Nat → Int32) (off sum : Int32) (j i : Nat) (x : Int32) : Int32 := if x = 0 then 0 else if nI i = nI j then 1 else if M 12 j = -1 then 1 else if M 12 i = M 12 j then (if caM c M i off sum = 0 then 1 else if M 8 i < M 8 j then 1 else if M 8 j = M 8 i then (if nI i ≤ nI j then 0 else 1) else 0) else 1
def isF (c : Nat) (M : Nat → Nat → Int32) (off sum : Int32) (j i : Nat) : Int32 := itr (isS c M off sum j) i (caM c M j off sum)
def thS (c o : Nat) (M : Nat → Nat → Int32) (off sum : Int32) (j : Nat) (a : Int32) : Int32 := a + (if isF c M off sum j o = 0 then 0 else M 8 j)
def thM (c o : Nat) (M : Nat → Nat → Int32) (off sum : Int32) (i : Nat) : Int32 := itr (thS c o M off sum) i 0
def isA (c o : Nat) (M : Nat → Nat → Int32) (off sum : Int32) (b : Nat → Int32) (i : Nat) : Nat → Int32 := itr (fun j b => upd b j (vp_nar .boolean (isF c M off sum j o))) i b
theorem isF_s (c : Nat) (M : Nat → Nat → Int32) (off sum : Int32) (j i : Nat) : isF c M off sum j (i + 1) = isS c M off sum j i (isF c M off sum j i) := rfl
theorem is0 {c : Nat} {M : Nat → Nat → Int32} {off sum : Int32} {j i : Nat} (h : isF c M off sum j i = 0) : ∀ {k : Nat}, isF c M off sum j (i + k) = 0
  | 0 => h
  | k + 1 => by
    rw [← Nat.add_assoc, isF_s, isS, if_pos (is0 h)]
set_option maxHeartbeats 4000000 in
set_option maxRecDepth 100000 in
theorem c_X12_thresholds0 (G : jG) (ad : Nat → Nat) (V : Nat → Int32) (M : Nat → Nat → Int32) (t : Int64) (n o c : Nat) (hI : mI n o c V M) (off sum : Int32) : jD G 2 yX12_thresholds wsX12_thresholds [.ref (ad 0), .int off, .int sum, .int 0] (wM G ad V M t) (some (.int (thM c o M off sum o))) (wM G ad V M t) := by
  refine jC.of (maxL := 9) (cc := cX12_thresholds) (ret := (some .int)) rfl (by decide) [some (.ref (ad 0)), some (.int off), some (.int sum), some (.int 0), none, none, none, none, none] rfl (Nat.le_of_ble_eq_true rfl) (j_args rfl) (fun X hX => ?_)
  have hI0 := hI
  obtain ⟨hn5, hn, ho2, ho, hc1, hc, hB, hG4⟩ := hI
  refine j_iconst hX (v := 0) (by decide) dX12_thresholds_0 ?_
  refine j_istore hX (ls' := [some (.ref (ad 0)), some (.int off), some (.int sum), some (.int 0), some (.int 0), none, none, none, none]) dX12_thresholds_1 (Nat.le_of_ble_eq_true rfl) rfl rfl ?_
  refine j_iconst hX (v := 0) (by decide) dX12_thresholds_3 ?_
  refine j_istore hX (ls' := [some (.ref (ad 0)), some (.int off), some (.int sum), some (.int 0), some (.int 0), some (.int 0), none, none, none]) dX12_thresholds_4 (Nat.le_of_ble_eq_true rfl) rfl rfl ?_
  have L6 : ∀ zi i : Nat, 0 ≤ i → i + zi = o → jW G X 0 0 6 [some (.ref (ad 0)), some (.int off), some (.int sum), some (.int 0), some (.int (thM c o M off sum i)), some (.int (nI i)), none, none, none] [] (wM G ad V M t) := by
    intro zi
    induction zi with
    | zero =>
      intro i h0 hi
      have hin : i = o := by omega
      refine j_iload hX dX12_thresholds_6 rfl ?_
      refine j_aload_n hX dX12_thresholds_8 rfl ?_
      refine j_getf hX (v := .int (V 2)) dX12_thresholds_9 fX12_thresholds_121 0 (wMg0 _ _ _ _ _) rfl ?_
      refine jW.top ho2 ?_
      refine j_icmp_ge_t hX (tgt := 194) dX12_thresholds_12 (by decide) (by rw [hin]; exact nI_le (Nat.le_refl _) (by omega)) ?_
      refine j_iload hX dX12_thresholds_194 rfl ?_
      exact j_iret hX dX12_thresholds_196 ⟨by rw [hin], rfl⟩
    | succ zi ih =>
      intro i h0 hi
      have hin : i < o := by omega
      refine j_iload hX dX12_thresholds_6 rfl ?_
      refine j_aload_n hX dX12_thresholds_8 rfl ?_
      refine j_getf hX (v := .int (V 2)) dX12_thresholds_9 fX12_thresholds_121 0 (wMg0 _ _ _ _ _) rfl ?_
      refine jW.top ho2 ?_
      refine j_icmp_ge_f hX (tgt := 194) dX12_thresholds_12 (by decide) (nI_ge hin (by omega)) ?_
      refine j_aload_n hX dX12_thresholds_15 rfl ?_
      refine j_iload hX dX12_thresholds_16 rfl ?_
      refine j_iload_n hX dX12_thresholds_18 rfl ?_
      refine j_iload_n hX dX12_thresholds_19 rfl ?_
      refine j_dV hX (nA := 3) (cq := (RX12, TX12, 37)) (As := [.int (nI i), .int off, .int sum]) (st := []) (st' := [.int (caM c M i off sum)]) (ci := 13) rfl dX12_thresholds_20 (c_X12_canThreshold G _ V M _ n o c hI0 i (by omega) _ _) gX12_thresholds_X12_canThreshold rfl (by decide +kernel) (q := 0) (wMg0 _ _ _ _ _) (by decide) (Nat.le_of_ble_eq_true rfl) rfl (Nat.le_of_ble_eq_true rfl) rfl ⟨Nat.le_refl _, Nat.le_refl _⟩ rfl ?_
      refine j_istore hX (ls' := [some (.ref (ad 0)), some (.int off), some (.int sum), some (.int 0), some (.int (thM c o M off sum i)), some (.int (nI i)), some (.int (caM c M i off sum)), none, none]) dX12_thresholds_23 (Nat.le_of_ble_eq_true rfl) rfl rfl ?_
      refine j_iconst hX (v := 0) (by decide) dX12_thresholds_25 ?_
      refine j_istore hX (ls' := [some (.ref (ad 0)), some (.int off), some (.int sum), some (.int 0), some (.int (thM c o M off sum i)), some (.int (nI i)), some (.int (caM c M i off sum)), some (.int 0), none]) dX12_thresholds_26 (Nat.le_of_ble_eq_true rfl) rfl rfl ?_
      have L28 : ∀ za a : Nat, 0 ≤ a → a + za = o → jW G X 0 0 28 [some (.ref (ad 0)), some (.int off), some (.int sum), some (.int 0), some (.int (thM c o M off sum i)), some (.int (nI i)), some (.int (isF c M off sum i a)), some (.int (nI a)), none] [] (wM G ad V M t) := by
        intro za
        induction za with
        | zero =>
          intro a h0a hia
          have hina : a = o := by omega
          refine j_iload hX dX12_thresholds_28 rfl ?_
          refine j_aload_n hX dX12_thresholds_30 rfl ?_
          refine j_getf hX (v := .int (V 2)) dX12_thresholds_31 fX12_thresholds_121 0 (wMg0 _ _ _ _ _) rfl ?_
          refine jW.top ho2 ?_
          refine j_icmp_ge_t hX (tgt := 154) dX12_thresholds_34 (by decide) (by rw [hina]; exact nI_le (Nat.le_refl _) (by omega)) ?_
          refine jW.drop (ls' := [some (.ref (ad 0)), some (.int off), some (.int sum), some (.int 0), some (.int (thM c o M off sum i)), some (.int (nI i)), some (.int (isF c M off sum i a)), none, none]) ⟨Or.inr rfl, Or.inr rfl, Or.inr rfl, Or.inr rfl, Or.inr rfl, Or.inr rfl, Or.inr rfl, Or.inl rfl, Or.inr rfl, trivial⟩ ?_
          refine jW.locals (ls' := [some (.ref (ad 0)), some (.int off), some (.int sum), some (.int 0), some (.int (thM c o M off sum i)), some (.int (nI i)), some (.int (isF c M off sum i o)), none, none]) (by rw [hina]) ?_
          refine j_iload hX dX12_thresholds_154 rfl ?_
          refine j_iload hX dX12_thresholds_156 rfl ?_
          refine j_if_eq hX (tgt := 171) dX12_thresholds_158 (by decide) (fun h158 => ?_) (fun h158 => ?_)
          · refine j_iconst hX (v := 0) (by decide) dX12_thresholds_171 ?_
            refine j_iadd hX dX12_thresholds_172 ?_
            refine j_istore hX (ls' := [some (.ref (ad 0)), some (.int off), some (.int sum), some (.int 0), some (.int ((thM c o M off sum i) + 0)), some (.int (nI i)), some (.int (isF c M off sum i o)), none, none]) dX12_thresholds_173 (Nat.le_of_ble_eq_true rfl) rfl rfl ?_
            refine j_iload_n hX dX12_thresholds_175 rfl ?_
            refine j_if_eq_t hX (tgt := 188) dX12_thresholds_176 (by decide) (by decide) ?_
            refine j_iinc hX (v := nI (i + 1)) (ls' := [some (.ref (ad 0)), some (.int off), some (.int sum), some (.int 0), some (.int ((thM c o M off sum i) + 0)), some (.int (nI (i + 1))), some (.int (isF c M off sum i o)), none, none]) dX12_thresholds_188 rfl (j_inc1 _) rfl rfl ?_
            refine j_goto hX (tgt := 6) dX12_thresholds_191 (by decide) ?_
            refine jW.drop (ls' := [some (.ref (ad 0)), some (.int off), some (.int sum), some (.int 0), some (.int ((thM c o M off sum i) + 0)), some (.int (nI (i + 1))), none, none, none]) ⟨Or.inr rfl, Or.inr rfl, Or.inr rfl, Or.inr rfl, Or.inr rfl, Or.inr rfl, Or.inl rfl, Or.inr rfl, Or.inr rfl, trivial⟩ ?_
            refine jW.locals (ls' := [some (.ref (ad 0)), some (.int off), some (.int sum), some (.int 0), some (.int (thM c o M off sum (i + 1))), some (.int (nI (i + 1))), none, none, none]) (by rw [show thM c o M off sum (i + 1) = (thM c o M off sum i) + 0 from by show thS c o M off sum i (thM c o M off sum i) = _; rw [thS, if_pos h158]]) ?_
            exact ih (i + 1) (by omega) (by omega)
          · refine j_aload_n hX dX12_thresholds_161 rfl ?_
            refine j_getf hX (v := .ref (ad 8)) dX12_thresholds_162 fX12_thresholds_32 0 (wMg0 _ _ _ _ _) rfl ?_
            refine j_iload hX dX12_thresholds_165 rfl ?_
            refine j_iald hX (v := (M 8) i) dX12_thresholds_167 8 (wMg8 _ _ _ _ _) (nI_in (by omega) (by decide)) (rdc (by omega)) ?_
            refine j_goto hX (tgt := 172) dX12_thresholds_168 (by decide) ?_
            refine j_iadd hX dX12_thresholds_172 ?_
            refine j_istore hX (ls' := [some (.ref (ad 0)), some (.int off), some (.int sum), some (.int 0), some (.int ((thM c o M off sum i) + ((M 8) i))), some (.int (nI i)), some (.int (isF c M off sum i o)), none, none]) dX12_thresholds_173 (Nat.le_of_ble_eq_true rfl) rfl rfl ?_
            refine j_iload_n hX dX12_thresholds_175 rfl ?_
            refine j_if_eq_t hX (tgt := 188) dX12_thresholds_176 (by decide) (by decide) ?_
            refine j_iinc hX (v := nI (i + 1)) (ls' := [some (.ref (ad 0)), some (.int off), some (.int sum), some (.int 0), some (.int ((thM c o M off sum i) + ((M 8) i))), some (.int (nI (i + 1))), some (.int (isF c M off sum i o)), none, none]) dX12_thresholds_188 rfl (j_inc1 _) rfl rfl ?_
            refine j_goto hX (tgt := 6) dX12_thresholds_191 (by decide) ?_
            refine jW.drop (ls' := [some (.ref (ad 0)), some (.int off), some (.int sum), some (.int 0), some (.int ((thM c o M off sum i) + ((M 8) i))), some (.int (nI (i + 1))), none, none, none]) ⟨Or.inr rfl, Or.inr rfl, Or.inr rfl, Or.inr rfl, Or.inr rfl, Or.inr rfl, Or.inl rfl, Or.inr rfl, Or.inr rfl, trivial⟩ ?_
            refine jW.locals (ls' := [some (.ref (ad 0)), some (.int off), some (.int sum), some (.int 0), some (.int (thM c o M off sum (i + 1))), some (.int (nI (i + 1))), none, none, none]) (by rw [show thM c o M off sum (i + 1) = (thM c o M off sum i) + ((M 8) i) from by show thS c o M off sum i (thM c o M off sum i) = _; rw [thS, if_neg h158]]) ?_
            exact ih (i + 1) (by omega) (by omega)
        | succ za iha =>
          intro a h0a hia
          have hina : a < o := by omega
          refine j_iload hX dX12_thresholds_28 rfl ?_
          refine j_aload_n hX dX12_thresholds_30 rfl ?_
          refine j_getf hX (v := .int (V 2)) dX12_thresholds_31 fX12_thresholds_121 0 (wMg0 _ _ _ _ _) rfl ?_
          refine jW.top ho2 ?_
          refine j_icmp_ge_f hX (tgt := 154) dX12_thresholds_34 (by decide) (nI_ge hina (by omega)) ?_
          refine j_iload hX dX12_thresholds_37 rfl ?_
          refine j_if_eq hX (tgt := 154) dX12_thresholds_39 (by decide) (fun h39 => ?_) (fun h39 => ?_)
          · refine jW.drop (ls' := [some (.ref (ad 0)), some (.int off), some (.int sum), some (.int 0), some (.int (thM c o M off sum i)), some (.int (nI i)), some (.int (isF c M off sum i a)), none, none]) ⟨Or.inr rfl, Or.inr rfl, Or.inr rfl, Or.inr rfl, Or.inr rfl, Or.inr rfl, Or.inr rfl, Or.inl rfl, Or.inr rfl, trivial⟩ ?_
            refine jW.locals (ls' := [some (.ref (ad 0)), some (.int off), some (.int sum), some (.int 0), some (.int (thM c o M off sum i)), some (.int (nI i)), some (.int (isF c M off sum i o)), none, none]) (by rw [h39]; rw [show o = a + (o - a) by omega, is0 h39]) ?_
            refine j_iload hX dX12_thresholds_154 rfl ?_
            refine j_iload hX dX12_thresholds_156 rfl ?_
            refine j_if_eq hX (tgt := 171) dX12_thresholds_158 (by decide) (fun h158 => ?_) (fun h158 => ?_)
            · refine j_iconst hX (v := 0) (by decide) dX12_thresholds_171 ?_
              refine j_iadd hX dX12_thresholds_172 ?_
              refine j_istore hX (ls' := [some (.ref (ad 0)), some (.int off), some (.int sum), some (.int 0), some (.int ((thM c o M off sum i) + 0)), some (.int (nI i)), some (.int (isF c M off sum i o)), none, none]) dX12_thresholds_173 (Nat.le_of_ble_eq_true rfl) rfl rfl ?_
              refine j_iload_n hX dX12_thresholds_175 rfl ?_
              refine j_if_eq_t hX (tgt := 188) dX12_thresholds_176 (by decide) (by decide) ?_
              refine j_iinc hX (v := nI (i + 1)) (ls' := [some (.ref (ad 0)), some (.int off), some (.int sum), some (.int 0), some (.int ((thM c o M off sum i) + 0)), some (.int (nI (i + 1))), some (.int (isF c M off sum i o)), none, none]) dX12_thresholds_188 rfl (j_inc1 _) rfl rfl ?_
              refine j_goto hX (tgt := 6) dX12_thresholds_191 (by decide) ?_
              refine jW.drop (ls' := [some (.ref (ad 0)), some (.int off), some (.int sum), some (.int 0), some (.int ((thM c o M off sum i) + 0)), some (.int (nI (i + 1))), none, none, none]) ⟨Or.inr rfl, Or.inr rfl, Or.inr rfl, Or.inr rfl, Or.inr rfl, Or.inr rfl, Or.inl rfl, Or.inr rfl, Or.inr rfl, trivial⟩ ?_
              refine jW.locals (ls' := [some (.ref (ad 0)), some (.int off), some (.int sum), some (.int 0), some (.int (thM c o M off sum (i + 1))), some (.int (nI (i + 1))), none, none, none]) (by rw [show thM c o M off sum (i + 1) = (thM c o M off sum i) + 0 from by show thS c o M off sum i (thM c o M off sum i) = _; rw [thS, if_pos h158]]) ?_
              exact ih (i + 1) (by omega) (by omega)
            · refine j_aload_n hX dX12_thresholds_161 rfl ?_
              refine j_getf hX (v := .ref (ad 8)) dX12_thresholds_162 fX12_thresholds_32 0 (wMg0 _ _ _ _ _) rfl ?_
              refine j_iload hX dX12_thresholds_165 rfl ?_
              refine j_iald hX (v := (M 8) i) dX12_thresholds_167 8 (wMg8 _ _ _ _ _) (nI_in (by omega) (by decide)) (rdc (by omega)) ?_
              refine j_goto hX (tgt := 172) dX12_thresholds_168 (by decide) ?_
              refine j_iadd hX dX12_thresholds_172 ?_
              refine j_istore hX (ls' := [some (.ref (ad 0)), some (.int off), some (.int sum), some (.int 0), some (.int ((thM c o M off sum i) + ((M 8) i))), some (.int (nI i)), some (.int (isF c M off sum i o)), none, none]) dX12_thresholds_173 (Nat.le_of_ble_eq_true rfl) rfl rfl ?_
              refine j_iload_n hX dX12_thresholds_175 rfl ?_
              refine j_if_eq_t hX (tgt := 188) dX12_thresholds_176 (by decide) (by decide) ?_
              refine j_iinc hX (v := nI (i + 1)) (ls' := [some (.ref (ad 0)), some (.int off), some (.int sum), some (.int 0), some (.int ((thM c o M off sum i) + ((M 8) i))), some (.int (nI (i + 1))), some (.int (isF c M off sum i o)), none, none]) dX12_thresholds_188 rfl (j_inc1 _) rfl rfl ?_
              refine j_goto hX (tgt := 6) dX12_thresholds_191 (by decide) ?_
              refine jW.drop (ls' := [some (.ref (ad 0)), some (.int off), some (.int sum), some (.int 0), some (.int ((thM c o M off sum i) + ((M 8) i))), some (.int (nI (i + 1))), none, none, none]) ⟨Or.inr rfl, Or.inr rfl, Or.inr rfl, Or.inr rfl, Or.inr rfl, Or.inr rfl, Or.inl rfl, Or.inr rfl, Or.inr rfl, trivial⟩ ?_
              refine jW.locals (ls' := [some (.ref (ad 0)), some (.int off), some (.int sum), some (.int 0), some (.int (thM c o M off sum (i + 1))), some (.int (nI (i + 1))), none, none, none]) (by rw [show thM c o M off sum (i + 1) = (thM c o M off sum i) + ((M 8) i) from by show thS c o M off sum i (thM c o M off sum i) = _; rw [thS, if_neg h158]]) ?_
              exact ih (i + 1) (by omega) (by omega)
          · refine j_iload hX dX12_thresholds_42 rfl ?_
            refine j_iload hX dX12_thresholds_44 rfl ?_
            refine j_icmp_eq hX (tgt := 92) dX12_thresholds_46 (by decide) (fun h46 => ?_) (fun h46 => ?_)
            · refine j_iconst hX (v := 0) (by decide) dX12_thresholds_92 ?_
              refine j_istore hX (ls' := [some (.ref (ad 0)), some (.int off), some (.int sum), some (.int 0), some (.int (thM c o M off sum i)), some (.int (nI i)), some (.int (isF c M off sum i a)), some (.int (nI a)), some (.int 0)]) dX12_thresholds_93 (Nat.le_of_ble_eq_true rfl) rfl rfl ?_
              refine j_iload hX dX12_thresholds_95 rfl ?_
              refine j_if_eq_t hX (tgt := 141) dX12_thresholds_97 (by decide) (by decide) ?_
              refine j_iconst hX (v := 1) (by decide) dX12_thresholds_141 ?_
              refine j_goto hX (tgt := 146) dX12_thresholds_142 (by decide) ?_
              refine j_istore hX (ls' := [some (.ref (ad 0)), some (.int off), some (.int sum), some (.int 0), some (.int (thM c o M off sum i)), some (.int (nI i)), some (.int 1), some (.int (nI a)), some (.int 0)]) dX12_thresholds_146 (Nat.le_of_ble_eq_true rfl) rfl rfl ?_
              refine j_iinc hX (v := nI (a + 1)) (ls' := [some (.ref (ad 0)), some (.int off), some (.int sum), some (.int 0), some (.int (thM c o M off sum i)), some (.int (nI i)), some (.int 1), some (.int (nI (a + 1))), some (.int 0)]) dX12_thresholds_148 rfl (j_inc1 _) rfl rfl ?_
              refine j_goto hX (tgt := 28) dX12_thresholds_151 (by decide) ?_
              refine jW.drop (ls' := [some (.ref (ad 0)), some (.int off), some (.int sum), some (.int 0), some (.int (thM c o M off sum i)), some (.int (nI i)), some (.int 1), some (.int (nI (a + 1))), none]) ⟨Or.inr rfl, Or.inr rfl, Or.inr rfl, Or.inr rfl, Or.inr rfl, Or.inr rfl, Or.inr rfl, Or.inr rfl, Or.inl rfl, trivial⟩ ?_
              refine jW.locals (ls' := [some (.ref (ad 0)), some (.int off), some (.int sum), some (.int 0), some (.int (thM c o M off sum i)), some (.int (nI i)), some (.int (isF c M off sum i (a + 1))), some (.int (nI (a + 1))), none]) (by rw [show isF c M off sum i (a + 1) = 1 from by rw [isF_s]; rw [isS, if_neg h39, if_pos h46]]) ?_
              exact iha (a + 1) (by omega) (by omega)
            · refine j_aload_n hX dX12_thresholds_49 rfl ?_
              refine j_getf hX (v := .ref (ad 12)) dX12_thresholds_50 fX12_thresholds_44 0 (wMg0 _ _ _ _ _) rfl ?_
              refine j_iload hX dX12_thresholds_53 rfl ?_
              refine j_iald hX (v := (M 12) i) dX12_thresholds_55 12 (wMg12 _ _ _ _ _) (nI_in (by omega) (by decide)) (rdc (by omega)) ?_
              refine j_iconst hX (v := -1) (by decide) dX12_thresholds_56 ?_
              refine j_icmp_eq hX (tgt := 92) dX12_thresholds_57 (by decide) (fun h57 => ?_) (fun h57 => ?_)
              · refine j_iconst hX (v := 0) (by decide) dX12_thresholds_92 ?_
                refine j_istore hX (ls' := [some (.ref (ad 0)), some (.int off), some (.int sum), some (.int 0), some (.int (thM c o M off sum i)), some (.int (nI i)), some (.int (isF c M off sum i a)), some (.int (nI a)), some (.int 0)]) dX12_thresholds_93 (Nat.le_of_ble_eq_true rfl) rfl rfl ?_
                refine j_iload hX dX12_thresholds_95 rfl ?_
                refine j_if_eq_t hX (tgt := 141) dX12_thresholds_97 (by decide) (by decide) ?_
                refine j_iconst hX (v := 1) (by decide) dX12_thresholds_141 ?_
                refine j_goto hX (tgt := 146) dX12_thresholds_142 (by decide) ?_
                refine j_istore hX (ls' := [some (.ref (ad 0)), some (.int off), some (.int sum), some (.int 0), some (.int (thM c o M off sum i)), some (.int (nI i)), some (.int 1), some (.int (nI a)), some (.int 0)]) dX12_thresholds_146 (Nat.le_of_ble_eq_true rfl) rfl rfl ?_
                refine j_iinc hX (v := nI (a + 1)) (ls' := [some (.ref (ad 0)), some (.int off), some (.int sum), some (.int 0), some (.int (thM c o M off sum i)), some (.int (nI i)), some (.int 1), some (.int (nI (a + 1))), some (.int 0)]) dX12_thresholds_148 rfl (j_inc1 _) rfl rfl ?_
                refine j_goto hX (tgt := 28) dX12_thresholds_151 (by decide) ?_
                refine jW.drop (ls' := [some (.ref (ad 0)), some (.int off), some (.int sum), some (.int 0), some (.int (thM c o M off sum i)), some (.int (nI i)), some (.int 1), some (.int (nI (a + 1))), none]) ⟨Or.inr rfl, Or.inr rfl, Or.inr rfl, Or.inr rfl, Or.inr rfl, Or.inr rfl, Or.inr rfl, Or.inr rfl, Or.inl rfl, trivial⟩ ?_
                refine jW.locals (ls' := [some (.ref (ad 0)), some (.int off), some (.int sum), some (.int 0), some (.int (thM c o M off sum i)), some (.int (nI i)), some (.int (isF c M off sum i (a + 1))), some (.int (nI (a + 1))), none]) (by rw [show isF c M off sum i (a + 1) = 1 from by rw [isF_s]; rw [isS, if_neg h39, if_neg h46, if_pos h57]]) ?_
                exact iha (a + 1) (by omega) (by omega)
              · refine j_aload_n hX dX12_thresholds_60 rfl ?_
                refine j_getf hX (v := .ref (ad 12)) dX12_thresholds_61 fX12_thresholds_44 0 (wMg0 _ _ _ _ _) rfl ?_
                refine j_iload hX dX12_thresholds_64 rfl ?_
                refine j_iald hX (v := (M 12) a) dX12_thresholds_66 12 (wMg12 _ _ _ _ _) (nI_in (by omega) (by decide)) (rdc (by omega)) ?_
                refine j_aload_n hX dX12_thresholds_67 rfl ?_
                refine j_getf hX (v := .ref (ad 12)) dX12_thresholds_68 fX12_thresholds_44 0 (wMg0 _ _ _ _ _) rfl ?_
                refine j_iload hX dX12_thresholds_71 rfl ?_
                refine j_iald hX (v := (M 12) i) dX12_thresholds_73 12 (wMg12 _ _ _ _ _) (nI_in (by omega) (by decide)) (rdc (by omega)) ?_
                refine j_icmp_ne hX (tgt := 92) dX12_thresholds_74 (by decide) (fun h74 => ?_) (fun h74 => ?_)
                · refine j_iconst hX (v := 0) (by decide) dX12_thresholds_92 ?_
                  refine j_istore hX (ls' := [some (.ref (ad 0)), some (.int off), some (.int sum), some (.int 0), some (.int (thM c o M off sum i)), some (.int (nI i)), some (.int (isF c M off sum i a)), some (.int (nI a)), some (.int 0)]) dX12_thresholds_93 (Nat.le_of_ble_eq_true rfl) rfl rfl ?_
                  refine j_iload hX dX12_thresholds_95 rfl ?_
                  refine j_if_eq_t hX (tgt := 141) dX12_thresholds_97 (by decide) (by decide) ?_
                  refine j_iconst hX (v := 1) (by decide) dX12_thresholds_141 ?_
                  refine j_goto hX (tgt := 146) dX12_thresholds_142 (by decide) ?_
                  refine j_istore hX (ls' := [some (.ref (ad 0)), some (.int off), some (.int sum), some (.int 0), some (.int (thM c o M off sum i)), some (.int (nI i)), some (.int 1), some (.int (nI a)), some (.int 0)]) dX12_thresholds_146 (Nat.le_of_ble_eq_true rfl) rfl rfl ?_
                  refine j_iinc hX (v := nI (a + 1)) (ls' := [some (.ref (ad 0)), some (.int off), some (.int sum), some (.int 0), some (.int (thM c o M off sum i)), some (.int (nI i)), some (.int 1), some (.int (nI (a + 1))), some (.int 0)]) dX12_thresholds_148 rfl (j_inc1 _) rfl rfl ?_
                  refine j_goto hX (tgt := 28) dX12_thresholds_151 (by decide) ?_
                  refine jW.drop (ls' := [some (.ref (ad 0)), some (.int off), some (.int sum), some (.int 0), some (.int (thM c o M off sum i)), some (.int (nI i)), some (.int 1), some (.int (nI (a + 1))), none]) ⟨Or.inr rfl, Or.inr rfl, Or.inr rfl, Or.inr rfl, Or.inr rfl, Or.inr rfl, Or.inr rfl, Or.inr rfl, Or.inl rfl, trivial⟩ ?_
                  refine jW.locals (ls' := [some (.ref (ad 0)), some (.int off), some (.int sum), some (.int 0), some (.int (thM c o M off sum i)), some (.int (nI i)), some (.int (isF c M off sum i (a + 1))), some (.int (nI (a + 1))), none]) (by rw [show isF c M off sum i (a + 1) = 1 from by rw [isF_s]; rw [isS, if_neg h39, if_neg h46, if_neg h57, if_neg h74]]) ?_
                  exact iha (a + 1) (by omega) (by omega)
                · refine j_aload_n hX dX12_thresholds_77 rfl ?_
                  refine j_iload hX dX12_thresholds_78 rfl ?_
                  refine j_iload_n hX dX12_thresholds_80 rfl ?_
                  refine j_iload_n hX dX12_thresholds_81 rfl ?_
                  refine j_dV hX (nA := 3) (cq := (RX12, TX12, 37)) (As := [.int (nI a), .int off, .int sum]) (st := []) (st' := [.int (caM c M a off sum)]) (ci := 13) rfl dX12_thresholds_82 (c_X12_canThreshold G _ V M _ n o c hI0 a (by omega) _ _) gX12_thresholds_X12_canThreshold rfl (by decide +kernel) (q := 0) (wMg0 _ _ _ _ _) (by decide) (Nat.le_of_ble_eq_true rfl) rfl (Nat.le_of_ble_eq_true rfl) rfl ⟨Nat.le_refl _, Nat.le_refl _⟩ rfl ?_
                  refine j_if_eq hX (tgt := 92) dX12_thresholds_85 (by decide) (fun h85 => ?_) (fun h85 => ?_)
                  · refine j_iconst hX (v := 0) (by decide) dX12_thresholds_92 ?_
                    refine j_istore hX (ls' := [some (.ref (ad 0)), some (.int off), some (.int sum), some (.int 0), some (.int (thM c o M off sum i)), some (.int (nI i)), some (.int (isF c M off sum i a)), some (.int (nI a)), some (.int 0)]) dX12_thresholds_93 (Nat.le_of_ble_eq_true rfl) rfl rfl ?_
                    refine j_iload hX dX12_thresholds_95 rfl ?_
                    refine j_if_eq_t hX (tgt := 141) dX12_thresholds_97 (by decide) (by decide) ?_
                    refine j_iconst hX (v := 1) (by decide) dX12_thresholds_141 ?_
                    refine j_goto hX (tgt := 146) dX12_thresholds_142 (by decide) ?_
                    refine j_istore hX (ls' := [some (.ref (ad 0)), some (.int off), some (.int sum), some (.int 0), some (.int (thM c o M off sum i)), some (.int (nI i)), some (.int 1), some (.int (nI a)), some (.int 0)]) dX12_thresholds_146 (Nat.le_of_ble_eq_true rfl) rfl rfl ?_
                    refine j_iinc hX (v := nI (a + 1)) (ls' := [some (.ref (ad 0)), some (.int off), some (.int sum), some (.int 0), some (.int (thM c o M off sum i)), some (.int (nI i)), some (.int 1), some (.int (nI (a + 1))), some (.int 0)]) dX12_thresholds_148 rfl (j_inc1 _) rfl rfl ?_
                    refine j_goto hX (tgt := 28) dX12_thresholds_151 (by decide) ?_
                    refine jW.drop (ls' := [some (.ref (ad 0)), some (.int off), some (.int sum), some (.int 0), some (.int (thM c o M off sum i)), some (.int (nI i)), some (.int 1), some (.int (nI (a + 1))), none]) ⟨Or.inr rfl, Or.inr rfl, Or.inr rfl, Or.inr rfl, Or.inr rfl, Or.inr rfl, Or.inr rfl, Or.inr rfl, Or.inl rfl, trivial⟩ ?_
                    refine jW.locals (ls' := [some (.ref (ad 0)), some (.int off), some (.int sum), some (.int 0), some (.int (thM c o M off sum i)), some (.int (nI i)), some (.int (isF c M off sum i (a + 1))), some (.int (nI (a + 1))), none]) (by rw [show isF c M off sum i (a + 1) = 1 from by rw [isF_s]; rw [isS, if_neg h39, if_neg h46, if_neg h57, if_pos h74, if_pos h85]]) ?_
                    exact iha (a + 1) (by omega) (by omega)
                  · refine j_iconst hX (v := 1) (by decide) dX12_thresholds_88 ?_
                    refine j_goto hX (tgt := 93) dX12_thresholds_89 (by decide) ?_
                    refine j_istore hX (ls' := [some (.ref (ad 0)), some (.int off), some (.int sum), some (.int 0), some (.int (thM c o M off sum i)), some (.int (nI i)), some (.int (isF c M off sum i a)), some (.int (nI a)), some (.int 1)]) dX12_thresholds_93 (Nat.le_of_ble_eq_true rfl) rfl rfl ?_
                    refine j_iload hX dX12_thresholds_95 rfl ?_
                    refine j_if_eq_f hX (tgt := 141) dX12_thresholds_97 (by decide) (by decide) ?_
                    refine j_aload_n hX dX12_thresholds_100 rfl ?_
                    refine j_getf hX (v := .ref (ad 8)) dX12_thresholds_101 fX12_thresholds_32 0 (wMg0 _ _ _ _ _) rfl ?_
                    refine j_iload hX dX12_thresholds_104 rfl ?_
                    refine j_iald hX (v := (M 8) i) dX12_thresholds_106 8 (wMg8 _ _ _ _ _) (nI_in (by omega) (by decide)) (rdc (by omega)) ?_
                    refine j_aload_n hX dX12_thresholds_107 rfl ?_
                    refine j_getf hX (v := .ref (ad 8)) dX12_thresholds_108 fX12_thresholds_32 0 (wMg0 _ _ _ _ _) rfl ?_
                    refine j_iload hX dX12_thresholds_111 rfl ?_
                    refine j_iald hX (v := (M 8) a) dX12_thresholds_113 8 (wMg8 _ _ _ _ _) (nI_in (by omega) (by decide)) (rdc (by omega)) ?_
                    refine j_icmp_gt hX (tgt := 141) dX12_thresholds_114 (by decide) (fun h114 => ?_) (fun h114 => ?_)
                    · refine j_iconst hX (v := 1) (by decide) dX12_thresholds_141 ?_
                      refine j_goto hX (tgt := 146) dX12_thresholds_142 (by decide) ?_
                      refine j_istore hX (ls' := [some (.ref (ad 0)), some (.int off), some (.int sum), some (.int 0), some (.int (thM c o M off sum i)), some (.int (nI i)), some (.int 1), some (.int (nI a)), some (.int 1)]) dX12_thresholds_146 (Nat.le_of_ble_eq_true rfl) rfl rfl ?_
                      refine j_iinc hX (v := nI (a + 1)) (ls' := [some (.ref (ad 0)), some (.int off), some (.int sum), some (.int 0), some (.int (thM c o M off sum i)), some (.int (nI i)), some (.int 1), some (.int (nI (a + 1))), some (.int 1)]) dX12_thresholds_148 rfl (j_inc1 _) rfl rfl ?_
                      refine j_goto hX (tgt := 28) dX12_thresholds_151 (by decide) ?_
                      refine jW.drop (ls' := [some (.ref (ad 0)), some (.int off), some (.int sum), some (.int 0), some (.int (thM c o M off sum i)), some (.int (nI i)), some (.int 1), some (.int (nI (a + 1))), none]) ⟨Or.inr rfl, Or.inr rfl, Or.inr rfl, Or.inr rfl, Or.inr rfl, Or.inr rfl, Or.inr rfl, Or.inr rfl, Or.inl rfl, trivial⟩ ?_
                      refine jW.locals (ls' := [some (.ref (ad 0)), some (.int off), some (.int sum), some (.int 0), some (.int (thM c o M off sum i)), some (.int (nI i)), some (.int (isF c M off sum i (a + 1))), some (.int (nI (a + 1))), none]) (by rw [show isF c M off sum i (a + 1) = 1 from by rw [isF_s]; rw [isS, if_neg h39, if_neg h46, if_neg h57, if_pos h74, if_neg h85, if_pos h114]]) ?_
                      exact iha (a + 1) (by omega) (by omega)
                    · refine j_aload_n hX dX12_thresholds_117 rfl ?_
                      refine j_getf hX (v := .ref (ad 8)) dX12_thresholds_118 fX12_thresholds_32 0 (wMg0 _ _ _ _ _) rfl ?_
                      refine j_iload hX dX12_thresholds_121 rfl ?_
                      refine j_iald hX (v := (M 8) i) dX12_thresholds_123 8 (wMg8 _ _ _ _ _) (nI_in (by omega) (by decide)) (rdc (by omega)) ?_
                      refine j_aload_n hX dX12_thresholds_124 rfl ?_
                      refine j_getf hX (v := .ref (ad 8)) dX12_thresholds_125 fX12_thresholds_32 0 (wMg0 _ _ _ _ _) rfl ?_
                      refine j_iload hX dX12_thresholds_128 rfl ?_
                      refine j_iald hX (v := (M 8) a) dX12_thresholds_130 8 (wMg8 _ _ _ _ _) (nI_in (by omega) (by decide)) (rdc (by omega)) ?_
                      refine j_icmp_ne hX (tgt := 145) dX12_thresholds_131 (by decide) (fun h131 => ?_) (fun h131 => ?_)
                      · refine j_iconst hX (v := 0) (by decide) dX12_thresholds_145 ?_
                        refine j_istore hX (ls' := [some (.ref (ad 0)), some (.int off), some (.int sum), some (.int 0), some (.int (thM c o M off sum i)), some (.int (nI i)), some (.int 0), some (.int (nI a)), some (.int 1)]) dX12_thresholds_146 (Nat.le_of_ble_eq_true rfl) rfl rfl ?_
                        refine j_iinc hX (v := nI (a + 1)) (ls' := [some (.ref (ad 0)), some (.int off), some (.int sum), some (.int 0), some (.int (thM c o M off sum i)), some (.int (nI i)), some (.int 0), some (.int (nI (a + 1))), some (.int 1)]) dX12_thresholds_148 rfl (j_inc1 _) rfl rfl ?_
                        refine j_goto hX (tgt := 28) dX12_thresholds_151 (by decide) ?_
                        refine jW.drop (ls' := [some (.ref (ad 0)), some (.int off), some (.int sum), some (.int 0), some (.int (thM c o M off sum i)), some (.int (nI i)), some (.int 0), some (.int (nI (a + 1))), none]) ⟨Or.inr rfl, Or.inr rfl, Or.inr rfl, Or.inr rfl, Or.inr rfl, Or.inr rfl, Or.inr rfl, Or.inr rfl, Or.inl rfl, trivial⟩ ?_
                        refine jW.locals (ls' := [some (.ref (ad 0)), some (.int off), some (.int sum), some (.int 0), some (.int (thM c o M off sum i)), some (.int (nI i)), some (.int (isF c M off sum i (a + 1))), some (.int (nI (a + 1))), none]) (by rw [show isF c M off sum i (a + 1) = 0 from by rw [isF_s]; rw [isS, if_neg h39, if_neg h46, if_neg h57, if_pos h74, if_neg h85, if_neg h114, if_neg h131]]) ?_
                        exact iha (a + 1) (by omega) (by omega)
                      · refine j_iload hX dX12_thresholds_134 rfl ?_
                        refine j_iload hX dX12_thresholds_136 rfl ?_
                        refine j_icmp_ge hX (tgt := 145) dX12_thresholds_138 (by decide) (fun h138 => ?_) (fun h138 => ?_)
                        · refine j_iconst hX (v := 0) (by decide) dX12_thresholds_145 ?_
                          refine j_istore hX (ls' := [some (.ref (ad 0)), some (.int off), some (.int sum), some (.int 0), some (.int (thM c o M off sum i)), some (.int (nI i)), some (.int 0), some (.int (nI a)), some (.int 1)]) dX12_thresholds_146 (Nat.le_of_ble_eq_true rfl) rfl rfl ?_
                          refine j_iinc hX (v := nI (a + 1)) (ls' := [some (.ref (ad 0)), some (.int off), some (.int sum), some (.int 0), some (.int (thM c o M off sum i)), some (.int (nI i)), some (.int 0), some (.int (nI (a + 1))), some (.int 1)]) dX12_thresholds_148 rfl (j_inc1 _) rfl rfl ?_
                          refine j_goto hX (tgt := 28) dX12_thresholds_151 (by decide) ?_
                          refine jW.drop (ls' := [some (.ref (ad 0)), some (.int off), some (.int sum), some (.int 0), some (.int (thM c o M off sum i)), some (.int (nI i)), some (.int 0), some (.int (nI (a + 1))), none]) ⟨Or.inr rfl, Or.inr rfl, Or.inr rfl, Or.inr rfl, Or.inr rfl, Or.inr rfl, Or.inr rfl, Or.inr rfl, Or.inl rfl, trivial⟩ ?_
                          refine jW.locals (ls' := [some (.ref (ad 0)), some (.int off), some (.int sum), some (.int 0), some (.int (thM c o M off sum i)), some (.int (nI i)), some (.int (isF c M off sum i (a + 1))), some (.int (nI (a + 1))), none]) (by rw [show isF c M off sum i (a + 1) = 0 from by rw [isF_s]; rw [isS, if_neg h39, if_neg h46, if_neg h57, if_pos h74, if_neg h85, if_neg h114, if_pos h131, if_pos h138]]) ?_
                          exact iha (a + 1) (by omega) (by omega)
                        · refine j_iconst hX (v := 1) (by decide) dX12_thresholds_141 ?_
                          refine j_goto hX (tgt := 146) dX12_thresholds_142 (by decide) ?_
                          refine j_istore hX (ls' := [some (.ref (ad 0)), some (.int off), some (.int sum), some (.int 0), some (.int (thM c o M off sum i)), some (.int (nI i)), some (.int 1), some (.int (nI a)), some (.int 1)]) dX12_thresholds_146 (Nat.le_of_ble_eq_true rfl) rfl rfl ?_
                          refine j_iinc hX (v := nI (a + 1)) (ls' := [some (.ref (ad 0)), some (.int off), some (.int sum), some (.int 0), some (.int (thM c o M off sum i)), some (.int (nI i)), some (.int 1), some (.int (nI (a + 1))), some (.int 1)]) dX12_thresholds_148 rfl (j_inc1 _) rfl rfl ?_
                          refine j_goto hX (tgt := 28) dX12_thresholds_151 (by decide) ?_
                          refine jW.drop (ls' := [some (.ref (ad 0)), some (.int off), some (.int sum), some (.int 0), some (.int (thM c o M off sum i)), some (.int (nI i)), some (.int 1), some (.int (nI (a + 1))), none]) ⟨Or.inr rfl, Or.inr rfl, Or.inr rfl, Or.inr rfl, Or.inr rfl, Or.inr rfl, Or.inr rfl, Or.inr rfl, Or.inl rfl, trivial⟩ ?_
                          refine jW.locals (ls' := [some (.ref (ad 0)), some (.int off), some (.int sum), some (.int 0), some (.int (thM c o M off sum i)), some (.int (nI i)), some (.int (isF c M off sum i (a + 1))), some (.int (nI (a + 1))), none]) (by rw [show isF c M off sum i (a + 1) = 1 from by rw [isF_s]; rw [isS, if_neg h39, if_neg h46, if_neg h57, if_pos h74, if_neg h85, if_neg h114, if_pos h131, if_neg h138]]) ?_
                          exact iha (a + 1) (by omega) (by omega)
      exact L28 o 0 (Nat.le_refl _) (by omega)
  exact L6 o 0 (Nat.le_refl _) (by omega)

set_option maxHeartbeats 4000000 in
set_option maxRecDepth 100000 in
theorem c_X12_thresholds1 (G : jG) (ad : Nat → Nat) (V : Nat → Int32) (M : Nat → Nat → Int32) (t : Int64) (n o c : Nat) (hI : mI n o c V M) (off sum : Int32) : jD G 2 yX12_thresholds wsX12_thresholds [.ref (ad 0), .int off, .int sum, .int 1] (wM G ad V M t) (some (.int (thM c o M off sum o))) (wM G ad V (sM M 25 (isA c o M off sum (M 25) o)) t) := by
  refine jC.of (maxL := 9) (cc := cX12_thresholds) (ret := (some .int)) rfl (by decide) [some (.ref (ad 0)), some (.int off), some (.int sum), some (.int 1), none, none, none, none, none] rfl (Nat.le_of_ble_eq_true rfl) (j_args rfl) (fun X hX => ?_)
  have hI0 := hI
  obtain ⟨hn5, hn, ho2, ho, hc1, hc, hB, hG4⟩ := hI
  refine j_iconst hX (v := 0) (by decide) dX12_thresholds_0 ?_
  refine j_istore hX (ls' := [some (.ref (ad 0)), some (.int off), some (.int sum), some (.int 1), some (.int 0), none, none, none, none]) dX12_thresholds_1 (Nat.le_of_ble_eq_true rfl) rfl rfl ?_
  refine j_iconst hX (v := 0) (by decide) dX12_thresholds_3 ?_
  refine j_istore hX (ls' := [some (.ref (ad 0)), some (.int off), some (.int sum), some (.int 1), some (.int 0), some (.int 0), none, none, none]) dX12_thresholds_4 (Nat.le_of_ble_eq_true rfl) rfl rfl ?_
  have L6 : ∀ zi i : Nat, 0 ≤ i → i + zi = o → jW G X 0 0 6 [some (.ref (ad 0)), some (.int off), some (.int sum), some (.int 1), some (.int (thM c o M off sum i)), some (.int (nI i)), none, none, none] [] (wM G ad V (sM M 25 (isA c o M off sum (M 25) i)) t) := by
    intro zi
    induction zi with
    | zero =>
      intro i h0 hi
      have hin : i = o := by omega
      refine j_iload hX dX12_thresholds_6 rfl ?_
      refine j_aload_n hX dX12_thresholds_8 rfl ?_
      refine j_getf hX (v := .int (V 2)) dX12_thresholds_9 fX12_thresholds_121 0 (wMg0 _ _ _ _ _) rfl ?_
      refine jW.top ho2 ?_
      refine j_icmp_ge_t hX (tgt := 194) dX12_thresholds_12 (by decide) (by rw [hin]; exact nI_le (Nat.le_refl _) (by omega)) ?_
      refine j_iload hX dX12_thresholds_194 rfl ?_
      exact j_iret hX dX12_thresholds_196 ⟨by rw [hin], by rw [hin]⟩
    | succ zi ih =>
      intro i h0 hi
      have hin : i < o := by omega
      refine j_iload hX dX12_thresholds_6 rfl ?_
      refine j_aload_n hX dX12_thresholds_8 rfl ?_
      refine j_getf hX (v := .int (V 2)) dX12_thresholds_9 fX12_thresholds_121 0 (wMg0 _ _ _ _ _) rfl ?_
      refine jW.top ho2 ?_
      refine j_icmp_ge_f hX (tgt := 194) dX12_thresholds_12 (by decide) (nI_ge hin (by omega)) ?_
      refine j_aload_n hX dX12_thresholds_15 rfl ?_
      refine j_iload hX dX12_thresholds_16 rfl ?_
      refine j_iload_n hX dX12_thresholds_18 rfl ?_
      refine j_iload_n hX dX12_thresholds_19 rfl ?_
      refine j_dV hX (nA := 3) (cq := (RX12, TX12, 37)) (As := [.int (nI i), .int off, .int sum]) (st := []) (st' := [.int (caM c M i off sum)]) (ci := 13) rfl dX12_thresholds_20 (c_X12_canThreshold G _ V (sM M 25 (isA c o M off sum (M 25) i)) _ n o c hI0 i (by omega) _ _) gX12_thresholds_X12_canThreshold rfl (by decide +kernel) (q := 0) (wMg0 _ _ _ _ _) (by decide) (Nat.le_of_ble_eq_true rfl) rfl (Nat.le_of_ble_eq_true rfl) rfl ⟨Nat.le_refl _, Nat.le_refl _⟩ rfl ?_
      refine j_istore hX (ls' := [some (.ref (ad 0)), some (.int off), some (.int sum), some (.int 1), some (.int (thM c o M off sum i)), some (.int (nI i)), some (.int (caM c M i off sum)), none, none]) dX12_thresholds_23 (Nat.le_of_ble_eq_true rfl) rfl rfl ?_
      refine j_iconst hX (v := 0) (by decide) dX12_thresholds_25 ?_
      refine j_istore hX (ls' := [some (.ref (ad 0)), some (.int off), some (.int sum), some (.int 1), some (.int (thM c o M off sum i)), some (.int (nI i)), some (.int (caM c M i off sum)), some (.int 0), none]) dX12_thresholds_26 (Nat.le_of_ble_eq_true rfl) rfl rfl ?_
      have L28 : ∀ za a : Nat, 0 ≤ a → a + za = o → jW G X 0 0 28 [some (.ref (ad 0)), some (.int off), some (.int sum), some (.int 1), some (.int (thM c o M off sum i)), some (.int (nI i)), some (.int (isF c M off sum i a)), some (.int (nI a)), none] [] (wM G ad V (sM M 25 (isA c o M off sum (M 25) i)) t) := by
        intro za
        induction za with
        | zero =>
          intro a h0a hia
          have hina : a = o := by omega
          refine j_iload hX dX12_thresholds_28 rfl ?_
          refine j_aload_n hX dX12_thresholds_30 rfl ?_
          refine j_getf hX (v := .int (V 2)) dX12_thresholds_31 fX12_thresholds_121 0 (wMg0 _ _ _ _ _) rfl ?_
          refine jW.top ho2 ?_
          refine j_icmp_ge_t hX (tgt := 154) dX12_thresholds_34 (by decide) (by rw [hina]; exact nI_le (Nat.le_refl _) (by omega)) ?_
          refine jW.drop (ls' := [some (.ref (ad 0)), some (.int off), some (.int sum), some (.int 1), some (.int (thM c o M off sum i)), some (.int (nI i)), some (.int (isF c M off sum i a)), none, none]) ⟨Or.inr rfl, Or.inr rfl, Or.inr rfl, Or.inr rfl, Or.inr rfl, Or.inr rfl, Or.inr rfl, Or.inl rfl, Or.inr rfl, trivial⟩ ?_
          refine jW.locals (ls' := [some (.ref (ad 0)), some (.int off), some (.int sum), some (.int 1), some (.int (thM c o M off sum i)), some (.int (nI i)), some (.int (isF c M off sum i o)), none, none]) (by rw [hina]) ?_
          refine j_iload hX dX12_thresholds_154 rfl ?_
          refine j_iload hX dX12_thresholds_156 rfl ?_
          refine j_if_eq hX (tgt := 171) dX12_thresholds_158 (by decide) (fun h158 => ?_) (fun h158 => ?_)
          · refine j_iconst hX (v := 0) (by decide) dX12_thresholds_171 ?_
            refine j_iadd hX dX12_thresholds_172 ?_
            refine j_istore hX (ls' := [some (.ref (ad 0)), some (.int off), some (.int sum), some (.int 1), some (.int ((thM c o M off sum i) + 0)), some (.int (nI i)), some (.int (isF c M off sum i o)), none, none]) dX12_thresholds_173 (Nat.le_of_ble_eq_true rfl) rfl rfl ?_
            refine j_iload_n hX dX12_thresholds_175 rfl ?_
            refine j_if_eq_f hX (tgt := 188) dX12_thresholds_176 (by decide) (by decide) ?_
            refine j_aload_n hX dX12_thresholds_179 rfl ?_
            refine j_getf hX (v := .ref (ad 25)) dX12_thresholds_180 fX12_thresholds_85 0 (wMg0 _ _ _ _ _) rfl ?_
            refine j_iload hX dX12_thresholds_183 rfl ?_
            refine j_iload hX dX12_thresholds_185 rfl ?_
            refine j_zast hX (ws' := (wM G ad V (sM M 25 (upd (isA c o M off sum (M 25) i) i (vp_nar .boolean (isF c M off sum i o)))) t)) dX12_thresholds_187 25 (wMg25 _ _ _ _ _) (nI_in (by omega) (by decide)) (by rw [nI_clamp (by omega)]; exact (wMo25 _ _ _ _ _ _ _)) ?_
            refine j_iinc hX (v := nI (i + 1)) (ls' := [some (.ref (ad 0)), some (.int off), some (.int sum), some (.int 1), some (.int ((thM c o M off sum i) + 0)), some (.int (nI (i + 1))), some (.int (isF c M off sum i o)), none, none]) dX12_thresholds_188 rfl (j_inc1 _) rfl rfl ?_
            refine j_goto hX (tgt := 6) dX12_thresholds_191 (by decide) ?_
            refine jW.drop (ls' := [some (.ref (ad 0)), some (.int off), some (.int sum), some (.int 1), some (.int ((thM c o M off sum i) + 0)), some (.int (nI (i + 1))), none, none, none]) ⟨Or.inr rfl, Or.inr rfl, Or.inr rfl, Or.inr rfl, Or.inr rfl, Or.inr rfl, Or.inl rfl, Or.inr rfl, Or.inr rfl, trivial⟩ ?_
            refine jW.locals (ls' := [some (.ref (ad 0)), some (.int off), some (.int sum), some (.int 1), some (.int (thM c o M off sum (i + 1))), some (.int (nI (i + 1))), none, none, none]) (by rw [show thM c o M off sum (i + 1) = (thM c o M off sum i) + 0 from by show thS c o M off sum i (thM c o M off sum i) = _; rw [thS, if_pos h158]]) ?_
            exact ih (i + 1) (by omega) (by omega)
          · refine j_aload_n hX dX12_thresholds_161 rfl ?_
            refine j_getf hX (v := .ref (ad 8)) dX12_thresholds_162 fX12_thresholds_32 0 (wMg0 _ _ _ _ _) rfl ?_
            refine j_iload hX dX12_thresholds_165 rfl ?_
            refine j_iald hX (v := (M 8) i) dX12_thresholds_167 8 (wMg8 _ _ _ _ _) (nI_in (by omega) (by decide)) (rdc (by omega)) ?_
            refine j_goto hX (tgt := 172) dX12_thresholds_168 (by decide) ?_
            refine j_iadd hX dX12_thresholds_172 ?_
            refine j_istore hX (ls' := [some (.ref (ad 0)), some (.int off), some (.int sum), some (.int 1), some (.int ((thM c o M off sum i) + ((M 8) i))), some (.int (nI i)), some (.int (isF c M off sum i o)), none, none]) dX12_thresholds_173 (Nat.le_of_ble_eq_true rfl) rfl rfl ?_
            refine j_iload_n hX dX12_thresholds_175 rfl ?_
            refine j_if_eq_f hX (tgt := 188) dX12_thresholds_176 (by decide) (by decide) ?_
            refine j_aload_n hX dX12_thresholds_179 rfl ?_
            refine j_getf hX (v := .ref (ad 25)) dX12_thresholds_180 fX12_thresholds_85 0 (wMg0 _ _ _ _ _) rfl ?_
            refine j_iload hX dX12_thresholds_183 rfl ?_
            refine j_iload hX dX12_thresholds_185 rfl ?_
            refine j_zast hX (ws' := (wM G ad V (sM M 25 (upd (isA c o M off sum (M 25) i) i (vp_nar .boolean (isF c M off sum i o)))) t)) dX12_thresholds_187 25 (wMg25 _ _ _ _ _) (nI_in (by omega) (by decide)) (by rw [nI_clamp (by omega)]; exact (wMo25 _ _ _ _ _ _ _)) ?_
            refine j_iinc hX (v := nI (i + 1)) (ls' := [some (.ref (ad 0)), some (.int off), some (.int sum), some (.int 1), some (.int ((thM c o M off sum i) + ((M 8) i))), some (.int (nI (i + 1))), some (.int (isF c M off sum i o)), none, none]) dX12_thresholds_188 rfl (j_inc1 _) rfl rfl ?_
            refine j_goto hX (tgt := 6) dX12_thresholds_191 (by decide) ?_
            refine jW.drop (ls' := [some (.ref (ad 0)), some (.int off), some (.int sum), some (.int 1), some (.int ((thM c o M off sum i) + ((M 8) i))), some (.int (nI (i + 1))), none, none, none]) ⟨Or.inr rfl, Or.inr rfl, Or.inr rfl, Or.inr rfl, Or.inr rfl, Or.inr rfl, Or.inl rfl, Or.inr rfl, Or.inr rfl, trivial⟩ ?_
            refine jW.locals (ls' := [some (.ref (ad 0)), some (.int off), some (.int sum), some (.int 1), some (.int (thM c o M off sum (i + 1))), some (.int (nI (i + 1))), none, none, none]) (by rw [show thM c o M off sum (i + 1) = (thM c o M off sum i) + ((M 8) i) from by show thS c o M off sum i (thM c o M off sum i) = _; rw [thS, if_neg h158]]) ?_
            exact ih (i + 1) (by omega) (by omega)
        | succ za iha =>
          intro a h0a hia
          have hina : a < o := by omega
          refine j_iload hX dX12_thresholds_28 rfl ?_
          refine j_aload_n hX dX12_thresholds_30 rfl ?_
          refine j_getf hX (v := .int (V 2)) dX12_thresholds_31 fX12_thresholds_121 0 (wMg0 _ _ _ _ _) rfl ?_
          refine jW.top ho2 ?_
          refine j_icmp_ge_f hX (tgt := 154) dX12_thresholds_34 (by decide) (nI_ge hina (by omega)) ?_
          refine j_iload hX dX12_thresholds_37 rfl ?_
          refine j_if_eq hX (tgt := 154) dX12_thresholds_39 (by decide) (fun h39 => ?_) (fun h39 => ?_)
          · refine jW.drop (ls' := [some (.ref (ad 0)), some (.int off), some (.int sum), some (.int 1), some (.int (thM c o M off sum i)), some (.int (nI i)), some (.int (isF c M off sum i a)), none, none]) ⟨Or.inr rfl, Or.inr rfl, Or.inr rfl, Or.inr rfl, Or.inr rfl, Or.inr rfl, Or.inr rfl, Or.inl rfl, Or.inr rfl, trivial⟩ ?_
            refine jW.locals (ls' := [some (.ref (ad 0)), some (.int off), some (.int sum), some (.int 1), some (.int (thM c o M off sum i)), some (.int (nI i)), some (.int (isF c M off sum i o)), none, none]) (by rw [h39]; rw [show o = a + (o - a) by omega, is0 h39]) ?_
            refine j_iload hX dX12_thresholds_154 rfl ?_
            refine j_iload hX dX12_thresholds_156 rfl ?_
            refine j_if_eq hX (tgt := 171) dX12_thresholds_158 (by decide) (fun h158 => ?_) (fun h158 => ?_)
            · refine j_iconst hX (v := 0) (by decide) dX12_thresholds_171 ?_
              refine j_iadd hX dX12_thresholds_172 ?_
              refine j_istore hX (ls' := [some (.ref (ad 0)), some (.int off), some (.int sum), some (.int 1), some (.int ((thM c o M off sum i) + 0)), some (.int (nI i)), some (.int (isF c M off sum i o)), none, none]) dX12_thresholds_173 (Nat.le_of_ble_eq_true rfl) rfl rfl ?_
              refine j_iload_n hX dX12_thresholds_175 rfl ?_
              refine j_if_eq_f hX (tgt := 188) dX12_thresholds_176 (by decide) (by decide) ?_
              refine j_aload_n hX dX12_thresholds_179 rfl ?_
              refine j_getf hX (v := .ref (ad 25)) dX12_thresholds_180 fX12_thresholds_85 0 (wMg0 _ _ _ _ _) rfl ?_
              refine j_iload hX dX12_thresholds_183 rfl ?_
              refine j_iload hX dX12_thresholds_185 rfl ?_
              refine j_zast hX (ws' := (wM G ad V (sM M 25 (upd (isA c o M off sum (M 25) i) i (vp_nar .boolean (isF c M off sum i o)))) t)) dX12_thresholds_187 25 (wMg25 _ _ _ _ _) (nI_in (by omega) (by decide)) (by rw [nI_clamp (by omega)]; exact (wMo25 _ _ _ _ _ _ _)) ?_
              refine j_iinc hX (v := nI (i + 1)) (ls' := [some (.ref (ad 0)), some (.int off), some (.int sum), some (.int 1), some (.int ((thM c o M off sum i) + 0)), some (.int (nI (i + 1))), some (.int (isF c M off sum i o)), none, none]) dX12_thresholds_188 rfl (j_inc1 _) rfl rfl ?_
              refine j_goto hX (tgt := 6) dX12_thresholds_191 (by decide) ?_
              refine jW.drop (ls' := [some (.ref (ad 0)), some (.int off), some (.int sum), some (.int 1), some (.int ((thM c o M off sum i) + 0)), some (.int (nI (i + 1))), none, none, none]) ⟨Or.inr rfl, Or.inr rfl, Or.inr rfl, Or.inr rfl, Or.inr rfl, Or.inr rfl, Or.inl rfl, Or.inr rfl, Or.inr rfl, trivial⟩ ?_
              refine jW.locals (ls' := [some (.ref (ad 0)), some (.int off), some (.int sum), some (.int 1), some (.int (thM c o M off sum (i + 1))), some (.int (nI (i + 1))), none, none, none]) (by rw [show thM c o M off sum (i + 1) = (thM c o M off sum i) + 0 from by show thS c o M off sum i (thM c o M off sum i) = _; rw [thS, if_pos h158]]) ?_
              exact ih (i + 1) (by omega) (by omega)
            · refine j_aload_n hX dX12_thresholds_161 rfl ?_
              refine j_getf hX (v := .ref (ad 8)) dX12_thresholds_162 fX12_thresholds_32 0 (wMg0 _ _ _ _ _) rfl ?_
              refine j_iload hX dX12_thresholds_165 rfl ?_
              refine j_iald hX (v := (M 8) i) dX12_thresholds_167 8 (wMg8 _ _ _ _ _) (nI_in (by omega) (by decide)) (rdc (by omega)) ?_
              refine j_goto hX (tgt := 172) dX12_thresholds_168 (by decide) ?_
              refine j_iadd hX dX12_thresholds_172 ?_
              refine j_istore hX (ls' := [some (.ref (ad 0)), some (.int off), some (.int sum), some (.int 1), some (.int ((thM c o M off sum i) + ((M 8) i))), some (.int (nI i)), some (.int (isF c M off sum i o)), none, none]) dX12_thresholds_173 (Nat.le_of_ble_eq_true rfl) rfl rfl ?_
              refine j_iload_n hX dX12_thresholds_175 rfl ?_
              refine j_if_eq_f hX (tgt := 188) dX12_thresholds_176 (by decide) (by decide) ?_
              refine j_aload_n hX dX12_thresholds_179 rfl ?_
              refine j_getf hX (v := .ref (ad 25)) dX12_thresholds_180 fX12_thresholds_85 0 (wMg0 _ _ _ _ _) rfl ?_
              refine j_iload hX dX12_thresholds_183 rfl ?_
              refine j_iload hX dX12_thresholds_185 rfl ?_
              refine j_zast hX (ws' := (wM G ad V (sM M 25 (upd (isA c o M off sum (M 25) i) i (vp_nar .boolean (isF c M off sum i o)))) t)) dX12_thresholds_187 25 (wMg25 _ _ _ _ _) (nI_in (by omega) (by decide)) (by rw [nI_clamp (by omega)]; exact (wMo25 _ _ _ _ _ _ _)) ?_
              refine j_iinc hX (v := nI (i + 1)) (ls' := [some (.ref (ad 0)), some (.int off), some (.int sum), some (.int 1), some (.int ((thM c o M off sum i) + ((M 8) i))), some (.int (nI (i + 1))), some (.int (isF c M off sum i o)), none, none]) dX12_thresholds_188 rfl (j_inc1 _) rfl rfl ?_
              refine j_goto hX (tgt := 6) dX12_thresholds_191 (by decide) ?_
              refine jW.drop (ls' := [some (.ref (ad 0)), some (.int off), some (.int sum), some (.int 1), some (.int ((thM c o M off sum i) + ((M 8) i))), some (.int (nI (i + 1))), none, none, none]) ⟨Or.inr rfl, Or.inr rfl, Or.inr rfl, Or.inr rfl, Or.inr rfl, Or.inr rfl, Or.inl rfl, Or.inr rfl, Or.inr rfl, trivial⟩ ?_
              refine jW.locals (ls' := [some (.ref (ad 0)), some (.int off), some (.int sum), some (.int 1), some (.int (thM c o M off sum (i + 1))), some (.int (nI (i + 1))), none, none, none]) (by rw [show thM c o M off sum (i + 1) = (thM c o M off sum i) + ((M 8) i) from by show thS c o M off sum i (thM c o M off sum i) = _; rw [thS, if_neg h158]]) ?_
              exact ih (i + 1) (by omega) (by omega)
          · refine j_iload hX dX12_thresholds_42 rfl ?_
            refine j_iload hX dX12_thresholds_44 rfl ?_
            refine j_icmp_eq hX (tgt := 92) dX12_thresholds_46 (by decide) (fun h46 => ?_) (fun h46 => ?_)
            · refine j_iconst hX (v := 0) (by decide) dX12_thresholds_92 ?_
              refine j_istore hX (ls' := [some (.ref (ad 0)), some (.int off), some (.int sum), some (.int 1), some (.int (thM c o M off sum i)), some (.int (nI i)), some (.int (isF c M off sum i a)), some (.int (nI a)), some (.int 0)]) dX12_thresholds_93 (Nat.le_of_ble_eq_true rfl) rfl rfl ?_
              refine j_iload hX dX12_thresholds_95 rfl ?_
              refine j_if_eq_t hX (tgt := 141) dX12_thresholds_97 (by decide) (by decide) ?_
              refine j_iconst hX (v := 1) (by decide) dX12_thresholds_141 ?_
              refine j_goto hX (tgt := 146) dX12_thresholds_142 (by decide) ?_
              refine j_istore hX (ls' := [some (.ref (ad 0)), some (.int off), some (.int sum), some (.int 1), some (.int (thM c o M off sum i)), some (.int (nI i)), some (.int 1), some (.int (nI a)), some (.int 0)]) dX12_thresholds_146 (Nat.le_of_ble_eq_true rfl) rfl rfl ?_
              refine j_iinc hX (v := nI (a + 1)) (ls' := [some (.ref (ad 0)), some (.int off), some (.int sum), some (.int 1), some (.int (thM c o M off sum i)), some (.int (nI i)), some (.int 1), some (.int (nI (a + 1))), some (.int 0)]) dX12_thresholds_148 rfl (j_inc1 _) rfl rfl ?_
              refine j_goto hX (tgt := 28) dX12_thresholds_151 (by decide) ?_
              refine jW.drop (ls' := [some (.ref (ad 0)), some (.int off), some (.int sum), some (.int 1), some (.int (thM c o M off sum i)), some (.int (nI i)), some (.int 1), some (.int (nI (a + 1))), none]) ⟨Or.inr rfl, Or.inr rfl, Or.inr rfl, Or.inr rfl, Or.inr rfl, Or.inr rfl, Or.inr rfl, Or.inr rfl, Or.inl rfl, trivial⟩ ?_
              refine jW.locals (ls' := [some (.ref (ad 0)), some (.int off), some (.int sum), some (.int 1), some (.int (thM c o M off sum i)), some (.int (nI i)), some (.int (isF c M off sum i (a + 1))), some (.int (nI (a + 1))), none]) (by rw [show isF c M off sum i (a + 1) = 1 from by rw [isF_s]; rw [isS, if_neg h39, if_pos h46]]) ?_
              exact iha (a + 1) (by omega) (by omega)
            · refine j_aload_n hX dX12_thresholds_49 rfl ?_
              refine j_getf hX (v := .ref (ad 12)) dX12_thresholds_50 fX12_thresholds_44 0 (wMg0 _ _ _ _ _) rfl ?_
              refine j_iload hX dX12_thresholds_53 rfl ?_
              refine j_iald hX (v := (M 12) i) dX12_thresholds_55 12 (wMg12 _ _ _ _ _) (nI_in (by omega) (by decide)) (rdc (by omega)) ?_
              refine j_iconst hX (v := -1) (by decide) dX12_thresholds_56 ?_
              refine j_icmp_eq hX (tgt := 92) dX12_thresholds_57 (by decide) (fun h57 => ?_) (fun h57 => ?_)
              · refine j_iconst hX (v := 0) (by decide) dX12_thresholds_92 ?_
                refine j_istore hX (ls' := [some (.ref (ad 0)), some (.int off), some (.int sum), some (.int 1), some (.int (thM c o M off sum i)), some (.int (nI i)), some (.int (isF c M off sum i a)), some (.int (nI a)), some (.int 0)]) dX12_thresholds_93 (Nat.le_of_ble_eq_true rfl) rfl rfl ?_
                refine j_iload hX dX12_thresholds_95 rfl ?_
                refine j_if_eq_t hX (tgt := 141) dX12_thresholds_97 (by decide) (by decide) ?_
                refine j_iconst hX (v := 1) (by decide) dX12_thresholds_141 ?_
                refine j_goto hX (tgt := 146) dX12_thresholds_142 (by decide) ?_
                refine j_istore hX (ls' := [some (.ref (ad 0)), some (.int off), some (.int sum), some (.int 1), some (.int (thM c o M off sum i)), some (.int (nI i)), some (.int 1), some (.int (nI a)), some (.int 0)]) dX12_thresholds_146 (Nat.le_of_ble_eq_true rfl) rfl rfl ?_
                refine j_iinc hX (v := nI (a + 1)) (ls' := [some (.ref (ad 0)), some (.int off), some (.int sum), some (.int 1), some (.int (thM c o M off sum i)), some (.int (nI i)), some (.int 1), some (.int (nI (a + 1))), some (.int 0)]) dX12_thresholds_148 rfl (j_inc1 _) rfl rfl ?_
                refine j_goto hX (tgt := 28) dX12_thresholds_151 (by decide) ?_
                refine jW.drop (ls' := [some (.ref (ad 0)), some (.int off), some (.int sum), some (.int 1), some (.int (thM c o M off sum i)), some (.int (nI i)), some (.int 1), some (.int (nI (a + 1))), none]) ⟨Or.inr rfl, Or.inr rfl, Or.inr rfl, Or.inr rfl, Or.inr rfl, Or.inr rfl, Or.inr rfl, Or.inr rfl, Or.inl rfl, trivial⟩ ?_
                refine jW.locals (ls' := [some (.ref (ad 0)), some (.int off), some (.int sum), some (.int 1), some (.int (thM c o M off sum i)), some (.int (nI i)), some (.int (isF c M off sum i (a + 1))), some (.int (nI (a + 1))), none]) (by rw [show isF c M off sum i (a + 1) = 1 from by rw [isF_s]; rw [isS, if_neg h39, if_neg h46, if_pos h57]]) ?_
                exact iha (a + 1) (by omega) (by omega)
              · refine j_aload_n hX dX12_thresholds_60 rfl ?_
                refine j_getf hX (v := .ref (ad 12)) dX12_thresholds_61 fX12_thresholds_44 0 (wMg0 _ _ _ _ _) rfl ?_
                refine j_iload hX dX12_thresholds_64 rfl ?_
                refine j_iald hX (v := (M 12) a) dX12_thresholds_66 12 (wMg12 _ _ _ _ _) (nI_in (by omega) (by decide)) (rdc (by omega)) ?_
                refine j_aload_n hX dX12_thresholds_67 rfl ?_
                refine j_getf hX (v := .ref (ad 12)) dX12_thresholds_68 fX12_thresholds_44 0 (wMg0 _ _ _ _ _) rfl ?_
                refine j_iload hX dX12_thresholds_71 rfl ?_
                refine j_iald hX (v := (M 12) i) dX12_thresholds_73 12 (wMg12 _ _ _ _ _) (nI_in (by omega) (by decide)) (rdc (by omega)) ?_
                refine j_icmp_ne hX (tgt := 92) dX12_thresholds_74 (by decide) (fun h74 => ?_) (fun h74 => ?_)
                · refine j_iconst hX (v := 0) (by decide) dX12_thresholds_92 ?_
                  refine j_istore hX (ls' := [some (.ref (ad 0)), some (.int off), some (.int sum), some (.int 1), some (.int (thM c o M off sum i)), some (.int (nI i)), some (.int (isF c M off sum i a)), some (.int (nI a)), some (.int 0)]) dX12_thresholds_93 (Nat.le_of_ble_eq_true rfl) rfl rfl ?_
                  refine j_iload hX dX12_thresholds_95 rfl ?_
                  refine j_if_eq_t hX (tgt := 141) dX12_thresholds_97 (by decide) (by decide) ?_
                  refine j_iconst hX (v := 1) (by decide) dX12_thresholds_141 ?_
                  refine j_goto hX (tgt := 146) dX12_thresholds_142 (by decide) ?_
                  refine j_istore hX (ls' := [some (.ref (ad 0)), some (.int off), some (.int sum), some (.int 1), some (.int (thM c o M off sum i)), some (.int (nI i)), some (.int 1), some (.int (nI a)), some (.int 0)]) dX12_thresholds_146 (Nat.le_of_ble_eq_true rfl) rfl rfl ?_
                  refine j_iinc hX (v := nI (a + 1)) (ls' := [some (.ref (ad 0)), some (.int off), some (.int sum), some (.int 1), some (.int (thM c o M off sum i)), some (.int (nI i)), some (.int 1), some (.int (nI (a + 1))), some (.int 0)]) dX12_thresholds_148 rfl (j_inc1 _) rfl rfl ?_
                  refine j_goto hX (tgt := 28) dX12_thresholds_151 (by decide) ?_
                  refine jW.drop (ls' := [some (.ref (ad 0)), some (.int off), some (.int sum), some (.int 1), some (.int (thM c o M off sum i)), some (.int (nI i)), some (.int 1), some (.int (nI (a + 1))), none]) ⟨Or.inr rfl, Or.inr rfl, Or.inr rfl, Or.inr rfl, Or.inr rfl, Or.inr rfl, Or.inr rfl, Or.inr rfl, Or.inl rfl, trivial⟩ ?_
                  refine jW.locals (ls' := [some (.ref (ad 0)), some (.int off), some (.int sum), some (.int 1), some (.int (thM c o M off sum i)), some (.int (nI i)), some (.int (isF c M off sum i (a + 1))), some (.int (nI (a + 1))), none]) (by rw [show isF c M off sum i (a + 1) = 1 from by rw [isF_s]; rw [isS, if_neg h39, if_neg h46, if_neg h57, if_neg h74]]) ?_
                  exact iha (a + 1) (by omega) (by omega)
                · refine j_aload_n hX dX12_thresholds_77 rfl ?_
                  refine j_iload hX dX12_thresholds_78 rfl ?_
                  refine j_iload_n hX dX12_thresholds_80 rfl ?_
                  refine j_iload_n hX dX12_thresholds_81 rfl ?_
                  refine j_dV hX (nA := 3) (cq := (RX12, TX12, 37)) (As := [.int (nI a), .int off, .int sum]) (st := []) (st' := [.int (caM c M a off sum)]) (ci := 13) rfl dX12_thresholds_82 (c_X12_canThreshold G _ V (sM M 25 (isA c o M off sum (M 25) i)) _ n o c hI0 a (by omega) _ _) gX12_thresholds_X12_canThreshold rfl (by decide +kernel) (q := 0) (wMg0 _ _ _ _ _) (by decide) (Nat.le_of_ble_eq_true rfl) rfl (Nat.le_of_ble_eq_true rfl) rfl ⟨Nat.le_refl _, Nat.le_refl _⟩ rfl ?_
                  refine j_if_eq hX (tgt := 92) dX12_thresholds_85 (by decide) (fun h85 => ?_) (fun h85 => ?_)
                  · refine j_iconst hX (v := 0) (by decide) dX12_thresholds_92 ?_
                    refine j_istore hX (ls' := [some (.ref (ad 0)), some (.int off), some (.int sum), some (.int 1), some (.int (thM c o M off sum i)), some (.int (nI i)), some (.int (isF c M off sum i a)), some (.int (nI a)), some (.int 0)]) dX12_thresholds_93 (Nat.le_of_ble_eq_true rfl) rfl rfl ?_
                    refine j_iload hX dX12_thresholds_95 rfl ?_
                    refine j_if_eq_t hX (tgt := 141) dX12_thresholds_97 (by decide) (by decide) ?_
                    refine j_iconst hX (v := 1) (by decide) dX12_thresholds_141 ?_
                    refine j_goto hX (tgt := 146) dX12_thresholds_142 (by decide) ?_
                    refine j_istore hX (ls' := [some (.ref (ad 0)), some (.int off), some (.int sum), some (.int 1), some (.int (thM c o M off sum i)), some (.int (nI i)), some (.int 1), some (.int (nI a)), some (.int 0)]) dX12_thresholds_146 (Nat.le_of_ble_eq_true rfl) rfl rfl ?_
                    refine j_iinc hX (v := nI (a + 1)) (ls' := [some (.ref (ad 0)), some (.int off), some (.int sum), some (.int 1), some (.int (thM c o M off sum i)), some (.int (nI i)), some (.int 1), some (.int (nI (a + 1))), some (.int 0)]) dX12_thresholds_148 rfl (j_inc1 _) rfl rfl ?_
                    refine j_goto hX (tgt := 28) dX12_thresholds_151 (by decide) ?_
                    refine jW.drop (ls' := [some (.ref (ad 0)), some (.int off), some (.int sum), some (.int 1), some (.int (thM c o M off sum i)), some (.int (nI i)), some (.int 1), some (.int (nI (a + 1))), none]) ⟨Or.inr rfl, Or.inr rfl, Or.inr rfl, Or.inr rfl, Or.inr rfl, Or.inr rfl, Or.inr rfl, Or.inr rfl, Or.inl rfl, trivial⟩ ?_
                    refine jW.locals (ls' := [some (.ref (ad 0)), some (.int off), some (.int sum), some (.int 1), some (.int (thM c o M off sum i)), some (.int (nI i)), some (.int (isF c M off sum i (a + 1))), some (.int (nI (a + 1))), none]) (by rw [show isF c M off sum i (a + 1) = 1 from by rw [isF_s]; rw [isS, if_neg h39, if_neg h46, if_neg h57, if_pos h74, if_pos h85]]) ?_
                    exact iha (a + 1) (by omega) (by omega)
                  · refine j_iconst hX (v := 1) (by decide) dX12_thresholds_88 ?_
                    refine j_goto hX (tgt := 93) dX12_thresholds_89 (by decide) ?_
                    refine j_istore hX (ls' := [some (.ref (ad 0)), some (.int off), some (.int sum), some (.int 1), some (.int (thM c o M off sum i)), some (.int (nI i)), some (.int (isF c M off sum i a)), some (.int (nI a)), some (.int 1)]) dX12_thresholds_93 (Nat.le_of_ble_eq_true rfl) rfl rfl ?_
                    refine j_iload hX dX12_thresholds_95 rfl ?_
                    refine j_if_eq_f hX (tgt := 141) dX12_thresholds_97 (by decide) (by decide) ?_
                    refine j_aload_n hX dX12_thresholds_100 rfl ?_
                    refine j_getf hX (v := .ref (ad 8)) dX12_thresholds_101 fX12_thresholds_32 0 (wMg0 _ _ _ _ _) rfl ?_
                    refine j_iload hX dX12_thresholds_104 rfl ?_
                    refine j_iald hX (v := (M 8) i) dX12_thresholds_106 8 (wMg8 _ _ _ _ _) (nI_in (by omega) (by decide)) (rdc (by omega)) ?_
                    refine j_aload_n hX dX12_thresholds_107 rfl ?_
                    refine j_getf hX (v := .ref (ad 8)) dX12_thresholds_108 fX12_thresholds_32 0 (wMg0 _ _ _ _ _) rfl ?_
                    refine j_iload hX dX12_thresholds_111 rfl ?_
                    refine j_iald hX (v := (M 8) a) dX12_thresholds_113 8 (wMg8 _ _ _ _ _) (nI_in (by omega) (by decide)) (rdc (by omega)) ?_
                    refine j_icmp_gt hX (tgt := 141) dX12_thresholds_114 (by decide) (fun h114 => ?_) (fun h114 => ?_)
                    · refine j_iconst hX (v := 1) (by decide) dX12_thresholds_141 ?_
                      refine j_goto hX (tgt := 146) dX12_thresholds_142 (by decide) ?_
                      refine j_istore hX (ls' := [some (.ref (ad 0)), some (.int off), some (.int sum), some (.int 1), some (.int (thM c o M off sum i)), some (.int (nI i)), some (.int 1), some (.int (nI a)), some (.int 1)]) dX12_thresholds_146 (Nat.le_of_ble_eq_true rfl) rfl rfl ?_
                      refine j_iinc hX (v := nI (a + 1)) (ls' := [some (.ref (ad 0)), some (.int off), some (.int sum), some (.int 1), some (.int (thM c o M off sum i)), some (.int (nI i)), some (.int 1), some (.int (nI (a + 1))), some (.int 1)]) dX12_thresholds_148 rfl (j_inc1 _) rfl rfl ?_
                      refine j_goto hX (tgt := 28) dX12_thresholds_151 (by decide) ?_
                      refine jW.drop (ls' := [some (.ref (ad 0)), some (.int off), some (.int sum), some (.int 1), some (.int (thM c o M off sum i)), some (.int (nI i)), some (.int 1), some (.int (nI (a + 1))), none]) ⟨Or.inr rfl, Or.inr rfl, Or.inr rfl, Or.inr rfl, Or.inr rfl, Or.inr rfl, Or.inr rfl, Or.inr rfl, Or.inl rfl, trivial⟩ ?_
                      refine jW.locals (ls' := [some (.ref (ad 0)), some (.int off), some (.int sum), some (.int 1), some (.int (thM c o M off sum i)), some (.int (nI i)), some (.int (isF c M off sum i (a + 1))), some (.int (nI (a + 1))), none]) (by rw [show isF c M off sum i (a + 1) = 1 from by rw [isF_s]; rw [isS, if_neg h39, if_neg h46, if_neg h57, if_pos h74, if_neg h85, if_pos h114]]) ?_
                      exact iha (a + 1) (by omega) (by omega)
                    · refine j_aload_n hX dX12_thresholds_117 rfl ?_
                      refine j_getf hX (v := .ref (ad 8)) dX12_thresholds_118 fX12_thresholds_32 0 (wMg0 _ _ _ _ _) rfl ?_
                      refine j_iload hX dX12_thresholds_121 rfl ?_
                      refine j_iald hX (v := (M 8) i) dX12_thresholds_123 8 (wMg8 _ _ _ _ _) (nI_in (by omega) (by decide)) (rdc (by omega)) ?_
                      refine j_aload_n hX dX12_thresholds_124 rfl ?_
                      refine j_getf hX (v := .ref (ad 8)) dX12_thresholds_125 fX12_thresholds_32 0 (wMg0 _ _ _ _ _) rfl ?_
                      refine j_iload hX dX12_thresholds_128 rfl ?_
                      refine j_iald hX (v := (M 8) a) dX12_thresholds_130 8 (wMg8 _ _ _ _ _) (nI_in (by omega) (by decide)) (rdc (by omega)) ?_
                      refine j_icmp_ne hX (tgt := 145) dX12_thresholds_131 (by decide) (fun h131 => ?_) (fun h131 => ?_)
                      · refine j_iconst hX (v := 0) (by decide) dX12_thresholds_145 ?_
                        refine j_istore hX (ls' := [some (.ref (ad 0)), some (.int off), some (.int sum), some (.int 1), some (.int (thM c o M off sum i)), some (.int (nI i)), some (.int 0), some (.int (nI a)), some (.int 1)]) dX12_thresholds_146 (Nat.le_of_ble_eq_true rfl) rfl rfl ?_
                        refine j_iinc hX (v := nI (a + 1)) (ls' := [some (.ref (ad 0)), some (.int off), some (.int sum), some (.int 1), some (.int (thM c o M off sum i)), some (.int (nI i)), some (.int 0), some (.int (nI (a + 1))), some (.int 1)]) dX12_thresholds_148 rfl (j_inc1 _) rfl rfl ?_
                        refine j_goto hX (tgt := 28) dX12_thresholds_151 (by decide) ?_
                        refine jW.drop (ls' := [some (.ref (ad 0)), some (.int off), some (.int sum), some (.int 1), some (.int (thM c o M off sum i)), some (.int (nI i)), some (.int 0), some (.int (nI (a + 1))), none]) ⟨Or.inr rfl, Or.inr rfl, Or.inr rfl, Or.inr rfl, Or.inr rfl, Or.inr rfl, Or.inr rfl, Or.inr rfl, Or.inl rfl, trivial⟩ ?_
                        refine jW.locals (ls' := [some (.ref (ad 0)), some (.int off), some (.int sum), some (.int 1), some (.int (thM c o M off sum i)), some (.int (nI i)), some (.int (isF c M off sum i (a + 1))), some (.int (nI (a + 1))), none]) (by rw [show isF c M off sum i (a + 1) = 0 from by rw [isF_s]; rw [isS, if_neg h39, if_neg h46, if_neg h57, if_pos h74, if_neg h85, if_neg h114, if_neg h131]]) ?_
                        exact iha (a + 1) (by omega) (by omega)
                      · refine j_iload hX dX12_thresholds_134 rfl ?_
                        refine j_iload hX dX12_thresholds_136 rfl ?_
                        refine j_icmp_ge hX (tgt := 145) dX12_thresholds_138 (by decide) (fun h138 => ?_) (fun h138 => ?_)
                        · refine j_iconst hX (v := 0) (by decide) dX12_thresholds_145 ?_
                          refine j_istore hX (ls' := [some (.ref (ad 0)), some (.int off), some (.int sum), some (.int 1), some (.int (thM c o M off sum i)), some (.int (nI i)), some (.int 0), some (.int (nI a)), some (.int 1)]) dX12_thresholds_146 (Nat.le_of_ble_eq_true rfl) rfl rfl ?_
                          refine j_iinc hX (v := nI (a + 1)) (ls' := [some (.ref (ad 0)), some (.int off), some (.int sum), some (.int 1), some (.int (thM c o M off sum i)), some (.int (nI i)), some (.int 0), some (.int (nI (a + 1))), some (.int 1)]) dX12_thresholds_148 rfl (j_inc1 _) rfl rfl ?_
                          refine j_goto hX (tgt := 28) dX12_thresholds_151 (by decide) ?_
                          refine jW.drop (ls' := [some (.ref (ad 0)), some (.int off), some (.int sum), some (.int 1), some (.int (thM c o M off sum i)), some (.int (nI i)), some (.int 0), some (.int (nI (a + 1))), none]) ⟨Or.inr rfl, Or.inr rfl, Or.inr rfl, Or.inr rfl, Or.inr rfl, Or.inr rfl, Or.inr rfl, Or.inr rfl, Or.inl rfl, trivial⟩ ?_
                          refine jW.locals (ls' := [some (.ref (ad 0)), some (.int off), some (.int sum), some (.int 1), some (.int (thM c o M off sum i)), some (.int (nI i)), some (.int (isF c M off sum i (a + 1))), some (.int (nI (a + 1))), none]) (by rw [show isF c M off sum i (a + 1) = 0 from by rw [isF_s]; rw [isS, if_neg h39, if_neg h46, if_neg h57, if_pos h74, if_neg h85, if_neg h114, if_pos h131, if_pos h138]]) ?_
                          exact iha (a + 1) (by omega) (by omega)
                        · refine j_iconst hX (v := 1) (by decide) dX12_thresholds_141 ?_
                          refine j_goto hX (tgt := 146) dX12_thresholds_142 (by decide) ?_
                          refine j_istore hX (ls' := [some (.ref (ad 0)), some (.int off), some (.int sum), some (.int 1), some (.int (thM c o M off sum i)), some (.int (nI i)), some (.int 1), some (.int (nI a)), some (.int 1)]) dX12_thresholds_146 (Nat.le_of_ble_eq_true rfl) rfl rfl ?_
                          refine j_iinc hX (v := nI (a + 1)) (ls' := [some (.ref (ad 0)), some (.int off), some (.int sum), some (.int 1), some (.int (thM c o M off sum i)), some (.int (nI i)), some (.int 1), some (.int (nI (a + 1))), some (.int 1)]) dX12_thresholds_148 rfl (j_inc1 _) rfl rfl ?_
                          refine j_goto hX (tgt := 28) dX12_thresholds_151 (by decide) ?_
                          refine jW.drop (ls' := [some (.ref (ad 0)), some (.int off), some (.int sum), some (.int 1), some (.int (thM c o M off sum i)), some (.int (nI i)), some (.int 1), some (.int (nI (a + 1))), none]) ⟨Or.inr rfl, Or.inr rfl, Or.inr rfl, Or.inr rfl, Or.inr rfl, Or.inr rfl, Or.inr rfl, Or.inr rfl, Or.inl rfl, trivial⟩ ?_
                          refine jW.locals (ls' := [some (.ref (ad 0)), some (.int off), some (.int sum), some (.int 1), some (.int (thM c o M off sum i)), some (.int (nI i)), some (.int (isF c M off sum i (a + 1))), some (.int (nI (a + 1))), none]) (by rw [show isF c M off sum i (a + 1) = 1 from by rw [isF_s]; rw [isS, if_neg h39, if_neg h46, if_neg h57, if_pos h74, if_neg h85, if_neg h114, if_pos h131, if_neg h138]]) ?_
                          exact iha (a + 1) (by omega) (by omega)
      exact L28 o 0 (Nat.le_refl _) (by omega)
  exact L6 o 0 (Nat.le_refl _) (by omega)

def cpA (f b : Nat → Int32) (i : Nat) : Nat → Int32 := itr (fun k b => upd b k (f k)) i b
def leF (n o c u : Nat) (sum off : Int32) (s : VM) : VM := if off + thM c o s.2 off sum o ≤ s.1 8 then s else
  (sV (sV (sV s.1 8 (off + thM c o s.2 off sum o)) 10 off) 9 (nI u), sM (sM (sM (sM (sM s.2 21 (cpA (s.2 15) (s.2 21) n)) 22 (cpA (s.2 16) (s.2 22) o)) 23 (cpA (s.2 18) (s.2 23) u)) 24 (cpA (s.2 19) (s.2 24) u)) 25 (isA c o s.2 off sum (s.2 25) o))
/-- what a search leaves alone -/
def gkV (k : Nat) : Prop := Nat.beq k 6 = false ∧ Nat.beq k 8 = false ∧ Nat.beq k 9 = false ∧ Nat.beq k 10 = false
def gkM (k : Nat) : Prop := Nat.beq k 15 = false ∧ Nat.beq k 16 = false ∧ Nat.beq k 17 = false ∧ Nat.beq k 18 = false ∧ Nat.beq k 19 = false ∧ Nat.beq k 21 = false ∧ Nat.beq k 22 = false ∧ Nat.beq k 23 = false ∧ Nat.beq k 24 = false ∧ Nat.beq k 25 = false
def Kept (s0 s : VM) : Prop := (∀ k, gkV k → s.1 k = s0.1 k) ∧ (∀ k, gkM k → s.2 k = s0.2 k) ∧ s.1 6 = s0.1 6
theorem Kept.rf (s : VM) : Kept s s := ⟨fun _ _ => rfl, fun _ _ => rfl, rfl⟩
theorem Kept.tr {a b c : VM} (h : Kept a b) (h2 : Kept b c) : Kept a c := ⟨fun k hk => (h2.1 k hk).trans (h.1 k hk), fun k hk => (h2.2.1 k hk).trans (h.2.1 k hk), h2.2.2.trans h.2.2⟩
theorem Kept.mI {n o c : Nat} {s0 s : VM} (h : Kept s0 s) (hI : mI n o c s0.1 s0.2) : mI n o c s.1 s.2 := by
  obtain ⟨h1, h2, h3, h4, h5, h6, h7, h8⟩ := hI
  refine ⟨(h.1 5 ⟨rfl, rfl, rfl, rfl⟩).trans h1, h2, (h.1 2 ⟨rfl, rfl, rfl, rfl⟩).trans h3, h4, (h.1 1 ⟨rfl, rfl, rfl, rfl⟩).trans h5, h6, fun k hk => ?_, fun j hj => ?_⟩
  · rw [h.2.1 14 ⟨rfl, rfl, rfl, rfl, rfl, rfl, rfl, rfl, rfl, rfl⟩]; exact h7 k hk
  · rw [h.2.1 12 ⟨rfl, rfl, rfl, rfl, rfl, rfl, rfl, rfl, rfl, rfl⟩]; exact h8 j hj
theorem Kept.le (n o c u : Nat) (sum off : Int32) (s : VM) : Kept s (leF n o c u sum off s) := by
  unfold leF
  split
  · exact Kept.rf s
  · refine ⟨fun k hk => ?_, fun k hk => ?_, rfl⟩
    · obtain ⟨h1, h2, h3, h4⟩ := hk
      exact (sV_ne h3).trans ((sV_ne h4).trans (sV_ne h2))
    · obtain ⟨h1, h2, h3, h4, h5, h6, h7, h8, h9, h10⟩ := hk
      exact (sM_ne h10).trans ((sM_ne h9).trans ((sM_ne h8).trans ((sM_ne h7).trans (sM_ne h6))))
set_option maxHeartbeats 4000000 in
set_option maxRecDepth 100000 in
theorem c_goes_leaf (G : jG) (ad : Nat → Nat) (V : Nat → Int32) (M : Nat → Nat → Int32) (t : Int64) (n o c : Nat) (hI : mI n o c V M) (u : Nat) (hu : V 6 = nI u) (hu7 : u ≤ 7) (taken off sum : Int32) : jD G 4 yX12_goes wsX12_goes [.ref (ad 0), .int (nI n), .int taken, .int off, .int sum] (wM G ad V M t) none (wM G ad (leF n o c u sum off (V, M)).1 (leF n o c u sum off (V, M)).2 t) := by
  refine jC.of (maxL := 7) (cc := cX12_goes) (ret := none) rfl (by decide) [some (.ref (ad 0)), some (.int (nI n)), some (.int taken), some (.int off), some (.int sum), none, none] rfl (Nat.le_of_ble_eq_true rfl) (j_args rfl) (fun X hX => ?_)
  have hI0 := hI
  obtain ⟨hn5, hn, ho2, ho, hc1, hc, hB, hG4⟩ := hI
  refine j_iload_n hX dX12_goes_0 rfl ?_
  refine j_aload_n hX dX12_goes_1 rfl ?_
  refine j_getf hX (v := .int (V 5)) dX12_goes_2 fX12_goes_93 0 (wMg0 _ _ _ _ _) rfl ?_
  refine jW.top hn5 ?_
  refine j_icmp_ne_f hX (tgt := 169) dX12_goes_5 (by decide) rfl ?_
  refine j_iload_n hX dX12_goes_8 rfl ?_
  refine j_aload_n hX dX12_goes_9 rfl ?_
  refine j_iload_n hX dX12_goes_10 rfl ?_
  refine j_iload hX dX12_goes_11 rfl ?_
  refine j_iconst hX (v := 0) (by decide) dX12_goes_13 ?_
  refine j_dV hX (nA := 3) (cq := (RX12, TX12, 37)) (As := [.int off, .int sum, .int 0]) (st := [.int off]) (st' := [.int (thM c o M off sum o), .int off]) (ci := 13) rfl dX12_goes_14 (c_X12_thresholds0 G _ V M _ n o c hI0 _ _) gX12_goes_X12_thresholds rfl (by decide +kernel) (q := 0) (wMg0 _ _ _ _ _) (by decide) (Nat.le_of_ble_eq_true rfl) rfl (Nat.le_of_ble_eq_true rfl) rfl ⟨Nat.le_refl _, Nat.le_refl _⟩ rfl ?_
  refine j_iadd hX dX12_goes_17 ?_
  refine j_istore hX (ls' := [some (.ref (ad 0)), some (.int (nI n)), some (.int taken), some (.int off), some (.int sum), some (.int (off + (thM c o M off sum o))), none]) dX12_goes_18 (Nat.le_of_ble_eq_true rfl) rfl rfl ?_
  refine j_iload hX dX12_goes_20 rfl ?_
  refine j_aload_n hX dX12_goes_22 rfl ?_
  refine j_getf hX (v := .int (V 8)) dX12_goes_23 fX12_goes_169 0 (wMg0 _ _ _ _ _) rfl ?_
  refine j_icmp_le hX (tgt := 168) dX12_goes_26 (by decide) (fun h26 => ?_) (fun h26 => ?_)
  · exact j_vret hX dX12_goes_168 ⟨rfl, by rw [show leF n o c u sum off (V, M) = (V, M) from if_pos h26]⟩
  · refine j_aload_n hX dX12_goes_29 rfl ?_
    refine j_iload hX dX12_goes_30 rfl ?_
    refine j_putf hX (ws' := (wM G ad (sV V 8 (off + (thM c o M off sum o))) M t)) dX12_goes_32 fX12_goes_169 0 (wMg0 _ _ _ _ _) (Nat.le_of_ble_eq_true rfl) rfl rfl (wMp0_29 _ _ _ _ _ _) ?_
    refine j_aload_n hX dX12_goes_35 rfl ?_
    refine j_iload_n hX dX12_goes_36 rfl ?_
    refine j_putf hX (ws' := (wM G ad (sV (sV V 8 (off + (thM c o M off sum o))) 10 off) M t)) dX12_goes_37 fX12_goes_172 0 (wMg0 _ _ _ _ _) (Nat.le_of_ble_eq_true rfl) rfl rfl (wMp0_35 _ _ _ _ _ _) ?_
    refine j_aload_n hX dX12_goes_40 rfl ?_
    refine j_aload_n hX dX12_goes_41 rfl ?_
    refine j_getf hX (v := .int (V 6)) dX12_goes_42 fX12_goes_175 0 (wMg0 _ _ _ _ _) rfl ?_
    refine jW.top hu ?_
    refine j_putf hX (ws' := (wM G ad (sV (sV (sV V 8 (off + (thM c o M off sum o))) 10 off) 9 (nI u)) M t)) dX12_goes_45 fX12_goes_178 0 (wMg0 _ _ _ _ _) (Nat.le_of_ble_eq_true rfl) rfl rfl (wMp0_34 _ _ _ _ _ _) ?_
    refine j_iconst hX (v := 0) (by decide) dX12_goes_48 ?_
    refine j_istore hX (ls' := [some (.ref (ad 0)), some (.int (nI n)), some (.int taken), some (.int off), some (.int sum), some (.int (off + (thM c o M off sum o))), some (.int 0)]) dX12_goes_49 (Nat.le_of_ble_eq_true rfl) rfl rfl ?_
    have L51 : ∀ zk1 k1 : Nat, 0 ≤ k1 → k1 + zk1 = n → jW G X 0 0 51 [some (.ref (ad 0)), some (.int (nI n)), some (.int taken), some (.int off), some (.int sum), some (.int (off + thM c o M off sum o)), some (.int (nI k1))] [] (wM G ad (sV (sV (sV V 8 (off + thM c o M off sum o)) 10 off) 9 (nI u)) (sM M 21 (cpA (M 15) (M 21) k1)) t) := by
      intro zk1
      induction zk1 with
      | zero =>
        intro k1 h0k1 hik1
        have hink1 : k1 = n := by omega
        refine j_iload hX dX12_goes_51 rfl ?_
        refine j_aload_n hX dX12_goes_53 rfl ?_
        refine j_getf hX (v := .int (V 5)) dX12_goes_54 fX12_goes_93 0 (wMg0 _ _ _ _ _) rfl ?_
        refine jW.top hn5 ?_
        refine j_icmp_ge_t hX (tgt := 80) dX12_goes_57 (by decide) (by rw [hink1]; exact nI_le (Nat.le_refl _) (by omega)) ?_
        refine j_iconst hX (v := 0) (by decide) dX12_goes_80 ?_
        refine j_istore hX (ls' := [some (.ref (ad 0)), some (.int (nI n)), some (.int taken), some (.int off), some (.int sum), some (.int (off + thM c o M off sum o)), some (.int 0)]) dX12_goes_81 (Nat.le_of_ble_eq_true rfl) rfl rfl ?_
        have L83 : ∀ zk2 k2 : Nat, 0 ≤ k2 → k2 + zk2 = o → jW G X 0 0 83 [some (.ref (ad 0)), some (.int (nI n)), some (.int taken), some (.int off), some (.int sum), some (.int (off + thM c o M off sum o)), some (.int (nI k2))] [] (wM G ad (sV (sV (sV V 8 (off + thM c o M off sum o)) 10 off) 9 (nI u)) (sM (sM M 21 (cpA (M 15) (M 21) n)) 22 (cpA (M 16) (M 22) k2)) t) := by
          intro zk2
          induction zk2 with
          | zero =>
            intro k2 h0k2 hik2
            have hink2 : k2 = o := by omega
            refine j_iload hX dX12_goes_83 rfl ?_
            refine j_aload_n hX dX12_goes_85 rfl ?_
            refine j_getf hX (v := .int (V 2)) dX12_goes_86 fX12_goes_121 0 (wMg0 _ _ _ _ _) rfl ?_
            refine jW.top ho2 ?_
            refine j_icmp_ge_t hX (tgt := 112) dX12_goes_89 (by decide) (by rw [hink2]; exact nI_le (Nat.le_refl _) (by omega)) ?_
            refine j_iconst hX (v := 0) (by decide) dX12_goes_112 ?_
            refine j_istore hX (ls' := [some (.ref (ad 0)), some (.int (nI n)), some (.int taken), some (.int off), some (.int sum), some (.int (off + thM c o M off sum o)), some (.int 0)]) dX12_goes_113 (Nat.le_of_ble_eq_true rfl) rfl rfl ?_
            have L115 : ∀ zk3 k3 : Nat, 0 ≤ k3 → k3 + zk3 = u → jW G X 0 0 115 [some (.ref (ad 0)), some (.int (nI n)), some (.int taken), some (.int off), some (.int sum), some (.int (off + thM c o M off sum o)), some (.int (nI k3))] [] (wM G ad (sV (sV (sV V 8 (off + thM c o M off sum o)) 10 off) 9 (nI u)) (sM (sM (sM (sM M 21 (cpA (M 15) (M 21) n)) 22 (cpA (M 16) (M 22) o)) 23 (cpA (M 18) (M 23) k3)) 24 (cpA (M 19) (M 24) k3)) t) := by
              intro zk3
              induction zk3 with
              | zero =>
                intro k3 h0k3 hik3
                have hink3 : k3 = u := by omega
                refine j_iload hX dX12_goes_115 rfl ?_
                refine j_aload_n hX dX12_goes_117 rfl ?_
                refine j_getf hX (v := .int (V 6)) dX12_goes_118 fX12_goes_175 0 (wMg0 _ _ _ _ _) rfl ?_
                refine jW.top hu ?_
                refine j_icmp_ge_t hX (tgt := 158) dX12_goes_121 (by decide) (by rw [hink3]; exact nI_le (Nat.le_refl _) (by omega)) ?_
                refine j_aload_n hX dX12_goes_158 rfl ?_
                refine j_iload_n hX dX12_goes_159 rfl ?_
                refine j_iload hX dX12_goes_160 rfl ?_
                refine j_iconst hX (v := 1) (by decide) dX12_goes_162 ?_
                refine j_dV hX (nA := 3) (cq := (RX12, TX12, 37)) (As := [.int off, .int sum, .int 1]) (st := []) (st' := [.int (thM c o M off sum o)]) (ci := 13) rfl dX12_goes_163 (c_X12_thresholds1 G _ (sV (sV (sV V 8 (off + thM c o M off sum o)) 10 off) 9 (nI u)) (sM (sM (sM (sM M 21 (cpA (M 15) (M 21) n)) 22 (cpA (M 16) (M 22) o)) 23 (cpA (M 18) (M 23) k3)) 24 (cpA (M 19) (M 24) k3)) _ n o c hI0 _ _) gX12_goes_X12_thresholds rfl (by decide +kernel) (q := 0) (wMg0 _ _ _ _ _) (by decide) (Nat.le_of_ble_eq_true rfl) rfl (Nat.le_of_ble_eq_true rfl) rfl ⟨Nat.le_refl _, Nat.le_refl _⟩ rfl ?_
                refine j_istore hX (ls' := [some (.ref (ad 0)), some (.int (nI n)), some (.int taken), some (.int off), some (.int sum), some (.int (off + thM c o M off sum o)), some (.int (thM c o M off sum o))]) dX12_goes_166 (Nat.le_of_ble_eq_true rfl) rfl rfl ?_
                exact j_vret hX dX12_goes_168 ⟨rfl, by rw [show leF n o c u sum off (V, M) = ((sV (sV (sV V 8 (off + thM c o M off sum o)) 10 off) 9 (nI u)), (sM (sM (sM (sM (sM M 21 (cpA (M 15) (M 21) n)) 22 (cpA (M 16) (M 22) o)) 23 (cpA (M 18) (M 23) k3)) 24 (cpA (M 19) (M 24) k3)) 25 (isA c o M off sum (M 25) o))) from by rw [hink3]; exact if_neg h26]; rfl⟩
              | succ zk3 ihk3 =>
                intro k3 h0k3 hik3
                have hink3 : k3 < u := by omega
                refine j_iload hX dX12_goes_115 rfl ?_
                refine j_aload_n hX dX12_goes_117 rfl ?_
                refine j_getf hX (v := .int (V 6)) dX12_goes_118 fX12_goes_175 0 (wMg0 _ _ _ _ _) rfl ?_
                refine jW.top hu ?_
                refine j_icmp_ge_f hX (tgt := 158) dX12_goes_121 (by decide) (nI_ge hink3 (by omega)) ?_
                refine j_aload_n hX dX12_goes_124 rfl ?_
                refine j_getf hX (v := .ref (ad 23)) dX12_goes_125 fX12_goes_79 0 (wMg0 _ _ _ _ _) rfl ?_
                refine j_iload hX dX12_goes_128 rfl ?_
                refine j_aload_n hX dX12_goes_130 rfl ?_
                refine j_getf hX (v := .ref (ad 18)) dX12_goes_131 fX12_goes_64 0 (wMg0 _ _ _ _ _) rfl ?_
                refine j_iload hX dX12_goes_134 rfl ?_
                refine j_iald hX (v := (M 18) k3) dX12_goes_136 18 (wMg18 _ _ _ _ _) (nI_in (by omega) (by decide)) (rdc (by omega)) ?_
                refine j_iast hX (ws' := (wM G ad (sV (sV (sV V 8 (off + thM c o M off sum o)) 10 off) 9 (nI u)) (sM (sM (sM (sM M 21 (cpA (M 15) (M 21) n)) 22 (cpA (M 16) (M 22) o)) 23 (upd (cpA (M 18) (M 23) k3) k3 ((M 18) k3))) 24 (cpA (M 19) (M 24) k3)) t)) dX12_goes_137 23 (wMg23 _ _ _ _ _) (nI_in (by omega) (by decide)) (by rw [nI_clamp (by omega)]; exact rfl) ?_
                refine j_aload_n hX dX12_goes_138 rfl ?_
                refine j_getf hX (v := .ref (ad 24)) dX12_goes_139 fX12_goes_82 0 (wMg0 _ _ _ _ _) rfl ?_
                refine j_iload hX dX12_goes_142 rfl ?_
                refine j_aload_n hX dX12_goes_144 rfl ?_
                refine j_getf hX (v := .ref (ad 19)) dX12_goes_145 fX12_goes_67 0 (wMg0 _ _ _ _ _) rfl ?_
                refine j_iload hX dX12_goes_148 rfl ?_
                refine j_iald hX (v := (M 19) k3) dX12_goes_150 19 (wMg19 _ _ _ _ _) (nI_in (by omega) (by decide)) (rdc (by omega)) ?_
                refine j_iast hX (ws' := (wM G ad (sV (sV (sV V 8 (off + thM c o M off sum o)) 10 off) 9 (nI u)) (sM (sM (sM (sM M 21 (cpA (M 15) (M 21) n)) 22 (cpA (M 16) (M 22) o)) 23 (upd (cpA (M 18) (M 23) k3) k3 ((M 18) k3))) 24 (upd (cpA (M 19) (M 24) k3) k3 ((M 19) k3))) t)) dX12_goes_151 24 (wMg24 _ _ _ _ _) (nI_in (by omega) (by decide)) (by rw [nI_clamp (by omega)]; exact (wMo24 _ _ _ _ _ _ _)) ?_
                refine j_iinc hX (v := nI (k3 + 1)) (ls' := [some (.ref (ad 0)), some (.int (nI n)), some (.int taken), some (.int off), some (.int sum), some (.int (off + thM c o M off sum o)), some (.int (nI (k3 + 1)))]) dX12_goes_152 rfl (j_inc1 _) rfl rfl ?_
                refine j_goto hX (tgt := 115) dX12_goes_155 (by decide) ?_
                exact ihk3 (k3 + 1) (by omega) (by omega)
            refine jW.world (ws' := (wM G ad (sV (sV (sV V 8 (off + thM c o M off sum o)) 10 off) 9 (nI u)) (sM (sM (sM (sM M 21 (cpA (M 15) (M 21) n)) 22 (cpA (M 16) (M 22) o)) 23 (cpA (M 18) (M 23) 0)) 24 (cpA (M 19) (M 24) 0)) t)) (by rw [hink2]; rfl) ?_
            exact L115 u 0 (Nat.le_refl _) (by omega)
          | succ zk2 ihk2 =>
            intro k2 h0k2 hik2
            have hink2 : k2 < o := by omega
            refine j_iload hX dX12_goes_83 rfl ?_
            refine j_aload_n hX dX12_goes_85 rfl ?_
            refine j_getf hX (v := .int (V 2)) dX12_goes_86 fX12_goes_121 0 (wMg0 _ _ _ _ _) rfl ?_
            refine jW.top ho2 ?_
            refine j_icmp_ge_f hX (tgt := 112) dX12_goes_89 (by decide) (nI_ge hink2 (by omega)) ?_
            refine j_aload_n hX dX12_goes_92 rfl ?_
            refine j_getf hX (v := .ref (ad 22)) dX12_goes_93 fX12_goes_76 0 (wMg0 _ _ _ _ _) rfl ?_
            refine j_iload hX dX12_goes_96 rfl ?_
            refine j_aload_n hX dX12_goes_98 rfl ?_
            refine j_getf hX (v := .ref (ad 16)) dX12_goes_99 fX12_goes_58 0 (wMg0 _ _ _ _ _) rfl ?_
            refine j_iload hX dX12_goes_102 rfl ?_
            refine j_iald hX (v := (M 16) k2) dX12_goes_104 16 (wMg16 _ _ _ _ _) (nI_in (by omega) (by decide)) (rdc (by omega)) ?_
            refine j_iast hX (ws' := (wM G ad (sV (sV (sV V 8 (off + thM c o M off sum o)) 10 off) 9 (nI u)) (sM (sM M 21 (cpA (M 15) (M 21) n)) 22 (upd (cpA (M 16) (M 22) k2) k2 ((M 16) k2))) t)) dX12_goes_105 22 (wMg22 _ _ _ _ _) (nI_in (by omega) (by decide)) (by rw [nI_clamp (by omega)]; exact (wMo22 _ _ _ _ _ _ _)) ?_
            refine j_iinc hX (v := nI (k2 + 1)) (ls' := [some (.ref (ad 0)), some (.int (nI n)), some (.int taken), some (.int off), some (.int sum), some (.int (off + thM c o M off sum o)), some (.int (nI (k2 + 1)))]) dX12_goes_106 rfl (j_inc1 _) rfl rfl ?_
            refine j_goto hX (tgt := 83) dX12_goes_109 (by decide) ?_
            exact ihk2 (k2 + 1) (by omega) (by omega)
        refine jW.world (ws' := (wM G ad (sV (sV (sV V 8 (off + thM c o M off sum o)) 10 off) 9 (nI u)) (sM (sM M 21 (cpA (M 15) (M 21) n)) 22 (cpA (M 16) (M 22) 0)) t)) (by rw [hink1]; rfl) ?_
        exact L83 o 0 (Nat.le_refl _) (by omega)
      | succ zk1 ihk1 =>
        intro k1 h0k1 hik1
        have hink1 : k1 < n := by omega
        refine j_iload hX dX12_goes_51 rfl ?_
        refine j_aload_n hX dX12_goes_53 rfl ?_
        refine j_getf hX (v := .int (V 5)) dX12_goes_54 fX12_goes_93 0 (wMg0 _ _ _ _ _) rfl ?_
        refine jW.top hn5 ?_
        refine j_icmp_ge_f hX (tgt := 80) dX12_goes_57 (by decide) (nI_ge hink1 (by omega)) ?_
        refine j_aload_n hX dX12_goes_60 rfl ?_
        refine j_getf hX (v := .ref (ad 21)) dX12_goes_61 fX12_goes_73 0 (wMg0 _ _ _ _ _) rfl ?_
        refine j_iload hX dX12_goes_64 rfl ?_
        refine j_aload_n hX dX12_goes_66 rfl ?_
        refine j_getf hX (v := .ref (ad 15)) dX12_goes_67 fX12_goes_55 0 (wMg0 _ _ _ _ _) rfl ?_
        refine j_iload hX dX12_goes_70 rfl ?_
        refine j_iald hX (v := (M 15) k1) dX12_goes_72 15 (wMg15 _ _ _ _ _) (nI_in (by omega) (by decide)) (rdc (by omega)) ?_
        refine j_iast hX (ws' := (wM G ad (sV (sV (sV V 8 (off + thM c o M off sum o)) 10 off) 9 (nI u)) (sM M 21 (upd (cpA (M 15) (M 21) k1) k1 ((M 15) k1))) t)) dX12_goes_73 21 (wMg21 _ _ _ _ _) (nI_in (by omega) (by decide)) (by rw [nI_clamp (by omega)]; exact (wMo21 _ _ _ _ _ _ _)) ?_
        refine j_iinc hX (v := nI (k1 + 1)) (ls' := [some (.ref (ad 0)), some (.int (nI n)), some (.int taken), some (.int off), some (.int sum), some (.int (off + thM c o M off sum o)), some (.int (nI (k1 + 1)))]) dX12_goes_74 rfl (j_inc1 _) rfl rfl ?_
        refine j_goto hX (tgt := 51) dX12_goes_77 (by decide) ?_
        exact ihk1 (k1 + 1) (by omega) (by omega)
    refine jW.world (ws' := (wM G ad (sV (sV (sV V 8 (off + thM c o M off sum o)) 10 off) 9 (nI u)) (sM M 21 (cpA (M 15) (M 21) 0)) t)) (rfl) ?_
    exact L51 n 0 (Nat.le_refl _) (by omega)

