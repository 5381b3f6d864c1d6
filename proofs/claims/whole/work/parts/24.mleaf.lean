theorem fX12_adds_89 : jF wsX12_adds RX12 89 13 18 false .int := ⟨(RX12, TX12, 37), tyX12, rfl, by decide, by decide +kernel, by decide +kernel, tyX12_ok, nmX12, rfl, by decide +kernel, fun h => by cases h⟩
theorem fX12_adds_121 : jF wsX12_adds RX12 121 13 14 false .int := ⟨(RX12, TX12, 37), tyX12, rfl, by decide, by decide +kernel, by decide +kernel, tyX12_ok, nmX12, rfl, by decide +kernel, fun h => by cases h⟩
theorem fX12_adds_26 : jF wsX12_adds RX12 26 13 7 true (.array .char) := ⟨(RX12, TX12, 37), tyX12, rfl, by decide, by decide +kernel, by decide +kernel, tyX12_ok, nmX12, rfl, by decide +kernel, by decide +kernel⟩
theorem fX12_adds_29 : jF wsX12_adds RX12 29 13 8 true (.array .int) := ⟨(RX12, TX12, 37), tyX12, rfl, by decide, by decide +kernel, by decide +kernel, tyX12_ok, nmX12, rfl, by decide +kernel, by decide +kernel⟩
theorem fX12_adds_32 : jF wsX12_adds RX12 32 13 9 true (.array .int) := ⟨(RX12, TX12, 37), tyX12, rfl, by decide, by decide +kernel, by decide +kernel, tyX12_ok, nmX12, rfl, by decide +kernel, by decide +kernel⟩
theorem fX12_adds_35 : jF wsX12_adds RX12 35 13 10 true (.array .int) := ⟨(RX12, TX12, 37), tyX12, rfl, by decide, by decide +kernel, by decide +kernel, tyX12_ok, nmX12, rfl, by decide +kernel, by decide +kernel⟩
theorem fX12_adds_41 : jF wsX12_adds RX12 41 13 12 true (.array .int) := ⟨(RX12, TX12, 37), tyX12, rfl, by decide, by decide +kernel, by decide +kernel, tyX12_ok, nmX12, rfl, by decide +kernel, by decide +kernel⟩
theorem fX12_adds_44 : jF wsX12_adds RX12 44 13 13 true (.array .int) := ⟨(RX12, TX12, 37), tyX12, rfl, by decide, by decide +kernel, by decide +kernel, tyX12_ok, nmX12, rfl, by decide +kernel, by decide +kernel⟩
theorem fX12_adds_106 : jF wsX12_adds RX12 106 13 28 false .boolean := ⟨(RX12, TX12, 37), tyX12, rfl, by decide, by decide +kernel, by decide +kernel, tyX12_ok, nmX12, rfl, by decide +kernel, fun h => by cases h⟩
theorem fX12_addBundle_89 : jF wsX12_addBundle RX12 89 13 18 false .int := ⟨(RX12, TX12, 37), tyX12, rfl, by decide, by decide +kernel, by decide +kernel, tyX12_ok, nmX12, rfl, by decide +kernel, fun h => by cases h⟩
theorem fX12_addBundle_38 : jF wsX12_addBundle RX12 38 13 11 true (.array .int) := ⟨(RX12, TX12, 37), tyX12, rfl, by decide, by decide +kernel, by decide +kernel, tyX12_ok, nmX12, rfl, by decide +kernel, by decide +kernel⟩
theorem fX12_leftOf_41 : jF wsX12_leftOf RX12 41 13 12 true (.array .int) := ⟨(RX12, TX12, 37), tyX12, rfl, by decide, by decide +kernel, by decide +kernel, tyX12_ok, nmX12, rfl, by decide +kernel, by decide +kernel⟩
theorem fX12_leftOf_49 : jF wsX12_leftOf RX12 49 13 15 true (.array (.array .int)) := ⟨(RX12, TX12, 37), tyX12, rfl, by decide, by decide +kernel, by decide +kernel, tyX12_ok, nmX12, rfl, by decide +kernel, by decide +kernel⟩
theorem fX12_leftOf_114 : jF wsX12_leftOf RX12 114 13 6 false .int := ⟨(RX12, TX12, 37), tyX12, rfl, by decide, by decide +kernel, by decide +kernel, tyX12_ok, nmX12, rfl, by decide +kernel, fun h => by cases h⟩
theorem fX12_left_121 : jF wsX12_left RX12 121 13 14 false .int := ⟨(RX12, TX12, 37), tyX12, rfl, by decide, by decide +kernel, by decide +kernel, tyX12_ok, nmX12, rfl, by decide +kernel, fun h => by cases h⟩
theorem fX12_left_89 : jF wsX12_left RX12 89 13 18 false .int := ⟨(RX12, TX12, 37), tyX12, rfl, by decide, by decide +kernel, by decide +kernel, tyX12_ok, nmX12, rfl, by decide +kernel, fun h => by cases h⟩
theorem fX12_price_13 : jF wsX12_price RX12 13 13 1 true (.array .int) := ⟨(RX12, TX12, 37), tyX12, rfl, by decide, by decide +kernel, by decide +kernel, tyX12_ok, nmX12, rfl, by decide +kernel, by decide +kernel⟩
theorem fX12_price_52 : jF wsX12_price RX12 52 13 19 true (.array .int) := ⟨(RX12, TX12, 37), tyX12, rfl, by decide, by decide +kernel, by decide +kernel, tyX12_ok, nmX12, rfl, by decide +kernel, by decide +kernel⟩
theorem fX12_kind_9 : jF wsX12_kind RX12 9 13 0 true (.array .int) := ⟨(RX12, TX12, 37), tyX12, rfl, by decide, by decide +kernel, by decide +kernel, tyX12_ok, nmX12, rfl, by decide +kernel, by decide +kernel⟩
theorem fX12_kind_52 : jF wsX12_kind RX12 52 13 19 true (.array .int) := ⟨(RX12, TX12, 37), tyX12, rfl, by decide, by decide +kernel, by decide +kernel, tyX12_ok, nmX12, rfl, by decide +kernel, by decide +kernel⟩
theorem fX12_sizeOf_26 : jF wsX12_sizeOf RX12 26 13 7 true (.array .char) := ⟨(RX12, TX12, 37), tyX12, rfl, by decide, by decide +kernel, by decide +kernel, tyX12_ok, nmX12, rfl, by decide +kernel, by decide +kernel⟩
theorem fX12_sizeOf_35 : jF wsX12_sizeOf RX12 35 13 10 true (.array .int) := ⟨(RX12, TX12, 37), tyX12, rfl, by decide, by decide +kernel, by decide +kernel, tyX12_ok, nmX12, rfl, by decide +kernel, by decide +kernel⟩
theorem fX12_sizeOf_32 : jF wsX12_sizeOf RX12 32 13 9 true (.array .int) := ⟨(RX12, TX12, 37), tyX12, rfl, by decide, by decide +kernel, by decide +kernel, tyX12_ok, nmX12, rfl, by decide +kernel, by decide +kernel⟩
theorem fX12_wants_26 : jF wsX12_wants RX12 26 13 7 true (.array .char) := ⟨(RX12, TX12, 37), tyX12, rfl, by decide, by decide +kernel, by decide +kernel, tyX12_ok, nmX12, rfl, by decide +kernel, by decide +kernel⟩
theorem fX12_wants_29 : jF wsX12_wants RX12 29 13 8 true (.array .int) := ⟨(RX12, TX12, 37), tyX12, rfl, by decide, by decide +kernel, by decide +kernel, tyX12_ok, nmX12, rfl, by decide +kernel, by decide +kernel⟩
theorem fX12_wants_32 : jF wsX12_wants RX12 32 13 9 true (.array .int) := ⟨(RX12, TX12, 37), tyX12, rfl, by decide, by decide +kernel, by decide +kernel, tyX12_ok, nmX12, rfl, by decide +kernel, by decide +kernel⟩
theorem fX12_wants_35 : jF wsX12_wants RX12 35 13 10 true (.array .int) := ⟨(RX12, TX12, 37), tyX12, rfl, by decide, by decide +kernel, by decide +kernel, tyX12_ok, nmX12, rfl, by decide +kernel, by decide +kernel⟩
theorem fX12_fits_93 : jF wsX12_fits RX12 93 13 20 false .int := ⟨(RX12, TX12, 37), tyX12, rfl, by decide, by decide +kernel, by decide +kernel, tyX12_ok, nmX12, rfl, by decide +kernel, fun h => by cases h⟩
theorem fX12_discount_93 : jF wsX12_discount RX12 93 13 20 false .int := ⟨(RX12, TX12, 37), tyX12, rfl, by decide, by decide +kernel, by decide +kernel, tyX12_ok, nmX12, rfl, by decide +kernel, fun h => by cases h⟩
theorem fX12_discount_26 : jF wsX12_discount RX12 26 13 7 true (.array .char) := ⟨(RX12, TX12, 37), tyX12, rfl, by decide, by decide +kernel, by decide +kernel, tyX12_ok, nmX12, rfl, by decide +kernel, by decide +kernel⟩
theorem fX12_discount_38 : jF wsX12_discount RX12 38 13 11 true (.array .int) := ⟨(RX12, TX12, 37), tyX12, rfl, by decide, by decide +kernel, by decide +kernel, tyX12_ok, nmX12, rfl, by decide +kernel, by decide +kernel⟩
theorem fX12_discount_32 : jF wsX12_discount RX12 32 13 9 true (.array .int) := ⟨(RX12, TX12, 37), tyX12, rfl, by decide, by decide +kernel, by decide +kernel, tyX12_ok, nmX12, rfl, by decide +kernel, by decide +kernel⟩
theorem fX12_isGood_26 : jF wsX12_isGood RX12 26 13 7 true (.array .char) := ⟨(RX12, TX12, 37), tyX12, rfl, by decide, by decide +kernel, by decide +kernel, tyX12_ok, nmX12, rfl, by decide +kernel, by decide +kernel⟩
theorem fX12_canThreshold_26 : jF wsX12_canThreshold RX12 26 13 7 true (.array .char) := ⟨(RX12, TX12, 37), tyX12, rfl, by decide, by decide +kernel, by decide +kernel, tyX12_ok, nmX12, rfl, by decide +kernel, by decide +kernel⟩
theorem fX12_canThreshold_29 : jF wsX12_canThreshold RX12 29 13 8 true (.array .int) := ⟨(RX12, TX12, 37), tyX12, rfl, by decide, by decide +kernel, by decide +kernel, tyX12_ok, nmX12, rfl, by decide +kernel, by decide +kernel⟩
theorem fX12_canThreshold_44 : jF wsX12_canThreshold RX12 44 13 13 true (.array .int) := ⟨(RX12, TX12, 37), tyX12, rfl, by decide, by decide +kernel, by decide +kernel, tyX12_ok, nmX12, rfl, by decide +kernel, by decide +kernel⟩
theorem fX12_canThreshold_61 : jF wsX12_canThreshold RX12 61 13 23 true (.array .int) := ⟨(RX12, TX12, 37), tyX12, rfl, by decide, by decide +kernel, by decide +kernel, tyX12_ok, nmX12, rfl, by decide +kernel, by decide +kernel⟩
theorem fX12_hopes_121 : jF wsX12_hopes RX12 121 13 14 false .int := ⟨(RX12, TX12, 37), tyX12, rfl, by decide, by decide +kernel, by decide +kernel, tyX12_ok, nmX12, rfl, by decide +kernel, fun h => by cases h⟩
theorem fX12_hopes_32 : jF wsX12_hopes RX12 32 13 9 true (.array .int) := ⟨(RX12, TX12, 37), tyX12, rfl, by decide, by decide +kernel, by decide +kernel, tyX12_ok, nmX12, rfl, by decide +kernel, by decide +kernel⟩
theorem fX12_mayUse_26 : jF wsX12_mayUse RX12 26 13 7 true (.array .char) := ⟨(RX12, TX12, 37), tyX12, rfl, by decide, by decide +kernel, by decide +kernel, tyX12_ok, nmX12, rfl, by decide +kernel, by decide +kernel⟩
theorem fX12_mayUse_58 : jF wsX12_mayUse RX12 58 13 22 true (.array .int) := ⟨(RX12, TX12, 37), tyX12, rfl, by decide, by decide +kernel, by decide +kernel, tyX12_ok, nmX12, rfl, by decide +kernel, by decide +kernel⟩
theorem fX12_mayUse_44 : jF wsX12_mayUse RX12 44 13 13 true (.array .int) := ⟨(RX12, TX12, 37), tyX12, rfl, by decide, by decide +kernel, by decide +kernel, tyX12_ok, nmX12, rfl, by decide +kernel, by decide +kernel⟩
theorem fX12_mayUse_61 : jF wsX12_mayUse RX12 61 13 23 true (.array .int) := ⟨(RX12, TX12, 37), tyX12, rfl, by decide, by decide +kernel, by decide +kernel, tyX12_ok, nmX12, rfl, by decide +kernel, by decide +kernel⟩
def maddT (o : Nat) (good limit group : Int32) : Int32 := if good = 0 then 1 else if withinV limit 1 9 = 0 then 1 else if withinV group (-1) 3 = 0 then 1 else if nI o = 6 then 2 else 0
def madd (o : Nat) (V : Nat → Int32) (M : Nat → Nat → Int32) (sort fi se th good limit group : Int32) : Int32 × VM :=
  if maddT o good limit group = 0 then (nI o, (sV (sV (sV V 4 0) 2 (nI (o + 1))) 7 0, sM (sM (sM (sM (sM (sM M 6 (upd (M 6) o (vp_nar .char sort))) 7 (upd (M 7) o fi)) 8 (upd (M 8) o se)) 9 (upd (M 9) o th)) 11 (upd (M 11) o limit)) 12 (upd (M 12) o group)))
  else (0, (sV V 4 (maddT o good limit group), M))
theorem maddT_lt {o : Nat} {good limit group : Int32} (ho : o ≤ 6) (h : maddT o good limit group = 0) : o < 6 := by
  unfold maddT at h
  by_cases h1 : good = 0
  · rw [if_pos h1] at h; exact absurd h (by decide)
  · rw [if_neg h1] at h
    by_cases h2 : withinV limit 1 9 = 0
    · rw [if_pos h2] at h; exact absurd h (by decide)
    · rw [if_neg h2] at h
      by_cases h3 : withinV group (-1) 3 = 0
      · rw [if_pos h3] at h; exact absurd h (by decide)
      · rw [if_neg h3] at h
        by_cases h4 : nI o = 6
        · rw [if_pos h4] at h; exact absurd h (by decide)
        · exact o6 ho h4
set_option maxHeartbeats 4000000 in
set_option maxRecDepth 100000 in
theorem c_X12_adds (G : jG) (ad : Nat → Nat) (V : Nat → Int32) (M : Nat → Nat → Int32) (t : Int64) (o : Nat) (ho2 : V 2 = nI o) (ho : o ≤ 6) (sort fi se th good limit group : Int32) : jD G 1 yX12_adds wsX12_adds [.ref (ad 0), .int sort, .int fi, .int se, .int th, .int good, .int limit, .int group] (wM G ad V M t) (some (.int (madd o V M sort fi se th good limit group).1)) (wM G ad (madd o V M sort fi se th good limit group).2.1 (madd o V M sort fi se th good limit group).2.2 t) := by
  refine jC.of (maxL := 8) (cc := cX12_adds) (ret := (some .int)) rfl (by decide) [some (.ref (ad 0)), some (.int sort), some (.int fi), some (.int se), some (.int th), some (.int good), some (.int limit), some (.int group)] rfl (Nat.le_of_ble_eq_true rfl) (j_args rfl) (fun X hX => ?_)
  refine j_aload_n hX dX12_adds_0 rfl ?_
  refine j_iload hX dX12_adds_1 rfl ?_
  refine j_if_eq hX (tgt := 27) dX12_adds_3 (by decide) (fun h3 => ?_) (fun h3 => ?_)
  · refine j_iconst hX (v := 1) (by decide) dX12_adds_27 ?_
    refine j_goto hX (tgt := 45) dX12_adds_28 (by decide) ?_
    refine j_putf hX (ws' := (wM G ad (sV V 4 1) M t)) dX12_adds_45 fX12_adds_89 0 (wMg0 _ _ _ _ _) (Nat.le_of_ble_eq_true rfl) rfl rfl (wMp0_18 _ _ _ _ _ _) ?_
    refine j_aload_n hX dX12_adds_48 rfl ?_
    refine j_getf hX (v := .int 1) dX12_adds_49 fX12_adds_89 0 (wMg0 _ _ _ _ _) rfl ?_
    refine j_if_le_f hX (tgt := 57) dX12_adds_52 (by decide) (by decide) ?_
    refine j_iconst hX (v := 0) (by decide) dX12_adds_55 ?_
    exact j_iret hX dX12_adds_56 (by have e7 : maddT o good limit group = 1 := (by simp only [maddT, if_pos h3]); have e8 : madd o V M sort fi se th good limit group = (0, ((sV V 4 1), M)) := (by rw [madd, e7]; rfl); rw [e8]; exact ⟨rfl, rfl⟩)
  · refine j_iload hX dX12_adds_6 rfl ?_
    refine j_iconst hX (v := 1) (by decide) dX12_adds_8 ?_
    refine j_bipush hX (v := 9) (by decide) dX12_adds_9 ?_
    refine j_dS hX (nA := 3) (As := [.int limit, .int 1, .int 9]) (st := [.ref (ad 0)]) (st' := [.int (withinV limit 1 9), .ref (ad 0)]) dX12_adds_11 (c_X12_in G) gX12_adds_X12_in rfl (by decide +kernel) (by decide) (Nat.le_of_ble_eq_true rfl) rfl (Nat.le_of_ble_eq_true rfl) rfl ⟨Nat.le_refl _, Nat.le_refl _⟩ rfl ?_
    refine j_if_eq hX (tgt := 27) dX12_adds_14 (by decide) (fun h14 => ?_) (fun h14 => ?_)
    · refine j_iconst hX (v := 1) (by decide) dX12_adds_27 ?_
      refine j_goto hX (tgt := 45) dX12_adds_28 (by decide) ?_
      refine j_putf hX (ws' := (wM G ad (sV V 4 1) M t)) dX12_adds_45 fX12_adds_89 0 (wMg0 _ _ _ _ _) (Nat.le_of_ble_eq_true rfl) rfl rfl (wMp0_18 _ _ _ _ _ _) ?_
      refine j_aload_n hX dX12_adds_48 rfl ?_
      refine j_getf hX (v := .int 1) dX12_adds_49 fX12_adds_89 0 (wMg0 _ _ _ _ _) rfl ?_
      refine j_if_le_f hX (tgt := 57) dX12_adds_52 (by decide) (by decide) ?_
      refine j_iconst hX (v := 0) (by decide) dX12_adds_55 ?_
      exact j_iret hX dX12_adds_56 (by have e7 : maddT o good limit group = 1 := (by simp only [maddT, if_neg h3, if_pos h14]); have e8 : madd o V M sort fi se th good limit group = (0, ((sV V 4 1), M)) := (by rw [madd, e7]; rfl); rw [e8]; exact ⟨rfl, rfl⟩)
    · refine j_iload hX dX12_adds_17 rfl ?_
      refine j_iconst hX (v := -1) (by decide) dX12_adds_19 ?_
      refine j_iconst hX (v := 3) (by decide) dX12_adds_20 ?_
      refine j_dS hX (nA := 3) (As := [.int group, .int (-1), .int 3]) (st := [.ref (ad 0)]) (st' := [.int (withinV group (-1) 3), .ref (ad 0)]) dX12_adds_21 (c_X12_in G) gX12_adds_X12_in rfl (by decide +kernel) (by decide) (Nat.le_of_ble_eq_true rfl) rfl (Nat.le_of_ble_eq_true rfl) rfl ⟨Nat.le_refl _, Nat.le_refl _⟩ rfl ?_
      refine j_if_ne hX (tgt := 31) dX12_adds_24 (by decide) (fun h24 => ?_) (fun h24 => ?_)
      · refine j_aload_n hX dX12_adds_31 rfl ?_
        refine j_getf hX (v := .int (V 2)) dX12_adds_32 fX12_adds_121 0 (wMg0 _ _ _ _ _) rfl ?_
        refine jW.top ho2 ?_
        refine j_bipush hX (v := 6) (by decide) dX12_adds_35 ?_
        refine j_icmp_ne hX (tgt := 44) dX12_adds_37 (by decide) (fun h37 => ?_) (fun h37 => ?_)
        · refine j_iconst hX (v := 0) (by decide) dX12_adds_44 ?_
          refine j_putf hX (ws' := (wM G ad (sV V 4 0) M t)) dX12_adds_45 fX12_adds_89 0 (wMg0 _ _ _ _ _) (Nat.le_of_ble_eq_true rfl) rfl rfl (wMp0_18 _ _ _ _ _ _) ?_
          refine j_aload_n hX dX12_adds_48 rfl ?_
          refine j_getf hX (v := .int 0) dX12_adds_49 fX12_adds_89 0 (wMg0 _ _ _ _ _) rfl ?_
          refine j_if_le_t hX (tgt := 57) dX12_adds_52 (by decide) (by decide) ?_
          have ho0 : o < 6 := o6 ho h37
          refine j_aload_n hX dX12_adds_57 rfl ?_
          refine j_getf hX (v := .ref (ad 6)) dX12_adds_58 fX12_adds_26 0 (wMg0 _ _ _ _ _) rfl ?_
          refine j_aload_n hX dX12_adds_61 rfl ?_
          refine j_getf hX (v := .int (V 2)) dX12_adds_62 fX12_adds_121 0 (wMg0 _ _ _ _ _) rfl ?_
          refine jW.top ho2 ?_
          refine j_iload_n hX dX12_adds_65 rfl ?_
          refine j_cast hX (ws' := (wM G ad (sV V 4 0) (sM M 6 (upd (M 6) o (vp_nar .char sort))) t)) dX12_adds_66 6 (wMg6 _ _ _ _ _) (nI_in (by omega) (by decide)) (by rw [nI_clamp (by omega)]; exact (wMp6 _ _ _ _ _ _)) ?_
          refine j_aload_n hX dX12_adds_67 rfl ?_
          refine j_getf hX (v := .ref (ad 7)) dX12_adds_68 fX12_adds_29 0 (wMg0 _ _ _ _ _) rfl ?_
          refine j_aload_n hX dX12_adds_71 rfl ?_
          refine j_getf hX (v := .int (V 2)) dX12_adds_72 fX12_adds_121 0 (wMg0 _ _ _ _ _) rfl ?_
          refine jW.top ho2 ?_
          refine j_iload_n hX dX12_adds_75 rfl ?_
          refine j_iast hX (ws' := (wM G ad (sV V 4 0) (sM (sM M 6 (upd (M 6) o (vp_nar .char sort))) 7 (upd (M 7) o fi)) t)) dX12_adds_76 7 (wMg7 _ _ _ _ _) (nI_in (by omega) (by decide)) (by rw [nI_clamp (by omega)]; exact (wMp7 _ _ _ _ _ _)) ?_
          refine j_aload_n hX dX12_adds_77 rfl ?_
          refine j_getf hX (v := .ref (ad 8)) dX12_adds_78 fX12_adds_32 0 (wMg0 _ _ _ _ _) rfl ?_
          refine j_aload_n hX dX12_adds_81 rfl ?_
          refine j_getf hX (v := .int (V 2)) dX12_adds_82 fX12_adds_121 0 (wMg0 _ _ _ _ _) rfl ?_
          refine jW.top ho2 ?_
          refine j_iload_n hX dX12_adds_85 rfl ?_
          refine j_iast hX (ws' := (wM G ad (sV V 4 0) (sM (sM (sM M 6 (upd (M 6) o (vp_nar .char sort))) 7 (upd (M 7) o fi)) 8 (upd (M 8) o se)) t)) dX12_adds_86 8 (wMg8 _ _ _ _ _) (nI_in (by omega) (by decide)) (by rw [nI_clamp (by omega)]; exact (wMp8 _ _ _ _ _ _)) ?_
          refine j_aload_n hX dX12_adds_87 rfl ?_
          refine j_getf hX (v := .ref (ad 9)) dX12_adds_88 fX12_adds_35 0 (wMg0 _ _ _ _ _) rfl ?_
          refine j_aload_n hX dX12_adds_91 rfl ?_
          refine j_getf hX (v := .int (V 2)) dX12_adds_92 fX12_adds_121 0 (wMg0 _ _ _ _ _) rfl ?_
          refine jW.top ho2 ?_
          refine j_iload hX dX12_adds_95 rfl ?_
          refine j_iast hX (ws' := (wM G ad (sV V 4 0) (sM (sM (sM (sM M 6 (upd (M 6) o (vp_nar .char sort))) 7 (upd (M 7) o fi)) 8 (upd (M 8) o se)) 9 (upd (M 9) o th)) t)) dX12_adds_97 9 (wMg9 _ _ _ _ _) (nI_in (by omega) (by decide)) (by rw [nI_clamp (by omega)]; exact (wMp9 _ _ _ _ _ _)) ?_
          refine j_aload_n hX dX12_adds_98 rfl ?_
          refine j_getf hX (v := .ref (ad 11)) dX12_adds_99 fX12_adds_41 0 (wMg0 _ _ _ _ _) rfl ?_
          refine j_aload_n hX dX12_adds_102 rfl ?_
          refine j_getf hX (v := .int (V 2)) dX12_adds_103 fX12_adds_121 0 (wMg0 _ _ _ _ _) rfl ?_
          refine jW.top ho2 ?_
          refine j_iload hX dX12_adds_106 rfl ?_
          refine j_iast hX (ws' := (wM G ad (sV V 4 0) (sM (sM (sM (sM (sM M 6 (upd (M 6) o (vp_nar .char sort))) 7 (upd (M 7) o fi)) 8 (upd (M 8) o se)) 9 (upd (M 9) o th)) 11 (upd (M 11) o limit)) t)) dX12_adds_108 11 (wMg11 _ _ _ _ _) (nI_in (by omega) (by decide)) (by rw [nI_clamp (by omega)]; exact (wMp11 _ _ _ _ _ _)) ?_
          refine j_aload_n hX dX12_adds_109 rfl ?_
          refine j_getf hX (v := .ref (ad 12)) dX12_adds_110 fX12_adds_44 0 (wMg0 _ _ _ _ _) rfl ?_
          refine j_aload_n hX dX12_adds_113 rfl ?_
          refine j_getf hX (v := .int (V 2)) dX12_adds_114 fX12_adds_121 0 (wMg0 _ _ _ _ _) rfl ?_
          refine jW.top ho2 ?_
          refine j_iload hX dX12_adds_117 rfl ?_
          refine j_iast hX (ws' := (wM G ad (sV V 4 0) (sM (sM (sM (sM (sM (sM M 6 (upd (M 6) o (vp_nar .char sort))) 7 (upd (M 7) o fi)) 8 (upd (M 8) o se)) 9 (upd (M 9) o th)) 11 (upd (M 11) o limit)) 12 (upd (M 12) o group)) t)) dX12_adds_119 12 (wMg12 _ _ _ _ _) (nI_in (by omega) (by decide)) (by rw [nI_clamp (by omega)]; exact (wMp12 _ _ _ _ _ _)) ?_
          refine j_aload_n hX dX12_adds_120 rfl ?_
          refine j_dup hX dX12_adds_121 rfl ?_
          refine j_getf hX (v := .int (V 2)) dX12_adds_122 fX12_adds_121 0 (wMg0 _ _ _ _ _) rfl ?_
          refine jW.top ho2 ?_
          refine j_iconst hX (v := 1) (by decide) dX12_adds_125 ?_
          refine j_iadd hX dX12_adds_126 ?_
          refine jW.top (nI_1 _) ?_
          refine j_putf hX (ws' := (wM G ad (sV (sV V 4 0) 2 (nI (o + 1))) (sM (sM (sM (sM (sM (sM M 6 (upd (M 6) o (vp_nar .char sort))) 7 (upd (M 7) o fi)) 8 (upd (M 8) o se)) 9 (upd (M 9) o th)) 11 (upd (M 11) o limit)) 12 (upd (M 12) o group)) t)) dX12_adds_127 fX12_adds_121 0 (wMg0 _ _ _ _ _) (Nat.le_of_ble_eq_true rfl) rfl rfl (wMp0_14 _ _ _ _ _ _) ?_
          refine j_aload_n hX dX12_adds_130 rfl ?_
          refine j_iconst hX (v := 0) (by decide) dX12_adds_131 ?_
          refine j_putf hX (ws' := (wM G ad (sV (sV (sV V 4 0) 2 (nI (o + 1))) 7 0) (sM (sM (sM (sM (sM (sM M 6 (upd (M 6) o (vp_nar .char sort))) 7 (upd (M 7) o fi)) 8 (upd (M 8) o se)) 9 (upd (M 9) o th)) 11 (upd (M 11) o limit)) 12 (upd (M 12) o group)) t)) dX12_adds_132 fX12_adds_106 0 (wMg0 _ _ _ _ _) (Nat.le_of_ble_eq_true rfl) (by decide) rfl (wMp0_28 _ _ _ _ _ _) ?_
          refine j_aload_n hX dX12_adds_135 rfl ?_
          refine j_getf hX (v := .int (nI (o + 1))) dX12_adds_136 fX12_adds_121 0 (wMg0 _ _ _ _ _) rfl ?_
          refine j_iconst hX (v := 1) (by decide) dX12_adds_139 ?_
          refine j_isub hX dX12_adds_140 ?_
          refine jW.top (nI_pred o) ?_
          exact j_iret hX dX12_adds_141 (by have e7 : maddT o good limit group = 0 := (by simp only [maddT, if_neg h3, if_neg h14, if_neg h24, if_neg h37]); have e8 : madd o V M sort fi se th good limit group = (nI o, ((sV (sV (sV V 4 0) 2 (nI (o + 1))) 7 0), (sM (sM (sM (sM (sM (sM M 6 (upd (M 6) o (vp_nar .char sort))) 7 (upd (M 7) o fi)) 8 (upd (M 8) o se)) 9 (upd (M 9) o th)) 11 (upd (M 11) o limit)) 12 (upd (M 12) o group)))) := (by simp only [madd, e7, if_true]); rw [e8]; exact ⟨rfl, rfl⟩)
        · refine j_iconst hX (v := 2) (by decide) dX12_adds_40 ?_
          refine j_goto hX (tgt := 45) dX12_adds_41 (by decide) ?_
          refine j_putf hX (ws' := (wM G ad (sV V 4 2) M t)) dX12_adds_45 fX12_adds_89 0 (wMg0 _ _ _ _ _) (Nat.le_of_ble_eq_true rfl) rfl rfl (wMp0_18 _ _ _ _ _ _) ?_
          refine j_aload_n hX dX12_adds_48 rfl ?_
          refine j_getf hX (v := .int 2) dX12_adds_49 fX12_adds_89 0 (wMg0 _ _ _ _ _) rfl ?_
          refine j_if_le_f hX (tgt := 57) dX12_adds_52 (by decide) (by decide) ?_
          refine j_iconst hX (v := 0) (by decide) dX12_adds_55 ?_
          exact j_iret hX dX12_adds_56 (by have e7 : maddT o good limit group = 2 := (by simp only [maddT, if_neg h3, if_neg h14, if_neg h24, if_pos h37]); have e8 : madd o V M sort fi se th good limit group = (0, ((sV V 4 2), M)) := (by rw [madd, e7]; rfl); rw [e8]; exact ⟨rfl, rfl⟩)
      · refine j_iconst hX (v := 1) (by decide) dX12_adds_27 ?_
        refine j_goto hX (tgt := 45) dX12_adds_28 (by decide) ?_
        refine j_putf hX (ws' := (wM G ad (sV V 4 1) M t)) dX12_adds_45 fX12_adds_89 0 (wMg0 _ _ _ _ _) (Nat.le_of_ble_eq_true rfl) rfl rfl (wMp0_18 _ _ _ _ _ _) ?_
        refine j_aload_n hX dX12_adds_48 rfl ?_
        refine j_getf hX (v := .int 1) dX12_adds_49 fX12_adds_89 0 (wMg0 _ _ _ _ _) rfl ?_
        refine j_if_le_f hX (tgt := 57) dX12_adds_52 (by decide) (by decide) ?_
        refine j_iconst hX (v := 0) (by decide) dX12_adds_55 ?_
        exact j_iret hX dX12_adds_56 (by have e7 : maddT o good limit group = 1 := (by simp only [maddT, if_neg h3, if_neg h14, if_pos h24]); have e8 : madd o V M sort fi se th good limit group = (0, ((sV V 4 1), M)) := (by rw [madd, e7]; rfl); rw [e8]; exact ⟨rfl, rfl⟩)

def mpct (o : Nat) (V : Nat → Int32) (M : Nat → Nat → Int32) (kind x limit group : Int32) : Int32 × VM := madd o V M 112 kind x (-1) (if withinV kind 0 9 = 0 then 0 else if withinV x 1 90 = 0 then 0 else 1) limit group
set_option maxHeartbeats 4000000 in
set_option maxRecDepth 100000 in
theorem c_X12_addPercentage (G : jG) (ad : Nat → Nat) (V : Nat → Int32) (M : Nat → Nat → Int32) (t : Int64) (o : Nat) (ho2 : V 2 = nI o) (ho : o ≤ 6) (kind x limit group : Int32) : jD G 2 yX12_addPercentage wsX12_addPercentage [.ref (ad 0), .int kind, .int x, .int limit, .int group] (wM G ad V M t) (some (.int (mpct o V M kind x limit group).1)) (wM G ad (mpct o V M kind x limit group).2.1 (mpct o V M kind x limit group).2.2 t) := by
  refine jC.of (maxL := 5) (cc := cX12_addPercentage) (ret := (some .int)) rfl (by decide) [some (.ref (ad 0)), some (.int kind), some (.int x), some (.int limit), some (.int group)] rfl (Nat.le_of_ble_eq_true rfl) (j_args rfl) (fun X hX => ?_)
  refine j_aload_n hX dX12_addPercentage_0 rfl ?_
  refine j_bipush hX (v := 112) (by decide) dX12_addPercentage_1 ?_
  refine j_iload_n hX dX12_addPercentage_3 rfl ?_
  refine j_iload_n hX dX12_addPercentage_4 rfl ?_
  refine j_iconst hX (v := -1) (by decide) dX12_addPercentage_5 ?_
  refine j_iload_n hX dX12_addPercentage_6 rfl ?_
  refine j_iconst hX (v := 0) (by decide) dX12_addPercentage_7 ?_
  refine j_bipush hX (v := 9) (by decide) dX12_addPercentage_8 ?_
  refine j_dS hX (nA := 3) (As := [.int kind, .int 0, .int 9]) (st := [.int (-1), .int x, .int kind, .int 112, .ref (ad 0)]) (st' := [.int (withinV kind 0 9), .int (-1), .int x, .int kind, .int 112, .ref (ad 0)]) dX12_addPercentage_10 (c_X12_in G) gX12_addPercentage_X12_in rfl (by decide +kernel) (by decide) (Nat.le_of_ble_eq_true rfl) rfl (Nat.le_of_ble_eq_true rfl) rfl ⟨Nat.le_refl _, Nat.le_refl _⟩ rfl ?_
  refine j_if_eq hX (tgt := 30) dX12_addPercentage_13 (by decide) (fun h13 => ?_) (fun h13 => ?_)
  · refine j_iconst hX (v := 0) (by decide) dX12_addPercentage_30 ?_
    refine j_iload_n hX dX12_addPercentage_31 rfl ?_
    refine j_iload hX dX12_addPercentage_32 rfl ?_
    refine j_dV hX (nA := 7) (cq := (RX12, TX12, 37)) (As := [.int 112, .int kind, .int x, .int (-1), .int 0, .int limit, .int group]) (st := []) (st' := [.int ((madd o V M 112 kind x (-1) 0 limit group).1)]) (ci := 13) rfl dX12_addPercentage_34 (c_X12_adds G _ V M _ o ho2 ho _ _ _ _ _ _ _) gX12_addPercentage_X12_adds rfl (by decide +kernel) (q := 0) (wMg0 _ _ _ _ _) (by decide) (Nat.le_of_ble_eq_true rfl) rfl (Nat.le_of_ble_eq_true rfl) rfl ⟨Nat.le_refl _, Nat.le_refl _⟩ rfl ?_
    exact j_iret hX dX12_addPercentage_37 (by have e8 : (mpct o V M kind x limit group) = (madd o V M 112 kind x (-1) 0 limit group) := (by simp only [mpct, if_pos h13]); rw [e8]; exact ⟨rfl, rfl⟩)
  · refine j_iload_n hX dX12_addPercentage_16 rfl ?_
    refine j_iconst hX (v := 1) (by decide) dX12_addPercentage_17 ?_
    refine j_bipush hX (v := 90) (by decide) dX12_addPercentage_18 ?_
    refine j_dS hX (nA := 3) (As := [.int x, .int 1, .int 90]) (st := [.int (-1), .int x, .int kind, .int 112, .ref (ad 0)]) (st' := [.int (withinV x 1 90), .int (-1), .int x, .int kind, .int 112, .ref (ad 0)]) dX12_addPercentage_20 (c_X12_in G) gX12_addPercentage_X12_in rfl (by decide +kernel) (by decide) (Nat.le_of_ble_eq_true rfl) rfl (Nat.le_of_ble_eq_true rfl) rfl ⟨Nat.le_refl _, Nat.le_refl _⟩ rfl ?_
    refine j_if_eq hX (tgt := 30) dX12_addPercentage_23 (by decide) (fun h23 => ?_) (fun h23 => ?_)
    · refine j_iconst hX (v := 0) (by decide) dX12_addPercentage_30 ?_
      refine j_iload_n hX dX12_addPercentage_31 rfl ?_
      refine j_iload hX dX12_addPercentage_32 rfl ?_
      refine j_dV hX (nA := 7) (cq := (RX12, TX12, 37)) (As := [.int 112, .int kind, .int x, .int (-1), .int 0, .int limit, .int group]) (st := []) (st' := [.int ((madd o V M 112 kind x (-1) 0 limit group).1)]) (ci := 13) rfl dX12_addPercentage_34 (c_X12_adds G _ V M _ o ho2 ho _ _ _ _ _ _ _) gX12_addPercentage_X12_adds rfl (by decide +kernel) (q := 0) (wMg0 _ _ _ _ _) (by decide) (Nat.le_of_ble_eq_true rfl) rfl (Nat.le_of_ble_eq_true rfl) rfl ⟨Nat.le_refl _, Nat.le_refl _⟩ rfl ?_
      exact j_iret hX dX12_addPercentage_37 (by have e8 : (mpct o V M kind x limit group) = (madd o V M 112 kind x (-1) 0 limit group) := (by simp only [mpct, if_neg h13, if_pos h23]); rw [e8]; exact ⟨rfl, rfl⟩)
    · refine j_iconst hX (v := 1) (by decide) dX12_addPercentage_26 ?_
      refine j_goto hX (tgt := 31) dX12_addPercentage_27 (by decide) ?_
      refine j_iload_n hX dX12_addPercentage_31 rfl ?_
      refine j_iload hX dX12_addPercentage_32 rfl ?_
      refine j_dV hX (nA := 7) (cq := (RX12, TX12, 37)) (As := [.int 112, .int kind, .int x, .int (-1), .int 1, .int limit, .int group]) (st := []) (st' := [.int ((madd o V M 112 kind x (-1) 1 limit group).1)]) (ci := 13) rfl dX12_addPercentage_34 (c_X12_adds G _ V M _ o ho2 ho _ _ _ _ _ _ _) gX12_addPercentage_X12_adds rfl (by decide +kernel) (q := 0) (wMg0 _ _ _ _ _) (by decide) (Nat.le_of_ble_eq_true rfl) rfl (Nat.le_of_ble_eq_true rfl) rfl ⟨Nat.le_refl _, Nat.le_refl _⟩ rfl ?_
      exact j_iret hX dX12_addPercentage_37 (by have e8 : (mpct o V M kind x limit group) = (madd o V M 112 kind x (-1) 1 limit group) := (by simp only [mpct, if_neg h13, if_neg h23]); rw [e8]; exact ⟨rfl, rfl⟩)

def mfree (o : Nat) (V : Nat → Int32) (M : Nat → Nat → Int32) (kind x limit group : Int32) : Int32 × VM := madd o V M 102 kind x (-1) (if withinV kind 0 9 = 0 then 0 else if withinV x 2 5 = 0 then 0 else 1) limit group
set_option maxHeartbeats 4000000 in
set_option maxRecDepth 100000 in
theorem c_X12_addFreeItem (G : jG) (ad : Nat → Nat) (V : Nat → Int32) (M : Nat → Nat → Int32) (t : Int64) (o : Nat) (ho2 : V 2 = nI o) (ho : o ≤ 6) (kind x limit group : Int32) : jD G 2 yX12_addFreeItem wsX12_addFreeItem [.ref (ad 0), .int kind, .int x, .int limit, .int group] (wM G ad V M t) (some (.int (mfree o V M kind x limit group).1)) (wM G ad (mfree o V M kind x limit group).2.1 (mfree o V M kind x limit group).2.2 t) := by
  refine jC.of (maxL := 5) (cc := cX12_addFreeItem) (ret := (some .int)) rfl (by decide) [some (.ref (ad 0)), some (.int kind), some (.int x), some (.int limit), some (.int group)] rfl (Nat.le_of_ble_eq_true rfl) (j_args rfl) (fun X hX => ?_)
  refine j_aload_n hX dX12_addFreeItem_0 rfl ?_
  refine j_bipush hX (v := 102) (by decide) dX12_addFreeItem_1 ?_
  refine j_iload_n hX dX12_addFreeItem_3 rfl ?_
  refine j_iload_n hX dX12_addFreeItem_4 rfl ?_
  refine j_iconst hX (v := -1) (by decide) dX12_addFreeItem_5 ?_
  refine j_iload_n hX dX12_addFreeItem_6 rfl ?_
  refine j_iconst hX (v := 0) (by decide) dX12_addFreeItem_7 ?_
  refine j_bipush hX (v := 9) (by decide) dX12_addFreeItem_8 ?_
  refine j_dS hX (nA := 3) (As := [.int kind, .int 0, .int 9]) (st := [.int (-1), .int x, .int kind, .int 102, .ref (ad 0)]) (st' := [.int (withinV kind 0 9), .int (-1), .int x, .int kind, .int 102, .ref (ad 0)]) dX12_addFreeItem_10 (c_X12_in G) gX12_addFreeItem_X12_in rfl (by decide +kernel) (by decide) (Nat.le_of_ble_eq_true rfl) rfl (Nat.le_of_ble_eq_true rfl) rfl ⟨Nat.le_refl _, Nat.le_refl _⟩ rfl ?_
  refine j_if_eq hX (tgt := 29) dX12_addFreeItem_13 (by decide) (fun h13 => ?_) (fun h13 => ?_)
  · refine j_iconst hX (v := 0) (by decide) dX12_addFreeItem_29 ?_
    refine j_iload_n hX dX12_addFreeItem_30 rfl ?_
    refine j_iload hX dX12_addFreeItem_31 rfl ?_
    refine j_dV hX (nA := 7) (cq := (RX12, TX12, 37)) (As := [.int 102, .int kind, .int x, .int (-1), .int 0, .int limit, .int group]) (st := []) (st' := [.int ((madd o V M 102 kind x (-1) 0 limit group).1)]) (ci := 13) rfl dX12_addFreeItem_33 (c_X12_adds G _ V M _ o ho2 ho _ _ _ _ _ _ _) gX12_addFreeItem_X12_adds rfl (by decide +kernel) (q := 0) (wMg0 _ _ _ _ _) (by decide) (Nat.le_of_ble_eq_true rfl) rfl (Nat.le_of_ble_eq_true rfl) rfl ⟨Nat.le_refl _, Nat.le_refl _⟩ rfl ?_
    exact j_iret hX dX12_addFreeItem_36 (by have e8 : (mfree o V M kind x limit group) = (madd o V M 102 kind x (-1) 0 limit group) := (by simp only [mfree, if_pos h13]); rw [e8]; exact ⟨rfl, rfl⟩)
  · refine j_iload_n hX dX12_addFreeItem_16 rfl ?_
    refine j_iconst hX (v := 2) (by decide) dX12_addFreeItem_17 ?_
    refine j_iconst hX (v := 5) (by decide) dX12_addFreeItem_18 ?_
    refine j_dS hX (nA := 3) (As := [.int x, .int 2, .int 5]) (st := [.int (-1), .int x, .int kind, .int 102, .ref (ad 0)]) (st' := [.int (withinV x 2 5), .int (-1), .int x, .int kind, .int 102, .ref (ad 0)]) dX12_addFreeItem_19 (c_X12_in G) gX12_addFreeItem_X12_in rfl (by decide +kernel) (by decide) (Nat.le_of_ble_eq_true rfl) rfl (Nat.le_of_ble_eq_true rfl) rfl ⟨Nat.le_refl _, Nat.le_refl _⟩ rfl ?_
    refine j_if_eq hX (tgt := 29) dX12_addFreeItem_22 (by decide) (fun h22 => ?_) (fun h22 => ?_)
    · refine j_iconst hX (v := 0) (by decide) dX12_addFreeItem_29 ?_
      refine j_iload_n hX dX12_addFreeItem_30 rfl ?_
      refine j_iload hX dX12_addFreeItem_31 rfl ?_
      refine j_dV hX (nA := 7) (cq := (RX12, TX12, 37)) (As := [.int 102, .int kind, .int x, .int (-1), .int 0, .int limit, .int group]) (st := []) (st' := [.int ((madd o V M 102 kind x (-1) 0 limit group).1)]) (ci := 13) rfl dX12_addFreeItem_33 (c_X12_adds G _ V M _ o ho2 ho _ _ _ _ _ _ _) gX12_addFreeItem_X12_adds rfl (by decide +kernel) (q := 0) (wMg0 _ _ _ _ _) (by decide) (Nat.le_of_ble_eq_true rfl) rfl (Nat.le_of_ble_eq_true rfl) rfl ⟨Nat.le_refl _, Nat.le_refl _⟩ rfl ?_
      exact j_iret hX dX12_addFreeItem_36 (by have e8 : (mfree o V M kind x limit group) = (madd o V M 102 kind x (-1) 0 limit group) := (by simp only [mfree, if_neg h13, if_pos h22]); rw [e8]; exact ⟨rfl, rfl⟩)
    · refine j_iconst hX (v := 1) (by decide) dX12_addFreeItem_25 ?_
      refine j_goto hX (tgt := 30) dX12_addFreeItem_26 (by decide) ?_
      refine j_iload_n hX dX12_addFreeItem_30 rfl ?_
      refine j_iload hX dX12_addFreeItem_31 rfl ?_
      refine j_dV hX (nA := 7) (cq := (RX12, TX12, 37)) (As := [.int 102, .int kind, .int x, .int (-1), .int 1, .int limit, .int group]) (st := []) (st' := [.int ((madd o V M 102 kind x (-1) 1 limit group).1)]) (ci := 13) rfl dX12_addFreeItem_33 (c_X12_adds G _ V M _ o ho2 ho _ _ _ _ _ _ _) gX12_addFreeItem_X12_adds rfl (by decide +kernel) (q := 0) (wMg0 _ _ _ _ _) (by decide) (Nat.le_of_ble_eq_true rfl) rfl (Nat.le_of_ble_eq_true rfl) rfl ⟨Nat.le_refl _, Nat.le_refl _⟩ rfl ?_
      exact j_iret hX dX12_addFreeItem_36 (by have e8 : (mfree o V M kind x limit group) = (madd o V M 102 kind x (-1) 1 limit group) := (by simp only [mfree, if_neg h13, if_neg h22]); rw [e8]; exact ⟨rfl, rfl⟩)

def mthr (o : Nat) (V : Nat → Int32) (M : Nat → Nat → Int32) (kind x limit group : Int32) : Int32 × VM := madd o V M 116 kind x (-1) (if withinV kind 1 9999 = 0 then 0 else if withinV x 1 9999 = 0 then 0 else 1) limit group
set_option maxHeartbeats 4000000 in
set_option maxRecDepth 100000 in
theorem c_X12_addThreshold (G : jG) (ad : Nat → Nat) (V : Nat → Int32) (M : Nat → Nat → Int32) (t : Int64) (o : Nat) (ho2 : V 2 = nI o) (ho : o ≤ 6) (kind x limit group : Int32) : jD G 2 yX12_addThreshold wsX12_addThreshold [.ref (ad 0), .int kind, .int x, .int limit, .int group] (wM G ad V M t) (some (.int (mthr o V M kind x limit group).1)) (wM G ad (mthr o V M kind x limit group).2.1 (mthr o V M kind x limit group).2.2 t) := by
  refine jC.of (maxL := 5) (cc := cX12_addThreshold) (ret := (some .int)) rfl (by decide) [some (.ref (ad 0)), some (.int kind), some (.int x), some (.int limit), some (.int group)] rfl (Nat.le_of_ble_eq_true rfl) (j_args rfl) (fun X hX => ?_)
  refine j_aload_n hX dX12_addThreshold_0 rfl ?_
  refine j_bipush hX (v := 116) (by decide) dX12_addThreshold_1 ?_
  refine j_iload_n hX dX12_addThreshold_3 rfl ?_
  refine j_iload_n hX dX12_addThreshold_4 rfl ?_
  refine j_iconst hX (v := -1) (by decide) dX12_addThreshold_5 ?_
  refine j_iload_n hX dX12_addThreshold_6 rfl ?_
  refine j_iconst hX (v := 1) (by decide) dX12_addThreshold_7 ?_
  refine j_sipush hX (v := 9999) (by decide) dX12_addThreshold_8 ?_
  refine j_dS hX (nA := 3) (As := [.int kind, .int 1, .int 9999]) (st := [.int (-1), .int x, .int kind, .int 116, .ref (ad 0)]) (st' := [.int (withinV kind 1 9999), .int (-1), .int x, .int kind, .int 116, .ref (ad 0)]) dX12_addThreshold_11 (c_X12_in G) gX12_addThreshold_X12_in rfl (by decide +kernel) (by decide) (Nat.le_of_ble_eq_true rfl) rfl (Nat.le_of_ble_eq_true rfl) rfl ⟨Nat.le_refl _, Nat.le_refl _⟩ rfl ?_
  refine j_if_eq hX (tgt := 32) dX12_addThreshold_14 (by decide) (fun h14 => ?_) (fun h14 => ?_)
  · refine j_iconst hX (v := 0) (by decide) dX12_addThreshold_32 ?_
    refine j_iload_n hX dX12_addThreshold_33 rfl ?_
    refine j_iload hX dX12_addThreshold_34 rfl ?_
    refine j_dV hX (nA := 7) (cq := (RX12, TX12, 37)) (As := [.int 116, .int kind, .int x, .int (-1), .int 0, .int limit, .int group]) (st := []) (st' := [.int ((madd o V M 116 kind x (-1) 0 limit group).1)]) (ci := 13) rfl dX12_addThreshold_36 (c_X12_adds G _ V M _ o ho2 ho _ _ _ _ _ _ _) gX12_addThreshold_X12_adds rfl (by decide +kernel) (q := 0) (wMg0 _ _ _ _ _) (by decide) (Nat.le_of_ble_eq_true rfl) rfl (Nat.le_of_ble_eq_true rfl) rfl ⟨Nat.le_refl _, Nat.le_refl _⟩ rfl ?_
    exact j_iret hX dX12_addThreshold_39 (by have e8 : (mthr o V M kind x limit group) = (madd o V M 116 kind x (-1) 0 limit group) := (by simp only [mthr, if_pos h14]); rw [e8]; exact ⟨rfl, rfl⟩)
  · refine j_iload_n hX dX12_addThreshold_17 rfl ?_
    refine j_iconst hX (v := 1) (by decide) dX12_addThreshold_18 ?_
    refine j_sipush hX (v := 9999) (by decide) dX12_addThreshold_19 ?_
    refine j_dS hX (nA := 3) (As := [.int x, .int 1, .int 9999]) (st := [.int (-1), .int x, .int kind, .int 116, .ref (ad 0)]) (st' := [.int (withinV x 1 9999), .int (-1), .int x, .int kind, .int 116, .ref (ad 0)]) dX12_addThreshold_22 (c_X12_in G) gX12_addThreshold_X12_in rfl (by decide +kernel) (by decide) (Nat.le_of_ble_eq_true rfl) rfl (Nat.le_of_ble_eq_true rfl) rfl ⟨Nat.le_refl _, Nat.le_refl _⟩ rfl ?_
    refine j_if_eq hX (tgt := 32) dX12_addThreshold_25 (by decide) (fun h25 => ?_) (fun h25 => ?_)
    · refine j_iconst hX (v := 0) (by decide) dX12_addThreshold_32 ?_
      refine j_iload_n hX dX12_addThreshold_33 rfl ?_
      refine j_iload hX dX12_addThreshold_34 rfl ?_
      refine j_dV hX (nA := 7) (cq := (RX12, TX12, 37)) (As := [.int 116, .int kind, .int x, .int (-1), .int 0, .int limit, .int group]) (st := []) (st' := [.int ((madd o V M 116 kind x (-1) 0 limit group).1)]) (ci := 13) rfl dX12_addThreshold_36 (c_X12_adds G _ V M _ o ho2 ho _ _ _ _ _ _ _) gX12_addThreshold_X12_adds rfl (by decide +kernel) (q := 0) (wMg0 _ _ _ _ _) (by decide) (Nat.le_of_ble_eq_true rfl) rfl (Nat.le_of_ble_eq_true rfl) rfl ⟨Nat.le_refl _, Nat.le_refl _⟩ rfl ?_
      exact j_iret hX dX12_addThreshold_39 (by have e8 : (mthr o V M kind x limit group) = (madd o V M 116 kind x (-1) 0 limit group) := (by simp only [mthr, if_neg h14, if_pos h25]); rw [e8]; exact ⟨rfl, rfl⟩)
    · refine j_iconst hX (v := 1) (by decide) dX12_addThreshold_28 ?_
      refine j_goto hX (tgt := 33) dX12_addThreshold_29 (by decide) ?_
      refine j_iload_n hX dX12_addThreshold_33 rfl ?_
      refine j_iload hX dX12_addThreshold_34 rfl ?_
      refine j_dV hX (nA := 7) (cq := (RX12, TX12, 37)) (As := [.int 116, .int kind, .int x, .int (-1), .int 1, .int limit, .int group]) (st := []) (st' := [.int ((madd o V M 116 kind x (-1) 1 limit group).1)]) (ci := 13) rfl dX12_addThreshold_36 (c_X12_adds G _ V M _ o ho2 ho _ _ _ _ _ _ _) gX12_addThreshold_X12_adds rfl (by decide +kernel) (q := 0) (wMg0 _ _ _ _ _) (by decide) (Nat.le_of_ble_eq_true rfl) rfl (Nat.le_of_ble_eq_true rfl) rfl ⟨Nat.le_refl _, Nat.le_refl _⟩ rfl ?_
      exact j_iret hX dX12_addThreshold_39 (by have e8 : (mthr o V M kind x limit group) = (madd o V M 116 kind x (-1) 1 limit group) := (by simp only [mthr, if_neg h14, if_neg h25]); rw [e8]; exact ⟨rfl, rfl⟩)

def goodB (f s th p : Int32) : Int32 := if withinV f 0 9 = 0 then 0 else if withinV s 0 9 = 0 then 0 else if withinV th (-1) 9 = 0 then 0 else if withinV p 1 9999 = 0 then 0 else 1
def maB (r : Int32 × VM) (p : Int32) : Int32 × VM := if r.2.1 4 = 0 then (r.1, (r.2.1, sM r.2.2 10 (upd (r.2.2 10) r.1.toNatClampNeg p))) else r
def mbun (o : Nat) (V : Nat → Int32) (M : Nat → Nat → Int32) (f s th p limit group : Int32) : Int32 × VM := maB (madd o V M 98 f s th (goodB f s th p) limit group) p
theorem madd_in {o : Nat} {V : Nat → Int32} {M : Nat → Nat → Int32} {sort fi se th good limit group : Int32} (ho : o ≤ 6) (h : (madd o V M sort fi se th good limit group).2.1 4 = 0) : vp_in (madd o V M sort fi se th good limit group).1 6 := by
  unfold madd at h ⊢
  by_cases e : maddT o good limit group = 0
  · rw [if_pos e]
    exact nI_in (maddT_lt ho e) (by decide)
  · rw [if_neg e] at h
    exact absurd h e
set_option maxHeartbeats 4000000 in
set_option maxRecDepth 100000 in
theorem c_X12_addBundle (G : jG) (ad : Nat → Nat) (V : Nat → Int32) (M : Nat → Nat → Int32) (t : Int64) (o : Nat) (ho2 : V 2 = nI o) (ho : o ≤ 6) (f s th p limit group : Int32) : jD G 2 yX12_addBundle wsX12_addBundle [.ref (ad 0), .int f, .int s, .int th, .int p, .int limit, .int group] (wM G ad V M t) (some (.int (mbun o V M f s th p limit group).1)) (wM G ad (mbun o V M f s th p limit group).2.1 (mbun o V M f s th p limit group).2.2 t) := by
  refine jC.of (maxL := 9) (cc := cX12_addBundle) (ret := (some .int)) rfl (by decide) [some (.ref (ad 0)), some (.int f), some (.int s), some (.int th), some (.int p), some (.int limit), some (.int group), none, none] rfl (Nat.le_of_ble_eq_true rfl) (j_args rfl) (fun X hX => ?_)
  refine j_iload_n hX dX12_addBundle_0 rfl ?_
  refine j_iconst hX (v := 0) (by decide) dX12_addBundle_1 ?_
  refine j_bipush hX (v := 9) (by decide) dX12_addBundle_2 ?_
  refine j_dS hX (nA := 3) (As := [.int f, .int 0, .int 9]) (st := []) (st' := [.int (withinV f 0 9)]) dX12_addBundle_4 (c_X12_in G) gX12_addBundle_X12_in rfl (by decide +kernel) (by decide) (Nat.le_of_ble_eq_true rfl) rfl (Nat.le_of_ble_eq_true rfl) rfl ⟨Nat.le_refl _, Nat.le_refl _⟩ rfl ?_
  refine j_if_eq hX (tgt := 46) dX12_addBundle_7 (by decide) (fun h7 => ?_) (fun h7 => ?_)
  · refine j_iconst hX (v := 0) (by decide) dX12_addBundle_46 ?_
    refine j_istore hX (ls' := [some (.ref (ad 0)), some (.int f), some (.int s), some (.int th), some (.int p), some (.int limit), some (.int group), some (.int 0), none]) dX12_addBundle_47 (Nat.le_of_ble_eq_true rfl) rfl rfl ?_
    refine j_aload_n hX dX12_addBundle_49 rfl ?_
    refine j_bipush hX (v := 98) (by decide) dX12_addBundle_50 ?_
    refine j_iload_n hX dX12_addBundle_52 rfl ?_
    refine j_iload_n hX dX12_addBundle_53 rfl ?_
    refine j_iload_n hX dX12_addBundle_54 rfl ?_
    refine j_iload hX dX12_addBundle_55 rfl ?_
    refine j_iload hX dX12_addBundle_57 rfl ?_
    refine j_iload hX dX12_addBundle_59 rfl ?_
    refine j_dV hX (nA := 7) (cq := (RX12, TX12, 37)) (As := [.int 98, .int f, .int s, .int th, .int 0, .int limit, .int group]) (st := []) (st' := [.int ((madd o V M 98 f s th 0 limit group).1)]) (ci := 13) rfl dX12_addBundle_61 (c_X12_adds G _ V M _ o ho2 ho _ _ _ _ _ _ _) gX12_addBundle_X12_adds rfl (by decide +kernel) (q := 0) (wMg0 _ _ _ _ _) (by decide) (Nat.le_of_ble_eq_true rfl) rfl (Nat.le_of_ble_eq_true rfl) rfl ⟨Nat.le_refl _, Nat.le_refl _⟩ rfl ?_
    refine j_istore hX (ls' := [some (.ref (ad 0)), some (.int f), some (.int s), some (.int th), some (.int p), some (.int limit), some (.int group), some (.int 0), some (.int ((madd o V M 98 f s th 0 limit group).1))]) dX12_addBundle_64 (Nat.le_of_ble_eq_true rfl) rfl rfl ?_
    refine j_aload_n hX dX12_addBundle_66 rfl ?_
    refine j_getf hX (v := .int ((madd o V M 98 f s th 0 limit group).2.1 4)) dX12_addBundle_67 fX12_addBundle_89 0 (wMg0 _ _ _ _ _) rfl ?_
    refine j_if_ne hX (tgt := 82) dX12_addBundle_70 (by decide) (fun h70 => ?_) (fun h70 => ?_)
    · refine j_iload hX dX12_addBundle_82 rfl ?_
      exact j_iret hX dX12_addBundle_84 (by have e7 : goodB f s th p = 0 := (by simp only [goodB, if_pos h7]); have e8 : (mbun o V M f s th p limit group) = (madd o V M 98 f s th 0 limit group) := (by rw [mbun, e7]; exact if_neg h70); rw [e8]; exact ⟨rfl, rfl⟩)
    · refine j_aload_n hX dX12_addBundle_73 rfl ?_
      refine j_getf hX (v := .ref (ad 10)) dX12_addBundle_74 fX12_addBundle_38 0 (wMg0 _ _ _ _ _) rfl ?_
      refine j_iload hX dX12_addBundle_77 rfl ?_
      refine j_iload hX dX12_addBundle_79 rfl ?_
      refine j_iast hX (ws' := (wM G ad (madd o V M 98 f s th 0 limit group).2.1 (sM (madd o V M 98 f s th 0 limit group).2.2 10 (upd ((madd o V M 98 f s th 0 limit group).2.2 10) (((madd o V M 98 f s th 0 limit group).1).toNatClampNeg) p)) t)) dX12_addBundle_81 10 (wMg10 _ _ _ _ _) (madd_in ho h70) (wMp10 _ _ _ _ _ _) ?_
      refine j_iload hX dX12_addBundle_82 rfl ?_
      exact j_iret hX dX12_addBundle_84 (by have e7 : goodB f s th p = 0 := (by simp only [goodB, if_pos h7]); have e8 : (mbun o V M f s th p limit group) = ((madd o V M 98 f s th 0 limit group).1, ((madd o V M 98 f s th 0 limit group).2.1, (sM (madd o V M 98 f s th 0 limit group).2.2 10 (upd ((madd o V M 98 f s th 0 limit group).2.2 10) (((madd o V M 98 f s th 0 limit group).1).toNatClampNeg) p)))) := (by rw [mbun, e7]; exact if_pos h70); rw [e8]; exact ⟨rfl, rfl⟩)
  · refine j_iload_n hX dX12_addBundle_10 rfl ?_
    refine j_iconst hX (v := 0) (by decide) dX12_addBundle_11 ?_
    refine j_bipush hX (v := 9) (by decide) dX12_addBundle_12 ?_
    refine j_dS hX (nA := 3) (As := [.int s, .int 0, .int 9]) (st := []) (st' := [.int (withinV s 0 9)]) dX12_addBundle_14 (c_X12_in G) gX12_addBundle_X12_in rfl (by decide +kernel) (by decide) (Nat.le_of_ble_eq_true rfl) rfl (Nat.le_of_ble_eq_true rfl) rfl ⟨Nat.le_refl _, Nat.le_refl _⟩ rfl ?_
    refine j_if_eq hX (tgt := 46) dX12_addBundle_17 (by decide) (fun h17 => ?_) (fun h17 => ?_)
    · refine j_iconst hX (v := 0) (by decide) dX12_addBundle_46 ?_
      refine j_istore hX (ls' := [some (.ref (ad 0)), some (.int f), some (.int s), some (.int th), some (.int p), some (.int limit), some (.int group), some (.int 0), none]) dX12_addBundle_47 (Nat.le_of_ble_eq_true rfl) rfl rfl ?_
      refine j_aload_n hX dX12_addBundle_49 rfl ?_
      refine j_bipush hX (v := 98) (by decide) dX12_addBundle_50 ?_
      refine j_iload_n hX dX12_addBundle_52 rfl ?_
      refine j_iload_n hX dX12_addBundle_53 rfl ?_
      refine j_iload_n hX dX12_addBundle_54 rfl ?_
      refine j_iload hX dX12_addBundle_55 rfl ?_
      refine j_iload hX dX12_addBundle_57 rfl ?_
      refine j_iload hX dX12_addBundle_59 rfl ?_
      refine j_dV hX (nA := 7) (cq := (RX12, TX12, 37)) (As := [.int 98, .int f, .int s, .int th, .int 0, .int limit, .int group]) (st := []) (st' := [.int ((madd o V M 98 f s th 0 limit group).1)]) (ci := 13) rfl dX12_addBundle_61 (c_X12_adds G _ V M _ o ho2 ho _ _ _ _ _ _ _) gX12_addBundle_X12_adds rfl (by decide +kernel) (q := 0) (wMg0 _ _ _ _ _) (by decide) (Nat.le_of_ble_eq_true rfl) rfl (Nat.le_of_ble_eq_true rfl) rfl ⟨Nat.le_refl _, Nat.le_refl _⟩ rfl ?_
      refine j_istore hX (ls' := [some (.ref (ad 0)), some (.int f), some (.int s), some (.int th), some (.int p), some (.int limit), some (.int group), some (.int 0), some (.int ((madd o V M 98 f s th 0 limit group).1))]) dX12_addBundle_64 (Nat.le_of_ble_eq_true rfl) rfl rfl ?_
      refine j_aload_n hX dX12_addBundle_66 rfl ?_
      refine j_getf hX (v := .int ((madd o V M 98 f s th 0 limit group).2.1 4)) dX12_addBundle_67 fX12_addBundle_89 0 (wMg0 _ _ _ _ _) rfl ?_
      refine j_if_ne hX (tgt := 82) dX12_addBundle_70 (by decide) (fun h70 => ?_) (fun h70 => ?_)
      · refine j_iload hX dX12_addBundle_82 rfl ?_
        exact j_iret hX dX12_addBundle_84 (by have e7 : goodB f s th p = 0 := (by simp only [goodB, if_neg h7, if_pos h17]); have e8 : (mbun o V M f s th p limit group) = (madd o V M 98 f s th 0 limit group) := (by rw [mbun, e7]; exact if_neg h70); rw [e8]; exact ⟨rfl, rfl⟩)
      · refine j_aload_n hX dX12_addBundle_73 rfl ?_
        refine j_getf hX (v := .ref (ad 10)) dX12_addBundle_74 fX12_addBundle_38 0 (wMg0 _ _ _ _ _) rfl ?_
        refine j_iload hX dX12_addBundle_77 rfl ?_
        refine j_iload hX dX12_addBundle_79 rfl ?_
        refine j_iast hX (ws' := (wM G ad (madd o V M 98 f s th 0 limit group).2.1 (sM (madd o V M 98 f s th 0 limit group).2.2 10 (upd ((madd o V M 98 f s th 0 limit group).2.2 10) (((madd o V M 98 f s th 0 limit group).1).toNatClampNeg) p)) t)) dX12_addBundle_81 10 (wMg10 _ _ _ _ _) (madd_in ho h70) (wMp10 _ _ _ _ _ _) ?_
        refine j_iload hX dX12_addBundle_82 rfl ?_
        exact j_iret hX dX12_addBundle_84 (by have e7 : goodB f s th p = 0 := (by simp only [goodB, if_neg h7, if_pos h17]); have e8 : (mbun o V M f s th p limit group) = ((madd o V M 98 f s th 0 limit group).1, ((madd o V M 98 f s th 0 limit group).2.1, (sM (madd o V M 98 f s th 0 limit group).2.2 10 (upd ((madd o V M 98 f s th 0 limit group).2.2 10) (((madd o V M 98 f s th 0 limit group).1).toNatClampNeg) p)))) := (by rw [mbun, e7]; exact if_pos h70); rw [e8]; exact ⟨rfl, rfl⟩)
    · refine j_iload_n hX dX12_addBundle_20 rfl ?_
      refine j_iconst hX (v := -1) (by decide) dX12_addBundle_21 ?_
      refine j_bipush hX (v := 9) (by decide) dX12_addBundle_22 ?_
      refine j_dS hX (nA := 3) (As := [.int th, .int (-1), .int 9]) (st := []) (st' := [.int (withinV th (-1) 9)]) dX12_addBundle_24 (c_X12_in G) gX12_addBundle_X12_in rfl (by decide +kernel) (by decide) (Nat.le_of_ble_eq_true rfl) rfl (Nat.le_of_ble_eq_true rfl) rfl ⟨Nat.le_refl _, Nat.le_refl _⟩ rfl ?_
      refine j_if_eq hX (tgt := 46) dX12_addBundle_27 (by decide) (fun h27 => ?_) (fun h27 => ?_)
      · refine j_iconst hX (v := 0) (by decide) dX12_addBundle_46 ?_
        refine j_istore hX (ls' := [some (.ref (ad 0)), some (.int f), some (.int s), some (.int th), some (.int p), some (.int limit), some (.int group), some (.int 0), none]) dX12_addBundle_47 (Nat.le_of_ble_eq_true rfl) rfl rfl ?_
        refine j_aload_n hX dX12_addBundle_49 rfl ?_
        refine j_bipush hX (v := 98) (by decide) dX12_addBundle_50 ?_
        refine j_iload_n hX dX12_addBundle_52 rfl ?_
        refine j_iload_n hX dX12_addBundle_53 rfl ?_
        refine j_iload_n hX dX12_addBundle_54 rfl ?_
        refine j_iload hX dX12_addBundle_55 rfl ?_
        refine j_iload hX dX12_addBundle_57 rfl ?_
        refine j_iload hX dX12_addBundle_59 rfl ?_
        refine j_dV hX (nA := 7) (cq := (RX12, TX12, 37)) (As := [.int 98, .int f, .int s, .int th, .int 0, .int limit, .int group]) (st := []) (st' := [.int ((madd o V M 98 f s th 0 limit group).1)]) (ci := 13) rfl dX12_addBundle_61 (c_X12_adds G _ V M _ o ho2 ho _ _ _ _ _ _ _) gX12_addBundle_X12_adds rfl (by decide +kernel) (q := 0) (wMg0 _ _ _ _ _) (by decide) (Nat.le_of_ble_eq_true rfl) rfl (Nat.le_of_ble_eq_true rfl) rfl ⟨Nat.le_refl _, Nat.le_refl _⟩ rfl ?_
        refine j_istore hX (ls' := [some (.ref (ad 0)), some (.int f), some (.int s), some (.int th), some (.int p), some (.int limit), some (.int group), some (.int 0), some (.int ((madd o V M 98 f s th 0 limit group).1))]) dX12_addBundle_64 (Nat.le_of_ble_eq_true rfl) rfl rfl ?_
        refine j_aload_n hX dX12_addBundle_66 rfl ?_
        refine j_getf hX (v := .int ((madd o V M 98 f s th 0 limit group).2.1 4)) dX12_addBundle_67 fX12_addBundle_89 0 (wMg0 _ _ _ _ _) rfl ?_
        refine j_if_ne hX (tgt := 82) dX12_addBundle_70 (by decide) (fun h70 => ?_) (fun h70 => ?_)
        · refine j_iload hX dX12_addBundle_82 rfl ?_
          exact j_iret hX dX12_addBundle_84 (by have e7 : goodB f s th p = 0 := (by simp only [goodB, if_neg h7, if_neg h17, if_pos h27]); have e8 : (mbun o V M f s th p limit group) = (madd o V M 98 f s th 0 limit group) := (by rw [mbun, e7]; exact if_neg h70); rw [e8]; exact ⟨rfl, rfl⟩)
        · refine j_aload_n hX dX12_addBundle_73 rfl ?_
          refine j_getf hX (v := .ref (ad 10)) dX12_addBundle_74 fX12_addBundle_38 0 (wMg0 _ _ _ _ _) rfl ?_
          refine j_iload hX dX12_addBundle_77 rfl ?_
          refine j_iload hX dX12_addBundle_79 rfl ?_
          refine j_iast hX (ws' := (wM G ad (madd o V M 98 f s th 0 limit group).2.1 (sM (madd o V M 98 f s th 0 limit group).2.2 10 (upd ((madd o V M 98 f s th 0 limit group).2.2 10) (((madd o V M 98 f s th 0 limit group).1).toNatClampNeg) p)) t)) dX12_addBundle_81 10 (wMg10 _ _ _ _ _) (madd_in ho h70) (wMp10 _ _ _ _ _ _) ?_
          refine j_iload hX dX12_addBundle_82 rfl ?_
          exact j_iret hX dX12_addBundle_84 (by have e7 : goodB f s th p = 0 := (by simp only [goodB, if_neg h7, if_neg h17, if_pos h27]); have e8 : (mbun o V M f s th p limit group) = ((madd o V M 98 f s th 0 limit group).1, ((madd o V M 98 f s th 0 limit group).2.1, (sM (madd o V M 98 f s th 0 limit group).2.2 10 (upd ((madd o V M 98 f s th 0 limit group).2.2 10) (((madd o V M 98 f s th 0 limit group).1).toNatClampNeg) p)))) := (by rw [mbun, e7]; exact if_pos h70); rw [e8]; exact ⟨rfl, rfl⟩)
      · refine j_iload hX dX12_addBundle_30 rfl ?_
        refine j_iconst hX (v := 1) (by decide) dX12_addBundle_32 ?_
        refine j_sipush hX (v := 9999) (by decide) dX12_addBundle_33 ?_
        refine j_dS hX (nA := 3) (As := [.int p, .int 1, .int 9999]) (st := []) (st' := [.int (withinV p 1 9999)]) dX12_addBundle_36 (c_X12_in G) gX12_addBundle_X12_in rfl (by decide +kernel) (by decide) (Nat.le_of_ble_eq_true rfl) rfl (Nat.le_of_ble_eq_true rfl) rfl ⟨Nat.le_refl _, Nat.le_refl _⟩ rfl ?_
        refine j_if_eq hX (tgt := 46) dX12_addBundle_39 (by decide) (fun h39 => ?_) (fun h39 => ?_)
        · refine j_iconst hX (v := 0) (by decide) dX12_addBundle_46 ?_
          refine j_istore hX (ls' := [some (.ref (ad 0)), some (.int f), some (.int s), some (.int th), some (.int p), some (.int limit), some (.int group), some (.int 0), none]) dX12_addBundle_47 (Nat.le_of_ble_eq_true rfl) rfl rfl ?_
          refine j_aload_n hX dX12_addBundle_49 rfl ?_
          refine j_bipush hX (v := 98) (by decide) dX12_addBundle_50 ?_
          refine j_iload_n hX dX12_addBundle_52 rfl ?_
          refine j_iload_n hX dX12_addBundle_53 rfl ?_
          refine j_iload_n hX dX12_addBundle_54 rfl ?_
          refine j_iload hX dX12_addBundle_55 rfl ?_
          refine j_iload hX dX12_addBundle_57 rfl ?_
          refine j_iload hX dX12_addBundle_59 rfl ?_
          refine j_dV hX (nA := 7) (cq := (RX12, TX12, 37)) (As := [.int 98, .int f, .int s, .int th, .int 0, .int limit, .int group]) (st := []) (st' := [.int ((madd o V M 98 f s th 0 limit group).1)]) (ci := 13) rfl dX12_addBundle_61 (c_X12_adds G _ V M _ o ho2 ho _ _ _ _ _ _ _) gX12_addBundle_X12_adds rfl (by decide +kernel) (q := 0) (wMg0 _ _ _ _ _) (by decide) (Nat.le_of_ble_eq_true rfl) rfl (Nat.le_of_ble_eq_true rfl) rfl ⟨Nat.le_refl _, Nat.le_refl _⟩ rfl ?_
          refine j_istore hX (ls' := [some (.ref (ad 0)), some (.int f), some (.int s), some (.int th), some (.int p), some (.int limit), some (.int group), some (.int 0), some (.int ((madd o V M 98 f s th 0 limit group).1))]) dX12_addBundle_64 (Nat.le_of_ble_eq_true rfl) rfl rfl ?_
          refine j_aload_n hX dX12_addBundle_66 rfl ?_
          refine j_getf hX (v := .int ((madd o V M 98 f s th 0 limit group).2.1 4)) dX12_addBundle_67 fX12_addBundle_89 0 (wMg0 _ _ _ _ _) rfl ?_
          refine j_if_ne hX (tgt := 82) dX12_addBundle_70 (by decide) (fun h70 => ?_) (fun h70 => ?_)
          · refine j_iload hX dX12_addBundle_82 rfl ?_
            exact j_iret hX dX12_addBundle_84 (by have e7 : goodB f s th p = 0 := (by simp only [goodB, if_neg h7, if_neg h17, if_neg h27, if_pos h39]); have e8 : (mbun o V M f s th p limit group) = (madd o V M 98 f s th 0 limit group) := (by rw [mbun, e7]; exact if_neg h70); rw [e8]; exact ⟨rfl, rfl⟩)
          · refine j_aload_n hX dX12_addBundle_73 rfl ?_
            refine j_getf hX (v := .ref (ad 10)) dX12_addBundle_74 fX12_addBundle_38 0 (wMg0 _ _ _ _ _) rfl ?_
            refine j_iload hX dX12_addBundle_77 rfl ?_
            refine j_iload hX dX12_addBundle_79 rfl ?_
            refine j_iast hX (ws' := (wM G ad (madd o V M 98 f s th 0 limit group).2.1 (sM (madd o V M 98 f s th 0 limit group).2.2 10 (upd ((madd o V M 98 f s th 0 limit group).2.2 10) (((madd o V M 98 f s th 0 limit group).1).toNatClampNeg) p)) t)) dX12_addBundle_81 10 (wMg10 _ _ _ _ _) (madd_in ho h70) (wMp10 _ _ _ _ _ _) ?_
            refine j_iload hX dX12_addBundle_82 rfl ?_
            exact j_iret hX dX12_addBundle_84 (by have e7 : goodB f s th p = 0 := (by simp only [goodB, if_neg h7, if_neg h17, if_neg h27, if_pos h39]); have e8 : (mbun o V M f s th p limit group) = ((madd o V M 98 f s th 0 limit group).1, ((madd o V M 98 f s th 0 limit group).2.1, (sM (madd o V M 98 f s th 0 limit group).2.2 10 (upd ((madd o V M 98 f s th 0 limit group).2.2 10) (((madd o V M 98 f s th 0 limit group).1).toNatClampNeg) p)))) := (by rw [mbun, e7]; exact if_pos h70); rw [e8]; exact ⟨rfl, rfl⟩)
        · refine j_iconst hX (v := 1) (by decide) dX12_addBundle_42 ?_
          refine j_goto hX (tgt := 47) dX12_addBundle_43 (by decide) ?_
          refine j_istore hX (ls' := [some (.ref (ad 0)), some (.int f), some (.int s), some (.int th), some (.int p), some (.int limit), some (.int group), some (.int 1), none]) dX12_addBundle_47 (Nat.le_of_ble_eq_true rfl) rfl rfl ?_
          refine j_aload_n hX dX12_addBundle_49 rfl ?_
          refine j_bipush hX (v := 98) (by decide) dX12_addBundle_50 ?_
          refine j_iload_n hX dX12_addBundle_52 rfl ?_
          refine j_iload_n hX dX12_addBundle_53 rfl ?_
          refine j_iload_n hX dX12_addBundle_54 rfl ?_
          refine j_iload hX dX12_addBundle_55 rfl ?_
          refine j_iload hX dX12_addBundle_57 rfl ?_
          refine j_iload hX dX12_addBundle_59 rfl ?_
          refine j_dV hX (nA := 7) (cq := (RX12, TX12, 37)) (As := [.int 98, .int f, .int s, .int th, .int 1, .int limit, .int group]) (st := []) (st' := [.int ((madd o V M 98 f s th 1 limit group).1)]) (ci := 13) rfl dX12_addBundle_61 (c_X12_adds G _ V M _ o ho2 ho _ _ _ _ _ _ _) gX12_addBundle_X12_adds rfl (by decide +kernel) (q := 0) (wMg0 _ _ _ _ _) (by decide) (Nat.le_of_ble_eq_true rfl) rfl (Nat.le_of_ble_eq_true rfl) rfl ⟨Nat.le_refl _, Nat.le_refl _⟩ rfl ?_
          refine j_istore hX (ls' := [some (.ref (ad 0)), some (.int f), some (.int s), some (.int th), some (.int p), some (.int limit), some (.int group), some (.int 1), some (.int ((madd o V M 98 f s th 1 limit group).1))]) dX12_addBundle_64 (Nat.le_of_ble_eq_true rfl) rfl rfl ?_
          refine j_aload_n hX dX12_addBundle_66 rfl ?_
          refine j_getf hX (v := .int ((madd o V M 98 f s th 1 limit group).2.1 4)) dX12_addBundle_67 fX12_addBundle_89 0 (wMg0 _ _ _ _ _) rfl ?_
          refine j_if_ne hX (tgt := 82) dX12_addBundle_70 (by decide) (fun h70 => ?_) (fun h70 => ?_)
          · refine j_iload hX dX12_addBundle_82 rfl ?_
            exact j_iret hX dX12_addBundle_84 (by have e7 : goodB f s th p = 1 := (by simp only [goodB, if_neg h7, if_neg h17, if_neg h27, if_neg h39]); have e8 : (mbun o V M f s th p limit group) = (madd o V M 98 f s th 1 limit group) := (by rw [mbun, e7]; exact if_neg h70); rw [e8]; exact ⟨rfl, rfl⟩)
          · refine j_aload_n hX dX12_addBundle_73 rfl ?_
            refine j_getf hX (v := .ref (ad 10)) dX12_addBundle_74 fX12_addBundle_38 0 (wMg0 _ _ _ _ _) rfl ?_
            refine j_iload hX dX12_addBundle_77 rfl ?_
            refine j_iload hX dX12_addBundle_79 rfl ?_
            refine j_iast hX (ws' := (wM G ad (madd o V M 98 f s th 1 limit group).2.1 (sM (madd o V M 98 f s th 1 limit group).2.2 10 (upd ((madd o V M 98 f s th 1 limit group).2.2 10) (((madd o V M 98 f s th 1 limit group).1).toNatClampNeg) p)) t)) dX12_addBundle_81 10 (wMg10 _ _ _ _ _) (madd_in ho h70) (wMp10 _ _ _ _ _ _) ?_
            refine j_iload hX dX12_addBundle_82 rfl ?_
            exact j_iret hX dX12_addBundle_84 (by have e7 : goodB f s th p = 1 := (by simp only [goodB, if_neg h7, if_neg h17, if_neg h27, if_neg h39]); have e8 : (mbun o V M f s th p limit group) = ((madd o V M 98 f s th 1 limit group).1, ((madd o V M 98 f s th 1 limit group).2.1, (sM (madd o V M 98 f s th 1 limit group).2.2 10 (upd ((madd o V M 98 f s th 1 limit group).2.2 10) (((madd o V M 98 f s th 1 limit group).1).toNatClampNeg) p)))) := (by rw [mbun, e7]; exact if_pos h70); rw [e8]; exact ⟨rfl, rfl⟩)

def lfM (c : Nat) (M : Nat → Nat → Int32) (j : Nat) : Int32 := M 11 j - M (c + 26) j
theorem within_eq {a : Nat} {x : Int32} (ha : a ≤ 60) (h : ¬ withinV x 0 (nI a - 1) = 0) : x = nI x.toNatClampNeg ∧ x.toNatClampNeg < a := by
  obtain ⟨j, hj, rfl⟩ := within_nat ha h
  rw [nI_clamp (by omega)]
  exact ⟨rfl, hj⟩
set_option maxHeartbeats 4000000 in
set_option maxRecDepth 100000 in
theorem c_X12_leftOf (G : jG) (ad : Nat → Nat) (V : Nat → Int32) (M : Nat → Nat → Int32) (t : Int64) (c : Nat) (hc1 : V 1 = nI c) (hc : c < 4) (j : Nat) (hj6 : j < 6) : jD G 0 yX12_leftOf wsX12_leftOf [.ref (ad 0), .int (nI j)] (wM G ad V M t) (some (.int (lfM c M j))) (wM G ad V M t) := by
  refine jC.of (maxL := 2) (cc := cX12_leftOf) (ret := (some .int)) rfl (by decide) [some (.ref (ad 0)), some (.int (nI j))] rfl (Nat.le_of_ble_eq_true rfl) (j_args rfl) (fun X hX => ?_)
  refine j_aload_n hX dX12_leftOf_0 rfl ?_
  refine j_getf hX (v := .ref (ad 11)) dX12_leftOf_1 fX12_leftOf_41 0 (wMg0 _ _ _ _ _) rfl ?_
  refine j_iload_n hX dX12_leftOf_4 rfl ?_
  refine j_iald hX (v := (M 11) j) dX12_leftOf_5 11 (wMg11 _ _ _ _ _) (nI_in (by omega) (by decide)) (rdc (by omega)) ?_
  refine j_aload_n hX dX12_leftOf_6 rfl ?_
  refine j_getf hX (v := .ref (ad 13)) dX12_leftOf_7 fX12_leftOf_49 0 (wMg0 _ _ _ _ _) rfl ?_
  refine j_aload_n hX dX12_leftOf_10 rfl ?_
  refine j_getf hX (v := .int (V 1)) dX12_leftOf_11 fX12_leftOf_114 0 (wMg0 _ _ _ _ _) rfl ?_
  refine jW.top hc1 ?_
  refine j_aaldI hX (v := .ref (ad (c + 26))) dX12_leftOf_14 13 (wMg13 _ _ _ _ _) (nI_in (by omega) (by decide)) (by rw [nI_clamp (by omega)]; show va_rf (if c < 4 then some (ad (c + 26)) else none) = _; rw [if_pos (by omega)]; rfl) ?_
  refine j_iload_n hX dX12_leftOf_15 rfl ?_
  refine j_iald hX (v := (M (c + 26)) j) dX12_leftOf_16 (c + 26) (wMgU (by omega)) (nI_in (by omega) (by decide)) (rdc (by omega)) ?_
  refine j_isub hX dX12_leftOf_17 ?_
  exact j_iret hX dX12_leftOf_18 ⟨rfl, rfl⟩

def mleft (o c : Nat) (V : Nat → Int32) (M : Nat → Nat → Int32) (x : Int32) : Int32 × VM := if withinV x 0 (nI o - 1) = 0 then (0, (sV V 4 1, M)) else (lfM c M x.toNatClampNeg, (sV V 4 0, M))
set_option maxHeartbeats 4000000 in
set_option maxRecDepth 100000 in
theorem c_X12_left (G : jG) (ad : Nat → Nat) (V : Nat → Int32) (M : Nat → Nat → Int32) (t : Int64) (o : Nat) (ho2 : V 2 = nI o) (ho : o ≤ 6) (c : Nat) (hc1 : V 1 = nI c) (hc : c < 4) (x : Int32) : jD G 1 yX12_left wsX12_left [.ref (ad 0), .int x] (wM G ad V M t) (some (.int (mleft o c V M x).1)) (wM G ad (mleft o c V M x).2.1 (mleft o c V M x).2.2 t) := by
  refine jC.of (maxL := 2) (cc := cX12_left) (ret := (some .int)) rfl (by decide) [some (.ref (ad 0)), some (.int x)] rfl (Nat.le_of_ble_eq_true rfl) (j_args rfl) (fun X hX => ?_)
  refine j_aload_n hX dX12_left_0 rfl ?_
  refine j_iload_n hX dX12_left_1 rfl ?_
  refine j_iconst hX (v := 0) (by decide) dX12_left_2 ?_
  refine j_aload_n hX dX12_left_3 rfl ?_
  refine j_getf hX (v := .int (V 2)) dX12_left_4 fX12_left_121 0 (wMg0 _ _ _ _ _) rfl ?_
  refine jW.top ho2 ?_
  refine j_iconst hX (v := 1) (by decide) dX12_left_7 ?_
  refine j_isub hX dX12_left_8 ?_
  refine j_dS hX (nA := 3) (As := [.int x, .int 0, .int ((nI o) - 1)]) (st := [.ref (ad 0)]) (st' := [.int (withinV x 0 ((nI o) - 1)), .ref (ad 0)]) dX12_left_9 (c_X12_in G) gX12_left_X12_in rfl (by decide +kernel) (by decide) (Nat.le_of_ble_eq_true rfl) rfl (Nat.le_of_ble_eq_true rfl) rfl ⟨Nat.le_refl _, Nat.le_refl _⟩ rfl ?_
  refine j_if_eq hX (tgt := 19) dX12_left_12 (by decide) (fun h12 => ?_) (fun h12 => ?_)
  · refine j_iconst hX (v := 1) (by decide) dX12_left_19 ?_
    refine j_putf hX (ws' := (wM G ad (sV V 4 1) M t)) dX12_left_20 fX12_left_89 0 (wMg0 _ _ _ _ _) (Nat.le_of_ble_eq_true rfl) rfl rfl (wMp0_18 _ _ _ _ _ _) ?_
    refine j_aload_n hX dX12_left_23 rfl ?_
    refine j_getf hX (v := .int 1) dX12_left_24 fX12_left_89 0 (wMg0 _ _ _ _ _) rfl ?_
    refine j_if_le_f hX (tgt := 34) dX12_left_27 (by decide) (by decide) ?_
    refine j_iconst hX (v := 0) (by decide) dX12_left_30 ?_
    refine j_goto hX (tgt := 39) dX12_left_31 (by decide) ?_
    exact j_iret hX dX12_left_39 (by have e8 : mleft o c V M x = (0, ((sV V 4 1), M)) := (by simp only [mleft, if_pos h12]); rw [e8]; exact ⟨rfl, rfl⟩)
  · refine j_iconst hX (v := 0) (by decide) dX12_left_15 ?_
    refine j_goto hX (tgt := 20) dX12_left_16 (by decide) ?_
    refine j_putf hX (ws' := (wM G ad (sV V 4 0) M t)) dX12_left_20 fX12_left_89 0 (wMg0 _ _ _ _ _) (Nat.le_of_ble_eq_true rfl) rfl rfl (wMp0_18 _ _ _ _ _ _) ?_
    refine j_aload_n hX dX12_left_23 rfl ?_
    refine j_getf hX (v := .int 0) dX12_left_24 fX12_left_89 0 (wMg0 _ _ _ _ _) rfl ?_
    refine j_if_le_t hX (tgt := 34) dX12_left_27 (by decide) (by decide) ?_
    obtain ⟨ex, hx6⟩ := within_eq (Nat.le_trans ho (by decide)) h12
    refine jW.locals (ls' := [some (.ref (ad 0)), some (.int (nI x.toNatClampNeg))]) (by rw [← ex]) ?_
    refine j_aload_n hX dX12_left_34 rfl ?_
    refine j_iload_n hX dX12_left_35 rfl ?_
    refine j_dV hX (nA := 1) (cq := (RX12, TX12, 37)) (As := [.int (nI x.toNatClampNeg)]) (st := []) (st' := [.int (lfM c M x.toNatClampNeg)]) (ci := 13) rfl dX12_left_36 (c_X12_leftOf G _ (sV V 4 0) M _ c hc1 hc x.toNatClampNeg (by omega)) gX12_left_X12_leftOf rfl (by decide +kernel) (q := 0) (wMg0 _ _ _ _ _) (by decide) (Nat.le_of_ble_eq_true rfl) rfl (Nat.le_of_ble_eq_true rfl) rfl ⟨Nat.le_refl _, Nat.le_refl _⟩ rfl ?_
    exact j_iret hX dX12_left_39 (by have e8 : mleft o c V M x = (lfM c M x.toNatClampNeg, ((sV V 4 0), M)) := (by simp only [mleft, if_neg h12]); rw [e8]; exact ⟨rfl, rfl⟩)

def prM (M : Nat → Nat → Int32) (p : Nat) : Int32 := M 2 (M 14 p).toNatClampNeg
set_option maxHeartbeats 4000000 in
set_option maxRecDepth 100000 in
theorem c_X12_price (G : jG) (ad : Nat → Nat) (V : Nat → Int32) (M : Nat → Nat → Int32) (t : Int64) (p : Nat) (hp7 : p < 7) (hb : vp_in (M 14 p) 60) : jD G 0 yX12_price wsX12_price [.ref (ad 0), .int (nI p)] (wM G ad V M t) (some (.int (prM M p))) (wM G ad V M t) := by
  refine jC.of (maxL := 2) (cc := cX12_price) (ret := (some .int)) rfl (by decide) [some (.ref (ad 0)), some (.int (nI p))] rfl (Nat.le_of_ble_eq_true rfl) (j_args rfl) (fun X hX => ?_)
  refine j_aload_n hX dX12_price_0 rfl ?_
  refine j_getf hX (v := .ref (ad 2)) dX12_price_1 fX12_price_13 0 (wMg0 _ _ _ _ _) rfl ?_
  refine j_aload_n hX dX12_price_4 rfl ?_
  refine j_getf hX (v := .ref (ad 14)) dX12_price_5 fX12_price_52 0 (wMg0 _ _ _ _ _) rfl ?_
  refine j_iload_n hX dX12_price_8 rfl ?_
  refine j_iald hX (v := (M 14) p) dX12_price_9 14 (wMg14 _ _ _ _ _) (nI_in (by omega) (by decide)) (rdc (by omega)) ?_
  refine j_iald hX (v := (M 2) (((M 14) p).toNatClampNeg)) dX12_price_10 2 (wMg2 _ _ _ _ _) hb rfl ?_
  exact j_iret hX dX12_price_11 ⟨rfl, rfl⟩

def kdM (M : Nat → Nat → Int32) (p : Nat) : Int32 := M 1 (M 14 p).toNatClampNeg
set_option maxHeartbeats 4000000 in
set_option maxRecDepth 100000 in
theorem c_X12_kind (G : jG) (ad : Nat → Nat) (V : Nat → Int32) (M : Nat → Nat → Int32) (t : Int64) (p : Nat) (hp7 : p < 7) (hb : vp_in (M 14 p) 60) : jD G 0 yX12_kind wsX12_kind [.ref (ad 0), .int (nI p)] (wM G ad V M t) (some (.int (kdM M p))) (wM G ad V M t) := by
  refine jC.of (maxL := 2) (cc := cX12_kind) (ret := (some .int)) rfl (by decide) [some (.ref (ad 0)), some (.int (nI p))] rfl (Nat.le_of_ble_eq_true rfl) (j_args rfl) (fun X hX => ?_)
  refine j_aload_n hX dX12_kind_0 rfl ?_
  refine j_getf hX (v := .ref (ad 1)) dX12_kind_1 fX12_kind_9 0 (wMg0 _ _ _ _ _) rfl ?_
  refine j_aload_n hX dX12_kind_4 rfl ?_
  refine j_getf hX (v := .ref (ad 14)) dX12_kind_5 fX12_kind_52 0 (wMg0 _ _ _ _ _) rfl ?_
  refine j_iload_n hX dX12_kind_8 rfl ?_
  refine j_iald hX (v := (M 14) p) dX12_kind_9 14 (wMg14 _ _ _ _ _) (nI_in (by omega) (by decide)) (rdc (by omega)) ?_
  refine j_iald hX (v := (M 1) (((M 14) p).toNatClampNeg)) dX12_kind_10 1 (wMg1 _ _ _ _ _) hb rfl ?_
  exact j_iret hX dX12_kind_11 ⟨rfl, rfl⟩

def szM (M : Nat → Nat → Int32) (j : Nat) : Int32 := if M 6 j = 112 then 1 else if M 6 j = 102 then M 8 j else if M 6 j = 116 then 0 else if M 9 j = -1 then 2 else 3
def wtM (M : Nat → Nat → Int32) (j : Nat) (kd : Int32) : Int32 := if M 6 j = 98 then eqV (M 7 j) kd + eqV (M 8 j) kd + eqV (M 9 j) kd else if M 6 j = 116 then 0 else if M 7 j = kd then szM M j else 0
set_option maxHeartbeats 4000000 in
set_option maxRecDepth 100000 in
theorem c_X12_sizeOf (G : jG) (ad : Nat → Nat) (V : Nat → Int32) (M : Nat → Nat → Int32) (t : Int64) (j : Nat) (hj6 : j < 6) : jD G 0 yX12_sizeOf wsX12_sizeOf [.ref (ad 0), .int (nI j)] (wM G ad V M t) (some (.int (szM M j))) (wM G ad V M t) := by
  refine jC.of (maxL := 2) (cc := cX12_sizeOf) (ret := (some .int)) rfl (by decide) [some (.ref (ad 0)), some (.int (nI j))] rfl (Nat.le_of_ble_eq_true rfl) (j_args rfl) (fun X hX => ?_)
  refine j_aload_n hX dX12_sizeOf_0 rfl ?_
  refine j_getf hX (v := .ref (ad 6)) dX12_sizeOf_1 fX12_sizeOf_26 0 (wMg0 _ _ _ _ _) rfl ?_
  refine j_iload_n hX dX12_sizeOf_4 rfl ?_
  refine j_cald hX (v := (M 6) j) dX12_sizeOf_5 6 (wMg6 _ _ _ _ _) (nI_in (by omega) (by decide)) (rdc (by omega)) ?_
  refine j_bipush hX (v := 112) (by decide) dX12_sizeOf_6 ?_
  refine j_icmp_ne hX (tgt := 15) dX12_sizeOf_8 (by decide) (fun h8 => ?_) (fun h8 => ?_)
  · refine j_aload_n hX dX12_sizeOf_15 rfl ?_
    refine j_getf hX (v := .ref (ad 6)) dX12_sizeOf_16 fX12_sizeOf_26 0 (wMg0 _ _ _ _ _) rfl ?_
    refine j_iload_n hX dX12_sizeOf_19 rfl ?_
    refine j_cald hX (v := (M 6) j) dX12_sizeOf_20 6 (wMg6 _ _ _ _ _) (nI_in (by omega) (by decide)) (rdc (by omega)) ?_
    refine j_bipush hX (v := 102) (by decide) dX12_sizeOf_21 ?_
    refine j_icmp_ne hX (tgt := 35) dX12_sizeOf_23 (by decide) (fun h23 => ?_) (fun h23 => ?_)
    · refine j_aload_n hX dX12_sizeOf_35 rfl ?_
      refine j_getf hX (v := .ref (ad 6)) dX12_sizeOf_36 fX12_sizeOf_26 0 (wMg0 _ _ _ _ _) rfl ?_
      refine j_iload_n hX dX12_sizeOf_39 rfl ?_
      refine j_cald hX (v := (M 6) j) dX12_sizeOf_40 6 (wMg6 _ _ _ _ _) (nI_in (by omega) (by decide)) (rdc (by omega)) ?_
      refine j_bipush hX (v := 116) (by decide) dX12_sizeOf_41 ?_
      refine j_icmp_ne hX (tgt := 50) dX12_sizeOf_43 (by decide) (fun h43 => ?_) (fun h43 => ?_)
      · refine j_aload_n hX dX12_sizeOf_50 rfl ?_
        refine j_getf hX (v := .ref (ad 9)) dX12_sizeOf_51 fX12_sizeOf_35 0 (wMg0 _ _ _ _ _) rfl ?_
        refine j_iload_n hX dX12_sizeOf_54 rfl ?_
        refine j_iald hX (v := (M 9) j) dX12_sizeOf_55 9 (wMg9 _ _ _ _ _) (nI_in (by omega) (by decide)) (rdc (by omega)) ?_
        refine j_iconst hX (v := -1) (by decide) dX12_sizeOf_56 ?_
        refine j_icmp_ne hX (tgt := 64) dX12_sizeOf_57 (by decide) (fun h57 => ?_) (fun h57 => ?_)
        · refine j_iconst hX (v := 3) (by decide) dX12_sizeOf_64 ?_
          exact j_iret hX dX12_sizeOf_65 ⟨congrArg (fun z => some (Value.int z)) (show 3 = szM M j by simp only [szM, if_neg h8, if_neg h23, if_neg h43, if_neg h57]), rfl⟩
        · refine j_iconst hX (v := 2) (by decide) dX12_sizeOf_60 ?_
          refine j_goto hX (tgt := 65) dX12_sizeOf_61 (by decide) ?_
          exact j_iret hX dX12_sizeOf_65 ⟨congrArg (fun z => some (Value.int z)) (show 2 = szM M j by simp only [szM, if_neg h8, if_neg h23, if_neg h43, if_pos h57]), rfl⟩
      · refine j_iconst hX (v := 0) (by decide) dX12_sizeOf_46 ?_
        refine j_goto hX (tgt := 65) dX12_sizeOf_47 (by decide) ?_
        exact j_iret hX dX12_sizeOf_65 ⟨congrArg (fun z => some (Value.int z)) (show 0 = szM M j by simp only [szM, if_neg h8, if_neg h23, if_pos h43]), rfl⟩
    · refine j_aload_n hX dX12_sizeOf_26 rfl ?_
      refine j_getf hX (v := .ref (ad 8)) dX12_sizeOf_27 fX12_sizeOf_32 0 (wMg0 _ _ _ _ _) rfl ?_
      refine j_iload_n hX dX12_sizeOf_30 rfl ?_
      refine j_iald hX (v := (M 8) j) dX12_sizeOf_31 8 (wMg8 _ _ _ _ _) (nI_in (by omega) (by decide)) (rdc (by omega)) ?_
      refine j_goto hX (tgt := 65) dX12_sizeOf_32 (by decide) ?_
      exact j_iret hX dX12_sizeOf_65 ⟨congrArg (fun z => some (Value.int z)) (show (M 8) j = szM M j by simp only [szM, if_neg h8, if_pos h23]), rfl⟩
  · refine j_iconst hX (v := 1) (by decide) dX12_sizeOf_11 ?_
    refine j_goto hX (tgt := 65) dX12_sizeOf_12 (by decide) ?_
    exact j_iret hX dX12_sizeOf_65 ⟨congrArg (fun z => some (Value.int z)) (show 1 = szM M j by simp only [szM, if_pos h8]), rfl⟩

set_option maxHeartbeats 4000000 in
set_option maxRecDepth 100000 in
theorem c_X12_wants (G : jG) (ad : Nat → Nat) (V : Nat → Int32) (M : Nat → Nat → Int32) (t : Int64) (j : Nat) (hj6 : j < 6) (kd : Int32) : jD G 1 yX12_wants wsX12_wants [.ref (ad 0), .int (nI j), .int kd] (wM G ad V M t) (some (.int (wtM M j kd))) (wM G ad V M t) := by
  refine jC.of (maxL := 3) (cc := cX12_wants) (ret := (some .int)) rfl (by decide) [some (.ref (ad 0)), some (.int (nI j)), some (.int kd)] rfl (Nat.le_of_ble_eq_true rfl) (j_args rfl) (fun X hX => ?_)
  refine j_aload_n hX dX12_wants_0 rfl ?_
  refine j_getf hX (v := .ref (ad 6)) dX12_wants_1 fX12_wants_26 0 (wMg0 _ _ _ _ _) rfl ?_
  refine j_iload_n hX dX12_wants_4 rfl ?_
  refine j_cald hX (v := (M 6) j) dX12_wants_5 6 (wMg6 _ _ _ _ _) (nI_in (by omega) (by decide)) (rdc (by omega)) ?_
  refine j_bipush hX (v := 98) (by decide) dX12_wants_6 ?_
  refine j_icmp_ne hX (tgt := 59) dX12_wants_8 (by decide) (fun h8 => ?_) (fun h8 => ?_)
  · refine j_aload_n hX dX12_wants_59 rfl ?_
    refine j_getf hX (v := .ref (ad 6)) dX12_wants_60 fX12_wants_26 0 (wMg0 _ _ _ _ _) rfl ?_
    refine j_iload_n hX dX12_wants_63 rfl ?_
    refine j_cald hX (v := (M 6) j) dX12_wants_64 6 (wMg6 _ _ _ _ _) (nI_in (by omega) (by decide)) (rdc (by omega)) ?_
    refine j_bipush hX (v := 116) (by decide) dX12_wants_65 ?_
    refine j_icmp_eq hX (tgt := 80) dX12_wants_67 (by decide) (fun h67 => ?_) (fun h67 => ?_)
    · refine j_iconst hX (v := 0) (by decide) dX12_wants_80 ?_
      refine j_goto hX (tgt := 89) dX12_wants_81 (by decide) ?_
      exact j_iret hX dX12_wants_89 ⟨congrArg (fun z => some (Value.int z)) (show 0 = wtM M j kd by simp only [wtM, eqV, if_neg h8, if_pos h67]), rfl⟩
    · refine j_aload_n hX dX12_wants_70 rfl ?_
      refine j_getf hX (v := .ref (ad 7)) dX12_wants_71 fX12_wants_29 0 (wMg0 _ _ _ _ _) rfl ?_
      refine j_iload_n hX dX12_wants_74 rfl ?_
      refine j_iald hX (v := (M 7) j) dX12_wants_75 7 (wMg7 _ _ _ _ _) (nI_in (by omega) (by decide)) (rdc (by omega)) ?_
      refine j_iload_n hX dX12_wants_76 rfl ?_
      refine j_icmp_eq hX (tgt := 84) dX12_wants_77 (by decide) (fun h77 => ?_) (fun h77 => ?_)
      · refine j_aload_n hX dX12_wants_84 rfl ?_
        refine j_iload_n hX dX12_wants_85 rfl ?_
        refine j_dV hX (nA := 1) (cq := (RX12, TX12, 37)) (As := [.int (nI j)]) (st := []) (st' := [.int (szM M j)]) (ci := 13) rfl dX12_wants_86 (c_X12_sizeOf G _ V M _ j (by omega)) gX12_wants_X12_sizeOf rfl (by decide +kernel) (q := 0) (wMg0 _ _ _ _ _) (by decide) (Nat.le_of_ble_eq_true rfl) rfl (Nat.le_of_ble_eq_true rfl) rfl ⟨Nat.le_refl _, Nat.le_refl _⟩ rfl ?_
        exact j_iret hX dX12_wants_89 ⟨congrArg (fun z => some (Value.int z)) (show szM M j = wtM M j kd by simp only [wtM, eqV, if_neg h8, if_neg h67, if_pos h77]), rfl⟩
      · refine j_iconst hX (v := 0) (by decide) dX12_wants_80 ?_
        refine j_goto hX (tgt := 89) dX12_wants_81 (by decide) ?_
        exact j_iret hX dX12_wants_89 ⟨congrArg (fun z => some (Value.int z)) (show 0 = wtM M j kd by simp only [wtM, eqV, if_neg h8, if_neg h67, if_neg h77]), rfl⟩
  · refine j_aload_n hX dX12_wants_11 rfl ?_
    refine j_getf hX (v := .ref (ad 7)) dX12_wants_12 fX12_wants_29 0 (wMg0 _ _ _ _ _) rfl ?_
    refine j_iload_n hX dX12_wants_15 rfl ?_
    refine j_iald hX (v := (M 7) j) dX12_wants_16 7 (wMg7 _ _ _ _ _) (nI_in (by omega) (by decide)) (rdc (by omega)) ?_
    refine j_iload_n hX dX12_wants_17 rfl ?_
    refine j_icmp_ne hX (tgt := 25) dX12_wants_18 (by decide) (fun h18 => ?_) (fun h18 => ?_)
    · refine j_iconst hX (v := 0) (by decide) dX12_wants_25 ?_
      refine j_aload_n hX dX12_wants_26 rfl ?_
      refine j_getf hX (v := .ref (ad 8)) dX12_wants_27 fX12_wants_32 0 (wMg0 _ _ _ _ _) rfl ?_
      refine j_iload_n hX dX12_wants_30 rfl ?_
      refine j_iald hX (v := (M 8) j) dX12_wants_31 8 (wMg8 _ _ _ _ _) (nI_in (by omega) (by decide)) (rdc (by omega)) ?_
      refine j_iload_n hX dX12_wants_32 rfl ?_
      refine j_icmp_ne hX (tgt := 40) dX12_wants_33 (by decide) (fun h33 => ?_) (fun h33 => ?_)
      · refine j_iconst hX (v := 0) (by decide) dX12_wants_40 ?_
        refine j_iadd hX dX12_wants_41 ?_
        refine j_aload_n hX dX12_wants_42 rfl ?_
        refine j_getf hX (v := .ref (ad 9)) dX12_wants_43 fX12_wants_35 0 (wMg0 _ _ _ _ _) rfl ?_
        refine j_iload_n hX dX12_wants_46 rfl ?_
        refine j_iald hX (v := (M 9) j) dX12_wants_47 9 (wMg9 _ _ _ _ _) (nI_in (by omega) (by decide)) (rdc (by omega)) ?_
        refine j_iload_n hX dX12_wants_48 rfl ?_
        refine j_icmp_ne hX (tgt := 56) dX12_wants_49 (by decide) (fun h49 => ?_) (fun h49 => ?_)
        · refine j_iconst hX (v := 0) (by decide) dX12_wants_56 ?_
          refine j_iadd hX dX12_wants_57 ?_
          exact j_iret hX dX12_wants_58 ⟨congrArg (fun z => some (Value.int z)) (show (0 + 0) + 0 = wtM M j kd by simp only [wtM, eqV, if_pos h8, if_neg h18, if_neg h33, if_neg h49]), rfl⟩
        · refine j_iconst hX (v := 1) (by decide) dX12_wants_52 ?_
          refine j_goto hX (tgt := 57) dX12_wants_53 (by decide) ?_
          refine j_iadd hX dX12_wants_57 ?_
          exact j_iret hX dX12_wants_58 ⟨congrArg (fun z => some (Value.int z)) (show (0 + 0) + 1 = wtM M j kd by simp only [wtM, eqV, if_pos h8, if_neg h18, if_neg h33, if_pos h49]), rfl⟩
      · refine j_iconst hX (v := 1) (by decide) dX12_wants_36 ?_
        refine j_goto hX (tgt := 41) dX12_wants_37 (by decide) ?_
        refine j_iadd hX dX12_wants_41 ?_
        refine j_aload_n hX dX12_wants_42 rfl ?_
        refine j_getf hX (v := .ref (ad 9)) dX12_wants_43 fX12_wants_35 0 (wMg0 _ _ _ _ _) rfl ?_
        refine j_iload_n hX dX12_wants_46 rfl ?_
        refine j_iald hX (v := (M 9) j) dX12_wants_47 9 (wMg9 _ _ _ _ _) (nI_in (by omega) (by decide)) (rdc (by omega)) ?_
        refine j_iload_n hX dX12_wants_48 rfl ?_
        refine j_icmp_ne hX (tgt := 56) dX12_wants_49 (by decide) (fun h49 => ?_) (fun h49 => ?_)
        · refine j_iconst hX (v := 0) (by decide) dX12_wants_56 ?_
          refine j_iadd hX dX12_wants_57 ?_
          exact j_iret hX dX12_wants_58 ⟨congrArg (fun z => some (Value.int z)) (show (0 + 1) + 0 = wtM M j kd by simp only [wtM, eqV, if_pos h8, if_neg h18, if_pos h33, if_neg h49]), rfl⟩
        · refine j_iconst hX (v := 1) (by decide) dX12_wants_52 ?_
          refine j_goto hX (tgt := 57) dX12_wants_53 (by decide) ?_
          refine j_iadd hX dX12_wants_57 ?_
          exact j_iret hX dX12_wants_58 ⟨congrArg (fun z => some (Value.int z)) (show (0 + 1) + 1 = wtM M j kd by simp only [wtM, eqV, if_pos h8, if_neg h18, if_pos h33, if_pos h49]), rfl⟩
    · refine j_iconst hX (v := 1) (by decide) dX12_wants_21 ?_
      refine j_goto hX (tgt := 26) dX12_wants_22 (by decide) ?_
      refine j_aload_n hX dX12_wants_26 rfl ?_
      refine j_getf hX (v := .ref (ad 8)) dX12_wants_27 fX12_wants_32 0 (wMg0 _ _ _ _ _) rfl ?_
      refine j_iload_n hX dX12_wants_30 rfl ?_
      refine j_iald hX (v := (M 8) j) dX12_wants_31 8 (wMg8 _ _ _ _ _) (nI_in (by omega) (by decide)) (rdc (by omega)) ?_
      refine j_iload_n hX dX12_wants_32 rfl ?_
      refine j_icmp_ne hX (tgt := 40) dX12_wants_33 (by decide) (fun h33 => ?_) (fun h33 => ?_)
      · refine j_iconst hX (v := 0) (by decide) dX12_wants_40 ?_
        refine j_iadd hX dX12_wants_41 ?_
        refine j_aload_n hX dX12_wants_42 rfl ?_
        refine j_getf hX (v := .ref (ad 9)) dX12_wants_43 fX12_wants_35 0 (wMg0 _ _ _ _ _) rfl ?_
        refine j_iload_n hX dX12_wants_46 rfl ?_
        refine j_iald hX (v := (M 9) j) dX12_wants_47 9 (wMg9 _ _ _ _ _) (nI_in (by omega) (by decide)) (rdc (by omega)) ?_
        refine j_iload_n hX dX12_wants_48 rfl ?_
        refine j_icmp_ne hX (tgt := 56) dX12_wants_49 (by decide) (fun h49 => ?_) (fun h49 => ?_)
        · refine j_iconst hX (v := 0) (by decide) dX12_wants_56 ?_
          refine j_iadd hX dX12_wants_57 ?_
          exact j_iret hX dX12_wants_58 ⟨congrArg (fun z => some (Value.int z)) (show (1 + 0) + 0 = wtM M j kd by simp only [wtM, eqV, if_pos h8, if_pos h18, if_neg h33, if_neg h49]), rfl⟩
        · refine j_iconst hX (v := 1) (by decide) dX12_wants_52 ?_
          refine j_goto hX (tgt := 57) dX12_wants_53 (by decide) ?_
          refine j_iadd hX dX12_wants_57 ?_
          exact j_iret hX dX12_wants_58 ⟨congrArg (fun z => some (Value.int z)) (show (1 + 0) + 1 = wtM M j kd by simp only [wtM, eqV, if_pos h8, if_pos h18, if_neg h33, if_pos h49]), rfl⟩
      · refine j_iconst hX (v := 1) (by decide) dX12_wants_36 ?_
        refine j_goto hX (tgt := 41) dX12_wants_37 (by decide) ?_
        refine j_iadd hX dX12_wants_41 ?_
        refine j_aload_n hX dX12_wants_42 rfl ?_
        refine j_getf hX (v := .ref (ad 9)) dX12_wants_43 fX12_wants_35 0 (wMg0 _ _ _ _ _) rfl ?_
        refine j_iload_n hX dX12_wants_46 rfl ?_
        refine j_iald hX (v := (M 9) j) dX12_wants_47 9 (wMg9 _ _ _ _ _) (nI_in (by omega) (by decide)) (rdc (by omega)) ?_
        refine j_iload_n hX dX12_wants_48 rfl ?_
        refine j_icmp_ne hX (tgt := 56) dX12_wants_49 (by decide) (fun h49 => ?_) (fun h49 => ?_)
        · refine j_iconst hX (v := 0) (by decide) dX12_wants_56 ?_
          refine j_iadd hX dX12_wants_57 ?_
          exact j_iret hX dX12_wants_58 ⟨congrArg (fun z => some (Value.int z)) (show (1 + 1) + 0 = wtM M j kd by simp only [wtM, eqV, if_pos h8, if_pos h18, if_pos h33, if_neg h49]), rfl⟩
        · refine j_iconst hX (v := 1) (by decide) dX12_wants_52 ?_
          refine j_goto hX (tgt := 57) dX12_wants_53 (by decide) ?_
          refine j_iadd hX dX12_wants_57 ?_
          exact j_iret hX dX12_wants_58 ⟨congrArg (fun z => some (Value.int z)) (show (1 + 1) + 1 = wtM M j kd by simp only [wtM, eqV, if_pos h8, if_pos h18, if_pos h33, if_pos h49]), rfl⟩

def inB (set : Int32) (k : Nat) : Int32 := (set >>> (nI k &&& 31)) &&& 1
def cnS (M : Nat → Nat → Int32) (set kd : Int32) (k : Nat) (m : Int32) : Int32 := m + (if inB set k = 1 then (if kdM M k = kd then 1 else 0) else 0)
def cnM (M : Nat → Nat → Int32) (set kd : Int32) (n : Nat) : Int32 := itr (cnS M set kd) n 0
def fiL (M : Nat → Nat → Int32) (n j : Nat) (set : Int32) : Nat → Nat → Int32
  | _, 0 => 1
  | i, k + 1 => if cnM M set (nI i) n = wtM M j (nI i) then fiL M n j set (i + 1) k else 0
def fiM (M : Nat → Nat → Int32) (n j : Nat) (set : Int32) : Int32 := if bcF set = szM M j then fiL M n j set 0 10 else 0
set_option maxHeartbeats 4000000 in
set_option maxRecDepth 100000 in
theorem c_X12_fits (G : jG) (ad : Nat → Nat) (V : Nat → Int32) (M : Nat → Nat → Int32) (t : Int64) (n o c : Nat) (hI : mI n o c V M) (j : Nat) (hj : j < o) (set : Int32) : jD G 2 yX12_fits wsX12_fits [.ref (ad 0), .int (nI j), .int set] (wM G ad V M t) (some (.int (fiM M n j set))) (wM G ad V M t) := by
  refine jC.of (maxL := 6) (cc := cX12_fits) (ret := (some .boolean)) rfl (by decide) [some (.ref (ad 0)), some (.int (nI j)), some (.int set), none, none, none] rfl (Nat.le_of_ble_eq_true rfl) (j_args rfl) (fun X hX => ?_)
  obtain ⟨hn5, hn, ho2, ho, hc1, hc, hB, hG4⟩ := hI
  refine j_iload_n hX dX12_fits_0 rfl ?_
  refine j_dS hX (nA := 1) (As := [.int set]) (st := []) (st' := [.int (bcF set)]) dX12_fits_1 (c_bitCount G _) gX12_fits_J6_bitCount_0f7a4 rfl (by decide +kernel) (by decide) (Nat.le_of_ble_eq_true rfl) rfl (Nat.le_of_ble_eq_true rfl) rfl ⟨Nat.le_refl _, Nat.le_refl _⟩ rfl ?_
  refine j_aload_n hX dX12_fits_4 rfl ?_
  refine j_iload_n hX dX12_fits_5 rfl ?_
  refine j_dV hX (nA := 1) (cq := (RX12, TX12, 37)) (As := [.int (nI j)]) (st := [.int (bcF set)]) (st' := [.int (szM M j), .int (bcF set)]) (ci := 13) rfl dX12_fits_6 (c_X12_sizeOf G _ V M _ j (by omega)) gX12_fits_X12_sizeOf rfl (by decide +kernel) (q := 0) (wMg0 _ _ _ _ _) (by decide) (Nat.le_of_ble_eq_true rfl) rfl (Nat.le_of_ble_eq_true rfl) rfl ⟨Nat.le_refl _, Nat.le_refl _⟩ rfl ?_
  refine j_icmp_eq hX (tgt := 14) dX12_fits_9 (by decide) (fun h9 => ?_) (fun h9 => ?_)
  · refine j_iconst hX (v := 0) (by decide) dX12_fits_14 ?_
    refine j_istore_n hX (ls' := [some (.ref (ad 0)), some (.int (nI j)), some (.int set), some (.int 0), none, none]) dX12_fits_15 (Nat.le_of_ble_eq_true rfl) rfl rfl ?_
    have L16 : ∀ zi i : Nat, 0 ≤ i → i + zi = 10 → fiL M n j set i zi = fiL M n j set 0 10 → jW G X 0 0 16 [some (.ref (ad 0)), some (.int (nI j)), some (.int set), some (.int (nI i)), none, none] [] (wM G ad V M t) := by
      intro zi
      induction zi with
      | zero =>
        intro i h0 hi hc0
        have hin : i = 10 := by omega
        refine j_iload_n hX dX12_fits_16 rfl ?_
        refine j_bipush hX (v := 10) (by decide) dX12_fits_17 ?_
        refine j_icmp_ge_t hX (tgt := 92) dX12_fits_19 (by decide) (nI_le (a := 10) (b := i) (by omega) (by omega)) ?_
        refine j_iconst hX (v := 1) (by decide) dX12_fits_92 ?_
        exact j_zret hX (by decide) dX12_fits_93 ⟨congrArg (fun z => some (Value.int z)) (hc0.trans (if_pos h9).symm), rfl⟩
      | succ zi ih =>
        intro i h0 hi hc0
        have hin : i < 10 := by omega
        refine j_iload_n hX dX12_fits_16 rfl ?_
        refine j_bipush hX (v := 10) (by decide) dX12_fits_17 ?_
        refine j_icmp_ge_f hX (tgt := 92) dX12_fits_19 (by decide) (nI_ge (a := i) (b := 10) (by omega) (by decide)) ?_
        refine j_iconst hX (v := 0) (by decide) dX12_fits_22 ?_
        refine j_istore hX (ls' := [some (.ref (ad 0)), some (.int (nI j)), some (.int set), some (.int (nI i)), some (.int 0), none]) dX12_fits_23 (Nat.le_of_ble_eq_true rfl) rfl rfl ?_
        refine j_iconst hX (v := 0) (by decide) dX12_fits_25 ?_
        refine j_istore hX (ls' := [some (.ref (ad 0)), some (.int (nI j)), some (.int set), some (.int (nI i)), some (.int 0), some (.int 0)]) dX12_fits_26 (Nat.le_of_ble_eq_true rfl) rfl rfl ?_
        have L28 : ∀ za a : Nat, 0 ≤ a → a + za = n → jW G X 0 0 28 [some (.ref (ad 0)), some (.int (nI j)), some (.int set), some (.int (nI i)), some (.int (cnM M set (nI i) a)), some (.int (nI a))] [] (wM G ad V M t) := by
          intro za
          induction za with
          | zero =>
            intro a h0a hia
            have hina : a = n := by omega
            refine j_iload hX dX12_fits_28 rfl ?_
            refine j_aload_n hX dX12_fits_30 rfl ?_
            refine j_getf hX (v := .int (V 5)) dX12_fits_31 fX12_fits_93 0 (wMg0 _ _ _ _ _) rfl ?_
            refine jW.top hn5 ?_
            refine j_icmp_ge_t hX (tgt := 73) dX12_fits_34 (by decide) (by rw [hina]; exact nI_le (Nat.le_refl _) (by omega)) ?_
            refine jW.locals (ls' := [some (.ref (ad 0)), some (.int (nI j)), some (.int set), some (.int (nI i)), some (.int (cnM M set (nI i) n)), some (.int (nI a))]) (by rw [hina]) ?_
            refine j_iload hX dX12_fits_73 rfl ?_
            refine j_aload_n hX dX12_fits_75 rfl ?_
            refine j_iload_n hX dX12_fits_76 rfl ?_
            refine j_iload_n hX dX12_fits_77 rfl ?_
            refine j_dV hX (nA := 2) (cq := (RX12, TX12, 37)) (As := [.int (nI j), .int (nI i)]) (st := [.int (cnM M set (nI i) n)]) (st' := [.int (wtM M j (nI i)), .int (cnM M set (nI i) n)]) (ci := 13) rfl dX12_fits_78 (c_X12_wants G _ V M _ j (by omega) _) gX12_fits_X12_wants rfl (by decide +kernel) (q := 0) (wMg0 _ _ _ _ _) (by decide) (Nat.le_of_ble_eq_true rfl) rfl (Nat.le_of_ble_eq_true rfl) rfl ⟨Nat.le_refl _, Nat.le_refl _⟩ rfl ?_
            refine j_icmp_eq hX (tgt := 86) dX12_fits_81 (by decide) (fun h81 => ?_) (fun h81 => ?_)
            · refine j_iinc hX (v := nI (i + 1)) (ls' := [some (.ref (ad 0)), some (.int (nI j)), some (.int set), some (.int (nI (i + 1))), some (.int (cnM M set (nI i) n)), some (.int (nI a))]) dX12_fits_86 rfl (j_inc1 _) rfl rfl ?_
              refine j_goto hX (tgt := 16) dX12_fits_89 (by decide) ?_
              refine jW.drop (ls' := [some (.ref (ad 0)), some (.int (nI j)), some (.int set), some (.int (nI (i + 1))), none, none]) ⟨Or.inr rfl, Or.inr rfl, Or.inr rfl, Or.inr rfl, Or.inl rfl, Or.inl rfl, trivial⟩ ?_
              exact ih (i + 1) (by omega) (by omega) (((if_pos h81 : fiL M n j set i (zi + 1) = fiL M n j set (i + 1) zi)).symm.trans hc0)
            · refine j_iconst hX (v := 0) (by decide) dX12_fits_84 ?_
              exact j_zret hX (by decide) dX12_fits_85 ⟨congrArg (fun z => some (Value.int z)) (((if_neg h81 : fiL M n j set i (zi + 1) = 0)).symm.trans hc0 |>.trans (if_pos h9).symm), rfl⟩
          | succ za iha =>
            intro a h0a hia
            have hina : a < n := by omega
            refine j_iload hX dX12_fits_28 rfl ?_
            refine j_aload_n hX dX12_fits_30 rfl ?_
            refine j_getf hX (v := .int (V 5)) dX12_fits_31 fX12_fits_93 0 (wMg0 _ _ _ _ _) rfl ?_
            refine jW.top hn5 ?_
            refine j_icmp_ge_f hX (tgt := 73) dX12_fits_34 (by decide) (nI_ge hina (by omega)) ?_
            refine j_iload hX dX12_fits_37 rfl ?_
            refine j_iload_n hX dX12_fits_39 rfl ?_
            refine j_iload hX dX12_fits_40 rfl ?_
            refine j_ishr hX dX12_fits_42 ?_
            refine j_iconst hX (v := 1) (by decide) dX12_fits_43 ?_
            refine j_iand hX dX12_fits_44 ?_
            refine j_iconst hX (v := 1) (by decide) dX12_fits_45 ?_
            refine j_icmp_ne hX (tgt := 63) dX12_fits_46 (by decide) (fun h46 => ?_) (fun h46 => ?_)
            · refine j_iconst hX (v := 0) (by decide) dX12_fits_63 ?_
              refine j_iadd hX dX12_fits_64 ?_
              refine j_istore hX (ls' := [some (.ref (ad 0)), some (.int (nI j)), some (.int set), some (.int (nI i)), some (.int ((cnM M set (nI i) a) + 0)), some (.int (nI a))]) dX12_fits_65 (Nat.le_of_ble_eq_true rfl) rfl rfl ?_
              refine j_iinc hX (v := nI (a + 1)) (ls' := [some (.ref (ad 0)), some (.int (nI j)), some (.int set), some (.int (nI i)), some (.int ((cnM M set (nI i) a) + 0)), some (.int (nI (a + 1)))]) dX12_fits_67 rfl (j_inc1 _) rfl rfl ?_
              refine j_goto hX (tgt := 28) dX12_fits_70 (by decide) ?_
              refine jW.locals (ls' := [some (.ref (ad 0)), some (.int (nI j)), some (.int set), some (.int (nI i)), some (.int (cnM M set (nI i) (a + 1))), some (.int (nI (a + 1)))]) (by rw [show cnM M set (nI i) (a + 1) = (cnM M set (nI i) a) + 0 from by show cnS M set (nI i) a (cnM M set (nI i) a) = _; rw [cnS, inB, if_neg h46]]) ?_
              exact iha (a + 1) (by omega) (by omega)
            · refine j_aload_n hX dX12_fits_49 rfl ?_
              refine j_iload hX dX12_fits_50 rfl ?_
              refine j_dV hX (nA := 1) (cq := (RX12, TX12, 37)) (As := [.int (nI a)]) (st := [.int (cnM M set (nI i) a)]) (st' := [.int (kdM M a), .int (cnM M set (nI i) a)]) (ci := 13) rfl dX12_fits_52 (c_X12_kind G _ V M _ a (by omega) (hB a (by omega))) gX12_fits_X12_kind rfl (by decide +kernel) (q := 0) (wMg0 _ _ _ _ _) (by decide) (Nat.le_of_ble_eq_true rfl) rfl (Nat.le_of_ble_eq_true rfl) rfl ⟨Nat.le_refl _, Nat.le_refl _⟩ rfl ?_
              refine j_iload_n hX dX12_fits_55 rfl ?_
              refine j_icmp_ne hX (tgt := 63) dX12_fits_56 (by decide) (fun h56 => ?_) (fun h56 => ?_)
              · refine j_iconst hX (v := 0) (by decide) dX12_fits_63 ?_
                refine j_iadd hX dX12_fits_64 ?_
                refine j_istore hX (ls' := [some (.ref (ad 0)), some (.int (nI j)), some (.int set), some (.int (nI i)), some (.int ((cnM M set (nI i) a) + 0)), some (.int (nI a))]) dX12_fits_65 (Nat.le_of_ble_eq_true rfl) rfl rfl ?_
                refine j_iinc hX (v := nI (a + 1)) (ls' := [some (.ref (ad 0)), some (.int (nI j)), some (.int set), some (.int (nI i)), some (.int ((cnM M set (nI i) a) + 0)), some (.int (nI (a + 1)))]) dX12_fits_67 rfl (j_inc1 _) rfl rfl ?_
                refine j_goto hX (tgt := 28) dX12_fits_70 (by decide) ?_
                refine jW.locals (ls' := [some (.ref (ad 0)), some (.int (nI j)), some (.int set), some (.int (nI i)), some (.int (cnM M set (nI i) (a + 1))), some (.int (nI (a + 1)))]) (by rw [show cnM M set (nI i) (a + 1) = (cnM M set (nI i) a) + 0 from by show cnS M set (nI i) a (cnM M set (nI i) a) = _; rw [cnS, inB, if_pos h46, if_neg h56]]) ?_
                exact iha (a + 1) (by omega) (by omega)
              · refine j_iconst hX (v := 1) (by decide) dX12_fits_59 ?_
                refine j_goto hX (tgt := 64) dX12_fits_60 (by decide) ?_
                refine j_iadd hX dX12_fits_64 ?_
                refine j_istore hX (ls' := [some (.ref (ad 0)), some (.int (nI j)), some (.int set), some (.int (nI i)), some (.int ((cnM M set (nI i) a) + 1)), some (.int (nI a))]) dX12_fits_65 (Nat.le_of_ble_eq_true rfl) rfl rfl ?_
                refine j_iinc hX (v := nI (a + 1)) (ls' := [some (.ref (ad 0)), some (.int (nI j)), some (.int set), some (.int (nI i)), some (.int ((cnM M set (nI i) a) + 1)), some (.int (nI (a + 1)))]) dX12_fits_67 rfl (j_inc1 _) rfl rfl ?_
                refine j_goto hX (tgt := 28) dX12_fits_70 (by decide) ?_
                refine jW.locals (ls' := [some (.ref (ad 0)), some (.int (nI j)), some (.int set), some (.int (nI i)), some (.int (cnM M set (nI i) (a + 1))), some (.int (nI (a + 1)))]) (by rw [show cnM M set (nI i) (a + 1) = (cnM M set (nI i) a) + 1 from by show cnS M set (nI i) a (cnM M set (nI i) a) = _; rw [cnS, inB, if_pos h46, if_pos h56]]) ?_
                exact iha (a + 1) (by omega) (by omega)
        exact L28 n 0 (Nat.le_refl _) (by omega)
    exact L16 10 0 (Nat.le_refl _) (by omega) rfl
  · refine j_iconst hX (v := 0) (by decide) dX12_fits_12 ?_
    exact j_zret hX (by decide) dX12_fits_13 ⟨congrArg (fun z => some (Value.int z)) (show 0 = fiM M n j set from (if_neg h9).symm), rfl⟩

def dsM (M : Nat → Nat → Int32) (set : Int32) (n : Nat) : Int32 := itr (fun k s => if inB set k = 1 then s + prM M k else s) n 0
def dcM (M : Nat → Nat → Int32) (set : Int32) (n : Nat) : Int32 := itr (fun k s => if inB set k = 1 then (if prM M k < s then prM M k else s) else s) n 9999
def diM (M : Nat → Nat → Int32) (n j : Nat) (set : Int32) : Int32 := if M 6 j = 112 then dsM M set n * M 8 j / 100 else if M 6 j = 102 then dcM M set n else dsM M set n - M 10 j
set_option maxHeartbeats 4000000 in
set_option maxRecDepth 100000 in
theorem c_X12_discount (G : jG) (ad : Nat → Nat) (V : Nat → Int32) (M : Nat → Nat → Int32) (t : Int64) (n o c : Nat) (hI : mI n o c V M) (j : Nat) (hj : j < o) (set : Int32) : jD G 1 yX12_discount wsX12_discount [.ref (ad 0), .int (nI j), .int set] (wM G ad V M t) (some (.int (diM M n j set))) (wM G ad V M t) := by
  refine jC.of (maxL := 6) (cc := cX12_discount) (ret := (some .int)) rfl (by decide) [some (.ref (ad 0)), some (.int (nI j)), some (.int set), none, none, none] rfl (Nat.le_of_ble_eq_true rfl) (j_args rfl) (fun X hX => ?_)
  obtain ⟨hn5, hn, ho2, ho, hc1, hc, hB, hG4⟩ := hI
  refine j_iconst hX (v := 0) (by decide) dX12_discount_0 ?_
  refine j_istore_n hX (ls' := [some (.ref (ad 0)), some (.int (nI j)), some (.int set), some (.int 0), none, none]) dX12_discount_1 (Nat.le_of_ble_eq_true rfl) rfl rfl ?_
  refine j_sipush hX (v := 9999) (by decide) dX12_discount_2 ?_
  refine j_istore hX (ls' := [some (.ref (ad 0)), some (.int (nI j)), some (.int set), some (.int 0), some (.int 9999), none]) dX12_discount_5 (Nat.le_of_ble_eq_true rfl) rfl rfl ?_
  refine j_iconst hX (v := 0) (by decide) dX12_discount_7 ?_
  refine j_istore hX (ls' := [some (.ref (ad 0)), some (.int (nI j)), some (.int set), some (.int 0), some (.int 9999), some (.int 0)]) dX12_discount_8 (Nat.le_of_ble_eq_true rfl) rfl rfl ?_
  have L10 : ∀ zi i : Nat, 0 ≤ i → i + zi = n → jW G X 0 0 10 [some (.ref (ad 0)), some (.int (nI j)), some (.int set), some (.int (dsM M set i)), some (.int (dcM M set i)), some (.int (nI i))] [] (wM G ad V M t) := by
    intro zi
    induction zi with
    | zero =>
      intro i h0 hi
      have hin : i = n := by omega
      refine j_iload hX dX12_discount_10 rfl ?_
      refine j_aload_n hX dX12_discount_12 rfl ?_
      refine j_getf hX (v := .int (V 5)) dX12_discount_13 fX12_discount_93 0 (wMg0 _ _ _ _ _) rfl ?_
      refine jW.top hn5 ?_
      refine j_icmp_ge_t hX (tgt := 57) dX12_discount_16 (by decide) (by rw [hin]; exact nI_le (Nat.le_refl _) (by omega)) ?_
      refine j_aload_n hX dX12_discount_57 rfl ?_
      refine j_getf hX (v := .ref (ad 6)) dX12_discount_58 fX12_discount_26 0 (wMg0 _ _ _ _ _) rfl ?_
      refine j_iload_n hX dX12_discount_61 rfl ?_
      refine j_cald hX (v := (M 6) j) dX12_discount_62 6 (wMg6 _ _ _ _ _) (nI_in (by omega) (by decide)) (rdc (by omega)) ?_
      refine j_bipush hX (v := 112) (by decide) dX12_discount_63 ?_
      refine j_icmp_ne hX (tgt := 82) dX12_discount_65 (by decide) (fun h65 => ?_) (fun h65 => ?_)
      · refine j_aload_n hX dX12_discount_82 rfl ?_
        refine j_getf hX (v := .ref (ad 6)) dX12_discount_83 fX12_discount_26 0 (wMg0 _ _ _ _ _) rfl ?_
        refine j_iload_n hX dX12_discount_86 rfl ?_
        refine j_cald hX (v := (M 6) j) dX12_discount_87 6 (wMg6 _ _ _ _ _) (nI_in (by omega) (by decide)) (rdc (by omega)) ?_
        refine j_bipush hX (v := 102) (by decide) dX12_discount_88 ?_
        refine j_icmp_ne hX (tgt := 98) dX12_discount_90 (by decide) (fun h90 => ?_) (fun h90 => ?_)
        · refine j_iload_n hX dX12_discount_98 rfl ?_
          refine j_aload_n hX dX12_discount_99 rfl ?_
          refine j_getf hX (v := .ref (ad 10)) dX12_discount_100 fX12_discount_38 0 (wMg0 _ _ _ _ _) rfl ?_
          refine j_iload_n hX dX12_discount_103 rfl ?_
          refine j_iald hX (v := (M 10) j) dX12_discount_104 10 (wMg10 _ _ _ _ _) (nI_in (by omega) (by decide)) (rdc (by omega)) ?_
          refine j_isub hX dX12_discount_105 ?_
          exact j_iret hX dX12_discount_106 ⟨congrArg (fun z => some (Value.int z)) (show (dsM M set i) - ((M 10) j) = diM M n j set by rw [hin]; simp only [diM, if_neg h65, if_neg h90]), rfl⟩
        · refine j_iload hX dX12_discount_93 rfl ?_
          refine j_goto hX (tgt := 106) dX12_discount_95 (by decide) ?_
          exact j_iret hX dX12_discount_106 ⟨congrArg (fun z => some (Value.int z)) (show dcM M set i = diM M n j set by rw [hin]; simp only [diM, if_neg h65, if_pos h90]), rfl⟩
      · refine j_iload_n hX dX12_discount_68 rfl ?_
        refine j_aload_n hX dX12_discount_69 rfl ?_
        refine j_getf hX (v := .ref (ad 8)) dX12_discount_70 fX12_discount_32 0 (wMg0 _ _ _ _ _) rfl ?_
        refine j_iload_n hX dX12_discount_73 rfl ?_
        refine j_iald hX (v := (M 8) j) dX12_discount_74 8 (wMg8 _ _ _ _ _) (nI_in (by omega) (by decide)) (rdc (by omega)) ?_
        refine j_imul hX dX12_discount_75 ?_
        refine j_bipush hX (v := 100) (by decide) dX12_discount_76 ?_
        refine j_idiv hX dX12_discount_78 (by decide) ?_
        refine j_goto hX (tgt := 106) dX12_discount_79 (by decide) ?_
        exact j_iret hX dX12_discount_106 ⟨congrArg (fun z => some (Value.int z)) (show ((dsM M set i) * ((M 8) j)) / 100 = diM M n j set by rw [hin]; simp only [diM, if_pos h65]), rfl⟩
    | succ zi ih =>
      intro i h0 hi
      have hin : i < n := by omega
      refine j_iload hX dX12_discount_10 rfl ?_
      refine j_aload_n hX dX12_discount_12 rfl ?_
      refine j_getf hX (v := .int (V 5)) dX12_discount_13 fX12_discount_93 0 (wMg0 _ _ _ _ _) rfl ?_
      refine jW.top hn5 ?_
      refine j_icmp_ge_f hX (tgt := 57) dX12_discount_16 (by decide) (nI_ge hin (by omega)) ?_
      refine j_iload_n hX dX12_discount_19 rfl ?_
      refine j_iload hX dX12_discount_20 rfl ?_
      refine j_ishr hX dX12_discount_22 ?_
      refine j_iconst hX (v := 1) (by decide) dX12_discount_23 ?_
      refine j_iand hX dX12_discount_24 ?_
      refine j_iconst hX (v := 1) (by decide) dX12_discount_25 ?_
      refine j_icmp_ne hX (tgt := 51) dX12_discount_26 (by decide) (fun h26 => ?_) (fun h26 => ?_)
      · refine j_iinc hX (v := nI (i + 1)) (ls' := [some (.ref (ad 0)), some (.int (nI j)), some (.int set), some (.int (dsM M set i)), some (.int (dcM M set i)), some (.int (nI (i + 1)))]) dX12_discount_51 rfl (j_inc1 _) rfl rfl ?_
        refine j_goto hX (tgt := 10) dX12_discount_54 (by decide) ?_
        refine jW.locals (ls' := [some (.ref (ad 0)), some (.int (nI j)), some (.int set), some (.int (dsM M set (i + 1))), some (.int (dcM M set (i + 1))), some (.int (nI (i + 1)))]) (by rw [show dsM M set (i + 1) = dsM M set i from if_neg h26, show dcM M set (i + 1) = dcM M set i from if_neg h26]) ?_
        exact ih (i + 1) (by omega) (by omega)
      · refine j_iload_n hX dX12_discount_29 rfl ?_
        refine j_aload_n hX dX12_discount_30 rfl ?_
        refine j_iload hX dX12_discount_31 rfl ?_
        refine j_dV hX (nA := 1) (cq := (RX12, TX12, 37)) (As := [.int (nI i)]) (st := [.int (dsM M set i)]) (st' := [.int (prM M i), .int (dsM M set i)]) (ci := 13) rfl dX12_discount_33 (c_X12_price G _ V M _ i (by omega) (hB i (by omega))) gX12_discount_X12_price rfl (by decide +kernel) (q := 0) (wMg0 _ _ _ _ _) (by decide) (Nat.le_of_ble_eq_true rfl) rfl (Nat.le_of_ble_eq_true rfl) rfl ⟨Nat.le_refl _, Nat.le_refl _⟩ rfl ?_
        refine j_iadd hX dX12_discount_36 ?_
        refine j_istore_n hX (ls' := [some (.ref (ad 0)), some (.int (nI j)), some (.int set), some (.int ((dsM M set i) + (prM M i))), some (.int (dcM M set i)), some (.int (nI i))]) dX12_discount_37 (Nat.le_of_ble_eq_true rfl) rfl rfl ?_
        refine j_iload hX dX12_discount_38 rfl ?_
        refine j_aload_n hX dX12_discount_40 rfl ?_
        refine j_iload hX dX12_discount_41 rfl ?_
        refine j_dV hX (nA := 1) (cq := (RX12, TX12, 37)) (As := [.int (nI i)]) (st := [.int (dcM M set i)]) (st' := [.int (prM M i), .int (dcM M set i)]) (ci := 13) rfl dX12_discount_43 (c_X12_price G _ V M _ i (by omega) (hB i (by omega))) gX12_discount_X12_price rfl (by decide +kernel) (q := 0) (wMg0 _ _ _ _ _) (by decide) (Nat.le_of_ble_eq_true rfl) rfl (Nat.le_of_ble_eq_true rfl) rfl ⟨Nat.le_refl _, Nat.le_refl _⟩ rfl ?_
        refine j_mmin hX dX12_discount_46 (by decide +kernel) (by decide +kernel) (by decide +kernel) (by decide +kernel) (by decide) rfl (Nat.le_of_ble_eq_true rfl) ⟨Nat.le_refl _, Nat.le_refl _⟩ ?_
        refine j_istore hX (ls' := [some (.ref (ad 0)), some (.int (nI j)), some (.int set), some (.int ((dsM M set i) + (prM M i))), some (.int (if (prM M i) < (dcM M set i) then (prM M i) else (dcM M set i))), some (.int (nI i))]) dX12_discount_49 (Nat.le_of_ble_eq_true rfl) rfl rfl ?_
        refine j_iinc hX (v := nI (i + 1)) (ls' := [some (.ref (ad 0)), some (.int (nI j)), some (.int set), some (.int ((dsM M set i) + (prM M i))), some (.int (if (prM M i) < (dcM M set i) then (prM M i) else (dcM M set i))), some (.int (nI (i + 1)))]) dX12_discount_51 rfl (j_inc1 _) rfl rfl ?_
        refine j_goto hX (tgt := 10) dX12_discount_54 (by decide) ?_
        refine jW.locals (ls' := [some (.ref (ad 0)), some (.int (nI j)), some (.int set), some (.int (dsM M set (i + 1))), some (.int (dcM M set (i + 1))), some (.int (nI (i + 1)))]) (by rw [show dsM M set (i + 1) = (dsM M set i) + (prM M i) from if_pos h26, show dcM M set (i + 1) = if (prM M i) < (dcM M set i) then (prM M i) else (dcM M set i) from if_pos h26]) ?_
        exact ih (i + 1) (by omega) (by omega)
  exact L10 n 0 (Nat.le_refl _) (by omega)

def goM (M : Nat → Nat → Int32) (n j : Nat) (set : Int32) : Int32 := if fiM M n j set = 0 then 0 else if M 6 j = 98 then (if diM M n j set ≤ 0 then 0 else 1) else 1
set_option maxHeartbeats 4000000 in
set_option maxRecDepth 100000 in
theorem c_X12_isGood (G : jG) (ad : Nat → Nat) (V : Nat → Int32) (M : Nat → Nat → Int32) (t : Int64) (n o c : Nat) (hI : mI n o c V M) (j : Nat) (hj : j < o) (set : Int32) : jD G 3 yX12_isGood wsX12_isGood [.ref (ad 0), .int (nI j), .int set] (wM G ad V M t) (some (.int (goM M n j set))) (wM G ad V M t) := by
  refine jC.of (maxL := 3) (cc := cX12_isGood) (ret := (some .boolean)) rfl (by decide) [some (.ref (ad 0)), some (.int (nI j)), some (.int set)] rfl (Nat.le_of_ble_eq_true rfl) (j_args rfl) (fun X hX => ?_)
  have hI0 := hI
  obtain ⟨hn5, hn, ho2, ho, hc1, hc, hB, hG4⟩ := hI
  refine j_aload_n hX dX12_isGood_0 rfl ?_
  refine j_iload_n hX dX12_isGood_1 rfl ?_
  refine j_iload_n hX dX12_isGood_2 rfl ?_
  refine j_dV hX (nA := 2) (cq := (RX12, TX12, 37)) (As := [.int (nI j), .int set]) (st := []) (st' := [.int (fiM M n j set)]) (ci := 13) rfl dX12_isGood_3 (c_X12_fits G _ V M _ n o c hI0 j (by omega) _) gX12_isGood_X12_fits rfl (by decide +kernel) (q := 0) (wMg0 _ _ _ _ _) (by decide) (Nat.le_of_ble_eq_true rfl) rfl (Nat.le_of_ble_eq_true rfl) rfl ⟨Nat.le_refl _, Nat.le_refl _⟩ rfl ?_
  refine j_if_eq hX (tgt := 33) dX12_isGood_6 (by decide) (fun h6 => ?_) (fun h6 => ?_)
  · refine j_iconst hX (v := 0) (by decide) dX12_isGood_33 ?_
    exact j_zret hX (by decide) dX12_isGood_34 ⟨congrArg (fun z => some (Value.int z)) (show 0 = goM M n j set by simp only [goM, if_pos h6]), rfl⟩
  · refine j_aload_n hX dX12_isGood_9 rfl ?_
    refine j_getf hX (v := .ref (ad 6)) dX12_isGood_10 fX12_isGood_26 0 (wMg0 _ _ _ _ _) rfl ?_
    refine j_iload_n hX dX12_isGood_13 rfl ?_
    refine j_cald hX (v := (M 6) j) dX12_isGood_14 6 (wMg6 _ _ _ _ _) (nI_in (by omega) (by decide)) (rdc (by omega)) ?_
    refine j_bipush hX (v := 98) (by decide) dX12_isGood_15 ?_
    refine j_icmp_ne hX (tgt := 29) dX12_isGood_17 (by decide) (fun h17 => ?_) (fun h17 => ?_)
    · refine j_iconst hX (v := 1) (by decide) dX12_isGood_29 ?_
      refine j_goto hX (tgt := 34) dX12_isGood_30 (by decide) ?_
      exact j_zret hX (by decide) dX12_isGood_34 ⟨congrArg (fun z => some (Value.int z)) (show 1 = goM M n j set by simp only [goM, if_neg h6, if_neg h17]), rfl⟩
    · refine j_aload_n hX dX12_isGood_20 rfl ?_
      refine j_iload_n hX dX12_isGood_21 rfl ?_
      refine j_iload_n hX dX12_isGood_22 rfl ?_
      refine j_dV hX (nA := 2) (cq := (RX12, TX12, 37)) (As := [.int (nI j), .int set]) (st := []) (st' := [.int (diM M n j set)]) (ci := 13) rfl dX12_isGood_23 (c_X12_discount G _ V M _ n o c hI0 j (by omega) _) gX12_isGood_X12_discount rfl (by decide +kernel) (q := 0) (wMg0 _ _ _ _ _) (by decide) (Nat.le_of_ble_eq_true rfl) rfl (Nat.le_of_ble_eq_true rfl) rfl ⟨Nat.le_refl _, Nat.le_refl _⟩ rfl ?_
      refine j_if_le hX (tgt := 33) dX12_isGood_26 (by decide) (fun h26 => ?_) (fun h26 => ?_)
      · refine j_iconst hX (v := 0) (by decide) dX12_isGood_33 ?_
        exact j_zret hX (by decide) dX12_isGood_34 ⟨congrArg (fun z => some (Value.int z)) (show 0 = goM M n j set by simp only [goM, if_neg h6, if_pos h17, if_pos h26]), rfl⟩
      · refine j_iconst hX (v := 1) (by decide) dX12_isGood_29 ?_
        refine j_goto hX (tgt := 34) dX12_isGood_30 (by decide) ?_
        exact j_zret hX (by decide) dX12_isGood_34 ⟨congrArg (fun z => some (Value.int z)) (show 1 = goM M n j set by simp only [goM, if_neg h6, if_pos h17, if_neg h26]), rfl⟩

def caM (c : Nat) (M : Nat → Nat → Int32) (j : Nat) (off sum : Int32) : Int32 := if M 6 j = 116 then (if lfM c M j ≤ 0 then 0 else if sum - off < M 7 j then 0 else if M 12 j = -1 then 1 else if M 17 (M 12 j).toNatClampNeg = -1 then 1 else 0) else 0
set_option maxHeartbeats 4000000 in
set_option maxRecDepth 100000 in
theorem c_X12_canThreshold (G : jG) (ad : Nat → Nat) (V : Nat → Int32) (M : Nat → Nat → Int32) (t : Int64) (n o c : Nat) (hI : mI n o c V M) (j : Nat) (hj : j < o) (off sum : Int32) : jD G 1 yX12_canThreshold wsX12_canThreshold [.ref (ad 0), .int (nI j), .int off, .int sum] (wM G ad V M t) (some (.int (caM c M j off sum))) (wM G ad V M t) := by
  refine jC.of (maxL := 4) (cc := cX12_canThreshold) (ret := (some .boolean)) rfl (by decide) [some (.ref (ad 0)), some (.int (nI j)), some (.int off), some (.int sum)] rfl (Nat.le_of_ble_eq_true rfl) (j_args rfl) (fun X hX => ?_)
  obtain ⟨hn5, hn, ho2, ho, hc1, hc, hB, hG4⟩ := hI
  refine j_aload_n hX dX12_canThreshold_0 rfl ?_
  refine j_getf hX (v := .ref (ad 6)) dX12_canThreshold_1 fX12_canThreshold_26 0 (wMg0 _ _ _ _ _) rfl ?_
  refine j_iload_n hX dX12_canThreshold_4 rfl ?_
  refine j_cald hX (v := (M 6) j) dX12_canThreshold_5 6 (wMg6 _ _ _ _ _) (nI_in (by omega) (by decide)) (rdc (by omega)) ?_
  refine j_bipush hX (v := 116) (by decide) dX12_canThreshold_6 ?_
  refine j_icmp_ne hX (tgt := 60) dX12_canThreshold_8 (by decide) (fun h8 => ?_) (fun h8 => ?_)
  · refine j_iconst hX (v := 0) (by decide) dX12_canThreshold_60 ?_
    exact j_zret hX (by decide) dX12_canThreshold_61 ⟨congrArg (fun z => some (Value.int z)) (show 0 = caM c M j off sum by simp only [caM, if_neg h8]), rfl⟩
  · refine j_aload_n hX dX12_canThreshold_11 rfl ?_
    refine j_iload_n hX dX12_canThreshold_12 rfl ?_
    refine j_dV hX (nA := 1) (cq := (RX12, TX12, 37)) (As := [.int (nI j)]) (st := []) (st' := [.int (lfM c M j)]) (ci := 13) rfl dX12_canThreshold_13 (c_X12_leftOf G _ V M _ c hc1 hc j (by omega)) gX12_canThreshold_X12_leftOf rfl (by decide +kernel) (q := 0) (wMg0 _ _ _ _ _) (by decide) (Nat.le_of_ble_eq_true rfl) rfl (Nat.le_of_ble_eq_true rfl) rfl ⟨Nat.le_refl _, Nat.le_refl _⟩ rfl ?_
    refine j_if_le hX (tgt := 60) dX12_canThreshold_16 (by decide) (fun h16 => ?_) (fun h16 => ?_)
    · refine j_iconst hX (v := 0) (by decide) dX12_canThreshold_60 ?_
      exact j_zret hX (by decide) dX12_canThreshold_61 ⟨congrArg (fun z => some (Value.int z)) (show 0 = caM c M j off sum by simp only [caM, if_pos h8, if_pos h16]), rfl⟩
    · refine j_iload_n hX dX12_canThreshold_19 rfl ?_
      refine j_iload_n hX dX12_canThreshold_20 rfl ?_
      refine j_isub hX dX12_canThreshold_21 ?_
      refine j_aload_n hX dX12_canThreshold_22 rfl ?_
      refine j_getf hX (v := .ref (ad 7)) dX12_canThreshold_23 fX12_canThreshold_29 0 (wMg0 _ _ _ _ _) rfl ?_
      refine j_iload_n hX dX12_canThreshold_26 rfl ?_
      refine j_iald hX (v := (M 7) j) dX12_canThreshold_27 7 (wMg7 _ _ _ _ _) (nI_in (by omega) (by decide)) (rdc (by omega)) ?_
      refine j_icmp_lt hX (tgt := 60) dX12_canThreshold_28 (by decide) (fun h28 => ?_) (fun h28 => ?_)
      · refine j_iconst hX (v := 0) (by decide) dX12_canThreshold_60 ?_
        exact j_zret hX (by decide) dX12_canThreshold_61 ⟨congrArg (fun z => some (Value.int z)) (show 0 = caM c M j off sum by simp only [caM, if_pos h8, if_neg h16, if_pos h28]), rfl⟩
      · refine j_aload_n hX dX12_canThreshold_31 rfl ?_
        refine j_getf hX (v := .ref (ad 12)) dX12_canThreshold_32 fX12_canThreshold_44 0 (wMg0 _ _ _ _ _) rfl ?_
        refine j_iload_n hX dX12_canThreshold_35 rfl ?_
        refine j_iald hX (v := (M 12) j) dX12_canThreshold_36 12 (wMg12 _ _ _ _ _) (nI_in (by omega) (by decide)) (rdc (by omega)) ?_
        refine j_iconst hX (v := -1) (by decide) dX12_canThreshold_37 ?_
        refine j_icmp_eq hX (tgt := 56) dX12_canThreshold_38 (by decide) (fun h38 => ?_) (fun h38 => ?_)
        · refine j_iconst hX (v := 1) (by decide) dX12_canThreshold_56 ?_
          refine j_goto hX (tgt := 61) dX12_canThreshold_57 (by decide) ?_
          exact j_zret hX (by decide) dX12_canThreshold_61 ⟨congrArg (fun z => some (Value.int z)) (show 1 = caM c M j off sum by simp only [caM, if_pos h8, if_neg h16, if_neg h28, if_pos h38]), rfl⟩
        · refine j_aload_n hX dX12_canThreshold_41 rfl ?_
          refine j_getf hX (v := .ref (ad 17)) dX12_canThreshold_42 fX12_canThreshold_61 0 (wMg0 _ _ _ _ _) rfl ?_
          refine j_aload_n hX dX12_canThreshold_45 rfl ?_
          refine j_getf hX (v := .ref (ad 12)) dX12_canThreshold_46 fX12_canThreshold_44 0 (wMg0 _ _ _ _ _) rfl ?_
          refine j_iload_n hX dX12_canThreshold_49 rfl ?_
          refine j_iald hX (v := (M 12) j) dX12_canThreshold_50 12 (wMg12 _ _ _ _ _) (nI_in (by omega) (by decide)) (rdc (by omega)) ?_
          refine j_iald hX (v := (M 17) (((M 12) j).toNatClampNeg)) dX12_canThreshold_51 17 (wMg17 _ _ _ _ _) ((hG4 j (by omega)).resolve_left h38) rfl ?_
          refine j_iconst hX (v := -1) (by decide) dX12_canThreshold_52 ?_
          refine j_icmp_ne hX (tgt := 60) dX12_canThreshold_53 (by decide) (fun h53 => ?_) (fun h53 => ?_)
          · refine j_iconst hX (v := 0) (by decide) dX12_canThreshold_60 ?_
            exact j_zret hX (by decide) dX12_canThreshold_61 ⟨congrArg (fun z => some (Value.int z)) (show 0 = caM c M j off sum by simp only [caM, if_pos h8, if_neg h16, if_neg h28, if_neg h38, if_neg h53]), rfl⟩
          · refine j_iconst hX (v := 1) (by decide) dX12_canThreshold_56 ?_
            refine j_goto hX (tgt := 61) dX12_canThreshold_57 (by decide) ?_
            exact j_zret hX (by decide) dX12_canThreshold_61 ⟨congrArg (fun z => some (Value.int z)) (show 1 = caM c M j off sum by simp only [caM, if_pos h8, if_neg h16, if_neg h28, if_neg h38, if_pos h53]), rfl⟩

def hoS (c : Nat) (M : Nat → Nat → Int32) (off sum : Int32) (j : Nat) (a : Int32) : Int32 := a + (if caM c M j off sum = 0 then 0 else M 8 j)
def hoM (c : Nat) (M : Nat → Nat → Int32) (off sum : Int32) (o : Nat) : Int32 := itr (hoS c M off sum) o 0
set_option maxHeartbeats 4000000 in
set_option maxRecDepth 100000 in
theorem c_X12_hopes (G : jG) (ad : Nat → Nat) (V : Nat → Int32) (M : Nat → Nat → Int32) (t : Int64) (n o c : Nat) (hI : mI n o c V M) (off sum : Int32) : jD G 2 yX12_hopes wsX12_hopes [.ref (ad 0), .int off, .int sum] (wM G ad V M t) (some (.int (hoM c M off sum o))) (wM G ad V M t) := by
  refine jC.of (maxL := 5) (cc := cX12_hopes) (ret := (some .int)) rfl (by decide) [some (.ref (ad 0)), some (.int off), some (.int sum), none, none] rfl (Nat.le_of_ble_eq_true rfl) (j_args rfl) (fun X hX => ?_)
  have hI0 := hI
  obtain ⟨hn5, hn, ho2, ho, hc1, hc, hB, hG4⟩ := hI
  refine j_iconst hX (v := 0) (by decide) dX12_hopes_0 ?_
  refine j_istore_n hX (ls' := [some (.ref (ad 0)), some (.int off), some (.int sum), some (.int 0), none]) dX12_hopes_1 (Nat.le_of_ble_eq_true rfl) rfl rfl ?_
  refine j_iconst hX (v := 0) (by decide) dX12_hopes_2 ?_
  refine j_istore hX (ls' := [some (.ref (ad 0)), some (.int off), some (.int sum), some (.int 0), some (.int 0)]) dX12_hopes_3 (Nat.le_of_ble_eq_true rfl) rfl rfl ?_
  have L5 : ∀ zi i : Nat, 0 ≤ i → i + zi = o → jW G X 0 0 5 [some (.ref (ad 0)), some (.int off), some (.int sum), some (.int (hoM c M off sum i)), some (.int (nI i))] [] (wM G ad V M t) := by
    intro zi
    induction zi with
    | zero =>
      intro i h0 hi
      have hin : i = o := by omega
      refine j_iload hX dX12_hopes_5 rfl ?_
      refine j_aload_n hX dX12_hopes_7 rfl ?_
      refine j_getf hX (v := .int (V 2)) dX12_hopes_8 fX12_hopes_121 0 (wMg0 _ _ _ _ _) rfl ?_
      refine jW.top ho2 ?_
      refine j_icmp_ge_t hX (tgt := 45) dX12_hopes_11 (by decide) (by rw [hin]; exact nI_le (Nat.le_refl _) (by omega)) ?_
      refine j_iload_n hX dX12_hopes_45 rfl ?_
      exact j_iret hX dX12_hopes_46 ⟨by rw [hin], rfl⟩
    | succ zi ih =>
      intro i h0 hi
      have hin : i < o := by omega
      refine j_iload hX dX12_hopes_5 rfl ?_
      refine j_aload_n hX dX12_hopes_7 rfl ?_
      refine j_getf hX (v := .int (V 2)) dX12_hopes_8 fX12_hopes_121 0 (wMg0 _ _ _ _ _) rfl ?_
      refine jW.top ho2 ?_
      refine j_icmp_ge_f hX (tgt := 45) dX12_hopes_11 (by decide) (nI_ge hin (by omega)) ?_
      refine j_iload_n hX dX12_hopes_14 rfl ?_
      refine j_aload_n hX dX12_hopes_15 rfl ?_
      refine j_iload hX dX12_hopes_16 rfl ?_
      refine j_iload_n hX dX12_hopes_18 rfl ?_
      refine j_iload_n hX dX12_hopes_19 rfl ?_
      refine j_dV hX (nA := 3) (cq := (RX12, TX12, 37)) (As := [.int (nI i), .int off, .int sum]) (st := [.int (hoM c M off sum i)]) (st' := [.int (caM c M i off sum), .int (hoM c M off sum i)]) (ci := 13) rfl dX12_hopes_20 (c_X12_canThreshold G _ V M _ n o c hI0 i (by omega) _ _) gX12_hopes_X12_canThreshold rfl (by decide +kernel) (q := 0) (wMg0 _ _ _ _ _) (by decide) (Nat.le_of_ble_eq_true rfl) rfl (Nat.le_of_ble_eq_true rfl) rfl ⟨Nat.le_refl _, Nat.le_refl _⟩ rfl ?_
      refine j_if_eq hX (tgt := 36) dX12_hopes_23 (by decide) (fun h23 => ?_) (fun h23 => ?_)
      · refine j_iconst hX (v := 0) (by decide) dX12_hopes_36 ?_
        refine j_iadd hX dX12_hopes_37 ?_
        refine j_istore_n hX (ls' := [some (.ref (ad 0)), some (.int off), some (.int sum), some (.int ((hoM c M off sum i) + 0)), some (.int (nI i))]) dX12_hopes_38 (Nat.le_of_ble_eq_true rfl) rfl rfl ?_
        refine j_iinc hX (v := nI (i + 1)) (ls' := [some (.ref (ad 0)), some (.int off), some (.int sum), some (.int ((hoM c M off sum i) + 0)), some (.int (nI (i + 1)))]) dX12_hopes_39 rfl (j_inc1 _) rfl rfl ?_
        refine j_goto hX (tgt := 5) dX12_hopes_42 (by decide) ?_
        refine jW.locals (ls' := [some (.ref (ad 0)), some (.int off), some (.int sum), some (.int (hoM c M off sum (i + 1))), some (.int (nI (i + 1)))]) (by rw [show hoM c M off sum (i + 1) = (hoM c M off sum i) + 0 from by show hoS c M off sum i (hoM c M off sum i) = _; rw [hoS, if_pos h23]]) ?_
        exact ih (i + 1) (by omega) (by omega)
      · refine j_aload_n hX dX12_hopes_26 rfl ?_
        refine j_getf hX (v := .ref (ad 8)) dX12_hopes_27 fX12_hopes_32 0 (wMg0 _ _ _ _ _) rfl ?_
        refine j_iload hX dX12_hopes_30 rfl ?_
        refine j_iald hX (v := (M 8) i) dX12_hopes_32 8 (wMg8 _ _ _ _ _) (nI_in (by omega) (by decide)) (rdc (by omega)) ?_
        refine j_goto hX (tgt := 37) dX12_hopes_33 (by decide) ?_
        refine j_iadd hX dX12_hopes_37 ?_
        refine j_istore_n hX (ls' := [some (.ref (ad 0)), some (.int off), some (.int sum), some (.int ((hoM c M off sum i) + ((M 8) i))), some (.int (nI i))]) dX12_hopes_38 (Nat.le_of_ble_eq_true rfl) rfl rfl ?_
        refine j_iinc hX (v := nI (i + 1)) (ls' := [some (.ref (ad 0)), some (.int off), some (.int sum), some (.int ((hoM c M off sum i) + ((M 8) i))), some (.int (nI (i + 1)))]) dX12_hopes_39 rfl (j_inc1 _) rfl rfl ?_
        refine j_goto hX (tgt := 5) dX12_hopes_42 (by decide) ?_
        refine jW.locals (ls' := [some (.ref (ad 0)), some (.int off), some (.int sum), some (.int (hoM c M off sum (i + 1))), some (.int (nI (i + 1)))]) (by rw [show hoM c M off sum (i + 1) = (hoM c M off sum i) + ((M 8) i) from by show hoS c M off sum i (hoM c M off sum i) = _; rw [hoS, if_neg h23]]) ?_
        exact ih (i + 1) (by omega) (by omega)
  exact L5 o 0 (Nat.le_refl _) (by omega)

def maM (c : Nat) (M : Nat → Nat → Int32) (j : Nat) : Int32 := if M 6 j = 116 then 0 else if lfM c M j ≤ M 16 j then 0 else if M 12 j = -1 then 1 else if M 17 (M 12 j).toNatClampNeg = -1 then 1 else if M 17 (M 12 j).toNatClampNeg = nI j then 1 else 0
set_option maxHeartbeats 4000000 in
set_option maxRecDepth 100000 in
theorem c_X12_mayUse (G : jG) (ad : Nat → Nat) (V : Nat → Int32) (M : Nat → Nat → Int32) (t : Int64) (n o c : Nat) (hI : mI n o c V M) (j : Nat) (hj : j < o) : jD G 1 yX12_mayUse wsX12_mayUse [.ref (ad 0), .int (nI j)] (wM G ad V M t) (some (.int (maM c M j))) (wM G ad V M t) := by
  refine jC.of (maxL := 2) (cc := cX12_mayUse) (ret := (some .boolean)) rfl (by decide) [some (.ref (ad 0)), some (.int (nI j))] rfl (Nat.le_of_ble_eq_true rfl) (j_args rfl) (fun X hX => ?_)
  obtain ⟨hn5, hn, ho2, ho, hc1, hc, hB, hG4⟩ := hI
  refine j_aload_n hX dX12_mayUse_0 rfl ?_
  refine j_getf hX (v := .ref (ad 6)) dX12_mayUse_1 fX12_mayUse_26 0 (wMg0 _ _ _ _ _) rfl ?_
  refine j_iload_n hX dX12_mayUse_4 rfl ?_
  refine j_cald hX (v := (M 6) j) dX12_mayUse_5 6 (wMg6 _ _ _ _ _) (nI_in (by omega) (by decide)) (rdc (by omega)) ?_
  refine j_bipush hX (v := 116) (by decide) dX12_mayUse_6 ?_
  refine j_icmp_eq hX (tgt := 69) dX12_mayUse_8 (by decide) (fun h8 => ?_) (fun h8 => ?_)
  · refine j_iconst hX (v := 0) (by decide) dX12_mayUse_69 ?_
    exact j_zret hX (by decide) dX12_mayUse_70 ⟨congrArg (fun z => some (Value.int z)) (show 0 = maM c M j by simp only [maM, if_pos h8]), rfl⟩
  · refine j_aload_n hX dX12_mayUse_11 rfl ?_
    refine j_getf hX (v := .ref (ad 16)) dX12_mayUse_12 fX12_mayUse_58 0 (wMg0 _ _ _ _ _) rfl ?_
    refine j_iload_n hX dX12_mayUse_15 rfl ?_
    refine j_iald hX (v := (M 16) j) dX12_mayUse_16 16 (wMg16 _ _ _ _ _) (nI_in (by omega) (by decide)) (rdc (by omega)) ?_
    refine j_aload_n hX dX12_mayUse_17 rfl ?_
    refine j_iload_n hX dX12_mayUse_18 rfl ?_
    refine j_dV hX (nA := 1) (cq := (RX12, TX12, 37)) (As := [.int (nI j)]) (st := [.int ((M 16) j)]) (st' := [.int (lfM c M j), .int ((M 16) j)]) (ci := 13) rfl dX12_mayUse_19 (c_X12_leftOf G _ V M _ c hc1 hc j (by omega)) gX12_mayUse_X12_leftOf rfl (by decide +kernel) (q := 0) (wMg0 _ _ _ _ _) (by decide) (Nat.le_of_ble_eq_true rfl) rfl (Nat.le_of_ble_eq_true rfl) rfl ⟨Nat.le_refl _, Nat.le_refl _⟩ rfl ?_
    refine j_icmp_ge hX (tgt := 69) dX12_mayUse_22 (by decide) (fun h22 => ?_) (fun h22 => ?_)
    · refine j_iconst hX (v := 0) (by decide) dX12_mayUse_69 ?_
      exact j_zret hX (by decide) dX12_mayUse_70 ⟨congrArg (fun z => some (Value.int z)) (show 0 = maM c M j by simp only [maM, if_neg h8, if_pos h22]), rfl⟩
    · refine j_aload_n hX dX12_mayUse_25 rfl ?_
      refine j_getf hX (v := .ref (ad 12)) dX12_mayUse_26 fX12_mayUse_44 0 (wMg0 _ _ _ _ _) rfl ?_
      refine j_iload_n hX dX12_mayUse_29 rfl ?_
      refine j_iald hX (v := (M 12) j) dX12_mayUse_30 12 (wMg12 _ _ _ _ _) (nI_in (by omega) (by decide)) (rdc (by omega)) ?_
      refine j_iconst hX (v := -1) (by decide) dX12_mayUse_31 ?_
      refine j_icmp_eq hX (tgt := 65) dX12_mayUse_32 (by decide) (fun h32 => ?_) (fun h32 => ?_)
      · refine j_iconst hX (v := 1) (by decide) dX12_mayUse_65 ?_
        refine j_goto hX (tgt := 70) dX12_mayUse_66 (by decide) ?_
        exact j_zret hX (by decide) dX12_mayUse_70 ⟨congrArg (fun z => some (Value.int z)) (show 1 = maM c M j by simp only [maM, if_neg h8, if_neg h22, if_pos h32]), rfl⟩
      · refine j_aload_n hX dX12_mayUse_35 rfl ?_
        refine j_getf hX (v := .ref (ad 17)) dX12_mayUse_36 fX12_mayUse_61 0 (wMg0 _ _ _ _ _) rfl ?_
        refine j_aload_n hX dX12_mayUse_39 rfl ?_
        refine j_getf hX (v := .ref (ad 12)) dX12_mayUse_40 fX12_mayUse_44 0 (wMg0 _ _ _ _ _) rfl ?_
        refine j_iload_n hX dX12_mayUse_43 rfl ?_
        refine j_iald hX (v := (M 12) j) dX12_mayUse_44 12 (wMg12 _ _ _ _ _) (nI_in (by omega) (by decide)) (rdc (by omega)) ?_
        refine j_iald hX (v := (M 17) (((M 12) j).toNatClampNeg)) dX12_mayUse_45 17 (wMg17 _ _ _ _ _) ((hG4 j (by omega)).resolve_left h32) rfl ?_
        refine j_iconst hX (v := -1) (by decide) dX12_mayUse_46 ?_
        refine j_icmp_eq hX (tgt := 65) dX12_mayUse_47 (by decide) (fun h47 => ?_) (fun h47 => ?_)
        · refine j_iconst hX (v := 1) (by decide) dX12_mayUse_65 ?_
          refine j_goto hX (tgt := 70) dX12_mayUse_66 (by decide) ?_
          exact j_zret hX (by decide) dX12_mayUse_70 ⟨congrArg (fun z => some (Value.int z)) (show 1 = maM c M j by simp only [maM, if_neg h8, if_neg h22, if_neg h32, if_pos h47]), rfl⟩
        · refine j_aload_n hX dX12_mayUse_50 rfl ?_
          refine j_getf hX (v := .ref (ad 17)) dX12_mayUse_51 fX12_mayUse_61 0 (wMg0 _ _ _ _ _) rfl ?_
          refine j_aload_n hX dX12_mayUse_54 rfl ?_
          refine j_getf hX (v := .ref (ad 12)) dX12_mayUse_55 fX12_mayUse_44 0 (wMg0 _ _ _ _ _) rfl ?_
          refine j_iload_n hX dX12_mayUse_58 rfl ?_
          refine j_iald hX (v := (M 12) j) dX12_mayUse_59 12 (wMg12 _ _ _ _ _) (nI_in (by omega) (by decide)) (rdc (by omega)) ?_
          refine j_iald hX (v := (M 17) (((M 12) j).toNatClampNeg)) dX12_mayUse_60 17 (wMg17 _ _ _ _ _) ((hG4 j (by omega)).resolve_left h32) rfl ?_
          refine j_iload_n hX dX12_mayUse_61 rfl ?_
          refine j_icmp_ne hX (tgt := 69) dX12_mayUse_62 (by decide) (fun h62 => ?_) (fun h62 => ?_)
          · refine j_iconst hX (v := 0) (by decide) dX12_mayUse_69 ?_
            exact j_zret hX (by decide) dX12_mayUse_70 ⟨congrArg (fun z => some (Value.int z)) (show 0 = maM c M j by simp only [maM, if_neg h8, if_neg h22, if_neg h32, if_neg h47, if_neg h62]), rfl⟩
          · refine j_iconst hX (v := 1) (by decide) dX12_mayUse_65 ?_
            refine j_goto hX (tgt := 70) dX12_mayUse_66 (by decide) ?_
            exact j_zret hX (by decide) dX12_mayUse_70 ⟨congrArg (fun z => some (Value.int z)) (show 1 = maM c M j by simp only [maM, if_neg h8, if_neg h22, if_neg h32, if_neg h47, if_pos h62]), rfl⟩

