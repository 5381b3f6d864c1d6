theorem fX12_goes_70 : jF wsX12_goes RX12 70 13 27 true (.array .int) := ⟨(RX12, TX12, 37), tyX12, rfl, by decide, by decide +kernel, by decide +kernel, tyX12_ok, nmX12, rfl, by decide +kernel, by decide +kernel⟩
/-- the whole search: k places from p on -/
def tkG (G : Nat → Int32 → Int32 → VM → VM) (n u : Nat) (taken off : Int32) (j : Nat) (set : Int32) (s : VM) : VM := tkF G n j u taken off set s
def goS (c : Nat) (G : Nat → Int32 → Int32 → VM → VM) (n k p u : Nat) (taken off : Int32) (j : Nat) (s : VM) : VM := if maM c s.2 j = 0 then s else chC (chF (tkG G n u taken off j) n j taken k (p + 1)) (tkG G n u taken off j) n j (1 <<< (nI p &&& 31)) s
def goE (G : Nat → Int32 → Int32 → VM → VM) (p u : Nat) (taken off : Int32) (s : VM) : VM := G u taken off (s.1, sM s.2 15 (upd (s.2 15) p (-1)))
def goF (n o c : Nat) (sum : Int32) : Nat → Nat → Nat → Int32 → Int32 → VM → VM
  | 0, _, u, _, off, s => leF n o c u sum off s
  | k + 1, p, u, taken, off, s =>
    if inB taken p = 1 then goF n o c sum k (p + 1) u taken off s
    else if s.1 8 < off + s.2 20 p + hoM c s.2 off sum o then
      goE (goF n o c sum k (p + 1)) p u taken off (itr (goS c (goF n o c sum k (p + 1)) n k p u taken off) o s)
    else s
theorem itr_K {f : Nat → VM → VM} {x : Int32} (h : ∀ i s, s.1 6 = x → Kept s (f i s)) {s : VM} (h0 : s.1 6 = x) : ∀ i, Kept s (itr f i s)
  | 0 => Kept.rf s
  | i + 1 => (itr_K h h0 i).tr (h i _ ((itr_K h h0 i).2.2.trans h0))
theorem goS_K {c n k p u : Nat} {G : Nat → Int32 → Int32 → VM → VM} {taken off : Int32} (hG : ∀ u taken off s, s.1 6 = nI u → Kept s (G u taken off s)) (j : Nat) (s : VM) (h : s.1 6 = nI u) : Kept s (goS c G n k p u taken off j s) := by
  unfold goS
  split
  · exact Kept.rf s
  · exact chC_K (fun set s h => chF_K (fun set s h => tkF_K hG h) k (p + 1) set s h) (fun set s h => tkF_K hG h) h
theorem goE_K {p u : Nat} {G : Nat → Int32 → Int32 → VM → VM} {taken off : Int32} (hG : ∀ u taken off s, s.1 6 = nI u → Kept s (G u taken off s)) (s : VM) (h : s.1 6 = nI u) : Kept s (goE G p u taken off s) := by
  have h1 := hG u taken off (s.1, sM s.2 15 (upd (s.2 15) p (-1))) h
  exact ⟨h1.1, fun k hk => (h1.2.1 k hk).trans (sM_ne hk.1), h1.2.2⟩
theorem goF_K (n o c : Nat) (sum : Int32) : ∀ (k p u : Nat) (taken off : Int32) (s : VM), s.1 6 = nI u → Kept s (goF n o c sum k p u taken off s)
  | 0, _, u, _, off, s, _ => Kept.le n o c u sum off s
  | k + 1, p, u, taken, off, s, h => by
    have hG : ∀ u taken off s, s.1 6 = nI u → Kept s (goF n o c sum k (p + 1) u taken off s) := fun u taken off s h => goF_K n o c sum k (p + 1) u taken off s h
    rw [goF]
    split
    · exact hG _ _ _ _ h
    · split
      · have h1 := itr_K (goS_K (c := c) (n := n) (k := k) (p := p) (taken := taken) (off := off) hG) h o
        exact h1.tr (goE_K hG _ (h1.2.2.trans h))
      · exact Kept.rf s
theorem mI_15 {n o c : Nat} {V : Nat → Int32} {M : Nat → Nat → Int32} {f : Nat → Int32} (h : mI n o c V M) : mI n o c V (sM M 15 f) := h
set_option maxHeartbeats 4000000 in
set_option maxRecDepth 100000 in
theorem c_goes_step (G : jG) (ad : Nat → Nat) (V : Nat → Int32) (M : Nat → Nat → Int32) (t : Int64) (n o c : Nat) (hI : mI n o c V M) (u : Nat) (hu : V 6 = nI u) (k p : Nat) (hpk : p + (k + 1) = n) (hup : u ≤ p) (taken off sum : Int32) (hrec : ∀ (u : Nat) (taken off : Int32) (V : Nat → Int32) (M : Nat → Nat → Int32), V 6 = nI u → u ≤ p + 1 → mI n o c V M → jD G (4 + 10 * k) yX12_goes wsX12_goes [.ref (ad 0), .int (nI (p + 1)), .int taken, .int off, .int sum] (wM G ad V M t) none (wM G ad (goF n o c sum k (p + 1) u taken off (V, M)).1 (goF n o c sum k (p + 1) u taken off (V, M)).2 t)) : jD G (4 + 10 * (k + 1)) yX12_goes wsX12_goes [.ref (ad 0), .int (nI p), .int taken, .int off, .int sum] (wM G ad V M t) none (wM G ad (goF n o c sum (k + 1) p u taken off (V, M)).1 (goF n o c sum (k + 1) p u taken off (V, M)).2 t) := by
  refine jC.of (maxL := 7) (cc := cX12_goes) (ret := none) rfl (by decide) [some (.ref (ad 0)), some (.int (nI p)), some (.int taken), some (.int off), some (.int sum), none, none] rfl (Nat.le_of_ble_eq_true rfl) (j_args rfl) (fun X hX => ?_)
  have hpn : p < n := by omega
  have hI0 := hI
  obtain ⟨hn5, hn, ho2, ho, hc1, hc, hB, hG4⟩ := hI
  refine j_iload_n hX dX12_goes_0 rfl ?_
  refine j_aload_n hX dX12_goes_1 rfl ?_
  refine j_getf hX (v := .int (V 5)) dX12_goes_2 fX12_goes_93 0 (wMg0 _ _ _ _ _) rfl ?_
  refine jW.top hn5 ?_
  refine j_icmp_ne_t hX (tgt := 169) dX12_goes_5 (by decide) (fun e => absurd ((nI_eq (by omega) (by omega)).mp e) (by omega)) ?_
  refine j_iload_n hX dX12_goes_169 rfl ?_
  refine j_iload_n hX dX12_goes_170 rfl ?_
  refine j_ishr hX dX12_goes_171 ?_
  refine j_iconst hX (v := 1) (by decide) dX12_goes_172 ?_
  refine j_iand hX dX12_goes_173 ?_
  refine j_iconst hX (v := 1) (by decide) dX12_goes_174 ?_
  refine j_icmp_ne hX (tgt := 190) dX12_goes_175 (by decide) (fun h175 => ?_) (fun h175 => ?_)
  · refine j_iload_n hX dX12_goes_190 rfl ?_
    refine j_aload_n hX dX12_goes_191 rfl ?_
    refine j_getf hX (v := .ref (ad 20)) dX12_goes_192 fX12_goes_70 0 (wMg0 _ _ _ _ _) rfl ?_
    refine j_iload_n hX dX12_goes_195 rfl ?_
    refine j_iald hX (v := (M 20) p) dX12_goes_196 20 (wMg20 _ _ _ _ _) (nI_in (by omega) (by decide)) (rdc (by omega)) ?_
    refine j_iadd hX dX12_goes_197 ?_
    refine j_aload_n hX dX12_goes_198 rfl ?_
    refine j_iload_n hX dX12_goes_199 rfl ?_
    refine j_iload hX dX12_goes_200 rfl ?_
    refine j_dV hX (nA := 2) (cq := (RX12, TX12, 37)) (As := [.int off, .int sum]) (st := [.int (off + ((M 20) p))]) (st' := [.int (hoM c M off sum o), .int (off + ((M 20) p))]) (ci := 13) rfl dX12_goes_202 (c_X12_hopes G _ V M _ n o c hI0 _ _) gX12_goes_X12_hopes rfl (by decide +kernel) (q := 0) (wMg0 _ _ _ _ _) (by omega) (Nat.le_of_ble_eq_true rfl) rfl (Nat.le_of_ble_eq_true rfl) rfl ⟨Nat.le_refl _, Nat.le_refl _⟩ rfl ?_
    refine j_iadd hX dX12_goes_205 ?_
    refine j_aload_n hX dX12_goes_206 rfl ?_
    refine j_getf hX (v := .int (V 8)) dX12_goes_207 fX12_goes_169 0 (wMg0 _ _ _ _ _) rfl ?_
    refine j_icmp_gt hX (tgt := 214) dX12_goes_210 (by decide) (fun h210 => ?_) (fun h210 => ?_)
    · refine j_iconst hX (v := 0) (by decide) dX12_goes_214 ?_
      refine j_istore hX (ls' := [some (.ref (ad 0)), some (.int (nI p)), some (.int taken), some (.int off), some (.int sum), some (.int 0), none]) dX12_goes_215 (Nat.le_of_ble_eq_true rfl) rfl rfl ?_
      have L217 : ∀ zj j : Nat, 0 ≤ j → j + zj = o → jW G X 0 0 217 [some (.ref (ad 0)), some (.int (nI p)), some (.int taken), some (.int off), some (.int sum), some (.int (nI j)), none] [] (wM G ad (itr (goS c (goF n o c sum k (p + 1)) n k p u taken off) j (V, M)).1 (itr (goS c (goF n o c sum k (p + 1)) n k p u taken off) j (V, M)).2 t) := by
        intro zj
        induction zj with
        | zero =>
          intro j h0j hij
          have hinj : j = o := by omega
          have hKj : Kept (V, M) (itr (goS c (goF n o c sum k (p + 1)) n k p u taken off) j (V, M)) := itr_K (goS_K (c := c) (n := n) (k := k) (p := p) (taken := taken) (off := off) (fun u taken off s h => goF_K n o c sum k (p + 1) u taken off s h)) hu j
          have e2j : (itr (goS c (goF n o c sum k (p + 1)) n k p u taken off) j (V, M)).1 2 = nI o := (hKj.mI hI0).2.2.1
          refine j_iload hX dX12_goes_217 rfl ?_
          refine j_aload_n hX dX12_goes_219 rfl ?_
          refine j_getf hX (v := .int ((itr (goS c (goF n o c sum k (p + 1)) n k p u taken off) j (V, M)).1 2)) dX12_goes_220 fX12_goes_121 0 (wMg0 _ _ _ _ _) rfl ?_
          refine jW.top e2j ?_
          refine j_icmp_ge_t hX (tgt := 258) dX12_goes_223 (by decide) (by rw [hinj]; exact nI_le (Nat.le_refl _) (by omega)) ?_
          have hKo : Kept (V, M) (itr (goS c (goF n o c sum k (p + 1)) n k p u taken off) o (V, M)) := itr_K (goS_K (c := c) (n := n) (k := k) (p := p) (taken := taken) (off := off) (fun u taken off s h => goF_K n o c sum k (p + 1) u taken off s h)) hu o
          refine jW.world (ws' := (wM G ad (itr (goS c (goF n o c sum k (p + 1)) n k p u taken off) o (V, M)).1 (itr (goS c (goF n o c sum k (p + 1)) n k p u taken off) o (V, M)).2 t)) (by rw [hinj]) ?_
          refine j_aload_n hX dX12_goes_258 rfl ?_
          refine j_getf hX (v := .ref (ad 15)) dX12_goes_259 fX12_goes_55 0 (wMg0 _ _ _ _ _) rfl ?_
          refine j_iload_n hX dX12_goes_262 rfl ?_
          refine j_iconst hX (v := -1) (by decide) dX12_goes_263 ?_
          refine j_iast hX (ws' := (wM G ad (itr (goS c (goF n o c sum k (p + 1)) n k p u taken off) o (V, M)).1 (sM (itr (goS c (goF n o c sum k (p + 1)) n k p u taken off) o (V, M)).2 15 (upd ((itr (goS c (goF n o c sum k (p + 1)) n k p u taken off) o (V, M)).2 15) p (-1))) t)) dX12_goes_264 15 (wMg15 _ _ _ _ _) (nI_in (by omega) (by decide)) (by rw [nI_clamp (by omega)]; exact (wMp15 _ _ _ _ _ _)) ?_
          refine j_aload_n hX dX12_goes_265 rfl ?_
          refine j_iload_n hX dX12_goes_266 rfl ?_
          refine j_iconst hX (v := 1) (by decide) dX12_goes_267 ?_
          refine j_iadd hX dX12_goes_268 ?_
          refine jW.top (nI_1 _) ?_
          refine j_iload_n hX dX12_goes_269 rfl ?_
          refine j_iload_n hX dX12_goes_270 rfl ?_
          refine j_iload hX dX12_goes_271 rfl ?_
          refine j_dV hX (nA := 4) (cq := (RX12, TX12, 37)) (As := [.int (nI (p + 1)), .int taken, .int off, .int sum]) (st := []) (st' := []) (ci := 13) rfl dX12_goes_273 (hrec u taken off ((itr (goS c (goF n o c sum k (p + 1)) n k p u taken off) o (V, M)).1) (sM (itr (goS c (goF n o c sum k (p + 1)) n k p u taken off) o (V, M)).2 15 (upd ((itr (goS c (goF n o c sum k (p + 1)) n k p u taken off) o (V, M)).2 15) p (-1))) (hKo.2.2.trans hu) (by omega) (mI_15 (hKo.mI hI0))) gX12_goes_X12_goes rfl (by decide +kernel) (q := 0) (wMg0 _ _ _ _ _) (by omega) (Nat.le_of_ble_eq_true rfl) rfl (Nat.le_of_ble_eq_true rfl) rfl ⟨Nat.le_refl _, Nat.le_refl _⟩ rfl ?_
          exact j_vret hX dX12_goes_276 ⟨rfl, by rw [show goF n o c sum (k + 1) p u taken off (V, M) = (goF n o c sum k (p + 1) u taken off ((itr (goS c (goF n o c sum k (p + 1)) n k p u taken off) o (V, M)).1, (sM (itr (goS c (goF n o c sum k (p + 1)) n k p u taken off) o (V, M)).2 15 (upd ((itr (goS c (goF n o c sum k (p + 1)) n k p u taken off) o (V, M)).2 15) p (-1))))) from ((if_neg h175).trans (if_pos h210))]⟩
        | succ zj ihj =>
          intro j h0j hij
          have hinj : j < o := by omega
          have hKj : Kept (V, M) (itr (goS c (goF n o c sum k (p + 1)) n k p u taken off) j (V, M)) := itr_K (goS_K (c := c) (n := n) (k := k) (p := p) (taken := taken) (off := off) (fun u taken off s h => goF_K n o c sum k (p + 1) u taken off s h)) hu j
          have e2j : (itr (goS c (goF n o c sum k (p + 1)) n k p u taken off) j (V, M)).1 2 = nI o := (hKj.mI hI0).2.2.1
          refine j_iload hX dX12_goes_217 rfl ?_
          refine j_aload_n hX dX12_goes_219 rfl ?_
          refine j_getf hX (v := .int ((itr (goS c (goF n o c sum k (p + 1)) n k p u taken off) j (V, M)).1 2)) dX12_goes_220 fX12_goes_121 0 (wMg0 _ _ _ _ _) rfl ?_
          refine jW.top e2j ?_
          refine j_icmp_ge_f hX (tgt := 258) dX12_goes_223 (by decide) (nI_ge hinj (by omega)) ?_
          refine j_aload_n hX dX12_goes_226 rfl ?_
          refine j_iload hX dX12_goes_227 rfl ?_
          refine j_dV hX (nA := 1) (cq := (RX12, TX12, 37)) (As := [.int (nI j)]) (st := []) (st' := [.int (maM c ((itr (goS c (goF n o c sum k (p + 1)) n k p u taken off) j (V, M)).2) j)]) (ci := 13) rfl dX12_goes_229 (c_X12_mayUse G _ ((itr (goS c (goF n o c sum k (p + 1)) n k p u taken off) j (V, M)).1) ((itr (goS c (goF n o c sum k (p + 1)) n k p u taken off) j (V, M)).2) _ n o c (hKj.mI hI0) j (by omega)) gX12_goes_X12_mayUse rfl (by decide +kernel) (q := 0) (wMg0 _ _ _ _ _) (by omega) (Nat.le_of_ble_eq_true rfl) rfl (Nat.le_of_ble_eq_true rfl) rfl ⟨Nat.le_refl _, Nat.le_refl _⟩ rfl ?_
          refine j_if_eq hX (tgt := 252) dX12_goes_232 (by decide) (fun h232 => ?_) (fun h232 => ?_)
          · refine j_iinc hX (v := nI (j + 1)) (ls' := [some (.ref (ad 0)), some (.int (nI p)), some (.int taken), some (.int off), some (.int sum), some (.int (nI (j + 1))), none]) dX12_goes_252 rfl (j_inc1 _) rfl rfl ?_
            refine j_goto hX (tgt := 217) dX12_goes_255 (by decide) ?_
            refine jW.world (ws' := (wM G ad (itr (goS c (goF n o c sum k (p + 1)) n k p u taken off) (j + 1) (V, M)).1 (itr (goS c (goF n o c sum k (p + 1)) n k p u taken off) (j + 1) (V, M)).2 t)) (by rw [show (itr (goS c (goF n o c sum k (p + 1)) n k p u taken off) (j + 1) (V, M)) = (itr (goS c (goF n o c sum k (p + 1)) n k p u taken off) j (V, M)) from if_pos h232]) ?_
            exact ihj (j + 1) (by omega) (by omega)
          · refine j_aload_n hX dX12_goes_235 rfl ?_
            refine j_iload hX dX12_goes_236 rfl ?_
            refine j_iload_n hX dX12_goes_238 rfl ?_
            refine j_iconst hX (v := 1) (by decide) dX12_goes_239 ?_
            refine j_iload_n hX dX12_goes_240 rfl ?_
            refine j_ishl hX dX12_goes_241 ?_
            refine j_iload_n hX dX12_goes_242 rfl ?_
            refine j_iconst hX (v := 1) (by decide) dX12_goes_243 ?_
            refine j_iadd hX dX12_goes_244 ?_
            refine jW.top (nI_1 _) ?_
            refine j_iload_n hX dX12_goes_245 rfl ?_
            refine j_iload_n hX dX12_goes_246 rfl ?_
            refine j_iload hX dX12_goes_247 rfl ?_
            refine j_dV hX (nA := 7) (cq := (RX12, TX12, 37)) (As := [.int (nI j), .int (nI p), .int (1 <<< ((nI p) &&& 31)), .int (nI (p + 1)), .int taken, .int off, .int sum]) (st := []) (st' := []) (ci := 13) rfl dX12_goes_249 (c_X12_chooses G ad t n o c j hinj u p (4 + 10 * k + 1) (by omega) taken off sum (tkG (goF n o c sum k (p + 1)) n u taken off j) (fun set V M hu hI => c_X12_takes G ad V M t n o c hI j hinj u hu p hup hpn set taken off sum (4 + 10 * k) (goF n o c sum k (p + 1)) hrec (fun u taken off s h => goF_K n o c sum k (p + 1) u taken off s h) (by omega)) (fun set s h => tkF_K (fun u taken off s h => goF_K n o c sum k (p + 1) u taken off s h) h) k (p + 1) (1 <<< ((nI p) &&& 31)) ((itr (goS c (goF n o c sum k (p + 1)) n k p u taken off) j (V, M)).1) ((itr (goS c (goF n o c sum k (p + 1)) n k p u taken off) j (V, M)).2) (by omega) (hKj.2.2.trans hu) (hKj.mI hI0)) gX12_goes_X12_chooses rfl (by decide +kernel) (q := 0) (wMg0 _ _ _ _ _) (by omega) (Nat.le_of_ble_eq_true rfl) rfl (Nat.le_of_ble_eq_true rfl) rfl ⟨Nat.le_refl _, Nat.le_refl _⟩ rfl ?_
            refine j_iinc hX (v := nI (j + 1)) (ls' := [some (.ref (ad 0)), some (.int (nI p)), some (.int taken), some (.int off), some (.int sum), some (.int (nI (j + 1))), none]) dX12_goes_252 rfl (j_inc1 _) rfl rfl ?_
            refine j_goto hX (tgt := 217) dX12_goes_255 (by decide) ?_
            refine jW.world (ws' := (wM G ad (itr (goS c (goF n o c sum k (p + 1)) n k p u taken off) (j + 1) (V, M)).1 (itr (goS c (goF n o c sum k (p + 1)) n k p u taken off) (j + 1) (V, M)).2 t)) (by rw [show (itr (goS c (goF n o c sum k (p + 1)) n k p u taken off) (j + 1) (V, M)) = (chC (chF (tkG (goF n o c sum k (p + 1)) n u taken off j) n j taken k (p + 1)) (tkG (goF n o c sum k (p + 1)) n u taken off j) n j (1 <<< ((nI p) &&& 31)) (itr (goS c (goF n o c sum k (p + 1)) n k p u taken off) j (V, M))) from if_neg h232]) ?_
            exact ihj (j + 1) (by omega) (by omega)
      exact L217 o 0 (Nat.le_refl _) (by omega)
    · exact j_vret hX dX12_goes_213 ⟨rfl, by rw [show goF n o c sum (k + 1) p u taken off (V, M) = (V, M) from ((if_neg h175).trans (if_neg h210))]⟩
  · refine j_aload_n hX dX12_goes_178 rfl ?_
    refine j_iload_n hX dX12_goes_179 rfl ?_
    refine j_iconst hX (v := 1) (by decide) dX12_goes_180 ?_
    refine j_iadd hX dX12_goes_181 ?_
    refine jW.top (nI_1 _) ?_
    refine j_iload_n hX dX12_goes_182 rfl ?_
    refine j_iload_n hX dX12_goes_183 rfl ?_
    refine j_iload hX dX12_goes_184 rfl ?_
    refine j_dV hX (nA := 4) (cq := (RX12, TX12, 37)) (As := [.int (nI (p + 1)), .int taken, .int off, .int sum]) (st := []) (st' := []) (ci := 13) rfl dX12_goes_186 (hrec u taken off V M hu (by omega) hI0) gX12_goes_X12_goes rfl (by decide +kernel) (q := 0) (wMg0 _ _ _ _ _) (by omega) (Nat.le_of_ble_eq_true rfl) rfl (Nat.le_of_ble_eq_true rfl) rfl ⟨Nat.le_refl _, Nat.le_refl _⟩ rfl ?_
    exact j_vret hX dX12_goes_189 ⟨rfl, by rw [show goF n o c sum (k + 1) p u taken off (V, M) = (goF n o c sum k (p + 1) u taken off (V, M)) from (if_pos h175)]⟩

theorem c_X12_goes (G : jG) (ad : Nat → Nat) (t : Int64) (n o c : Nat) (sum : Int32) : ∀ (k p : Nat), p + k = n → ∀ (u : Nat) (taken off : Int32) (V : Nat → Int32) (M : Nat → Nat → Int32), V 6 = nI u → u ≤ p → mI n o c V M → jD G (4 + 10 * k) yX12_goes wsX12_goes [.ref (ad 0), .int (nI p), .int taken, .int off, .int sum] (wM G ad V M t) none (wM G ad (goF n o c sum k p u taken off (V, M)).1 (goF n o c sum k p u taken off (V, M)).2 t)
  | 0, p, hpk, u, taken, off, V, M, hu, hup, hI => by
    obtain rfl : p = n := by omega
    exact c_goes_leaf G ad V M t p o c hI u hu (by have := hI.2.1; omega) taken off sum
  | k + 1, p, hpk, u, taken, off, V, M, hu, hup, hI => c_goes_step G ad V M t n o c hI u hu k p hpk hup taken off sum (fun u taken off V M hu hup hI => c_X12_goes G ad t n o c sum k (p + 1) (by omega) u taken off V M hu hup hI)
