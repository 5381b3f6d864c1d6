/-! WHAT A WALK KNOWS, from the tables' words. -/
theorem j_arr {args : Array Value} {s : State} {ty : FieldType} (h : (Cond.arrayClass ty).before args s = true) (hR : ∀ c, s.vm.findClass ("[" ++ ty.toString) = some c → va_RA s c ty) : ∃ c : ClassId, ArrOfT s c ty ∧ va_RA s c ty := by
  obtain ⟨c, k, comp, h1, h2, h3⟩ := Cond.arrayClass_spec h
  exact ⟨c, fun n z => ⟨fun k h => (by cases h), k, h2, comp, h3⟩, hR c h1⟩
theorem j_know {args : Array Value} {s : State} (hc : ∀ q ∈ vwCl, (∀ w ∈ u_ws q.1 q.2.1 q.2.2, w.before args s = true) ∧ ∃ n, (Cond.instantiable q.1 n).before args s = true) (hi : (Cond.arrayClass .int).before args s = true) (hz : (Cond.arrayClass .boolean).before args s = true) (ho : va_AO "BasketOffers$Offer" s) : ∃ (D : va_G) (cy : Nat → ClassId), va_K D vwCl (jtys cy) s := by
  have h1 : ∀ c : Nat, ∃ x : ClassId × (Nat → Nat), ∀ q, vwCl[c]? = some q → u_Kn s q.1 q.2.1 q.2.2 x.1 x.2 := by
    intro c
    cases h : vwCl[c]? with
    | none => exact ⟨(0, fun _ => 0), fun q hq => by cases hq⟩
    | some q =>
      obtain ⟨ha, n, hn⟩ := hc q (List.mem_of_getElem? h)
      obtain ⟨cC, iS, hk⟩ := u_known ha (fun w h => h) hn
      exact ⟨(cC, iS), fun q' hq' => by cases hq'; exact hk⟩
  have h2 : ∃ f : Nat → ClassId × (Nat → Nat), ∀ c q, vwCl[c]? = some q → u_Kn s q.1 q.2.1 q.2.2 (f c).1 (f c).2 := ⟨fun c => Classical.choose (h1 c), fun c => Classical.choose_spec (h1 c)⟩
  obtain ⟨f, hf⟩ := h2
  obtain ⟨c0, a0, r0⟩ := j_arr hi (fun c h => h)
  obtain ⟨c2, a2, r2⟩ := j_arr hz (fun c h => h)
  obtain ⟨comp, c3, k3, o1, o2, o3, o4, o5⟩ := Cond.arrayOver_spec ho
  refine ⟨(fun c => (f c).1, fun c => (f c).2), fun k => if k = 0 then c0 else if k = 1 then c0 else if k = 2 then c2 else c3, hf, ?_⟩
  intro k q hq
  have hk : k < 4 := (List.getElem?_eq_some_iff.mp hq).1
  rcases (show k = 0 ∨ k = 1 ∨ k = 2 ∨ k = 3 by omega) with rfl | rfl | rfl | rfl <;> (cases hq)
  · exact ⟨a0, r0⟩
  · exact ⟨a0, r0⟩
  · exact ⟨a2, r2⟩
  · exact ⟨fun n z => ⟨fun k h => (by cases h), k3, o3, comp, o4⟩, k3, comp, o3, o4, o1, o5⟩
