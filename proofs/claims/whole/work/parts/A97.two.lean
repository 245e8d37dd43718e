/-! a call of the class, then the reference's, on one memory -/
theorem RR.cg {c c' r r' : MM} (h : RR c r) (k : ∀ a, 0 ≤ a → a < 149 → c' a = c a) (q : ∀ a, 149 ≤ a → a < 172 → r' a = r a) : RR c' r' := by
  refine h.ke ⟨fun a ha => k a (by omega) (by omega), ⟨by rw [k 132 (by omega) (by omega)], by rw [k 132 (by omega) (by omega)], fun x => by rw [k 132 (by omega) (by omega)]; exact x⟩, ⟨by rw [k 143 (by omega) (by omega)], by rw [k 143 (by omega) (by omega)], by rw [k 146 (by omega) (by omega)], by rw [k 146 (by omega) (by omega)]⟩, fun j _ => ⟨by rw [k 144 (by omega) (by omega)], by rw [k 145 (by omega) (by omega)]⟩⟩ ⟨fun a ha => q a (by omega) (by omega), fun j _ => by rw [q 149 (by omega) (by omega)]⟩
theorem CALL.two {L : Int} {m : Nat} {ls : ML} {m' : Nat} {ls' : ML} {μ : MM} (H : ∀ c r, RR c r → CALL L m ls m' ls' c r) (h : RR μ μ) : ∃ v c' r', ev m 0 ls [] μ (g_1 L) = some (some (vI v), c', g_1 L) ∧ ev m' 0 ls' [] c' (g_1 L) = some (some (vI v), r', g_1 L) ∧ RR r' r' ∧ ∀ a, ¬ (10 ≤ a ∧ a < 172) → r' a = μ a := by
  obtain ⟨v, c', r0, e1, _, _, f1, _⟩ := H μ μ h
  obtain ⟨v', c1, r', e1', e2, h2, f2, f3⟩ := H μ c' (h.cg (fun _ _ _ => rfl) (fun a a0 a1 => f1 a (by omega)))
  rw [e1] at e1'
  have ee := Option.some.inj e1'
  have ev' : some (vI v) = some (vI v') := congrArg Prod.fst ee
  have ec : c' = c1 := congrArg (fun t => t.2.1) ee
  subst ec
  have evv : vI v = vI v' := Option.some.inj ev'
  refine ⟨v, c', r', e1, ?_, h2.cg (fun a a0 a1 => f3 a (by omega)) (fun _ _ _ => rfl), fun a ha => by rw [f3 a (by omega), f1 a (by omega)]⟩
  rw [evv]; exact e2
