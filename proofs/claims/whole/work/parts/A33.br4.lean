theorem hT_o (W : Int → Bool) : ∀ (m : Nat) (l : Int) (t : Int → Int) (j : Int), ¬ j = 4 → ¬ (8 + l ≤ j ∧ j < 8 + l + m) → hT W l t m j = t j
  | 0, _, _, _, _, _ => rfl
  | m + 1, l, t, j, h4, h => by
    simp only [hT]
    rw [hT_o W m (l + 1) _ j h4 (by omega)]
    split
    · unfold up; rw [if_neg h4]; show (if j = 8 + l then _ else t j) = t j; rw [if_neg (by omega)]
    · rfl
theorem hT_y (W : Int → Bool) : ∀ (m : Nat) (l : Int) (t : Int → Int) (j : Int), 0 ≤ l → l ≤ j → j < l + m → hT W l t m (8 + j) = t (8 + j) + be (W j)
  | 0, _, _, _, _, h1, h2 => by omega
  | m + 1, l, t, j, l0, h1, h2 => by
    simp only [hT]
    by_cases e : j = l
    · subst e
      rw [hT_o W m (j + 1) _ (8 + j) (by omega) (by omega)]
      cases hw : W j
      · rw [if_neg (by decide)]; show t (8 + j) = t (8 + j) + 0; omega
      · rw [if_pos rfl]
        show (if 8 + j = 4 then 0 else if 8 + j = 8 + j then t (8 + j) + 1 else t (8 + j)) = t (8 + j) + 1
        rw [if_neg (by omega), if_pos rfl]
    · rw [hT_y W m (l + 1) _ j (by omega) (by omega) (by omega)]
      split
      · show (if 8 + j = 4 then 0 else if 8 + j = 8 + l then t (8 + l) + 1 else t (8 + j)) + be (W j) = t (8 + j) + be (W j)
        rw [if_neg (by omega), if_neg (by omega)]
      · rfl
theorem hT_4 (W : Int → Bool) : ∀ (m : Nat) (l : Int) (t : Int → Int), 0 ≤ l → hT W l t m 4 = if gO W l m = true then 0 else t 4
  | 0, _, _, _ => by simp [hT, gO]
  | m + 1, l, t, l0 => by
    simp only [hT]
    rw [hT_4 W m (l + 1) _ (by omega)]
    by_cases hw : W l = true
    · have e : (if W l = true then up (up t (8 + l) (t (8 + l) + 1)) 4 0 else t) 4 = 0 := by rw [if_pos hw]; rfl
      have eg : gO W l (m + 1) = true := by simp only [gO]; rw [hw, Bool.true_or]
      rw [e, if_pos eg]
      split <;> rfl
    · have e : (if W l = true then up (up t (8 + l) (t (8 + l) + 1)) 4 0 else t) 4 = t 4 := by rw [if_neg hw]
      have hf : W l = false := by
        cases q : W l
        · rfl
        · exact absurd q hw
      have eg : gO W l (m + 1) = gO W (l + 1) m := by simp only [gO]; rw [hf, Bool.false_or]
      rw [e, eg]
theorem b4_0 (f : Int → Bool) (h : b4 f = 0) : ∀ l, 0 ≤ l → l < 4 → f l = false := by
  have key : ∀ c0 c1 c2 c3 : Bool, bt c0 c1 c2 c3 = 0 → c0 = false ∧ c1 = false ∧ c2 = false ∧ c3 = false := by decide
  have k := key _ _ _ _ h
  intro l l0 l3
  have q : l = 0 ∨ l = 1 ∨ l = 2 ∨ l = 3 := by omega
  rcases q with rfl | rfl | rfl | rfl
  · exact k.1
  · exact k.2.1
  · exact k.2.2.1
  · exact k.2.2.2
/-- it goes on: swings up on both sides -/
theorem br_on {S sw em t : Int → Int} (h : Rt S sw em t) (hm : mo t) (ls : Int → Int) :
    Rt (if ¬ b4 (wsb (S 3) (S 4) sw ls) = 0 then up S 9 0 else S) (if ¬ b4 (wsb (S 3) (S 4) sw ls) = 0 then rai (wsb (S 3) (S 4) sw ls) sw else sw) em (hT (wsm t ls) 0 t (t 1).toNat) := by
  have eW := b4_cg (fun l l0 l3 => br_ws h ls l l0 l3)
  have br := fun l l0 l3 => br_ws h ls l l0 l3
  obtain ⟨n1, q0, q3, hl, _⟩ := hm
  obtain ⟨h2, h3, h4, h7, h9, h8, h10, h11, hs, h5, h6, hb, hz⟩ := h
  have ho := fun j (a : ¬ j = 4) b => hT_o (wsm t ls) (t 1).toNat 0 t j a b
  have o1 : hT (wsm t ls) 0 t (t 1).toNat 1 = t 1 := ho 1 (by omega) (by omega)
  have sx : ∀ k, ¬ k = 9 → (if ¬ b4 (wsb (S 3) (S 4) sw ls) = 0 then up S 9 0 else S) k = S k := fun k hk => by
    split
    · unfold up; rw [if_neg hk]
    · rfl
  have sl : ∀ l, 0 ≤ l → l < 4 → (if ¬ b4 (wsb (S 3) (S 4) sw ls) = 0 then rai (wsb (S 3) (S 4) sw ls) sw else sw) l = sw l + be (wsb (S 3) (S 4) sw ls l) := fun l l0 l3 => by
    split
    · rfl
    · rename_i q
      rw [b4_0 _ (Decidable.not_not.1 q) l l0 l3]
      show sw l = sw l + 0; omega
  refine ⟨?_, ?_, ?_, ?_, ?_, ?_, ?_, ?_, fun l l0 l3 => ⟨?_, ?_⟩, ?_, ?_, fun l l0 l3 => ?_, fun l p0 l0 l3 => ?_⟩
  · rw [sx 2 (by omega), ho 0 (by omega) (by omega)]; exact h2
  · rw [sx 3 (by omega), o1]; exact h3
  · rw [sx 4 (by omega), ho 2 (by omega) (by omega)]; exact h4
  · rw [sx 7 (by omega), ho 3 (by omega) (by omega)]; exact h7
  · rw [hT_4 _ _ _ _ (by omega)]
    cases g : gO (wsm t ls) 0 (t 1).toNat
    · have e : b4 (wsb (S 3) (S 4) sw ls) = 0 := by rw [eW]; exact (no_i _ n1).2 g
      rw [if_neg (fun q => q e), if_neg (by decide)]; exact h9
    · have e : ¬ b4 (wsb (S 3) (S 4) sw ls) = 0 := by
        rw [eW]; intro q; rw [(no_i _ n1).1 q] at g; cases g
      rw [if_pos e, if_pos rfl]; rfl
  · rw [sx 8 (by omega), ho 5 (by omega) (by omega)]; exact h8
  · rw [sx 10 (by omega), ho 6 (by omega) (by omega)]; exact h10
  · rw [sx 11 (by omega), ho 7 (by omega) (by omega)]; exact h11
  · rw [sl l l0 l3, br l l0 l3, (hs l l0 l3).1]
    unfold msk
    by_cases e : l < t 1
    · rw [hT_y _ _ _ _ l (by omega) l0 (by omega), decide_eq_true e, Bool.true_and]
    · rw [ho _ (by omega) (by omega), decide_eq_false e, Bool.false_and]
      show t (8 + l) + 0 = t (8 + l); omega
  · rw [ho _ (by omega) (by omega)]; exact (hs l l0 l3).2
  · rw [sx 5 (by omega), h5]; exact b4_cg (fun l l0 l3 => by rw [ho _ (by omega) (by omega)])
  · rw [sx 6 (by omega), h6]; exact b4_cg (fun l l0 l3 => by rw [ho _ (by omega) (by omega)])
  · rw [ho _ (by omega) (by omega), ho _ (by omega) (by omega)]; exact hb l l0 l3
  · rw [o1] at l0
    rw [ho _ (by omega) (by omega), ho _ (by omega) (by omega)]; exact hz l p0 l0 l3
