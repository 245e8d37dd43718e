theorem gT_y (o : Int) (C : Int → Bool) : ∀ (m : Nat) (l : Int) (t : Int → Int) (j : Int), l ≤ j → j < l + m → gT o C l t m (o + j) = be (C j)
  | 0, _, _, _, h1, h2 => by omega
  | m + 1, l, t, j, h1, h2 => by
    simp only [gT]
    by_cases e : j = l
    · subst e
      rw [gT_n o C m (j + 1) _ (o + j) (by omega)]
      unfold up
      rw [if_pos rfl]
    · exact gT_y o C m (l + 1) _ j (by omega) (by omega)
theorem be_1 (b : Bool) : decide (be b = 1) = b := by cases b <;> decide
theorem be_01 (b : Bool) : be b = 0 ∨ be b = 1 := by cases b <;> decide
/-- the states behind a TRY of the clock, ahead of what comes of it -/
theorem br_k0 {S sw em t : Int → Int} (h : Rt S sw em t) (hm : mo t) (ls sl : Int → Int) (eC : b4 (cC S sw ls sl) = b4 (msk (t 1) (mC (kU t) ls sl))) : Rt (cS0 S sw ls sl) sw em (kV t ls sl) := by
  obtain ⟨n1, q0, q3, hl, _⟩ := hm
  obtain ⟨h2, h3, h4, h7, h9, h8, h10, h11, hs, h5, h6, hb, hz⟩ := h
  have vk : ∀ k, k < 16 → kV t ls sl k = kU t k := fun k hk => by unfold kV; exact gT_n _ _ _ _ _ _ (by omega)
  have vk2 : ∀ k, 20 ≤ k → kV t ls sl k = kU t k := fun k hk => by unfold kV; exact gT_n _ _ _ _ _ _ (by omega)
  have ku : ∀ k, ¬ k = 3 → ¬ k = 4 → kU t k = t k := fun k h1 h2 => by unfold kU up; rw [if_neg h2, if_neg h1]
  have v1 : kV t ls sl 1 = t 1 := vk 1 (by omega)
  have vy : ∀ l, 0 ≤ l → l < t 1 → kV t ls sl (16 + l) = be (mC (kU t) ls sl l) := fun l l0 l1 => by unfold kV; exact gT_y 16 _ _ _ _ l l0 (by omega)
  have vn : ∀ l, t 1 ≤ l → l < 4 → kV t ls sl (16 + l) = 0 := fun l l0 l1 => by
    unfold kV
    rw [gT_n 16 _ _ _ _ _ (by omega), ku _ (by omega) (by omega)]
    exact (hz l (by omega) l0 l1).1
  refine ⟨?_, ?_, ?_, ?_, ?_, ?_, ?_, ?_, fun l l0 l3 => ?_, ?_, ?_, fun l l0 l3 => ?_, fun l p0 l0 l3 => ?_⟩
  · show S 2 = _; rw [vk 0 (by omega)]; exact h2
  · show S 3 = _; rw [v1]; exact h3
  · show S 4 = _; rw [vk 2 (by omega)]; exact h4
  · show S 7 + 1 = _; rw [vk 3 (by omega), h7]; rfl
  · show S 9 + 1 = _; rw [vk 4 (by omega), h9]; rfl
  · show S 8 = _; rw [vk 5 (by omega)]; exact h8
  · show S 10 = _; rw [vk 6 (by omega)]; exact h10
  · show S 11 = _; rw [vk 7 (by omega)]; exact h11
  · rw [vk _ (by omega), vk _ (by omega), ku _ (by omega) (by omega), ku _ (by omega) (by omega)]; exact hs l l0 l3
  · show b4 (cC S sw ls sl) = _
    rw [eC]
    refine b4_cg (fun l l0 l3 => ?_)
    unfold msk
    by_cases e : l < t 1
    · rw [vy l l0 e, be_1, decide_eq_true e, Bool.true_and]
    · rw [vn l (by omega) l3, decide_eq_false e, Bool.false_and]; rfl
  · show S 6 = _
    rw [h6]
    refine b4_cg (fun l l0 l3 => ?_)
    rw [vk2 _ (by omega), ku _ (by omega) (by omega)]
  · rw [vk2 (20 + l) (by omega), ku (20 + l) (by omega) (by omega)]
    refine ⟨?_, (hb l l0 l3).2⟩
    by_cases e : l < t 1
    · rw [vy l l0 e]; exact be_01 _
    · exact Or.inl (vn l (by omega) l3)
  · rw [v1] at l0
    rw [vk2 (20 + l) (by omega), ku (20 + l) (by omega) (by omega)]
    exact ⟨vn l l0 l3, (hz l p0 l0 l3).2⟩
/-- a field more of both -/
theorem Rt.ph {S sw em t : Int → Int} (h : Rt S sw em t) (v : Int) : Rt (up S 2 v) sw em (up t 0 v) := by
  obtain ⟨h2, h3, h4, h7, h9, h8, h10, h11, hs, h5, h6, hb, hz⟩ := h
  have e : ∀ k, ¬ k = 0 → up t 0 v k = t k := fun k hk => by unfold up; rw [if_neg hk]
  refine ⟨rfl, ?_, ?_, ?_, ?_, ?_, ?_, ?_, fun l l0 l3 => ?_, ?_, ?_, fun l l0 l3 => ?_, fun l p0 l0 l3 => ?_⟩
  · exact h3
  · exact h4
  · exact h7
  · exact h9
  · exact h8
  · exact h10
  · exact h11
  · rw [e _ (by omega), e _ (by omega)]; exact hs l l0 l3
  · show S 5 = _
    rw [h5]; exact b4_cg (fun l l0 l3 => by rw [e _ (by omega)])
  · show S 6 = _
    rw [h6]; exact b4_cg (fun l l0 l3 => by rw [e _ (by omega)])
  · rw [e _ (by omega), e _ (by omega)]; exact hb l l0 l3
  · have l0' : t 1 ≤ l := l0
    rw [e _ (by omega), e _ (by omega)]; exact hz l p0 l0' l3
