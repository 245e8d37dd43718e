/-- a FALL, where the lanes that were found do not matter -/
theorem br_fall' {S t : Int → Int} (h2 : S 2 = t 0) (h3 : S 3 = t 1) (h4 : S 4 = t 2) (h10 : S 10 = t 6) (h11 : S 11 = t 7) (hm : mo t) (hp : t 0 = 1 ∨ t 0 = 2) (b wr : Int) : Rt (dS S wr) z0 z0 (fa2 (fa1 t b) wr) := by
  obtain ⟨n1, q0, q3, hl, f0, f1, g0, g1, x0, x1, y0, y1, w0, w1⟩ := hm
  have fk := fun k hk => fa1_k t b k w0 hk
  have k0 := fk 0 (by omega)
  have k1 := fk 1 (by omega)
  have k2 := fk 2 (by omega)
  have k6 := fk 6 (by omega)
  have k7 := fk 7 (by omega)
  unfold dS fa2
  rw [h2, h3, h4, k0, k1, k2, k7]
  by_cases c : t 1 = 1 ∧ t 2 = 0
  · rw [if_pos (by omega), if_pos c]
    refine ftR rfl ?_ ?_ ?_ ?_ rfl rfl rfl (fun j j0 j1 => ?_)
    · show S 3 = fa1 t b 1; rw [k1]; exact h3
    · show S 4 = fa1 t b 2; rw [k2]; exact h4
    · show S 10 = fa1 t b 6; rw [k6]; exact h10
    · show S 11 + 1 = t 7 + 1; rw [h11]
    · unfold up; rw [if_neg (by omega)]; exact fot_z _ j j0 j1
  · rw [if_neg (by omega), if_neg c]
    by_cases p : t 0 = 1
    · rw [if_pos p, if_pos p]
      by_cases q : 0 < t 2
      · rw [if_pos q, if_pos q]
        refine ftR ?_ ?_ ?_ ?_ ?_ rfl rfl rfl (fun j j0 j1 => fot_z _ j j0 j1)
        · show S 2 = 1; rw [h2]; exact p
        · show S 3 = fa1 t b 1; rw [k1]; exact h3
        · rfl
        · show S 10 = fa1 t b 6; rw [k6]; exact h10
        · show S 11 + 1 = t 7 + 1; rw [h11]
      · rw [if_neg q, if_neg q]
        refine ftR ?_ ?_ ?_ ?_ ?_ rfl rfl rfl (fun j j0 j1 => fot_z _ j j0 j1)
        · show S 2 = 1; rw [h2]; exact p
        · rfl
        · rfl
        · show S 10 = fa1 t b 6; rw [k6]; exact h10
        · show S 11 + 1 = t 7 + 1; rw [h11]
    · rw [if_neg p, if_neg p]
      by_cases q : t 1 = 1
      · rw [if_neg (by omega), if_pos q]
        refine ftR rfl ?_ ?_ ?_ ?_ rfl rfl rfl (fun j j0 j1 => fot_z _ j j0 j1)
        · show S 3 = fa1 t b 1; rw [k1]; exact h3
        · rfl
        · show S 10 = fa1 t b 6; rw [k6]; exact h10
        · show S 11 + 1 = t 7 + 1; rw [h11]
      · rw [if_pos (by omega), if_neg q]
        refine ftR rfl ?_ ?_ ?_ ?_ rfl rfl rfl (fun j j0 j1 => fot_z _ j j0 j1)
        · rfl
        · show S 4 = fa1 t b 2; rw [k2]; exact h4
        · show S 10 = fa1 t b 6; rw [k6]; exact h10
        · show S 11 + 1 = t 7 + 1; rw [h11]
theorem br_v0 {S sw em t : Int → Int} (h : Rt S sw em t) (hm : mo t) (ls sl : Int → Int) (eC : b4 (cE S em ls sl) = b4 (msk (t 1) (nC (vU t) ls sl))) : Rt (eS2 S em ls sl) sw em (vV t ls sl) := by
  obtain ⟨n1, q0, q3, hl, _⟩ := hm
  obtain ⟨h2, h3, h4, h7, h9, h8, h10, h11, hs, h5, h6, hb, hz⟩ := h
  have vk : ∀ k, k < 20 → vV t ls sl k = vU t k := fun k hk => by unfold vV; exact gT_n _ _ _ _ _ _ (by omega)
  have ku : ∀ k, ¬ k = 5 → vU t k = t k := fun k h1 => by unfold vU up; rw [if_neg h1]
  have v1 : vV t ls sl 1 = t 1 := vk 1 (by omega)
  have vy : ∀ l, 0 ≤ l → l < t 1 → vV t ls sl (20 + l) = be (nC (vU t) ls sl l) := fun l l0 l1 => by unfold vV; exact gT_y 20 _ _ _ _ l l0 (by omega)
  have vn : ∀ l, t 1 ≤ l → l < 4 → vV t ls sl (20 + l) = 0 := fun l l0 l1 => by
    unfold vV
    rw [gT_n 20 _ _ _ _ _ (by omega), ku _ (by omega)]
    exact (hz l (by omega) l0 l1).2
  refine ⟨?_, ?_, ?_, ?_, ?_, ?_, ?_, ?_, fun l l0 l3 => ?_, ?_, ?_, fun l l0 l3 => ?_, fun l p0 l0 l3 => ?_⟩
  · show S 2 = _; rw [vk 0 (by omega)]; exact h2
  · show S 3 = _; rw [v1]; exact h3
  · show S 4 = _; rw [vk 2 (by omega)]; exact h4
  · show S 7 = _; rw [vk 3 (by omega)]; exact h7
  · show S 9 = _; rw [vk 4 (by omega)]; exact h9
  · show S 8 + 1 = _; rw [vk 5 (by omega), h8]; rfl
  · show S 10 = _; rw [vk 6 (by omega)]; exact h10
  · show S 11 = _; rw [vk 7 (by omega)]; exact h11
  · rw [vk _ (by omega), vk _ (by omega), ku _ (by omega), ku _ (by omega)]; exact hs l l0 l3
  · show S 5 = _
    rw [h5]
    refine b4_cg (fun l l0 l3 => ?_)
    rw [vk _ (by omega), ku _ (by omega)]
  · show b4 (cE S em ls sl) = _
    rw [eC]
    refine b4_cg (fun l l0 l3 => ?_)
    unfold msk
    by_cases e : l < t 1
    · rw [vy l l0 e, be_1, decide_eq_true e, Bool.true_and]
    · rw [vn l (by omega) l3, decide_eq_false e, Bool.false_and]; rfl
  · rw [vk (16 + l) (by omega), ku (16 + l) (by omega)]
    refine ⟨(hb l l0 l3).1, ?_⟩
    by_cases e : l < t 1
    · rw [vy l l0 e]; exact be_01 _
    · exact Or.inl (vn l (by omega) l3)
  · rw [v1] at l0
    rw [vk (16 + l) (by omega), ku (16 + l) (by omega)]
    exact ⟨(hz l p0 l0 l3).1, vn l l0 l3⟩
