theorem br_on2 {S sw em t : Int → Int} (h : Rt S sw em t) (hm : mo t) (ls : Int → Int) :
    Rt S (ez (web (S 3) (S 4) em ls) sw (rai (web (S 3) (S 4) em ls) em)) (rai (web (S 3) (S 4) em ls) em) (jT (wem t ls) 0 t (t 1).toNat) := by
  have br := fun l l0 l3 => br_we h ls l l0 l3
  obtain ⟨n1, q0, q3, hl, _⟩ := hm
  obtain ⟨h2, h3, h4, h7, h9, h8, h10, h11, hs, h5, h6, hb, hz⟩ := h
  have ho := fun j a b => jT_o (wem t ls) (t 1).toNat 0 t j a b
  have o1 : jT (wem t ls) 0 t (t 1).toNat 1 = t 1 := ho 1 (by omega) (by omega)
  refine ⟨?_, ?_, ?_, ?_, ?_, ?_, ?_, ?_, fun l l0 l3 => ⟨?_, ?_⟩, ?_, ?_, fun l l0 l3 => ?_, fun l p0 l0 l3 => ?_⟩
  · rw [ho 0 (by omega) (by omega)]; exact h2
  · rw [o1]; exact h3
  · rw [ho 2 (by omega) (by omega)]; exact h4
  · rw [ho 3 (by omega) (by omega)]; exact h7
  · rw [ho 4 (by omega) (by omega)]; exact h9
  · rw [ho 5 (by omega) (by omega)]; exact h8
  · rw [ho 6 (by omega) (by omega)]; exact h10
  · rw [ho 7 (by omega) (by omega)]; exact h11
  · unfold ez ezb rai
    rw [br l l0 l3, (hs l l0 l3).1, (hs l l0 l3).2]
    unfold msk
    by_cases e : l < t 1
    · rw [jT_s _ _ _ _ l (by omega) (by omega) l0 (by omega), decide_eq_true e, Bool.true_and]
      cases w : wem t ls l
      · rw [Bool.false_and, if_neg (by decide), if_neg (fun q => by cases q.1)]
      · rw [Bool.true_and]
        have b1 : be true = 1 := rfl
        rw [b1]
        by_cases q : 3 < t (8 + l) + (t (12 + l) + 1)
        · rw [if_pos (decide_eq_true q), if_pos ⟨rfl, q⟩]
        · rw [if_neg (fun x => q (of_decide_eq_true x)), if_neg (fun x => q x.2)]
    · rw [ho _ (by omega) (by omega), decide_eq_false e, Bool.false_and, Bool.false_and, if_neg (by decide)]
  · unfold rai
    rw [br l l0 l3, (hs l l0 l3).2]
    unfold msk
    by_cases e : l < t 1
    · rw [jT_e _ _ _ _ l (by omega) (by omega) l0 (by omega), decide_eq_true e, Bool.true_and]
    · rw [ho _ (by omega) (by omega), decide_eq_false e, Bool.false_and]
      show t (12 + l) + 0 = t (12 + l); omega
  · rw [h5]; exact b4_cg (fun l l0 l3 => by rw [ho _ (by omega) (by omega)])
  · rw [h6]; exact b4_cg (fun l l0 l3 => by rw [ho _ (by omega) (by omega)])
  · rw [ho _ (by omega) (by omega), ho _ (by omega) (by omega)]; exact hb l l0 l3
  · rw [o1] at l0
    rw [ho _ (by omega) (by omega), ho _ (by omega) (by omega)]; exact hz l p0 l0 l3
