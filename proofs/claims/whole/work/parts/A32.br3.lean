theorem ftR {S t : Int → Int} (h0 : S 2 = t 0) (h1 : S 3 = t 1) (h2 : S 4 = t 2) (h6 : S 10 = t 6) (h7 : S 11 = t 7) (a3 : t 3 = 0) (a4 : t 4 = 0) (a5 : t 5 = 0) (hz : ∀ j, 8 ≤ j → j < 24 → t j = 0) : Rt (ft S) z0 z0 t := by
  refine ⟨h0, h1, h2, a3.symm, a4.symm, a5.symm, h6, h7, fun l l0 l3 => ⟨(hz _ (by omega) (by omega)).symm, (hz _ (by omega) (by omega)).symm⟩, ?_, ?_, fun l l0 l3 => ⟨Or.inl (hz _ (by omega) (by omega)), Or.inl (hz _ (by omega) (by omega))⟩, fun l p0 l0 l3 => ⟨hz _ (by omega) (by omega), hz _ (by omega) (by omega)⟩⟩
  · show (0 : Int) = _
    rw [b4_cg (g := fun _ => false) (fun l l0 l3 => by rw [hz (16 + l) (by omega) (by omega)]; rfl)]; rfl
  · show (0 : Int) = _
    rw [b4_cg (g := fun _ => false) (fun l l0 l3 => by rw [hz (20 + l) (by omega) (by omega)]; rfl)]; rfl
theorem fot_z (t : Int → Int) (j : Int) (h : 8 ≤ j) (h' : j < 24) : fot t j = 0 := by unfold fot; rw [if_neg (by omega), if_pos (by omega)]
/-- a FALL on both sides -/
theorem br_fall {S sw em t : Int → Int} (h : Rt S sw em t) (hm : mo t) (hp : t 0 = 1 ∨ t 0 = 2) (b wr : Int) : Rt (dS S wr) z0 z0 (fa2 (fa1 t b) wr) := by
  obtain ⟨n1, q0, q3, hl, f0, f1, g0, g1, x0, x1, y0, y1, w0, w1⟩ := hm
  obtain ⟨h2, h3, h4, h7, h9, h8, h10, h11, hs, h5, h6, hb, hz⟩ := h
  have fk := fun k hk => fa1_k t b k w0 hk
  have k0 := fk 0 (by omega)
  have k1 := fk 1 (by omega)
  have k2 := fk 2 (by omega)
  have k6 := fk 6 (by omega)
  have k7 := fk 7 (by omega)
  unfold dS fa2
  rw [h2, h3, h4, k0, k1, k2, k7]
  by_cases c : t 1 = 1 ∧ t 2 = 0
  · rw [if_pos (by omega), if_pos c]
    refine ftR rfl ?_ ?_ ?_ ?_ rfl rfl rfl (fun j j0 j1 => ?_)
    · show S 3 = fa1 t b 1; rw [k1]; exact h3
    · show S 4 = fa1 t b 2; rw [k2]; exact h4
    · show S 10 = fa1 t b 6; rw [k6]; exact h10
    · show S 11 + 1 = t 7 + 1; rw [h11]
    · unfold up; rw [if_neg (by omega)]; exact fot_z _ j j0 j1
  · rw [if_neg (by omega), if_neg c]
    by_cases p : t 0 = 1
    · rw [if_pos p, if_pos p]
      by_cases q : 0 < t 2
      · rw [if_pos q, if_pos q]
        refine ftR ?_ ?_ ?_ ?_ ?_ rfl rfl rfl (fun j j0 j1 => fot_z _ j j0 j1)
        · show S 2 = 1; rw [h2]; exact p
        · show S 3 = fa1 t b 1; rw [k1]; exact h3
        · rfl
        · show S 10 = fa1 t b 6; rw [k6]; exact h10
        · show S 11 + 1 = t 7 + 1; rw [h11]
      · rw [if_neg q, if_neg q]
        refine ftR ?_ ?_ ?_ ?_ ?_ rfl rfl rfl (fun j j0 j1 => fot_z _ j j0 j1)
        · show S 2 = 1; rw [h2]; exact p
        · rfl
        · rfl
        · show S 10 = fa1 t b 6; rw [k6]; exact h10
        · show S 11 + 1 = t 7 + 1; rw [h11]
    · rw [if_neg p, if_neg p]
      by_cases q : t 1 = 1
      · rw [if_neg (by omega), if_pos q]
        refine ftR rfl ?_ ?_ ?_ ?_ rfl rfl rfl (fun j j0 j1 => fot_z _ j j0 j1)
        · show S 3 = fa1 t b 1; rw [k1]; exact h3
        · rfl
        · show S 10 = fa1 t b 6; rw [k6]; exact h10
        · show S 11 + 1 = t 7 + 1; rw [h11]
      · rw [if_pos (by omega), if_neg q]
        refine ftR rfl ?_ ?_ ?_ ?_ rfl rfl rfl (fun j j0 j1 => fot_z _ j j0 j1)
        · rfl
        · show S 4 = fa1 t b 2; rw [k2]; exact h4
        · show S 10 = fa1 t b 6; rw [k6]; exact h10
        · show S 11 + 1 = t 7 + 1; rw [h11]
