/-- a TRY of evenness on both sides -/
theorem br_evn {S sw em t : Int → Int} (h : Rt S sw em t) (hm : mo t) (hp : t 0 = 2) (h5 : t 5 ≤ 5) (ls sl : Int → Int) (wr : Int) :
    eO S sw em ls sl = vO t ls sl ∧ Rt (if 1 ≤ eO S sw em ls sl ∧ eO S sw em ls sl ≤ 6 then dS (eS S sw em ls sl) wr else eS S sw em ls sl) (if 1 ≤ eO S sw em ls sl ∧ eO S sw em ls sl ≤ 6 then z0 else eW S sw em ls sl) (if 1 ≤ eO S sw em ls sl ∧ eO S sw em ls sl ≤ 6 then z0 else eM S sw em ls sl) (vT t ls sl wr) := by
  obtain ⟨eO', eC⟩ := br_eO h hm h5 ls sl
  have K := br_v0 h hm ls sl eC
  refine ⟨eO', ?_⟩
  obtain ⟨n1, q0, q3, hl, f0, f1, g0, g1, x0, x1, y0, y1, w0, w1⟩ := hm
  have vk : ∀ k, k < 20 → vV t ls sl k = vU t k := fun k hk => by unfold vV; exact gT_n _ _ _ _ _ _ (by omega)
  have ku : ∀ k, ¬ k = 5 → vU t k = t k := fun k h1 => by unfold vU up; rw [if_neg h1]
  have v0 : vV t ls sl 0 = t 0 := vk 0 (by omega)
  have v1 : vV t ls sl 1 = t 1 := vk 1 (by omega)
  have v2 : vV t ls sl 2 = t 2 := vk 2 (by omega)
  have v3 : vV t ls sl 3 = t 3 := vk 3 (by omega)
  have v4 : vV t ls sl 4 = t 4 := vk 4 (by omega)
  have v5 : vV t ls sl 5 = t 5 + 1 := vk 5 (by omega)
  have v6 : vV t ls sl 6 = t 6 := vk 6 (by omega)
  have v7 : vV t ls sl 7 = t 7 := vk 7 (by omega)
  have mv : mo (vV t ls sl) := by
    refine ⟨by rw [v1]; exact n1, by rw [v2]; exact q0, by rw [v2]; exact q3, fun l l0 l3 => ?_, ?_⟩
    · rw [vk _ (by omega), vk _ (by omega), ku _ (by omega), ku _ (by omega)]; exact hl l l0 l3
    · rw [v3, v4, v5, v6, v7]; omega
  have O := br_on2 K mv ls
  have c3 : eS2 S em ls sl 3 = S 3 := rfl
  have c4 : eS2 S em ls sl 4 = S 4 := rfl
  rw [c3, c4, v1] at O
  have F := fun b => br_fall K mv (by rw [v0]; exact Or.inr hp) b wr
  obtain ⟨h2, h3, h4, h7, h9, h8, h10, h11, _⟩ := h
  have F4 := fun b => br_fall' (S := eS1 S) (t := vV t ls sl) (by rw [v0]; exact h2) (by rw [v1]; exact h3) (by rw [v2]; exact h4) (by rw [v6]; exact h10) (by rw [v7]; exact h11) mv (by rw [v0]; exact Or.inr hp) b wr
  have ko : vO t ls sl = 8 ∨ vO t ls sl = 0 ∨ vO t ls sl = 4 ∨ ((1 ≤ vO t ls sl ∧ vO t ls sl ≤ 6) ∧ ¬ vO t ls sl = 4) := by
    unfold vO
    (repeat' split) <;> omega
  rcases ko with e | e | e | ⟨e, e'⟩
  · have a1 : eS S sw em ls sl = up (eS2 S em ls sl) 2 3 := by unfold eS; rw [eO', if_neg (by omega), if_pos e]
    have a2 : eW S sw em ls sl = sw := by unfold eW; rw [eO', if_neg (by omega)]
    have a4 : eM S sw em ls sl = em := by unfold eM; rw [eO', if_neg (by omega)]
    have a3 : vT t ls sl wr = up (vV t ls sl) 0 3 := by unfold vT; rw [if_pos e]
    rw [eO', if_neg (by omega), if_neg (by omega), if_neg (by omega), a1, a2, a3, a4]
    exact K.ph 3
  · have a1 : eS S sw em ls sl = eS2 S em ls sl := by unfold eS; rw [eO', if_neg (by omega), if_neg (by omega)]
    have a2 : eW S sw em ls sl = ez (web (S 3) (S 4) em ls) sw (rai (web (S 3) (S 4) em ls) em) := by unfold eW; rw [eO', if_pos e]
    have a4 : eM S sw em ls sl = rai (web (S 3) (S 4) em ls) em := by unfold eM; rw [eO', if_pos e]
    have a3 : vT t ls sl wr = jT (wem (vV t ls sl) ls) 0 (vV t ls sl) (t 1).toNat := by unfold vT; rw [if_neg (by omega), if_pos e]
    rw [eO', if_neg (by omega), if_neg (by omega), if_neg (by omega), a1, a2, a3, a4]
    exact O
  · have a1 : eS S sw em ls sl = eS1 S := by unfold eS; rw [eO', if_pos e]
    have a3 : vT t ls sl wr = fa2 (fa1 (vV t ls sl) (vO t ls sl)) wr := by unfold vT; rw [if_neg (by omega), if_neg (by omega)]
    rw [eO', if_pos (by omega), if_pos (by omega), if_pos (by omega), a1, a3]
    exact F4 _
  · have a1 : eS S sw em ls sl = eS2 S em ls sl := by unfold eS; rw [eO', if_neg e', if_neg (by omega)]
    have a3 : vT t ls sl wr = fa2 (fa1 (vV t ls sl) (vO t ls sl)) wr := by unfold vT; rw [if_neg (by omega), if_neg (by omega)]
    rw [eO', if_pos e, if_pos e, if_pos e, a1, a3]
    exact F _
