/-- a TRY of the clock on both sides -/
theorem br_clk {S sw em t : Int → Int} (h : Rt S sw em t) (hm : mo t) (hp : t 0 = 1) (h3 : t 3 ≤ 9) (h4 : t 4 ≤ 6) (ls sl : Int → Int) (wr : Int) :
    cO S sw ls sl = kO t ls sl ∧ Rt (if 1 ≤ cO S sw ls sl ∧ cO S sw ls sl ≤ 6 then dS (cS S sw ls sl) wr else cS S sw ls sl) (if 1 ≤ cO S sw ls sl ∧ cO S sw ls sl ≤ 6 then z0 else cW S sw ls sl) (if 1 ≤ cO S sw ls sl ∧ cO S sw ls sl ≤ 6 then z0 else em) (kT t ls sl wr) := by
  obtain ⟨eO, eC⟩ := br_cO h hm h3 h4 ls sl
  have K := br_k0 h hm ls sl eC
  refine ⟨eO, ?_⟩
  obtain ⟨n1, q0, q3, hl, f0, f1, g0, g1, x0, x1, y0, y1, w0, w1⟩ := hm
  have vk : ∀ k, k < 16 → kV t ls sl k = kU t k := fun k hk => by unfold kV; exact gT_n _ _ _ _ _ _ (by omega)
  have ku : ∀ k, ¬ k = 3 → ¬ k = 4 → kU t k = t k := fun k h1 h2 => by unfold kU up; rw [if_neg h2, if_neg h1]
  have v0 : kV t ls sl 0 = t 0 := vk 0 (by omega)
  have v1 : kV t ls sl 1 = t 1 := vk 1 (by omega)
  have v2 : kV t ls sl 2 = t 2 := vk 2 (by omega)
  have v3 : kV t ls sl 3 = t 3 + 1 := vk 3 (by omega)
  have v4 : kV t ls sl 4 = t 4 + 1 := vk 4 (by omega)
  have v5 : kV t ls sl 5 = t 5 := vk 5 (by omega)
  have v6 : kV t ls sl 6 = t 6 := vk 6 (by omega)
  have v7 : kV t ls sl 7 = t 7 := vk 7 (by omega)
  have mv : mo (kV t ls sl) := by
    refine ⟨by rw [v1]; exact n1, by rw [v2]; exact q0, by rw [v2]; exact q3, fun l l0 l3 => ?_, ?_⟩
    · rw [vk _ (by omega), vk _ (by omega), ku _ (by omega) (by omega), ku _ (by omega) (by omega)]; exact hl l l0 l3
    · rw [v3, v4, v5, v6, v7]; omega
  have O := br_on K mv ls
  have F := fun b => br_fall K mv (by rw [v0]; exact Or.inl hp) b wr
  have c3 : cS0 S sw ls sl 3 = S 3 := rfl
  have c4 : cS0 S sw ls sl 4 = S 4 := rfl
  rw [c3, c4, v1] at O
  have ko : kO t ls sl = 7 ∨ kO t ls sl = 0 ∨ (1 ≤ kO t ls sl ∧ kO t ls sl ≤ 6) := by
    unfold kO
    (repeat' split) <;> omega
  rcases ko with e | e | e
  · have e1 : cS S sw ls sl = up (cS0 S sw ls sl) 2 2 := by unfold cS; rw [eO, if_pos e]
    have e2 : cW S sw ls sl = sw := by unfold cW; rw [eO, if_neg (by omega)]
    have e3 : kT t ls sl wr = up (kV t ls sl) 0 2 := by unfold kT; rw [if_pos e]
    rw [eO, if_neg (by omega), if_neg (by omega), if_neg (by omega), e1, e2, e3]
    exact K.ph 2
  · have e3 : kT t ls sl wr = hT (wsm (kV t ls sl) ls) 0 (kV t ls sl) (t 1).toNat := by unfold kT; rw [if_neg (by omega), if_pos e]
    rw [eO, if_neg (by omega), if_neg (by omega), if_neg (by omega), e3]
    by_cases b : b4 (wsb (S 3) (S 4) sw ls) = 0
    · have e1 : cS S sw ls sl = cS0 S sw ls sl := by unfold cS; rw [eO, if_neg (by omega), if_neg (fun q => q.2 b)]
      have e2 : cW S sw ls sl = sw := by unfold cW; rw [eO, if_neg (fun q => q.2 b)]
      rw [if_neg (fun q => q b), if_neg (fun q => q b)] at O
      rw [e1, e2]; exact O
    · have e1 : cS S sw ls sl = up (cS0 S sw ls sl) 9 0 := by unfold cS; rw [eO, if_neg (by omega), if_pos ⟨e, b⟩]
      have e2 : cW S sw ls sl = rai (wsb (S 3) (S 4) sw ls) sw := by unfold cW; rw [eO, if_pos ⟨e, b⟩]
      rw [if_pos b, if_pos b] at O
      rw [e1, e2]; exact O
  · have e1 : cS S sw ls sl = cS0 S sw ls sl := by unfold cS; rw [eO, if_neg (by omega), if_neg (by omega)]
    have e3 : kT t ls sl wr = fa2 (fa1 (kV t ls sl) (kO t ls sl)) wr := by unfold kT; rw [if_neg (by omega), if_neg (by omega)]
    rw [eO, if_pos e, if_pos e, if_pos e, e1, e3]
    exact F _
