/-! both objects as made stand side by side -/
theorem RR_0 {μ c r : MM} (hX : IX μ c) (hM : IM c r) (ht : Rst μ ∧ onT (μ 2) cod_l ∧ onT (μ 3) est_l ∧ (∀ j, 0 ≤ j → j < 100 → μ 4 j = 48 + j % 10 ∧ μ 5 j = 48 + j / 10)) : RR c r := by
  obtain ⟨x1, x2, x3, ⟨y1, y2, y3, y4, y5, y6, y7, y8, y9, y10, y11, y12, y13, y14, y15, y16, y17, y18, y19, y20, y21⟩, x5, x6⟩ := hX
  obtain ⟨w1, w2, w3, w4, ⟨z1, z2, z3, z4, z5, z6, z7, z8, z9, z10, z11, z12, z13, z14, z15, z16, z17⟩, w6⟩ := hM
  refine ⟨x2, w2, ?_, ?_, ?_, ?_, ?_, ?_, ?_, ?_, ?_, ?_, z17, ?_⟩
  · unfold Rtb Rst
    rw [x1 1 (by omega), x1 2 (by omega), x1 3 (by omega), x1 4 (by omega), x1 5 (by omega)]
    exact ⟨ht.1, ht.2.1, ht.2.2.1, ht.2.2.2, w3, w4⟩
  · refine ⟨by rw [y1, z1], by omega, by omega, fun i h0 h1 => ?_⟩
    omega
  · refine ⟨by rw [y2, z2], by omega, by omega, fun i h0 h1 => ?_, by rw [y3, z4], by rw [y4, z5]⟩
    omega
  · refine ⟨by rw [y5, z3], by omega, by omega, by omega, fun i h0 h1 => ?_, ⟨by rw [y6, z6], by omega, by omega, by rw [y7, z12], fun i h0 h1 => ?_⟩, ⟨by rw [y9, z7], by omega, by omega, fun i h0 h1 => ?_⟩, ⟨by rw [y12, z11], by omega, fun h => ?_⟩, by rw [y8, z10], by rw [y10, z9], by rw [y11, z8], by omega, by omega⟩
    · omega
    · omega
    · omega
    · omega
  · refine ⟨by rw [y14, z13], by omega, by omega, fun i _ _ => ?_, fun i h0 h1 => ?_⟩
    · rw [(x5 i).1, (w6 i).1]
    · omega
  · exact ⟨by rw [y15, z14], by omega⟩
  · refine ⟨by rw [y16, z15], by rw [y17, z16], by omega, by omega, by omega, fun l _ _ => ?_⟩
    rw [(x5 l).2.1, (x5 l).2.2.1, (w6 l).2.2.1, (w6 l).2.2.2]
    omega
  · refine ⟨funext fun j => ?_, funext fun j => ?_, fun j _ => ⟨(x5 j).2.1, (x5 j).2.2.1, (x5 j).2.2.2.1, (x5 j).2.2.2.2.1⟩⟩
    · rw [(x5 j).2.1, (w6 j).2.2.1]
    · rw [(x5 j).2.2.1, (w6 j).2.2.2]
  · have t0 : ∀ j, r 165 j = 0 := fun j => (w6 j).2.1
    refine ⟨⟨⟨?_, ?_, ?_, ?_, ?_, ?_, ?_, ?_, ?_, ?_, ?_, ?_, ?_⟩, ?_, ?_, ?_, ?_⟩, Or.inr ⟨x6 2 (by omega), x6 10 (by omega), x6 11 (by omega)⟩⟩
    · rw [x6 2 (by omega), t0]
    · rw [x6 3 (by omega), t0]
    · rw [x6 4 (by omega), t0]
    · rw [x6 7 (by omega), t0]
    · rw [x6 9 (by omega), t0]
    · rw [x6 8 (by omega), t0]
    · rw [x6 10 (by omega), t0]
    · rw [x6 11 (by omega), t0]
    · intro l _ _
      rw [(x5 l).2.2.2.2.2.1, (x5 l).2.2.2.2.2.2, t0, t0]
      exact ⟨rfl, rfl⟩
    · rw [x6 5 (by omega)]
      simp only [t0]
      decide
    · rw [x6 6 (by omega)]
      simp only [t0]
      decide
    · intro l _ _
      rw [t0, t0]
      exact ⟨Or.inl rfl, Or.inl rfl⟩
    · intro l _ _ _
      rw [t0, t0]
      exact ⟨rfl, rfl⟩
    · rw [y20, t0]
    · rw [y21, t0]
    · intro k h0 h1
      rw [t0] at h1; omega
    · intro k h0 h1
      rw [t0] at h1; omega
  · intro h
    exact absurd y5 h
  · refine ⟨⟨y18, by omega⟩, fun i h0 h1 => ⟨i, h0, h1, x3 i h0 h1⟩, fun i j h0 h1 h2 h3 e => ?_⟩
    rw [x3 i h0 h1, x3 j h2 h3] at e
    omega
