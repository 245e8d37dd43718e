/-! feed -/
/-- byte j of four of a number, the highest first -/
def by4 (x j : Int) : Int := if j = 0 then x / 16777216 % 256 else if j = 1 then x / 65536 % 256 else if j = 2 then x / 256 % 256 else x % 256
theorem by4_ok (x j : Int) : 0 ≤ by4 x j ∧ by4 x j < 256 := by unfold by4; repeat' split <;> omega
theorem by4_0 {x : Int} (h1 : -2147483648 ≤ x) (h2 : x < 2147483648) : mm_and (mm_shr x 24) 255 = by4 x 0 ∧ mm_and (mm_shr x 16) 255 = by4 x 1 ∧ mm_and (mm_shr x 8) 255 = by4 x 2 ∧ mm_and (mm_shr x 0) 255 = by4 x 3 := by
  have a := nu_shr h1 h2 24 (by omega)
  have b := nu_shr h1 h2 16 (by omega)
  have d := nu_shr h1 h2 8 (by omega)
  have e := nu_shr h1 h2 0 (by omega)
  have a' : mm_shr x 24 = x / 16777216 := a
  have b' : mm_shr x 16 = x / 65536 := b
  have d' : mm_shr x 8 = x / 256 := d
  have e' : mm_shr x 0 = x / 1 := e
  rw [nu_255, nu_255, nu_255, nu_255, a', b', d', e']
  refine ⟨rfl, rfl, rfl, ?_⟩
  show x / 1 % 256 = x % 256
  rw [Int.ediv_one]
/-- the tape behind four bytes more -/
def fd4 (c : MM) (n x : Int) : MM := fun a k => if a = 12 ∧ n ≤ k ∧ k < n + 4 then by4 x (k - n) else if a = 11 ∧ k = 1 then n + 4 else c a k
theorem s_addInt1 (L x s n : Int) (c : MM) (h0 : c 11 0 = 12) (h1 : c 11 1 = n) (hn : 0 ≤ n) (hn2 : n < 520) (hs : 0 ≤ s) : ev 2 3 [some (vR 11), some (vI x), some (vI s)] [] c (g_1 L) = ev 2 3 [some (vR 11), some (vI x), some (vI (w32 (s + -8)))] [] (mset (mset c 12 n (mm_and (mm_shr x s) 255)) 11 1 (n + 1)) (g_1 L) := by
  rw [xe_2_3]
  have w1 : w32 (n + 1) = n + 1 := wi32 (by omega) (by omega)
  have q0 : ¬ n < 0 := by omega
  have q1 : ¬ s < 0 := by omega
  have t0 : ¬ 520 ≤ n := by omega
  simp only [xe_2_4, xe_2_7, xe_2_8, xe_2_11, xe_2_14, xe_2_15, xe_2_18, xe_2_19, xe_2_22, xe_2_23, xe_2_26, xe_2_27, xe_2_30, xe_2_31, xe_2_34, xe_2_35, xe_2_36, xe_2_37, xe_2_40, xe_2_41, xe_2_42, xe_2_43, xe_2_44, xe_2_47, xe_2_48, xe_2_49, xe_2_52 _ (some (vI _)) _ _ _ _ rfl, xe_2_52 _ (some (vR _)) _ _ _ _ rfl, xe_2_52 _ none _ _ _ _ rfl, xe_2_55, xe_2_58, ite_self, mm_nL_I, mm_nL_R, mm_nL_0, Option.bind_some, Option.bind_none, bnd_ite, Option.toList_some, Option.toList_none, List.cons_append, List.nil_append, mm_cats_nil, mm_cats_I, mm_cats_L, mm_cats_R, if_true, if_false, true_and, and_true, false_and, and_false, not_true_eq_false, not_false_eq_true, Int.reduceLE, Int.reduceLT, Int.reduceEq, Int.reduceNe, Int.reduceNeg, Int.reduceAdd, Int.reduceSub, Int.reduceMul, Nat.reduceAdd, Nat.reduceLeDiff, true_or, or_true, false_or, or_false, reduceIte, k_11, k_12, l_12, h0, h1, ms_na _ _ _ _ _ _ (show ¬ (11 : Int) = 12 by omega), w1, q0, q1, t0, hn, hn2]
theorem s_addInt (L x : Int) (c : MM) (hX : SX c) (h1 : -2147483648 ≤ x) (h2 : x < 2147483648) (h0 : 0 ≤ c 11 1) (hn : c 11 1 + 4 ≤ 520) : ev 2 0 [some (vR 11), some (vI x), none] [] c (g_1 L) = some (none, fd4 c (c 11 1) x, g_1 L) := by
  obtain ⟨e0, e1, e2, e3⟩ := by4_0 h1 h2
  have hp : c 11 0 = 12 := sx_11_0 hX
  generalize hn' : c 11 1 = n at *
  rw [show ev 2 0 [some (vR 11), some (vI x), none] [] c (g_1 L) = ev 2 3 [some (vR 11), some (vI x), some (vI 24)] [] c (g_1 L) from by simp only [xe_2_0, xe_2_2 _ (some (vI _)) _ _ _ _ _ rfl, xe_2_2 _ (some (vR _)) _ _ _ _ _ rfl, xe_2_2 _ none _ _ _ _ _ rfl]]
  rw [s_addInt1 L x 24 n c hp hn' h0 (by omega) (by omega)]
  rw [s_addInt1 L x _ (n + 1) _ (by simp [mset, hp]) (by simp [mset]) (by omega) (by omega) (by decide)]
  rw [s_addInt1 L x _ (n + 1 + 1) _ (by simp [mset, hp]) (by simp [mset]) (by omega) (by omega) (by decide)]
  rw [s_addInt1 L x _ (n + 1 + 1 + 1) _ (by simp [mset, hp]) (by simp [mset]) (by omega) (by omega) (by decide)]
  have g1 : w32 (24 + -8) = 16 := by decide
  have g2 : w32 (16 + -8) = 8 := by decide
  have g3 : w32 (8 + -8) = 0 := by decide
  have g4 : w32 (0 + -8) = -8 := by decide
  rw [g1, g2, g3, g4, e0, e1, e2, e3]
  simp only [xe_2_3, xe_2_4, xe_2_58, ite_self, mm_nL_I, mm_nL_R, mm_nL_0, Option.bind_some, Option.bind_none, bnd_ite, Option.toList_some, Option.toList_none, List.cons_append, List.nil_append, mm_cats_nil, mm_cats_I, mm_cats_L, mm_cats_R, if_true, if_false, true_and, and_true, false_and, and_false, not_true_eq_false, not_false_eq_true, Int.reduceLE, Int.reduceLT, Int.reduceEq, Int.reduceNe, Int.reduceNeg, Int.reduceAdd, Int.reduceSub, Int.reduceMul, Nat.reduceAdd, Nat.reduceLeDiff, true_or, or_true, false_or, or_false, reduceIte]
  congr 3
  funext a k
  simp only [fd4, mset]
  by_cases ha : a = 12
  · subst ha
    by_cases hk : n ≤ k ∧ k < n + 4
    · have : k = n ∨ k = n + 1 ∨ k = n + 2 ∨ k = n + 3 := by omega
      rcases this with rfl | rfl | rfl | rfl
      · have a1 : ¬ k = k + 1 := by omega
        have a2 : ¬ k = k + 1 + 1 := by omega
        have a3 : ¬ k = k + 1 + 1 + 1 := by omega
        simp [by4, a1, a2, a3]
        intro h; omega
      · have a2 : ¬ n + 1 = n + 1 + 1 := by omega
        have a3 : ¬ n + 1 = n + 1 + 1 + 1 := by omega
        have a4 : n + 1 - n = 1 := by omega
        have a5 : n ≤ n + 1 := by omega
        simp [by4, a2, a3, a4, a5]
      · have a3 : ¬ n + 2 = n + 1 + 1 + 1 := by omega
        have a4 : n + 2 - n = 2 := by omega
        have a5 : n ≤ n + 2 := by omega
        have a6 : n + 2 = n + 1 + 1 := by omega
        simp [by4, a3, a4, a5, ← a6]
        intro h; omega
      · have a4 : n + 3 - n = 3 := by omega
        have a5 : n ≤ n + 3 := by omega
        have a6 : n + 3 = n + 1 + 1 + 1 := by omega
        simp [by4, a4, a5, ← a6]
    · have n0 : ¬ k = n := by omega
      have n1 : ¬ k = n + 1 := by omega
      have n2 : ¬ k = n + 1 + 1 := by omega
      have n3 : ¬ k = n + 1 + 1 + 1 := by omega
      simp [hk, n0, n1, n2, n3]
  · simp only [ha, false_and, if_false]
    split
    · omega
    · rename_i h; simp [h]
