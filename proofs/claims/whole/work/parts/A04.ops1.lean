/-! small calls -/
theorem s_isDepthX (d : Int) (μ : MM) (G : MG) : ev 123 0 [some (vI d)] [] μ G = some (some (vI (bi (d = 6 ∨ d = 8 ∨ d = 10 ∨ d = 12))), μ, G) := by
  simp only [xe_123_0, xe_123_1, xe_123_3, xe_123_6, xe_123_7, xe_123_9, xe_123_12, xe_123_13, xe_123_15, xe_123_18, xe_123_19, xe_123_21, xe_123_24, xe_123_25, xe_123_28, xe_123_29, ite_self, mm_nL_I, mm_nL_R, mm_nL_0, Option.bind_some, Option.bind_none, bnd_ite, Option.toList_some, Option.toList_none, List.cons_append, List.nil_append, mm_cats_nil, mm_cats_I, mm_cats_L, mm_cats_R, if_true, if_false, true_and, and_true, false_and, and_false, not_true_eq_false, not_false_eq_true, Int.reduceLE, Int.reduceLT, Int.reduceEq, Int.reduceNe, Int.reduceNeg, Int.reduceAdd, Int.reduceSub, Int.reduceMul, Nat.reduceAdd, Nat.reduceLeDiff, true_or, or_true, false_or, or_false, reduceIte, bi]
  repeat' split
  all_goals first | rfl | omega
theorem s_isLinkX (l q : Int) (μ : MM) (G : MG) : ev 122 0 [some (vI l), some (vI q)] [] μ G = some (some (vI (bi ((l = 1 ∨ l = 2 ∨ l = 4) ∧ 0 ≤ q ∧ q ≤ 3))), μ, G) := by
  simp only [xe_122_0, xe_122_1, xe_122_2, xe_122_5, xe_122_6, xe_122_7, xe_122_10, xe_122_11, xe_122_12, xe_122_15, xe_122_16, xe_122_19, xe_122_20, xe_122_21, xe_122_24, xe_122_25, xe_122_28, xe_122_29, ite_self, mm_nL_I, mm_nL_R, mm_nL_0, Option.bind_some, Option.bind_none, bnd_ite, Option.toList_some, Option.toList_none, List.cons_append, List.nil_append, mm_cats_nil, mm_cats_I, mm_cats_L, mm_cats_R, if_true, if_false, true_and, and_true, false_and, and_false, not_true_eq_false, not_false_eq_true, Int.reduceLE, Int.reduceLT, Int.reduceEq, Int.reduceNe, Int.reduceNeg, Int.reduceAdd, Int.reduceSub, Int.reduceMul, Nat.reduceAdd, Nat.reduceLeDiff, true_or, or_true, false_or, or_false, reduceIte, bi]
  repeat' split
  all_goals first | rfl | omega
theorem s_isLaneX (l : Int) (μ : MM) (G : MG) : ev 137 0 [some (vI l)] [] μ G = some (some (vI (bi (0 ≤ l ∧ l < 4))), μ, G) := by
  simp only [xe_137_0, xe_137_1, xe_137_4, xe_137_5, xe_137_6, xe_137_9, xe_137_10, xe_137_13, xe_137_14, ite_self, mm_nL_I, mm_nL_R, mm_nL_0, Option.bind_some, Option.bind_none, bnd_ite, Option.toList_some, Option.toList_none, List.cons_append, List.nil_append, mm_cats_nil, mm_cats_I, mm_cats_L, mm_cats_R, if_true, if_false, true_and, and_true, false_and, and_false, not_true_eq_false, not_false_eq_true, Int.reduceLE, Int.reduceLT, Int.reduceEq, Int.reduceNe, Int.reduceNeg, Int.reduceAdd, Int.reduceSub, Int.reduceMul, Nat.reduceAdd, Nat.reduceLeDiff, true_or, or_true, false_or, or_false, reduceIte, bi]
  repeat' split
  all_goals first | rfl | omega
theorem s_isFormulaX (l : Int) (μ : MM) (G : MG) : ev 114 0 [some (vI l)] [] μ G = some (some (vI (bi (l = 0 ∨ l = 1))), μ, G) := by
  simp only [xe_114_0, xe_114_1, xe_114_4, xe_114_5, xe_114_6, xe_114_9, xe_114_10, xe_114_13, xe_114_14, ite_self, mm_nL_I, mm_nL_R, mm_nL_0, Option.bind_some, Option.bind_none, bnd_ite, Option.toList_some, Option.toList_none, List.cons_append, List.nil_append, mm_cats_nil, mm_cats_I, mm_cats_L, mm_cats_R, if_true, if_false, true_and, and_true, false_and, and_false, not_true_eq_false, not_false_eq_true, Int.reduceLE, Int.reduceLT, Int.reduceEq, Int.reduceNe, Int.reduceNeg, Int.reduceAdd, Int.reduceSub, Int.reduceMul, Nat.reduceAdd, Nat.reduceLeDiff, true_or, or_true, false_or, or_false, reduceIte, bi]
  repeat' split
  all_goals first | rfl | omega
theorem s_isSizeX (h v : Int) (μ : MM) (G : MG) : ev 115 0 [some (vI h), some (vI v)] [] μ G = some (some (vI (bi (64 ≤ h ∧ h ≤ 4095 ∧ 48 ≤ v ∧ v ≤ 4095))), μ, G) := by
  simp only [xe_115_0, xe_115_1, xe_115_3, xe_115_6, xe_115_7, xe_115_10, xe_115_13, xe_115_14, xe_115_16, xe_115_19, xe_115_20, xe_115_23, xe_115_26, xe_115_27, xe_115_30, xe_115_31, ite_self, mm_nL_I, mm_nL_R, mm_nL_0, Option.bind_some, Option.bind_none, bnd_ite, Option.toList_some, Option.toList_none, List.cons_append, List.nil_append, mm_cats_nil, mm_cats_I, mm_cats_L, mm_cats_R, if_true, if_false, true_and, and_true, false_and, and_false, not_true_eq_false, not_false_eq_true, Int.reduceLE, Int.reduceLT, Int.reduceEq, Int.reduceNe, Int.reduceNeg, Int.reduceAdd, Int.reduceSub, Int.reduceMul, Nat.reduceAdd, Nat.reduceLeDiff, true_or, or_true, false_or, or_false, reduceIte, bi]
  repeat' split
  all_goals first | rfl | omega
theorem s_isHertzX (h : Int) (μ : MM) (G : MG) : ev 116 0 [some (vI h)] [] μ G = some (some (vI (bi (20 ≤ h ∧ h ≤ 240))), μ, G) := by
  simp only [xe_116_0, xe_116_1, xe_116_3, xe_116_6, xe_116_7, xe_116_10, xe_116_13, xe_116_14, xe_116_17, xe_116_18, ite_self, mm_nL_I, mm_nL_R, mm_nL_0, Option.bind_some, Option.bind_none, bnd_ite, Option.toList_some, Option.toList_none, List.cons_append, List.nil_append, mm_cats_nil, mm_cats_I, mm_cats_L, mm_cats_R, if_true, if_false, true_and, and_true, false_and, and_false, not_true_eq_false, not_false_eq_true, Int.reduceLE, Int.reduceLT, Int.reduceEq, Int.reduceNe, Int.reduceNeg, Int.reduceAdd, Int.reduceSub, Int.reduceMul, Nat.reduceAdd, Nat.reduceLeDiff, true_or, or_true, false_or, or_false, reduceIte, bi]
  repeat' split
  all_goals first | rfl | omega
theorem s_isDepthM (d : Int) (μ : MM) (G : MG) (h1 : -2147483648 ≤ d) (h2 : d < 2147483648) : ev 200 0 [some (vI d)] [] μ G = some (some (vI (bi (d = 6 ∨ d = 8 ∨ d = 10 ∨ d = 12))), μ, G) := by
  simp only [xe_200_0, xe_200_1, xe_200_2, xe_200_5, xe_200_8, xe_200_11, xe_200_14, xe_200_15, xe_200_16, xe_200_17, xe_200_20, xe_200_21, xe_200_24, xe_200_25, ite_self, mm_nL_I, mm_nL_R, mm_nL_0, Option.bind_some, Option.bind_none, bnd_ite, Option.toList_some, Option.toList_none, List.cons_append, List.nil_append, mm_cats_nil, mm_cats_I, mm_cats_L, mm_cats_R, if_true, if_false, true_and, and_true, false_and, and_false, not_true_eq_false, not_false_eq_true, Int.reduceLE, Int.reduceLT, Int.reduceEq, Int.reduceNe, Int.reduceNeg, Int.reduceAdd, Int.reduceSub, Int.reduceMul, Nat.reduceAdd, Nat.reduceLeDiff, true_or, or_true, false_or, or_false, reduceIte, s_isIn, bi_0]
  by_cases h : 6 ≤ d ∧ d ≤ 12
  · rw [nu_rem (by omega) h2 (by omega) (by omega)]
    unfold bi
    repeat' split
    all_goals first | rfl | omega
  · unfold bi
    repeat' split
    all_goals first | rfl | omega
theorem s_isLinkM (l q : Int) (μ : MM) (G : MG) : ev 201 0 [some (vI l), some (vI q)] [] μ G = some (some (vI (bi ((l = 1 ∨ l = 2 ∨ l = 4) ∧ 0 ≤ q ∧ q ≤ 3))), μ, G) := by
  simp only [xe_201_0, xe_201_1, xe_201_2, xe_201_5, xe_201_6, xe_201_7, xe_201_10, xe_201_11, xe_201_12, xe_201_15, xe_201_16, xe_201_17, xe_201_18, xe_201_21, xe_201_24, xe_201_27, xe_201_28, xe_201_31, xe_201_32, ite_self, mm_nL_I, mm_nL_R, mm_nL_0, Option.bind_some, Option.bind_none, bnd_ite, Option.toList_some, Option.toList_none, List.cons_append, List.nil_append, mm_cats_nil, mm_cats_I, mm_cats_L, mm_cats_R, if_true, if_false, true_and, and_true, false_and, and_false, not_true_eq_false, not_false_eq_true, Int.reduceLE, Int.reduceLT, Int.reduceEq, Int.reduceNe, Int.reduceNeg, Int.reduceAdd, Int.reduceSub, Int.reduceMul, Nat.reduceAdd, Nat.reduceLeDiff, true_or, or_true, false_or, or_false, reduceIte, s_isIn, bi_0, bi]
  repeat' split
  all_goals first | rfl | omega
theorem s_isLaneM (l : Int) (μ : MM) (G : MG) : ev 211 0 [some (vI l)] [] μ G = some (some (vI (bi (0 ≤ l ∧ l < 4))), μ, G) := by
  simp only [xe_211_0, xe_211_1, xe_211_2, xe_211_3, xe_211_6, xe_211_9, ite_self, mm_nL_I, mm_nL_R, mm_nL_0, Option.bind_some, Option.bind_none, bnd_ite, Option.toList_some, Option.toList_none, List.cons_append, List.nil_append, mm_cats_nil, mm_cats_I, mm_cats_L, mm_cats_R, if_true, if_false, true_and, and_true, false_and, and_false, not_true_eq_false, not_false_eq_true, Int.reduceLE, Int.reduceLT, Int.reduceEq, Int.reduceNe, Int.reduceNeg, Int.reduceAdd, Int.reduceSub, Int.reduceMul, Nat.reduceAdd, Nat.reduceLeDiff, true_or, or_true, false_or, or_false, reduceIte, s_isIn, bi_0, bi]
  repeat' split
  all_goals first | rfl | omega
/-- ROOM -/
def rat (q : Int) : Int := if q = 0 then 162000 else if q = 1 then 270000 else if q = 2 then 540000 else 810000
def rom (l q : Int) : Int := 8 * l * rat q
theorem rat_ok (q : Int) : 162000 ≤ rat q ∧ rat q ≤ 810000 := by unfold rat; repeat' split <;> omega
theorem rom_ok {l : Int} (q : Int) (h : l = 1 ∨ l = 2 ∨ l = 4) : 0 < rom l q ∧ rom l q ≤ 25920000 := by
  have := rat_ok q
  unfold rom
  rcases h with rfl | rfl | rfl <;> omega
/-- the table of rates -/
def Rst (c : MM) : Prop := c 1 0 = 162000 ∧ c 1 1 = 270000 ∧ c 1 2 = 540000 ∧ c 1 3 = 810000
theorem s_roomOfX (L l q : Int) (c : MM) (hR : Rst c) (hl : l = 1 ∨ l = 2 ∨ l = 4) (h0 : 0 ≤ q) (h3 : q ≤ 3) : ev 124 0 [some (vI l), some (vI q)] [] c (g_1 L) = some (some (vI (rom l q)), c, g_1 L) := by
  obtain ⟨r0, r1, r2, r3⟩ := hR
  have hq : q = 0 ∨ q = 1 ∨ q = 2 ∨ q = 3 := by omega
  rcases hl with rfl | rfl | rfl <;> rcases hq with rfl | rfl | rfl | rfl <;>
    simp [xe_124_0, xe_124_1, xe_124_4, xe_124_5, xe_124_8, xe_124_9, xe_124_12, xe_124_13, xe_124_16, xe_124_17, xe_124_18, xe_124_19, xe_124_21, xe_124_22, xe_124_25, xe_124_26, k_1, l_1, r0, r1, r2, r3, rom, rat, w32]
theorem s_roomOfM (l q : Int) (c : MM) (G : MG) (hl : l = 1 ∨ l = 2 ∨ l = 4) (h0 : 0 ≤ q) (h3 : q ≤ 3) : ev 202 0 [some (vI l), some (vI q), none] [] c G = some (some (vI (rom l q)), c, G) := by
  have hq : q = 0 ∨ q = 1 ∨ q = 2 ∨ q = 3 := by omega
  rcases hl with rfl | rfl | rfl <;> rcases hq with rfl | rfl | rfl | rfl <;>
    (simp only [xe_202_0, xe_202_1, xe_202_4, xe_202_7, xe_202_10, xe_202_11, xe_202_12, xe_202_15, xe_202_18, xe_202_21, xe_202_22, xe_202_23, xe_202_26, xe_202_29, xe_202_32, xe_202_35 _ (some (vI _)) _ _ _ _ _ rfl, xe_202_35 _ (some (vR _)) _ _ _ _ _ rfl, xe_202_35 _ none _ _ _ _ _ rfl, xe_202_36, xe_202_38, xe_202_39, xe_202_40, xe_202_41, xe_202_42, ite_self, mm_nL_I, mm_nL_R, mm_nL_0, Option.bind_some, Option.bind_none, bnd_ite, Option.toList_some, Option.toList_none, List.cons_append, List.nil_append, mm_cats_nil, mm_cats_I, mm_cats_L, mm_cats_R, if_true, if_false, true_and, and_true, false_and, and_false, not_true_eq_false, not_false_eq_true, Int.reduceLE, Int.reduceLT, Int.reduceEq, Int.reduceNe, Int.reduceNeg, Int.reduceAdd, Int.reduceSub, Int.reduceMul, Nat.reduceAdd, Nat.reduceLeDiff, true_or, or_true, false_or, or_false, reduceIte]; rfl)
